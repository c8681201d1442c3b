theorem prod_lt {a b t : Nat} (h : a < (t + b - 1) / b) : a * b ≤ t := by
  have hb : 0 < b := by
    rcases Nat.eq_zero_or_pos b with g | g
    · rw [g, Nat.div_zero] at h; omega
    · exact g
  have := (Nat.le_div_iff_mul_le hb).mp (show a + 1 ≤ (t + b - 1) / b from h)
  rw [Nat.succ_mul] at this
  omega
theorem prod_ge {a b t : Nat} (hb : 0 < b) (h : (t + b - 1) / b ≤ a) : t ≤ a * b := by
  have := (Nat.div_lt_iff_lt_mul hb).mp (show (t + b - 1) / b < a + 1 by omega)
  rw [Nat.succ_mul] at this
  omega
theorem exp62 {b q k : Nat} (h0 : 2 ≤ b) (hq : q ≤ 4611686018427387904) (h : b ^ k < q) : k < 62 := by
  refine Nat.lt_of_not_le fun g => ?_
  have h1 := pow62 h0
  have h2 := Nat.pow_le_pow_right (show 0 < b by omega) g
  omega
theorem sh1 {k : Nat} (hk : k < 32) : lN 1 <<< ((nI k).toInt64 &&& 63) = lN (2 ^ k) := by
  have h : ∀ j : Fin 32, lN 1 <<< ((nI j.val).toInt64 &&& 63) = lN (2 ^ j.val) := by decide +kernel
  exact h ⟨k, hk⟩
theorem plan_0 {b q n : Nat} {Z S : Nat → Nat} (h : isPlan b q n Z S) : S 0 = 1 := by
  obtain ⟨-, -, z, h0, -⟩ := h
  exact h0
theorem gre_lt {q n b z y : Nat} (hq : q ≤ 4611686018427387904) (hs : isSum q n z) (hz : z ≤ n * b) (h : gre y n b < q) (hy : y = 2 * n ∨ y < z) : y < z := by
  rcases hy with e | e
  · refine Nat.lt_of_not_le fun g => ?_
    have h1 := hs.1
    have h2 : y = z := by omega
    rw [h2, gre, if_pos ⟨h1, hz⟩] at h
    exact absurd ((sat_lt_iff hq).mp h) (Nat.not_lt.mpr hs.2.1)
  · exact e
theorem sDigit_in {pt pn a k : Nat} {Z S : Nat → Nat} (ha : a < pt) (hp : pt ≤ 4611686018427387904) (hk : k < pn) (hn : pn ≤ 62) : sDigit pt pn Z S (lN a) (nI k) = nI (a / S k % Z k) := by
  have e1 : (lN a).toInt = (a : Int) := pk_lT (by omega)
  have e2 : (nI k).toInt = (k : Int) := nI_toInt (by omega)
  rw [sDigit, if_pos ⟨⟨by omega, Or.inr (by omega)⟩, ⟨by omega, Or.inr (by omega)⟩⟩, if_neg (by omega), e1, e2]
  rfl
set_option maxHeartbeats 4000000 in
set_option maxRecDepth 100000 in
/-- isCount -/
theorem c_X5_isCount (l : Launch) (D : va_G) (x : Int64) : RO_i l yX5_isCount wsX5_isCount ({ frames := 0, cells := 0, slots := 0, locals := 0 } : Room) D [] [] [.long x] (fun v => v = bI (rnd x)) := by
  refine RO_i.ofz (cc := cX5_isCount) (maxL := 2) (by decide) rfl (Nat.le_of_ble_eq_true rfl) ?_
  intro p e s m args below meth c ls A Q hx hb hml hts hown hA hP hK hl hret
  have hown : s.vm.findClass RX5 = some m.cls := hown
  have hl : lv_has ls 2 [(0, .long x)] := hl
  have hS : va_S A s.heap s.heap [] := va_S.rf
  refine lv_lload_n hx hb dX5_isCount_0 rfl (lv_at hl 0 rfl) ?_
  refine lv_lconst (v := lN 1) hx hb dX5_isCount_1 (by decide) ?_
  refine zr_lt (tgt := 18) hx hb dX5_isCount_2 dX5_isCount_3 (by decide) (fun c2 => ?_) (fun c2 => ?_)
  · rw [l1T] at c2
    refine lv_iconst (v := nI 0) hx hb dX5_isCount_18 (by decide) ?_
    exact hret _ _ _ _ _ hS (Or.inl rfl) (bI_f' (by omega)) dX5_isCount_19
  · rw [l1T] at c2
    refine lv_lload_n hx hb dX5_isCount_6 rfl (lv_at hl 0 rfl) ?_
    refine lv_ldc2 (v := 4611686018427387904) hx hb hown (hts (.constantLong RX5 34 (4611686018427387904)) (by decide +kernel)) dX5_isCount_7 ?_
    refine W.eq (g2 := F0 m 10 ls [.long (lN 4611686018427387904), .long x]) rfl ?_
    refine zr_gt (tgt := 18) hx hb dX5_isCount_10 dX5_isCount_11 (by decide) (fun c10 => ?_) (fun c10 => ?_)
    · rw [lTT] at c10
      refine lv_iconst (v := nI 0) hx hb dX5_isCount_18 (by decide) ?_
      exact hret _ _ _ _ _ hS (Or.inl rfl) (bI_f' (by omega)) dX5_isCount_19
    · rw [lTT] at c10
      refine lv_iconst (v := nI 1) hx hb dX5_isCount_14 (by decide) ?_
      refine lv_goto (tgt := 19) hx hb dX5_isCount_15 (by decide) ?_
      exact hret _ _ _ _ _ hS (Or.inr rfl) (bI_t' (by omega)) dX5_isCount_19
set_option maxHeartbeats 4000000 in
set_option maxRecDepth 100000 in
/-- product -/
theorem c_X5_product (l : Launch) (D : va_G) (a b : Nat) (ha : a ≤ 4611686018427387904) (hb1 : b ≤ 4611686018427387904) : RO_l l yX5_product wsX5_product ({ frames := 0, cells := 0, slots := 0, locals := 0 } : Room) D [] [] [.long (lN a), .long (lN b)] (fun v => v = lN (sat (a * b))) := by
  refine RO_l.of (cc := cX5_product) (maxL := 4) (by decide) rfl (Nat.le_of_ble_eq_true rfl) ?_
  intro p e s m args below meth c ls A Q hx hb hml hts hown hA hP hK hl hret
  have hown : s.vm.findClass RX5 = some m.cls := hown
  have hl : lv_has ls 4 [(0, .long (lN a)), (2, .long (lN b))] := hl
  have hS : va_S A s.heap s.heap [] := va_S.rf
  refine lv_lload_n hx hb dX5_product_0 rfl (lv_at hl 0 rfl) ?_
  refine lv_lconst (v := lN 0) hx hb dX5_product_1 (by decide) ?_
  refine zl_eq (tgt := 12) hx hb dX5_product_2 dX5_product_3 (by decide) (by omega) (by omega) (fun c2 => ?_) (fun c2 => ?_)
  · refine lv_lconst (v := lN 0) hx hb dX5_product_12 (by decide) ?_
    refine lv_goto (tgt := 39) hx hb dX5_product_13 (by decide) ?_
    exact hret _ _ _ _ _ hS (by rw [c2, Nat.zero_mul]; rfl) dX5_product_39
  · refine lv_lload_n hx hb dX5_product_6 rfl (lv_at hl 1 rfl) ?_
    refine lv_lconst (v := lN 0) hx hb dX5_product_7 (by decide) ?_
    refine zl_ne (tgt := 16) hx hb dX5_product_8 dX5_product_9 (by decide) (by omega) (by omega) (fun c8 => ?_) (fun c8 => ?_)
    · refine lv_lload_n hx hb dX5_product_16 rfl (lv_at hl 0 rfl) ?_
      refine lv_ldc2 (v := 4611686018427387904) hx hb hown (hts (.constantLong RX5 34 (4611686018427387904)) (by decide +kernel)) dX5_product_17 ?_
      refine W.eq (g2 := F0 m 20 ls [.long (lN 4611686018427387904), .long (lN a)]) rfl ?_
      refine lv_lload_n hx hb dX5_product_20 rfl (lv_at hl 1 rfl) ?_
      refine zl_add hx hb dX5_product_21  ?_
      refine lv_lconst (v := lN 1) hx hb dX5_product_22 (by decide) ?_
      refine zl_sub hx hb dX5_product_23 (by omega) ?_
      refine lv_lload_n hx hb dX5_product_24 rfl (lv_at hl 1 rfl) ?_
      refine zl_div hx hb dX5_product_25 (by omega) (by omega) (by omega) ?_
      refine zl_lt (tgt := 36) hx hb dX5_product_26 dX5_product_27 (by decide) (by omega) (Nat.lt_of_le_of_lt (Nat.div_le_self _ _) (by omega)) (fun c26 => ?_) (fun c26 => ?_)
      · refine lv_lload_n hx hb dX5_product_36 rfl (lv_at hl 0 rfl) ?_
        refine lv_lload_n hx hb dX5_product_37 rfl (lv_at hl 1 rfl) ?_
        refine zl_mul hx hb dX5_product_38  ?_
        exact hret _ _ _ _ _ hS (congrArg lN (sat_le (prod_lt c26)).symm) dX5_product_39
      · refine lv_ldc2 (v := 4611686018427387904) hx hb hown (hts (.constantLong RX5 34 (4611686018427387904)) (by decide +kernel)) dX5_product_30 ?_
        refine W.eq (g2 := F0 m 33 ls [.long (lN 4611686018427387904)]) rfl ?_
        refine lv_goto (tgt := 39) hx hb dX5_product_33 (by decide) ?_
        exact hret _ _ _ _ _ hS (congrArg lN (sat_ge (prod_ge (by omega) c26)).symm) dX5_product_39
    · refine lv_lconst (v := lN 0) hx hb dX5_product_12 (by decide) ?_
      refine lv_goto (tgt := 39) hx hb dX5_product_13 (by decide) ?_
      exact hret _ _ _ _ _ hS (by rw [c8, Nat.mul_zero]; rfl) dX5_product_39
set_option maxHeartbeats 4000000 in
set_option maxRecDepth 100000 in
/-- fewest -/
theorem c_X5_fewest (l : Launch) (D : va_G) (q b : Nat) (hq : q ≤ 4611686018427387904) (h0 : 2 ≤ b) (h1 : b ≤ 65536) : RO_i l yX5_fewest wsX5_fewest ({ frames := 1, cells := 0, slots := 0, locals := 23 } : Room) D [] [] [.long (lN q), .int (nI b)] (fun v => ∃ x, v = nI x ∧ x ≤ 62 ∧ isExp b q x) := by
  refine RO_i.of (cc := cX5_fewest) (maxL := 6) (by decide) rfl (Nat.le_of_ble_eq_true rfl) ?_
  intro p e s m args below meth c ls A Q hx hb hml hts hown hA hP hK hl hret
  have hown : s.vm.findClass RX5 = some m.cls := hown
  have hl : lv_has ls 6 [(0, .long (lN q)), (2, .int (nI b))] := hl
  have hS : va_S A s.heap s.heap [] := va_S.rf
  refine lv_iconst (v := nI 0) hx hb dX5_fewest_0 (by decide) ?_
  refine lv_istore_n (lv' := [(3, .int (nI 0)), (0, .long (lN q)), (2, .int (nI b))]) hx hb dX5_fewest_1 rfl hl (by decide) rfl (fun ls hl => ?_)
  refine lv_lconst (v := lN 1) hx hb dX5_fewest_2 (by decide) ?_
  refine lv_topl (fun v1_ e1_ => ?_)
  obtain rfl : v1_ = lN (sat (b ^ 0)) := e1_.trans (congrArg lN (by rw [Nat.pow_zero]; rfl))
  refine lv_lstore (lv' := [(4, .long (lN (sat (b ^ 0)))), (3, .int (nI 0)), (0, .long (lN q)), (2, .int (nI b))]) hx hb dX5_fewest_3 hl (by decide) rfl (fun ls hl => ?_)
  have L5 : ∀ (nf : Nat) (k : Nat), (k ≤ 62) → (∀ j, j < k → b ^ j < q) → 62 - k < nf → ∀ (H : Heap) (locs : List Loc) (ls : Array Slot), va_P D vwCl [] H → va_S A s.heap H locs → lv_has ls 6 [(3, .int (nI k)), (4, .long (lN (sat (b ^ k)))), (0, .long (lN q)), (2, .int (nI b))] → W p l e ({ frames := 1, cells := 0, slots := 0, locals := 23 } : Room) s m args below meth c H locs 0 0 Q (F0 m 5 ls []) := by
    intro nf
    induction nf with
    | zero => intro k i1 i2 hm; exact absurd hm (Nat.not_lt_zero _)
    | succ nf ih5 =>
      intro k i1 i2 hm5 H locs ls hP hS hl
      refine lv_lload hx hb dX5_fewest_5 (lv_at hl 1 rfl) ?_
      refine lv_lload_n hx hb dX5_fewest_7 rfl (lv_at hl 2 rfl) ?_
      refine zl_ge (tgt := 27) hx hb dX5_fewest_8 dX5_fewest_9 (by decide) (sat_lt _) (by omega) (fun c8 => ?_) (fun c8 => ?_)
      · refine lv_iload_n hx hb dX5_fewest_27 rfl (lv_at hl 0 rfl) ?_
        exact hret _ _ _ _ _ hS (⟨k, rfl, i1, (le_sat hq).mp c8, i2⟩) dX5_fewest_28
      · have hbk := (sat_lt_iff hq).mp c8
        have hk62 := exp62 h0 hq hbk
        refine lv_lload hx hb dX5_fewest_12 (lv_at hl 1 rfl) ?_
        refine lv_iload_n hx hb dX5_fewest_14 rfl (lv_at hl 3 rfl) ?_
        refine z_i2l hx hb dX5_fewest_15 (by omega) ?_
        refine RO_l.callS (rest := []) (c_X5_product l D (sat (b ^ k)) b (sat_top _) (by omega)) ⟨hx, hb, hml, hown, hts⟩ (va_cwS 2 hts gX5_fewest_X5_product rfl rfl rfl (by decide +kernel) ⟨Nat.le_of_ble_eq_true rfl, Nat.le_of_ble_eq_true rfl⟩) hK hP hS hA [] [] rfl rfl rfl hl.1 rfl (Nat.le_of_ble_eq_true rfl) dX5_fewest_16 ⟨Nat.zero_le _, Nat.zero_le _⟩ (fun v2_ H locs e2_ hP hS => ?_)
        obtain rfl : v2_ = lN (sat (sat (b ^ k) * b)) := e2_
        refine lv_topl (fun v3_ e3_ => ?_)
        obtain rfl : v3_ = lN (sat (b ^ (k + 1))) := e3_.trans (congrArg lN (by rw [sat_mul _ (by omega), Nat.pow_succ]))
        refine lv_lstore (lv' := [(4, .long (lN (sat (b ^ (k + 1))))), (3, .int (nI k)), (0, .long (lN q)), (2, .int (nI b))]) hx hb dX5_fewest_19 hl (by decide) rfl (fun ls hl => ?_)
        refine lv_iinc (v := nI (k + 1)) (lv' := [(3, .int (nI (k + 1))), (4, .long (lN (sat (b ^ (k + 1))))), (0, .long (lN q)), (2, .int (nI b))]) hx hb dX5_fewest_21 hl (k := 1) rfl (by rw [show Int32.ofInt 1 = nI 1 by decide, nI_add]) (by decide) rfl (fun ls hl => ?_)
        refine lv_goto (tgt := 5) hx hb dX5_fewest_24 (by decide) ?_
        exact ih5 (k + 1) (by omega) (fun j hj => if hk : j < k then i2 j hk else by rw [show j = k by omega]; exact hbk) (by omega) _ _ _ hP hS (lv_sub hl [0, 1, 2, 3] rfl)
  exact L5 _ 0 (by omega) (fun j hj => absurd hj (Nat.not_lt_zero _)) (Nat.lt_succ_self _) _ _ _ hP hS (lv_sub hl [1, 0, 2, 3] rfl)
set_option maxHeartbeats 4000000 in
set_option maxRecDepth 100000 in
/-- greatest -/
theorem c_X5_greatest (l : Launch) (D : va_G) (z n b : Nat) (hz : z ≤ 1000000000) (hn : n ≤ 62) (hb1 : b ≤ 65536) : RO_l l yX5_greatest wsX5_greatest ({ frames := 1, cells := 0, slots := 0, locals := 23 } : Room) D [] [] [.long (lN z), .int (nI n), .int (nI b)] (fun v => v = lN (gre z n b)) := by
  refine RO_l.of (cc := cX5_greatest) (maxL := 11) (by decide) rfl (Nat.le_of_ble_eq_true rfl) ?_
  intro p e s m args below meth c ls A Q hx hb hml hts hown hA hP hK hl hret
  have hown : s.vm.findClass RX5 = some m.cls := hown
  have hl : lv_has ls 11 [(0, .long (lN z)), (2, .int (nI n)), (3, .int (nI b))] := hl
  have hS : va_S A s.heap s.heap [] := va_S.rf
  have hnb : n * b ≤ 62 * 65536 := Nat.mul_le_mul hn hb1
  refine lv_lload_n hx hb dX5_greatest_0 rfl (lv_at hl 0 rfl) ?_
  refine lv_ldc2 (v := 2) hx hb hown (hts (.constantLong RX5 40 (2)) (by decide +kernel)) dX5_greatest_1 ?_
  refine W.eq (g2 := F0 m 4 ls [.long (lN 2), .long (lN z)]) rfl ?_
  refine lv_iload_n hx hb dX5_greatest_4 rfl (lv_at hl 1 rfl) ?_
  refine z_i2l hx hb dX5_greatest_5 (by omega) ?_
  refine zl_mul hx hb dX5_greatest_6  ?_
  refine zl_lt (tgt := 21) hx hb dX5_greatest_7 dX5_greatest_8 (by decide) (by omega) (by omega) (fun c7 => ?_) (fun c7 => ?_)
  · refine lv_lconst (v := lN 0) hx hb dX5_greatest_21 (by decide) ?_
    exact hret _ _ _ _ _ hS (by rw [gre, if_neg (by omega)]) dX5_greatest_22
  · refine lv_lload_n hx hb dX5_greatest_11 rfl (lv_at hl 0 rfl) ?_
    refine lv_iload_n hx hb dX5_greatest_12 rfl (lv_at hl 1 rfl) ?_
    refine z_i2l hx hb dX5_greatest_13 (by omega) ?_
    refine lv_iload_n hx hb dX5_greatest_14 rfl (lv_at hl 2 rfl) ?_
    refine z_i2l hx hb dX5_greatest_15 (by omega) ?_
    refine zl_mul hx hb dX5_greatest_16  ?_
    refine zl_le (tgt := 23) hx hb dX5_greatest_17 dX5_greatest_18 (by decide) (by omega) (by omega) (fun c17 => ?_) (fun c17 => ?_)
    · refine lv_lload_n hx hb dX5_greatest_23 rfl (lv_at hl 0 rfl) ?_
      refine lv_lstore (lv' := [(4, .long (lN z)), (0, .long (lN z)), (2, .int (nI n)), (3, .int (nI b))]) hx hb dX5_greatest_24 hl (by decide) rfl (fun ls hl => ?_)
      refine lv_lconst (v := lN 1) hx hb dX5_greatest_26 (by decide) ?_
      refine lv_topl (fun v1_ e1_ => ?_)
      obtain rfl : v1_ = lN (sat 1) := e1_.trans (congrArg lN ((sat_le (by decide)).symm))
      refine lv_lstore (lv' := [(6, .long (lN (sat 1))), (4, .long (lN z)), (0, .long (lN z)), (2, .int (nI n)), (3, .int (nI b))]) hx hb dX5_greatest_27 hl (by decide) rfl (fun ls hl => ?_)
      refine lv_iload_n hx hb dX5_greatest_29 rfl (lv_at hl 3 rfl) ?_
      refine lv_istore (lv' := [(8, .int (nI n)), (6, .long (lN (sat 1))), (4, .long (lN z)), (0, .long (lN z)), (2, .int (nI n)), (3, .int (nI b))]) hx hb dX5_greatest_30 hl (by decide) rfl (fun ls hl => ?_)
      have L32 : ∀ (nf : Nat) (k : Nat) (lf : Nat) (al : Nat), (k ≤ n) → (1 ≤ al ∧ al * wide lf k = wide z n) → (2 * k ≤ lf ∧ lf ≤ z) → k < nf → ∀ (H : Heap) (locs : List Loc) (ls : Array Slot), va_P D vwCl [] H → va_S A s.heap H locs → lv_has ls 11 [(4, .long (lN lf)), (6, .long (lN (sat al))), (8, .int (nI k)), (0, .long (lN z)), (2, .int (nI n)), (3, .int (nI b))] → W p l e ({ frames := 1, cells := 0, slots := 0, locals := 23 } : Room) s m args below meth c H locs 0 0 Q (F0 m 32 ls []) := by
        intro nf
        induction nf with
        | zero => intro k lf al i1 i2 i3 hm; exact absurd hm (Nat.not_lt_zero _)
        | succ nf ih32 =>
          intro k lf al i1 i2 i3 hm32 H locs ls hP hS hl
          refine lv_iload hx hb dX5_greatest_32 (lv_at hl 2 rfl) ?_
          refine zi_if_le (tgt := 67) hx hb dX5_greatest_34 (by decide) (by omega) (fun c34 => ?_) (fun c34 => ?_)
          · refine lv_lload hx hb dX5_greatest_67 (lv_at hl 1 rfl) ?_
            exact hret _ _ _ _ _ hS (by rw [gre, if_pos ⟨c7, c17⟩, ← i2.2, c34, wide_n0, Nat.mul_one]) dX5_greatest_69
          · have hmt := mean_take c34 i3.1
            refine lv_lload hx hb dX5_greatest_37 (lv_at hl 0 rfl) ?_
            refine lv_iload hx hb dX5_greatest_39 (lv_at hl 2 rfl) ?_
            refine z_i2l hx hb dX5_greatest_41 (by omega) ?_
            refine zl_div hx hb dX5_greatest_42 (by omega) (by omega) (by omega) ?_
            refine lv_lstore (lv' := [(9, .long (lN (lf / k))), (4, .long (lN lf)), (6, .long (lN (sat al))), (8, .int (nI k)), (0, .long (lN z)), (2, .int (nI n)), (3, .int (nI b))]) hx hb dX5_greatest_43 hl (by decide) rfl (fun ls hl => ?_)
            refine lv_lload hx hb dX5_greatest_45 (lv_at hl 2 rfl) ?_
            refine lv_lload hx hb dX5_greatest_47 (lv_at hl 0 rfl) ?_
            refine RO_l.callS (rest := []) (c_X5_product l D (sat al) (lf / k) (sat_top _) (by omega)) ⟨hx, hb, hml, hown, hts⟩ (va_cwS 2 hts gX5_greatest_X5_product rfl rfl rfl (by decide +kernel) ⟨Nat.le_of_ble_eq_true rfl, Nat.le_of_ble_eq_true rfl⟩) hK hP hS hA [] [] rfl rfl rfl hl.1 rfl (Nat.le_of_ble_eq_true rfl) dX5_greatest_49 ⟨Nat.zero_le _, Nat.zero_le _⟩ (fun v2_ H locs e2_ hP hS => ?_)
            obtain rfl : v2_ = lN (sat (sat al * (lf / k))) := e2_
            refine lv_topl (fun v3_ e3_ => ?_)
            obtain rfl : v3_ = lN (sat (al * (lf / k))) := e3_.trans (congrArg lN (sat_mul _ (by omega)))
            refine lv_lstore (lv' := [(6, .long (lN (sat (al * (lf / k))))), (9, .long (lN (lf / k))), (4, .long (lN lf)), (8, .int (nI k)), (0, .long (lN z)), (2, .int (nI n)), (3, .int (nI b))]) hx hb dX5_greatest_52 hl (by decide) rfl (fun ls hl => ?_)
            refine lv_lload hx hb dX5_greatest_54 (lv_at hl 2 rfl) ?_
            refine lv_lload hx hb dX5_greatest_56 (lv_at hl 1 rfl) ?_
            refine zl_sub hx hb dX5_greatest_58 (by omega) ?_
            refine lv_lstore (lv' := [(4, .long (lN (lf - (lf / k)))), (6, .long (lN (sat (al * (lf / k))))), (9, .long (lN (lf / k))), (8, .int (nI k)), (0, .long (lN z)), (2, .int (nI n)), (3, .int (nI b))]) hx hb dX5_greatest_59 hl (by decide) rfl (fun ls hl => ?_)
            refine lv_iinc (v := nI (k - 1)) (lv' := [(8, .int (nI (k - 1))), (4, .long (lN (lf - (lf / k)))), (6, .long (lN (sat (al * (lf / k))))), (9, .long (lN (lf / k))), (0, .long (lN z)), (2, .int (nI n)), (3, .int (nI b))]) hx hb dX5_greatest_61 hl (k := 3) rfl (by rw [show Int32.ofInt (-1) = -nI 1 by decide, ← Int32.sub_eq_add_neg, pk_sub (by omega)]) (by decide) rfl (fun ls hl => ?_)
            refine lv_goto (tgt := 32) hx hb dX5_greatest_64 (by decide) ?_
            exact ih32 (k - 1) (lf - (lf / k)) (al * (lf / k)) (by omega) (⟨Nat.mul_pos i2.1 (by omega), by rw [Nat.mul_assoc, ← wide_take c34]; exact i2.2⟩) (by omega) (by omega) _ _ _ hP hS (lv_sub hl [1, 2, 0, 4, 5, 6] rfl)
      exact L32 _ n z 1 (Nat.le_refl _) (⟨Nat.le_refl _, Nat.one_mul _⟩) (by omega) (Nat.lt_succ_self _) _ _ _ hP hS (lv_sub hl [2, 1, 0, 3, 4, 5] rfl)
    · refine lv_lconst (v := lN 0) hx hb dX5_greatest_21 (by decide) ?_
      exact hret _ _ _ _ _ hS (by rw [gre, if_neg (by omega)]) dX5_greatest_22
set_option maxHeartbeats 4000000 in
set_option maxRecDepth 100000 in
/-- choose -/
theorem c_X5_choose (l : Launch) (D : va_G) (cI cJ : ClassId) (xm mh mi mz mp mo th bn pl pq pm it : Nat) (HH IN ZZ PO SO : Nat → Nat) (hbn : 2 ≤ bn ∧ bn ≤ 65536) (hq : 1 ≤ pq ∧ pq ≤ 4611686018427387904) (hpm : pm ≤ 62) (he : isExp bn pq pm) : WR_v l yX5_choose wsX5_choose ({ frames := 2, cells := 0, slots := 0, locals := 53 } : Room) D [(xm, .inr (5, [.int (nI th), .int (nI bn), .ref mh, .ref mi, .int (nI pl), .long (lN pq), .int (nI pm), .ref mz, .int (nI it), .ref mp, .ref mo])), (mh, aI cI 65536 HH), (mi, aI cI 65536 IN), (mz, aI cI 62 ZZ), (mp, aJ cJ 4000 PO), (mo, aI cI 4000 SO)] [(cI, .int), (cJ, .long)] [.ref xm] (fun (u : Nat → Nat) => [(xm, .inr (5, [.int (nI th), .int (nI bn), .ref mh, .ref mi, .int (nI pl), .long (lN pq), .int (nI pm), .ref mz, .int (nI it), .ref mp, .ref mo])), (mh, aI cI 65536 HH), (mi, aI cI 65536 IN), (mz, aI cI 62 u), (mp, aJ cJ 4000 PO), (mo, aI cI 4000 SO)]) (fun u => ∃ S, isPlan bn pq pm u S) 0 0 := by
  refine WR_v.of (cc := cX5_choose) (maxL := 9) (by decide) rfl (Nat.le_of_ble_eq_true rfl) ?_
  intro p e s m args below meth c ls A Q hx hb hml hts hown hA hP hD hK hl hin hret
  have hown : s.vm.findClass RX5 = some m.cls := hown
  have hl : lv_has ls 9 [(0, .ref xm)] := hl
  have hS : va_S A s.heap s.heap [] := va_S.rf
  have hinX5 : ∀ w ∈ wsX50, w ∈ wsX5_choose := by decide +kernel
  obtain ⟨zs, hs, hzs⟩ := isSum_ex hbn.1 he
  have hnb : pm * bn ≤ 62 * 65536 := Nat.mul_le_mul hpm hbn.2
  have hs1 := hs.1
  refine lv_ldc2 (v := 2) hx hb hown (hts (.constantLong RX5 40 (2)) (by decide +kernel)) dX5_choose_0 ?_
  refine W.eq (g2 := F0 m 3 ls [.long (lN 2)]) rfl ?_
  refine lv_aload_n hx hb dX5_choose_3 rfl (lv_at hl 0 rfl) ?_
  refine va_get (D := D) (ci := 5) (v := .int (nI pm)) (C := RX5) (T := TX5) (N := 11) hx hb hts hinX5 hown hK hP 0 rfl rfl 6 (by decide) (hts (.fieldLink RX5 42 "PassSearchModel" "passes" "I") (by decide +kernel)) (fun _ h9 => h9) rfl dX5_choose_4 ?_
  refine z_i2l hx hb dX5_choose_7 (by omega) ?_
  refine zl_mul hx hb dX5_choose_8  ?_
  refine lv_lstore_n (lv' := [(1, .long (lN (2 * pm))), (0, .ref xm)]) hx hb dX5_choose_9 rfl hl (by decide) rfl (fun ls hl => ?_)
  refine lv_ldc2 (v := 1048576) hx hb hown (hts (.constantLong RX5 45 (1048576)) (by decide +kernel)) dX5_choose_10 ?_
  refine W.eq (g2 := F0 m 13 ls [.long (lN 1048576)]) rfl ?_
  refine lv_lstore_n (lv' := [(3, .long (lN 1048576)), (1, .long (lN (2 * pm))), (0, .ref xm)]) hx hb dX5_choose_13 rfl hl (by decide) rfl (fun ls hl => ?_)
  have L14 : ∀ (nf : Nat) (z : Nat) (t : Nat), (2 * pm ≤ z ∧ (z = 2 * pm ∨ z < zs) ∧ t ≤ 1048576) → (t = 0 → zs ≤ z + 1) → t < nf → ∀ (H : Heap) (locs : List Loc) (ls : Array Slot), va_P D vwCl [(xm, .inr (5, [.int (nI th), .int (nI bn), .ref mh, .ref mi, .int (nI pl), .long (lN pq), .int (nI pm), .ref mz, .int (nI it), .ref mp, .ref mo])), (mh, aI cI 65536 HH), (mi, aI cI 65536 IN), (mz, aI cI 62 ZZ), (mp, aJ cJ 4000 PO), (mo, aI cI 4000 SO)] H → va_D A [(xm, .inr (5, [.int (nI th), .int (nI bn), .ref mh, .ref mi, .int (nI pl), .long (lN pq), .int (nI pm), .ref mz, .int (nI it), .ref mp, .ref mo])), (mh, aI cI 65536 HH), (mi, aI cI 65536 IN), (mz, aI cI 62 ZZ), (mp, aJ cJ 4000 PO), (mo, aI cI 4000 SO)] → va_S A s.heap H locs → lv_has ls 9 [(1, .long (lN z)), (3, .long (lN t)), (0, .ref xm)] → W p l e ({ frames := 2, cells := 0, slots := 0, locals := 53 } : Room) s m args below meth c H locs 0 0 Q (F0 m 14 ls []) := by
    intro nf
    induction nf with
    | zero => intro z t i1 i2 hm; exact absurd hm (Nat.not_lt_zero _)
    | succ nf ih14 =>
      intro z t i1 i2 hm14 H locs ls hP hD hS hl
      refine lv_lload_n hx hb dX5_choose_14 rfl (lv_at hl 1 rfl) ?_
      refine lv_lconst (v := lN 0) hx hb dX5_choose_15 (by decide) ?_
      refine zl_le (tgt := 77) hx hb dX5_choose_16 dX5_choose_17 (by decide) (by omega) (by omega) (fun c16 => ?_) (fun c16 => ?_)
      · have L101 : ∀ (z3 : Nat), (z3 = zs) → ∀ (H : Heap) (locs : List Loc) (ls : Array Slot), va_P D vwCl [(xm, .inr (5, [.int (nI th), .int (nI bn), .ref mh, .ref mi, .int (nI pl), .long (lN pq), .int (nI pm), .ref mz, .int (nI it), .ref mp, .ref mo])), (mh, aI cI 65536 HH), (mi, aI cI 65536 IN), (mz, aI cI 62 ZZ), (mp, aJ cJ 4000 PO), (mo, aI cI 4000 SO)] H → va_D A [(xm, .inr (5, [.int (nI th), .int (nI bn), .ref mh, .ref mi, .int (nI pl), .long (lN pq), .int (nI pm), .ref mz, .int (nI it), .ref mp, .ref mo])), (mh, aI cI 65536 HH), (mi, aI cI 65536 IN), (mz, aI cI 62 ZZ), (mp, aJ cJ 4000 PO), (mo, aI cI 4000 SO)] → va_S A s.heap H locs → lv_has ls 9 [(1, .long (lN z3)), (0, .ref xm)] → W p l e ({ frames := 2, cells := 0, slots := 0, locals := 53 } : Room) s m args below meth c H locs 0 0 Q (F0 m 101 ls []) := by
          intro z3 k0 H locs ls hP hD hS hl
          refine lv_lconst (v := lN 1) hx hb dX5_choose_101 (by decide) ?_
          refine lv_topl (fun v1_ e1_ => ?_)
          obtain rfl : v1_ = lN (sat 1) := e1_.trans (congrArg lN ((sat_le (by decide)).symm))
          refine lv_lstore (lv' := [(5, .long (lN (sat 1))), (1, .long (lN z3)), (0, .ref xm)]) hx hb dX5_choose_102 hl (by decide) rfl (fun ls hl => ?_)
          refine lv_iconst (v := nI 0) hx hb dX5_choose_104 (by decide) ?_
          refine lv_istore (lv' := [(7, .int (nI 0)), (5, .long (lN (sat 1))), (1, .long (lN z3)), (0, .ref xm)]) hx hb dX5_choose_105 hl (by decide) rfl (fun ls hl => ?_)
          have L107 : ∀ (nf : Nat) (k : Nat) (z : Nat) (Zk : Nat → Nat) (Sk : Nat → Nat), (k ≤ pm) → (preP bn pq pm Zk Sk k z) → pm - k < nf → ∀ (H : Heap) (locs : List Loc) (ls : Array Slot), va_P D vwCl [(xm, .inr (5, [.int (nI th), .int (nI bn), .ref mh, .ref mi, .int (nI pl), .long (lN pq), .int (nI pm), .ref mz, .int (nI it), .ref mp, .ref mo])), (mh, aI cI 65536 HH), (mi, aI cI 65536 IN), (mz, aI cI 62 Zk), (mp, aJ cJ 4000 PO), (mo, aI cI 4000 SO)] H → va_D A [(xm, .inr (5, [.int (nI th), .int (nI bn), .ref mh, .ref mi, .int (nI pl), .long (lN pq), .int (nI pm), .ref mz, .int (nI it), .ref mp, .ref mo])), (mh, aI cI 65536 HH), (mi, aI cI 65536 IN), (mz, aI cI 62 Zk), (mp, aJ cJ 4000 PO), (mo, aI cI 4000 SO)] → va_S A s.heap H locs → lv_has ls 9 [(1, .long (lN z)), (5, .long (lN (sat (Sk k)))), (7, .int (nI k)), (0, .ref xm)] → W p l e ({ frames := 2, cells := 0, slots := 0, locals := 53 } : Room) s m args below meth c H locs 0 0 Q (F0 m 107 ls []) := by
            intro nf
            induction nf with
            | zero => intro k z Zk Sk i1 i2 hm; exact absurd hm (Nat.not_lt_zero _)
            | succ nf ih107 =>
              intro k z Zk Sk i1 i2 hm107 H locs ls hP hD hS hl
              refine lv_iload hx hb dX5_choose_107 (lv_at hl 2 rfl) ?_
              refine lv_aload_n hx hb dX5_choose_109 rfl (lv_at hl 3 rfl) ?_
              refine va_get (D := D) (ci := 5) (v := .int (nI pm)) (C := RX5) (T := TX5) (N := 11) hx hb hts hinX5 hown hK hP 0 rfl rfl 6 (by decide) (hts (.fieldLink RX5 42 "PassSearchModel" "passes" "I") (by decide +kernel)) (fun _ h9 => h9) rfl dX5_choose_110 ?_
              refine zi_ge (tgt := 196) hx hb dX5_choose_113 (by decide) (by omega) (by omega) (fun c113 => ?_) (fun c113 => ?_)
              · exact hret (Zk) _ _ _ _ hP hD hS (⟨Sk, hpm, he, z, by rw [show k = pm by omega] at i2; exact i2⟩) dX5_choose_196
              · have hfa := i2.2.2
                have hnk : (pm - k) * bn ≤ 62 * 65536 := Nat.mul_le_mul (by omega) hbn.2
                have hn1 : pm - k - 1 + 1 = pm - k := by omega
                obtain ⟨xs, hxs, hxl⟩ := isSize_ex (q := pq) (b := bn) (dn := Sk k) (z := z) (n := pm - k - 1) (by rw [hn1]; exact hfa.2.1) (by rw [hn1]; exact hfa.2.2.1) (by rw [hn1]; exact hfa.2.2.2.1)
                rw [hn1] at hxl
                have hxz := hxs.1.2.1
                refine lv_iconst (v := nI 2) hx hb dX5_choose_116 (by decide) ?_
                refine lv_istore (lv' := [(8, .int (nI 2)), (1, .long (lN z)), (5, .long (lN (sat (Sk k)))), (7, .int (nI k)), (0, .ref xm)]) hx hb dX5_choose_117 hl (by decide) rfl (fun ls hl => ?_)
                have L119 : ∀ (nf : Nat) (x : Nat), (2 ≤ x ∧ x ≤ xs) → (∀ y, y < x → ¬ okS pq bn (Sk k) z (pm - k - 1) y) → xs - x < nf → ∀ (H : Heap) (locs : List Loc) (ls : Array Slot), va_P D vwCl [(xm, .inr (5, [.int (nI th), .int (nI bn), .ref mh, .ref mi, .int (nI pl), .long (lN pq), .int (nI pm), .ref mz, .int (nI it), .ref mp, .ref mo])), (mh, aI cI 65536 HH), (mi, aI cI 65536 IN), (mz, aI cI 62 Zk), (mp, aJ cJ 4000 PO), (mo, aI cI 4000 SO)] H → va_D A [(xm, .inr (5, [.int (nI th), .int (nI bn), .ref mh, .ref mi, .int (nI pl), .long (lN pq), .int (nI pm), .ref mz, .int (nI it), .ref mp, .ref mo])), (mh, aI cI 65536 HH), (mi, aI cI 65536 IN), (mz, aI cI 62 Zk), (mp, aJ cJ 4000 PO), (mo, aI cI 4000 SO)] → va_S A s.heap H locs → lv_has ls 9 [(8, .int (nI x)), (7, .int (nI k)), (1, .long (lN z)), (5, .long (lN (sat (Sk k)))), (0, .ref xm)] → W p l e ({ frames := 2, cells := 0, slots := 0, locals := 53 } : Room) s m args below meth c H locs 0 0 Q (F0 m 119 ls []) := by
                  intro nf
                  induction nf with
                  | zero => intro x j1 j2 hm; exact absurd hm (Nat.not_lt_zero _)
                  | succ nf ih119 =>
                    intro x j1 j2 hm119 H locs ls hP hD hS hl
                    refine lv_lload hx hb dX5_choose_119 (lv_at hl 3 rfl) ?_
                    refine lv_iload hx hb dX5_choose_121 (lv_at hl 0 rfl) ?_
                    refine z_i2l hx hb dX5_choose_123 (by omega) ?_
                    refine RO_l.callS (rest := []) (c_X5_product l D (sat (Sk k)) x (sat_top _) (by omega)) ⟨hx, hb, hml, hown, hts⟩ (va_cwS 2 hts gX5_choose_X5_product rfl rfl rfl (by decide +kernel) ⟨Nat.le_of_ble_eq_true rfl, Nat.le_of_ble_eq_true rfl⟩) hK hP hS hA [] [] rfl rfl rfl hl.1 rfl (Nat.le_of_ble_eq_true rfl) dX5_choose_124 ⟨Nat.zero_le _, Nat.zero_le _⟩ (fun v2_ H locs e2_ hP hS => ?_)
                    obtain rfl : v2_ = lN (sat (sat (Sk k) * x)) := e2_
                    refine lv_lload_n hx hb dX5_choose_127 rfl (lv_at hl 2 rfl) ?_
                    refine lv_iload hx hb dX5_choose_128 (lv_at hl 0 rfl) ?_
                    refine z_i2l hx hb dX5_choose_130 (by omega) ?_
                    refine zl_sub hx hb dX5_choose_131 (by omega) ?_
                    refine lv_aload_n hx hb dX5_choose_132 rfl (lv_at hl 4 rfl) ?_
                    refine va_get (D := D) (ci := 5) (v := .int (nI pm)) (C := RX5) (T := TX5) (N := 11) hx hb hts hinX5 hown hK hP 0 rfl rfl 6 (by decide) (hts (.fieldLink RX5 42 "PassSearchModel" "passes" "I") (by decide +kernel)) (fun _ h9 => h9) rfl dX5_choose_133 ?_
                    refine lv_iload hx hb dX5_choose_136 (lv_at hl 1 rfl) ?_
                    refine zi_sub hx hb dX5_choose_138 (by omega) ?_
                    refine lv_iconst (v := nI 1) hx hb dX5_choose_139 (by decide) ?_
                    refine zi_sub hx hb dX5_choose_140 (by omega) ?_
                    refine lv_aload_n hx hb dX5_choose_141 rfl (lv_at hl 4 rfl) ?_
                    refine va_get (D := D) (ci := 5) (v := .int (nI bn)) (C := RX5) (T := TX5) (N := 11) hx hb hts hinX5 hown hK hP 0 rfl rfl 1 (by decide) (hts (.fieldLink RX5 27 "PassSearchModel" "bins" "I") (by decide +kernel)) (fun _ h9 => h9) rfl dX5_choose_142 ?_
                    refine RO_l.callS (rest := [.long (lN (sat (sat (Sk k) * x)))]) (c_X5_greatest l D (z - x) (pm - k - 1) bn (by omega) (by omega) hbn.2) ⟨hx, hb, hml, hown, hts⟩ (va_cwS 3 hts gX5_choose_X5_greatest rfl rfl rfl (by decide +kernel) ⟨Nat.le_of_ble_eq_true rfl, Nat.le_of_ble_eq_true rfl⟩) hK hP hS hA [] [] rfl rfl rfl hl.1 rfl (Nat.le_of_ble_eq_true rfl) dX5_choose_145 ⟨Nat.zero_le _, Nat.zero_le _⟩ (fun v3_ H locs e3_ hP hS => ?_)
                    obtain rfl : v3_ = lN (gre (z - x) (pm - k - 1) bn) := e3_
                    refine RO_l.callS (rest := []) (c_X5_product l D (sat (sat (Sk k) * x)) (gre (z - x) (pm - k - 1) bn) (sat_top _) (gre_top _ _ _)) ⟨hx, hb, hml, hown, hts⟩ (va_cwS 2 hts gX5_choose_X5_product rfl rfl rfl (by decide +kernel) ⟨Nat.le_of_ble_eq_true rfl, Nat.le_of_ble_eq_true rfl⟩) hK hP hS hA [] [] rfl rfl rfl hl.1 rfl (Nat.le_of_ble_eq_true rfl) dX5_choose_148 ⟨Nat.zero_le _, Nat.zero_le _⟩ (fun v4_ H locs e4_ hP hS => ?_)
                    obtain rfl : v4_ = lN (sat (sat (sat (Sk k) * x) * gre (z - x) (pm - k - 1) bn)) := e4_
                    refine lv_aload_n hx hb dX5_choose_151 rfl (lv_at hl 4 rfl) ?_
                    refine va_get (D := D) (ci := 5) (v := .long (lN pq)) (C := RX5) (T := TX5) (N := 11) hx hb hts hinX5 hown hK hP 0 rfl rfl 5 (by decide) (hts (.fieldLink RX5 51 "PassSearchModel" "points" "J") (by decide +kernel)) (fun _ h9 => h9) rfl dX5_choose_152 ?_
                    refine zl_ge (tgt := 165) hx hb dX5_choose_155 dX5_choose_156 (by decide) (sat_lt _) (by omega) (fun c155 => ?_) (fun c155 => ?_)
                    · have hok : okS pq bn (Sk k) z (pm - k - 1) x := (size_test hq.2 hq.1 (hfa.1 k (Nat.le_refl _)).1 (by omega) (by omega)).mp c155
                      have hsz : isSize pq bn (Sk k) z (pm - k - 1) x := ⟨hok, j2⟩
                      have hxm : x ≤ z / (pm - k) := by rw [isSize_one hsz hxs]; exact hxl
                      refine lv_aload_n hx hb dX5_choose_165 rfl (lv_at hl 4 rfl) ?_
                      refine va_get (D := D) (ci := 5) (v := .ref mz) (C := RX5) (T := TX5) (N := 11) hx hb hts hinX5 hown hK hP 0 rfl rfl 7 (by decide) (hts (.fieldLink RX5 17 "PassSearchModel" "sizes" "[I") (by decide +kernel)) (fun _ h9 => h9) rfl dX5_choose_166 ?_
                      refine lv_iload hx hb dX5_choose_169 (lv_at hl 1 rfl) ?_
                      refine lv_iload hx hb dX5_choose_171 (lv_at hl 0 rfl) ?_
                      refine zi_ast hx hb hK hP hD hS 3 0 rfl rfl (k := k) (x := x) (by omega) (by omega) dX5_choose_173 (fun H locs hP hD hS => ?_)
                      have hP : va_P D vwCl [(xm, .inr (5, [.int (nI th), .int (nI bn), .ref mh, .ref mi, .int (nI pl), .long (lN pq), .int (nI pm), .ref mz, .int (nI it), .ref mp, .ref mo])), (mh, aI cI 65536 HH), (mi, aI cI 65536 IN), (mz, aI cI 62 (uF Zk k x)), (mp, aJ cJ 4000 PO), (mo, aI cI 4000 SO)] H := hP
                      have hD : va_D A [(xm, .inr (5, [.int (nI th), .int (nI bn), .ref mh, .ref mi, .int (nI pl), .long (lN pq), .int (nI pm), .ref mz, .int (nI it), .ref mp, .ref mo])), (mh, aI cI 65536 HH), (mi, aI cI 65536 IN), (mz, aI cI 62 (uF Zk k x)), (mp, aJ cJ 4000 PO), (mo, aI cI 4000 SO)] := hD
                      refine lv_lload_n hx hb dX5_choose_174 rfl (lv_at hl 2 rfl) ?_
                      refine lv_iload hx hb dX5_choose_175 (lv_at hl 0 rfl) ?_
                      refine z_i2l hx hb dX5_choose_177 (by omega) ?_
                      refine zl_sub hx hb dX5_choose_178 (by omega) ?_
                      refine lv_lstore_n (lv' := [(1, .long (lN (z - x))), (8, .int (nI x)), (7, .int (nI k)), (5, .long (lN (sat (Sk k)))), (0, .ref xm)]) hx hb dX5_choose_179 rfl hl (by decide) rfl (fun ls hl => ?_)
                      refine lv_lload hx hb dX5_choose_180 (lv_at hl 3 rfl) ?_
                      refine lv_iload hx hb dX5_choose_182 (lv_at hl 1 rfl) ?_
                      refine z_i2l hx hb dX5_choose_184 (by omega) ?_
                      refine RO_l.callS (rest := []) (c_X5_product l D (sat (Sk k)) x (sat_top _) (by omega)) ⟨hx, hb, hml, hown, hts⟩ (va_cwS 2 hts gX5_choose_X5_product rfl rfl rfl (by decide +kernel) ⟨Nat.le_of_ble_eq_true rfl, Nat.le_of_ble_eq_true rfl⟩) hK hP hS hA [] [] rfl rfl rfl hl.1 rfl (Nat.le_of_ble_eq_true rfl) dX5_choose_185 ⟨Nat.zero_le _, Nat.zero_le _⟩ (fun v5_ H locs e5_ hP hS => ?_)
                      obtain rfl : v5_ = lN (sat (sat (Sk k) * x)) := e5_
                      refine lv_topl (fun v6_ e6_ => ?_)
                      obtain rfl : v6_ = lN (sat (uF Sk (k + 1) (Sk k * x) (k + 1))) := e6_.trans (congrArg lN (by rw [uF_s, sat_mul _ (by omega)]))
                      refine lv_lstore (lv' := [(5, .long (lN (sat (uF Sk (k + 1) (Sk k * x) (k + 1))))), (1, .long (lN (z - x))), (8, .int (nI x)), (7, .int (nI k)), (0, .ref xm)]) hx hb dX5_choose_188 hl (by decide) rfl (fun ls hl => ?_)
                      refine lv_iinc (v := nI (k + 1)) (lv' := [(7, .int (nI (k + 1))), (5, .long (lN (sat (uF Sk (k + 1) (Sk k * x) (k + 1))))), (1, .long (lN (z - x))), (8, .int (nI x)), (0, .ref xm)]) hx hb dX5_choose_190 hl (k := 3) rfl (by rw [show Int32.ofInt 1 = nI 1 by decide, nI_add]) (by decide) rfl (fun ls hl => ?_)
                      refine lv_goto (tgt := 107) hx hb dX5_choose_193 (by decide) ?_
                      exact ih107 (k + 1) (z - x) (uF Zk k x) (uF Sk (k + 1) (Sk k * x)) (by omega) (preP_step (by omega) i2 hsz hxm) (by omega) _ _ _ hP hD hS (lv_sub hl [2, 1, 0, 4] rfl)
                    · have hno : ¬ okS pq bn (Sk k) z (pm - k - 1) x := fun o => absurd ((size_test hq.2 hq.1 (hfa.1 k (Nat.le_refl _)).1 (by omega) (by omega)).mpr o) (by omega)
                      have hxx : x ≠ xs := fun g => hno (by rw [g]; exact hxs.1)
                      refine lv_iinc (v := nI (x + 1)) (lv' := [(8, .int (nI (x + 1))), (7, .int (nI k)), (1, .long (lN z)), (5, .long (lN (sat (Sk k)))), (0, .ref xm)]) hx hb dX5_choose_159 hl (k := 0) rfl (by rw [show Int32.ofInt 1 = nI 1 by decide, nI_add]) (by decide) rfl (fun ls hl => ?_)
                      refine lv_goto (tgt := 119) hx hb dX5_choose_162 (by decide) ?_
                      exact ih119 (x + 1) (by omega) (fun y hy ho => if g : y < x then j2 y g ho else hno (by rw [show x = y by omega]; exact ho)) (by omega) _ _ _ hP hD hS (lv_sub hl [0, 1, 2, 3, 4] rfl)
                exact L119 _ 2 (⟨Nat.le_refl _, hxs.1.1⟩) (fun y hy ho => absurd ho.1 (by omega)) (Nat.lt_succ_self _) _ _ _ hP hD hS (lv_sub hl [0, 3, 1, 2, 4] rfl)
          exact L107 _ 0 z3 ZZ (fun _ => 1) (by omega) (preP_0 hbn.1 hq.2 he (by rw [k0]; exact hs) (by omega) rfl) (Nat.lt_succ_self _) _ _ _ hP hD hS (lv_sub hl [2, 1, 0, 3] rfl)
        refine lv_lload_n hx hb dX5_choose_77 rfl (lv_at hl 0 rfl) ?_
        refine lv_aload_n hx hb dX5_choose_78 rfl (lv_at hl 2 rfl) ?_
        refine va_get (D := D) (ci := 5) (v := .int (nI pm)) (C := RX5) (T := TX5) (N := 11) hx hb hts hinX5 hown hK hP 0 rfl rfl 6 (by decide) (hts (.fieldLink RX5 42 "PassSearchModel" "passes" "I") (by decide +kernel)) (fun _ h9 => h9) rfl dX5_choose_79 ?_
        refine lv_aload_n hx hb dX5_choose_82 rfl (lv_at hl 2 rfl) ?_
        refine va_get (D := D) (ci := 5) (v := .int (nI bn)) (C := RX5) (T := TX5) (N := 11) hx hb hts hinX5 hown hK hP 0 rfl rfl 1 (by decide) (hts (.fieldLink RX5 27 "PassSearchModel" "bins" "I") (by decide +kernel)) (fun _ h9 => h9) rfl dX5_choose_83 ?_
        refine RO_l.callS (rest := []) (c_X5_greatest l D z pm bn (by omega) hpm hbn.2) ⟨hx, hb, hml, hown, hts⟩ (va_cwS 3 hts gX5_choose_X5_greatest rfl rfl rfl (by decide +kernel) ⟨Nat.le_of_ble_eq_true rfl, Nat.le_of_ble_eq_true rfl⟩) hK hP hS hA [] [] rfl rfl rfl hl.1 rfl (Nat.le_of_ble_eq_true rfl) dX5_choose_86 ⟨Nat.zero_le _, Nat.zero_le _⟩ (fun v7_ H locs e7_ hP hS => ?_)
        obtain rfl : v7_ = lN (gre z pm bn) := e7_
        refine lv_aload_n hx hb dX5_choose_89 rfl (lv_at hl 2 rfl) ?_
        refine va_get (D := D) (ci := 5) (v := .long (lN pq)) (C := RX5) (T := TX5) (N := 11) hx hb hts hinX5 hown hK hP 0 rfl rfl 5 (by decide) (hts (.fieldLink RX5 51 "PassSearchModel" "points" "J") (by decide +kernel)) (fun _ h9 => h9) rfl dX5_choose_90 ?_
        refine zl_ge (tgt := 101) hx hb dX5_choose_93 dX5_choose_94 (by decide) (Nat.lt_of_le_of_lt (gre_top _ _ _) (by decide)) (by omega) (fun c93 => ?_) (fun c93 => ?_)
        · exact L101 z (by have := gre_stop hs hzs i1.1 c93; omega) _ _ _ hP hD hS (lv_sub hl [0, 2] rfl)
        · refine lv_lload_n hx hb dX5_choose_97 rfl (lv_at hl 0 rfl) ?_
          refine lv_lconst (v := lN 1) hx hb dX5_choose_98 (by decide) ?_
          refine zl_add hx hb dX5_choose_99  ?_
          refine lv_lstore_n (lv' := [(1, .long (lN (z + 1))), (3, .long (lN t)), (0, .ref xm)]) hx hb dX5_choose_100 rfl hl (by decide) rfl (fun ls hl => ?_)
          exact L101 (z + 1) (by have := gre_lt hq.2 hs hzs c93 i1.2.1; omega) _ _ _ hP hD hS (lv_sub hl [0, 2] rfl)
      · have L20 : ∀ (nf : Nat) (z2 : Nat), (2 * pm ≤ z2 ∧ (z2 = 2 * pm ∨ z2 < zs)) → zs - z2 < nf → ∀ (H : Heap) (locs : List Loc) (ls : Array Slot), va_P D vwCl [(xm, .inr (5, [.int (nI th), .int (nI bn), .ref mh, .ref mi, .int (nI pl), .long (lN pq), .int (nI pm), .ref mz, .int (nI it), .ref mp, .ref mo])), (mh, aI cI 65536 HH), (mi, aI cI 65536 IN), (mz, aI cI 62 ZZ), (mp, aJ cJ 4000 PO), (mo, aI cI 4000 SO)] H → va_D A [(xm, .inr (5, [.int (nI th), .int (nI bn), .ref mh, .ref mi, .int (nI pl), .long (lN pq), .int (nI pm), .ref mz, .int (nI it), .ref mp, .ref mo])), (mh, aI cI 65536 HH), (mi, aI cI 65536 IN), (mz, aI cI 62 ZZ), (mp, aJ cJ 4000 PO), (mo, aI cI 4000 SO)] → va_S A s.heap H locs → lv_has ls 9 [(1, .long (lN z2)), (3, .long (lN t)), (0, .ref xm)] → W p l e ({ frames := 2, cells := 0, slots := 0, locals := 53 } : Room) s m args below meth c H locs 0 0 Q (F0 m 20 ls []) := by
          intro nf
          induction nf with
          | zero => intro z2 j1 hm; exact absurd hm (Nat.not_lt_zero _)
          | succ nf ih20 =>
            intro z2 j1 hm20 H locs ls hP hD hS hl
            refine lv_lload_n hx hb dX5_choose_20 rfl (lv_at hl 0 rfl) ?_
            refine lv_lload_n hx hb dX5_choose_21 rfl (lv_at hl 1 rfl) ?_
            refine zl_add hx hb dX5_choose_22  ?_
            refine lv_aload_n hx hb dX5_choose_23 rfl (lv_at hl 2 rfl) ?_
            refine va_get (D := D) (ci := 5) (v := .int (nI pm)) (C := RX5) (T := TX5) (N := 11) hx hb hts hinX5 hown hK hP 0 rfl rfl 6 (by decide) (hts (.fieldLink RX5 42 "PassSearchModel" "passes" "I") (by decide +kernel)) (fun _ h9 => h9) rfl dX5_choose_24 ?_
            refine lv_aload_n hx hb dX5_choose_27 rfl (lv_at hl 2 rfl) ?_
            refine va_get (D := D) (ci := 5) (v := .int (nI bn)) (C := RX5) (T := TX5) (N := 11) hx hb hts hinX5 hown hK hP 0 rfl rfl 1 (by decide) (hts (.fieldLink RX5 27 "PassSearchModel" "bins" "I") (by decide +kernel)) (fun _ h9 => h9) rfl dX5_choose_28 ?_
            refine RO_l.callS (rest := []) (c_X5_greatest l D (z2 + t) pm bn (by omega) hpm hbn.2) ⟨hx, hb, hml, hown, hts⟩ (va_cwS 3 hts gX5_choose_X5_greatest rfl rfl rfl (by decide +kernel) ⟨Nat.le_of_ble_eq_true rfl, Nat.le_of_ble_eq_true rfl⟩) hK hP hS hA [] [] rfl rfl rfl hl.1 rfl (Nat.le_of_ble_eq_true rfl) dX5_choose_31 ⟨Nat.zero_le _, Nat.zero_le _⟩ (fun v8_ H locs e8_ hP hS => ?_)
            obtain rfl : v8_ = lN (gre (z2 + t) pm bn) := e8_
            refine lv_lconst (v := lN 0) hx hb dX5_choose_34 (by decide) ?_
            refine zl_le (tgt := 68) hx hb dX5_choose_35 dX5_choose_36 (by decide) (Nat.lt_of_le_of_lt (gre_top _ _ _) (by decide)) (by omega) (fun c35 => ?_) (fun c35 => ?_)
            · refine lv_lload_n hx hb dX5_choose_68 rfl (lv_at hl 1 rfl) ?_
              refine lv_ldc2 (v := 2) hx hb hown (hts (.constantLong RX5 40 (2)) (by decide +kernel)) dX5_choose_69 ?_
              refine W.eq (g2 := F0 m 72 ls [.long (lN 2), .long (lN t)]) rfl ?_
              refine zl_div hx hb dX5_choose_72 (by omega) (by omega) (by omega) ?_
              refine lv_lstore_n (lv' := [(3, .long (lN (t / 2))), (1, .long (lN z2)), (0, .ref xm)]) hx hb dX5_choose_73 rfl hl (by decide) rfl (fun ls hl => ?_)
              refine lv_goto (tgt := 14) hx hb dX5_choose_74 (by decide) ?_
              exact ih14 z2 (t / 2) (by omega) (fun h => by have := gre_stop0 hzs (by omega) (Nat.le_zero.mp c35); omega) (by omega) _ _ _ hP hD hS (lv_sub hl [1, 0, 2] rfl)
            · refine lv_lload_n hx hb dX5_choose_39 rfl (lv_at hl 0 rfl) ?_
              refine lv_lload_n hx hb dX5_choose_40 rfl (lv_at hl 1 rfl) ?_
              refine zl_add hx hb dX5_choose_41  ?_
              refine lv_aload_n hx hb dX5_choose_42 rfl (lv_at hl 2 rfl) ?_
              refine va_get (D := D) (ci := 5) (v := .int (nI pm)) (C := RX5) (T := TX5) (N := 11) hx hb hts hinX5 hown hK hP 0 rfl rfl 6 (by decide) (hts (.fieldLink RX5 42 "PassSearchModel" "passes" "I") (by decide +kernel)) (fun _ h9 => h9) rfl dX5_choose_43 ?_
              refine lv_aload_n hx hb dX5_choose_46 rfl (lv_at hl 2 rfl) ?_
              refine va_get (D := D) (ci := 5) (v := .int (nI bn)) (C := RX5) (T := TX5) (N := 11) hx hb hts hinX5 hown hK hP 0 rfl rfl 1 (by decide) (hts (.fieldLink RX5 27 "PassSearchModel" "bins" "I") (by decide +kernel)) (fun _ h9 => h9) rfl dX5_choose_47 ?_
              refine RO_l.callS (rest := []) (c_X5_greatest l D (z2 + t) pm bn (by omega) hpm hbn.2) ⟨hx, hb, hml, hown, hts⟩ (va_cwS 3 hts gX5_choose_X5_greatest rfl rfl rfl (by decide +kernel) ⟨Nat.le_of_ble_eq_true rfl, Nat.le_of_ble_eq_true rfl⟩) hK hP hS hA [] [] rfl rfl rfl hl.1 rfl (Nat.le_of_ble_eq_true rfl) dX5_choose_50 ⟨Nat.zero_le _, Nat.zero_le _⟩ (fun v9_ H locs e9_ hP hS => ?_)
              obtain rfl : v9_ = lN (gre (z2 + t) pm bn) := e9_
              refine lv_aload_n hx hb dX5_choose_53 rfl (lv_at hl 2 rfl) ?_
              refine va_get (D := D) (ci := 5) (v := .long (lN pq)) (C := RX5) (T := TX5) (N := 11) hx hb hts hinX5 hown hK hP 0 rfl rfl 5 (by decide) (hts (.fieldLink RX5 51 "PassSearchModel" "points" "J") (by decide +kernel)) (fun _ h9 => h9) rfl dX5_choose_54 ?_
              refine zl_ge (tgt := 68) hx hb dX5_choose_57 dX5_choose_58 (by decide) (Nat.lt_of_le_of_lt (gre_top _ _ _) (by decide)) (by omega) (fun c57 => ?_) (fun c57 => ?_)
              · refine lv_lload_n hx hb dX5_choose_68 rfl (lv_at hl 1 rfl) ?_
                refine lv_ldc2 (v := 2) hx hb hown (hts (.constantLong RX5 40 (2)) (by decide +kernel)) dX5_choose_69 ?_
                refine W.eq (g2 := F0 m 72 ls [.long (lN 2), .long (lN t)]) rfl ?_
                refine zl_div hx hb dX5_choose_72 (by omega) (by omega) (by omega) ?_
                refine lv_lstore_n (lv' := [(3, .long (lN (t / 2))), (1, .long (lN z2)), (0, .ref xm)]) hx hb dX5_choose_73 rfl hl (by decide) rfl (fun ls hl => ?_)
                refine lv_goto (tgt := 14) hx hb dX5_choose_74 (by decide) ?_
                exact ih14 z2 (t / 2) (by omega) (fun h => by have := gre_stop hs hzs (by omega) c57; omega) (by omega) _ _ _ hP hD hS (lv_sub hl [1, 0, 2] rfl)
              · have hgo := gre_go hq.2 hs c35 c57
                refine lv_lload_n hx hb dX5_choose_61 rfl (lv_at hl 0 rfl) ?_
                refine lv_lload_n hx hb dX5_choose_62 rfl (lv_at hl 1 rfl) ?_
                refine zl_add hx hb dX5_choose_63  ?_
                refine lv_lstore_n (lv' := [(1, .long (lN (z2 + t))), (3, .long (lN t)), (0, .ref xm)]) hx hb dX5_choose_64 rfl hl (by decide) rfl (fun ls hl => ?_)
                refine lv_goto (tgt := 20) hx hb dX5_choose_65 (by decide) ?_
                exact ih20 (z2 + t) (by omega) (by omega) _ _ _ hP hD hS (lv_sub hl [0, 1, 2] rfl)
        exact L20 _ z (by omega) (Nat.lt_succ_self _) _ _ _ hP hD hS (lv_sub hl [0, 1, 2] rfl)
  exact L14 _ (2 * pm) 1048576 (by omega) (fun h => by omega) (Nat.lt_succ_self _) _ _ _ hP hD hS (lv_sub hl [1, 0, 2] rfl)
set_option maxHeartbeats 4000000 in
set_option maxRecDepth 100000 in
/-- passes -/
theorem c_X5_passes (l : Launch) (D : va_G) (cI cJ : ClassId) (xm mh mi mz mp mo th bn pl pq pm it : Nat) (HH IN ZZ PO SO : Nat → Nat) (x : Int64) (hbn : bn ≤ 65536) : WR_i l yX5_passes wsX5_passes ({ frames := 3, cells := 0, slots := 0, locals := 81 } : Room) D [(xm, .inr (5, [.int (nI th), .int (nI bn), .ref mh, .ref mi, .int (nI pl), .long (lN pq), .int (nI pm), .ref mz, .int (nI it), .ref mp, .ref mo])), (mh, aI cI 65536 HH), (mi, aI cI 65536 IN), (mz, aI cI 62 ZZ), (mp, aJ cJ 4000 PO), (mo, aI cI 4000 SO)] [(cI, .int), (cJ, .long)] [.ref xm, .long x] (fun (u : Nat × Nat × Nat × Nat × Nat × (Nat → Nat)) => [(xm, .inr (5, [.int (nI u.1), .int (nI bn), .ref mh, .ref mi, .int (nI u.2.1), .long (lN u.2.2.1), .int (nI u.2.2.2.1), .ref mz, .int (nI u.2.2.2.2.1), .ref mp, .ref mo])), (mh, aI cI 65536 HH), (mi, aI cI 65536 IN), (mz, aI cI 62 u.2.2.2.2.2), (mp, aJ cJ 4000 PO), (mo, aI cI 4000 SO)]) (fun v u => (bn < 2 → v = nI 0 ∧ u = (1, pl, pq, pm, it, ZZ)) ∧ (2 ≤ bn → ¬ rnd x → v = -2 ∧ u = (0, pl, pq, pm, it, ZZ)) ∧ (2 ≤ bn → rnd x → ∃ n Z2 S2, isPlan bn x.toInt.toNat n Z2 S2 ∧ v = nI n ∧ u = (0, 1, x.toInt.toNat, n, 0, Z2))) 0 0 := by
  refine WR_i.of (cc := cX5_passes) (maxL := 3) (by decide) rfl (Nat.le_of_ble_eq_true rfl) ?_
  intro p e s m args below meth c ls A Q hx hb hml hts hown hA hP hD hK hl hin hret
  have hown : s.vm.findClass RX5 = some m.cls := hown
  have hl : lv_has ls 3 [(0, .ref xm), (1, .long x)] := hl
  have hS : va_S A s.heap s.heap [] := va_S.rf
  have hinX5 : ∀ w ∈ wsX50, w ∈ wsX5_passes := by decide +kernel
  refine lv_aload_n hx hb dX5_passes_0 rfl (lv_at hl 0 rfl) ?_
  refine lv_aload_n hx hb dX5_passes_1 rfl (lv_at hl 0 rfl) ?_
  refine va_get (D := D) (ci := 5) (v := .int (nI bn)) (C := RX5) (T := TX5) (N := 11) hx hb hts hinX5 hown hK hP 0 rfl rfl 1 (by decide) (hts (.fieldLink RX5 27 "PassSearchModel" "bins" "I") (by decide +kernel)) (fun _ h9 => h9) rfl dX5_passes_2 ?_
  refine lv_iconst (v := nI 2) hx hb dX5_passes_5 (by decide) ?_
  refine zi_ge (tgt := 13) hx hb dX5_passes_6 (by decide) (by omega) (by omega) (fun c6 => ?_) (fun c6 => ?_)
  · refine lv_iconst (v := nI 0) hx hb dX5_passes_13 (by decide) ?_
    refine va_put (D := D) (ci := 5) (v := .int (nI 0)) (ty := .int) (C := RX5) (T := TX5) (N := 11) hx hb hts hinX5 tyX5 tyX5_ok nmX5 hown hK hP hD hS 0 rfl rfl 0 (by decide) (hts (.fieldLink RX5 31 "PassSearchModel" "thrown" "I") (by decide +kernel)) (fun _ h9 => h9) rfl (by decide +kernel) rfl rfl (Nat.le_of_ble_eq_true rfl) dX5_passes_14 (fun H locs hP hD hS => ?_)
    have hP : va_P D vwCl [(xm, .inr (5, [.int (nI 0), .int (nI bn), .ref mh, .ref mi, .int (nI pl), .long (lN pq), .int (nI pm), .ref mz, .int (nI it), .ref mp, .ref mo])), (mh, aI cI 65536 HH), (mi, aI cI 65536 IN), (mz, aI cI 62 ZZ), (mp, aJ cJ 4000 PO), (mo, aI cI 4000 SO)] H := hP
    have hD : va_D A [(xm, .inr (5, [.int (nI 0), .int (nI bn), .ref mh, .ref mi, .int (nI pl), .long (lN pq), .int (nI pm), .ref mz, .int (nI it), .ref mp, .ref mo])), (mh, aI cI 65536 HH), (mi, aI cI 65536 IN), (mz, aI cI 62 ZZ), (mp, aJ cJ 4000 PO), (mo, aI cI 4000 SO)] := hD
    refine lv_aload_n hx hb dX5_passes_17 rfl (lv_at hl 0 rfl) ?_
    refine va_get (D := D) (ci := 5) (v := .int (nI 0)) (C := RX5) (T := TX5) (N := 11) hx hb hts hinX5 hown hK hP 0 rfl rfl 0 (by decide) (hts (.fieldLink RX5 31 "PassSearchModel" "thrown" "I") (by decide +kernel)) (fun _ h9 => h9) rfl dX5_passes_18 ?_
    refine zi_if_le (tgt := 26) hx hb dX5_passes_21 (by decide) (by omega) (fun c21 => ?_) (fun c21 => ?_)
    · refine lv_lload_n hx hb dX5_passes_26 rfl (lv_at hl 1 rfl) ?_
      refine RO_i.callS (rest := []) (c_X5_isCount l D x) ⟨hx, hb, hml, hown, hts⟩ (va_cwS 1 hts gX5_passes_X5_isCount rfl rfl rfl (by decide +kernel) ⟨Nat.le_of_ble_eq_true rfl, Nat.le_of_ble_eq_true rfl⟩) hK hP hS hA [] [] rfl rfl rfl hl.1 rfl (Nat.le_of_ble_eq_true rfl) dX5_passes_27 ⟨Nat.zero_le _, Nat.zero_le _⟩ (fun v1_ H locs e1_ hP hS => ?_)
      obtain rfl : v1_ = bI (rnd x) := e1_
      refine zb_ne (tgt := 36) hx hb dX5_passes_30 (by decide) (fun c30 => ?_) (fun c30 => ?_)
      · obtain ⟨a, ha, rfl, hxa⟩ := l_of (x := x) (by omega)
        refine lv_aload_n hx hb dX5_passes_36 rfl (lv_at hl 0 rfl) ?_
        refine lv_iconst (v := nI 1) hx hb dX5_passes_37 (by decide) ?_
        refine va_put (D := D) (ci := 5) (v := .int (nI 1)) (ty := .boolean) (C := RX5) (T := TX5) (N := 11) hx hb hts hinX5 tyX5 tyX5_ok nmX5 hown hK hP hD hS 0 rfl rfl 4 (by decide) (hts (.fieldLink RX5 59 "PassSearchModel" "planned" "Z") (by decide +kernel)) (fun _ h9 => h9) rfl (by decide +kernel) rfl rfl (Nat.le_of_ble_eq_true rfl) dX5_passes_38 (fun H locs hP hD hS => ?_)
        have hP : va_P D vwCl [(xm, .inr (5, [.int (nI 0), .int (nI bn), .ref mh, .ref mi, .int (nI 1), .long (lN pq), .int (nI pm), .ref mz, .int (nI it), .ref mp, .ref mo])), (mh, aI cI 65536 HH), (mi, aI cI 65536 IN), (mz, aI cI 62 ZZ), (mp, aJ cJ 4000 PO), (mo, aI cI 4000 SO)] H := hP
        have hD : va_D A [(xm, .inr (5, [.int (nI 0), .int (nI bn), .ref mh, .ref mi, .int (nI 1), .long (lN pq), .int (nI pm), .ref mz, .int (nI it), .ref mp, .ref mo])), (mh, aI cI 65536 HH), (mi, aI cI 65536 IN), (mz, aI cI 62 ZZ), (mp, aJ cJ 4000 PO), (mo, aI cI 4000 SO)] := hD
        refine lv_aload_n hx hb dX5_passes_41 rfl (lv_at hl 0 rfl) ?_
        refine lv_lload_n hx hb dX5_passes_42 rfl (lv_at hl 1 rfl) ?_
        refine va_put (D := D) (ci := 5) (v := .long (lN a)) (ty := .long) (C := RX5) (T := TX5) (N := 11) hx hb hts hinX5 tyX5 tyX5_ok nmX5 hown hK hP hD hS 0 rfl rfl 5 (by decide) (hts (.fieldLink RX5 51 "PassSearchModel" "points" "J") (by decide +kernel)) (fun _ h9 => h9) rfl (by decide +kernel) rfl rfl (Nat.le_of_ble_eq_true rfl) dX5_passes_43 (fun H locs hP hD hS => ?_)
        have hP : va_P D vwCl [(xm, .inr (5, [.int (nI 0), .int (nI bn), .ref mh, .ref mi, .int (nI 1), .long (lN a), .int (nI pm), .ref mz, .int (nI it), .ref mp, .ref mo])), (mh, aI cI 65536 HH), (mi, aI cI 65536 IN), (mz, aI cI 62 ZZ), (mp, aJ cJ 4000 PO), (mo, aI cI 4000 SO)] H := hP
        have hD : va_D A [(xm, .inr (5, [.int (nI 0), .int (nI bn), .ref mh, .ref mi, .int (nI 1), .long (lN a), .int (nI pm), .ref mz, .int (nI it), .ref mp, .ref mo])), (mh, aI cI 65536 HH), (mi, aI cI 65536 IN), (mz, aI cI 62 ZZ), (mp, aJ cJ 4000 PO), (mo, aI cI 4000 SO)] := hD
        refine lv_aload_n hx hb dX5_passes_46 rfl (lv_at hl 0 rfl) ?_
        refine lv_iconst (v := nI 0) hx hb dX5_passes_47 (by decide) ?_
        refine va_put (D := D) (ci := 5) (v := .int (nI 0)) (ty := .int) (C := RX5) (T := TX5) (N := 11) hx hb hts hinX5 tyX5 tyX5_ok nmX5 hown hK hP hD hS 0 rfl rfl 8 (by decide) (hts (.fieldLink RX5 63 "PassSearchModel" "items" "I") (by decide +kernel)) (fun _ h9 => h9) rfl (by decide +kernel) rfl rfl (Nat.le_of_ble_eq_true rfl) dX5_passes_48 (fun H locs hP hD hS => ?_)
        have hP : va_P D vwCl [(xm, .inr (5, [.int (nI 0), .int (nI bn), .ref mh, .ref mi, .int (nI 1), .long (lN a), .int (nI pm), .ref mz, .int (nI 0), .ref mp, .ref mo])), (mh, aI cI 65536 HH), (mi, aI cI 65536 IN), (mz, aI cI 62 ZZ), (mp, aJ cJ 4000 PO), (mo, aI cI 4000 SO)] H := hP
        have hD : va_D A [(xm, .inr (5, [.int (nI 0), .int (nI bn), .ref mh, .ref mi, .int (nI 1), .long (lN a), .int (nI pm), .ref mz, .int (nI 0), .ref mp, .ref mo])), (mh, aI cI 65536 HH), (mi, aI cI 65536 IN), (mz, aI cI 62 ZZ), (mp, aJ cJ 4000 PO), (mo, aI cI 4000 SO)] := hD
        refine lv_aload_n hx hb dX5_passes_51 rfl (lv_at hl 0 rfl) ?_
        refine lv_lload_n hx hb dX5_passes_52 rfl (lv_at hl 1 rfl) ?_
        refine lv_aload_n hx hb dX5_passes_53 rfl (lv_at hl 0 rfl) ?_
        refine va_get (D := D) (ci := 5) (v := .int (nI bn)) (C := RX5) (T := TX5) (N := 11) hx hb hts hinX5 hown hK hP 0 rfl rfl 1 (by decide) (hts (.fieldLink RX5 27 "PassSearchModel" "bins" "I") (by decide +kernel)) (fun _ h9 => h9) rfl dX5_passes_54 ?_
        refine RO_i.callS (rest := [.ref xm]) (c_X5_fewest l D a bn (by omega) c6 hbn) ⟨hx, hb, hml, hown, hts⟩ (va_cwS 2 hts gX5_passes_X5_fewest rfl rfl rfl (by decide +kernel) ⟨Nat.le_of_ble_eq_true rfl, Nat.le_of_ble_eq_true rfl⟩) hK hP hS hA [] [] rfl rfl rfl hl.1 rfl (Nat.le_of_ble_eq_true rfl) dX5_passes_57 ⟨Nat.zero_le _, Nat.zero_le _⟩ (fun v2_ H locs e2_ hP hS => ?_)
        obtain ⟨n, rfl, hn1, hn2⟩ := e2_
        refine va_put (D := D) (ci := 5) (v := .int (nI n)) (ty := .int) (C := RX5) (T := TX5) (N := 11) hx hb hts hinX5 tyX5 tyX5_ok nmX5 hown hK hP hD hS 0 rfl rfl 6 (by decide) (hts (.fieldLink RX5 42 "PassSearchModel" "passes" "I") (by decide +kernel)) (fun _ h9 => h9) rfl (by decide +kernel) rfl rfl (Nat.le_of_ble_eq_true rfl) dX5_passes_60 (fun H locs hP hD hS => ?_)
        have hP : va_P D vwCl [(xm, .inr (5, [.int (nI 0), .int (nI bn), .ref mh, .ref mi, .int (nI 1), .long (lN a), .int (nI n), .ref mz, .int (nI 0), .ref mp, .ref mo])), (mh, aI cI 65536 HH), (mi, aI cI 65536 IN), (mz, aI cI 62 ZZ), (mp, aJ cJ 4000 PO), (mo, aI cI 4000 SO)] H := hP
        have hD : va_D A [(xm, .inr (5, [.int (nI 0), .int (nI bn), .ref mh, .ref mi, .int (nI 1), .long (lN a), .int (nI n), .ref mz, .int (nI 0), .ref mp, .ref mo])), (mh, aI cI 65536 HH), (mi, aI cI 65536 IN), (mz, aI cI 62 ZZ), (mp, aJ cJ 4000 PO), (mo, aI cI 4000 SO)] := hD
        refine lv_aload_n hx hb dX5_passes_63 rfl (lv_at hl 0 rfl) ?_
        refine WR_v.callV (rest := []) (wr := []) (c_X5_choose l D cI cJ xm mh mi mz mp mo 0 bn 1 a n 0 HH IN ZZ PO SO ⟨c6, hbn⟩ (by omega) hn1 hn2) ⟨hx, hb, hml, hown, hts⟩ (cwV 0 hts gX5_passes_X5_choose rfl rfl rfl (by decide +kernel) ⟨Nat.le_of_ble_eq_true rfl, Nat.le_of_ble_eq_true rfl⟩) hK hP hD hS hA [0, 1, 2, 3, 4, 5] [] [0, 1] rfl rfl (by decide) (by decide) (by decide) rfl 0 5 rfl rfl rfl rfl hl.1 rfl (Nat.le_of_ble_eq_true rfl) dX5_passes_64 ⟨Nat.zero_le _, Nat.zero_le _⟩ (fun u3_ H locs e3_ hP hD hS => ?_)
        obtain ⟨Z2, rfl⟩ : ∃ z, z = u3_ := ⟨_, rfl⟩
        obtain ⟨S2, hS2⟩ := e3_
        have hP := hP.sub (ws' := [(xm, .inr (5, [.int (nI 0), .int (nI bn), .ref mh, .ref mi, .int (nI 1), .long (lN a), .int (nI n), .ref mz, .int (nI 0), .ref mp, .ref mo])), (mh, aI cI 65536 HH), (mi, aI cI 65536 IN), (mz, aI cI 62 Z2), (mp, aJ cJ 4000 PO), (mo, aI cI 4000 SO)]) [0, 1, 2, 3, 4, 5] rfl
        have hD := hD.sub (ws' := [(xm, .inr (5, [.int (nI 0), .int (nI bn), .ref mh, .ref mi, .int (nI 1), .long (lN a), .int (nI n), .ref mz, .int (nI 0), .ref mp, .ref mo])), (mh, aI cI 65536 HH), (mi, aI cI 65536 IN), (mz, aI cI 62 Z2), (mp, aJ cJ 4000 PO), (mo, aI cI 4000 SO)]) [0, 1, 2, 3, 4, 5] (by decide) rfl
        refine lv_aload_n hx hb dX5_passes_67 rfl (lv_at hl 0 rfl) ?_
        refine va_get (D := D) (ci := 5) (v := .int (nI n)) (C := RX5) (T := TX5) (N := 11) hx hb hts hinX5 hown hK hP 0 rfl rfl 6 (by decide) (hts (.fieldLink RX5 42 "PassSearchModel" "passes" "I") (by decide +kernel)) (fun _ h9 => h9) rfl dX5_passes_68 ?_
        exact hret _ ((0, 1, a, n, 0, Z2)) _ _ _ _ hP hD hS (⟨fun q => by omega, fun _ q => absurd c30 q, fun _ _ => ⟨n, Z2, S2, by rw [hxa]; exact hS2, rfl, by rw [hxa]; rfl⟩⟩) dX5_passes_71
      · refine lv_bipush (v := (-2)) hx hb dX5_passes_33 (by decide) ?_
        exact hret _ ((0, pl, pq, pm, it, ZZ)) _ _ _ _ hP hD hS (⟨fun q => by omega, fun _ _ => ⟨rfl, rfl⟩, fun _ q => absurd q c30⟩) dX5_passes_35
    · exact False.elim (by omega)
  · refine lv_iconst (v := nI 1) hx hb dX5_passes_9 (by decide) ?_
    refine lv_goto (tgt := 14) hx hb dX5_passes_10 (by decide) ?_
    refine va_put (D := D) (ci := 5) (v := .int (nI 1)) (ty := .int) (C := RX5) (T := TX5) (N := 11) hx hb hts hinX5 tyX5 tyX5_ok nmX5 hown hK hP hD hS 0 rfl rfl 0 (by decide) (hts (.fieldLink RX5 31 "PassSearchModel" "thrown" "I") (by decide +kernel)) (fun _ h9 => h9) rfl (by decide +kernel) rfl rfl (Nat.le_of_ble_eq_true rfl) dX5_passes_14 (fun H locs hP hD hS => ?_)
    have hP : va_P D vwCl [(xm, .inr (5, [.int (nI 1), .int (nI bn), .ref mh, .ref mi, .int (nI pl), .long (lN pq), .int (nI pm), .ref mz, .int (nI it), .ref mp, .ref mo])), (mh, aI cI 65536 HH), (mi, aI cI 65536 IN), (mz, aI cI 62 ZZ), (mp, aJ cJ 4000 PO), (mo, aI cI 4000 SO)] H := hP
    have hD : va_D A [(xm, .inr (5, [.int (nI 1), .int (nI bn), .ref mh, .ref mi, .int (nI pl), .long (lN pq), .int (nI pm), .ref mz, .int (nI it), .ref mp, .ref mo])), (mh, aI cI 65536 HH), (mi, aI cI 65536 IN), (mz, aI cI 62 ZZ), (mp, aJ cJ 4000 PO), (mo, aI cI 4000 SO)] := hD
    refine lv_aload_n hx hb dX5_passes_17 rfl (lv_at hl 0 rfl) ?_
    refine va_get (D := D) (ci := 5) (v := .int (nI 1)) (C := RX5) (T := TX5) (N := 11) hx hb hts hinX5 hown hK hP 0 rfl rfl 0 (by decide) (hts (.fieldLink RX5 31 "PassSearchModel" "thrown" "I") (by decide +kernel)) (fun _ h9 => h9) rfl dX5_passes_18 ?_
    refine zi_if_le (tgt := 26) hx hb dX5_passes_21 (by decide) (by omega) (fun c21 => ?_) (fun c21 => ?_)
    · exact False.elim (by omega)
    · refine lv_iconst (v := nI 0) hx hb dX5_passes_24 (by decide) ?_
      exact hret _ ((1, pl, pq, pm, it, ZZ)) _ _ _ _ hP hD hS (⟨fun _ => ⟨rfl, rfl⟩, fun q => by omega, fun q => by omega⟩) dX5_passes_25
set_option maxHeartbeats 4000000 in
set_option maxRecDepth 100000 in
/-- thrown -/
theorem c_X5_thrown (l : Launch) (D : va_G) (cI cJ : ClassId) (xm mh mi mz mp mo th bn pl pq pm it : Nat) (HH IN ZZ PO SO : Nat → Nat) : RO_i l yX5_thrown wsX5_thrown ({ frames := 0, cells := 0, slots := 0, locals := 0 } : Room) D [(xm, .inr (5, [.int (nI th), .int (nI bn), .ref mh, .ref mi, .int (nI pl), .long (lN pq), .int (nI pm), .ref mz, .int (nI it), .ref mp, .ref mo])), (mh, aI cI 65536 HH), (mi, aI cI 65536 IN), (mz, aI cI 62 ZZ), (mp, aJ cJ 4000 PO), (mo, aI cI 4000 SO)] [(cI, .int), (cJ, .long)] [.ref xm] (fun v => v = nI th) := by
  refine RO_i.of (cc := cX5_thrown) (maxL := 1) (by decide) rfl (Nat.le_of_ble_eq_true rfl) ?_
  intro p e s m args below meth c ls A Q hx hb hml hts hown hA hP hK hl hret
  have hown : s.vm.findClass RX5 = some m.cls := hown
  have hl : lv_has ls 1 [(0, .ref xm)] := hl
  have hS : va_S A s.heap s.heap [] := va_S.rf
  have hinX5 : ∀ w ∈ wsX50, w ∈ wsX5_thrown := by decide +kernel
  refine lv_aload_n hx hb dX5_thrown_0 rfl (lv_at hl 0 rfl) ?_
  refine va_get (D := D) (ci := 5) (v := .int (nI th)) (C := RX5) (T := TX5) (N := 11) hx hb hts hinX5 hown hK hP 0 rfl rfl 0 (by decide) (hts (.fieldLink RX5 31 "PassSearchModel" "thrown" "I") (by decide +kernel)) (fun _ h9 => h9) rfl dX5_thrown_1 ?_
  exact hret _ _ _ _ _ hS (rfl) dX5_thrown_4
set_option maxHeartbeats 4000000 in
set_option maxRecDepth 100000 in
/-- isPoint -/
theorem c_X5_isPoint (l : Launch) (D : va_G) (cI cJ : ClassId) (xm mh mi mz mp mo th bn pl pq pm it : Nat) (HH IN ZZ PO SO : Nat → Nat) (x : Int64) (hpq : (pl = 0 ∧ pq = 0) ∨ (pl = 1 ∧ 1 ≤ pq)) (hpt : pq ≤ 4611686018427387904) : RO_i l yX5_isPoint wsX5_isPoint ({ frames := 0, cells := 0, slots := 0, locals := 0 } : Room) D [(xm, .inr (5, [.int (nI th), .int (nI bn), .ref mh, .ref mi, .int (nI pl), .long (lN pq), .int (nI pm), .ref mz, .int (nI it), .ref mp, .ref mo])), (mh, aI cI 65536 HH), (mi, aI cI 65536 IN), (mz, aI cI 62 ZZ), (mp, aJ cJ 4000 PO), (mo, aI cI 4000 SO)] [(cI, .int), (cJ, .long)] [.ref xm, .long x] (fun v => v = bI (knL pq x)) := by
  refine RO_i.ofz (cc := cX5_isPoint) (maxL := 3) (by decide) rfl (Nat.le_of_ble_eq_true rfl) ?_
  intro p e s m args below meth c ls A Q hx hb hml hts hown hA hP hK hl hret
  have hown : s.vm.findClass RX5 = some m.cls := hown
  have hl : lv_has ls 3 [(0, .ref xm), (1, .long x)] := hl
  have hS : va_S A s.heap s.heap [] := va_S.rf
  have hinX5 : ∀ w ∈ wsX50, w ∈ wsX5_isPoint := by decide +kernel
  refine lv_lload_n hx hb dX5_isPoint_0 rfl (lv_at hl 1 rfl) ?_
  refine lv_lconst (v := lN 0) hx hb dX5_isPoint_1 (by decide) ?_
  refine zr_lt (tgt := 26) hx hb dX5_isPoint_2 dX5_isPoint_3 (by decide) (fun c2 => ?_) (fun c2 => ?_)
  · rw [l0T] at c2
    refine lv_iconst (v := nI 0) hx hb dX5_isPoint_26 (by decide) ?_
    exact hret _ _ _ _ _ hS (Or.inl rfl) (bI_f' (by omega)) dX5_isPoint_27
  · rw [l0T] at c2
    obtain ⟨a, ha, rfl, hxa⟩ := l_of c2
    refine lv_aload_n hx hb dX5_isPoint_6 rfl (lv_at hl 0 rfl) ?_
    refine va_get (D := D) (ci := 5) (v := .int (nI pl)) (C := RX5) (T := TX5) (N := 11) hx hb hts hinX5 hown hK hP 0 rfl rfl 4 (by decide) (hts (.fieldLink RX5 59 "PassSearchModel" "planned" "Z") (by decide +kernel)) (fun _ h9 => h9) rfl dX5_isPoint_7 ?_
    refine zi_if_eq (tgt := 22) hx hb dX5_isPoint_10 (by decide) (by omega) (fun c10 => ?_) (fun c10 => ?_)
    · refine lv_iconst (v := nI 1) hx hb dX5_isPoint_22 (by decide) ?_
      refine lv_goto (tgt := 27) hx hb dX5_isPoint_23 (by decide) ?_
      exact hret _ _ _ _ _ hS (Or.inr rfl) (bI_t' (by omega)) dX5_isPoint_27
    · refine lv_lload_n hx hb dX5_isPoint_13 rfl (lv_at hl 1 rfl) ?_
      refine lv_aload_n hx hb dX5_isPoint_14 rfl (lv_at hl 0 rfl) ?_
      refine va_get (D := D) (ci := 5) (v := .long (lN pq)) (C := RX5) (T := TX5) (N := 11) hx hb hts hinX5 hown hK hP 0 rfl rfl 5 (by decide) (hts (.fieldLink RX5 51 "PassSearchModel" "points" "J") (by decide +kernel)) (fun _ h9 => h9) rfl dX5_isPoint_15 ?_
      refine zl_ge (tgt := 26) hx hb dX5_isPoint_18 dX5_isPoint_19 (by decide) (by omega) (by omega) (fun c18 => ?_) (fun c18 => ?_)
      · refine lv_iconst (v := nI 0) hx hb dX5_isPoint_26 (by decide) ?_
        exact hret _ _ _ _ _ hS (Or.inl rfl) (bI_f' (by omega)) dX5_isPoint_27
      · refine lv_iconst (v := nI 1) hx hb dX5_isPoint_22 (by decide) ?_
        refine lv_goto (tgt := 27) hx hb dX5_isPoint_23 (by decide) ?_
        exact hret _ _ _ _ _ hS (Or.inr rfl) (bI_t' (by omega)) dX5_isPoint_27
set_option maxHeartbeats 4000000 in
set_option maxRecDepth 100000 in
/-- isPass -/
theorem c_X5_isPass (l : Launch) (D : va_G) (cI cJ : ClassId) (xm mh mi mz mp mo th bn pl pq pm it : Nat) (HH IN ZZ PO SO : Nat → Nat) (y : Int32) (hpq : (pl = 0 ∧ pq = 0) ∨ (pl = 1 ∧ 1 ≤ pq)) (hk : pm ≤ 4000) : RO_i l yX5_isPass wsX5_isPass ({ frames := 0, cells := 0, slots := 0, locals := 0 } : Room) D [(xm, .inr (5, [.int (nI th), .int (nI bn), .ref mh, .ref mi, .int (nI pl), .long (lN pq), .int (nI pm), .ref mz, .int (nI it), .ref mp, .ref mo])), (mh, aI cI 65536 HH), (mi, aI cI 65536 IN), (mz, aI cI 62 ZZ), (mp, aJ cJ 4000 PO), (mo, aI cI 4000 SO)] [(cI, .int), (cJ, .long)] [.ref xm, .int y] (fun v => v = bI (knI pq pm y)) := by
  refine RO_i.ofz (cc := cX5_isPass) (maxL := 2) (by decide) rfl (Nat.le_of_ble_eq_true rfl) ?_
  intro p e s m args below meth c ls A Q hx hb hml hts hown hA hP hK hl hret
  have hown : s.vm.findClass RX5 = some m.cls := hown
  have hl : lv_has ls 2 [(0, .ref xm), (1, .int y)] := hl
  have hS : va_S A s.heap s.heap [] := va_S.rf
  have hinX5 : ∀ w ∈ wsX50, w ∈ wsX5_isPass := by decide +kernel
  refine lv_iload_n hx hb dX5_isPass_0 rfl (lv_at hl 1 rfl) ?_
  refine zq_if_lt (tgt := 23) hx hb dX5_isPass_1 (by decide) (fun c1 => ?_) (fun c1 => ?_)
  · refine lv_iconst (v := nI 0) hx hb dX5_isPass_23 (by decide) ?_
    exact hret _ _ _ _ _ hS (Or.inl rfl) (bI_f' (by omega)) dX5_isPass_24
  · refine lv_aload_n hx hb dX5_isPass_4 rfl (lv_at hl 0 rfl) ?_
    refine va_get (D := D) (ci := 5) (v := .int (nI pl)) (C := RX5) (T := TX5) (N := 11) hx hb hts hinX5 hown hK hP 0 rfl rfl 4 (by decide) (hts (.fieldLink RX5 59 "PassSearchModel" "planned" "Z") (by decide +kernel)) (fun _ h9 => h9) rfl dX5_isPass_5 ?_
    refine zi_if_eq (tgt := 19) hx hb dX5_isPass_8 (by decide) (by omega) (fun c8 => ?_) (fun c8 => ?_)
    · refine lv_iconst (v := nI 1) hx hb dX5_isPass_19 (by decide) ?_
      refine lv_goto (tgt := 24) hx hb dX5_isPass_20 (by decide) ?_
      exact hret _ _ _ _ _ hS (Or.inr rfl) (bI_t' (by omega)) dX5_isPass_24
    · refine lv_iload_n hx hb dX5_isPass_11 rfl (lv_at hl 1 rfl) ?_
      refine lv_aload_n hx hb dX5_isPass_12 rfl (lv_at hl 0 rfl) ?_
      refine va_get (D := D) (ci := 5) (v := .int (nI pm)) (C := RX5) (T := TX5) (N := 11) hx hb hts hinX5 hown hK hP 0 rfl rfl 6 (by decide) (hts (.fieldLink RX5 42 "PassSearchModel" "passes" "I") (by decide +kernel)) (fun _ h9 => h9) rfl dX5_isPass_13 ?_
      refine zq_ge (tgt := 23) hx hb dX5_isPass_16 (by decide) (fun c16 => ?_) (fun c16 => ?_)
      · rw [nI_toInt (by omega)] at c16
        refine lv_iconst (v := nI 0) hx hb dX5_isPass_23 (by decide) ?_
        exact hret _ _ _ _ _ hS (Or.inl rfl) (bI_f' (by omega)) dX5_isPass_24
      · rw [nI_toInt (by omega)] at c16
        refine lv_iconst (v := nI 1) hx hb dX5_isPass_19 (by decide) ?_
        refine lv_goto (tgt := 24) hx hb dX5_isPass_20 (by decide) ?_
        exact hret _ _ _ _ _ hS (Or.inr rfl) (bI_t' (by omega)) dX5_isPass_24
set_option maxHeartbeats 4000000 in
set_option maxRecDepth 100000 in
/-- isItem -/
theorem c_X5_isItem (l : Launch) (D : va_G) (cI cJ : ClassId) (xm mh mi mz mp mo th bn pl pq pm it : Nat) (HH IN ZZ PO SO : Nat → Nat) (y : Int32) (hpq : (pl = 0 ∧ pq = 0) ∨ (pl = 1 ∧ 1 ≤ pq)) (hk : it ≤ 4000) : RO_i l yX5_isItem wsX5_isItem ({ frames := 0, cells := 0, slots := 0, locals := 0 } : Room) D [(xm, .inr (5, [.int (nI th), .int (nI bn), .ref mh, .ref mi, .int (nI pl), .long (lN pq), .int (nI pm), .ref mz, .int (nI it), .ref mp, .ref mo])), (mh, aI cI 65536 HH), (mi, aI cI 65536 IN), (mz, aI cI 62 ZZ), (mp, aJ cJ 4000 PO), (mo, aI cI 4000 SO)] [(cI, .int), (cJ, .long)] [.ref xm, .int y] (fun v => v = bI (knI pq it y)) := by
  refine RO_i.ofz (cc := cX5_isItem) (maxL := 2) (by decide) rfl (Nat.le_of_ble_eq_true rfl) ?_
  intro p e s m args below meth c ls A Q hx hb hml hts hown hA hP hK hl hret
  have hown : s.vm.findClass RX5 = some m.cls := hown
  have hl : lv_has ls 2 [(0, .ref xm), (1, .int y)] := hl
  have hS : va_S A s.heap s.heap [] := va_S.rf
  have hinX5 : ∀ w ∈ wsX50, w ∈ wsX5_isItem := by decide +kernel
  refine lv_iload_n hx hb dX5_isItem_0 rfl (lv_at hl 1 rfl) ?_
  refine zq_if_lt (tgt := 23) hx hb dX5_isItem_1 (by decide) (fun c1 => ?_) (fun c1 => ?_)
  · refine lv_iconst (v := nI 0) hx hb dX5_isItem_23 (by decide) ?_
    exact hret _ _ _ _ _ hS (Or.inl rfl) (bI_f' (by omega)) dX5_isItem_24
  · refine lv_aload_n hx hb dX5_isItem_4 rfl (lv_at hl 0 rfl) ?_
    refine va_get (D := D) (ci := 5) (v := .int (nI pl)) (C := RX5) (T := TX5) (N := 11) hx hb hts hinX5 hown hK hP 0 rfl rfl 4 (by decide) (hts (.fieldLink RX5 59 "PassSearchModel" "planned" "Z") (by decide +kernel)) (fun _ h9 => h9) rfl dX5_isItem_5 ?_
    refine zi_if_eq (tgt := 19) hx hb dX5_isItem_8 (by decide) (by omega) (fun c8 => ?_) (fun c8 => ?_)
    · refine lv_iconst (v := nI 1) hx hb dX5_isItem_19 (by decide) ?_
      refine lv_goto (tgt := 24) hx hb dX5_isItem_20 (by decide) ?_
      exact hret _ _ _ _ _ hS (Or.inr rfl) (bI_t' (by omega)) dX5_isItem_24
    · refine lv_iload_n hx hb dX5_isItem_11 rfl (lv_at hl 1 rfl) ?_
      refine lv_aload_n hx hb dX5_isItem_12 rfl (lv_at hl 0 rfl) ?_
      refine va_get (D := D) (ci := 5) (v := .int (nI it)) (C := RX5) (T := TX5) (N := 11) hx hb hts hinX5 hown hK hP 0 rfl rfl 8 (by decide) (hts (.fieldLink RX5 63 "PassSearchModel" "items" "I") (by decide +kernel)) (fun _ h9 => h9) rfl dX5_isItem_13 ?_
      refine zq_ge (tgt := 23) hx hb dX5_isItem_16 (by decide) (fun c16 => ?_) (fun c16 => ?_)
      · rw [nI_toInt (by omega)] at c16
        refine lv_iconst (v := nI 0) hx hb dX5_isItem_23 (by decide) ?_
        exact hret _ _ _ _ _ hS (Or.inl rfl) (bI_f' (by omega)) dX5_isItem_24
      · rw [nI_toInt (by omega)] at c16
        refine lv_iconst (v := nI 1) hx hb dX5_isItem_19 (by decide) ?_
        refine lv_goto (tgt := 24) hx hb dX5_isItem_20 (by decide) ?_
        exact hret _ _ _ _ _ hS (Or.inr rfl) (bI_t' (by omega)) dX5_isItem_24
set_option maxHeartbeats 4000000 in
set_option maxRecDepth 100000 in
/-- digit -/
theorem c_X5_digit (l : Launch) (D : va_G) (cI cJ : ClassId) (xm mh mi mz mp mo th bn pl pq pm it : Nat) (HH IN ZZ PO SO : Nat → Nat) (S : Nat → Nat) (x : Int64) (y : Int32) (hpq : (pl = 0 ∧ pq = 0) ∨ (pl = 1 ∧ 1 ≤ pq)) (hpl : xPlan bn pq pm ZZ S) : WR_i l yX5_digit wsX5_digit ({ frames := 1, cells := 0, slots := 0, locals := 22 } : Room) D [(xm, .inr (5, [.int (nI th), .int (nI bn), .ref mh, .ref mi, .int (nI pl), .long (lN pq), .int (nI pm), .ref mz, .int (nI it), .ref mp, .ref mo])), (mh, aI cI 65536 HH), (mi, aI cI 65536 IN), (mz, aI cI 62 ZZ), (mp, aJ cJ 4000 PO), (mo, aI cI 4000 SO)] [(cI, .int), (cJ, .long)] [.ref xm, .long x, .int y] (fun (_ : Unit) => [(xm, .inr (5, [.int (nI 0), .int (nI bn), .ref mh, .ref mi, .int (nI pl), .long (lN pq), .int (nI pm), .ref mz, .int (nI it), .ref mp, .ref mo])), (mh, aI cI 65536 HH), (mi, aI cI 65536 IN), (mz, aI cI 62 ZZ), (mp, aJ cJ 4000 PO), (mo, aI cI 4000 SO)]) (fun v _ => v = sDigit pq pm ZZ S x y) 0 0 := by
  refine WR_i.of (cc := cX5_digit) (maxL := 7) (by decide) rfl (Nat.le_of_ble_eq_true rfl) ?_
  intro p e s m args below meth c ls A Q hx hb hml hts hown hA hP hD hK hl hin hret
  have hown : s.vm.findClass RX5 = some m.cls := hown
  have hl : lv_has ls 7 [(0, .ref xm), (1, .long x), (3, .int y)] := hl
  have hS : va_S A s.heap s.heap [] := va_S.rf
  have hinX5 : ∀ w ∈ wsX50, w ∈ wsX5_digit := by decide +kernel
  have hpt := hpl.1
  have hpn := hpl.2.1
  have hbn := hpl.2.2.1
  refine lv_aload_n hx hb dX5_digit_0 rfl (lv_at hl 0 rfl) ?_
  refine lv_iconst (v := nI 0) hx hb dX5_digit_1 (by decide) ?_
  refine va_put (D := D) (ci := 5) (v := .int (nI 0)) (ty := .int) (C := RX5) (T := TX5) (N := 11) hx hb hts hinX5 tyX5 tyX5_ok nmX5 hown hK hP hD hS 0 rfl rfl 0 (by decide) (hts (.fieldLink RX5 31 "PassSearchModel" "thrown" "I") (by decide +kernel)) (fun _ h9 => h9) rfl (by decide +kernel) rfl rfl (Nat.le_of_ble_eq_true rfl) dX5_digit_2 (fun H locs hP hD hS => ?_)
  have hP : va_P D vwCl [(xm, .inr (5, [.int (nI 0), .int (nI bn), .ref mh, .ref mi, .int (nI pl), .long (lN pq), .int (nI pm), .ref mz, .int (nI it), .ref mp, .ref mo])), (mh, aI cI 65536 HH), (mi, aI cI 65536 IN), (mz, aI cI 62 ZZ), (mp, aJ cJ 4000 PO), (mo, aI cI 4000 SO)] H := hP
  have hD : va_D A [(xm, .inr (5, [.int (nI 0), .int (nI bn), .ref mh, .ref mi, .int (nI pl), .long (lN pq), .int (nI pm), .ref mz, .int (nI it), .ref mp, .ref mo])), (mh, aI cI 65536 HH), (mi, aI cI 65536 IN), (mz, aI cI 62 ZZ), (mp, aJ cJ 4000 PO), (mo, aI cI 4000 SO)] := hD
  refine lv_aload_n hx hb dX5_digit_5 rfl (lv_at hl 0 rfl) ?_
  refine lv_lload_n hx hb dX5_digit_6 rfl (lv_at hl 1 rfl) ?_
  refine RO_i.callV (rest := []) (c_X5_isPoint l D cI cJ xm mh mi mz mp mo 0 bn pl pq pm it HH IN ZZ PO SO x hpq hpt) ⟨hx, hb, hml, hown, hts⟩ (cwV 1 hts gX5_digit_X5_isPoint rfl rfl rfl (by decide +kernel) ⟨Nat.le_of_ble_eq_true rfl, Nat.le_of_ble_eq_true rfl⟩) hK hP hS hA [0, 1, 2, 3, 4, 5] [0, 1] rfl rfl 0 5 rfl rfl rfl rfl hl.1 rfl (Nat.le_of_ble_eq_true rfl) dX5_digit_7 ⟨Nat.zero_le _, Nat.zero_le _⟩ (fun v1_ H locs e1_ hP hS => ?_)
  obtain rfl : v1_ = bI (knL pq x) := e1_
  refine zb_eq (tgt := 21) hx hb dX5_digit_10 (by decide) (fun c10 => ?_) (fun c10 => ?_)
  · refine lv_iconst (v := (-1)) hx hb dX5_digit_21 (by decide) ?_
    exact hret _ (()) _ _ _ _ hP hD hS (by rw [sDigit, if_neg (fun q => c10 q.1)]) dX5_digit_22
  · refine lv_aload_n hx hb dX5_digit_13 rfl (lv_at hl 0 rfl) ?_
    refine lv_iload_n hx hb dX5_digit_14 rfl (lv_at hl 2 rfl) ?_
    refine RO_i.callV (rest := []) (c_X5_isPass l D cI cJ xm mh mi mz mp mo 0 bn pl pq pm it HH IN ZZ PO SO y hpq (by omega)) ⟨hx, hb, hml, hown, hts⟩ (cwV 1 hts gX5_digit_X5_isPass rfl rfl rfl (by decide +kernel) ⟨Nat.le_of_ble_eq_true rfl, Nat.le_of_ble_eq_true rfl⟩) hK hP hS hA [0, 1, 2, 3, 4, 5] [0, 1] rfl rfl 0 5 rfl rfl rfl rfl hl.1 rfl (Nat.le_of_ble_eq_true rfl) dX5_digit_15 ⟨Nat.zero_le _, Nat.zero_le _⟩ (fun v2_ H locs e2_ hP hS => ?_)
    obtain rfl : v2_ = bI (knI pq pm y) := e2_
    refine zb_ne (tgt := 23) hx hb dX5_digit_18 (by decide) (fun c18 => ?_) (fun c18 => ?_)
    · refine lv_aload_n hx hb dX5_digit_23 rfl (lv_at hl 0 rfl) ?_
      refine va_get (D := D) (ci := 5) (v := .int (nI pl)) (C := RX5) (T := TX5) (N := 11) hx hb hts hinX5 hown hK hP 0 rfl rfl 4 (by decide) (hts (.fieldLink RX5 59 "PassSearchModel" "planned" "Z") (by decide +kernel)) (fun _ h9 => h9) rfl dX5_digit_24 ?_
      refine zi_if_ne (tgt := 33) hx hb dX5_digit_27 (by decide) (by omega) (fun c27 => ?_) (fun c27 => ?_)
      · obtain ⟨a, ha, rfl, hxa⟩ := l_of c10.1
        obtain ⟨k, hk, rfl, hyk⟩ := i_of c18.1
        have hip := (hpl.2.2.2.2 (by omega)).2
        have hS0 := plan_0 hip
        have hZk := plan_Z hip (k := k) (by omega)
        refine lv_lload_n hx hb dX5_digit_33 rfl (lv_at hl 1 rfl) ?_
        refine lv_topl (fun v3_ e3_ => ?_)
        obtain rfl : v3_ = lN (a / S 0) := e3_.trans (congrArg lN (by rw [hS0, Nat.div_one]))
        refine lv_lstore (lv' := [(4, .long (lN (a / S 0))), (0, .ref xm), (1, .long (lN a)), (3, .int (nI k))]) hx hb dX5_digit_34 hl (by decide) rfl (fun ls hl => ?_)
        refine lv_iconst (v := nI 0) hx hb dX5_digit_36 (by decide) ?_
        refine lv_istore (lv' := [(6, .int (nI 0)), (4, .long (lN (a / S 0))), (0, .ref xm), (1, .long (lN a)), (3, .int (nI k))]) hx hb dX5_digit_37 hl (by decide) rfl (fun ls hl => ?_)
        have L39 : ∀ (nf : Nat) (j : Nat), (j ≤ k) → k - j < nf → ∀ (H : Heap) (locs : List Loc) (ls : Array Slot), va_P D vwCl [(xm, .inr (5, [.int (nI 0), .int (nI bn), .ref mh, .ref mi, .int (nI pl), .long (lN pq), .int (nI pm), .ref mz, .int (nI it), .ref mp, .ref mo])), (mh, aI cI 65536 HH), (mi, aI cI 65536 IN), (mz, aI cI 62 ZZ), (mp, aJ cJ 4000 PO), (mo, aI cI 4000 SO)] H → va_D A [(xm, .inr (5, [.int (nI 0), .int (nI bn), .ref mh, .ref mi, .int (nI pl), .long (lN pq), .int (nI pm), .ref mz, .int (nI it), .ref mp, .ref mo])), (mh, aI cI 65536 HH), (mi, aI cI 65536 IN), (mz, aI cI 62 ZZ), (mp, aJ cJ 4000 PO), (mo, aI cI 4000 SO)] → va_S A s.heap H locs → lv_has ls 7 [(4, .long (lN (a / S j))), (6, .int (nI j)), (0, .ref xm), (1, .long (lN a)), (3, .int (nI k))] → W p l e ({ frames := 1, cells := 0, slots := 0, locals := 22 } : Room) s m args below meth c H locs 0 0 Q (F0 m 39 ls []) := by
          intro nf
          induction nf with
          | zero => intro j i1 hm; exact absurd hm (Nat.not_lt_zero _)
          | succ nf ih39 =>
            intro j i1 hm39 H locs ls hP hD hS hl
            refine lv_iload hx hb dX5_digit_39 (lv_at hl 1 rfl) ?_
            refine lv_iload_n hx hb dX5_digit_41 rfl (lv_at hl 4 rfl) ?_
            refine zi_ge (tgt := 64) hx hb dX5_digit_42 (by decide) (by omega) (by omega) (fun c42 => ?_) (fun c42 => ?_)
            · refine lv_lload hx hb dX5_digit_64 (lv_at hl 0 rfl) ?_
              refine lv_aload_n hx hb dX5_digit_66 rfl (lv_at hl 2 rfl) ?_
              refine va_get (D := D) (ci := 5) (v := .ref mz) (C := RX5) (T := TX5) (N := 11) hx hb hts hinX5 hown hK hP 0 rfl rfl 7 (by decide) (hts (.fieldLink RX5 17 "PassSearchModel" "sizes" "[I") (by decide +kernel)) (fun _ h9 => h9) rfl dX5_digit_67 ?_
              refine lv_iload_n hx hb dX5_digit_70 rfl (lv_at hl 4 rfl) ?_
              refine zi_ald hx hb hK hP 3 0 rfl rfl (k := k) (by omega) (by omega) dX5_digit_71 ?_
              refine z_i2l hx hb dX5_digit_72 (by omega) ?_
              refine zl_rem hx hb dX5_digit_73 (Nat.lt_of_le_of_lt (Nat.div_le_self _ _) ha) (by omega) (by omega) ?_
              refine z_l2i hx hb dX5_digit_74 ?_
              exact hret _ (()) _ _ _ _ hP hD hS (by rw [sDigit, if_pos ⟨c10, c18⟩, if_neg (by omega), hxa, hyk, show j = k by omega]; rfl) dX5_digit_75
            · have hZj := plan_Z hip (k := j) (by omega)
              refine lv_lload hx hb dX5_digit_45 (lv_at hl 0 rfl) ?_
              refine lv_aload_n hx hb dX5_digit_47 rfl (lv_at hl 2 rfl) ?_
              refine va_get (D := D) (ci := 5) (v := .ref mz) (C := RX5) (T := TX5) (N := 11) hx hb hts hinX5 hown hK hP 0 rfl rfl 7 (by decide) (hts (.fieldLink RX5 17 "PassSearchModel" "sizes" "[I") (by decide +kernel)) (fun _ h9 => h9) rfl dX5_digit_48 ?_
              refine lv_iload hx hb dX5_digit_51 (lv_at hl 1 rfl) ?_
              refine zi_ald hx hb hK hP 3 0 rfl rfl (k := j) (by omega) (by omega) dX5_digit_53 ?_
              refine z_i2l hx hb dX5_digit_54 (by omega) ?_
              refine zl_div hx hb dX5_digit_55 (Nat.lt_of_le_of_lt (Nat.div_le_self _ _) ha) (by omega) (by omega) ?_
              refine lv_topl (fun v4_ e4_ => ?_)
              obtain rfl : v4_ = lN (a / S (j + 1)) := e4_.trans (congrArg lN (by rw [Nat.div_div_eq_div_mul, ← hZj.2.2]))
              refine lv_lstore (lv' := [(4, .long (lN (a / S (j + 1)))), (6, .int (nI j)), (0, .ref xm), (1, .long (lN a)), (3, .int (nI k))]) hx hb dX5_digit_56 hl (by decide) rfl (fun ls hl => ?_)
              refine lv_iinc (v := nI (j + 1)) (lv' := [(6, .int (nI (j + 1))), (4, .long (lN (a / S (j + 1)))), (0, .ref xm), (1, .long (lN a)), (3, .int (nI k))]) hx hb dX5_digit_58 hl (k := 1) rfl (by rw [show Int32.ofInt 1 = nI 1 by decide, nI_add]) (by decide) rfl (fun ls hl => ?_)
              refine lv_goto (tgt := 39) hx hb dX5_digit_61 (by decide) ?_
              exact ih39 (j + 1) (by omega) (by omega) _ _ _ hP hD hS (lv_sub hl [1, 0, 2, 3, 4] rfl)
        exact L39 _ 0 (by omega) (Nat.lt_succ_self _) _ _ _ hP hD hS (lv_sub hl [1, 0, 2, 3, 4] rfl)
      · refine lv_bipush (v := (-3)) hx hb dX5_digit_30 (by decide) ?_
        exact hret _ (()) _ _ _ _ hP hD hS (by rw [sDigit, if_pos ⟨c10, c18⟩, if_pos (by omega)]) dX5_digit_32
    · refine lv_iconst (v := (-1)) hx hb dX5_digit_21 (by decide) ?_
      exact hret _ (()) _ _ _ _ hP hD hS (by rw [sDigit, if_neg (fun q => c18 q.2)]) dX5_digit_22
set_option maxHeartbeats 4000000 in
set_option maxRecDepth 100000 in
/-- isEnough -/
theorem c_X5_isEnough (l : Launch) (D : va_G) (b n q : Nat) (h0 : 1 ≤ b) (h1 : b ≤ 4611686018427387904) (hn : n < 2147483648) (hq : q ≤ 4611686018427387904) : RO_i l yX5_isEnough wsX5_isEnough ({ frames := 1, cells := 0, slots := 0, locals := 23 } : Room) D [] [] [.long (lN b), .int (nI n), .long (lN q)] (fun v => v = bI (q ≤ b ^ n)) := by
  refine RO_i.ofz (cc := cX5_isEnough) (maxL := 8) (by decide) rfl (Nat.le_of_ble_eq_true rfl) ?_
  intro p e s m args below meth c ls A Q hx hb hml hts hown hA hP hK hl hret
  have hown : s.vm.findClass RX5 = some m.cls := hown
  have hl : lv_has ls 8 [(0, .long (lN b)), (2, .int (nI n)), (3, .long (lN q))] := hl
  have hS : va_S A s.heap s.heap [] := va_S.rf
  refine lv_lconst (v := lN 1) hx hb dX5_isEnough_0 (by decide) ?_
  refine lv_topl (fun v1_ e1_ => ?_)
  obtain rfl : v1_ = lN (sat (b ^ 0)) := e1_.trans (congrArg lN (by rw [Nat.pow_zero]; rfl))
  refine lv_lstore (lv' := [(5, .long (lN (sat (b ^ 0)))), (0, .long (lN b)), (2, .int (nI n)), (3, .long (lN q))]) hx hb dX5_isEnough_1 hl (by decide) rfl (fun ls hl => ?_)
  refine lv_iconst (v := nI 0) hx hb dX5_isEnough_3 (by decide) ?_
  refine lv_istore (lv' := [(7, .int (nI 0)), (5, .long (lN (sat (b ^ 0)))), (0, .long (lN b)), (2, .int (nI n)), (3, .long (lN q))]) hx hb dX5_isEnough_4 hl (by decide) rfl (fun ls hl => ?_)
  have L6 : ∀ (nf : Nat) (k : Nat), (k ≤ n) → n - k < nf → ∀ (H : Heap) (locs : List Loc) (ls : Array Slot), va_P D vwCl [] H → va_S A s.heap H locs → lv_has ls 8 [(5, .long (lN (sat (b ^ k)))), (7, .int (nI k)), (0, .long (lN b)), (2, .int (nI n)), (3, .long (lN q))] → W p l e ({ frames := 1, cells := 0, slots := 0, locals := 23 } : Room) s m args below meth c H locs 0 0 Q (F0 m 6 ls []) := by
    intro nf
    induction nf with
    | zero => intro k i1 hm; exact absurd hm (Nat.not_lt_zero _)
    | succ nf ih6 =>
      intro k i1 hm6 H locs ls hP hS hl
      refine lv_iload hx hb dX5_isEnough_6 (lv_at hl 1 rfl) ?_
      refine lv_iload_n hx hb dX5_isEnough_8 rfl (lv_at hl 3 rfl) ?_
      refine zi_ge (tgt := 26) hx hb dX5_isEnough_9 (by decide) (by omega) (by omega) (fun c9 => ?_) (fun c9 => ?_)
      · have hkn : k = n := by omega
        refine lv_lload hx hb dX5_isEnough_26 (lv_at hl 0 rfl) ?_
        refine lv_lload_n hx hb dX5_isEnough_28 rfl (lv_at hl 4 rfl) ?_
        refine zl_lt (tgt := 37) hx hb dX5_isEnough_29 dX5_isEnough_30 (by decide) (sat_lt _) (by omega) (fun c29 => ?_) (fun c29 => ?_)
        · refine lv_iconst (v := nI 0) hx hb dX5_isEnough_37 (by decide) ?_
          exact hret _ _ _ _ _ hS (Or.inl rfl) (bI_f' (fun q => by rw [hkn] at c29; have := (le_sat hq).mpr q; omega)) dX5_isEnough_38
        · refine lv_iconst (v := nI 1) hx hb dX5_isEnough_33 (by decide) ?_
          refine lv_goto (tgt := 38) hx hb dX5_isEnough_34 (by decide) ?_
          exact hret _ _ _ _ _ hS (Or.inr rfl) (bI_t' (by rw [hkn] at c29; exact (le_sat hq).mp c29)) dX5_isEnough_38
      · refine lv_lload hx hb dX5_isEnough_12 (lv_at hl 0 rfl) ?_
        refine lv_lload_n hx hb dX5_isEnough_14 rfl (lv_at hl 2 rfl) ?_
        refine RO_l.callS (rest := []) (c_X5_product l D (sat (b ^ k)) b (sat_top _) h1) ⟨hx, hb, hml, hown, hts⟩ (va_cwS 2 hts gX5_isEnough_X5_product rfl rfl rfl (by decide +kernel) ⟨Nat.le_of_ble_eq_true rfl, Nat.le_of_ble_eq_true rfl⟩) hK hP hS hA [] [] rfl rfl rfl hl.1 rfl (Nat.le_of_ble_eq_true rfl) dX5_isEnough_15 ⟨Nat.zero_le _, Nat.zero_le _⟩ (fun v2_ H locs e2_ hP hS => ?_)
        obtain rfl : v2_ = lN (sat (sat (b ^ k) * b)) := e2_
        refine lv_topl (fun v3_ e3_ => ?_)
        obtain rfl : v3_ = lN (sat (b ^ (k + 1))) := e3_.trans (congrArg lN (by rw [sat_mul _ h0, Nat.pow_succ]))
        refine lv_lstore (lv' := [(5, .long (lN (sat (b ^ (k + 1))))), (7, .int (nI k)), (0, .long (lN b)), (2, .int (nI n)), (3, .long (lN q))]) hx hb dX5_isEnough_18 hl (by decide) rfl (fun ls hl => ?_)
        refine lv_iinc (v := nI (k + 1)) (lv' := [(7, .int (nI (k + 1))), (5, .long (lN (sat (b ^ (k + 1))))), (0, .long (lN b)), (2, .int (nI n)), (3, .long (lN q))]) hx hb dX5_isEnough_20 hl (k := 1) rfl (by rw [show Int32.ofInt 1 = nI 1 by decide, nI_add]) (by decide) rfl (fun ls hl => ?_)
        refine lv_goto (tgt := 6) hx hb dX5_isEnough_23 (by decide) ?_
        exact ih6 (k + 1) (by omega) (by omega) _ _ _ hP hS (lv_sub hl [1, 0, 2, 3, 4] rfl)
  exact L6 _ 0 (by omega) (Nat.lt_succ_self _) _ _ _ hP hS (lv_sub hl [1, 0, 2, 3, 4] rfl)
set_option maxHeartbeats 4000000 in
set_option maxRecDepth 100000 in
/-- best -/
theorem c_X5_best (l : Launch) (D : va_G) (cI cJ : ClassId) (xm mh mi mz mp mo th bn pl pq pm it : Nat) (HH IN ZZ PO SO : Nat → Nat) (x : Int64) (y : Int32) : WR_i l yX5_best wsX5_best ({ frames := 2, cells := 0, slots := 0, locals := 50 } : Room) D [(xm, .inr (5, [.int (nI th), .int (nI bn), .ref mh, .ref mi, .int (nI pl), .long (lN pq), .int (nI pm), .ref mz, .int (nI it), .ref mp, .ref mo])), (mh, aI cI 65536 HH), (mi, aI cI 65536 IN), (mz, aI cI 62 ZZ), (mp, aJ cJ 4000 PO), (mo, aI cI 4000 SO)] [(cI, .int), (cJ, .long)] [.ref xm, .long x, .int y] (fun (_ : Unit) => [(xm, .inr (5, [.int (nI 0), .int (nI bn), .ref mh, .ref mi, .int (nI pl), .long (lN pq), .int (nI pm), .ref mz, .int (nI it), .ref mp, .ref mo])), (mh, aI cI 65536 HH), (mi, aI cI 65536 IN), (mz, aI cI 62 ZZ), (mp, aJ cJ 4000 PO), (mo, aI cI 4000 SO)]) (fun v _ => (¬ (rnd x ∧ 1 ≤ y.toInt ∧ y.toInt ≤ 62) → v = -2) ∧ (rnd x ∧ 1 ≤ y.toInt ∧ y.toInt ≤ 62 → ∃ xb, isBase x.toInt.toNat y.toInt.toNat 2147483647 xb ∧ v = if 2147483647 < xb then -2 else nI xb)) 0 0 := by
  refine WR_i.of (cc := cX5_best) (maxL := 7) (by decide) rfl (Nat.le_of_ble_eq_true rfl) ?_
  intro p e s m args below meth c ls A Q hx hb hml hts hown hA hP hD hK hl hin hret
  have hown : s.vm.findClass RX5 = some m.cls := hown
  have hl : lv_has ls 7 [(0, .ref xm), (1, .long x), (3, .int y)] := hl
  have hS : va_S A s.heap s.heap [] := va_S.rf
  have hinX5 : ∀ w ∈ wsX50, w ∈ wsX5_best := by decide +kernel
  refine lv_aload_n hx hb dX5_best_0 rfl (lv_at hl 0 rfl) ?_
  refine lv_iconst (v := nI 0) hx hb dX5_best_1 (by decide) ?_
  refine va_put (D := D) (ci := 5) (v := .int (nI 0)) (ty := .int) (C := RX5) (T := TX5) (N := 11) hx hb hts hinX5 tyX5 tyX5_ok nmX5 hown hK hP hD hS 0 rfl rfl 0 (by decide) (hts (.fieldLink RX5 31 "PassSearchModel" "thrown" "I") (by decide +kernel)) (fun _ h9 => h9) rfl (by decide +kernel) rfl rfl (Nat.le_of_ble_eq_true rfl) dX5_best_2 (fun H locs hP hD hS => ?_)
  have hP : va_P D vwCl [(xm, .inr (5, [.int (nI 0), .int (nI bn), .ref mh, .ref mi, .int (nI pl), .long (lN pq), .int (nI pm), .ref mz, .int (nI it), .ref mp, .ref mo])), (mh, aI cI 65536 HH), (mi, aI cI 65536 IN), (mz, aI cI 62 ZZ), (mp, aJ cJ 4000 PO), (mo, aI cI 4000 SO)] H := hP
  have hD : va_D A [(xm, .inr (5, [.int (nI 0), .int (nI bn), .ref mh, .ref mi, .int (nI pl), .long (lN pq), .int (nI pm), .ref mz, .int (nI it), .ref mp, .ref mo])), (mh, aI cI 65536 HH), (mi, aI cI 65536 IN), (mz, aI cI 62 ZZ), (mp, aJ cJ 4000 PO), (mo, aI cI 4000 SO)] := hD
  refine lv_lload_n hx hb dX5_best_5 rfl (lv_at hl 1 rfl) ?_
  refine RO_i.callS (rest := []) (c_X5_isCount l D x) ⟨hx, hb, hml, hown, hts⟩ (va_cwS 1 hts gX5_best_X5_isCount rfl rfl rfl (by decide +kernel) ⟨Nat.le_of_ble_eq_true rfl, Nat.le_of_ble_eq_true rfl⟩) hK hP hS hA [] [] rfl rfl rfl hl.1 rfl (Nat.le_of_ble_eq_true rfl) dX5_best_6 ⟨Nat.zero_le _, Nat.zero_le _⟩ (fun v1_ H locs e1_ hP hS => ?_)
  obtain rfl : v1_ = bI (rnd x) := e1_
  refine zb_eq (tgt := 23) hx hb dX5_best_9 (by decide) (fun c9 => ?_) (fun c9 => ?_)
  · refine lv_bipush (v := (-2)) hx hb dX5_best_23 (by decide) ?_
    exact hret _ (()) _ _ _ _ hP hD hS (⟨fun _ => rfl, fun q => absurd q.1 c9⟩) dX5_best_25
  · refine lv_iload_n hx hb dX5_best_12 rfl (lv_at hl 2 rfl) ?_
    refine lv_iconst (v := nI 1) hx hb dX5_best_13 (by decide) ?_
    refine zq_lt (tgt := 23) hx hb dX5_best_14 (by decide) (fun c14 => ?_) (fun c14 => ?_)
    · rw [show (nI 1).toInt = 1 from by decide] at c14
      refine lv_bipush (v := (-2)) hx hb dX5_best_23 (by decide) ?_
      exact hret _ (()) _ _ _ _ hP hD hS (⟨fun _ => rfl, fun q => by omega⟩) dX5_best_25
    · rw [show (nI 1).toInt = 1 from by decide] at c14
      refine lv_iload_n hx hb dX5_best_17 rfl (lv_at hl 2 rfl) ?_
      refine lv_bipush (v := nI 62) hx hb dX5_best_18 (by decide) ?_
      refine zq_le (tgt := 26) hx hb dX5_best_20 (by decide) (fun c20 => ?_) (fun c20 => ?_)
      · rw [show (nI 62).toInt = 62 from by decide] at c20
        obtain ⟨a, ha, rfl, hxa⟩ := l_of (x := x) (by omega)
        obtain ⟨n, hn, rfl, hyn⟩ := i_of (x := y) (by omega)
        refine lv_lconst (v := lN 1) hx hb dX5_best_26 (by decide) ?_
        refine lv_lstore (lv' := [(4, .long (lN 1)), (0, .ref xm), (1, .long (lN a)), (3, .int (nI n))]) hx hb dX5_best_27 hl (by decide) rfl (fun ls hl => ?_)
        refine lv_bipush (v := nI 31) hx hb dX5_best_29 (by decide) ?_
        refine lv_istore (lv' := [(6, .int (nI 31)), (4, .long (lN 1)), (0, .ref xm), (1, .long (lN a)), (3, .int (nI n))]) hx hb dX5_best_31 hl (by decide) rfl (fun ls hl => ?_)
        have L33 : ∀ (nf : Nat) (nt : Nat) (kx : Int32) (j : Nat), (kx.toInt = (j : Int) - 1 ∧ j ≤ 32) → (isNot a n j nt) → j < nf → ∀ (H : Heap) (locs : List Loc) (ls : Array Slot), va_P D vwCl [(xm, .inr (5, [.int (nI 0), .int (nI bn), .ref mh, .ref mi, .int (nI pl), .long (lN pq), .int (nI pm), .ref mz, .int (nI it), .ref mp, .ref mo])), (mh, aI cI 65536 HH), (mi, aI cI 65536 IN), (mz, aI cI 62 ZZ), (mp, aJ cJ 4000 PO), (mo, aI cI 4000 SO)] H → va_D A [(xm, .inr (5, [.int (nI 0), .int (nI bn), .ref mh, .ref mi, .int (nI pl), .long (lN pq), .int (nI pm), .ref mz, .int (nI it), .ref mp, .ref mo])), (mh, aI cI 65536 HH), (mi, aI cI 65536 IN), (mz, aI cI 62 ZZ), (mp, aJ cJ 4000 PO), (mo, aI cI 4000 SO)] → va_S A s.heap H locs → lv_has ls 7 [(4, .long (lN nt)), (6, .int kx), (0, .ref xm), (1, .long (lN a)), (3, .int (nI n))] → W p l e ({ frames := 2, cells := 0, slots := 0, locals := 50 } : Room) s m args below meth c H locs 0 0 Q (F0 m 33 ls []) := by
          intro nf
          induction nf with
          | zero => intro nt kx j i1 i2 hm; exact absurd hm (Nat.not_lt_zero _)
          | succ nf ih33 =>
            intro nt kx j i1 i2 hm33 H locs ls hP hD hS hl
            refine lv_iload hx hb dX5_best_33 (lv_at hl 1 rfl) ?_
            refine zq_if_lt (tgt := 73) hx hb dX5_best_35 (by decide) (fun c35 => ?_) (fun c35 => ?_)
            · have hj0 : j = 0 := by omega
              rw [hj0] at i2
              have hie := isNot_end i2
              have hi1 := i2.2.2.1
              have hp0 : 2 ^ 0 = 1 := rfl
              refine lv_lload hx hb dX5_best_73 (lv_at hl 0 rfl) ?_
              refine lv_lconst (v := lN 1) hx hb dX5_best_75 (by decide) ?_
              refine zl_add hx hb dX5_best_76  ?_
              refine lv_ldc2 (v := 2147483647) hx hb hown (hts (.constantLong RX5 84 (2147483647)) (by decide +kernel)) dX5_best_77 ?_
              refine W.eq (g2 := F0 m 80 ls [.long (lN 2147483647), .long (lN (nt + 1))]) rfl ?_
              refine zl_le (tgt := 89) hx hb dX5_best_80 dX5_best_81 (by decide) (by omega) (by omega) (fun c80 => ?_) (fun c80 => ?_)
              · refine lv_lload hx hb dX5_best_89 (lv_at hl 0 rfl) ?_
                refine lv_lconst (v := lN 1) hx hb dX5_best_91 (by decide) ?_
                refine zl_add hx hb dX5_best_92  ?_
                refine z_l2i hx hb dX5_best_93 ?_
                exact hret _ (()) _ _ _ _ hP hD hS (⟨fun q => absurd ⟨c9, by omega, by omega⟩ q, fun _ => ⟨nt + 1, by rw [if_neg (by omega)] at hie; rw [hxa, hyn]; exact hie, (if_neg (by omega)).symm⟩⟩) dX5_best_94
              · refine lv_bipush (v := (-2)) hx hb dX5_best_84 (by decide) ?_
                refine lv_goto (tgt := 94) hx hb dX5_best_86 (by decide) ?_
                exact hret _ (()) _ _ _ _ hP hD hS (⟨fun q => absurd ⟨c9, by omega, by omega⟩ q, fun _ => ⟨2147483648, by rw [if_pos c80] at hie; rw [hxa, hyn]; exact hie, by decide⟩⟩) dX5_best_94
            · obtain ⟨k, hk, rfl, hkk⟩ := i_of c35
              obtain rfl : j = k + 1 := by omega
              have hpk := pow31 (k := k) (by omega)
              have hi1 := i2.2.1
              have hi2 := i2.2.2.1
              have hpk2 : 2 ^ (k + 1) = 2 * 2 ^ k := by rw [Nat.pow_succ, Nat.mul_comm]
              refine lv_lload hx hb dX5_best_38 (lv_at hl 0 rfl) ?_
              refine lv_lconst (v := lN 1) hx hb dX5_best_40 (by decide) ?_
              refine lv_iload hx hb dX5_best_41 (lv_at hl 1 rfl) ?_
              refine lv_lshl hx hb dX5_best_43 (sh1 (by omega)) ?_
              refine zl_add hx hb dX5_best_44  ?_
              refine lv_iload_n hx hb dX5_best_45 rfl (lv_at hl 4 rfl) ?_
              refine lv_lload_n hx hb dX5_best_46 rfl (lv_at hl 3 rfl) ?_
              refine RO_i.callS (rest := []) (c_X5_isEnough l D (nt + 2 ^ k) n a (by omega) (by omega) (by omega) (by omega)) ⟨hx, hb, hml, hown, hts⟩ (va_cwS 3 hts gX5_best_X5_isEnough rfl rfl rfl (by decide +kernel) ⟨Nat.le_of_ble_eq_true rfl, Nat.le_of_ble_eq_true rfl⟩) hK hP hS hA [] [] rfl rfl rfl hl.1 rfl (Nat.le_of_ble_eq_true rfl) dX5_best_47 ⟨Nat.zero_le _, Nat.zero_le _⟩ (fun v2_ H locs e2_ hP hS => ?_)
              obtain rfl : v2_ = bI (a ≤ (nt + 2 ^ k) ^ n) := e2_
              refine zb_ne (tgt := 63) hx hb dX5_best_50 (by decide) (fun c50 => ?_) (fun c50 => ?_)
              · refine lv_lload hx hb dX5_best_63 (lv_at hl 0 rfl) ?_
                refine lv_lstore (lv' := [(4, .long (lN nt)), (6, .int (nI k)), (0, .ref xm), (1, .long (lN a)), (3, .int (nI n))]) hx hb dX5_best_65 hl (by decide) rfl (fun ls hl => ?_)
                refine lv_iinc (v := nI k - nI 1) (lv' := [(6, .int (nI k - nI 1)), (4, .long (lN nt)), (0, .ref xm), (1, .long (lN a)), (3, .int (nI n))]) hx hb dX5_best_67 hl (k := 1) rfl (by rw [show Int32.ofInt (-1) = -nI 1 by decide, ← Int32.sub_eq_add_neg]) (by decide) rfl (fun ls hl => ?_)
                refine lv_goto (tgt := 33) hx hb dX5_best_70 (by decide) ?_
                exact ih33 nt (nI k - nI 1) k (⟨by rw [pk_sub_toInt (by omega) (by decide)]; rfl, by omega⟩) (isNot_t i2 c50) (by omega) _ _ _ hP hD hS (lv_sub hl [1, 0, 2, 3, 4] rfl)
              · refine lv_lload hx hb dX5_best_53 (lv_at hl 0 rfl) ?_
                refine lv_lconst (v := lN 1) hx hb dX5_best_55 (by decide) ?_
                refine lv_iload hx hb dX5_best_56 (lv_at hl 1 rfl) ?_
                refine lv_lshl hx hb dX5_best_58 (sh1 (by omega)) ?_
                refine zl_add hx hb dX5_best_59  ?_
                refine lv_goto (tgt := 65) hx hb dX5_best_60 (by decide) ?_
                refine lv_lstore (lv' := [(4, .long (lN (nt + (2 ^ k)))), (6, .int (nI k)), (0, .ref xm), (1, .long (lN a)), (3, .int (nI n))]) hx hb dX5_best_65 hl (by decide) rfl (fun ls hl => ?_)
                refine lv_iinc (v := nI k - nI 1) (lv' := [(6, .int (nI k - nI 1)), (4, .long (lN (nt + (2 ^ k)))), (0, .ref xm), (1, .long (lN a)), (3, .int (nI n))]) hx hb dX5_best_67 hl (k := 1) rfl (by rw [show Int32.ofInt (-1) = -nI 1 by decide, ← Int32.sub_eq_add_neg]) (by decide) rfl (fun ls hl => ?_)
                refine lv_goto (tgt := 33) hx hb dX5_best_70 (by decide) ?_
                exact ih33 (nt + (2 ^ k)) (nI k - nI 1) k (⟨by rw [pk_sub_toInt (by omega) (by decide)]; rfl, by omega⟩) (isNot_f i2 c50) (by omega) _ _ _ hP hD hS (lv_sub hl [1, 0, 2, 3, 4] rfl)
        exact L33 _ 1 (nI 31) 32 (by decide) (isNot_0 _ _) (Nat.lt_succ_self _) _ _ _ hP hD hS (lv_sub hl [1, 0, 2, 3, 4] rfl)
      · rw [show (nI 62).toInt = 62 from by decide] at c20
        refine lv_bipush (v := (-2)) hx hb dX5_best_23 (by decide) ?_
        exact hret _ (()) _ _ _ _ hP hD hS (⟨fun _ => rfl, fun q => by omega⟩) dX5_best_25
set_option maxHeartbeats 4000000 in
set_option maxRecDepth 100000 in
/-- height -/
theorem c_X5_height (l : Launch) (D : va_G) (cI cJ : ClassId) (xm mh mi mz mp mo th bn pl pq pm it : Nat) (HH IN ZZ PO SO : Nat → Nat) (fa : Nat → Nat) (x y : Int32) (hbn : bn ≤ 65536) (hH : ∀ b, b < 65536 → HH b = hOf fa b) : WR_i l yX5_height wsX5_height ({ frames := 0, cells := 0, slots := 0, locals := 0 } : Room) D [(xm, .inr (5, [.int (nI th), .int (nI bn), .ref mh, .ref mi, .int (nI pl), .long (lN pq), .int (nI pm), .ref mz, .int (nI it), .ref mp, .ref mo])), (mh, aI cI 65536 HH), (mi, aI cI 65536 IN), (mz, aI cI 62 ZZ), (mp, aJ cJ 4000 PO), (mo, aI cI 4000 SO)] [(cI, .int), (cJ, .long)] [.ref xm, .int x, .int y] (fun (u : Nat → Nat) => [(xm, .inr (5, [.int (nI 0), .int (nI bn), .ref mh, .ref mi, .int (nI pl), .long (lN pq), .int (nI pm), .ref mz, .int (nI it), .ref mp, .ref mo])), (mh, aI cI 65536 u), (mi, aI cI 65536 IN), (mz, aI cI 62 ZZ), (mp, aJ cJ 4000 PO), (mo, aI cI 4000 SO)]) (fun v u => v = heiC bn fa x y ∧ ∀ b, b < 65536 → u b = hOf (heiF bn fa x y) b) 0 0 := by
  refine WR_i.of (cc := cX5_height) (maxL := 4) (by decide) rfl (Nat.le_of_ble_eq_true rfl) ?_
  intro p e s m args below meth c ls A Q hx hb hml hts hown hA hP hD hK hl hin hret
  have hown : s.vm.findClass RX5 = some m.cls := hown
  have hl : lv_has ls 4 [(0, .ref xm), (1, .int x), (2, .int y)] := hl
  have hS : va_S A s.heap s.heap [] := va_S.rf
  have hinX5 : ∀ w ∈ wsX50, w ∈ wsX5_height := by decide +kernel
  refine lv_aload_n hx hb dX5_height_0 rfl (lv_at hl 0 rfl) ?_
  refine lv_iconst (v := nI 0) hx hb dX5_height_1 (by decide) ?_
  refine va_put (D := D) (ci := 5) (v := .int (nI 0)) (ty := .int) (C := RX5) (T := TX5) (N := 11) hx hb hts hinX5 tyX5 tyX5_ok nmX5 hown hK hP hD hS 0 rfl rfl 0 (by decide) (hts (.fieldLink RX5 31 "PassSearchModel" "thrown" "I") (by decide +kernel)) (fun _ h9 => h9) rfl (by decide +kernel) rfl rfl (Nat.le_of_ble_eq_true rfl) dX5_height_2 (fun H locs hP hD hS => ?_)
  have hP : va_P D vwCl [(xm, .inr (5, [.int (nI 0), .int (nI bn), .ref mh, .ref mi, .int (nI pl), .long (lN pq), .int (nI pm), .ref mz, .int (nI it), .ref mp, .ref mo])), (mh, aI cI 65536 HH), (mi, aI cI 65536 IN), (mz, aI cI 62 ZZ), (mp, aJ cJ 4000 PO), (mo, aI cI 4000 SO)] H := hP
  have hD : va_D A [(xm, .inr (5, [.int (nI 0), .int (nI bn), .ref mh, .ref mi, .int (nI pl), .long (lN pq), .int (nI pm), .ref mz, .int (nI it), .ref mp, .ref mo])), (mh, aI cI 65536 HH), (mi, aI cI 65536 IN), (mz, aI cI 62 ZZ), (mp, aJ cJ 4000 PO), (mo, aI cI 4000 SO)] := hD
  refine lv_iload_n hx hb dX5_height_5 rfl (lv_at hl 1 rfl) ?_
  refine zq_if_lt (tgt := 17) hx hb dX5_height_6 (by decide) (fun c6 => ?_) (fun c6 => ?_)
  · refine lv_iconst (v := (-1)) hx hb dX5_height_17 (by decide) ?_
    exact hret _ (HH) _ _ _ _ hP hD hS (⟨by rw [heiC, if_pos (by omega)], by rw [heiF_bad (by omega)]; exact hH⟩) dX5_height_18
  · refine lv_iload_n hx hb dX5_height_9 rfl (lv_at hl 1 rfl) ?_
    refine lv_aload_n hx hb dX5_height_10 rfl (lv_at hl 0 rfl) ?_
    refine va_get (D := D) (ci := 5) (v := .int (nI bn)) (C := RX5) (T := TX5) (N := 11) hx hb hts hinX5 hown hK hP 0 rfl rfl 1 (by decide) (hts (.fieldLink RX5 27 "PassSearchModel" "bins" "I") (by decide +kernel)) (fun _ h9 => h9) rfl dX5_height_11 ?_
    refine zq_lt (tgt := 19) hx hb dX5_height_14 (by decide) (fun c14 => ?_) (fun c14 => ?_)
    · rw [nI_toInt (by omega)] at c14
      refine lv_iload_n hx hb dX5_height_19 rfl (lv_at hl 2 rfl) ?_
      refine lv_iconst (v := nI 1) hx hb dX5_height_20 (by decide) ?_
      refine zq_lt (tgt := 30) hx hb dX5_height_21 (by decide) (fun c21 => ?_) (fun c21 => ?_)
      · rw [show (nI 1).toInt = 1 from by decide] at c21
        refine lv_bipush (v := (-2)) hx hb dX5_height_30 (by decide) ?_
        exact hret _ (HH) _ _ _ _ hP hD hS (⟨by rw [heiC, if_neg (by omega), if_pos (by omega)], by rw [heiF_bad (by omega)]; exact hH⟩) dX5_height_32
      · rw [show (nI 1).toInt = 1 from by decide] at c21
        refine lv_iload_n hx hb dX5_height_24 rfl (lv_at hl 2 rfl) ?_
        refine lv_ldc (v := 100000) hx hb hown (hts (.constant RX5 86 (100000)) (by decide +kernel)) dX5_height_25 ?_
        refine W.eq (g2 := F0 m 27 ls [.int (nI 100000), .int y]) rfl ?_
        refine zq_le (tgt := 33) hx hb dX5_height_27 (by decide) (fun c27 => ?_) (fun c27 => ?_)
        · rw [show (nI 100000).toInt = 100000 from by decide] at c27
          obtain ⟨b, hb2, rfl, hxb⟩ := i_of (x := x) (by omega)
          obtain ⟨n, hn, rfl, hyn⟩ := i_of (x := y) (by omega)
          refine lv_aload_n hx hb dX5_height_33 rfl (lv_at hl 0 rfl) ?_
          refine va_get (D := D) (ci := 5) (v := .ref mh) (C := RX5) (T := TX5) (N := 11) hx hb hts hinX5 hown hK hP 0 rfl rfl 2 (by decide) (hts (.fieldLink RX5 8 "PassSearchModel" "heights" "[I") (by decide +kernel)) (fun _ h9 => h9) rfl dX5_height_34 ?_
          refine lv_iload_n hx hb dX5_height_37 rfl (lv_at hl 1 rfl) ?_
          refine zi_ald hx hb hK hP 1 0 rfl rfl (k := b) (by omega) (by omega) dX5_height_38 ?_
          refine lv_istore_n (lv' := [(3, .int (nI (HH b))), (0, .ref xm), (1, .int (nI b)), (2, .int (nI n))]) hx hb dX5_height_39 rfl hl (by decide) rfl (fun ls hl => ?_)
          refine lv_aload_n hx hb dX5_height_40 rfl (lv_at hl 1 rfl) ?_
          refine va_get (D := D) (ci := 5) (v := .ref mh) (C := RX5) (T := TX5) (N := 11) hx hb hts hinX5 hown hK hP 0 rfl rfl 2 (by decide) (hts (.fieldLink RX5 8 "PassSearchModel" "heights" "[I") (by decide +kernel)) (fun _ h9 => h9) rfl dX5_height_41 ?_
          refine lv_iload_n hx hb dX5_height_44 rfl (lv_at hl 2 rfl) ?_
          refine lv_iload_n hx hb dX5_height_45 rfl (lv_at hl 3 rfl) ?_
          refine zi_ast hx hb hK hP hD hS 1 0 rfl rfl (k := b) (x := n) (by omega) (by omega) dX5_height_46 (fun H locs hP hD hS => ?_)
          have hP : va_P D vwCl [(xm, .inr (5, [.int (nI 0), .int (nI bn), .ref mh, .ref mi, .int (nI pl), .long (lN pq), .int (nI pm), .ref mz, .int (nI it), .ref mp, .ref mo])), (mh, aI cI 65536 (uF HH b n)), (mi, aI cI 65536 IN), (mz, aI cI 62 ZZ), (mp, aJ cJ 4000 PO), (mo, aI cI 4000 SO)] H := hP
          have hD : va_D A [(xm, .inr (5, [.int (nI 0), .int (nI bn), .ref mh, .ref mi, .int (nI pl), .long (lN pq), .int (nI pm), .ref mz, .int (nI it), .ref mp, .ref mo])), (mh, aI cI 65536 (uF HH b n)), (mi, aI cI 65536 IN), (mz, aI cI 62 ZZ), (mp, aJ cJ 4000 PO), (mo, aI cI 4000 SO)] := hD
          refine lv_iload_n hx hb dX5_height_47 rfl (lv_at hl 0 rfl) ?_
          exact hret _ (uF HH b n) _ _ _ _ hP hD hS (⟨by rw [heiC, if_neg (by omega), if_neg (by omega), hxb, hH b (by omega)]; rfl, fun t ht => by
              rw [heiF, if_pos ⟨⟨by omega, by omega⟩, by omega, by omega⟩, hxb, hyn]
              by_cases hq : t = b
              · rw [hq, uF_s, hOf]; simp only [Int.toNat_natCast]; rw [uF_s, if_neg (by omega)]
              · rw [uF_n hq, hH t ht, hOf, hOf]; simp only [Int.toNat_natCast]; rw [uF_n hq]⟩) dX5_height_48
        · rw [show (nI 100000).toInt = 100000 from by decide] at c27
          refine lv_bipush (v := (-2)) hx hb dX5_height_30 (by decide) ?_
          exact hret _ (HH) _ _ _ _ hP hD hS (⟨by rw [heiC, if_neg (by omega), if_pos (by omega)], by rw [heiF_bad (by omega)]; exact hH⟩) dX5_height_32
    · rw [nI_toInt (by omega)] at c14
      refine lv_iconst (v := (-1)) hx hb dX5_height_17 (by decide) ?_
      exact hret _ (HH) _ _ _ _ hP hD hS (⟨by rw [heiC, if_pos (by omega)], by rw [heiF_bad (by omega)]; exact hH⟩) dX5_height_18
set_option maxHeartbeats 4000000 in
set_option maxRecDepth 100000 in
/-- order -/
theorem c_X5_order (l : Launch) (D : va_G) (cI cJ : ClassId) (xm mh mi mz mp mo th bn pl pq pm it : Nat) (HH IN ZZ PO SO : Nat → Nat) (x : Int32) (hpq : (pl = 0 ∧ pq = 0) ∨ (pl = 1 ∧ 1 ≤ pq)) (hit : it ≤ 4000) (hpn : pm ≤ 62) : WR_i l yX5_order wsX5_order ({ frames := 1, cells := 0, slots := 0, locals := 21 } : Room) D [(xm, .inr (5, [.int (nI th), .int (nI bn), .ref mh, .ref mi, .int (nI pl), .long (lN pq), .int (nI pm), .ref mz, .int (nI it), .ref mp, .ref mo])), (mh, aI cI 65536 HH), (mi, aI cI 65536 IN), (mz, aI cI 62 ZZ), (mp, aJ cJ 4000 PO), (mo, aI cI 4000 SO)] [(cI, .int), (cJ, .long)] [.ref xm, .int x] (fun (_ : Unit) => [(xm, .inr (5, [.int (nI 0), .int (nI bn), .ref mh, .ref mi, .int (nI pl), .long (lN pq), .int (nI pm), .ref mz, .int (nI it), .ref mp, .ref mo])), (mh, aI cI 65536 HH), (mi, aI cI 65536 IN), (mz, aI cI 62 ZZ), (mp, aJ cJ 4000 PO), (mo, aI cI 4000 SO)]) (fun v _ => (¬ knI pq it x → v = -1) ∧ (knI pq it x → pq = 0 → v = -3) ∧ (knI pq it x → 0 < pq → v = if pm = 0 then nI x.toInt.toNat else nI (SO x.toInt.toNat))) 0 0 := by
  refine WR_i.of (cc := cX5_order) (maxL := 2) (by decide) rfl (Nat.le_of_ble_eq_true rfl) ?_
  intro p e s m args below meth c ls A Q hx hb hml hts hown hA hP hD hK hl hin hret
  have hown : s.vm.findClass RX5 = some m.cls := hown
  have hl : lv_has ls 2 [(0, .ref xm), (1, .int x)] := hl
  have hS : va_S A s.heap s.heap [] := va_S.rf
  have hinX5 : ∀ w ∈ wsX50, w ∈ wsX5_order := by decide +kernel
  refine lv_aload_n hx hb dX5_order_0 rfl (lv_at hl 0 rfl) ?_
  refine lv_iconst (v := nI 0) hx hb dX5_order_1 (by decide) ?_
  refine va_put (D := D) (ci := 5) (v := .int (nI 0)) (ty := .int) (C := RX5) (T := TX5) (N := 11) hx hb hts hinX5 tyX5 tyX5_ok nmX5 hown hK hP hD hS 0 rfl rfl 0 (by decide) (hts (.fieldLink RX5 31 "PassSearchModel" "thrown" "I") (by decide +kernel)) (fun _ h9 => h9) rfl (by decide +kernel) rfl rfl (Nat.le_of_ble_eq_true rfl) dX5_order_2 (fun H locs hP hD hS => ?_)
  have hP : va_P D vwCl [(xm, .inr (5, [.int (nI 0), .int (nI bn), .ref mh, .ref mi, .int (nI pl), .long (lN pq), .int (nI pm), .ref mz, .int (nI it), .ref mp, .ref mo])), (mh, aI cI 65536 HH), (mi, aI cI 65536 IN), (mz, aI cI 62 ZZ), (mp, aJ cJ 4000 PO), (mo, aI cI 4000 SO)] H := hP
  have hD : va_D A [(xm, .inr (5, [.int (nI 0), .int (nI bn), .ref mh, .ref mi, .int (nI pl), .long (lN pq), .int (nI pm), .ref mz, .int (nI it), .ref mp, .ref mo])), (mh, aI cI 65536 HH), (mi, aI cI 65536 IN), (mz, aI cI 62 ZZ), (mp, aJ cJ 4000 PO), (mo, aI cI 4000 SO)] := hD
  refine lv_aload_n hx hb dX5_order_5 rfl (lv_at hl 0 rfl) ?_
  refine lv_iload_n hx hb dX5_order_6 rfl (lv_at hl 1 rfl) ?_
  refine RO_i.callV (rest := []) (c_X5_isItem l D cI cJ xm mh mi mz mp mo 0 bn pl pq pm it HH IN ZZ PO SO x hpq (by omega)) ⟨hx, hb, hml, hown, hts⟩ (cwV 1 hts gX5_order_X5_isItem rfl rfl rfl (by decide +kernel) ⟨Nat.le_of_ble_eq_true rfl, Nat.le_of_ble_eq_true rfl⟩) hK hP hS hA [0, 1, 2, 3, 4, 5] [0, 1] rfl rfl 0 5 rfl rfl rfl rfl hl.1 rfl (Nat.le_of_ble_eq_true rfl) dX5_order_7 ⟨Nat.zero_le _, Nat.zero_le _⟩ (fun v1_ H locs e1_ hP hS => ?_)
  obtain rfl : v1_ = bI (knI pq it x) := e1_
  refine zb_ne (tgt := 15) hx hb dX5_order_10 (by decide) (fun c10 => ?_) (fun c10 => ?_)
  · refine lv_aload_n hx hb dX5_order_15 rfl (lv_at hl 0 rfl) ?_
    refine va_get (D := D) (ci := 5) (v := .int (nI pl)) (C := RX5) (T := TX5) (N := 11) hx hb hts hinX5 hown hK hP 0 rfl rfl 4 (by decide) (hts (.fieldLink RX5 59 "PassSearchModel" "planned" "Z") (by decide +kernel)) (fun _ h9 => h9) rfl dX5_order_16 ?_
    refine zi_if_eq (tgt := 42) hx hb dX5_order_19 (by decide) (by omega) (fun c19 => ?_) (fun c19 => ?_)
    · refine lv_bipush (v := (-3)) hx hb dX5_order_42 (by decide) ?_
      exact hret _ (()) _ _ _ _ hP hD hS (⟨fun q => absurd c10 q, fun _ _ => rfl, fun _ q => by omega⟩) dX5_order_44
    · obtain ⟨i, hi1, rfl, hxi⟩ := i_of c10.1
      refine lv_aload_n hx hb dX5_order_22 rfl (lv_at hl 0 rfl) ?_
      refine va_get (D := D) (ci := 5) (v := .int (nI pm)) (C := RX5) (T := TX5) (N := 11) hx hb hts hinX5 hown hK hP 0 rfl rfl 6 (by decide) (hts (.fieldLink RX5 42 "PassSearchModel" "passes" "I") (by decide +kernel)) (fun _ h9 => h9) rfl dX5_order_23 ?_
      refine zi_if_ne (tgt := 33) hx hb dX5_order_26 (by decide) (by omega) (fun c26 => ?_) (fun c26 => ?_)
      · refine lv_aload_n hx hb dX5_order_33 rfl (lv_at hl 0 rfl) ?_
        refine va_get (D := D) (ci := 5) (v := .ref mo) (C := RX5) (T := TX5) (N := 11) hx hb hts hinX5 hown hK hP 0 rfl rfl 10 (by decide) (hts (.fieldLink RX5 24 "PassSearchModel" "sorted" "[I") (by decide +kernel)) (fun _ h9 => h9) rfl dX5_order_34 ?_
        refine lv_iload_n hx hb dX5_order_37 rfl (lv_at hl 1 rfl) ?_
        refine zi_ald hx hb hK hP 5 0 rfl rfl (k := i) (by omega) (by omega) dX5_order_38 ?_
        refine lv_goto (tgt := 44) hx hb dX5_order_39 (by decide) ?_
        exact hret _ (()) _ _ _ _ hP hD hS (⟨fun q => absurd c10 q, fun _ q => by omega, fun _ _ => by rw [if_neg (by omega), hxi]; rfl⟩) dX5_order_44
      · refine lv_iload_n hx hb dX5_order_29 rfl (lv_at hl 1 rfl) ?_
        refine lv_goto (tgt := 44) hx hb dX5_order_30 (by decide) ?_
        exact hret _ (()) _ _ _ _ hP hD hS (⟨fun q => absurd c10 q, fun _ q => by omega, fun _ _ => by rw [if_pos (by omega), hxi]; rfl⟩) dX5_order_44
  · refine lv_iconst (v := (-1)) hx hb dX5_order_13 (by decide) ?_
    exact hret _ (()) _ _ _ _ hP hD hS (⟨fun _ => rfl, fun q => absurd q c10, fun q => absurd q c10⟩) dX5_order_14
set_option maxHeartbeats 4000000 in
set_option maxRecDepth 100000 in
/-- digits -/
theorem c_X5_digits (l : Launch) (D : va_G) (cI cJ : ClassId) (xm mh mi mz mp mo th bn pl pq pm it : Nat) (HH IN ZZ PO SO : Nat → Nat) (y : Int32) (hpq : (pl = 0 ∧ pq = 0) ∨ (pl = 1 ∧ 1 ≤ pq)) (hpn : pm ≤ 62) : WR_i l yX5_digits wsX5_digits ({ frames := 0, cells := 0, slots := 0, locals := 0 } : Room) D [(xm, .inr (5, [.int (nI th), .int (nI bn), .ref mh, .ref mi, .int (nI pl), .long (lN pq), .int (nI pm), .ref mz, .int (nI it), .ref mp, .ref mo])), (mh, aI cI 65536 HH), (mi, aI cI 65536 IN), (mz, aI cI 62 ZZ), (mp, aJ cJ 4000 PO), (mo, aI cI 4000 SO)] [(cI, .int), (cJ, .long)] [.ref xm, .int y] (fun (u : Nat) => [(xm, .inr (5, [.int (nI u), .int (nI bn), .ref mh, .ref mi, .int (nI pl), .long (lN pq), .int (nI pm), .ref mz, .int (nI it), .ref mp, .ref mo])), (mh, aI cI 65536 HH), (mi, aI cI 65536 IN), (mz, aI cI 62 ZZ), (mp, aJ cJ 4000 PO), (mo, aI cI 4000 SO)]) (fun v u => (¬ (0 < pq ∧ 0 ≤ y.toInt ∧ y.toInt < (pm : Int)) → v = nI 0 ∧ u = 1) ∧ (0 < pq ∧ 0 ≤ y.toInt ∧ y.toInt < (pm : Int) → v = nI (ZZ y.toInt.toNat) ∧ u = 0)) 0 0 := by
  refine WR_i.of (cc := cX5_digits) (maxL := 2) (by decide) rfl (Nat.le_of_ble_eq_true rfl) ?_
  intro p e s m args below meth c ls A Q hx hb hml hts hown hA hP hD hK hl hin hret
  have hown : s.vm.findClass RX5 = some m.cls := hown
  have hl : lv_has ls 2 [(0, .ref xm), (1, .int y)] := hl
  have hS : va_S A s.heap s.heap [] := va_S.rf
  have hinX5 : ∀ w ∈ wsX50, w ∈ wsX5_digits := by decide +kernel
  refine lv_aload_n hx hb dX5_digits_0 rfl (lv_at hl 0 rfl) ?_
  refine lv_aload_n hx hb dX5_digits_1 rfl (lv_at hl 0 rfl) ?_
  refine va_get (D := D) (ci := 5) (v := .int (nI pl)) (C := RX5) (T := TX5) (N := 11) hx hb hts hinX5 hown hK hP 0 rfl rfl 4 (by decide) (hts (.fieldLink RX5 59 "PassSearchModel" "planned" "Z") (by decide +kernel)) (fun _ h9 => h9) rfl dX5_digits_2 ?_
  refine zi_if_eq (tgt := 20) hx hb dX5_digits_5 (by decide) (by omega) (fun c5 => ?_) (fun c5 => ?_)
  · refine lv_iconst (v := nI 1) hx hb dX5_digits_20 (by decide) ?_
    refine lv_goto (tgt := 25) hx hb dX5_digits_21 (by decide) ?_
    refine va_put (D := D) (ci := 5) (v := .int (nI 1)) (ty := .int) (C := RX5) (T := TX5) (N := 11) hx hb hts hinX5 tyX5 tyX5_ok nmX5 hown hK hP hD hS 0 rfl rfl 0 (by decide) (hts (.fieldLink RX5 31 "PassSearchModel" "thrown" "I") (by decide +kernel)) (fun _ h9 => h9) rfl (by decide +kernel) rfl rfl (Nat.le_of_ble_eq_true rfl) dX5_digits_25 (fun H locs hP hD hS => ?_)
    have hP : va_P D vwCl [(xm, .inr (5, [.int (nI 1), .int (nI bn), .ref mh, .ref mi, .int (nI pl), .long (lN pq), .int (nI pm), .ref mz, .int (nI it), .ref mp, .ref mo])), (mh, aI cI 65536 HH), (mi, aI cI 65536 IN), (mz, aI cI 62 ZZ), (mp, aJ cJ 4000 PO), (mo, aI cI 4000 SO)] H := hP
    have hD : va_D A [(xm, .inr (5, [.int (nI 1), .int (nI bn), .ref mh, .ref mi, .int (nI pl), .long (lN pq), .int (nI pm), .ref mz, .int (nI it), .ref mp, .ref mo])), (mh, aI cI 65536 HH), (mi, aI cI 65536 IN), (mz, aI cI 62 ZZ), (mp, aJ cJ 4000 PO), (mo, aI cI 4000 SO)] := hD
    refine lv_aload_n hx hb dX5_digits_28 rfl (lv_at hl 0 rfl) ?_
    refine va_get (D := D) (ci := 5) (v := .int (nI 1)) (C := RX5) (T := TX5) (N := 11) hx hb hts hinX5 hown hK hP 0 rfl rfl 0 (by decide) (hts (.fieldLink RX5 31 "PassSearchModel" "thrown" "I") (by decide +kernel)) (fun _ h9 => h9) rfl dX5_digits_29 ?_
    refine zi_if_le (tgt := 39) hx hb dX5_digits_32 (by decide) (by omega) (fun c32 => ?_) (fun c32 => ?_)
    · exact False.elim (by omega)
    · refine lv_iconst (v := nI 0) hx hb dX5_digits_35 (by decide) ?_
      refine lv_goto (tgt := 45) hx hb dX5_digits_36 (by decide) ?_
      exact hret _ (1) _ _ _ _ hP hD hS (⟨fun _ => ⟨rfl, rfl⟩, fun q => by omega⟩) dX5_digits_45
  · refine lv_iload_n hx hb dX5_digits_8 rfl (lv_at hl 1 rfl) ?_
    refine zq_if_lt (tgt := 20) hx hb dX5_digits_9 (by decide) (fun c9 => ?_) (fun c9 => ?_)
    · refine lv_iconst (v := nI 1) hx hb dX5_digits_20 (by decide) ?_
      refine lv_goto (tgt := 25) hx hb dX5_digits_21 (by decide) ?_
      refine va_put (D := D) (ci := 5) (v := .int (nI 1)) (ty := .int) (C := RX5) (T := TX5) (N := 11) hx hb hts hinX5 tyX5 tyX5_ok nmX5 hown hK hP hD hS 0 rfl rfl 0 (by decide) (hts (.fieldLink RX5 31 "PassSearchModel" "thrown" "I") (by decide +kernel)) (fun _ h9 => h9) rfl (by decide +kernel) rfl rfl (Nat.le_of_ble_eq_true rfl) dX5_digits_25 (fun H locs hP hD hS => ?_)
      have hP : va_P D vwCl [(xm, .inr (5, [.int (nI 1), .int (nI bn), .ref mh, .ref mi, .int (nI pl), .long (lN pq), .int (nI pm), .ref mz, .int (nI it), .ref mp, .ref mo])), (mh, aI cI 65536 HH), (mi, aI cI 65536 IN), (mz, aI cI 62 ZZ), (mp, aJ cJ 4000 PO), (mo, aI cI 4000 SO)] H := hP
      have hD : va_D A [(xm, .inr (5, [.int (nI 1), .int (nI bn), .ref mh, .ref mi, .int (nI pl), .long (lN pq), .int (nI pm), .ref mz, .int (nI it), .ref mp, .ref mo])), (mh, aI cI 65536 HH), (mi, aI cI 65536 IN), (mz, aI cI 62 ZZ), (mp, aJ cJ 4000 PO), (mo, aI cI 4000 SO)] := hD
      refine lv_aload_n hx hb dX5_digits_28 rfl (lv_at hl 0 rfl) ?_
      refine va_get (D := D) (ci := 5) (v := .int (nI 1)) (C := RX5) (T := TX5) (N := 11) hx hb hts hinX5 hown hK hP 0 rfl rfl 0 (by decide) (hts (.fieldLink RX5 31 "PassSearchModel" "thrown" "I") (by decide +kernel)) (fun _ h9 => h9) rfl dX5_digits_29 ?_
      refine zi_if_le (tgt := 39) hx hb dX5_digits_32 (by decide) (by omega) (fun c32 => ?_) (fun c32 => ?_)
      · exact False.elim (by omega)
      · refine lv_iconst (v := nI 0) hx hb dX5_digits_35 (by decide) ?_
        refine lv_goto (tgt := 45) hx hb dX5_digits_36 (by decide) ?_
        exact hret _ (1) _ _ _ _ hP hD hS (⟨fun _ => ⟨rfl, rfl⟩, fun q => by omega⟩) dX5_digits_45
    · refine lv_iload_n hx hb dX5_digits_12 rfl (lv_at hl 1 rfl) ?_
      refine lv_aload_n hx hb dX5_digits_13 rfl (lv_at hl 0 rfl) ?_
      refine va_get (D := D) (ci := 5) (v := .int (nI pm)) (C := RX5) (T := TX5) (N := 11) hx hb hts hinX5 hown hK hP 0 rfl rfl 6 (by decide) (hts (.fieldLink RX5 42 "PassSearchModel" "passes" "I") (by decide +kernel)) (fun _ h9 => h9) rfl dX5_digits_14 ?_
      refine zq_lt (tgt := 24) hx hb dX5_digits_17 (by decide) (fun c17 => ?_) (fun c17 => ?_)
      · rw [nI_toInt (by omega)] at c17
        refine lv_iconst (v := nI 0) hx hb dX5_digits_24 (by decide) ?_
        refine va_put (D := D) (ci := 5) (v := .int (nI 0)) (ty := .int) (C := RX5) (T := TX5) (N := 11) hx hb hts hinX5 tyX5 tyX5_ok nmX5 hown hK hP hD hS 0 rfl rfl 0 (by decide) (hts (.fieldLink RX5 31 "PassSearchModel" "thrown" "I") (by decide +kernel)) (fun _ h9 => h9) rfl (by decide +kernel) rfl rfl (Nat.le_of_ble_eq_true rfl) dX5_digits_25 (fun H locs hP hD hS => ?_)
        have hP : va_P D vwCl [(xm, .inr (5, [.int (nI 0), .int (nI bn), .ref mh, .ref mi, .int (nI pl), .long (lN pq), .int (nI pm), .ref mz, .int (nI it), .ref mp, .ref mo])), (mh, aI cI 65536 HH), (mi, aI cI 65536 IN), (mz, aI cI 62 ZZ), (mp, aJ cJ 4000 PO), (mo, aI cI 4000 SO)] H := hP
        have hD : va_D A [(xm, .inr (5, [.int (nI 0), .int (nI bn), .ref mh, .ref mi, .int (nI pl), .long (lN pq), .int (nI pm), .ref mz, .int (nI it), .ref mp, .ref mo])), (mh, aI cI 65536 HH), (mi, aI cI 65536 IN), (mz, aI cI 62 ZZ), (mp, aJ cJ 4000 PO), (mo, aI cI 4000 SO)] := hD
        refine lv_aload_n hx hb dX5_digits_28 rfl (lv_at hl 0 rfl) ?_
        refine va_get (D := D) (ci := 5) (v := .int (nI 0)) (C := RX5) (T := TX5) (N := 11) hx hb hts hinX5 hown hK hP 0 rfl rfl 0 (by decide) (hts (.fieldLink RX5 31 "PassSearchModel" "thrown" "I") (by decide +kernel)) (fun _ h9 => h9) rfl dX5_digits_29 ?_
        refine zi_if_le (tgt := 39) hx hb dX5_digits_32 (by decide) (by omega) (fun c32 => ?_) (fun c32 => ?_)
        · obtain ⟨k, hk, rfl, hyk⟩ := i_of (x := y) (by omega)
          refine lv_aload_n hx hb dX5_digits_39 rfl (lv_at hl 0 rfl) ?_
          refine va_get (D := D) (ci := 5) (v := .ref mz) (C := RX5) (T := TX5) (N := 11) hx hb hts hinX5 hown hK hP 0 rfl rfl 7 (by decide) (hts (.fieldLink RX5 17 "PassSearchModel" "sizes" "[I") (by decide +kernel)) (fun _ h9 => h9) rfl dX5_digits_40 ?_
          refine lv_iload_n hx hb dX5_digits_43 rfl (lv_at hl 1 rfl) ?_
          refine zi_ald hx hb hK hP 3 0 rfl rfl (k := k) (by omega) (by omega) dX5_digits_44 ?_
          exact hret _ (0) _ _ _ _ hP hD hS (⟨fun q => absurd ⟨by omega, by omega, by omega⟩ q, fun _ => ⟨by rw [hyk]; rfl, rfl⟩⟩) dX5_digits_45
        · exact False.elim (by omega)
      · rw [nI_toInt (by omega)] at c17
        refine lv_iconst (v := nI 1) hx hb dX5_digits_20 (by decide) ?_
        refine lv_goto (tgt := 25) hx hb dX5_digits_21 (by decide) ?_
        refine va_put (D := D) (ci := 5) (v := .int (nI 1)) (ty := .int) (C := RX5) (T := TX5) (N := 11) hx hb hts hinX5 tyX5 tyX5_ok nmX5 hown hK hP hD hS 0 rfl rfl 0 (by decide) (hts (.fieldLink RX5 31 "PassSearchModel" "thrown" "I") (by decide +kernel)) (fun _ h9 => h9) rfl (by decide +kernel) rfl rfl (Nat.le_of_ble_eq_true rfl) dX5_digits_25 (fun H locs hP hD hS => ?_)
        have hP : va_P D vwCl [(xm, .inr (5, [.int (nI 1), .int (nI bn), .ref mh, .ref mi, .int (nI pl), .long (lN pq), .int (nI pm), .ref mz, .int (nI it), .ref mp, .ref mo])), (mh, aI cI 65536 HH), (mi, aI cI 65536 IN), (mz, aI cI 62 ZZ), (mp, aJ cJ 4000 PO), (mo, aI cI 4000 SO)] H := hP
        have hD : va_D A [(xm, .inr (5, [.int (nI 1), .int (nI bn), .ref mh, .ref mi, .int (nI pl), .long (lN pq), .int (nI pm), .ref mz, .int (nI it), .ref mp, .ref mo])), (mh, aI cI 65536 HH), (mi, aI cI 65536 IN), (mz, aI cI 62 ZZ), (mp, aJ cJ 4000 PO), (mo, aI cI 4000 SO)] := hD
        refine lv_aload_n hx hb dX5_digits_28 rfl (lv_at hl 0 rfl) ?_
        refine va_get (D := D) (ci := 5) (v := .int (nI 1)) (C := RX5) (T := TX5) (N := 11) hx hb hts hinX5 hown hK hP 0 rfl rfl 0 (by decide) (hts (.fieldLink RX5 31 "PassSearchModel" "thrown" "I") (by decide +kernel)) (fun _ h9 => h9) rfl dX5_digits_29 ?_
        refine zi_if_le (tgt := 39) hx hb dX5_digits_32 (by decide) (by omega) (fun c32 => ?_) (fun c32 => ?_)
        · exact False.elim (by omega)
        · refine lv_iconst (v := nI 0) hx hb dX5_digits_35 (by decide) ?_
          refine lv_goto (tgt := 45) hx hb dX5_digits_36 (by decide) ?_
          exact hret _ (1) _ _ _ _ hP hD hS (⟨fun _ => ⟨rfl, rfl⟩, fun q => by omega⟩) dX5_digits_45
set_option maxHeartbeats 4000000 in
set_option maxRecDepth 100000 in
/-- least -/
theorem c_X5_least (l : Launch) (D : va_G) (cI cJ : ClassId) (xm mh mi mz mp mo th bn pl pq pm it : Nat) (HH IN ZZ PO SO : Nat → Nat) (x : Int64) (y : Int32) (hbn : bn ≤ 65536) : WR_i l yX5_least wsX5_least ({ frames := 2, cells := 0, slots := 0, locals := 48 } : Room) D [(xm, .inr (5, [.int (nI th), .int (nI bn), .ref mh, .ref mi, .int (nI pl), .long (lN pq), .int (nI pm), .ref mz, .int (nI it), .ref mp, .ref mo])), (mh, aI cI 65536 HH), (mi, aI cI 65536 IN), (mz, aI cI 62 ZZ), (mp, aJ cJ 4000 PO), (mo, aI cI 4000 SO)] [(cI, .int), (cJ, .long)] [.ref xm, .long x, .int y] (fun (_ : Unit) => [(xm, .inr (5, [.int (nI 0), .int (nI bn), .ref mh, .ref mi, .int (nI pl), .long (lN pq), .int (nI pm), .ref mz, .int (nI it), .ref mp, .ref mo])), (mh, aI cI 65536 HH), (mi, aI cI 65536 IN), (mz, aI cI 62 ZZ), (mp, aJ cJ 4000 PO), (mo, aI cI 4000 SO)]) (fun v _ => (¬ (2 ≤ bn ∧ rnd x) → v = bI False) ∧ (2 ≤ bn ∧ rnd x → ∃ xe, xe ≤ 62 ∧ isExp bn x.toInt.toNat xe ∧ v = bI (y.toInt = (xe : Int)))) 0 0 := by
  refine WR_i.ofz (cc := cX5_least) (maxL := 4) (by decide) rfl (Nat.le_of_ble_eq_true rfl) ?_
  intro p e s m args below meth c ls A Q hx hb hml hts hown hA hP hD hK hl hin hret
  have hown : s.vm.findClass RX5 = some m.cls := hown
  have hl : lv_has ls 4 [(0, .ref xm), (1, .long x), (3, .int y)] := hl
  have hS : va_S A s.heap s.heap [] := va_S.rf
  have hinX5 : ∀ w ∈ wsX50, w ∈ wsX5_least := by decide +kernel
  refine lv_aload_n hx hb dX5_least_0 rfl (lv_at hl 0 rfl) ?_
  refine lv_iconst (v := nI 0) hx hb dX5_least_1 (by decide) ?_
  refine va_put (D := D) (ci := 5) (v := .int (nI 0)) (ty := .int) (C := RX5) (T := TX5) (N := 11) hx hb hts hinX5 tyX5 tyX5_ok nmX5 hown hK hP hD hS 0 rfl rfl 0 (by decide) (hts (.fieldLink RX5 31 "PassSearchModel" "thrown" "I") (by decide +kernel)) (fun _ h9 => h9) rfl (by decide +kernel) rfl rfl (Nat.le_of_ble_eq_true rfl) dX5_least_2 (fun H locs hP hD hS => ?_)
  have hP : va_P D vwCl [(xm, .inr (5, [.int (nI 0), .int (nI bn), .ref mh, .ref mi, .int (nI pl), .long (lN pq), .int (nI pm), .ref mz, .int (nI it), .ref mp, .ref mo])), (mh, aI cI 65536 HH), (mi, aI cI 65536 IN), (mz, aI cI 62 ZZ), (mp, aJ cJ 4000 PO), (mo, aI cI 4000 SO)] H := hP
  have hD : va_D A [(xm, .inr (5, [.int (nI 0), .int (nI bn), .ref mh, .ref mi, .int (nI pl), .long (lN pq), .int (nI pm), .ref mz, .int (nI it), .ref mp, .ref mo])), (mh, aI cI 65536 HH), (mi, aI cI 65536 IN), (mz, aI cI 62 ZZ), (mp, aJ cJ 4000 PO), (mo, aI cI 4000 SO)] := hD
  refine lv_aload_n hx hb dX5_least_5 rfl (lv_at hl 0 rfl) ?_
  refine va_get (D := D) (ci := 5) (v := .int (nI bn)) (C := RX5) (T := TX5) (N := 11) hx hb hts hinX5 hown hK hP 0 rfl rfl 1 (by decide) (hts (.fieldLink RX5 27 "PassSearchModel" "bins" "I") (by decide +kernel)) (fun _ h9 => h9) rfl dX5_least_6 ?_
  refine lv_iconst (v := nI 1) hx hb dX5_least_9 (by decide) ?_
  refine zi_le (tgt := 36) hx hb dX5_least_10 (by decide) (by omega) (by omega) (fun c10 => ?_) (fun c10 => ?_)
  · refine lv_iconst (v := nI 0) hx hb dX5_least_36 (by decide) ?_
    exact hret _ (()) _ _ _ _ hP hD hS (Or.inl rfl) (⟨fun _ => bI_f' id, fun q => by omega⟩) dX5_least_37
  · refine lv_lload_n hx hb dX5_least_13 rfl (lv_at hl 1 rfl) ?_
    refine RO_i.callS (rest := []) (c_X5_isCount l D x) ⟨hx, hb, hml, hown, hts⟩ (va_cwS 1 hts gX5_least_X5_isCount rfl rfl rfl (by decide +kernel) ⟨Nat.le_of_ble_eq_true rfl, Nat.le_of_ble_eq_true rfl⟩) hK hP hS hA [] [] rfl rfl rfl hl.1 rfl (Nat.le_of_ble_eq_true rfl) dX5_least_14 ⟨Nat.zero_le _, Nat.zero_le _⟩ (fun v1_ H locs e1_ hP hS => ?_)
    obtain rfl : v1_ = bI (rnd x) := e1_
    refine zb_eq (tgt := 36) hx hb dX5_least_17 (by decide) (fun c17 => ?_) (fun c17 => ?_)
    · refine lv_iconst (v := nI 0) hx hb dX5_least_36 (by decide) ?_
      exact hret _ (()) _ _ _ _ hP hD hS (Or.inl rfl) (⟨fun _ => bI_f' id, fun q => absurd q.2 c17⟩) dX5_least_37
    · obtain ⟨a, ha, rfl, hxa⟩ := l_of (x := x) (by omega)
      refine lv_lload_n hx hb dX5_least_20 rfl (lv_at hl 1 rfl) ?_
      refine lv_aload_n hx hb dX5_least_21 rfl (lv_at hl 0 rfl) ?_
      refine va_get (D := D) (ci := 5) (v := .int (nI bn)) (C := RX5) (T := TX5) (N := 11) hx hb hts hinX5 hown hK hP 0 rfl rfl 1 (by decide) (hts (.fieldLink RX5 27 "PassSearchModel" "bins" "I") (by decide +kernel)) (fun _ h9 => h9) rfl dX5_least_22 ?_
      refine RO_i.callS (rest := []) (c_X5_fewest l D a bn (by omega) (by omega) hbn) ⟨hx, hb, hml, hown, hts⟩ (va_cwS 2 hts gX5_least_X5_fewest rfl rfl rfl (by decide +kernel) ⟨Nat.le_of_ble_eq_true rfl, Nat.le_of_ble_eq_true rfl⟩) hK hP hS hA [] [] rfl rfl rfl hl.1 rfl (Nat.le_of_ble_eq_true rfl) dX5_least_25 ⟨Nat.zero_le _, Nat.zero_le _⟩ (fun v2_ H locs e2_ hP hS => ?_)
      obtain ⟨xe, rfl, hx1, hx2⟩ := e2_
      refine lv_iload_n hx hb dX5_least_28 rfl (lv_at hl 2 rfl) ?_
      refine zq_ne (tgt := 36) hx hb dX5_least_29 (by decide) (fun c29 => ?_) (fun c29 => ?_)
      · rw [nI_toInt (by omega)] at c29
        refine lv_iconst (v := nI 0) hx hb dX5_least_36 (by decide) ?_
        exact hret _ (()) _ _ _ _ hP hD hS (Or.inl rfl) (⟨fun q => absurd ⟨by omega, c17⟩ q, fun _ => ⟨xe, hx1, by rw [hxa]; exact hx2, bI_f' (by omega)⟩⟩) dX5_least_37
      · rw [nI_toInt (by omega)] at c29
        refine lv_iconst (v := nI 1) hx hb dX5_least_32 (by decide) ?_
        refine lv_goto (tgt := 37) hx hb dX5_least_33 (by decide) ?_
        exact hret _ (()) _ _ _ _ hP hD hS (Or.inr rfl) (⟨fun q => absurd ⟨by omega, c17⟩ q, fun _ => ⟨xe, hx1, by rw [hxa]; exact hx2, bI_t' (by omega)⟩⟩) dX5_least_37
