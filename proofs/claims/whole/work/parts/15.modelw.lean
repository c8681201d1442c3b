set_option maxHeartbeats 4000000 in
set_option maxRecDepth 100000 in
/-- volume -/
theorem c_X5_volume (l : Launch) (D : va_G) (cI cJ : ClassId) (xm mh mi mz mp mo th bn pl pq pm it : Nat) (HH IN ZZ PO SO : Nat → Nat) (x : Int64) (y : Int32) (hpq : (pl = 0 ∧ pq = 0) ∨ (pl = 1 ∧ 1 ≤ pq)) (hpt : pq ≤ 4611686018427387904) (hit : it ≤ 4000) (hSO : ∀ i, i < it → SO i < it) (hPO : ∀ i, i < it → PO i < 4611686018427387904) : WR_i l yX5_volume wsX5_volume ({ frames := 1, cells := 0, slots := 0, locals := 22 } : Room) D [(xm, .inr (5, [.int (nI th), .int (nI bn), .ref mh, .ref mi, .int (nI pl), .long (lN pq), .int (nI pm), .ref mz, .int (nI it), .ref mp, .ref mo])), (mh, aI cI 65536 HH), (mi, aI cI 65536 IN), (mz, aI cI 62 ZZ), (mp, aJ cJ 4000 PO), (mo, aI cI 4000 SO)] [(cI, .int), (cJ, .long)] [.ref xm, .long x, .int y] (fun (u : Nat × (Nat → Nat) × (Nat → Nat)) => [(xm, .inr (5, [.int (nI 0), .int (nI bn), .ref mh, .ref mi, .int (nI pl), .long (lN pq), .int (nI pm), .ref mz, .int (nI u.1), .ref mp, .ref mo])), (mh, aI cI 65536 HH), (mi, aI cI 65536 IN), (mz, aI cI 62 ZZ), (mp, aJ cJ 4000 u.2.1), (mo, aI cI 4000 u.2.2)]) (fun v u => v = volC pq it x y ∧ (¬ volG pq it x y → u = (it, PO, SO)) ∧ (volG pq it x y → u.1 = it + y.toInt.toNat ∧ isVol it x.toInt.toNat y.toInt.toNat PO SO u.2.1 u.2.2)) 0 0 := by
  refine WR_i.of (cc := cX5_volume) (maxL := 6) (by decide) rfl (Nat.le_of_ble_eq_true rfl) ?_
  intro p e s m args below meth c ls A Q hx hb hml hts hown hA hP hD hK hl hin hret
  have hown : s.vm.findClass RX5 = some m.cls := hown
  have hl : lv_has ls 6 [(0, .ref xm), (1, .long x), (3, .int y)] := hl
  have hS : va_S A s.heap s.heap [] := va_S.rf
  have hinX5 : ∀ w ∈ wsX50, w ∈ wsX5_volume := by decide +kernel
  refine lv_aload_n hx hb dX5_volume_0 rfl (lv_at hl 0 rfl) ?_
  refine lv_iconst (v := nI 0) hx hb dX5_volume_1 (by decide) ?_
  refine va_put (D := D) (ci := 5) (v := .int (nI 0)) (ty := .int) (C := RX5) (T := TX5) (N := 11) hx hb hts hinX5 tyX5 tyX5_ok nmX5 hown hK hP hD hS 0 rfl rfl 0 (by decide) (hts (.fieldLink RX5 31 "PassSearchModel" "thrown" "I") (by decide +kernel)) (fun _ h9 => h9) rfl (by decide +kernel) rfl rfl (Nat.le_of_ble_eq_true rfl) dX5_volume_2 (fun H locs hP hD hS => ?_)
  have hP : va_P D vwCl [(xm, .inr (5, [.int (nI 0), .int (nI bn), .ref mh, .ref mi, .int (nI pl), .long (lN pq), .int (nI pm), .ref mz, .int (nI it), .ref mp, .ref mo])), (mh, aI cI 65536 HH), (mi, aI cI 65536 IN), (mz, aI cI 62 ZZ), (mp, aJ cJ 4000 PO), (mo, aI cI 4000 SO)] H := hP
  have hD : va_D A [(xm, .inr (5, [.int (nI 0), .int (nI bn), .ref mh, .ref mi, .int (nI pl), .long (lN pq), .int (nI pm), .ref mz, .int (nI it), .ref mp, .ref mo])), (mh, aI cI 65536 HH), (mi, aI cI 65536 IN), (mz, aI cI 62 ZZ), (mp, aJ cJ 4000 PO), (mo, aI cI 4000 SO)] := hD
  refine lv_aload_n hx hb dX5_volume_5 rfl (lv_at hl 0 rfl) ?_
  refine lv_lload_n hx hb dX5_volume_6 rfl (lv_at hl 1 rfl) ?_
  refine RO_i.callV (rest := []) (c_X5_isPoint l D cI cJ xm mh mi mz mp mo 0 bn pl pq pm it HH IN ZZ PO SO x hpq hpt) ⟨hx, hb, hml, hown, hts⟩ (cwV 1 hts gX5_volume_X5_isPoint rfl rfl rfl (by decide +kernel) ⟨Nat.le_of_ble_eq_true rfl, Nat.le_of_ble_eq_true rfl⟩) hK hP hS hA [0, 1, 2, 3, 4, 5] [0, 1] rfl rfl 0 5 rfl rfl rfl rfl hl.1 rfl (Nat.le_of_ble_eq_true rfl) dX5_volume_7 ⟨Nat.zero_le _, Nat.zero_le _⟩ (fun v1_ H locs e1_ hP hS => ?_)
  obtain rfl : v1_ = bI (knL pq x) := e1_
  refine zb_ne (tgt := 15) hx hb dX5_volume_10 (by decide) (fun c10 => ?_) (fun c10 => ?_)
  · refine lv_iload_n hx hb dX5_volume_15 rfl (lv_at hl 2 rfl) ?_
    refine zq_if_lt (tgt := 26) hx hb dX5_volume_16 (by decide) (fun c16 => ?_) (fun c16 => ?_)
    · refine lv_bipush (v := (-2)) hx hb dX5_volume_26 (by decide) ?_
      exact hret _ ((it, PO, SO)) _ _ _ _ hP hD hS (⟨by rw [volC, if_neg (fun q => q c10), if_pos (by omega)], fun _ => rfl, fun q => by unfold volG at q; omega⟩) dX5_volume_28
    · refine lv_iload_n hx hb dX5_volume_19 rfl (lv_at hl 2 rfl) ?_
      refine lv_sipush (v := nI 1000) hx hb dX5_volume_20 (by decide) ?_
      refine zq_le (tgt := 29) hx hb dX5_volume_23 (by decide) (fun c23 => ?_) (fun c23 => ?_)
      · rw [show (nI 1000).toInt = 1000 from by decide] at c23
        obtain ⟨a, ha, rfl, hxa⟩ := l_of c10.1
        obtain ⟨n, hn, rfl, hyn⟩ := i_of (x := y) (by omega)
        refine lv_aload_n hx hb dX5_volume_29 rfl (lv_at hl 0 rfl) ?_
        refine va_get (D := D) (ci := 5) (v := .int (nI pl)) (C := RX5) (T := TX5) (N := 11) hx hb hts hinX5 hown hK hP 0 rfl rfl 4 (by decide) (hts (.fieldLink RX5 59 "PassSearchModel" "planned" "Z") (by decide +kernel)) (fun _ h9 => h9) rfl dX5_volume_30 ?_
        refine zi_if_ne (tgt := 39) hx hb dX5_volume_33 (by decide) (by omega) (fun c33 => ?_) (fun c33 => ?_)
        · refine lv_aload_n hx hb dX5_volume_39 rfl (lv_at hl 0 rfl) ?_
          refine va_get (D := D) (ci := 5) (v := .int (nI it)) (C := RX5) (T := TX5) (N := 11) hx hb hts hinX5 hown hK hP 0 rfl rfl 8 (by decide) (hts (.fieldLink RX5 63 "PassSearchModel" "items" "I") (by decide +kernel)) (fun _ h9 => h9) rfl dX5_volume_40 ?_
          refine lv_iload_n hx hb dX5_volume_43 rfl (lv_at hl 2 rfl) ?_
          refine zi_add hx hb dX5_volume_44  ?_
          refine lv_sipush (v := nI 4000) hx hb dX5_volume_45 (by decide) ?_
          refine zi_le (tgt := 54) hx hb dX5_volume_48 (by decide) (by omega) (by omega) (fun c48 => ?_) (fun c48 => ?_)
          · have L89 : ∀ (i : Nat), (i ≤ it) → (∀ t, t < i → PO (SO t) ≤ a) → (i = it ∨ a < PO (SO i)) → ∀ (H : Heap) (locs : List Loc) (ls : Array Slot), va_P D vwCl [(xm, .inr (5, [.int (nI 0), .int (nI bn), .ref mh, .ref mi, .int (nI pl), .long (lN pq), .int (nI pm), .ref mz, .int (nI it), .ref mp, .ref mo])), (mh, aI cI 65536 HH), (mi, aI cI 65536 IN), (mz, aI cI 62 ZZ), (mp, aJ cJ 4000 PO), (mo, aI cI 4000 SO)] H → va_D A [(xm, .inr (5, [.int (nI 0), .int (nI bn), .ref mh, .ref mi, .int (nI pl), .long (lN pq), .int (nI pm), .ref mz, .int (nI it), .ref mp, .ref mo])), (mh, aI cI 65536 HH), (mi, aI cI 65536 IN), (mz, aI cI 62 ZZ), (mp, aJ cJ 4000 PO), (mo, aI cI 4000 SO)] → va_S A s.heap H locs → lv_has ls 6 [(4, .int (nI i)), (0, .ref xm), (1, .long (lN a)), (3, .int (nI n))] → W p l e ({ frames := 1, cells := 0, slots := 0, locals := 22 } : Room) s m args below meth c H locs 0 0 Q (F0 m 89 ls []) := by
              intro i i1 i2 i0 H locs ls hP hD hS hl
              refine lv_aload_n hx hb dX5_volume_89 rfl (lv_at hl 1 rfl) ?_
              refine va_get (D := D) (ci := 5) (v := .int (nI it)) (C := RX5) (T := TX5) (N := 11) hx hb hts hinX5 hown hK hP 0 rfl rfl 8 (by decide) (hts (.fieldLink RX5 63 "PassSearchModel" "items" "I") (by decide +kernel)) (fun _ h9 => h9) rfl dX5_volume_90 ?_
              refine lv_iconst (v := nI 1) hx hb dX5_volume_93 (by decide) ?_
              refine lv_isub hx hb dX5_volume_94 ?_
              refine lv_istore (lv' := [(5, .int ((nI it) - (nI 1))), (4, .int (nI i)), (0, .ref xm), (1, .long (lN a)), (3, .int (nI n))]) hx hb dX5_volume_95 hl (by decide) rfl (fun ls hl => ?_)
              have L97 : ∀ (nf : Nat) (kx : Int32) (j : Nat) (S2 : Nat → Nat), (kx.toInt = (j : Int) - 1 ∧ i ≤ j ∧ j ≤ it) → (∀ t, t < j → S2 t = SO t) → (∀ t, j ≤ t → t < it → S2 (t + n) = SO t) → j < nf → ∀ (H : Heap) (locs : List Loc) (ls : Array Slot), va_P D vwCl [(xm, .inr (5, [.int (nI 0), .int (nI bn), .ref mh, .ref mi, .int (nI pl), .long (lN pq), .int (nI pm), .ref mz, .int (nI it), .ref mp, .ref mo])), (mh, aI cI 65536 HH), (mi, aI cI 65536 IN), (mz, aI cI 62 ZZ), (mp, aJ cJ 4000 PO), (mo, aI cI 4000 S2)] H → va_D A [(xm, .inr (5, [.int (nI 0), .int (nI bn), .ref mh, .ref mi, .int (nI pl), .long (lN pq), .int (nI pm), .ref mz, .int (nI it), .ref mp, .ref mo])), (mh, aI cI 65536 HH), (mi, aI cI 65536 IN), (mz, aI cI 62 ZZ), (mp, aJ cJ 4000 PO), (mo, aI cI 4000 S2)] → va_S A s.heap H locs → lv_has ls 6 [(5, .int kx), (4, .int (nI i)), (0, .ref xm), (1, .long (lN a)), (3, .int (nI n))] → W p l e ({ frames := 1, cells := 0, slots := 0, locals := 22 } : Room) s m args below meth c H locs 0 0 Q (F0 m 97 ls []) := by
                intro nf
                induction nf with
                | zero => intro kx j S2 i3 i4 i5 hm; exact absurd hm (Nat.not_lt_zero _)
                | succ nf ih97 =>
                  intro kx j S2 i3 i4 i5 hm97 H locs ls hP hD hS hl
                  refine lv_iload hx hb dX5_volume_97 (lv_at hl 0 rfl) ?_
                  refine lv_iload hx hb dX5_volume_99 (lv_at hl 1 rfl) ?_
                  refine zq_lt (tgt := 126) hx hb dX5_volume_101 (by decide) (fun c101 => ?_) (fun c101 => ?_)
                  · refine lv_iconst (v := nI 0) hx hb dX5_volume_126 (by decide) ?_
                    refine lv_istore (lv' := [(5, .int (nI 0)), (4, .int (nI i)), (0, .ref xm), (1, .long (lN a)), (3, .int (nI n))]) hx hb dX5_volume_127 hl (by decide) rfl (fun ls hl => ?_)
                    rw [nI_toInt (by omega)] at c101
                    have hji : j = i := by omega
                    have L129 : ∀ (nf : Nat) (q1 : Nat) (S3 : Nat → Nat) (P3 : Nat → Nat), (q1 ≤ n) → (∀ t, t < i → S3 t = SO t) → (∀ t, t < q1 → S3 (i + t) = it + t) → (∀ t, i ≤ t → t < it → S3 (t + n) = SO t) → (∀ t, t < it → P3 t = PO t) → (∀ t, t < q1 → P3 (it + t) = a) → n - q1 < nf → ∀ (H : Heap) (locs : List Loc) (ls : Array Slot), va_P D vwCl [(xm, .inr (5, [.int (nI 0), .int (nI bn), .ref mh, .ref mi, .int (nI pl), .long (lN pq), .int (nI pm), .ref mz, .int (nI it), .ref mp, .ref mo])), (mh, aI cI 65536 HH), (mi, aI cI 65536 IN), (mz, aI cI 62 ZZ), (mp, aJ cJ 4000 P3), (mo, aI cI 4000 S3)] H → va_D A [(xm, .inr (5, [.int (nI 0), .int (nI bn), .ref mh, .ref mi, .int (nI pl), .long (lN pq), .int (nI pm), .ref mz, .int (nI it), .ref mp, .ref mo])), (mh, aI cI 65536 HH), (mi, aI cI 65536 IN), (mz, aI cI 62 ZZ), (mp, aJ cJ 4000 P3), (mo, aI cI 4000 S3)] → va_S A s.heap H locs → lv_has ls 6 [(5, .int (nI q1)), (4, .int (nI i)), (0, .ref xm), (1, .long (lN a)), (3, .int (nI n))] → W p l e ({ frames := 1, cells := 0, slots := 0, locals := 22 } : Room) s m args below meth c H locs 0 0 Q (F0 m 129 ls []) := by
                      intro nf
                      induction nf with
                      | zero => intro q1 S3 P3 j1 j2 j3 j4 j5 j6 hm; exact absurd hm (Nat.not_lt_zero _)
                      | succ nf ih129 =>
                        intro q1 S3 P3 j1 j2 j3 j4 j5 j6 hm129 H locs ls hP hD hS hl
                        refine lv_iload hx hb dX5_volume_129 (lv_at hl 0 rfl) ?_
                        refine lv_iload_n hx hb dX5_volume_131 rfl (lv_at hl 4 rfl) ?_
                        refine zi_ge (tgt := 171) hx hb dX5_volume_132 (by decide) (by omega) (by omega) (fun c132 => ?_) (fun c132 => ?_)
                        · refine lv_aload_n hx hb dX5_volume_171 rfl (lv_at hl 2 rfl) ?_
                          refine lv_aload_n hx hb dX5_volume_172 rfl (lv_at hl 2 rfl) ?_
                          refine va_get (D := D) (ci := 5) (v := .int (nI it)) (C := RX5) (T := TX5) (N := 11) hx hb hts hinX5 hown hK hP 0 rfl rfl 8 (by decide) (hts (.fieldLink RX5 63 "PassSearchModel" "items" "I") (by decide +kernel)) (fun _ h9 => h9) rfl dX5_volume_173 ?_
                          refine lv_iload_n hx hb dX5_volume_176 rfl (lv_at hl 4 rfl) ?_
                          refine zi_add hx hb dX5_volume_177  ?_
                          refine va_put (D := D) (ci := 5) (v := .int (nI (it + n))) (ty := .int) (C := RX5) (T := TX5) (N := 11) hx hb hts hinX5 tyX5 tyX5_ok nmX5 hown hK hP hD hS 0 rfl rfl 8 (by decide) (hts (.fieldLink RX5 63 "PassSearchModel" "items" "I") (by decide +kernel)) (fun _ h9 => h9) rfl (by decide +kernel) rfl rfl (Nat.le_of_ble_eq_true rfl) dX5_volume_178 (fun H locs hP hD hS => ?_)
                          have hP : va_P D vwCl [(xm, .inr (5, [.int (nI 0), .int (nI bn), .ref mh, .ref mi, .int (nI pl), .long (lN pq), .int (nI pm), .ref mz, .int (nI (it + n)), .ref mp, .ref mo])), (mh, aI cI 65536 HH), (mi, aI cI 65536 IN), (mz, aI cI 62 ZZ), (mp, aJ cJ 4000 P3), (mo, aI cI 4000 S3)] H := hP
                          have hD : va_D A [(xm, .inr (5, [.int (nI 0), .int (nI bn), .ref mh, .ref mi, .int (nI pl), .long (lN pq), .int (nI pm), .ref mz, .int (nI (it + n)), .ref mp, .ref mo])), (mh, aI cI 65536 HH), (mi, aI cI 65536 IN), (mz, aI cI 62 ZZ), (mp, aJ cJ 4000 P3), (mo, aI cI 4000 S3)] := hD
                          refine lv_aload_n hx hb dX5_volume_181 rfl (lv_at hl 2 rfl) ?_
                          refine va_get (D := D) (ci := 5) (v := .int (nI (it + n))) (C := RX5) (T := TX5) (N := 11) hx hb hts hinX5 hown hK hP 0 rfl rfl 8 (by decide) (hts (.fieldLink RX5 63 "PassSearchModel" "items" "I") (by decide +kernel)) (fun _ h9 => h9) rfl dX5_volume_182 ?_
                          exact hret _ ((it + n, P3, S3)) _ _ _ _ hP hD hS (⟨by rw [volC, if_neg (fun q => q c10), if_neg (by omega), if_neg (by omega), if_neg (by omega), hyn]; rfl, fun q => absurd ⟨c10, by omega, by omega, by omega, by omega⟩ q, fun _ => by
                              rw [hxa, hyn]
                              refine ⟨rfl, i, i1, i2, i0, j2, fun t ht => j3 t (by simp only [Int.toNat_natCast] at ht; omega), j4, j5, fun t ht => j6 t (by simp only [Int.toNat_natCast] at ht; omega)⟩⟩) dX5_volume_185
                        · refine lv_aload_n hx hb dX5_volume_135 rfl (lv_at hl 2 rfl) ?_
                          refine va_get (D := D) (ci := 5) (v := .ref mo) (C := RX5) (T := TX5) (N := 11) hx hb hts hinX5 hown hK hP 0 rfl rfl 10 (by decide) (hts (.fieldLink RX5 24 "PassSearchModel" "sorted" "[I") (by decide +kernel)) (fun _ h9 => h9) rfl dX5_volume_136 ?_
                          refine lv_iload hx hb dX5_volume_139 (lv_at hl 1 rfl) ?_
                          refine lv_iload hx hb dX5_volume_141 (lv_at hl 0 rfl) ?_
                          refine zi_add hx hb dX5_volume_143  ?_
                          refine lv_aload_n hx hb dX5_volume_144 rfl (lv_at hl 2 rfl) ?_
                          refine va_get (D := D) (ci := 5) (v := .int (nI it)) (C := RX5) (T := TX5) (N := 11) hx hb hts hinX5 hown hK hP 0 rfl rfl 8 (by decide) (hts (.fieldLink RX5 63 "PassSearchModel" "items" "I") (by decide +kernel)) (fun _ h9 => h9) rfl dX5_volume_145 ?_
                          refine lv_iload hx hb dX5_volume_148 (lv_at hl 0 rfl) ?_
                          refine zi_add hx hb dX5_volume_150  ?_
                          refine zi_ast hx hb hK hP hD hS 5 0 rfl rfl (k := i + q1) (x := it + q1) (by omega) (by omega) dX5_volume_151 (fun H locs hP hD hS => ?_)
                          have hP : va_P D vwCl [(xm, .inr (5, [.int (nI 0), .int (nI bn), .ref mh, .ref mi, .int (nI pl), .long (lN pq), .int (nI pm), .ref mz, .int (nI it), .ref mp, .ref mo])), (mh, aI cI 65536 HH), (mi, aI cI 65536 IN), (mz, aI cI 62 ZZ), (mp, aJ cJ 4000 P3), (mo, aI cI 4000 (uF S3 (i + q1) (it + q1)))] H := hP
                          have hD : va_D A [(xm, .inr (5, [.int (nI 0), .int (nI bn), .ref mh, .ref mi, .int (nI pl), .long (lN pq), .int (nI pm), .ref mz, .int (nI it), .ref mp, .ref mo])), (mh, aI cI 65536 HH), (mi, aI cI 65536 IN), (mz, aI cI 62 ZZ), (mp, aJ cJ 4000 P3), (mo, aI cI 4000 (uF S3 (i + q1) (it + q1)))] := hD
                          refine lv_aload_n hx hb dX5_volume_152 rfl (lv_at hl 2 rfl) ?_
                          refine va_get (D := D) (ci := 5) (v := .ref mp) (C := RX5) (T := TX5) (N := 11) hx hb hts hinX5 hown hK hP 0 rfl rfl 9 (by decide) (hts (.fieldLink RX5 20 "PassSearchModel" "pointOf" "[J") (by decide +kernel)) (fun _ h9 => h9) rfl dX5_volume_153 ?_
                          refine lv_aload_n hx hb dX5_volume_156 rfl (lv_at hl 2 rfl) ?_
                          refine va_get (D := D) (ci := 5) (v := .int (nI it)) (C := RX5) (T := TX5) (N := 11) hx hb hts hinX5 hown hK hP 0 rfl rfl 8 (by decide) (hts (.fieldLink RX5 63 "PassSearchModel" "items" "I") (by decide +kernel)) (fun _ h9 => h9) rfl dX5_volume_157 ?_
                          refine lv_iload hx hb dX5_volume_160 (lv_at hl 0 rfl) ?_
                          refine zi_add hx hb dX5_volume_162  ?_
                          refine lv_lload_n hx hb dX5_volume_163 rfl (lv_at hl 3 rfl) ?_
                          refine zl_ast hx hb hK hP hD hS 4 1 rfl rfl (k := it + q1) (x := a) (by omega) (by omega) dX5_volume_164 (fun H locs hP hD hS => ?_)
                          have hP : va_P D vwCl [(xm, .inr (5, [.int (nI 0), .int (nI bn), .ref mh, .ref mi, .int (nI pl), .long (lN pq), .int (nI pm), .ref mz, .int (nI it), .ref mp, .ref mo])), (mh, aI cI 65536 HH), (mi, aI cI 65536 IN), (mz, aI cI 62 ZZ), (mp, aJ cJ 4000 (uF P3 (it + q1) a)), (mo, aI cI 4000 (uF S3 (i + q1) (it + q1)))] H := hP
                          have hD : va_D A [(xm, .inr (5, [.int (nI 0), .int (nI bn), .ref mh, .ref mi, .int (nI pl), .long (lN pq), .int (nI pm), .ref mz, .int (nI it), .ref mp, .ref mo])), (mh, aI cI 65536 HH), (mi, aI cI 65536 IN), (mz, aI cI 62 ZZ), (mp, aJ cJ 4000 (uF P3 (it + q1) a)), (mo, aI cI 4000 (uF S3 (i + q1) (it + q1)))] := hD
                          refine lv_iinc (v := nI (q1 + 1)) (lv' := [(5, .int (nI (q1 + 1))), (4, .int (nI i)), (0, .ref xm), (1, .long (lN a)), (3, .int (nI n))]) hx hb dX5_volume_165 hl (k := 0) rfl (by rw [show Int32.ofInt 1 = nI 1 by decide, nI_add]) (by decide) rfl (fun ls hl => ?_)
                          refine lv_goto (tgt := 129) hx hb dX5_volume_168 (by decide) ?_
                          exact ih129 (q1 + 1) (uF S3 (i + q1) (it + q1)) (uF P3 (it + q1) a) (by omega) (fun t ht => by rw [uF_n (by omega)]; exact j2 t ht) (fun t ht => if g : t = q1 then by rw [g, uF_s] else by rw [uF_n (by omega)]; exact j3 t (by omega)) (fun t h1 h2 => by rw [uF_n (by omega)]; exact j4 t h1 h2) (fun t ht => by rw [uF_n (by omega)]; exact j5 t ht) (fun t ht => if g : t = q1 then by rw [g, uF_s] else by rw [uF_n (by omega)]; exact j6 t (by omega)) (by omega) _ _ _ hP hD hS (lv_sub hl [0, 1, 2, 3, 4] rfl)
                    exact L129 _ 0 S2 PO (Nat.zero_le _) (fun t ht => i4 t (by omega)) (fun t ht => absurd ht (Nat.not_lt_zero _)) (fun t h1 h2 => i5 t (by omega) h2) (fun t ht => rfl) (fun t ht => absurd ht (Nat.not_lt_zero _)) (Nat.lt_succ_self _) _ _ _ hP hD hS (lv_sub hl [0, 1, 2, 3, 4] rfl)
                  · rw [nI_toInt (by omega)] at c101
                    obtain ⟨k, hk, rfl, hkk⟩ := i_of (x := kx) (by omega)
                    obtain rfl : j = k + 1 := by omega
                    refine lv_aload_n hx hb dX5_volume_104 rfl (lv_at hl 2 rfl) ?_
                    refine va_get (D := D) (ci := 5) (v := .ref mo) (C := RX5) (T := TX5) (N := 11) hx hb hts hinX5 hown hK hP 0 rfl rfl 10 (by decide) (hts (.fieldLink RX5 24 "PassSearchModel" "sorted" "[I") (by decide +kernel)) (fun _ h9 => h9) rfl dX5_volume_105 ?_
                    refine lv_iload hx hb dX5_volume_108 (lv_at hl 0 rfl) ?_
                    refine lv_iload_n hx hb dX5_volume_110 rfl (lv_at hl 4 rfl) ?_
                    refine zi_add hx hb dX5_volume_111  ?_
                    refine lv_aload_n hx hb dX5_volume_112 rfl (lv_at hl 2 rfl) ?_
                    refine va_get (D := D) (ci := 5) (v := .ref mo) (C := RX5) (T := TX5) (N := 11) hx hb hts hinX5 hown hK hP 0 rfl rfl 10 (by decide) (hts (.fieldLink RX5 24 "PassSearchModel" "sorted" "[I") (by decide +kernel)) (fun _ h9 => h9) rfl dX5_volume_113 ?_
                    refine lv_iload hx hb dX5_volume_116 (lv_at hl 0 rfl) ?_
                    refine zi_ald hx hb hK hP 5 0 rfl rfl (k := k) (by omega) (by omega) dX5_volume_118 ?_
                    refine lv_topi (fun v2_ e2_ => ?_)
                    obtain rfl : v2_ = nI (SO k) := e2_.trans (congrArg nI (i4 k (by omega)))
                    refine zi_ast hx hb hK hP hD hS 5 0 rfl rfl (k := k + n) (x := SO k) (by omega) (by omega) dX5_volume_119 (fun H locs hP hD hS => ?_)
                    have hP : va_P D vwCl [(xm, .inr (5, [.int (nI 0), .int (nI bn), .ref mh, .ref mi, .int (nI pl), .long (lN pq), .int (nI pm), .ref mz, .int (nI it), .ref mp, .ref mo])), (mh, aI cI 65536 HH), (mi, aI cI 65536 IN), (mz, aI cI 62 ZZ), (mp, aJ cJ 4000 PO), (mo, aI cI 4000 (uF S2 (k + n) (SO k)))] H := hP
                    have hD : va_D A [(xm, .inr (5, [.int (nI 0), .int (nI bn), .ref mh, .ref mi, .int (nI pl), .long (lN pq), .int (nI pm), .ref mz, .int (nI it), .ref mp, .ref mo])), (mh, aI cI 65536 HH), (mi, aI cI 65536 IN), (mz, aI cI 62 ZZ), (mp, aJ cJ 4000 PO), (mo, aI cI 4000 (uF S2 (k + n) (SO k)))] := hD
                    refine lv_iinc (v := nI k - nI 1) (lv' := [(5, .int (nI k - nI 1)), (4, .int (nI i)), (0, .ref xm), (1, .long (lN a)), (3, .int (nI n))]) hx hb dX5_volume_120 hl (k := 0) rfl (by rw [show Int32.ofInt (-1) = -nI 1 by decide, ← Int32.sub_eq_add_neg]) (by decide) rfl (fun ls hl => ?_)
                    refine lv_goto (tgt := 97) hx hb dX5_volume_123 (by decide) ?_
                    exact ih97 (nI k - nI 1) k (uF S2 (k + n) (SO k)) (⟨by rw [pk_sub_toInt (by omega) (by decide)]; rfl, by omega, by omega⟩) (fun t ht => if g : t = k + n then by omega else by rw [uF_n g]; exact i4 t (by omega)) (fun t h1 h2 => if g : t = k then by rw [g, uF_s] else by rw [uF_n (by omega)]; exact i5 t (by omega) h2) (by omega) _ _ _ hP hD hS (lv_sub hl [0, 1, 2, 3, 4] rfl)
              exact L97 _ ((nI it) - (nI 1)) it SO (⟨by rw [pk_sub_toInt (by omega) (by decide)]; rfl, by omega, by omega⟩) (fun t ht => rfl) (fun t h1 h2 => by omega) (Nat.lt_succ_self _) _ _ _ hP hD hS (lv_sub hl [0, 1, 2, 3, 4] rfl)
            refine lv_iconst (v := nI 0) hx hb dX5_volume_54 (by decide) ?_
            refine lv_istore (lv' := [(4, .int (nI 0)), (0, .ref xm), (1, .long (lN a)), (3, .int (nI n))]) hx hb dX5_volume_55 hl (by decide) rfl (fun ls hl => ?_)
            have L57 : ∀ (nf : Nat) (i : Nat), (i ≤ it) → (∀ t, t < i → PO (SO t) ≤ a) → it - i < nf → ∀ (H : Heap) (locs : List Loc) (ls : Array Slot), va_P D vwCl [(xm, .inr (5, [.int (nI 0), .int (nI bn), .ref mh, .ref mi, .int (nI pl), .long (lN pq), .int (nI pm), .ref mz, .int (nI it), .ref mp, .ref mo])), (mh, aI cI 65536 HH), (mi, aI cI 65536 IN), (mz, aI cI 62 ZZ), (mp, aJ cJ 4000 PO), (mo, aI cI 4000 SO)] H → va_D A [(xm, .inr (5, [.int (nI 0), .int (nI bn), .ref mh, .ref mi, .int (nI pl), .long (lN pq), .int (nI pm), .ref mz, .int (nI it), .ref mp, .ref mo])), (mh, aI cI 65536 HH), (mi, aI cI 65536 IN), (mz, aI cI 62 ZZ), (mp, aJ cJ 4000 PO), (mo, aI cI 4000 SO)] → va_S A s.heap H locs → lv_has ls 6 [(4, .int (nI i)), (0, .ref xm), (1, .long (lN a)), (3, .int (nI n))] → W p l e ({ frames := 1, cells := 0, slots := 0, locals := 22 } : Room) s m args below meth c H locs 0 0 Q (F0 m 57 ls []) := by
              intro nf
              induction nf with
              | zero => intro i i1 i2 hm; exact absurd hm (Nat.not_lt_zero _)
              | succ nf ih57 =>
                intro i i1 i2 hm57 H locs ls hP hD hS hl
                refine lv_iload hx hb dX5_volume_57 (lv_at hl 0 rfl) ?_
                refine lv_aload_n hx hb dX5_volume_59 rfl (lv_at hl 1 rfl) ?_
                refine va_get (D := D) (ci := 5) (v := .int (nI it)) (C := RX5) (T := TX5) (N := 11) hx hb hts hinX5 hown hK hP 0 rfl rfl 8 (by decide) (hts (.fieldLink RX5 63 "PassSearchModel" "items" "I") (by decide +kernel)) (fun _ h9 => h9) rfl dX5_volume_60 ?_
                refine zi_ge (tgt := 89) hx hb dX5_volume_63 (by decide) (by omega) (by omega) (fun c63 => ?_) (fun c63 => ?_)
                · exact L89 i (i1) (i2) (Or.inl (by omega)) _ _ _ hP hD hS (lv_sub hl [0, 1, 2, 3] rfl)
                · have hSa := hSO i (by omega)
                  have hPa := hPO (SO i) hSa
                  refine lv_aload_n hx hb dX5_volume_66 rfl (lv_at hl 1 rfl) ?_
                  refine va_get (D := D) (ci := 5) (v := .ref mp) (C := RX5) (T := TX5) (N := 11) hx hb hts hinX5 hown hK hP 0 rfl rfl 9 (by decide) (hts (.fieldLink RX5 20 "PassSearchModel" "pointOf" "[J") (by decide +kernel)) (fun _ h9 => h9) rfl dX5_volume_67 ?_
                  refine lv_aload_n hx hb dX5_volume_70 rfl (lv_at hl 1 rfl) ?_
                  refine va_get (D := D) (ci := 5) (v := .ref mo) (C := RX5) (T := TX5) (N := 11) hx hb hts hinX5 hown hK hP 0 rfl rfl 10 (by decide) (hts (.fieldLink RX5 24 "PassSearchModel" "sorted" "[I") (by decide +kernel)) (fun _ h9 => h9) rfl dX5_volume_71 ?_
                  refine lv_iload hx hb dX5_volume_74 (lv_at hl 0 rfl) ?_
                  refine zi_ald hx hb hK hP 5 0 rfl rfl (k := i) (by omega) (by omega) dX5_volume_76 ?_
                  refine zl_ald hx hb hK hP 4 1 rfl rfl (k := SO i) (by omega) (by omega) dX5_volume_77 ?_
                  refine lv_lload_n hx hb dX5_volume_78 rfl (lv_at hl 2 rfl) ?_
                  refine zl_gt (tgt := 89) hx hb dX5_volume_79 dX5_volume_80 (by decide) (by omega) (by omega) (fun c79 => ?_) (fun c79 => ?_)
                  · exact L89 i (i1) (i2) (Or.inr c79) _ _ _ hP hD hS (lv_sub hl [0, 1, 2, 3] rfl)
                  · refine lv_iinc (v := nI (i + 1)) (lv' := [(4, .int (nI (i + 1))), (0, .ref xm), (1, .long (lN a)), (3, .int (nI n))]) hx hb dX5_volume_83 hl (k := 0) rfl (by rw [show Int32.ofInt 1 = nI 1 by decide, nI_add]) (by decide) rfl (fun ls hl => ?_)
                    refine lv_goto (tgt := 57) hx hb dX5_volume_86 (by decide) ?_
                    exact ih57 (i + 1) (by omega) (fun t ht => if g : t < i then i2 t g else by rw [show t = i by omega]; exact c79) (by omega) _ _ _ hP hD hS (lv_sub hl [0, 1, 2, 3] rfl)
            exact L57 _ 0 (Nat.zero_le _) (fun t ht => absurd ht (Nat.not_lt_zero _)) (Nat.lt_succ_self _) _ _ _ hP hD hS (lv_sub hl [0, 1, 2, 3] rfl)
          · refine lv_bipush (v := (-4)) hx hb dX5_volume_51 (by decide) ?_
            exact hret _ ((it, PO, SO)) _ _ _ _ hP hD hS (⟨by rw [volC, if_neg (fun q => q c10), if_neg (by omega), if_neg (by omega), if_pos (by omega)], fun _ => rfl, fun q => by unfold volG at q; omega⟩) dX5_volume_53
        · refine lv_bipush (v := (-3)) hx hb dX5_volume_36 (by decide) ?_
          exact hret _ ((it, PO, SO)) _ _ _ _ hP hD hS (⟨by rw [volC, if_neg (fun q => q c10), if_neg (by omega), if_pos (by omega)], fun _ => rfl, fun q => by unfold volG at q; omega⟩) dX5_volume_38
      · rw [show (nI 1000).toInt = 1000 from by decide] at c23
        refine lv_bipush (v := (-2)) hx hb dX5_volume_26 (by decide) ?_
        exact hret _ ((it, PO, SO)) _ _ _ _ hP hD hS (⟨by rw [volC, if_neg (fun q => q c10), if_pos (by omega)], fun _ => rfl, fun q => by unfold volG at q; omega⟩) dX5_volume_28
  · refine lv_iconst (v := (-1)) hx hb dX5_volume_13 (by decide) ?_
    exact hret _ ((it, PO, SO)) _ _ _ _ hP hD hS (⟨by rw [volC, if_pos c10], fun _ => rfl, fun q => absurd q.1 c10⟩) dX5_volume_14
set_option maxHeartbeats 4000000 in
set_option maxRecDepth 100000 in
/-- sort -/
theorem c_X5_sort (l : Launch) (D : va_G) (cI cJ : ClassId) (xm mh mi mz mp mo th bn pl pq pm it : Nat) (HH IN ZZ PO SO : Nat → Nat) (S : Nat → Nat) (x y : Int32) (hpq : (pl = 0 ∧ pq = 0) ∨ (pl = 1 ∧ 1 ≤ pq)) (hpl : xPlan bn pq pm ZZ S) (hit : it ≤ 4000) (hPO : ∀ i, i < it → PO i < 4611686018427387904) : WR_i l yX5_sort wsX5_sort ({ frames := 1, cells := 0, slots := 0, locals := 23 } : Room) D [(xm, .inr (5, [.int (nI th), .int (nI bn), .ref mh, .ref mi, .int (nI pl), .long (lN pq), .int (nI pm), .ref mz, .int (nI it), .ref mp, .ref mo])), (mh, aI cI 65536 HH), (mi, aI cI 65536 IN), (mz, aI cI 62 ZZ), (mp, aJ cJ 4000 PO), (mo, aI cI 4000 SO)] [(cI, .int), (cJ, .long)] [.ref xm, .int x, .int y] (fun (_ : Unit) => [(xm, .inr (5, [.int (nI 0), .int (nI bn), .ref mh, .ref mi, .int (nI pl), .long (lN pq), .int (nI pm), .ref mz, .int (nI it), .ref mp, .ref mo])), (mh, aI cI 65536 HH), (mi, aI cI 65536 IN), (mz, aI cI 62 ZZ), (mp, aJ cJ 4000 PO), (mo, aI cI 4000 SO)]) (fun v _ => (¬ (knI pq it x ∧ knI pq pm y) → v = -1) ∧ (knI pq it x ∧ knI pq pm y → pq = 0 → v = -3) ∧ (knI pq it x ∧ knI pq pm y → 0 < pq → v = nI (sumN (fun i => if PO i % S (y.toInt.toNat + 1) < PO x.toInt.toNat % S (y.toInt.toNat + 1) ∨ (PO i % S (y.toInt.toNat + 1) = PO x.toInt.toNat % S (y.toInt.toNat + 1) ∧ i < x.toInt.toNat) then 1 else 0) it))) 0 0 := by
  refine WR_i.of (cc := cX5_sort) (maxL := 11) (by decide) rfl (Nat.le_of_ble_eq_true rfl) ?_
  intro p e s m args below meth c ls A Q hx hb hml hts hown hA hP hD hK hl hin hret
  have hown : s.vm.findClass RX5 = some m.cls := hown
  have hl : lv_has ls 11 [(0, .ref xm), (1, .int x), (2, .int y)] := hl
  have hS : va_S A s.heap s.heap [] := va_S.rf
  have hinX5 : ∀ w ∈ wsX50, w ∈ wsX5_sort := by decide +kernel
  have hpt := hpl.1
  have hpn := hpl.2.1
  have hbn := hpl.2.2.1
  refine lv_aload_n hx hb dX5_sort_0 rfl (lv_at hl 0 rfl) ?_
  refine lv_iconst (v := nI 0) hx hb dX5_sort_1 (by decide) ?_
  refine va_put (D := D) (ci := 5) (v := .int (nI 0)) (ty := .int) (C := RX5) (T := TX5) (N := 11) hx hb hts hinX5 tyX5 tyX5_ok nmX5 hown hK hP hD hS 0 rfl rfl 0 (by decide) (hts (.fieldLink RX5 31 "PassSearchModel" "thrown" "I") (by decide +kernel)) (fun _ h9 => h9) rfl (by decide +kernel) rfl rfl (Nat.le_of_ble_eq_true rfl) dX5_sort_2 (fun H locs hP hD hS => ?_)
  have hP : va_P D vwCl [(xm, .inr (5, [.int (nI 0), .int (nI bn), .ref mh, .ref mi, .int (nI pl), .long (lN pq), .int (nI pm), .ref mz, .int (nI it), .ref mp, .ref mo])), (mh, aI cI 65536 HH), (mi, aI cI 65536 IN), (mz, aI cI 62 ZZ), (mp, aJ cJ 4000 PO), (mo, aI cI 4000 SO)] H := hP
  have hD : va_D A [(xm, .inr (5, [.int (nI 0), .int (nI bn), .ref mh, .ref mi, .int (nI pl), .long (lN pq), .int (nI pm), .ref mz, .int (nI it), .ref mp, .ref mo])), (mh, aI cI 65536 HH), (mi, aI cI 65536 IN), (mz, aI cI 62 ZZ), (mp, aJ cJ 4000 PO), (mo, aI cI 4000 SO)] := hD
  refine lv_aload_n hx hb dX5_sort_5 rfl (lv_at hl 0 rfl) ?_
  refine lv_iload_n hx hb dX5_sort_6 rfl (lv_at hl 1 rfl) ?_
  refine RO_i.callV (rest := []) (c_X5_isItem l D cI cJ xm mh mi mz mp mo 0 bn pl pq pm it HH IN ZZ PO SO x hpq (by omega)) ⟨hx, hb, hml, hown, hts⟩ (cwV 1 hts gX5_sort_X5_isItem rfl rfl rfl (by decide +kernel) ⟨Nat.le_of_ble_eq_true rfl, Nat.le_of_ble_eq_true rfl⟩) hK hP hS hA [0, 1, 2, 3, 4, 5] [0, 1] rfl rfl 0 5 rfl rfl rfl rfl hl.1 rfl (Nat.le_of_ble_eq_true rfl) dX5_sort_7 ⟨Nat.zero_le _, Nat.zero_le _⟩ (fun v1_ H locs e1_ hP hS => ?_)
  obtain rfl : v1_ = bI (knI pq it x) := e1_
  refine zb_eq (tgt := 21) hx hb dX5_sort_10 (by decide) (fun c10 => ?_) (fun c10 => ?_)
  · refine lv_iconst (v := (-1)) hx hb dX5_sort_21 (by decide) ?_
    exact hret _ (()) _ _ _ _ hP hD hS (⟨fun _ => rfl, fun q => absurd q.1 c10, fun q => absurd q.1 c10⟩) dX5_sort_22
  · refine lv_aload_n hx hb dX5_sort_13 rfl (lv_at hl 0 rfl) ?_
    refine lv_iload_n hx hb dX5_sort_14 rfl (lv_at hl 2 rfl) ?_
    refine RO_i.callV (rest := []) (c_X5_isPass l D cI cJ xm mh mi mz mp mo 0 bn pl pq pm it HH IN ZZ PO SO y hpq (by omega)) ⟨hx, hb, hml, hown, hts⟩ (cwV 1 hts gX5_sort_X5_isPass rfl rfl rfl (by decide +kernel) ⟨Nat.le_of_ble_eq_true rfl, Nat.le_of_ble_eq_true rfl⟩) hK hP hS hA [0, 1, 2, 3, 4, 5] [0, 1] rfl rfl 0 5 rfl rfl rfl rfl hl.1 rfl (Nat.le_of_ble_eq_true rfl) dX5_sort_15 ⟨Nat.zero_le _, Nat.zero_le _⟩ (fun v2_ H locs e2_ hP hS => ?_)
    obtain rfl : v2_ = bI (knI pq pm y) := e2_
    refine zb_ne (tgt := 23) hx hb dX5_sort_18 (by decide) (fun c18 => ?_) (fun c18 => ?_)
    · refine lv_aload_n hx hb dX5_sort_23 rfl (lv_at hl 0 rfl) ?_
      refine va_get (D := D) (ci := 5) (v := .int (nI pl)) (C := RX5) (T := TX5) (N := 11) hx hb hts hinX5 hown hK hP 0 rfl rfl 4 (by decide) (hts (.fieldLink RX5 59 "PassSearchModel" "planned" "Z") (by decide +kernel)) (fun _ h9 => h9) rfl dX5_sort_24 ?_
      refine zi_if_ne (tgt := 33) hx hb dX5_sort_27 (by decide) (by omega) (fun c27 => ?_) (fun c27 => ?_)
      · obtain ⟨xi, hxi0, rfl, hxi⟩ := i_of c10.1
        obtain ⟨k, hk, rfl, hyk⟩ := i_of c18.1
        have hip := (hpl.2.2.2.2 (by omega)).2
        have hS0 := plan_0 hip
        have hPx := hPO xi (by omega)
        refine lv_lconst (v := lN 1) hx hb dX5_sort_33 (by decide) ?_
        refine lv_topl (fun v3_ e3_ => ?_)
        obtain rfl : v3_ = lN (sat (S 0)) := e3_.trans (congrArg lN (by rw [hS0]; exact (sat_le (by decide)).symm))
        refine lv_lstore_n (lv' := [(3, .long (lN (sat (S 0)))), (0, .ref xm), (1, .int (nI xi)), (2, .int (nI k))]) hx hb dX5_sort_34 rfl hl (by decide) rfl (fun ls hl => ?_)
        refine lv_iconst (v := nI 0) hx hb dX5_sort_35 (by decide) ?_
        refine lv_istore (lv' := [(5, .int (nI 0)), (3, .long (lN (sat (S 0)))), (0, .ref xm), (1, .int (nI xi)), (2, .int (nI k))]) hx hb dX5_sort_36 hl (by decide) rfl (fun ls hl => ?_)
        have L38 : ∀ (nf : Nat) (j : Nat), (j ≤ k + 1) → k + 1 - j < nf → ∀ (H : Heap) (locs : List Loc) (ls : Array Slot), va_P D vwCl [(xm, .inr (5, [.int (nI 0), .int (nI bn), .ref mh, .ref mi, .int (nI pl), .long (lN pq), .int (nI pm), .ref mz, .int (nI it), .ref mp, .ref mo])), (mh, aI cI 65536 HH), (mi, aI cI 65536 IN), (mz, aI cI 62 ZZ), (mp, aJ cJ 4000 PO), (mo, aI cI 4000 SO)] H → va_D A [(xm, .inr (5, [.int (nI 0), .int (nI bn), .ref mh, .ref mi, .int (nI pl), .long (lN pq), .int (nI pm), .ref mz, .int (nI it), .ref mp, .ref mo])), (mh, aI cI 65536 HH), (mi, aI cI 65536 IN), (mz, aI cI 62 ZZ), (mp, aJ cJ 4000 PO), (mo, aI cI 4000 SO)] → va_S A s.heap H locs → lv_has ls 11 [(3, .long (lN (sat (S j)))), (5, .int (nI j)), (0, .ref xm), (1, .int (nI xi)), (2, .int (nI k))] → W p l e ({ frames := 1, cells := 0, slots := 0, locals := 23 } : Room) s m args below meth c H locs 0 0 Q (F0 m 38 ls []) := by
          intro nf
          induction nf with
          | zero => intro j i1 hm; exact absurd hm (Nat.not_lt_zero _)
          | succ nf ih38 =>
            intro j i1 hm38 H locs ls hP hD hS hl
            refine lv_iload hx hb dX5_sort_38 (lv_at hl 1 rfl) ?_
            refine lv_iload_n hx hb dX5_sort_40 rfl (lv_at hl 4 rfl) ?_
            refine zi_gt (tgt := 63) hx hb dX5_sort_41 (by decide) (by omega) (by omega) (fun c41 => ?_) (fun c41 => ?_)
            · obtain rfl : j = k + 1 := by omega
              have hSk := plan_S hip (k := k + 1) (by omega)
              have hsp : 1 ≤ sat (S (k + 1)) := sat_pos hSk.1
              have hst := sat_lt (S (k + 1))
              refine lv_iconst (v := nI 0) hx hb dX5_sort_63 (by decide) ?_
              refine lv_istore (lv' := [(5, .int (nI 0)), (3, .long (lN (sat (S (k + 1))))), (0, .ref xm), (1, .int (nI xi)), (2, .int (nI k))]) hx hb dX5_sort_64 hl (by decide) rfl (fun ls hl => ?_)
              refine lv_iconst (v := nI 0) hx hb dX5_sort_66 (by decide) ?_
              refine lv_istore (lv' := [(6, .int (nI 0)), (5, .int (nI 0)), (3, .long (lN (sat (S (k + 1))))), (0, .ref xm), (1, .int (nI xi)), (2, .int (nI k))]) hx hb dX5_sort_67 hl (by decide) rfl (fun ls hl => ?_)
              have L69 : ∀ (nf : Nat) (i : Nat) (bf : Nat), (i ≤ it) → (bf = sumN (fun i => (if PO i % S (k + 1) < PO xi % S (k + 1) ∨ (PO i % S (k + 1) = PO xi % S (k + 1) ∧ i < xi) then 1 else 0)) i) → it - i < nf → ∀ (H : Heap) (locs : List Loc) (ls : Array Slot), va_P D vwCl [(xm, .inr (5, [.int (nI 0), .int (nI bn), .ref mh, .ref mi, .int (nI pl), .long (lN pq), .int (nI pm), .ref mz, .int (nI it), .ref mp, .ref mo])), (mh, aI cI 65536 HH), (mi, aI cI 65536 IN), (mz, aI cI 62 ZZ), (mp, aJ cJ 4000 PO), (mo, aI cI 4000 SO)] H → va_D A [(xm, .inr (5, [.int (nI 0), .int (nI bn), .ref mh, .ref mi, .int (nI pl), .long (lN pq), .int (nI pm), .ref mz, .int (nI it), .ref mp, .ref mo])), (mh, aI cI 65536 HH), (mi, aI cI 65536 IN), (mz, aI cI 62 ZZ), (mp, aJ cJ 4000 PO), (mo, aI cI 4000 SO)] → va_S A s.heap H locs → lv_has ls 11 [(6, .int (nI i)), (5, .int (nI bf)), (3, .long (lN (sat (S (k + 1))))), (0, .ref xm), (1, .int (nI xi)), (2, .int (nI k))] → W p l e ({ frames := 1, cells := 0, slots := 0, locals := 23 } : Room) s m args below meth c H locs 0 0 Q (F0 m 69 ls []) := by
                intro nf
                induction nf with
                | zero => intro i bf j1 j2 hm; exact absurd hm (Nat.not_lt_zero _)
                | succ nf ih69 =>
                  intro i bf j1 j2 hm69 H locs ls hP hD hS hl
                  refine lv_iload hx hb dX5_sort_69 (lv_at hl 0 rfl) ?_
                  refine lv_aload_n hx hb dX5_sort_71 rfl (lv_at hl 3 rfl) ?_
                  refine va_get (D := D) (ci := 5) (v := .int (nI it)) (C := RX5) (T := TX5) (N := 11) hx hb hts hinX5 hown hK hP 0 rfl rfl 8 (by decide) (hts (.fieldLink RX5 63 "PassSearchModel" "items" "I") (by decide +kernel)) (fun _ h9 => h9) rfl dX5_sort_72 ?_
                  refine zi_ge (tgt := 138) hx hb dX5_sort_75 (by decide) (by omega) (by omega) (fun c75 => ?_) (fun c75 => ?_)
                  · refine lv_iload hx hb dX5_sort_138 (lv_at hl 1 rfl) ?_
                    exact hret _ (()) _ _ _ _ hP hD hS (⟨fun q => absurd ⟨c10, c18⟩ q, fun _ q => by omega, fun _ _ => by rw [hxi, hyk, j2, show i = it by omega]; rfl⟩) dX5_sort_140
                  · have hPi := hPO i (by omega)
                    refine lv_aload_n hx hb dX5_sort_78 rfl (lv_at hl 3 rfl) ?_
                    refine va_get (D := D) (ci := 5) (v := .ref mp) (C := RX5) (T := TX5) (N := 11) hx hb hts hinX5 hown hK hP 0 rfl rfl 9 (by decide) (hts (.fieldLink RX5 20 "PassSearchModel" "pointOf" "[J") (by decide +kernel)) (fun _ h9 => h9) rfl dX5_sort_79 ?_
                    refine lv_iload hx hb dX5_sort_82 (lv_at hl 0 rfl) ?_
                    refine zl_ald hx hb hK hP 4 1 rfl rfl (k := i) (by omega) (by omega) dX5_sort_84 ?_
                    refine lv_lload_n hx hb dX5_sort_85 rfl (lv_at hl 2 rfl) ?_
                    refine zl_rem hx hb dX5_sort_86 (by omega) (by omega) (by omega) ?_
                    refine lv_topl (fun v4_ e4_ => ?_)
                    obtain rfl : v4_ = lN (PO i % S (k + 1)) := e4_.trans (congrArg lN (mod_sat (by omega)))
                    refine lv_lstore (lv' := [(7, .long (lN (PO i % S (k + 1)))), (6, .int (nI i)), (5, .int (nI bf)), (3, .long (lN (sat (S (k + 1))))), (0, .ref xm), (1, .int (nI xi)), (2, .int (nI k))]) hx hb dX5_sort_87 hl (by decide) rfl (fun ls hl => ?_)
                    refine lv_aload_n hx hb dX5_sort_89 rfl (lv_at hl 4 rfl) ?_
                    refine va_get (D := D) (ci := 5) (v := .ref mp) (C := RX5) (T := TX5) (N := 11) hx hb hts hinX5 hown hK hP 0 rfl rfl 9 (by decide) (hts (.fieldLink RX5 20 "PassSearchModel" "pointOf" "[J") (by decide +kernel)) (fun _ h9 => h9) rfl dX5_sort_90 ?_
                    refine lv_iload_n hx hb dX5_sort_93 rfl (lv_at hl 5 rfl) ?_
                    refine zl_ald hx hb hK hP 4 1 rfl rfl (k := xi) (by omega) (by omega) dX5_sort_94 ?_
                    refine lv_lload_n hx hb dX5_sort_95 rfl (lv_at hl 3 rfl) ?_
                    refine zl_rem hx hb dX5_sort_96 (by omega) (by omega) (by omega) ?_
                    refine lv_topl (fun v5_ e5_ => ?_)
                    obtain rfl : v5_ = lN (PO xi % S (k + 1)) := e5_.trans (congrArg lN (mod_sat (by omega)))
                    refine lv_lstore (lv' := [(9, .long (lN (PO xi % S (k + 1)))), (7, .long (lN (PO i % S (k + 1)))), (6, .int (nI i)), (5, .int (nI bf)), (3, .long (lN (sat (S (k + 1))))), (0, .ref xm), (1, .int (nI xi)), (2, .int (nI k))]) hx hb dX5_sort_97 hl (by decide) rfl (fun ls hl => ?_)
                    refine lv_lload hx hb dX5_sort_99 (lv_at hl 1 rfl) ?_
                    refine lv_lload hx hb dX5_sort_101 (lv_at hl 0 rfl) ?_
                    refine zl_lt (tgt := 121) hx hb dX5_sort_103 dX5_sort_104 (by decide) (Nat.lt_of_le_of_lt (Nat.mod_le _ _) (by omega)) (Nat.lt_of_le_of_lt (Nat.mod_le _ _) (by omega)) (fun c103 => ?_) (fun c103 => ?_)
                    · refine lv_iload hx hb dX5_sort_121 (lv_at hl 3 rfl) ?_
                      refine lv_iconst (v := nI 1) hx hb dX5_sort_123 (by decide) ?_
                      refine zi_add hx hb dX5_sort_124  ?_
                      refine lv_goto (tgt := 130) hx hb dX5_sort_125 (by decide) ?_
                      refine lv_istore (lv' := [(5, .int (nI (bf + 1))), (9, .long (lN (PO xi % S (k + 1)))), (7, .long (lN (PO i % S (k + 1)))), (6, .int (nI i)), (3, .long (lN (sat (S (k + 1))))), (0, .ref xm), (1, .int (nI xi)), (2, .int (nI k))]) hx hb dX5_sort_130 hl (by decide) rfl (fun ls hl => ?_)
                      refine lv_iinc (v := nI (i + 1)) (lv' := [(6, .int (nI (i + 1))), (5, .int (nI (bf + 1))), (9, .long (lN (PO xi % S (k + 1)))), (7, .long (lN (PO i % S (k + 1)))), (3, .long (lN (sat (S (k + 1))))), (0, .ref xm), (1, .int (nI xi)), (2, .int (nI k))]) hx hb dX5_sort_132 hl (k := 3) rfl (by rw [show Int32.ofInt 1 = nI 1 by decide, nI_add]) (by decide) rfl (fun ls hl => ?_)
                      refine lv_goto (tgt := 69) hx hb dX5_sort_135 (by decide) ?_
                      exact ih69 (i + 1) (bf + 1) (by omega) (by rw [sumN_succ, if_pos (Or.inl c103), ← j2]) (by omega) _ _ _ hP hD hS (lv_sub hl [0, 1, 4, 5, 6, 7] rfl)
                    · refine lv_lload hx hb dX5_sort_107 (lv_at hl 1 rfl) ?_
                      refine lv_lload hx hb dX5_sort_109 (lv_at hl 0 rfl) ?_
                      refine zl_ne (tgt := 128) hx hb dX5_sort_111 dX5_sort_112 (by decide) (Nat.lt_of_le_of_lt (Nat.mod_le _ _) (by omega)) (Nat.lt_of_le_of_lt (Nat.mod_le _ _) (by omega)) (fun c111 => ?_) (fun c111 => ?_)
                      · refine lv_iload hx hb dX5_sort_128 (lv_at hl 3 rfl) ?_
                        refine lv_istore (lv' := [(5, .int (nI bf)), (9, .long (lN (PO xi % S (k + 1)))), (7, .long (lN (PO i % S (k + 1)))), (6, .int (nI i)), (3, .long (lN (sat (S (k + 1))))), (0, .ref xm), (1, .int (nI xi)), (2, .int (nI k))]) hx hb dX5_sort_130 hl (by decide) rfl (fun ls hl => ?_)
                        refine lv_iinc (v := nI (i + 1)) (lv' := [(6, .int (nI (i + 1))), (5, .int (nI bf)), (9, .long (lN (PO xi % S (k + 1)))), (7, .long (lN (PO i % S (k + 1)))), (3, .long (lN (sat (S (k + 1))))), (0, .ref xm), (1, .int (nI xi)), (2, .int (nI k))]) hx hb dX5_sort_132 hl (k := 3) rfl (by rw [show Int32.ofInt 1 = nI 1 by decide, nI_add]) (by decide) rfl (fun ls hl => ?_)
                        refine lv_goto (tgt := 69) hx hb dX5_sort_135 (by decide) ?_
                        exact ih69 (i + 1) bf (by omega) (by rw [sumN_succ, if_neg (fun q => by rcases q with q | q <;> omega), ← j2]; rfl) (by omega) _ _ _ hP hD hS (lv_sub hl [0, 1, 4, 5, 6, 7] rfl)
                      · refine lv_iload hx hb dX5_sort_115 (lv_at hl 2 rfl) ?_
                        refine lv_iload_n hx hb dX5_sort_117 rfl (lv_at hl 6 rfl) ?_
                        refine zi_ge (tgt := 128) hx hb dX5_sort_118 (by decide) (by omega) (by omega) (fun c118 => ?_) (fun c118 => ?_)
                        · refine lv_iload hx hb dX5_sort_128 (lv_at hl 3 rfl) ?_
                          refine lv_istore (lv' := [(5, .int (nI bf)), (9, .long (lN (PO xi % S (k + 1)))), (7, .long (lN (PO i % S (k + 1)))), (6, .int (nI i)), (3, .long (lN (sat (S (k + 1))))), (0, .ref xm), (1, .int (nI xi)), (2, .int (nI k))]) hx hb dX5_sort_130 hl (by decide) rfl (fun ls hl => ?_)
                          refine lv_iinc (v := nI (i + 1)) (lv' := [(6, .int (nI (i + 1))), (5, .int (nI bf)), (9, .long (lN (PO xi % S (k + 1)))), (7, .long (lN (PO i % S (k + 1)))), (3, .long (lN (sat (S (k + 1))))), (0, .ref xm), (1, .int (nI xi)), (2, .int (nI k))]) hx hb dX5_sort_132 hl (k := 3) rfl (by rw [show Int32.ofInt 1 = nI 1 by decide, nI_add]) (by decide) rfl (fun ls hl => ?_)
                          refine lv_goto (tgt := 69) hx hb dX5_sort_135 (by decide) ?_
                          exact ih69 (i + 1) bf (by omega) (by rw [sumN_succ, if_neg (fun q => by rcases q with q | q <;> omega), ← j2]; rfl) (by omega) _ _ _ hP hD hS (lv_sub hl [0, 1, 4, 5, 6, 7] rfl)
                        · refine lv_iload hx hb dX5_sort_121 (lv_at hl 3 rfl) ?_
                          refine lv_iconst (v := nI 1) hx hb dX5_sort_123 (by decide) ?_
                          refine zi_add hx hb dX5_sort_124  ?_
                          refine lv_goto (tgt := 130) hx hb dX5_sort_125 (by decide) ?_
                          refine lv_istore (lv' := [(5, .int (nI (bf + 1))), (9, .long (lN (PO xi % S (k + 1)))), (7, .long (lN (PO i % S (k + 1)))), (6, .int (nI i)), (3, .long (lN (sat (S (k + 1))))), (0, .ref xm), (1, .int (nI xi)), (2, .int (nI k))]) hx hb dX5_sort_130 hl (by decide) rfl (fun ls hl => ?_)
                          refine lv_iinc (v := nI (i + 1)) (lv' := [(6, .int (nI (i + 1))), (5, .int (nI (bf + 1))), (9, .long (lN (PO xi % S (k + 1)))), (7, .long (lN (PO i % S (k + 1)))), (3, .long (lN (sat (S (k + 1))))), (0, .ref xm), (1, .int (nI xi)), (2, .int (nI k))]) hx hb dX5_sort_132 hl (k := 3) rfl (by rw [show Int32.ofInt 1 = nI 1 by decide, nI_add]) (by decide) rfl (fun ls hl => ?_)
                          refine lv_goto (tgt := 69) hx hb dX5_sort_135 (by decide) ?_
                          exact ih69 (i + 1) (bf + 1) (by omega) (by rw [sumN_succ, if_pos (Or.inr ⟨c111, c118⟩), ← j2]) (by omega) _ _ _ hP hD hS (lv_sub hl [0, 1, 4, 5, 6, 7] rfl)
              exact L69 _ 0 0 (Nat.zero_le _) (rfl) (Nat.lt_succ_self _) _ _ _ hP hD hS (lv_sub hl [0, 1, 2, 3, 4, 5] rfl)
            · have hZj := plan_Z hip (k := j) (by omega)
              refine lv_lload_n hx hb dX5_sort_44 rfl (lv_at hl 0 rfl) ?_
              refine lv_aload_n hx hb dX5_sort_45 rfl (lv_at hl 2 rfl) ?_
              refine va_get (D := D) (ci := 5) (v := .ref mz) (C := RX5) (T := TX5) (N := 11) hx hb hts hinX5 hown hK hP 0 rfl rfl 7 (by decide) (hts (.fieldLink RX5 17 "PassSearchModel" "sizes" "[I") (by decide +kernel)) (fun _ h9 => h9) rfl dX5_sort_46 ?_
              refine lv_iload hx hb dX5_sort_49 (lv_at hl 1 rfl) ?_
              refine zi_ald hx hb hK hP 3 0 rfl rfl (k := j) (by omega) (by omega) dX5_sort_51 ?_
              refine z_i2l hx hb dX5_sort_52 (by omega) ?_
              refine RO_l.callS (rest := []) (c_X5_product l D (sat (S j)) (ZZ j) (sat_top _) (by omega)) ⟨hx, hb, hml, hown, hts⟩ (va_cwS 2 hts gX5_sort_X5_product rfl rfl rfl (by decide +kernel) ⟨Nat.le_of_ble_eq_true rfl, Nat.le_of_ble_eq_true rfl⟩) hK hP hS hA [] [] rfl rfl rfl hl.1 rfl (Nat.le_of_ble_eq_true rfl) dX5_sort_53 ⟨Nat.zero_le _, Nat.zero_le _⟩ (fun v6_ H locs e6_ hP hS => ?_)
              obtain rfl : v6_ = lN (sat (sat (S j) * ZZ j)) := e6_
              refine lv_topl (fun v7_ e7_ => ?_)
              obtain rfl : v7_ = lN (sat (S (j + 1))) := e7_.trans (congrArg lN (by rw [sat_mul _ (by omega), ← hZj.2.2]))
              refine lv_lstore_n (lv' := [(3, .long (lN (sat (S (j + 1))))), (5, .int (nI j)), (0, .ref xm), (1, .int (nI xi)), (2, .int (nI k))]) hx hb dX5_sort_56 rfl hl (by decide) rfl (fun ls hl => ?_)
              refine lv_iinc (v := nI (j + 1)) (lv' := [(5, .int (nI (j + 1))), (3, .long (lN (sat (S (j + 1))))), (0, .ref xm), (1, .int (nI xi)), (2, .int (nI k))]) hx hb dX5_sort_57 hl (k := 1) rfl (by rw [show Int32.ofInt 1 = nI 1 by decide, nI_add]) (by decide) rfl (fun ls hl => ?_)
              refine lv_goto (tgt := 38) hx hb dX5_sort_60 (by decide) ?_
              exact ih38 (j + 1) (by omega) (by omega) _ _ _ hP hD hS (lv_sub hl [1, 0, 2, 3, 4] rfl)
        exact L38 _ 0 (by omega) (Nat.lt_succ_self _) _ _ _ hP hD hS (lv_sub hl [1, 0, 2, 3, 4] rfl)
      · refine lv_bipush (v := (-3)) hx hb dX5_sort_30 (by decide) ?_
        exact hret _ (()) _ _ _ _ hP hD hS (⟨fun q => absurd ⟨c10, c18⟩ q, fun _ _ => rfl, fun _ q => by omega⟩) dX5_sort_32
    · refine lv_iconst (v := (-1)) hx hb dX5_sort_21 (by decide) ?_
      exact hret _ (()) _ _ _ _ hP hD hS (⟨fun _ => rfl, fun q => absurd q.2 c18, fun q => absurd q.2 c18⟩) dX5_sort_22
set_option maxHeartbeats 4000000 in
set_option maxRecDepth 100000 in
/-- trays -/
theorem c_X5_trays (l : Launch) (D : va_G) (cI cJ : ClassId) (xm mh mi mz mp mo th bn pl pq pm it : Nat) (HH IN ZZ PO SO : Nat → Nat) (S : Nat → Nat) (hpq : (pl = 0 ∧ pq = 0) ∨ (pl = 1 ∧ 1 ≤ pq)) (hpl : xPlan bn pq pm ZZ S) (hit : it ≤ 4000) (hPO : ∀ i, i < it → PO i < pq) (hHH : ∀ b, b < 65536 → 1 ≤ HH b ∧ HH b ≤ 100000) : WR_i l yX5_trays wsX5_trays ({ frames := 2, cells := 0, slots := 0, locals := 48 } : Room) D [(xm, .inr (5, [.int (nI th), .int (nI bn), .ref mh, .ref mi, .int (nI pl), .long (lN pq), .int (nI pm), .ref mz, .int (nI it), .ref mp, .ref mo])), (mh, aI cI 65536 HH), (mi, aI cI 65536 IN), (mz, aI cI 62 ZZ), (mp, aJ cJ 4000 PO), (mo, aI cI 4000 SO)] [(cI, .int), (cJ, .long)] [.ref xm] (fun (u : Nat → Nat) => [(xm, .inr (5, [.int (nI 0), .int (nI bn), .ref mh, .ref mi, .int (nI pl), .long (lN pq), .int (nI pm), .ref mz, .int (nI it), .ref mp, .ref mo])), (mh, aI cI 65536 HH), (mi, aI cI 65536 u), (mz, aI cI 62 ZZ), (mp, aJ cJ 4000 PO), (mo, aI cI 4000 SO)]) (fun v _ => v = if pq = 0 then -3 else nI (sumN (fun k => trayI PO HH it (S k) (ZZ k) (ZZ k)) pm)) 0 0 := by
  refine WR_i.of (cc := cX5_trays) (maxL := 4) (by decide) rfl (Nat.le_of_ble_eq_true rfl) ?_
  intro p e s m args below meth c ls A Q hx hb hml hts hown hA hP hD hK hl hin hret
  have hown : s.vm.findClass RX5 = some m.cls := hown
  have hl : lv_has ls 4 [(0, .ref xm)] := hl
  have hS : va_S A s.heap s.heap [] := va_S.rf
  have hinX5 : ∀ w ∈ wsX50, w ∈ wsX5_trays := by decide +kernel
  have hpt := hpl.1
  have hpn := hpl.2.1
  have hbn := hpl.2.2.1
  refine lv_aload_n hx hb dX5_trays_0 rfl (lv_at hl 0 rfl) ?_
  refine lv_iconst (v := nI 0) hx hb dX5_trays_1 (by decide) ?_
  refine va_put (D := D) (ci := 5) (v := .int (nI 0)) (ty := .int) (C := RX5) (T := TX5) (N := 11) hx hb hts hinX5 tyX5 tyX5_ok nmX5 hown hK hP hD hS 0 rfl rfl 0 (by decide) (hts (.fieldLink RX5 31 "PassSearchModel" "thrown" "I") (by decide +kernel)) (fun _ h9 => h9) rfl (by decide +kernel) rfl rfl (Nat.le_of_ble_eq_true rfl) dX5_trays_2 (fun H locs hP hD hS => ?_)
  have hP : va_P D vwCl [(xm, .inr (5, [.int (nI 0), .int (nI bn), .ref mh, .ref mi, .int (nI pl), .long (lN pq), .int (nI pm), .ref mz, .int (nI it), .ref mp, .ref mo])), (mh, aI cI 65536 HH), (mi, aI cI 65536 IN), (mz, aI cI 62 ZZ), (mp, aJ cJ 4000 PO), (mo, aI cI 4000 SO)] H := hP
  have hD : va_D A [(xm, .inr (5, [.int (nI 0), .int (nI bn), .ref mh, .ref mi, .int (nI pl), .long (lN pq), .int (nI pm), .ref mz, .int (nI it), .ref mp, .ref mo])), (mh, aI cI 65536 HH), (mi, aI cI 65536 IN), (mz, aI cI 62 ZZ), (mp, aJ cJ 4000 PO), (mo, aI cI 4000 SO)] := hD
  refine lv_aload_n hx hb dX5_trays_5 rfl (lv_at hl 0 rfl) ?_
  refine va_get (D := D) (ci := 5) (v := .int (nI pl)) (C := RX5) (T := TX5) (N := 11) hx hb hts hinX5 hown hK hP 0 rfl rfl 4 (by decide) (hts (.fieldLink RX5 59 "PassSearchModel" "planned" "Z") (by decide +kernel)) (fun _ h9 => h9) rfl dX5_trays_6 ?_
  refine zi_if_ne (tgt := 15) hx hb dX5_trays_9 (by decide) (by omega) (fun c9 => ?_) (fun c9 => ?_)
  · refine lv_iconst (v := nI 0) hx hb dX5_trays_15 (by decide) ?_
    refine lv_istore_n (lv' := [(1, .int (nI 0)), (0, .ref xm)]) hx hb dX5_trays_16 rfl hl (by decide) rfl (fun ls hl => ?_)
    refine lv_iconst (v := nI 0) hx hb dX5_trays_17 (by decide) ?_
    refine lv_istore_n (lv' := [(2, .int (nI 0)), (1, .int (nI 0)), (0, .ref xm)]) hx hb dX5_trays_18 rfl hl (by decide) rfl (fun ls hl => ?_)
    have L19 : ∀ (nf : Nat) (k : Nat) (zz : Nat) (N1 : Nat → Nat), (k ≤ pm) → (zz = sumN (fun k => trayI PO HH it (S k) (ZZ k) (ZZ k)) k) → pm - k < nf → ∀ (H : Heap) (locs : List Loc) (ls : Array Slot), va_P D vwCl [(xm, .inr (5, [.int (nI 0), .int (nI bn), .ref mh, .ref mi, .int (nI pl), .long (lN pq), .int (nI pm), .ref mz, .int (nI it), .ref mp, .ref mo])), (mh, aI cI 65536 HH), (mi, aI cI 65536 N1), (mz, aI cI 62 ZZ), (mp, aJ cJ 4000 PO), (mo, aI cI 4000 SO)] H → va_D A [(xm, .inr (5, [.int (nI 0), .int (nI bn), .ref mh, .ref mi, .int (nI pl), .long (lN pq), .int (nI pm), .ref mz, .int (nI it), .ref mp, .ref mo])), (mh, aI cI 65536 HH), (mi, aI cI 65536 N1), (mz, aI cI 62 ZZ), (mp, aJ cJ 4000 PO), (mo, aI cI 4000 SO)] → va_S A s.heap H locs → lv_has ls 4 [(2, .int (nI k)), (1, .int (nI zz)), (0, .ref xm)] → W p l e ({ frames := 2, cells := 0, slots := 0, locals := 48 } : Room) s m args below meth c H locs 0 0 Q (F0 m 19 ls []) := by
      intro nf
      induction nf with
      | zero => intro k zz N1 i1 i2 hm; exact absurd hm (Nat.not_lt_zero _)
      | succ nf ih19 =>
        intro k zz N1 i1 i2 hm19 H locs ls hP hD hS hl
        refine lv_iload_n hx hb dX5_trays_19 rfl (lv_at hl 0 rfl) ?_
        refine lv_aload_n hx hb dX5_trays_20 rfl (lv_at hl 2 rfl) ?_
        refine va_get (D := D) (ci := 5) (v := .int (nI pm)) (C := RX5) (T := TX5) (N := 11) hx hb hts hinX5 hown hK hP 0 rfl rfl 6 (by decide) (hts (.fieldLink RX5 42 "PassSearchModel" "passes" "I") (by decide +kernel)) (fun _ h9 => h9) rfl dX5_trays_21 ?_
        refine zi_ge (tgt := 150) hx hb dX5_trays_24 (by decide) (by omega) (by omega) (fun c24 => ?_) (fun c24 => ?_)
        · refine lv_iload_n hx hb dX5_trays_150 rfl (lv_at hl 1 rfl) ?_
          exact hret _ (N1) _ _ _ _ hP hD hS (by rw [if_neg (by omega), i2, show k = pm by omega]) dX5_trays_151
        · have hip := (hpl.2.2.2.2 (by omega)).2
          have hZk := plan_Z hip (k := k) (by omega)
          refine lv_iconst (v := nI 0) hx hb dX5_trays_27 (by decide) ?_
          refine lv_istore_n (lv' := [(3, .int (nI 0)), (2, .int (nI k)), (1, .int (nI zz)), (0, .ref xm)]) hx hb dX5_trays_28 rfl hl (by decide) rfl (fun ls hl => ?_)
          have L29 : ∀ (nf : Nat) (b : Nat) (N2 : Nat → Nat), (b ≤ ZZ k) → (∀ t, t < b → N2 t = 0) → ZZ k - b < nf → ∀ (H : Heap) (locs : List Loc) (ls : Array Slot), va_P D vwCl [(xm, .inr (5, [.int (nI 0), .int (nI bn), .ref mh, .ref mi, .int (nI pl), .long (lN pq), .int (nI pm), .ref mz, .int (nI it), .ref mp, .ref mo])), (mh, aI cI 65536 HH), (mi, aI cI 65536 N2), (mz, aI cI 62 ZZ), (mp, aJ cJ 4000 PO), (mo, aI cI 4000 SO)] H → va_D A [(xm, .inr (5, [.int (nI 0), .int (nI bn), .ref mh, .ref mi, .int (nI pl), .long (lN pq), .int (nI pm), .ref mz, .int (nI it), .ref mp, .ref mo])), (mh, aI cI 65536 HH), (mi, aI cI 65536 N2), (mz, aI cI 62 ZZ), (mp, aJ cJ 4000 PO), (mo, aI cI 4000 SO)] → va_S A s.heap H locs → lv_has ls 4 [(3, .int (nI b)), (2, .int (nI k)), (1, .int (nI zz)), (0, .ref xm)] → W p l e ({ frames := 2, cells := 0, slots := 0, locals := 48 } : Room) s m args below meth c H locs 0 0 Q (F0 m 29 ls []) := by
            intro nf
            induction nf with
            | zero => intro b N2 k1 k2 hm; exact absurd hm (Nat.not_lt_zero _)
            | succ nf ih29 =>
              intro b N2 k1 k2 hm29 H locs ls hP hD hS hl
              refine lv_iload_n hx hb dX5_trays_29 rfl (lv_at hl 0 rfl) ?_
              refine lv_aload_n hx hb dX5_trays_30 rfl (lv_at hl 3 rfl) ?_
              refine va_get (D := D) (ci := 5) (v := .ref mz) (C := RX5) (T := TX5) (N := 11) hx hb hts hinX5 hown hK hP 0 rfl rfl 7 (by decide) (hts (.fieldLink RX5 17 "PassSearchModel" "sizes" "[I") (by decide +kernel)) (fun _ h9 => h9) rfl dX5_trays_31 ?_
              refine lv_iload_n hx hb dX5_trays_34 rfl (lv_at hl 1 rfl) ?_
              refine zi_ald hx hb hK hP 3 0 rfl rfl (k := k) (by omega) (by omega) dX5_trays_35 ?_
              refine zi_ge (tgt := 52) hx hb dX5_trays_36 (by decide) (by omega) (by omega) (fun c36 => ?_) (fun c36 => ?_)
              · refine lv_iconst (v := nI 0) hx hb dX5_trays_52 (by decide) ?_
                refine lv_istore_n (lv' := [(3, .int (nI 0)), (2, .int (nI k)), (1, .int (nI zz)), (0, .ref xm)]) hx hb dX5_trays_53 rfl hl (by decide) rfl (fun ls hl => ?_)
                have L54 : ∀ (nf : Nat) (i : Nat) (N3 : Nat → Nat), (i ≤ it) → (∀ t, t < ZZ k → N3 t = cntI PO (S k) (ZZ k) i t) → it - i < nf → ∀ (H : Heap) (locs : List Loc) (ls : Array Slot), va_P D vwCl [(xm, .inr (5, [.int (nI 0), .int (nI bn), .ref mh, .ref mi, .int (nI pl), .long (lN pq), .int (nI pm), .ref mz, .int (nI it), .ref mp, .ref mo])), (mh, aI cI 65536 HH), (mi, aI cI 65536 N3), (mz, aI cI 62 ZZ), (mp, aJ cJ 4000 PO), (mo, aI cI 4000 SO)] H → va_D A [(xm, .inr (5, [.int (nI 0), .int (nI bn), .ref mh, .ref mi, .int (nI pl), .long (lN pq), .int (nI pm), .ref mz, .int (nI it), .ref mp, .ref mo])), (mh, aI cI 65536 HH), (mi, aI cI 65536 N3), (mz, aI cI 62 ZZ), (mp, aJ cJ 4000 PO), (mo, aI cI 4000 SO)] → va_S A s.heap H locs → lv_has ls 4 [(3, .int (nI i)), (2, .int (nI k)), (1, .int (nI zz)), (0, .ref xm)] → W p l e ({ frames := 2, cells := 0, slots := 0, locals := 48 } : Room) s m args below meth c H locs 0 0 Q (F0 m 54 ls []) := by
                  intro nf
                  induction nf with
                  | zero => intro i N3 j1 j2 hm; exact absurd hm (Nat.not_lt_zero _)
                  | succ nf ih54 =>
                    intro i N3 j1 j2 hm54 H locs ls hP hD hS hl
                    refine lv_iload_n hx hb dX5_trays_54 rfl (lv_at hl 0 rfl) ?_
                    refine lv_aload_n hx hb dX5_trays_55 rfl (lv_at hl 3 rfl) ?_
                    refine va_get (D := D) (ci := 5) (v := .int (nI it)) (C := RX5) (T := TX5) (N := 11) hx hb hts hinX5 hown hK hP 0 rfl rfl 8 (by decide) (hts (.fieldLink RX5 63 "PassSearchModel" "items" "I") (by decide +kernel)) (fun _ h9 => h9) rfl dX5_trays_56 ?_
                    refine zi_ge (tgt := 88) hx hb dX5_trays_59 (by decide) (by omega) (by omega) (fun c59 => ?_) (fun c59 => ?_)
                    · refine lv_iconst (v := nI 0) hx hb dX5_trays_88 (by decide) ?_
                      refine lv_istore_n (lv' := [(3, .int (nI 0)), (2, .int (nI k)), (1, .int (nI zz)), (0, .ref xm)]) hx hb dX5_trays_89 rfl hl (by decide) rfl (fun ls hl => ?_)
                      have L90 : ∀ (nf : Nat) (b : Nat) (z2 : Nat), (b ≤ ZZ k) → (z2 = zz + sumN (fun b => cntI PO (S k) (ZZ k) it b / HH b + if 0 < cntI PO (S k) (ZZ k) it b % HH b then 1 else 0) b) → ZZ k - b < nf → ∀ (H : Heap) (locs : List Loc) (ls : Array Slot), va_P D vwCl [(xm, .inr (5, [.int (nI 0), .int (nI bn), .ref mh, .ref mi, .int (nI pl), .long (lN pq), .int (nI pm), .ref mz, .int (nI it), .ref mp, .ref mo])), (mh, aI cI 65536 HH), (mi, aI cI 65536 N3), (mz, aI cI 62 ZZ), (mp, aJ cJ 4000 PO), (mo, aI cI 4000 SO)] H → va_D A [(xm, .inr (5, [.int (nI 0), .int (nI bn), .ref mh, .ref mi, .int (nI pl), .long (lN pq), .int (nI pm), .ref mz, .int (nI it), .ref mp, .ref mo])), (mh, aI cI 65536 HH), (mi, aI cI 65536 N3), (mz, aI cI 62 ZZ), (mp, aJ cJ 4000 PO), (mo, aI cI 4000 SO)] → va_S A s.heap H locs → lv_has ls 4 [(3, .int (nI b)), (2, .int (nI k)), (1, .int (nI z2)), (0, .ref xm)] → W p l e ({ frames := 2, cells := 0, slots := 0, locals := 48 } : Room) s m args below meth c H locs 0 0 Q (F0 m 90 ls []) := by
                        intro nf
                        induction nf with
                        | zero => intro b z2 k1 k2 hm; exact absurd hm (Nat.not_lt_zero _)
                        | succ nf ih90 =>
                          intro b z2 k1 k2 hm90 H locs ls hP hD hS hl
                          refine lv_iload_n hx hb dX5_trays_90 rfl (lv_at hl 0 rfl) ?_
                          refine lv_aload_n hx hb dX5_trays_91 rfl (lv_at hl 3 rfl) ?_
                          refine va_get (D := D) (ci := 5) (v := .ref mz) (C := RX5) (T := TX5) (N := 11) hx hb hts hinX5 hown hK hP 0 rfl rfl 7 (by decide) (hts (.fieldLink RX5 17 "PassSearchModel" "sizes" "[I") (by decide +kernel)) (fun _ h9 => h9) rfl dX5_trays_92 ?_
                          refine lv_iload_n hx hb dX5_trays_95 rfl (lv_at hl 1 rfl) ?_
                          refine zi_ald hx hb hK hP 3 0 rfl rfl (k := k) (by omega) (by omega) dX5_trays_96 ?_
                          refine zi_ge (tgt := 144) hx hb dX5_trays_97 (by decide) (by omega) (by omega) (fun c97 => ?_) (fun c97 => ?_)
                          · refine lv_iinc (v := nI (k + 1)) (lv' := [(2, .int (nI (k + 1))), (3, .int (nI b)), (1, .int (nI z2)), (0, .ref xm)]) hx hb dX5_trays_144 hl (k := 1) rfl (by rw [show Int32.ofInt 1 = nI 1 by decide, nI_add]) (by decide) rfl (fun ls hl => ?_)
                            refine lv_goto (tgt := 19) hx hb dX5_trays_147 (by decide) ?_
                            exact ih19 (k + 1) z2 N3 (by omega) (by rw [sumN_succ, ← i2, k2, show b = ZZ k by omega]; rfl) (by omega) _ _ _ hP hD hS (lv_sub hl [0, 2, 3] rfl)
                          · have hHb := hHH b (by omega)
                            have hcl := cntI_le PO (S k) (ZZ k) it b
                            refine lv_iload_n hx hb dX5_trays_100 rfl (lv_at hl 2 rfl) ?_
                            refine lv_aload_n hx hb dX5_trays_101 rfl (lv_at hl 3 rfl) ?_
                            refine va_get (D := D) (ci := 5) (v := .ref mi) (C := RX5) (T := TX5) (N := 11) hx hb hts hinX5 hown hK hP 0 rfl rfl 3 (by decide) (hts (.fieldLink RX5 14 "PassSearchModel" "in" "[I") (by decide +kernel)) (fun _ h9 => h9) rfl dX5_trays_102 ?_
                            refine lv_iload_n hx hb dX5_trays_105 rfl (lv_at hl 0 rfl) ?_
                            refine zi_ald hx hb hK hP 2 0 rfl rfl (k := b) (by omega) (by omega) dX5_trays_106 ?_
                            refine lv_topi (fun v1_ e1_ => ?_)
                            obtain rfl : v1_ = nI (cntI PO (S k) (ZZ k) it b) := e1_.trans (congrArg nI (by rw [j2 b (by omega), show i = it by omega]))
                            refine lv_aload_n hx hb dX5_trays_107 rfl (lv_at hl 3 rfl) ?_
                            refine va_get (D := D) (ci := 5) (v := .ref mh) (C := RX5) (T := TX5) (N := 11) hx hb hts hinX5 hown hK hP 0 rfl rfl 2 (by decide) (hts (.fieldLink RX5 8 "PassSearchModel" "heights" "[I") (by decide +kernel)) (fun _ h9 => h9) rfl dX5_trays_108 ?_
                            refine lv_iload_n hx hb dX5_trays_111 rfl (lv_at hl 0 rfl) ?_
                            refine zi_ald hx hb hK hP 1 0 rfl rfl (k := b) (by omega) (by omega) dX5_trays_112 ?_
                            refine zi_div hx hb dX5_trays_113 (by omega) (by omega) (by omega) ?_
                            refine zi_add hx hb dX5_trays_114  ?_
                            refine lv_aload_n hx hb dX5_trays_115 rfl (lv_at hl 3 rfl) ?_
                            refine va_get (D := D) (ci := 5) (v := .ref mi) (C := RX5) (T := TX5) (N := 11) hx hb hts hinX5 hown hK hP 0 rfl rfl 3 (by decide) (hts (.fieldLink RX5 14 "PassSearchModel" "in" "[I") (by decide +kernel)) (fun _ h9 => h9) rfl dX5_trays_116 ?_
                            refine lv_iload_n hx hb dX5_trays_119 rfl (lv_at hl 0 rfl) ?_
                            refine zi_ald hx hb hK hP 2 0 rfl rfl (k := b) (by omega) (by omega) dX5_trays_120 ?_
                            refine lv_topi (fun v2_ e2_ => ?_)
                            obtain rfl : v2_ = nI (cntI PO (S k) (ZZ k) it b) := e2_.trans (congrArg nI (by rw [j2 b (by omega), show i = it by omega]))
                            refine lv_aload_n hx hb dX5_trays_121 rfl (lv_at hl 3 rfl) ?_
                            refine va_get (D := D) (ci := 5) (v := .ref mh) (C := RX5) (T := TX5) (N := 11) hx hb hts hinX5 hown hK hP 0 rfl rfl 2 (by decide) (hts (.fieldLink RX5 8 "PassSearchModel" "heights" "[I") (by decide +kernel)) (fun _ h9 => h9) rfl dX5_trays_122 ?_
                            refine lv_iload_n hx hb dX5_trays_125 rfl (lv_at hl 0 rfl) ?_
                            refine zi_ald hx hb hK hP 1 0 rfl rfl (k := b) (by omega) (by omega) dX5_trays_126 ?_
                            refine zi_rem hx hb dX5_trays_127 (by omega) (by omega) (by omega) ?_
                            refine zi_if_le (tgt := 135) hx hb dX5_trays_128 (by decide) (Nat.lt_of_le_of_lt (Nat.mod_le _ _) (by omega)) (fun c128 => ?_) (fun c128 => ?_)
                            · refine lv_iconst (v := nI 0) hx hb dX5_trays_135 (by decide) ?_
                              refine zi_add hx hb dX5_trays_136  ?_
                              refine lv_istore_n (lv' := [(1, .int (nI ((z2 + ((cntI PO (S k) (ZZ k) it b) / (HH b))) + 0))), (3, .int (nI b)), (2, .int (nI k)), (0, .ref xm)]) hx hb dX5_trays_137 rfl hl (by decide) rfl (fun ls hl => ?_)
                              refine lv_iinc (v := nI (b + 1)) (lv' := [(3, .int (nI (b + 1))), (1, .int (nI ((z2 + ((cntI PO (S k) (ZZ k) it b) / (HH b))) + 0))), (2, .int (nI k)), (0, .ref xm)]) hx hb dX5_trays_138 hl (k := 1) rfl (by rw [show Int32.ofInt 1 = nI 1 by decide, nI_add]) (by decide) rfl (fun ls hl => ?_)
                              refine lv_goto (tgt := 90) hx hb dX5_trays_141 (by decide) ?_
                              exact ih90 (b + 1) ((z2 + ((cntI PO (S k) (ZZ k) it b) / (HH b))) + 0) (by omega) (by rw [sumN_succ, k2, if_neg (by omega)]; omega) (by omega) _ _ _ hP hD hS (lv_sub hl [0, 2, 1, 3] rfl)
                            · refine lv_iconst (v := nI 1) hx hb dX5_trays_131 (by decide) ?_
                              refine lv_goto (tgt := 136) hx hb dX5_trays_132 (by decide) ?_
                              refine zi_add hx hb dX5_trays_136  ?_
                              refine lv_istore_n (lv' := [(1, .int (nI ((z2 + ((cntI PO (S k) (ZZ k) it b) / (HH b))) + 1))), (3, .int (nI b)), (2, .int (nI k)), (0, .ref xm)]) hx hb dX5_trays_137 rfl hl (by decide) rfl (fun ls hl => ?_)
                              refine lv_iinc (v := nI (b + 1)) (lv' := [(3, .int (nI (b + 1))), (1, .int (nI ((z2 + ((cntI PO (S k) (ZZ k) it b) / (HH b))) + 1))), (2, .int (nI k)), (0, .ref xm)]) hx hb dX5_trays_138 hl (k := 1) rfl (by rw [show Int32.ofInt 1 = nI 1 by decide, nI_add]) (by decide) rfl (fun ls hl => ?_)
                              refine lv_goto (tgt := 90) hx hb dX5_trays_141 (by decide) ?_
                              exact ih90 (b + 1) ((z2 + ((cntI PO (S k) (ZZ k) it b) / (HH b))) + 1) (by omega) (by rw [sumN_succ, k2, if_pos c128]; omega) (by omega) _ _ _ hP hD hS (lv_sub hl [0, 2, 1, 3] rfl)
                      exact L90 _ 0 zz (Nat.zero_le _) (rfl) (Nat.lt_succ_self _) _ _ _ hP hD hS (lv_sub hl [0, 1, 2, 3] rfl)
                    · have hbx : PO i / S k % ZZ k < ZZ k := Nat.mod_lt _ (by omega)
                      have hPi := hPO i (by omega)
                      have hci := j2 _ hbx
                      have hcl := cntI_le PO (S k) (ZZ k) i (PO i / S k % ZZ k)
                      refine lv_aload_n hx hb dX5_trays_62 rfl (lv_at hl 3 rfl) ?_
                      refine va_get (D := D) (ci := 5) (v := .ref mi) (C := RX5) (T := TX5) (N := 11) hx hb hts hinX5 hown hK hP 0 rfl rfl 3 (by decide) (hts (.fieldLink RX5 14 "PassSearchModel" "in" "[I") (by decide +kernel)) (fun _ h9 => h9) rfl dX5_trays_63 ?_
                      refine lv_aload_n hx hb dX5_trays_66 rfl (lv_at hl 3 rfl) ?_
                      refine lv_aload_n hx hb dX5_trays_67 rfl (lv_at hl 3 rfl) ?_
                      refine va_get (D := D) (ci := 5) (v := .ref mp) (C := RX5) (T := TX5) (N := 11) hx hb hts hinX5 hown hK hP 0 rfl rfl 9 (by decide) (hts (.fieldLink RX5 20 "PassSearchModel" "pointOf" "[J") (by decide +kernel)) (fun _ h9 => h9) rfl dX5_trays_68 ?_
                      refine lv_iload_n hx hb dX5_trays_71 rfl (lv_at hl 0 rfl) ?_
                      refine zl_ald hx hb hK hP 4 1 rfl rfl (k := i) (by omega) (by omega) dX5_trays_72 ?_
                      refine lv_iload_n hx hb dX5_trays_73 rfl (lv_at hl 1 rfl) ?_
                      refine WR_i.callV (rest := [.ref mi]) (wr := []) (c_X5_digit l D cI cJ xm mh mi mz mp mo 0 bn pl pq pm it HH N3 ZZ PO SO S (lN (PO i)) (nI k) hpq hpl) ⟨hx, hb, hml, hown, hts⟩ (cwV 2 hts gX5_trays_X5_digit rfl rfl rfl (by decide +kernel) ⟨Nat.le_of_ble_eq_true rfl, Nat.le_of_ble_eq_true rfl⟩) hK hP hD hS hA [0, 1, 2, 3, 4, 5] [] [0, 1] rfl rfl (by decide) (by decide) (by decide) rfl 0 5 rfl rfl rfl rfl hl.1 rfl (Nat.le_of_ble_eq_true rfl) dX5_trays_74 ⟨Nat.zero_le _, Nat.zero_le _⟩ (fun v3_ u3_ H locs e3_ hP hD hS => ?_)
                      obtain rfl : v3_ = nI (PO i / S k % ZZ k) := e3_.trans (sDigit_in hPi hpt (by omega) hpn)
                      have hP := hP.sub (ws' := [(xm, .inr (5, [.int (nI 0), .int (nI bn), .ref mh, .ref mi, .int (nI pl), .long (lN pq), .int (nI pm), .ref mz, .int (nI it), .ref mp, .ref mo])), (mh, aI cI 65536 HH), (mi, aI cI 65536 N3), (mz, aI cI 62 ZZ), (mp, aJ cJ 4000 PO), (mo, aI cI 4000 SO)]) [0, 1, 2, 3, 4, 5] rfl
                      have hD := hD.sub (ws' := [(xm, .inr (5, [.int (nI 0), .int (nI bn), .ref mh, .ref mi, .int (nI pl), .long (lN pq), .int (nI pm), .ref mz, .int (nI it), .ref mp, .ref mo])), (mh, aI cI 65536 HH), (mi, aI cI 65536 N3), (mz, aI cI 62 ZZ), (mp, aJ cJ 4000 PO), (mo, aI cI 4000 SO)]) [0, 1, 2, 3, 4, 5] (by decide) rfl
                      refine lv_dup2_11 hx hb dX5_trays_77 rfl rfl ?_
                      refine zi_ald hx hb hK hP 2 0 rfl rfl (k := PO i / S k % ZZ k) (by omega) (by omega) dX5_trays_78 ?_
                      refine lv_iconst (v := nI 1) hx hb dX5_trays_79 (by decide) ?_
                      refine zi_add hx hb dX5_trays_80  ?_
                      refine zi_ast hx hb hK hP hD hS 2 0 rfl rfl (k := PO i / S k % ZZ k) (x := (N3 (PO i / S k % ZZ k)) + 1) (by omega) (by omega) dX5_trays_81 (fun H locs hP hD hS => ?_)
                      have hP : va_P D vwCl [(xm, .inr (5, [.int (nI 0), .int (nI bn), .ref mh, .ref mi, .int (nI pl), .long (lN pq), .int (nI pm), .ref mz, .int (nI it), .ref mp, .ref mo])), (mh, aI cI 65536 HH), (mi, aI cI 65536 (uF N3 (PO i / S k % ZZ k) ((N3 (PO i / S k % ZZ k)) + 1))), (mz, aI cI 62 ZZ), (mp, aJ cJ 4000 PO), (mo, aI cI 4000 SO)] H := hP
                      have hD : va_D A [(xm, .inr (5, [.int (nI 0), .int (nI bn), .ref mh, .ref mi, .int (nI pl), .long (lN pq), .int (nI pm), .ref mz, .int (nI it), .ref mp, .ref mo])), (mh, aI cI 65536 HH), (mi, aI cI 65536 (uF N3 (PO i / S k % ZZ k) ((N3 (PO i / S k % ZZ k)) + 1))), (mz, aI cI 62 ZZ), (mp, aJ cJ 4000 PO), (mo, aI cI 4000 SO)] := hD
                      refine lv_iinc (v := nI (i + 1)) (lv' := [(3, .int (nI (i + 1))), (2, .int (nI k)), (1, .int (nI zz)), (0, .ref xm)]) hx hb dX5_trays_82 hl (k := 0) rfl (by rw [show Int32.ofInt 1 = nI 1 by decide, nI_add]) (by decide) rfl (fun ls hl => ?_)
                      refine lv_goto (tgt := 54) hx hb dX5_trays_85 (by decide) ?_
                      exact ih54 (i + 1) (uF N3 (PO i / S k % ZZ k) ((N3 (PO i / S k % ZZ k)) + 1)) (by omega) (fun t ht => by
                                rw [cntI_succ]
                                by_cases g : t = PO i / S k % ZZ k
                                · rw [g, uF_s, j2 _ hbx, if_pos rfl]
                                · rw [uF_n g, j2 t ht, if_neg (fun q => g q.symm)]; rfl) (by omega) _ _ _ hP hD hS (lv_sub hl [0, 1, 2, 3] rfl)
                exact L54 _ 0 N2 (Nat.zero_le _) (fun t ht => k2 t (by omega)) (Nat.lt_succ_self _) _ _ _ hP hD hS (lv_sub hl [0, 1, 2, 3] rfl)
              · refine lv_aload_n hx hb dX5_trays_39 rfl (lv_at hl 3 rfl) ?_
                refine va_get (D := D) (ci := 5) (v := .ref mi) (C := RX5) (T := TX5) (N := 11) hx hb hts hinX5 hown hK hP 0 rfl rfl 3 (by decide) (hts (.fieldLink RX5 14 "PassSearchModel" "in" "[I") (by decide +kernel)) (fun _ h9 => h9) rfl dX5_trays_40 ?_
                refine lv_iload_n hx hb dX5_trays_43 rfl (lv_at hl 0 rfl) ?_
                refine lv_iconst (v := nI 0) hx hb dX5_trays_44 (by decide) ?_
                refine zi_ast hx hb hK hP hD hS 2 0 rfl rfl (k := b) (x := 0) (by omega) (by omega) dX5_trays_45 (fun H locs hP hD hS => ?_)
                have hP : va_P D vwCl [(xm, .inr (5, [.int (nI 0), .int (nI bn), .ref mh, .ref mi, .int (nI pl), .long (lN pq), .int (nI pm), .ref mz, .int (nI it), .ref mp, .ref mo])), (mh, aI cI 65536 HH), (mi, aI cI 65536 (uF N2 b 0)), (mz, aI cI 62 ZZ), (mp, aJ cJ 4000 PO), (mo, aI cI 4000 SO)] H := hP
                have hD : va_D A [(xm, .inr (5, [.int (nI 0), .int (nI bn), .ref mh, .ref mi, .int (nI pl), .long (lN pq), .int (nI pm), .ref mz, .int (nI it), .ref mp, .ref mo])), (mh, aI cI 65536 HH), (mi, aI cI 65536 (uF N2 b 0)), (mz, aI cI 62 ZZ), (mp, aJ cJ 4000 PO), (mo, aI cI 4000 SO)] := hD
                refine lv_iinc (v := nI (b + 1)) (lv' := [(3, .int (nI (b + 1))), (2, .int (nI k)), (1, .int (nI zz)), (0, .ref xm)]) hx hb dX5_trays_46 hl (k := 0) rfl (by rw [show Int32.ofInt 1 = nI 1 by decide, nI_add]) (by decide) rfl (fun ls hl => ?_)
                refine lv_goto (tgt := 29) hx hb dX5_trays_49 (by decide) ?_
                exact ih29 (b + 1) (uF N2 b 0) (by omega) (fun t ht => if g : t = b then by rw [g, uF_s] else by rw [uF_n g]; exact k2 t (by omega)) (by omega) _ _ _ hP hD hS (lv_sub hl [0, 1, 2, 3] rfl)
          exact L29 _ 0 N1 (Nat.zero_le _) (fun t ht => absurd ht (Nat.not_lt_zero _)) (Nat.lt_succ_self _) _ _ _ hP hD hS (lv_sub hl [0, 1, 2, 3] rfl)
    exact L19 _ 0 0 IN (Nat.zero_le _) (rfl) (Nat.lt_succ_self _) _ _ _ hP hD hS (lv_sub hl [0, 1, 2] rfl)
  · refine lv_bipush (v := (-3)) hx hb dX5_trays_12 (by decide) ?_
    exact hret _ (IN) _ _ _ _ hP hD hS ((if_pos (by omega)).symm) dX5_trays_14
