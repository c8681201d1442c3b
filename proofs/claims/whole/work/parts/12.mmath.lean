/-! the reference: pure lemmas -/
/-- the reference's greatest product -/
def gre (z n b : Nat) : Nat := if 2 * n ≤ z ∧ z ≤ n * b then sat (wide z n) else 0
theorem gre_top (z n b : Nat) : gre z n b ≤ 4611686018427387904 := by
  unfold gre
  split
  · exact sat_top _
  · exact Nat.zero_le _
theorem wide_n0 (z : Nat) : wide z 0 = 1 := by
  unfold wide
  simp
/-- one factor more is taken out -/
theorem wide_take {z k : Nat} (hk : 1 ≤ k) : wide z k = z / k * wide (z - z / k) (k - 1) := by
  obtain ⟨j, rfl⟩ : ∃ j, k = j + 1 := ⟨k - 1, by omega⟩
  exact wide_step z j
theorem mean_take {z k : Nat} (hk : 1 ≤ k) (h : 2 * k ≤ z) : 2 ≤ z / k ∧ z / k ≤ z ∧ 2 * (k - 1) ≤ z - z / k := by
  obtain ⟨j, rfl⟩ : ∃ j, k = j + 1 := ⟨k - 1, by omega⟩
  have h2 : 2 ≤ z / (j + 1) := (Nat.le_div_iff_mul_le (by omega)).mpr (by omega)
  have := mean_room (x := z / (j + 1)) (z := z) (n := j) (Nat.le_refl _) h2
  exact ⟨h2, this.1, by simpa using this.2⟩
theorem least_ex {p : Nat → Prop} : ∀ {n : Nat}, p n → ∃ x, x ≤ n ∧ p x ∧ ∀ y, y < x → ¬ p y := by
  intro n
  induction n using Nat.strongRecOn with
  | _ n ih =>
    intro h
    by_cases q : ∃ y, y < n ∧ p y
    · obtain ⟨y, hy, hp⟩ := q
      obtain ⟨x, hx, h1, h2⟩ := ih y hy hp
      exact ⟨x, by omega, h1, h2⟩
    · exact ⟨n, Nat.le_refl _, h, fun y hy hp => q ⟨y, hy, hp⟩⟩
theorem isSum_ex {b q n : Nat} (hb : 2 ≤ b) (he : isExp b q n) : ∃ z, isSum q n z ∧ z ≤ n * b := by
  have h0 : 2 * n ≤ n * b ∧ q ≤ wide (n * b) n := by
    refine ⟨by rw [Nat.mul_comm]; exact Nat.mul_le_mul_left _ hb, ?_⟩
    rw [Nat.mul_comm]
    exact wide_base he.1
  obtain ⟨x, hx, h1, h2⟩ := least_ex (p := fun z => 2 * n ≤ z ∧ q ≤ wide z n) h0
  exact ⟨x, ⟨h1.1, h1.2, fun y hy hyx => Nat.lt_of_not_le (fun g => h2 y hyx ⟨hy, g⟩)⟩, hx⟩
theorem isSize_ex {q b dn z n : Nat} (h1 : 2 * (n + 1) ≤ z) (h2 : z ≤ (n + 1) * b) (h3 : q ≤ dn * wide z (n + 1)) : ∃ x, isSize q b dn z n x ∧ x ≤ z / (n + 1) := by
  obtain ⟨x, hx, a1, a2⟩ := least_ex (p := okS q b dn z n) (okS_mean h1 h2 h3)
  exact ⟨x, ⟨a1, a2⟩, hx⟩
theorem gre_stop0 {n b z y : Nat} (hz : z ≤ n * b) (h1 : 2 * n ≤ y) (h : gre y n b = 0) : z ≤ y := by
  unfold gre at h
  split at h
  · have h2 := wide_pos (z := y) (n := n) (by omega)
    have := sat_pos h2
    omega
  · omega
theorem gre_stop {q n b z y : Nat} (hs : isSum q n z) (hz : z ≤ n * b) (h1 : 2 * n ≤ y) (h : q ≤ gre y n b) : z ≤ y := by
  refine Nat.le_of_not_lt fun g => ?_
  have h2 := hs.2.2 y h1 g
  unfold gre at h
  rw [if_pos ⟨h1, by omega⟩] at h
  have : sat (wide y n) ≤ wide y n := Nat.min_le_left _ _
  omega
theorem gre_go {q n b z y : Nat} (hq : q ≤ 4611686018427387904) (hs : isSum q n z) (h0 : 0 < gre y n b) (h : gre y n b < q) : y < z := by
  unfold gre at h0 h
  split at h
  · next hr =>
    have h1 := (sat_lt_iff hq).mp h
    refine Nat.lt_of_not_le fun g => ?_
    have h2 := hs.2.1
    rcases Nat.eq_zero_or_pos n with e | e
    · rw [e, wide_n0] at h1 h2; omega
    · have := wide_mono e g; omega
  · next hr => rw [if_neg hr] at h0; omega
/-- the reference's test of a size -/
theorem size_test {q b s z n x : Nat} (hq : q ≤ 4611686018427387904) (hq1 : 1 ≤ q) (hs1 : 1 ≤ s) (hx : 2 ≤ x) (hxz : x ≤ z) : q ≤ sat (sat (sat s * x) * gre (z - x) n b) ↔ okS q b s z n x := by
  rw [le_sat hq, sat_mul s (by omega)]
  unfold gre okS
  by_cases hr : 2 * n ≤ z - x ∧ z - x ≤ n * b
  · rw [if_pos hr]
    have hw := wide_pos (z := z - x) (n := n) (by omega)
    rw [← le_sat hq, sat_mul2 (Nat.mul_pos hs1 (by omega)) hw, le_sat hq]
    exact ⟨fun h => ⟨hx, hxz, hr.1, hr.2, h⟩, fun h => h.2.2.2.2⟩
  · rw [if_neg hr]
    exact ⟨fun h => by simp at h; omega, fun h => absurd ⟨h.2.2.1, h.2.2.2.1⟩ hr⟩
/-- the points stay below the reference's whole -/
theorem mod_sat {p s : Nat} (hp : p < 4611686018427387904) : p % sat s = p % s := by
  rcases Nat.le_total s 4611686018427387904 with h | h
  · rw [sat_le h]
  · rw [sat_ge h, Nat.mod_eq_of_lt hp, Nat.mod_eq_of_lt (by omega)]
theorem pow31 {k : Nat} (h : k ≤ 32) : 1 ≤ 2 ^ k ∧ 2 ^ k ≤ 4294967296 := ⟨Nat.pow_pos (by decide), Nat.pow_le_pow_right (by decide) h⟩
/-- the bits' descent -/
def isNot (q n j x : Nat) : Prop := (x = 1 ∨ x ^ n < q) ∧ 1 ≤ x ∧ x + 2 ^ j ≤ 4294967297 ∧ (q ≤ (x + 2 ^ j) ^ n ∨ x + 2 ^ j = 4294967297)
theorem isNot_0 (q n : Nat) : isNot q n 32 1 := ⟨Or.inl rfl, Nat.le_refl _, by decide, Or.inr rfl⟩
theorem isNot_t {q n k x : Nat} (h : isNot q n (k + 1) x) (c : q ≤ (x + 2 ^ k) ^ n) : isNot q n k x := ⟨h.1, h.2.1, Nat.le_trans (Nat.add_le_add_left (Nat.pow_le_pow_right (by decide) (Nat.le_succ k)) x) h.2.2.1, Or.inl c⟩
theorem isNot_f {q n k x : Nat} (h : isNot q n (k + 1) x) (c : ¬ q ≤ (x + 2 ^ k) ^ n) : isNot q n k (x + 2 ^ k) := by
  have e : x + 2 ^ k + 2 ^ k = x + 2 ^ (k + 1) := by rw [Nat.pow_succ]; omega
  refine ⟨Or.inr (Nat.lt_of_not_le c), Nat.le_trans h.2.1 (Nat.le_add_right _ _), ?_, ?_⟩ <;> rw [e]
  · exact h.2.2.1
  · exact h.2.2.2
theorem isNot_end {q n x : Nat} (h : isNot q n 0 x) : isBase q n 2147483647 (if 2147483647 < x + 1 then 2147483648 else x + 1) := by
  obtain ⟨h1, h2, -, h3⟩ := h
  simp only [Nat.pow_zero] at h3
  have low : ∀ b, 2 ≤ b → b ≤ x → b ^ n < q := fun b hb hbx => by
    rcases h1 with e | e
    · omega
    · exact Nat.lt_of_le_of_lt (Nat.pow_le_pow_left hbx n) e
  split
  · next g => exact ⟨by omega, by omega, fun b hb hbx => low b hb (by omega), fun g2 => by omega⟩
  · next g => exact ⟨by omega, by omega, fun b hb hbx => low b hb (by omega), fun _ => by
      rcases h3 with e | e
      · exact e
      · omega⟩
/-- rounding up -/
theorem up_div {c h : Nat} (hh : 1 ≤ h) : (c + h - 1) / h = c / h + if 0 < c % h then 1 else 0 := by
  have e := Nat.div_add_mod c h
  have l := Nat.mod_lt c (show h > 0 by omega)
  split
  · next g =>
    refine Nat.div_eq_of_lt_le ?_ ?_
    · rw [Nat.add_mul, Nat.one_mul, Nat.mul_comm]; omega
    · rw [Nat.succ_mul, Nat.add_mul, Nat.one_mul, Nat.mul_comm]; omega
  · next g =>
    refine Nat.div_eq_of_lt_le ?_ ?_
    · rw [Nat.add_zero, Nat.mul_comm]; omega
    · rw [Nat.add_zero, Nat.succ_mul, Nat.mul_comm]; omega
theorem sumN_tail {g : Nat → Nat} {m n : Nat} (h : m ≤ n) (e : ∀ i, m ≤ i → i < n → g i = 0) : sumN g n = sumN g m := by
  induction n with
  | zero => rw [show m = 0 by omega]
  | succ n ih =>
    rcases Nat.lt_or_ge n m with q | q
    · rw [show m = n + 1 by omega]
    · rw [sumN_succ, ih q (fun i h1 h2 => e i h1 (by omega)), e n q (by omega)]; rfl
