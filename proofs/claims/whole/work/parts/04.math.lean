/-! the widest product of n numbers with a given sum -/
theorem wd_div {n l h : Nat} (hh : h < n) : (n * l + h) / n = l ∧ (n * l + h) % n = h := by
  have h0 : 0 < n := by omega
  constructor
  · rw [Nat.mul_add_div h0, Nat.div_eq_of_lt hh, Nat.add_zero]
  · rw [Nat.mul_add_mod, Nat.mod_eq_of_lt hh]
theorem wide_at {n l h : Nat} (hh : h < n) : wide (n * l + h) n = (l + 1) ^ h * l ^ (n - h) := by
  obtain ⟨h1, h2⟩ := wd_div (l := l) hh
  unfold wide
  rw [h1, h2]
theorem wide_split (z : Nat) {n : Nat} (h0 : 1 ≤ n) : ∃ l h, h < n ∧ z = n * l + h ∧ z / n = l ∧ z % n = h :=
  ⟨z / n, z % n, Nat.mod_lt _ h0, (Nat.div_add_mod z n).symm, rfl, rfl⟩
theorem wide_succ (z : Nat) {n : Nat} (h0 : 1 ≤ n) : wide (z + 1) n * (z / n) = wide z n * (z / n + 1) := by
  obtain ⟨l, h, hh, e, e1, -⟩ := wide_split z h0
  rw [e1, e, wide_at hh]
  rcases Nat.lt_or_ge (h + 1) n with q | q
  · rw [Nat.add_assoc, wide_at q, show n - h = (n - (h + 1)) + 1 by omega, Nat.pow_succ, Nat.pow_succ]
    simp only [Nat.mul_comm, Nat.mul_left_comm, Nat.mul_assoc]
  · have hn : n = h + 1 := by omega
    rw [Nat.add_assoc, show n * l + (h + 1) = n * (l + 1) + 0 by rw [Nat.mul_succ]; omega, wide_at (by omega), Nat.pow_zero, Nat.one_mul, Nat.sub_zero, hn, show h + 1 - h = 1 by omega, Nat.pow_one, Nat.pow_succ]
    simp only [Nat.mul_comm, Nat.mul_left_comm, Nat.mul_assoc]
theorem wide_zero {z n : Nat} (h : z < n) : wide z n = 0 := by
  unfold wide
  rw [Nat.div_eq_of_lt h, Nat.mod_eq_of_lt h, Nat.zero_pow (by omega), Nat.mul_zero]
theorem wide_le_succ (z : Nat) {n : Nat} (h0 : 1 ≤ n) : wide z n ≤ wide (z + 1) n := by
  rcases Nat.lt_or_ge z n with h | h
  · rw [wide_zero h]; exact Nat.zero_le _
  · have hl : 0 < z / n := Nat.div_pos h h0
    have e := wide_succ z h0
    refine Nat.le_of_mul_le_mul_right (c := z / n) ?_ hl
    rw [e]
    exact Nat.mul_le_mul_left _ (Nat.le_succ _)
theorem wide_mono {n : Nat} (h0 : 1 ≤ n) {y z : Nat} (h : y ≤ z) : wide y n ≤ wide z n := by
  induction h with
  | refl => exact Nat.le_refl _
  | step _ ih => exact Nat.le_trans ih (wide_le_succ _ h0)
theorem wide_even (b : Nat) {n : Nat} (h0 : 1 ≤ n) : wide (n * b) n = b ^ n := by
  have h := wide_at (n := n) (l := b) (h := 0) h0
  rw [Nat.add_zero, Nat.pow_zero, Nat.one_mul, Nat.sub_zero] at h
  exact h
theorem wide_00 : wide 0 0 = 1 := by decide
/-- the first of the most equal numbers, and the others -/
theorem wide_step (z n : Nat) : wide z (n + 1) = z / (n + 1) * wide (z - z / (n + 1)) n := by
  obtain ⟨l, h, hh, e, e1, -⟩ := wide_split z (n := n + 1) (by omega)
  rw [e1]
  have hz : z - l = n * l + h := by rw [e, Nat.succ_mul]; omega
  rw [hz, e, wide_at hh]
  rcases Nat.lt_or_ge h n with q | q
  · rw [wide_at q, show n + 1 - h = (n - h) + 1 by omega, Nat.pow_succ]
    simp only [Nat.mul_comm, Nat.mul_left_comm, Nat.mul_assoc]
  · have hn : h = n := by omega
    subst hn
    rw [show h + 1 - h = 1 by omega, Nat.pow_one]
    rcases Nat.eq_zero_or_pos h with q2 | q2
    · subst q2
      simp [wide]
    · rw [show h * l + h = h * (l + 1) by rw [Nat.mul_succ], wide_even _ q2, Nat.mul_comm]
/-- up to the mean a greater number never makes the product smaller -/
theorem wide_up {x z n : Nat} (h0 : 1 ≤ n) (h : x + 1 ≤ z / (n + 1)) : x * wide (z - x) n ≤ (x + 1) * wide (z - (x + 1)) n := by
  have h1 : (n + 1) * (x + 1) ≤ z := by
    have := (Nat.le_div_iff_mul_le (by omega)).mp h
    rw [Nat.mul_comm]; exact this
  rw [Nat.succ_mul] at h1
  have hl : x + 1 ≤ (z - (x + 1)) / n := (Nat.le_div_iff_mul_le h0).mpr (by rw [Nat.mul_comm]; omega)
  have e := wide_succ (z - (x + 1)) h0
  rw [show z - (x + 1) + 1 = z - x by omega] at e
  generalize wide (z - x) n = a at e ⊢
  generalize wide (z - (x + 1)) n = b at e ⊢
  generalize (z - (x + 1)) / n = l at e hl
  refine Nat.le_of_mul_le_mul_right (c := l) ?_ (by omega)
  rw [Nat.mul_assoc, e, Nat.mul_right_comm, Nat.mul_comm b (l + 1), ← Nat.mul_assoc]
  refine Nat.mul_le_mul_right b ?_
  rw [Nat.mul_succ, Nat.succ_mul]
  omega
theorem wide_ups {z n : Nat} (h0 : 1 ≤ n) {y : Nat} (hy : y ≤ z / (n + 1)) {x : Nat} (h : x ≤ y) : x * wide (z - x) n ≤ y * wide (z - y) n := by
  induction h with
  | refl => exact Nat.le_refl _
  | step _ ih => exact Nat.le_trans (ih (by omega)) (wide_up h0 hy)
/-- no choice up to the mean has a wider product than the most equal one -/
theorem wide_top {x z n : Nat} (h : x ≤ z / (n + 1)) : x * wide (z - x) n ≤ wide z (n + 1) := by
  rw [wide_step]
  rcases Nat.eq_zero_or_pos n with q | q
  · subst q
    rw [Nat.zero_add, Nat.div_one] at h
    rw [Nat.zero_add, Nat.div_one, Nat.sub_self, wide_00, Nat.mul_one]
    rcases Nat.lt_or_ge x z with q | q
    · simp only [wide, Nat.div_zero, Nat.mod_zero, Nat.zero_add, Nat.one_pow, Nat.zero_sub, Nat.pow_zero, Nat.mul_one]
      exact h
    · simp only [wide, Nat.div_zero, Nat.mod_zero, Nat.zero_add, Nat.one_pow, Nat.zero_sub, Nat.pow_zero, Nat.mul_one]
      exact h
  · exact wide_ups q (Nat.le_refl _) h
theorem wide_pos {z n : Nat} (h : n ≤ z) : 1 ≤ wide z n := by
  unfold wide
  rcases Nat.eq_zero_or_pos n with q | q
  · subst q; simp
  · have : 0 < z / n := Nat.div_pos h q
    exact Nat.mul_pos (Nat.pow_pos (by omega)) (Nat.pow_pos this)
/-- the least sum of n sizes that does -/
def isSum (q n z : Nat) : Prop := 2 * n ≤ z ∧ q ≤ wide z n ∧ ∀ y, 2 * n ≤ y → y < z → wide y n < q
theorem isSum_one {q n z y : Nat} (h1 : isSum q n z) (h2 : isSum q n y) : z = y := by
  rcases Nat.lt_trichotomy z y with h | h | h
  · exact absurd (h2.2.2 z h1.1 h) (Nat.not_lt.mpr h1.2.1)
  · exact h
  · exact absurd (h1.2.2 y h2.1 h) (Nat.not_lt.mpr h2.2.1)
/-- its product doesn't pass 2 to the 63 -/
theorem isSum_small {b q n z : Nat} (hb : 2 ≤ b) (hq : q ≤ 4611686018427387904) (he : isExp b q n) (h : isSum q n z) : wide z n < 9223372036854775808 := by
  rcases Nat.eq_zero_or_pos n with h0 | h0
  · subst h0
    simp [wide]
  · rcases Nat.lt_or_ge (2 * n) z with hz | hz
    · have h1 := h.2.2 (z - 1) (by omega) (by omega)
      have e := wide_succ (z - 1) h0
      rw [show z - 1 + 1 = z by omega] at e
      have hl : 2 ≤ (z - 1) / n := (Nat.le_div_iff_mul_le h0).mpr (by omega)
      generalize wide z n = a at e ⊢
      generalize wide (z - 1) n = c at e h1
      generalize (z - 1) / n = l at e hl
      have h2 : a * l ≤ (2 * c) * l := by
        rw [e, Nat.mul_comm 2 c, Nat.mul_assoc]
        exact Nat.mul_le_mul_left _ (by omega)
      have h3 : a ≤ 2 * c := Nat.le_of_mul_le_mul_right h2 (by omega)
      omega
    · have hz2 : z = n * 2 := by have := h.1; omega
      rw [hz2, wide_even _ h0]
      have h1 := he.2 (n - 1) (by omega)
      have h2 := Nat.pow_le_pow_left hb (n - 1)
      rw [show n = (n - 1) + 1 by omega, Nat.pow_succ]
      omega
/-- x can be a pass's size: dn the product before, z the sum left, n passes behind it -/
def okS (q b dn z n x : Nat) : Prop := 2 ≤ x ∧ x ≤ z ∧ 2 * n ≤ z - x ∧ z - x ≤ n * b ∧ q ≤ dn * x * wide (z - x) n
def isSize (q b dn z n x : Nat) : Prop := okS q b dn z n x ∧ ∀ y, y < x → ¬ okS q b dn z n y
theorem isSize_one {q b dn z n x y : Nat} (h1 : isSize q b dn z n x) (h2 : isSize q b dn z n y) : x = y := by
  rcases Nat.lt_trichotomy x y with h | h | h
  · exact absurd h1.1 (h2.2 x h)
  · exact h
  · exact absurd h2.1 (h1.2 y h)
theorem okS_up {q b dn z n x : Nat} (h0 : 1 ≤ n) (h : x + 1 ≤ z / (n + 1)) (ho : okS q b dn z n x) : okS q b dn z n (x + 1) := by
  obtain ⟨h1, h2, h3, h4, h5⟩ := ho
  have hm : (n + 1) * (x + 1) ≤ z := by
    have := (Nat.le_div_iff_mul_le (by omega)).mp h
    rw [Nat.mul_comm]; exact this
  rw [Nat.succ_mul] at hm
  have hm2 : 2 * n ≤ n * (x + 1) := by rw [Nat.mul_comm]; exact Nat.mul_le_mul_left n (by omega)
  refine ⟨by omega, by omega, by omega, by omega, Nat.le_trans h5 ?_⟩
  rw [Nat.mul_assoc, Nat.mul_assoc]
  exact Nat.mul_le_mul_left dn (wide_up h0 h)
theorem okS_mean {q b dn z n : Nat} (h1 : 2 * (n + 1) ≤ z) (h2 : z ≤ (n + 1) * b) (h3 : q ≤ dn * wide z (n + 1)) : okS q b dn z n (z / (n + 1)) := by
  obtain ⟨l, h, hh, e, e1, -⟩ := wide_split z (n := n + 1) (by omega)
  have hs := wide_step z n
  rw [e1] at hs ⊢
  have hl : 2 ≤ l := by rw [← e1]; exact (Nat.le_div_iff_mul_le (by omega)).mpr (by omega)
  have hz : z - l = n * l + h := by rw [e, Nat.succ_mul]; omega
  have hlb : l ≤ b := by
    rcases Nat.lt_or_ge b l with q2 | q2
    · exfalso
      have : (n + 1) * (b + 1) ≤ (n + 1) * l := Nat.mul_le_mul_left _ q2
      rw [Nat.mul_succ] at this
      omega
    · exact q2
  have hnl : n * 2 ≤ n * l := Nat.mul_le_mul_left n hl
  refine ⟨hl, by rw [e, Nat.succ_mul]; omega, by rw [hz]; omega, ?_, by rw [Nat.mul_assoc, ← hs]; exact h3⟩
  rw [hz]
  rcases Nat.lt_or_ge l b with q2 | q2
  · have : n * (l + 1) ≤ n * b := Nat.mul_le_mul_left n q2
    rw [Nat.mul_succ] at this
    omega
  · have hle : l = b := by omega
    subst hle
    rw [e] at h2
    omega
theorem okS_ups {q b dn z n : Nat} (h0 : 1 ≤ n) {y : Nat} (hy : y ≤ z / (n + 1)) {x : Nat} (h : x ≤ y) (ho : okS q b dn z n x) : okS q b dn z n y := by
  induction h with
  | refl => exact ho
  | step _ ih => exact okS_up h0 hy (ih (by omega))
theorem mean_room {x z n : Nat} (h : x ≤ z / (n + 1)) (h2 : 2 ≤ x) : x ≤ z ∧ 2 * n ≤ z - x := by
  have h1 := (Nat.le_div_iff_mul_le (show 0 < n + 1 by omega)).mp h
  rw [Nat.mul_succ] at h1
  have h3 : 2 * n ≤ x * n := Nat.mul_le_mul_right n h2
  omega
theorem half32 {t : Nat} (h : t < 32) : 2 ^ (32 - t) = 2 * 2 ^ (32 - (t + 1)) := by
  rw [show 32 - t = (32 - (t + 1)) + 1 by omega, Nat.pow_succ, Nat.mul_comm]
theorem isSize_last {q b dn z : Nat} (h1 : 2 ≤ z) (h3 : q ≤ dn * wide z 1) : isSize q b dn z 0 z := by
  have hw : wide z 1 = z := by
    have := wide_even z (n := 1) (by omega)
    rw [Nat.one_mul, Nat.pow_one] at this
    exact this
  rw [hw] at h3
  refine ⟨⟨h1, Nat.le_refl _, by omega, by omega, ?_⟩, fun y hy ho => ?_⟩
  · rw [Nat.sub_self, wide_00, Nat.mul_one]; exact h3
  · have := ho.2.2.2.1
    rw [Nat.zero_mul] at this
    omega
theorem isBase_le {q n mo x : Nat} (h : isBase q n mo x) (h2 : 2 ≤ mo) (hq : q ≤ mo ^ n) : x ≤ mo := by
  rcases Nat.lt_or_ge mo x with g | g
  · exact absurd (h.2.2.1 mo h2 g) (Nat.not_lt.mpr hq)
  · exact g
theorem sum_start {q n mo x : Nat} (h : isBase q n mo x) (y : Nat) (h1 : 2 * n ≤ y) (h2 : y < max (2 * n) (x * n - n)) : wide y n < q := by
  have hy : y < x * n - n := by
    rcases Nat.lt_or_ge (2 * n) (x * n - n) with g | g
    · rw [Nat.max_eq_right (by omega)] at h2; exact h2
    · rw [Nat.max_eq_left g] at h2; omega
  have hx := h.1
  obtain ⟨d, rfl⟩ : ∃ d, x = d + 1 := ⟨x - 1, by omega⟩
  rw [Nat.succ_mul, Nat.add_sub_cancel] at hy
  have hn : 1 ≤ n := by
    rcases Nat.eq_zero_or_pos n with g | g
    · subst g; omega
    · exact g
  have hd : 2 ≤ d := by
    rcases Nat.lt_or_ge d 2 with g | g
    · have : d * n ≤ 1 * n := Nat.mul_le_mul_right n (by omega)
      omega
    · exact g
  have h3 := wide_mono hn (Nat.le_of_lt hy)
  rw [Nat.mul_comm d n, wide_even _ hn] at h3
  exact Nat.lt_of_le_of_lt h3 (h.2.2.1 d hd (by omega))
theorem wide_base {q n x : Nat} (h : q ≤ x ^ n) : q ≤ wide (x * n) n := by
  rcases Nat.eq_zero_or_pos n with g | g
  · subst g
    rw [Nat.pow_zero] at h
    rw [Nat.mul_zero, wide_00]; exact h
  · rw [Nat.mul_comm, wide_even _ g]; exact h
theorem wide_two {z n : Nat} (h0 : 1 ≤ n) (h : 2 * n ≤ z) : 2 ≤ wide z n := by
  have h1 := wide_mono h0 (show n * 2 ≤ z by omega)
  rw [wide_even _ h0] at h1
  have h2 : 2 ^ 1 ≤ 2 ^ n := Nat.pow_le_pow_right (by decide) h0
  omega
/-- a plan, as far as pass k: z is the sum left -/
def preP (b q n : Nat) (Z S : Nat → Nat) (k z : Nat) : Prop := S 0 = 1 ∧ (∃ zz : Nat → Nat, isSum q n (zz 0) ∧ zz k = z ∧ ∀ j, j < k → S (j + 1) = S j * Z j ∧ zz (j + 1) + Z j = zz j ∧ isSize q b (S j) (zz j) (n - j - 1) (Z j) ∧ 2 ≤ Z j ∧ Z j ≤ b) ∧ (∀ j, j ≤ k → 1 ≤ S j ∧ S j < 9223372036854775808) ∧ 2 * (n - k) ≤ z ∧ z ≤ (n - k) * b ∧ q ≤ S k * wide z (n - k) ∧ S k * wide z (n - k) < 9223372036854775808
/-- the plan for q points with b bins: n passes, the sizes Z, their products S -/
def isPlan (b q n : Nat) (Z S : Nat → Nat) : Prop := n ≤ 62 ∧ isExp b q n ∧ ∃ z, preP b q n Z S n z
theorem preP_0 {b q n z : Nat} {Z S : Nat → Nat} (hb : 2 ≤ b) (hq : q ≤ 4611686018427387904) (he : isExp b q n) (hs : isSum q n z) (hz : z ≤ n * b) (h0 : S 0 = 1) : preP b q n Z S 0 z := by
  refine ⟨h0, ⟨fun _ => z, hs, rfl, fun j hj => absurd hj (Nat.not_lt_zero _)⟩, fun j hj => ?_, hs.1, hz, ?_, ?_⟩
  · rw [show j = 0 by omega, h0]; decide
  · rw [h0, Nat.one_mul]; exact hs.2.1
  · rw [h0, Nat.one_mul]; exact isSum_small hb hq he hs
theorem preP_small {b q n k z : Nat} {Z S : Nat → Nat} (h : preP b q n Z S k z) (hk : k < n) : S k ≤ 4611686018427387904 := by
  obtain ⟨-, -, -, h1, -, -, h2⟩ := h
  have h3 := wide_two (show 1 ≤ n - k by omega) h1
  have h4 : S k * 2 ≤ S k * wide z (n - k) := Nat.mul_le_mul_left _ h3
  omega
theorem preP_step {b q n k z x : Nat} {Z S : Nat → Nat} (hk : k < n) (h : preP b q n Z S k z) (hs : isSize q b (S k) z (n - k - 1) x) (hx : x ≤ z / (n - k)) : preP b q n (uF Z k x) (uF S (k + 1) (S k * x)) (k + 1) (z - x) := by
  obtain ⟨h0, ⟨zz, g1, g2, g3⟩, hS, h1, h2, h3, h4⟩ := h
  have ho := hs.1
  obtain ⟨o1, o2, o3, o4, o5⟩ := ho
  have hb : x ≤ b := by
    refine Nat.le_trans hx ?_
    have := Nat.div_le_div_right (c := n - k) h2
    rw [Nat.mul_div_cancel_left b (by omega)] at this
    exact this
  have ht : x * wide (z - x) (n - k - 1) ≤ wide z (n - k) := by
    have := wide_top (x := x) (z := z) (n := n - k - 1) (by rw [show n - k - 1 + 1 = n - k by omega]; exact hx)
    rw [show n - k - 1 + 1 = n - k by omega] at this
    exact this
  have hw : S k * x * wide (z - x) (n - k - 1) ≤ S k * wide z (n - k) := by rw [Nat.mul_assoc]; exact Nat.mul_le_mul_left _ ht
  have hwp : 1 ≤ wide (z - x) (n - k - 1) := wide_pos (by omega)
  have hSk := hS k (Nat.le_refl _)
  have hsx : 1 ≤ S k * x := Nat.mul_pos hSk.1 (by omega)
  have hsx2 : S k * x ≤ S k * x * wide (z - x) (n - k - 1) := Nat.le_mul_of_pos_right _ hwp
  have e1 : ∀ j, j ≤ k → uF S (k + 1) (S k * x) j = S j := fun j hj => uF_n (by omega)
  have e2 : ∀ j, j < k → uF Z k x j = Z j := fun j hj => uF_n (by omega)
  have e3 : uF S (k + 1) (S k * x) (k + 1) = S k * x := uF_s
  have e4 : uF Z k x k = x := uF_s
  refine ⟨by rw [e1 0 (by omega)]; exact h0, ⟨uF zz (k + 1) (z - x), by rw [uF_n (by omega)]; exact g1, uF_s, fun j hj => ?_⟩, fun j hj => ?_, ?_, ?_, ?_, ?_⟩
  · rcases Nat.lt_or_ge j k with g | g
    · rw [e1 j (by omega), e1 (j + 1) (by omega), e2 j g, uF_n (show j + 1 ≠ k + 1 by omega), uF_n (show j ≠ k + 1 by omega)]
      exact g3 j g
    · have hjk : j = k := by omega
      subst hjk
      rw [e1 j (Nat.le_refl _), e3, e4, uF_s, uF_n (show j ≠ j + 1 by omega), g2]
      exact ⟨rfl, by omega, hs, o1, hb⟩
  · rcases Nat.lt_or_ge k j with g | g
    · rw [show j = k + 1 by omega, e3]; omega
    · rw [e1 j g]; exact hS j g
  · rw [show n - (k + 1) = n - k - 1 by omega]; exact o3
  · rw [show n - (k + 1) = n - k - 1 by omega]; exact o4
  · rw [show n - (k + 1) = n - k - 1 by omega, e3]; exact o5
  · rw [show n - (k + 1) = n - k - 1 by omega, e3]; omega
/-- a plan is the only one -/
theorem isPlan_one {b q n n2 : Nat} {Z S Z2 S2 : Nat → Nat} (h1 : isPlan b q n Z S) (h2 : isPlan b q n2 Z2 S2) : n = n2 ∧ (∀ k, k < n → Z k = Z2 k) ∧ ∀ k, k ≤ n → S k = S2 k := by
  obtain ⟨-, e1, z1, p0, ⟨zz, g1, g2, g3⟩, -⟩ := h1
  obtain ⟨-, e2, z2, p02, ⟨zz2, g12, g22, g32⟩, -⟩ := h2
  have hn := isExp_one e1 e2
  subst hn
  have hz := isSum_one g1 g12
  have key : ∀ k, k ≤ n → S k = S2 k ∧ zz k = zz2 k := by
    intro k
    induction k with
    | zero => intro _; exact ⟨p0.trans p02.symm, hz⟩
    | succ k ih =>
      intro hk
      obtain ⟨i1, i2⟩ := ih (by omega)
      obtain ⟨a1, a2, a3, -⟩ := g3 k (by omega)
      obtain ⟨b1, b2, b3, -⟩ := g32 k (by omega)
      rw [← i1, ← i2] at b3
      have hZ := isSize_one a3 b3
      exact ⟨by rw [a1, b1, i1, hZ], by omega⟩
  refine ⟨rfl, fun k hk => ?_, fun k hk => (key k hk).1⟩
  obtain ⟨i1, i2⟩ := key k (by omega)
  obtain ⟨a1, a2, a3, -⟩ := g3 k hk
  obtain ⟨b1, b2, b3, -⟩ := g32 k hk
  rw [← i1, ← i2] at b3
  exact isSize_one a3 b3
