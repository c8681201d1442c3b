/-! the items as groups: gc groups, tt items, P points, F firsts, C counts, O the groups' order -/
theorem sumN_mono {g : Nat → Nat} {m n : Nat} (h : m ≤ n) : sumN g m ≤ sumN g n := by
  induction h with
  | refl => exact Nat.le_refl _
  | step _ ih => exact Nat.le_trans ih (by rw [sumN_succ]; omega)
def itOK (gc tt : Nat) (P F C : Nat → Nat) : Prop := gc ≤ 512 ∧ tt ≤ 4000 ∧ tt = sumN C gc ∧ ∀ g, g < gc → F g = sumN C g ∧ 1 ≤ C g ∧ P g < 4611686018427387904
def ordOK (gc tt : Nat) (P C O : Nat → Nat) : Prop := (∀ k, k < gc → O k < gc) ∧ (∀ j k, j ≤ k → k < gc → P (O j) ≤ P (O k)) ∧ sumN (fun i => C (O i)) gc = tt
theorem it_le {gc tt : Nat} {P F C : Nat → Nat} (h : itOK gc tt P F C) {g : Nat} (hg : g < gc) : F g + C g ≤ tt := by
  rw [(h.2.2.2 g hg).1, ← sumN_succ, h.2.2.1]
  exact sumN_mono hg
theorem it_next {gc tt : Nat} {P F C : Nat → Nat} (h : itOK gc tt P F C) {g : Nat} (hg : g + 1 < gc) : F (g + 1) = F g + C g := by
  rw [(h.2.2.2 (g + 1) hg).1, (h.2.2.2 g (by omega)).1, sumN_succ]
theorem it_last {gc tt : Nat} {P F C : Nat → Nat} (h : itOK gc tt P F C) {g : Nat} (hg : g + 1 = gc) : tt = F g + C g := by
  rw [(h.2.2.2 g (by omega)).1, ← sumN_succ, hg]; exact h.2.2.1
/-- the new group stands at place kp -/
def isIns (P O : Nat → Nat) (gc a kp : Nat) (O2 : Nat → Nat) : Prop := kp ≤ gc ∧ (∀ i, i < kp → O2 i = O i) ∧ O2 kp = gc ∧ (∀ i, kp < i → i ≤ gc → O2 i = O (i - 1)) ∧ (∀ i, kp ≤ i → i < gc → a < P (O i)) ∧ (kp = 0 ∨ P (O (kp - 1)) ≤ a)
theorem sum_ins {q h : Nat → Nat} {kp x n : Nat} (h1 : ∀ i, i < kp → h i = q i) (h2 : h kp = x) (h3 : ∀ i, kp < i → i ≤ n → h i = q (i - 1)) : (∀ k, k ≤ kp → sumN h k = sumN q k) ∧ ∀ k, kp ≤ k → k ≤ n → sumN h (k + 1) = sumN q k + x := by
  have e1 : ∀ k, k ≤ kp → sumN h k = sumN q k := fun k hk => sumN_congr (fun i hi => h1 i (by omega))
  refine ⟨e1, fun k => ?_⟩
  induction k with
  | zero =>
    intro hk _
    have : kp = 0 := by omega
    subst this
    rw [sumN_succ, h2]; rfl
  | succ k ih =>
    intro hk hn
    rcases Nat.lt_or_ge k kp with g | g
    · have : kp = k + 1 := by omega
      subst this
      rw [sumN_succ, e1 _ (Nat.le_refl _), h2]
    · rw [sumN_succ, ih g (by omega), h3 (k + 1) (by omega) hn, Nat.add_sub_cancel, sumN_succ]; omega
theorem it_add {gc tt a n : Nat} {P F C : Nat → Nat} (h : itOK gc tt P F C) (hg : gc < 512) (ht : tt + n ≤ 4000) (hn : 1 ≤ n) (ha : a < 4611686018427387904) : itOK (gc + 1) (tt + n) (uF P gc a) (uF F gc tt) (uF C gc n) := by
  have e : ∀ k, k ≤ gc → sumN (uF C gc n) k = sumN C k := fun k hk => sumN_congr (fun i hi => uF_n (by omega))
  refine ⟨by omega, ht, by rw [sumN_succ, e gc (Nat.le_refl _), uF_s, ← h.2.2.1], fun g hgg => ?_⟩
  rw [e g (by omega)]
  by_cases hq : g = gc
  · subst hq
    rw [uF_s, uF_s, uF_s]
    exact ⟨h.2.2.1, hn, ha⟩
  · rw [uF_n hq, uF_n hq, uF_n hq]
    exact h.2.2.2 g (by omega)
theorem ord_add {gc tt a n kp : Nat} {P C O O2 : Nat → Nat} (h : ordOK gc tt P C O) (hi : isIns P O gc a kp O2) : ordOK (gc + 1) (tt + n) (uF P gc a) (uF C gc n) O2 ∧ (∀ k, k ≤ kp → sumN (fun i => uF C gc n (O2 i)) k = sumN (fun i => C (O i)) k) ∧ ∀ k, kp ≤ k → k ≤ gc → sumN (fun i => uF C gc n (O2 i)) (k + 1) = sumN (fun i => C (O i)) k + n := by
  obtain ⟨i0, i1, i2, i3, i4, i5⟩ := hi
  have e1 : ∀ i, i < kp → O2 i = O i ∧ O i < gc := fun i hk => ⟨i1 i hk, h.1 i (by omega)⟩
  have e3 : ∀ i, kp < i → i ≤ gc → O2 i = O (i - 1) ∧ O (i - 1) < gc := fun i hk hg => ⟨i3 i hk hg, h.1 (i - 1) (by omega)⟩
  have hs := sum_ins (q := fun i => C (O i)) (h := fun i => uF C gc n (O2 i)) (kp := kp) (x := n) (n := gc) (fun i hk => by
      obtain ⟨a1, a2⟩ := e1 i hk
      simp only [a1]
      exact uF_n (by omega)) (by simp only [i2]; exact uF_s) (fun i hk hg => by
      obtain ⟨a1, a2⟩ := e3 i hk hg
      simp only [a1]
      exact uF_n (by omega))
  refine ⟨⟨fun k hk => ?_, fun j k hjk hk => ?_, ?_⟩, hs.1, hs.2⟩
  · rcases Nat.lt_trichotomy k kp with g | g | g
    · have := e1 k g; omega
    · subst g; rw [i2]; omega
    · have := e3 k g (by omega); omega
  · have v1 : ∀ i, i < kp → uF P gc a (O2 i) = P (O i) := fun i hk => by
      obtain ⟨a1, a2⟩ := e1 i hk
      rw [a1]; exact uF_n (by omega)
    have v2 : uF P gc a (O2 kp) = a := by rw [i2]; exact uF_s
    have v3 : ∀ i, kp < i → i ≤ gc → uF P gc a (O2 i) = P (O (i - 1)) := fun i hk hg => by
      obtain ⟨a1, a2⟩ := e3 i hk hg
      rw [a1]; exact uF_n (by omega)
    have low : ∀ i, i < kp → P (O i) ≤ a := fun i hk => by
      rcases i5 with g | g
      · omega
      · exact Nat.le_trans (h.2.1 i (kp - 1) (by omega) (by omega)) g
    rcases Nat.lt_trichotomy j kp with g | g | g
    · rw [v1 j g]
      rcases Nat.lt_trichotomy k kp with g2 | g2 | g2
      · rw [v1 k g2]; exact h.2.1 j k hjk (by omega)
      · subst g2; rw [v2]; exact low j g
      · rw [v3 k g2 (by omega)]; exact h.2.1 j (k - 1) (by omega) (by omega)
    · subst g
      rw [v2]
      rcases Nat.lt_or_ge j k with g2 | g2
      · rw [v3 k g2 (by omega)]; exact Nat.le_of_lt (i4 (k - 1) (by omega) (by omega))
      · rw [show k = j by omega, v2]; exact Nat.le_refl _
    · rw [v3 j g (by omega), v3 k (by omega) (by omega)]; exact h.2.1 (j - 1) (k - 1) (by omega) (by omega)
  · rw [hs.2 gc i0 (Nat.le_refl _), h.2.2]
/-- a sum over the items is one over the groups -/
theorem sumN_app (g : Nat → Nat) (m n : Nat) : sumN g (m + n) = sumN g m + sumN (fun j => g (m + j)) n := by
  induction n with
  | zero => rfl
  | succ n ih => rw [← Nat.add_assoc, sumN_succ, ih, sumN_succ, Nat.add_assoc]
theorem sum_groups (C g : Nat → Nat) (n : Nat) : sumN g (sumN C n) = sumN (fun k => sumN (fun j => g (sumN C k + j)) (C k)) n := by
  induction n with
  | zero => rfl
  | succ n ih => rw [sumN_succ, sumN_app, ih, sumN_succ]
theorem sumN_const (x n : Nat) : sumN (fun _ => x) n = n * x := by
  induction n with
  | zero => simp [sumN]
  | succ n ih => rw [sumN_succ, ih, Nat.succ_mul]
/-- the place: the groups that lie before own, and own's items before this one -/
def before (P C : Nat → Nat) (w ow g : Nat) : Nat := if P g % w < P ow % w ∨ (P g % w = P ow % w ∧ g < ow) then C g else 0
