/-! sums, counts, the table of bins -/
def sumN (g : Nat → Nat) : Nat → Nat
  | 0 => 0
  | n + 1 => sumN g n + g n
theorem sumN_succ (g : Nat → Nat) (n : Nat) : sumN g (n + 1) = sumN g n + g n := rfl
theorem sumN_congr {g h : Nat → Nat} {n : Nat} (e : ∀ i, i < n → g i = h i) : sumN g n = sumN h n := by
  induction n with
  | zero => rfl
  | succ n ih => simp only [sumN]; rw [ih (fun i hi => e i (by omega)), e n (by omega)]
theorem sumN_add (g h : Nat → Nat) (n : Nat) : sumN (fun i => g i + h i) n = sumN g n + sumN h n := by
  induction n with
  | zero => rfl
  | succ n ih => simp only [sumN]; rw [ih]; omega
theorem sumN_zero {g : Nat → Nat} {n : Nat} (e : ∀ i, i < n → g i = 0) : sumN g n = 0 := by
  induction n with
  | zero => rfl
  | succ n ih => simp only [sumN]; rw [ih (fun i hi => e i (by omega)), e n (by omega)]
theorem sumN_one {g : Nat → Nat} {n k : Nat} (hk : k < n) (e : ∀ i, i < n → i ≠ k → g i = 0) : sumN g n = g k := by
  induction n with
  | zero => omega
  | succ n ih =>
    simp only [sumN]
    rcases Nat.lt_or_ge k n with h | h
    · rw [ih h (fun i hi => e i (by omega)), e n (by omega) (by omega), Nat.add_zero]
    · have hkn : k = n := by omega
      subst hkn
      rw [sumN_zero (fun i hi => e i (by omega) (by omega)), Nat.zero_add]
/-- one summand more, at k, where none was -/
theorem sumN_put {g h : Nat → Nat} {n k : Nat} (hk : k < n) (hg : g k = 0) (e : ∀ i, i < n → i ≠ k → h i = g i) : sumN h n = sumN g n + h k := by
  have h1 : sumN h n = sumN (fun i => g i + (if i = k then h k else 0)) n := sumN_congr (fun i hi => by
    by_cases hik : i = k
    · subst hik; simp [hg]
    · simp [hik, e i hi hik])
  rw [h1, sumN_add, sumN_one (g := fun i => if i = k then h k else 0) hk (fun i _ hik => by simp [hik])]
  simp
theorem sumN_le {g h : Nat → Nat} {n : Nat} (e : ∀ i, i < n → g i ≤ h i) : sumN g n ≤ sumN h n := by
  induction n with
  | zero => exact Nat.le_refl _
  | succ n ih => simp only [sumN]; exact Nat.add_le_add (ih (fun i hi => e i (by omega))) (e n (by omega))
/-- how many marks are set -/
def cntM (M : Nat → Nat) (n : Nat) : Nat := sumN (fun t => if M t = 0 then 0 else 1) n
theorem cntM_full {M : Nat → Nat} {n : Nat} (h : ∀ t, t < n → M t ≠ 0) : cntM M n = n := by
  unfold cntM
  induction n with
  | zero => rfl
  | succ n ih => simp only [sumN]; rw [ih (fun t ht => h t (by omega)), if_neg (h n (by omega))]
theorem cntM_free {M : Nat → Nat} (h : cntM M 1024 ≤ 512) : ∃ f, f < 1024 ∧ M f = 0 := by
  refine Classical.byContradiction fun q => ?_
  have := cntM_full (M := M) (n := 1024) (fun t ht he => q ⟨t, ht, he⟩)
  omega
theorem cntM_put {M : Nat → Nat} {t x : Nat} (ht : t < 1024) (h0 : M t = 0) (hx : x ≠ 0) : cntM (uF M t x) 1024 = cntM M 1024 + 1 := by
  unfold cntM
  rw [sumN_put (g := fun t => if M t = 0 then 0 else 1) (k := t) ht (by simp [h0]) (fun i _ hi => by simp [uF, hi])]
  simp [uF, hx]
/-- where the search for a bin begins -/
def hsh (b : Nat) : Nat := (nI b * (-1640531535)).toBitVec.toNat / 2 ^ 22
theorem hsh_lt (b : Nat) : hsh b < 1024 := by
  unfold hsh
  have := (nI b * (-1640531535)).toBitVec.isLt
  omega
theorem nI_self (x : Int32) : x = nI x.toBitVec.toNat := by
  refine Int32.toBitVec_inj.mp (BitVec.eq_of_toNat_eq ?_)
  rw [pk_tn x.toBitVec.isLt]
theorem hsh_v (b : Nat) : ((nI b * (-1640531535)).toUInt32 >>> ((nI 22).toUInt32 &&& Int32.toUInt32 31)).toInt32 = nI (hsh b) := by
  unfold hsh
  rw [nI_self (nI b * (-1640531535)), pk_ushrN (nI b * (-1640531535)).toBitVec.isLt (nI 22) 22 (by decide), pk_tn (nI b * (-1640531535)).toBitVec.isLt]
/-- the slot at which the search for bin b ends -/
def isSlot (M : Nat → Nat) (b t : Nat) : Prop := ∃ i, i < 1024 ∧ t = (hsh b + i) % 1024 ∧ (M t = 0 ∨ M t = b + 1) ∧ ∀ j, j < i → M ((hsh b + j) % 1024) ≠ 0 ∧ M ((hsh b + j) % 1024) ≠ b + 1
theorem isSlot_lt {M : Nat → Nat} {b t : Nat} (h : isSlot M b t) : t < 1024 := by
  obtain ⟨i, -, rfl, -⟩ := h
  omega
theorem isSlot_one {M : Nat → Nat} {b t t2 : Nat} (h1 : isSlot M b t) (h2 : isSlot M b t2) : t = t2 := by
  obtain ⟨i, hi, rfl, s1, n1⟩ := h1
  obtain ⟨j, hj, rfl, s2, n2⟩ := h2
  rcases Nat.lt_trichotomy i j with h | h | h
  · have := n2 i h; rcases s1 with s | s <;> omega
  · rw [h]
  · have := n1 j h; rcases s2 with s | s <;> omega
/-- a search that does not end at t doesn't see that t's mark has changed -/
theorem isSlot_keep {M M2 : Nat → Nat} {b s t : Nat} (h : isSlot M b s) (h0 : M t = 0) (hst : s ≠ t) (hk : ∀ r, r ≠ t → M2 r = M r) : isSlot M2 b s := by
  obtain ⟨i, hi, e, s1, n1⟩ := h
  refine ⟨i, hi, e, by rw [hk s hst]; exact s1, fun j hj => ?_⟩
  have hne : (hsh b + j) % 1024 ≠ t := fun q => (n1 j hj).1 (by rw [q]; exact h0)
  rw [hk _ hne]
  exact n1 j hj
theorem isSlot_put {M M2 : Nat → Nat} {b t : Nat} (h : isSlot M b t) (h0 : M t = 0) (ht : M2 t = b + 1) (hk : ∀ r, r ≠ t → M2 r = M r) : isSlot M2 b t := by
  obtain ⟨i, hi, e, s1, n1⟩ := h
  refine ⟨i, hi, e, Or.inr ht, fun j hj => ?_⟩
  have hne : (hsh b + j) % 1024 ≠ t := fun q => (n1 j hj).1 (by rw [q]; exact h0)
  rw [hk _ hne]
  exact n1 j hj
theorem isSlot_end {M : Nat → Nat} {b k : Nat} (hf : ∃ f, f < 1024 ∧ M f = 0) (hk : 1024 ≤ k) (n1 : ∀ j, j < k → M ((hsh b + j) % 1024) ≠ 0 ∧ M ((hsh b + j) % 1024) ≠ b + 1) : False := by
  obtain ⟨f, hf, h0⟩ := hf
  have hl := hsh_lt b
  refine (n1 ((f + 1024 - hsh b) % 1024) (by omega)).1 ?_
  rw [show (hsh b + (f + 1024 - hsh b) % 1024) % 1024 = f by omega]
  exact h0
/-- the table holds f: bin b has the number f b, 0 for no entry -/
def tab (M V K : Nat → Nat) (sz : Nat) (f : Nat → Nat) : Prop :=
  cntM M 1024 = sz ∧ (∀ t, t < 1024 → M t ≠ 0 → isSlot M (M t - 1) t ∧ V t = f (M t - 1) ∧ f (M t - 1) ≠ 0 ∧ ∃ i, i < sz ∧ K i = t) ∧ (∀ i, i < sz → K i < 1024 ∧ M (K i) ≠ 0) ∧ (∀ b, f b ≠ 0 → b < 65536 ∧ ∃ t, t < 1024 ∧ M t = b + 1) ∧
  ∀ g : Nat → Nat, sumN (fun i => g (M (K i) - 1)) sz = sumN (fun b => if f b = 0 then 0 else g b) 65536
theorem tab_free {M V K f : Nat → Nat} {sz : Nat} (h : tab M V K sz f) (hs : sz ≤ 512) : ∃ t, t < 1024 ∧ M t = 0 := cntM_free (by rw [h.1]; exact hs)
theorem tab_none {M V K f : Nat → Nat} {sz b t : Nat} (h : tab M V K sz f) (ht : isSlot M b t) (h0 : M t = 0) : f b = 0 := by
  refine Classical.byContradiction fun q => ?_
  obtain ⟨-, t2, ht2, e⟩ := h.2.2.2.1 b q
  have h1 := (h.2.1 t2 ht2 (by omega)).1
  rw [e, Nat.add_sub_cancel] at h1
  have := isSlot_one ht h1
  subst this
  omega
theorem tab_mark {M : Nat → Nat} {b t : Nat} (ht : isSlot M b t) (h0 : M t ≠ 0) : M t = b + 1 := by
  obtain ⟨i, -, -, s, -⟩ := ht
  rcases s with s | s
  · exact absurd s h0
  · exact s
theorem tab_val {M V K f : Nat → Nat} {sz b t : Nat} (h : tab M V K sz f) (ht : isSlot M b t) (h0 : M t ≠ 0) : V t = f b := by
  have e := tab_mark ht h0
  have := (h.2.1 t (isSlot_lt ht) h0).2.1
  rw [e, Nat.add_sub_cancel] at this
  exact this
theorem tab_set {M V K f : Nat → Nat} {sz b t x : Nat} (h : tab M V K sz f) (ht : isSlot M b t) (h0 : M t ≠ 0) (hx : x ≠ 0) : tab M (uF V t x) K sz (uF f b x) := by
  have e := tab_mark ht h0
  have hfb : f b ≠ 0 := by have := (h.2.1 t (isSlot_lt ht) h0).2.2.1; rw [e, Nat.add_sub_cancel] at this; exact this
  refine ⟨h.1, fun s hs hm => ?_, h.2.2.1, fun c hc => ?_, fun g => ?_⟩
  · obtain ⟨a1, a2, a3, a4⟩ := h.2.1 s hs hm
    by_cases hst : s = t
    · subst hst
      refine ⟨a1, ?_, ?_, a4⟩
      · rw [e, Nat.add_sub_cancel, uF_s, uF_s]
      · rw [e, Nat.add_sub_cancel, uF_s]; exact hx
    · have hne : M s - 1 ≠ b := fun q => hst (by rw [q] at a1; exact isSlot_one a1 ht)
      rw [uF_n hst, uF_n hne]
      exact ⟨a1, a2, a3, a4⟩
  · by_cases hcb : c = b
    · subst hcb; exact h.2.2.2.1 c hfb
    · rw [uF_n hcb] at hc; exact h.2.2.2.1 c hc
  · rw [h.2.2.2.2 g]
    refine sumN_congr (fun c _ => ?_)
    by_cases hcb : c = b
    · subst hcb; rw [uF_s, if_neg hfb, if_neg hx]
    · rw [uF_n hcb]
theorem tab_add {M V K f : Nat → Nat} {sz b t x : Nat} (h : tab M V K sz f) (ht : isSlot M b t) (h0 : M t = 0) (hx : x ≠ 0) (hb : b < 65536) : tab (uF M t (b + 1)) (uF V t x) (uF K sz t) (sz + 1) (uF f b x) := by
  have hfb := tab_none h ht h0
  have htl := isSlot_lt ht
  have hk : ∀ r, r ≠ t → uF M t (b + 1) r = M r := fun r hr => uF_n hr
  refine ⟨by rw [cntM_put htl h0 (by omega), h.1], fun s hs hm => ?_, fun i hi => ?_, fun c hc => ?_, fun g => ?_⟩
  · by_cases hst : s = t
    · subst hst
      rw [uF_s, Nat.add_sub_cancel, uF_s, uF_s]
      exact ⟨isSlot_put ht h0 uF_s hk, rfl, hx, sz, by omega, uF_s⟩
    · rw [uF_n hst] at hm ⊢
      obtain ⟨a1, a2, a3, i, hi, a4⟩ := h.2.1 s hs hm
      have hne : M s - 1 ≠ b := fun q => a3 (by rw [q]; exact hfb)
      rw [uF_n hst, uF_n hne]
      exact ⟨isSlot_keep a1 h0 hst hk, a2, a3, i, by omega, by rw [uF_n (by omega)]; exact a4⟩
  · by_cases his : i = sz
    · subst his
      rw [uF_s, uF_s]
      exact ⟨htl, by omega⟩
    · rw [uF_n his]
      obtain ⟨a1, a2⟩ := h.2.2.1 i (by omega)
      have hne : K i ≠ t := fun q => a2 (by rw [q]; exact h0)
      rw [uF_n hne]
      exact ⟨a1, a2⟩
  · by_cases hcb : c = b
    · subst hcb; exact ⟨hb, t, htl, uF_s⟩
    · rw [uF_n hcb] at hc
      obtain ⟨a1, s, hs, a2⟩ := h.2.2.2.1 c hc
      have hne : s ≠ t := fun q => by rw [q, h0] at a2; omega
      exact ⟨a1, s, hs, by rw [uF_n hne]; exact a2⟩
  · rw [sumN_succ _ sz, uF_s, uF_s, Nat.add_sub_cancel]
    have e1 : sumN (fun i => g (uF M t (b + 1) (uF K sz t i) - 1)) sz = sumN (fun i => g (M (K i) - 1)) sz := sumN_congr (fun i hi => by
      have hne : K i ≠ t := fun q => (h.2.2.1 i hi).2 (by rw [q]; exact h0)
      rw [uF_n (show i ≠ sz by omega), uF_n hne])
    rw [e1, h.2.2.2.2 g, sumN_put (g := fun c => if f c = 0 then 0 else g c) (h := fun c => if uF f b x c = 0 then 0 else g c) hb (by simp [hfb]) (fun i _ hi => by rw [uF_n hi])]
    rw [uF_s, if_neg hx]
theorem tab_empty {M V K : Nat → Nat} (h : ∀ t, t < 1024 → M t = 0) : tab M V K 0 (fun _ => 0) := by
  refine ⟨?_, fun t ht hm => absurd (h t ht) hm, fun i hi => absurd hi (Nat.not_lt_zero _), fun b hb => absurd rfl hb, fun g => ?_⟩
  · unfold cntM
    exact sumN_zero (fun t ht => by rw [if_pos (h t ht)])
  · exact (sumN_zero (fun b _ => if_pos rfl)).symm
