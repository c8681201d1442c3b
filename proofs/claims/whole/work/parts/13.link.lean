/-! class and reference: the same items, the same trays -/
/-- how many of the first i items bin b gets -/
def cntI (PO : Nat → Nat) (s z i b : Nat) : Nat := sumN (fun j => if PO j / s % z = b then 1 else 0) i
theorem cntI_succ (PO : Nat → Nat) (s z i b : Nat) : cntI PO s z (i + 1) b = cntI PO s z i b + if PO i / s % z = b then 1 else 0 := sumN_succ _ _
theorem cntI_le (PO : Nat → Nat) (s z i b : Nat) : cntI PO s z i b ≤ i := by
  induction i with
  | zero => exact Nat.le_refl _
  | succ i ih => rw [cntI_succ]; split <;> omega
def trayI (PO HH : Nat → Nat) (it s z m : Nat) : Nat := sumN (fun b => cntI PO s z it b / HH b + if 0 < cntI PO s z it b % HH b then 1 else 0) m
def lnk (gc : Nat) (P F C O PO SO : Nat → Nat) : Prop := (∀ g, g < gc → ∀ j, j < C g → PO (F g + j) = P g) ∧ ∀ k, k < gc → ∀ j, j < C (O k) → SO (sumN (fun i => C (O i)) k + j) = F (O k) + j
theorem cnt_link {gc tt : Nat} {P F C O PO SO : Nat → Nat} (hi : itOK gc tt P F C) (h : lnk gc P F C O PO SO) (s z b : Nat) : cntI PO s z tt b = cntG P C s z gc b := by
  unfold cntI cntG
  rw [hi.2.2.1, sum_groups]
  refine sumN_congr (fun k hk => ?_)
  have e : ∀ j, j < C k → PO (sumN C k + j) = P k := fun j hj => by rw [← (hi.2.2.2 k hk).1]; exact h.1 k hk j hj
  rw [sumN_congr (h := fun _ => if P k / s % z = b then 1 else 0) (fun j hj => by simp only [e j hj]), sumN_const]
  split <;> simp
theorem tray_link {gc tt : Nat} {P F C O PO SO fa HH : Nat → Nat} (hi : itOK gc tt P F C) (h : lnk gc P F C O PO SO) (hH : ∀ b, b < 65536 → HH b = hOf fa b) (hfa : ∀ b, fa b ≤ 100000) {s z : Nat} (hz : 1 ≤ z) (hz2 : z ≤ 65536) : trayI PO HH tt s z z = trayP P C fa gc s z := by
  unfold trayI trayP
  have e0 : ∀ b, z ≤ b → cntG P C s z gc b = 0 := fun b hb => sumN_zero (fun j _ => if_neg (by have := Nat.mod_lt (P j / s) hz; omega))
  rw [sumN_tail (m := z) hz2 (fun b hb _ => if_pos (e0 b hb))]
  refine sumN_congr (fun b hb => ?_)
  have h1 := hOf_le hfa b
  rw [cnt_link hi h, hH b (by omega), ← up_div h1.1]
  split
  · next q => rw [q]; exact Nat.div_eq_of_lt (by omega)
  · rfl
theorem sumN_lt (x a n : Nat) : sumN (fun j => if a + j < x then 1 else 0) n = min n (x - a) := by
  induction n with
  | zero => exact (Nat.min_eq_left (Nat.zero_le _)).symm
  | succ n ih => rw [sumN_succ, ih]; split <;> omega
theorem sumN_mono_le {C : Nat → Nat} {j k : Nat} (h : j < k) : sumN C j + C j ≤ sumN C k := by
  rw [← sumN_succ]; exact sumN_mono h
theorem place_link {gc tt : Nat} {P F C O PO SO : Nat → Nat} (hi : itOK gc tt P F C) (h : lnk gc P F C O PO SO) {w x ow : Nat} (h1 : ow < gc) (h2 : F ow ≤ x) (h3 : x < F ow + C ow) : sumN (fun i => if PO i % w < PO x % w ∨ (PO i % w = PO x % w ∧ i < x) then 1 else 0) tt = x - F ow + sumN (before P C w ow) gc := by
  have ex : PO x = P ow := by
    have := h.1 ow h1 (x - F ow) (by omega)
    rw [show F ow + (x - F ow) = x by omega] at this
    exact this
  rw [ex, hi.2.2.1, sum_groups]
  have hF := (hi.2.2.2 ow h1).1
  have key : ∀ k, k < gc → sumN (fun j => if PO (sumN C k + j) % w < P ow % w ∨ (PO (sumN C k + j) % w = P ow % w ∧ sumN C k + j < x) then 1 else 0) (C k) = before P C w ow k + if k = ow then x - F ow else 0 := fun k hk => by
    have e : ∀ j, j < C k → PO (sumN C k + j) = P k := fun j hj => by rw [← (hi.2.2.2 k hk).1]; exact h.1 k hk j hj
    by_cases hko : k = ow
    · subst hko
      rw [sumN_congr (h := fun j => if sumN C k + j < x then 1 else 0) (fun j hj => by rw [e j hj]; simp), sumN_lt, if_pos rfl, before, if_neg (by omega), ← hF]
      omega
    · rw [if_neg hko, Nat.add_zero]
      have hlt : ∀ j, j < C k → (sumN C k + j < x ↔ k < ow) := fun j hj => by
        rcases Nat.lt_or_ge k ow with g | g
        · have := sumN_mono_le (C := C) g; constructor <;> intro _ <;> omega
        · have := sumN_mono_le (C := C) (show ow < k by omega); constructor <;> intro _ <;> omega
      rw [sumN_congr (h := fun _ => if P k % w < P ow % w ∨ (P k % w = P ow % w ∧ k < ow) then 1 else 0) (fun j hj => by rw [e j hj]; simp only [hlt j hj]), sumN_const, before]
      split <;> simp
  rw [sumN_congr key, sumN_add, sumN_one (g := fun k => if k = ow then x - F ow else 0) h1 (fun i _ hne => if_neg hne), if_pos rfl]
  omega
/-- a place belongs to a group -/
theorem place_of {q : Nat → Nat} {n x : Nat} (h : x < sumN q n) : ∃ k j, k < n ∧ j < q k ∧ x = sumN q k + j := by
  induction n with
  | zero => exact absurd h (Nat.not_lt_zero _)
  | succ n ih =>
    rw [sumN_succ] at h
    rcases Nat.lt_or_ge x (sumN q n) with g | g
    · obtain ⟨k, j, h1, h2, h3⟩ := ih g
      exact ⟨k, j, by omega, h2, h3⟩
    · exact ⟨n, x - sumN q n, by omega, by omega, by omega⟩
/-- the reference's insertion -/
def isVol (tt a n : Nat) (PO SO PO2 SO2 : Nat → Nat) : Prop := ∃ at', at' ≤ tt ∧ (∀ i, i < at' → PO (SO i) ≤ a) ∧ (at' = tt ∨ a < PO (SO at')) ∧ (∀ i, i < at' → SO2 i = SO i) ∧ (∀ j, j < n → SO2 (at' + j) = tt + j) ∧ (∀ i, at' ≤ i → i < tt → SO2 (i + n) = SO i) ∧ (∀ i, i < tt → PO2 i = PO i) ∧ ∀ j, j < n → PO2 (tt + j) = a
theorem lnk_0 {P F C O PO SO : Nat → Nat} : lnk 0 P F C O PO SO := ⟨fun _ hg => absurd hg (Nat.not_lt_zero _), fun _ hg => absurd hg (Nat.not_lt_zero _)⟩
theorem cum_le {gc tt : Nat} {P C O : Nat → Nat} (ho : ordOK gc tt P C O) {k : Nat} (hk : k < gc) : sumN (fun i => C (O i)) k + C (O k) ≤ tt := by
  rw [← ho.2.2]
  exact sumN_mono_le (C := fun i => C (O i)) hk
theorem lnk_SO {gc tt : Nat} {P F C O PO SO : Nat → Nat} (hi : itOK gc tt P F C) (ho : ordOK gc tt P C O) (h : lnk gc P F C O PO SO) {i : Nat} (hit : i < tt) : SO i < tt := by
  rw [← ho.2.2] at hit
  obtain ⟨k, j, h1, h2, rfl⟩ := place_of hit
  rw [h.2 k h1 j h2]
  have := it_le hi (ho.1 k h1)
  omega
theorem lnk_PO {gc tt : Nat} {P F C O PO SO : Nat → Nat} (hi : itOK gc tt P F C) (h : lnk gc P F C O PO SO) {i : Nat} (hit : i < tt) : ∃ g, g < gc ∧ PO i = P g := by
  rw [hi.2.2.1] at hit
  obtain ⟨k, j, h1, h2, rfl⟩ := place_of hit
  refine ⟨k, h1, ?_⟩
  rw [← (hi.2.2.2 k h1).1]
  exact h.1 k h1 j h2
theorem lnk_vol0 {gc tt a : Nat} {P F C O PO SO PO2 SO2 : Nat → Nat} (hi : itOK gc tt P F C) (ho : ordOK gc tt P C O) (h : lnk gc P F C O PO SO) (hv : isVol tt a 0 PO SO PO2 SO2) : lnk gc P F C O PO2 SO2 := by
  obtain ⟨at', h0, -, -, h1, -, h2, h3, -⟩ := hv
  have e : ∀ i, i < tt → SO2 i = SO i := fun i hi => if g : i < at' then h1 i g else h2 i (by omega) hi
  refine ⟨fun g hg j hj => ?_, fun k hk j hj => ?_⟩
  · have := it_le hi hg
    rw [h3 _ (by omega)]; exact h.1 g hg j hj
  · have := cum_le ho hk
    rw [e _ (by omega)]; exact h.2 k hk j hj
theorem vol_at {gc tt a kp at' : Nat} {P F C O O2 PO SO : Nat → Nat} (hi : itOK gc tt P F C) (ho : ordOK gc tt P C O) (h : lnk gc P F C O PO SO) (hn : isIns P O gc a kp O2) (h0 : at' ≤ tt) (h1 : ∀ i, i < at' → PO (SO i) ≤ a) (h2 : at' = tt ∨ a < PO (SO at')) : at' = sumN (fun i => C (O i)) kp := by
  obtain ⟨i0, -, -, -, i4, i5⟩ := hn
  have val : ∀ k, k < gc → ∀ j, j < C (O k) → PO (SO (sumN (fun i => C (O i)) k + j)) = P (O k) := fun k hk j hj => by
    rw [h.2 k hk j hj]; exact h.1 _ (ho.1 k hk) j hj
  rcases Nat.lt_trichotomy at' (sumN (fun i => C (O i)) kp) with g | g | g
  · have hle : sumN (fun i => C (O i)) kp ≤ tt := by rw [← ho.2.2]; exact sumN_mono i0
    obtain ⟨k, j, a1, a2, a3⟩ := place_of g
    rcases h2 with e | e
    · omega
    · rw [a3, val k (by omega) j a2] at e
      rcases i5 with q | q
      · omega
      · have := ho.2.1 k (kp - 1) (by omega) (by omega); omega
  · exact g
  · rcases Nat.lt_or_ge kp gc with q | q
    · have h3 := h1 _ g
      have hC := (hi.2.2.2 _ (ho.1 kp q)).2.1
      have := val kp q 0 (by omega)
      rw [Nat.add_zero] at this
      rw [this] at h3
      have := i4 kp (Nat.le_refl _) q
      omega
    · have : kp = gc := by omega
      rw [this, ho.2.2] at g
      omega
theorem lnk_vol {gc tt a n kp : Nat} {P F C O O2 PO SO PO2 SO2 : Nat → Nat} (hi : itOK gc tt P F C) (ho : ordOK gc tt P C O) (h : lnk gc P F C O PO SO) (hn : isIns P O gc a kp O2) (hv : isVol tt a n PO SO PO2 SO2) : lnk (gc + 1) (uF P gc a) (uF F gc tt) (uF C gc n) O2 PO2 SO2 := by
  obtain ⟨at', h0, h1, h2, h3, h4, h5, h6, h7⟩ := hv
  have hat := vol_at hi ho h hn h0 h1 h2
  obtain ⟨-, s1, s2⟩ := ord_add (n := n) ho hn
  obtain ⟨i0, i1, i2, i3, -, -⟩ := hn
  refine ⟨fun g hg j hj => ?_, fun k hk j hj => ?_⟩
  · by_cases hq : g = gc
    · subst hq
      rw [uF_s] at hj
      rw [uF_s, uF_s]
      exact h7 j hj
    · rw [uF_n hq] at hj
      rw [uF_n hq, uF_n hq]
      have := it_le hi (show g < gc by omega)
      rw [h6 _ (by omega)]
      exact h.1 g (by omega) j hj
  · rcases Nat.lt_trichotomy k kp with g | g | g
    · have hO := ho.1 k (by omega)
      rw [i1 k g, uF_n (by omega)] at hj
      have h8 : sumN (fun i => C (O i)) k + C (O k) ≤ sumN (fun i => C (O i)) kp := sumN_mono_le (C := fun i => C (O i)) g
      rw [s1 k (by omega), i1 k g, uF_n (by omega), h3 _ (by omega)]
      exact h.2 k (by omega) j hj
    · subst g
      rw [i2, uF_s] at hj
      rw [s1 k (Nat.le_refl _), i2, uF_s, ← hat]
      exact h4 j hj
    · obtain ⟨k', rfl⟩ : ∃ k', k = k' + 1 := ⟨k - 1, by omega⟩
      have hO := ho.1 k' (by omega)
      have e := i3 (k' + 1) g (by omega)
      rw [Nat.add_sub_cancel] at e
      rw [e, uF_n (by omega)] at hj
      have h8 : sumN (fun i => C (O i)) kp ≤ sumN (fun i => C (O i)) k' := sumN_mono (by omega)
      have h9 := cum_le ho (show k' < gc by omega)
      rw [s2 k' (by omega) (by omega), e, uF_n (by omega), show sumN (fun i => C (O i)) k' + n + j = sumN (fun i => C (O i)) k' + j + n by omega, h5 _ (by omega) (by omega)]
      exact h.2 k' (by omega) j hj
/-- one point alone: the groups lie as they came -/
theorem ins_one {gc a kp : Nat} {P O O2 : Nat → Nat} (hn : isIns P O gc a kp O2) (hO : ∀ k, k < gc → O k = k) (hP : ∀ g, g < gc → P g = 0) : ∀ k, k < gc + 1 → O2 k = k := by
  obtain ⟨i0, i1, i2, i3, i4, -⟩ := hn
  have hk : kp = gc := by
    rcases Nat.lt_or_ge kp gc with q | q
    · have := i4 kp (Nat.le_refl _) q
      rw [hO kp q, hP kp q] at this
      omega
    · omega
  intro k hk2
  rcases Nat.lt_or_ge k gc with q | q
  · rw [i1 k (by omega)]; exact hO k q
  · rw [show k = gc by omega, ← hk]; rw [i2, hk]
theorem order_one {gc tt : Nat} {P F C O : Nat → Nat} (hi : itOK gc tt P F C) (hO : ∀ k, k < gc → O k = k) {k j : Nat} (hk : k < gc) : sumN (fun i => C (O i)) k + j = F (O k) + j := by
  rw [hO k hk, (hi.2.2.2 k hk).1]
  congr 1
  exact sumN_congr (fun i hik => by rw [hO i (by omega)])
