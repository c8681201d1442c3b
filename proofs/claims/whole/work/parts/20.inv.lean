/-! what holds between the class and the reference, after n calls -/
theorem isPlan_congr {b q n : Nat} {Z Z2 S : Nat → Nat} (h : isPlan b q n Z S) (e : ∀ k, k < n → Z2 k = Z k) : isPlan b q n Z2 S := by
  obtain ⟨h1, h2, z, h3, ⟨zz, h4, h5, h6⟩, h7⟩ := h
  refine ⟨h1, h2, z, h3, ⟨zz, h4, h5, fun j hj => ?_⟩, h7⟩
  rw [e j hj]
  exact h6 j hj
theorem xPlan_congr {b q n : Nat} {Z Z2 S : Nat → Nat} (h : xPlan b q n Z S) (e : ∀ k, k < n → Z2 k = Z k) : xPlan b q n Z2 S :=
  ⟨h.1, h.2.1, h.2.2.1, h.2.2.2.1, fun g => ⟨(h.2.2.2.2 g).1, isPlan_congr (h.2.2.2.2 g).2 e⟩⟩
theorem sDigit_congr {pt pn : Nat} {Z Z2 S : Nat → Nat} (e : ∀ k, k < pn → Z2 k = Z k) (x : Int64) (y : Int32) : sDigit pt pn Z2 S x y = sDigit pt pn Z S x y := by
  unfold sDigit
  split
  · next h =>
    split
    · rfl
    · next h0 => rw [e _ (by have := h.2; unfold knI at this; omega)]
  · rfl
def INV (n bn pt pn gc tt sa sb pl : Nat) (Z S ZZ P F C O Ma Va Ka fa Mb Vb Kb fb HH PO SO : Nat → Nat) : Prop :=
  (bn ≤ 65536 ∧ xPlan bn pt pn Z S ∧ (∀ k, k < pn → ZZ k = Z k) ∧ ((pl = 0 ∧ pt = 0) ∨ (pl = 1 ∧ 1 ≤ pt))) ∧
  (itOK gc tt P F C ∧ ordOK gc tt P C O ∧ (∀ g, g < gc → P g < pt) ∧ (pt = 1 → ∀ k, k < gc → O k = k) ∧ lnk gc P F C O PO SO ∧ gc ≤ n) ∧
  (tab Ma Va Ka sa fa ∧ (∀ b, fa b ≤ 100000) ∧ (∀ b, b < 65536 → HH b = hOf fa b) ∧ sa ≤ n) ∧ (tab Mb Vb Kb sb fb ∧ sb ≤ 512)
section ZI
variable {n bn pt pn gc tt sa sb pl : Nat} {Z S ZZ P F C O Ma Va Ka fa Mb Vb Kb fb HH PO SO : Nat → Nat}
theorem INV.up (h : INV n bn pt pn gc tt sa sb pl Z S ZZ P F C O Ma Va Ka fa Mb Vb Kb fb HH PO SO) : INV (n + 1) bn pt pn gc tt sa sb pl Z S ZZ P F C O Ma Va Ka fa Mb Vb Kb fb HH PO SO := by
  obtain ⟨h1, ⟨a1, a2, a3, a4, a5, a6⟩, ⟨b1, b2, b3, b4⟩, h4⟩ := h
  exact ⟨h1, ⟨a1, a2, a3, a4, a5, by omega⟩, ⟨b1, b2, b3, by omega⟩, h4⟩
theorem INV.tray {sb2 : Nat} {Mb2 Vb2 Kb2 fb2 : Nat → Nat} (h : INV n bn pt pn gc tt sa sb pl Z S ZZ P F C O Ma Va Ka fa Mb Vb Kb fb HH PO SO) (h1 : tab Mb2 Vb2 Kb2 sb2 fb2) (h2 : sb2 ≤ 512) : INV (n + 1) bn pt pn gc tt sa sb2 pl Z S ZZ P F C O Ma Va Ka fa Mb2 Vb2 Kb2 fb2 HH PO SO := by
  have g := h.up
  exact ⟨g.1, g.2.1, g.2.2.1, h1, h2⟩
theorem INV.hei {sa2 : Nat} {Ma2 Va2 Ka2 fa2 HH2 : Nat → Nat} (h : INV n bn pt pn gc tt sa sb pl Z S ZZ P F C O Ma Va Ka fa Mb Vb Kb fb HH PO SO) (h1 : tab Ma2 Va2 Ka2 sa2 fa2) (h2 : sa2 ≤ sa + 1) (h3 : ∀ b, fa2 b ≤ 100000) (h4 : ∀ b, b < 65536 → HH2 b = hOf fa2 b) : INV (n + 1) bn pt pn gc tt sa2 sb pl Z S ZZ P F C O Ma2 Va2 Ka2 fa2 Mb Vb Kb fb HH2 PO SO := by
  have g := h.up
  have := h.2.2.1.2.2.2
  exact ⟨g.1, g.2.1, ⟨h1, h3, h4, by omega⟩, g.2.2.2⟩
theorem INV.pass {a n2 : Nat} {Z2 S2 ZZ2 S3 : Nat → Nat} (h : INV n bn pt pn gc tt sa sb pl Z S ZZ P F C O Ma Va Ka fa Mb Vb Kb fb HH PO SO) (hb : 2 ≤ bn) (ha : 1 ≤ a ∧ a ≤ 4611686018427387904) (h1 : isPlan bn a n2 Z2 S2) (h2 : isPlan bn a n2 ZZ2 S3) : INV (n + 1) bn a n2 0 0 sa sb 1 Z2 S2 ZZ2 P F C O Ma Va Ka fa Mb Vb Kb fb HH PO SO := by
  have g := h.up
  have e := isPlan_one h2 h1
  refine ⟨⟨g.1.1, ⟨ha.2, h1.1, g.1.1, fun q => by omega, fun _ => ⟨hb, h1⟩⟩, e.2.1, Or.inr ⟨rfl, ha.1⟩⟩, ⟨⟨by omega, by omega, rfl, fun k hk => absurd hk (Nat.not_lt_zero _)⟩, ⟨fun k hk => absurd hk (Nat.not_lt_zero _), fun j k _ hk => absurd hk (Nat.not_lt_zero _), rfl⟩, fun k hk => absurd hk (Nat.not_lt_zero _), fun _ k hk => absurd hk (Nat.not_lt_zero _), lnk_0, by omega⟩, g.2.2.1, g.2.2.2⟩
theorem INV.vol0 {a : Nat} {PO2 SO2 : Nat → Nat} (h : INV n bn pt pn gc tt sa sb pl Z S ZZ P F C O Ma Va Ka fa Mb Vb Kb fb HH PO SO) (hv : isVol tt a 0 PO SO PO2 SO2) : INV (n + 1) bn pt pn gc tt sa sb pl Z S ZZ P F C O Ma Va Ka fa Mb Vb Kb fb HH PO2 SO2 := by
  have g := h.up
  obtain ⟨a1, a2, a3, a4, a5, a6⟩ := g.2.1
  exact ⟨g.1, ⟨a1, a2, a3, a4, lnk_vol0 a1 a2 a5 hv, a6⟩, g.2.2.1, g.2.2.2⟩
theorem INV.vol {a k kp : Nat} {O2 PO2 SO2 : Nat → Nat} (h : INV n bn pt pn gc tt sa sb pl Z S ZZ P F C O Ma Va Ka fa Mb Vb Kb fb HH PO SO) (hn : n < 512) (hk : 1 ≤ k) (ht : tt + k ≤ 4000) (ha : a < pt) (hi : isIns P O gc a kp O2) (hv : isVol tt a k PO SO PO2 SO2) : INV (n + 1) bn pt pn (gc + 1) (tt + k) sa sb pl Z S ZZ (uF P gc a) (uF F gc tt) (uF C gc k) O2 Ma Va Ka fa Mb Vb Kb fb HH PO2 SO2 := by
  obtain ⟨a1, a2, a3, a4, a5, a6⟩ := h.2.1
  have g := h.up
  have hp := h.1.2.1.1
  refine ⟨g.1, ⟨it_add a1 (by omega) ht hk (by omega), (ord_add a2 hi).1, fun j hj => ?_, fun e => ?_, lnk_vol a1 a2 a5 hi hv, by omega⟩, g.2.2.1, g.2.2.2⟩
  · by_cases hq : j = gc
    · rw [hq, uF_s]; exact ha
    · rw [uF_n hq]; exact a3 j (by omega)
  · exact ins_one hi (a4 e) (fun j hj => by have := a3 j hj; omega)
theorem INV.hSO (h : INV n bn pt pn gc tt sa sb pl Z S ZZ P F C O Ma Va Ka fa Mb Vb Kb fb HH PO SO) : ∀ i, i < tt → SO i < tt := fun _ hi => lnk_SO h.2.1.1 h.2.1.2.1 h.2.1.2.2.2.2.1 hi
theorem INV.hPO (h : INV n bn pt pn gc tt sa sb pl Z S ZZ P F C O Ma Va Ka fa Mb Vb Kb fb HH PO SO) : ∀ i, i < tt → PO i < pt := fun _ hi => by
  obtain ⟨g, hg, e⟩ := lnk_PO h.2.1.1 h.2.1.2.2.2.2.1 hi
  rw [e]
  exact h.2.1.2.2.1 g hg
theorem INV.trays (h : INV n bn pt pn gc tt sa sb pl Z S ZZ P F C O Ma Va Ka fa Mb Vb Kb fb HH PO SO) (hp : 0 < pt) : sumN (fun k => trayI PO HH tt (S k) (ZZ k) (ZZ k)) pn = sumN (fun k => trayP P C fa gc (S k) (Z k)) pn := by
  refine sumN_congr (fun k hk => ?_)
  rw [h.1.2.2.1 k hk]
  have hz := plan_Z (h.1.2.1.2.2.2.2 hp).2 hk
  have hb := h.1.1
  exact tray_link h.2.1.1 h.2.1.2.2.2.2.1 h.2.2.1.2.2.1 h.2.2.1.2.1 (by omega) (by omega)
/-- the first passes' count 0 means one point -/
theorem INV.one (h : INV n bn pt pn gc tt sa sb pl Z S ZZ P F C O Ma Va Ka fa Mb Vb Kb fb HH PO SO) (hp : 0 < pt) (h0 : pn = 0) : pt = 1 := by
  have := (h.1.2.1.2.2.2.2 hp).2.2.1.1
  rw [h0, Nat.pow_zero] at this
  omega
theorem INV.ord (h : INV n bn pt pn gc tt sa sb pl Z S ZZ P F C O Ma Va Ka fa Mb Vb Kb fb HH PO SO) (hp : 0 < pt) {k j i : Nat} (hk : k < gc) (hj : j < C (O k)) (hi : i = sumN (fun i => C (O i)) k + j) : (if pn = 0 then nI i else nI (SO i)) = nI (F (O k) + j) := by
  rw [hi]
  split
  · next h0 => rw [order_one h.2.1.1 (h.2.1.2.2.2.1 (h.one hp h0)) hk]
  · rw [h.2.1.2.2.2.2.1.2 k hk j hj]
end ZI
theorem best_same {q : Prop} {a b : Nat} {v w : Int32} (h1 : (¬ q → v = -2) ∧ (q → ∃ xb, isBase a b 2147483647 xb ∧ v = if 2147483647 < xb then -2 else nI xb)) (h2 : (¬ q → w = -2) ∧ (q → ∃ xb, isBase a b 2147483647 xb ∧ w = if 2147483647 < xb then -2 else nI xb)) : v = w := by
  by_cases hq : q
  · obtain ⟨x1, a1, rfl⟩ := h1.2 hq
    obtain ⟨x2, a2, rfl⟩ := h2.2 hq
    rw [isBase_one a1 a2]
  · rw [h1.1 hq, h2.1 hq]
theorem least_same {q : Prop} {a b : Nat} {y v w : Int32} (h1 : (¬ q → v = bI False) ∧ (q → ∃ xe, xe ≤ 62 ∧ isExp a b xe ∧ v = bI (y.toInt = (xe : Int)))) (h2 : (¬ q → w = bI False) ∧ (q → ∃ xe, xe ≤ 62 ∧ isExp a b xe ∧ w = bI (y.toInt = (xe : Int)))) : v = w := by
  by_cases hq : q
  · obtain ⟨x1, -, a1, rfl⟩ := h1.2 hq
    obtain ⟨x2, -, a2, rfl⟩ := h2.2 hq
    rw [isExp_one a1 a2]
  · rw [h1.1 hq, h2.1 hq]
/-- a long out of two ints of the script -/
def lgl (a b : Int32) : Int64 := (a.toInt64 <<< ((nI 32).toInt64 &&& 63)) ||| (b.toInt64 &&& lN 4294967295)
