/-! the cote and the law's numbers: how they go together -/
def RelL (b : Prop) (c v : cSt) : Prop :=
  (∀ k, k < 32 → lIs v k = (decide (k < 16) && cEx c (nI k))) ∧
  (∀ k, k < 16 → ¬ c 2 k = -1 → ∀ y, y < 4 → v 1 (4 * k + y) = c (2 + y) k) ∧
  (∀ k, k < 16 → ¬ c 2 k = -1 → ∀ y, y < 4 → v 2 (4 * k + y) = c (6 + y) k) ∧
  (∀ h, h < 24 → c 13 h = bI (!(lBit (v 0 1) h))) ∧
  v 0 2 = c 0 7 ∧ v 0 3 = c 0 6 ∧ (∀ j, j < 2 → v 0 (4 + j) = c 14 j) ∧ v 0 6 = c 0 8 ∧ v 0 7 = c 0 9 ∧
  (∀ j, j < 4 → v 0 (8 + j) = c 15 j) ∧ v 0 12 = c 17 2 ∧
  (b → ∀ k, k < 25 → nI k < c 17 2 → ∃ a y, a < 16 ∧ y < 25 ∧ c 18 k = nI a ∧ c 19 k = nI y ∧ v 3 k = nI (32 * a + y))
theorem RelL.ex {b : Prop} {c v : cSt} (h : RelL b c v) : ∀ k, k < 32 → lIs v k = (decide (k < 16) && cEx c (nI k)) := h.1
theorem RelL.row {b : Prop} {c v : cSt} (h : RelL b c v) : ∀ k, k < 16 → ¬ c 2 k = -1 → ∀ y, y < 4 → v 1 (4 * k + y) = c (2 + y) k := h.2.1
theorem RelL.rob {b : Prop} {c v : cSt} (h : RelL b c v) : ∀ k, k < 16 → ¬ c 2 k = -1 → ∀ y, y < 4 → v 2 (4 * k + y) = c (6 + y) k := h.2.2.1
theorem RelL.opn {b : Prop} {c v : cSt} (h : RelL b c v) : ∀ h, h < 24 → c 13 h = bI (!(lBit (v 0 1) h)) := h.2.2.2.1
theorem RelL.time {b : Prop} {c v : cSt} (h : RelL b c v) : v 0 2 = c 0 7 := h.2.2.2.2.1
theorem RelL.day {b : Prop} {c v : cSt} (h : RelL b c v) : v 0 3 = c 0 6 := h.2.2.2.2.2.1
theorem RelL.set {b : Prop} {c v : cSt} (h : RelL b c v) : ∀ j, j < 2 → v 0 (4 + j) = c 14 j := h.2.2.2.2.2.2.1
theorem RelL.shf {b : Prop} {c v : cSt} (h : RelL b c v) : v 0 6 = c 0 8 := h.2.2.2.2.2.2.2.1
theorem RelL.qrl {b : Prop} {c v : cSt} (h : RelL b c v) : v 0 7 = c 0 9 := h.2.2.2.2.2.2.2.2.1
theorem RelL.dwn {b : Prop} {c v : cSt} (h : RelL b c v) : ∀ j, j < 4 → v 0 (8 + j) = c 15 j := h.2.2.2.2.2.2.2.2.2.1
theorem RelL.siz {b : Prop} {c v : cSt} (h : RelL b c v) : v 0 12 = c 17 2 := h.2.2.2.2.2.2.2.2.2.2.1
theorem RelL.who {b : Prop} {c v : cSt} (h : RelL b c v) : b → ∀ k, k < 25 → nI k < c 17 2 → ∃ a y, a < 16 ∧ y < 25 ∧ c 18 k = nI a ∧ c 19 k = nI y ∧ v 3 k = nI (32 * a + y) := h.2.2.2.2.2.2.2.2.2.2.2
theorem RelL.exs {b : Prop} {c v : cSt} (h : RelL b c v) (k : Nat) (hk : k < 16) : lIs v k = cEx c (nI k) := by
  rw [h.ex k (by omega), decide_eq_true hk, Bool.true_and]
theorem RelL.weak {b : Prop} {c v : cSt} (h : RelL b c v) : RelL False c v := ⟨h.1, h.2.1, h.2.2.1, h.2.2.2.1, h.2.2.2.2.1, h.2.2.2.2.2.1, h.2.2.2.2.2.2.1, h.2.2.2.2.2.2.2.1, h.2.2.2.2.2.2.2.2.1, h.2.2.2.2.2.2.2.2.2.1, h.2.2.2.2.2.2.2.2.2.2.1, fun q => q.elim⟩
/-- only what lies within the rows counts -/
theorem RelL.of_wEq {b : Prop} {c v w : cSt} (h : RelL b c v) (hw : wEq v w) : RelL False c w := by
  obtain ⟨w0, w1, w2⟩ := hw
  refine ⟨fun k hk => ?_, fun k hk he y hy => ?_, fun k hk he y hy => ?_, fun q hq => ?_, ?_, ?_, fun j hj => ?_, ?_, ?_, fun j hj => ?_, ?_, fun q => q.elim⟩
  · rw [← h.ex k hk]; unfold lIs; rw [w0 0 (by omega)]
  · rw [w1 _ (by omega)]; exact h.row k hk he y hy
  · rw [w2 _ (by omega)]; exact h.rob k hk he y hy
  · rw [w0 1 (by omega)]; exact h.opn q hq
  · rw [w0 2 (by omega)]; exact h.time
  · rw [w0 3 (by omega)]; exact h.day
  · rw [w0 _ (by omega)]; exact h.set j hj
  · rw [w0 6 (by omega)]; exact h.shf
  · rw [w0 7 (by omega)]; exact h.qrl
  · rw [w0 _ (by omega)]; exact h.dwn j hj
  · rw [w0 12 (by omega)]; exact h.siz
theorem RelL.uRow {b : Prop} {c v : cSt} (h : RelL b c v) {k y : Nat} {x : Int32} (hk : k < 16) (h1 : 1 ≤ y) (h4 : y < 4) : RelL b (cW c (2 + y) k x) (cW v 1 (4 * k + y) x) := by
  refine ⟨fun q hq => ?_, fun q hq he y' hy' => ?_, fun q hq he y' hy' => ?_, fun q hq => ?_, ?_, ?_, fun j' hj' => ?_, ?_, ?_, fun j' hj' => ?_, ?_, fun hb q hq hs => ?_⟩
  · unfold lIs cEx
    simp (disch := omega) only [cWr, cWn, zU_ne, zU_at]
    exact h.ex q hq
  · simp (disch := omega) only [cWn] at he
    by_cases hy : y' = y
    · subst hy
      by_cases hc : q = k
      · subst hc; simp (disch := omega) only [cWr, cWn, zU_ne, zU_at]
      · simp (disch := omega) only [cWr, cWn, zU_ne, zU_at]; exact h.row q hq he y' hy'
    · simp (disch := omega) only [cWr, cWn, zU_ne, zU_at]; exact h.row q hq he y' hy'
  · simp (disch := omega) only [cWn] at he
    simp (disch := omega) only [cWr, cWn, zU_ne, zU_at]
    exact h.rob q hq he y' hy'
  · simp (disch := omega) only [cWr, cWn, zU_ne, zU_at]
    exact h.opn q hq
  · simp (disch := omega) only [cWr, cWn, zU_ne, zU_at]
    exact h.time
  · simp (disch := omega) only [cWr, cWn, zU_ne, zU_at]
    exact h.day
  · simp (disch := omega) only [cWr, cWn, zU_ne, zU_at]
    exact h.set j' hj'
  · simp (disch := omega) only [cWr, cWn, zU_ne, zU_at]
    exact h.shf
  · simp (disch := omega) only [cWr, cWn, zU_ne, zU_at]
    exact h.qrl
  · simp (disch := omega) only [cWr, cWn, zU_ne, zU_at]
    exact h.dwn j' hj'
  · simp (disch := omega) only [cWr, cWn, zU_ne, zU_at]
    exact h.siz
  · simp (disch := omega) only [cWn] at hs
    simp (disch := omega) only [cWr, cWn, zU_ne, zU_at]
    exact h.who hb q hq hs
theorem RelL.uRob {b : Prop} {c v : cSt} (h : RelL b c v) {k y : Nat} {x : Int32} (hk : k < 16) (h4 : y < 4) : RelL b (cW c (6 + y) k x) (cW v 2 (4 * k + y) x) := by
  refine ⟨fun q hq => ?_, fun q hq he y' hy' => ?_, fun q hq he y' hy' => ?_, fun q hq => ?_, ?_, ?_, fun j' hj' => ?_, ?_, ?_, fun j' hj' => ?_, ?_, fun hb q hq hs => ?_⟩
  · unfold lIs cEx
    simp (disch := omega) only [cWr, cWn, zU_ne, zU_at]
    exact h.ex q hq
  · simp (disch := omega) only [cWn] at he
    simp (disch := omega) only [cWr, cWn, zU_ne, zU_at]
    exact h.row q hq he y' hy'
  · simp (disch := omega) only [cWn] at he
    by_cases hy : y' = y
    · subst hy
      by_cases hc : q = k
      · subst hc; simp (disch := omega) only [cWr, cWn, zU_ne, zU_at]
      · simp (disch := omega) only [cWr, cWn, zU_ne, zU_at]; exact h.rob q hq he y' hy'
    · simp (disch := omega) only [cWr, cWn, zU_ne, zU_at]; exact h.rob q hq he y' hy'
  · simp (disch := omega) only [cWr, cWn, zU_ne, zU_at]
    exact h.opn q hq
  · simp (disch := omega) only [cWr, cWn, zU_ne, zU_at]
    exact h.time
  · simp (disch := omega) only [cWr, cWn, zU_ne, zU_at]
    exact h.day
  · simp (disch := omega) only [cWr, cWn, zU_ne, zU_at]
    exact h.set j' hj'
  · simp (disch := omega) only [cWr, cWn, zU_ne, zU_at]
    exact h.shf
  · simp (disch := omega) only [cWr, cWn, zU_ne, zU_at]
    exact h.qrl
  · simp (disch := omega) only [cWr, cWn, zU_ne, zU_at]
    exact h.dwn j' hj'
  · simp (disch := omega) only [cWr, cWn, zU_ne, zU_at]
    exact h.siz
  · simp (disch := omega) only [cWn] at hs
    simp (disch := omega) only [cWr, cWn, zU_ne, zU_at]
    exact h.who hb q hq hs
theorem RelL.uTime {b : Prop} {c v : cSt} (h : RelL b c v) {x : Int32} : RelL b (cW c 0 7 x) (cW v 0 2 x) := by
  refine ⟨fun q hq => ?_, fun q hq he y' hy' => ?_, fun q hq he y' hy' => ?_, fun q hq => ?_, ?_, ?_, fun j' hj' => ?_, ?_, ?_, fun j' hj' => ?_, ?_, fun hb q hq hs => ?_⟩
  · unfold lIs cEx
    simp (disch := omega) only [cWr, cWn, zU_ne, zU_at]
    exact h.ex q hq
  · simp (disch := omega) only [cWn] at he
    simp (disch := omega) only [cWr, cWn, zU_ne, zU_at]
    exact h.row q hq he y' hy'
  · simp (disch := omega) only [cWn] at he
    simp (disch := omega) only [cWr, cWn, zU_ne, zU_at]
    exact h.rob q hq he y' hy'
  · simp (disch := omega) only [cWr, cWn, zU_ne, zU_at]
    exact h.opn q hq
  · simp (disch := omega) only [cWr, cWn, zU_ne, zU_at]
  · simp (disch := omega) only [cWr, cWn, zU_ne, zU_at]
    exact h.day
  · simp (disch := omega) only [cWr, cWn, zU_ne, zU_at]
    exact h.set j' hj'
  · simp (disch := omega) only [cWr, cWn, zU_ne, zU_at]
    exact h.shf
  · simp (disch := omega) only [cWr, cWn, zU_ne, zU_at]
    exact h.qrl
  · simp (disch := omega) only [cWr, cWn, zU_ne, zU_at]
    exact h.dwn j' hj'
  · simp (disch := omega) only [cWr, cWn, zU_ne, zU_at]
    exact h.siz
  · simp (disch := omega) only [cWn] at hs
    simp (disch := omega) only [cWr, cWn, zU_ne, zU_at]
    exact h.who hb q hq hs
theorem RelL.uDay {b : Prop} {c v : cSt} (h : RelL b c v) {x : Int32} : RelL b (cW c 0 6 x) (cW v 0 3 x) := by
  refine ⟨fun q hq => ?_, fun q hq he y' hy' => ?_, fun q hq he y' hy' => ?_, fun q hq => ?_, ?_, ?_, fun j' hj' => ?_, ?_, ?_, fun j' hj' => ?_, ?_, fun hb q hq hs => ?_⟩
  · unfold lIs cEx
    simp (disch := omega) only [cWr, cWn, zU_ne, zU_at]
    exact h.ex q hq
  · simp (disch := omega) only [cWn] at he
    simp (disch := omega) only [cWr, cWn, zU_ne, zU_at]
    exact h.row q hq he y' hy'
  · simp (disch := omega) only [cWn] at he
    simp (disch := omega) only [cWr, cWn, zU_ne, zU_at]
    exact h.rob q hq he y' hy'
  · simp (disch := omega) only [cWr, cWn, zU_ne, zU_at]
    exact h.opn q hq
  · simp (disch := omega) only [cWr, cWn, zU_ne, zU_at]
    exact h.time
  · simp (disch := omega) only [cWr, cWn, zU_ne, zU_at]
  · simp (disch := omega) only [cWr, cWn, zU_ne, zU_at]
    exact h.set j' hj'
  · simp (disch := omega) only [cWr, cWn, zU_ne, zU_at]
    exact h.shf
  · simp (disch := omega) only [cWr, cWn, zU_ne, zU_at]
    exact h.qrl
  · simp (disch := omega) only [cWr, cWn, zU_ne, zU_at]
    exact h.dwn j' hj'
  · simp (disch := omega) only [cWr, cWn, zU_ne, zU_at]
    exact h.siz
  · simp (disch := omega) only [cWn] at hs
    simp (disch := omega) only [cWr, cWn, zU_ne, zU_at]
    exact h.who hb q hq hs
theorem RelL.uShf {b : Prop} {c v : cSt} (h : RelL b c v) {x : Int32} : RelL b (cW c 0 8 x) (cW v 0 6 x) := by
  refine ⟨fun q hq => ?_, fun q hq he y' hy' => ?_, fun q hq he y' hy' => ?_, fun q hq => ?_, ?_, ?_, fun j' hj' => ?_, ?_, ?_, fun j' hj' => ?_, ?_, fun hb q hq hs => ?_⟩
  · unfold lIs cEx
    simp (disch := omega) only [cWr, cWn, zU_ne, zU_at]
    exact h.ex q hq
  · simp (disch := omega) only [cWn] at he
    simp (disch := omega) only [cWr, cWn, zU_ne, zU_at]
    exact h.row q hq he y' hy'
  · simp (disch := omega) only [cWn] at he
    simp (disch := omega) only [cWr, cWn, zU_ne, zU_at]
    exact h.rob q hq he y' hy'
  · simp (disch := omega) only [cWr, cWn, zU_ne, zU_at]
    exact h.opn q hq
  · simp (disch := omega) only [cWr, cWn, zU_ne, zU_at]
    exact h.time
  · simp (disch := omega) only [cWr, cWn, zU_ne, zU_at]
    exact h.day
  · simp (disch := omega) only [cWr, cWn, zU_ne, zU_at]
    exact h.set j' hj'
  · simp (disch := omega) only [cWr, cWn, zU_ne, zU_at]
  · simp (disch := omega) only [cWr, cWn, zU_ne, zU_at]
    exact h.qrl
  · simp (disch := omega) only [cWr, cWn, zU_ne, zU_at]
    exact h.dwn j' hj'
  · simp (disch := omega) only [cWr, cWn, zU_ne, zU_at]
    exact h.siz
  · simp (disch := omega) only [cWn] at hs
    simp (disch := omega) only [cWr, cWn, zU_ne, zU_at]
    exact h.who hb q hq hs
theorem RelL.uQrl {b : Prop} {c v : cSt} (h : RelL b c v) {x : Int32} : RelL b (cW c 0 9 x) (cW v 0 7 x) := by
  refine ⟨fun q hq => ?_, fun q hq he y' hy' => ?_, fun q hq he y' hy' => ?_, fun q hq => ?_, ?_, ?_, fun j' hj' => ?_, ?_, ?_, fun j' hj' => ?_, ?_, fun hb q hq hs => ?_⟩
  · unfold lIs cEx
    simp (disch := omega) only [cWr, cWn, zU_ne, zU_at]
    exact h.ex q hq
  · simp (disch := omega) only [cWn] at he
    simp (disch := omega) only [cWr, cWn, zU_ne, zU_at]
    exact h.row q hq he y' hy'
  · simp (disch := omega) only [cWn] at he
    simp (disch := omega) only [cWr, cWn, zU_ne, zU_at]
    exact h.rob q hq he y' hy'
  · simp (disch := omega) only [cWr, cWn, zU_ne, zU_at]
    exact h.opn q hq
  · simp (disch := omega) only [cWr, cWn, zU_ne, zU_at]
    exact h.time
  · simp (disch := omega) only [cWr, cWn, zU_ne, zU_at]
    exact h.day
  · simp (disch := omega) only [cWr, cWn, zU_ne, zU_at]
    exact h.set j' hj'
  · simp (disch := omega) only [cWr, cWn, zU_ne, zU_at]
    exact h.shf
  · simp (disch := omega) only [cWr, cWn, zU_ne, zU_at]
  · simp (disch := omega) only [cWr, cWn, zU_ne, zU_at]
    exact h.dwn j' hj'
  · simp (disch := omega) only [cWr, cWn, zU_ne, zU_at]
    exact h.siz
  · simp (disch := omega) only [cWn] at hs
    simp (disch := omega) only [cWr, cWn, zU_ne, zU_at]
    exact h.who hb q hq hs
theorem RelL.uSet {b : Prop} {c v : cSt} (h : RelL b c v) {j : Nat} {x : Int32} (hj : j < 2) : RelL b (cW c 14 j x) (cW v 0 (4 + j) x) := by
  refine ⟨fun q hq => ?_, fun q hq he y' hy' => ?_, fun q hq he y' hy' => ?_, fun q hq => ?_, ?_, ?_, fun j' hj' => ?_, ?_, ?_, fun j' hj' => ?_, ?_, fun hb q hq hs => ?_⟩
  · unfold lIs cEx
    simp (disch := omega) only [cWr, cWn, zU_ne, zU_at]
    exact h.ex q hq
  · simp (disch := omega) only [cWn] at he
    simp (disch := omega) only [cWr, cWn, zU_ne, zU_at]
    exact h.row q hq he y' hy'
  · simp (disch := omega) only [cWn] at he
    simp (disch := omega) only [cWr, cWn, zU_ne, zU_at]
    exact h.rob q hq he y' hy'
  · simp (disch := omega) only [cWr, cWn, zU_ne, zU_at]
    exact h.opn q hq
  · simp (disch := omega) only [cWr, cWn, zU_ne, zU_at]
    exact h.time
  · simp (disch := omega) only [cWr, cWn, zU_ne, zU_at]
    exact h.day
  · by_cases hc : j' = j
    · subst hc; simp (disch := omega) only [cWr, cWn, zU_ne, zU_at]
    · simp (disch := omega) only [cWr, cWn, zU_ne, zU_at]; exact h.set j' hj'
  · simp (disch := omega) only [cWr, cWn, zU_ne, zU_at]
    exact h.shf
  · simp (disch := omega) only [cWr, cWn, zU_ne, zU_at]
    exact h.qrl
  · simp (disch := omega) only [cWr, cWn, zU_ne, zU_at]
    exact h.dwn j' hj'
  · simp (disch := omega) only [cWr, cWn, zU_ne, zU_at]
    exact h.siz
  · simp (disch := omega) only [cWn] at hs
    simp (disch := omega) only [cWr, cWn, zU_ne, zU_at]
    exact h.who hb q hq hs
theorem RelL.uDwn {b : Prop} {c v : cSt} (h : RelL b c v) {j : Nat} {x : Int32} (hj : j < 4) : RelL b (cW c 15 j x) (cW v 0 (8 + j) x) := by
  refine ⟨fun q hq => ?_, fun q hq he y' hy' => ?_, fun q hq he y' hy' => ?_, fun q hq => ?_, ?_, ?_, fun j' hj' => ?_, ?_, ?_, fun j' hj' => ?_, ?_, fun hb q hq hs => ?_⟩
  · unfold lIs cEx
    simp (disch := omega) only [cWr, cWn, zU_ne, zU_at]
    exact h.ex q hq
  · simp (disch := omega) only [cWn] at he
    simp (disch := omega) only [cWr, cWn, zU_ne, zU_at]
    exact h.row q hq he y' hy'
  · simp (disch := omega) only [cWn] at he
    simp (disch := omega) only [cWr, cWn, zU_ne, zU_at]
    exact h.rob q hq he y' hy'
  · simp (disch := omega) only [cWr, cWn, zU_ne, zU_at]
    exact h.opn q hq
  · simp (disch := omega) only [cWr, cWn, zU_ne, zU_at]
    exact h.time
  · simp (disch := omega) only [cWr, cWn, zU_ne, zU_at]
    exact h.day
  · simp (disch := omega) only [cWr, cWn, zU_ne, zU_at]
    exact h.set j' hj'
  · simp (disch := omega) only [cWr, cWn, zU_ne, zU_at]
    exact h.shf
  · simp (disch := omega) only [cWr, cWn, zU_ne, zU_at]
    exact h.qrl
  · by_cases hc : j' = j
    · subst hc; simp (disch := omega) only [cWr, cWn, zU_ne, zU_at]
    · simp (disch := omega) only [cWr, cWn, zU_ne, zU_at]; exact h.dwn j' hj'
  · simp (disch := omega) only [cWr, cWn, zU_ne, zU_at]
    exact h.siz
  · simp (disch := omega) only [cWn] at hs
    simp (disch := omega) only [cWr, cWn, zU_ne, zU_at]
    exact h.who hb q hq hs
theorem RelL.uSiz0 {b : Prop} {c v : cSt} (h : RelL b c v)  : RelL b (cW c 17 2 0) (cW v 0 12 0) := by
  refine ⟨fun q hq => ?_, fun q hq he y' hy' => ?_, fun q hq he y' hy' => ?_, fun q hq => ?_, ?_, ?_, fun j' hj' => ?_, ?_, ?_, fun j' hj' => ?_, ?_, fun hb q hq hs => ?_⟩
  · unfold lIs cEx
    simp (disch := omega) only [cWr, cWn, zU_ne, zU_at]
    exact h.ex q hq
  · simp (disch := omega) only [cWn] at he
    simp (disch := omega) only [cWr, cWn, zU_ne, zU_at]
    exact h.row q hq he y' hy'
  · simp (disch := omega) only [cWn] at he
    simp (disch := omega) only [cWr, cWn, zU_ne, zU_at]
    exact h.rob q hq he y' hy'
  · simp (disch := omega) only [cWr, cWn, zU_ne, zU_at]
    exact h.opn q hq
  · simp (disch := omega) only [cWr, cWn, zU_ne, zU_at]
    exact h.time
  · simp (disch := omega) only [cWr, cWn, zU_ne, zU_at]
    exact h.day
  · simp (disch := omega) only [cWr, cWn, zU_ne, zU_at]
    exact h.set j' hj'
  · simp (disch := omega) only [cWr, cWn, zU_ne, zU_at]
    exact h.shf
  · simp (disch := omega) only [cWr, cWn, zU_ne, zU_at]
    exact h.qrl
  · simp (disch := omega) only [cWr, cWn, zU_ne, zU_at]
    exact h.dwn j' hj'
  · simp (disch := omega) only [cWr, cWn, zU_ne, zU_at]
  · simp (disch := omega) only [cWr, cWn, zU_ne, zU_at] at hs
    exact absurd hs (nI_nlt (a := q) (b := 0) (by omega) (by omega))
theorem RelL.uRest {b : Prop} {c v : cSt} (h : RelL b c v) {r j : Nat} {x : Int32} (h1 : r = 11 ∨ r = 12 ∨ r = 16) : RelL b (cW c r j x) (v) := by
  refine ⟨fun q hq => ?_, fun q hq he y' hy' => ?_, fun q hq he y' hy' => ?_, fun q hq => ?_, ?_, ?_, fun j' hj' => ?_, ?_, ?_, fun j' hj' => ?_, ?_, fun hb q hq hs => ?_⟩
  · unfold lIs cEx
    simp (disch := omega) only [cWr, cWn, zU_ne, zU_at]
    exact h.ex q hq
  · simp (disch := omega) only [cWn] at he
    simp (disch := omega) only [cWr, cWn, zU_ne, zU_at]
    exact h.row q hq he y' hy'
  · simp (disch := omega) only [cWn] at he
    simp (disch := omega) only [cWr, cWn, zU_ne, zU_at]
    exact h.rob q hq he y' hy'
  · simp (disch := omega) only [cWr, cWn, zU_ne, zU_at]
    exact h.opn q hq
  · simp (disch := omega) only [cWr, cWn, zU_ne, zU_at]
    exact h.time
  · simp (disch := omega) only [cWr, cWn, zU_ne, zU_at]
    exact h.day
  · simp (disch := omega) only [cWr, cWn, zU_ne, zU_at]
    exact h.set j' hj'
  · simp (disch := omega) only [cWr, cWn, zU_ne, zU_at]
    exact h.shf
  · simp (disch := omega) only [cWr, cWn, zU_ne, zU_at]
    exact h.qrl
  · simp (disch := omega) only [cWr, cWn, zU_ne, zU_at]
    exact h.dwn j' hj'
  · simp (disch := omega) only [cWr, cWn, zU_ne, zU_at]
    exact h.siz
  · simp (disch := omega) only [cWn] at hs
    simp (disch := omega) only [cWr, cWn, zU_ne, zU_at]
    exact h.who hb q hq hs
theorem RelL.uNote {b : Prop} {c v : cSt} (h : RelL b c v) {s a y : Nat} (ha : a < 16) (hy : y < 25) (hs : c 17 2 = nI s) (h24 : s ≤ 24) : RelL b (cW (cW (cW c 18 s (nI a)) 19 s (nI y)) 17 2 (nI (s + 1))) (cW (cW v 3 s (nI (32 * a + y))) 0 12 (nI (s + 1))) := by
  refine ⟨fun q hq => ?_, fun q hq he y' hy' => ?_, fun q hq he y' hy' => ?_, fun q hq => ?_, ?_, ?_, fun j' hj' => ?_, ?_, ?_, fun j' hj' => ?_, ?_, fun hb q hq hs' => ?_⟩
  · unfold lIs cEx
    simp (disch := omega) only [cWr, cWn, zU_ne, zU_at]
    exact h.ex q hq
  · simp (disch := omega) only [cWn] at he
    simp (disch := omega) only [cWr, cWn, zU_ne, zU_at]
    exact h.row q hq he y' hy'
  · simp (disch := omega) only [cWn] at he
    simp (disch := omega) only [cWr, cWn, zU_ne, zU_at]
    exact h.rob q hq he y' hy'
  · simp (disch := omega) only [cWr, cWn, zU_ne, zU_at]
    exact h.opn q hq
  · simp (disch := omega) only [cWr, cWn, zU_ne, zU_at]
    exact h.time
  · simp (disch := omega) only [cWr, cWn, zU_ne, zU_at]
    exact h.day
  · simp (disch := omega) only [cWr, cWn, zU_ne, zU_at]
    exact h.set j' hj'
  · simp (disch := omega) only [cWr, cWn, zU_ne, zU_at]
    exact h.shf
  · simp (disch := omega) only [cWr, cWn, zU_ne, zU_at]
    exact h.qrl
  · simp (disch := omega) only [cWr, cWn, zU_ne, zU_at]
    exact h.dwn j' hj'
  · simp (disch := omega) only [cWr, cWn, zU_ne, zU_at]
  · simp (disch := omega) only [cWr, zU_at] at hs'
    have hlt : q < s + 1 := (nI_ltI (by omega) (by omega)).mp hs'
    by_cases hc : q = s
    · subst hc
      exact ⟨a, y, ha, hy, by simp (disch := omega) only [cWr, cWn, zU_ne, zU_at], by simp (disch := omega) only [cWr, cWn, zU_ne, zU_at], by simp (disch := omega) only [cWr, cWn, zU_ne, zU_at]⟩
    · obtain ⟨a', y', h1, h2, h3, h4, h5⟩ := h.who hb q hq (by rw [hs]; exact nI_lt (by omega) (by omega))
      exact ⟨a', y', h1, h2, by simp (disch := omega) only [cWr, cWn, zU_ne, zU_at]; exact h3, by simp (disch := omega) only [cWr, cWn, zU_ne, zU_at]; exact h4, by simp (disch := omega) only [cWr, cWn, zU_ne, zU_at]; exact h5⟩
/-! sitters, owners -/
theorem lFst_none {P : Nat → Bool} : ∀ n k, (∀ q, k ≤ q → q < k + n → P q = false) → lFst P n k = -1
  | 0, _, _ => rfl
  | n + 1, k, h => by
    unfold lFst
    rw [h k (Nat.le_refl k) (by omega), if_neg (by decide)]
    exact lFst_none n (k + 1) fun q h1 h2 => h q (by omega) (by omega)
theorem lFst_one {P : Nat → Bool} {j : Nat} : ∀ n k, k ≤ j → j < k + n → P j = true → (∀ q, k ≤ q → q < k + n → P q = true → q = j) → lFst P n k = nI j
  | 0, k, h1, h2, _, _ => absurd h2 (by omega)
  | n + 1, k, h1, h2, hp, hu => by
    unfold lFst
    by_cases hk : P k = true
    · rw [if_pos hk, hu k (Nat.le_refl k) (by omega) hk]
    · rw [if_neg hk]
      have : k ≠ j := fun q => hk (q ▸ hp)
      exact lFst_one n (k + 1) (by omega) (by omega) hp fun q h1 h2 => hu q (by omega) (by omega)
/-- who sits in a hole -/
theorem lsitter {b : Prop} {c v : cSt} (hR : RelL b c v) (hI : Inv 24 c) {h : Nat} (hh : h < 24) : lSits v (nI h) = c 11 h := by
  unfold lSits
  rcases hI.sit h hh (by omega) with e | ⟨k, hk, e, hx, hp⟩
  · rw [e]
    refine lFst_none 16 0 fun q _ hq => ?_
    rw [hR.exs q (by omega)]
    cases he : cEx c (nI q)
    · rfl
    · have he' := cEx_at (by omega) he
      have h3 : v 1 (4 * q + 2) = c 4 q := hR.row q (by omega) he' 2 (by omega)
      rw [h3, Bool.true_and, decide_eq_false_iff_not]
      intro hp
      have := hI.stt q (by omega) he' h hh hp
      rw [e] at this
      exact nI_nm (by omega) this.symm
  · rw [e]
    refine lFst_one 16 0 (by omega) (by omega) ?_ fun q _ hq hp2 => ?_
    · have h3 : v 1 (4 * k + 2) = c 4 k := hR.row k hk hx 2 (by omega)
      rw [hR.exs k hk, (cEx_nI hk).mpr hx, h3, hp]
      simp
    · rw [hR.exs q (by omega), Bool.and_eq_true, decide_eq_true_eq] at hp2
      have he' := cEx_at (by omega) hp2.1
      have h3 : v 1 (4 * q + 2) = c 4 q := hR.row q (by omega) he' 2 (by omega)
      have := hI.stt q (by omega) he' h hh (h3 ▸ hp2.2)
      rw [e] at this
      exact (nI_inj (by omega) (by omega) this).symm
theorem lowner {b : Prop} {c v : cSt} {e : Nat} (hR : RelL b c v) (hI : Inv e c) {h : Nat} (hh : h < 24) : lOwner v (nI h) = c 12 h := by
  unfold lOwner
  rcases hI.wnr h hh with e | ⟨k, hk, e, hp⟩
  · rw [e]
    refine lFst_none 16 0 fun q _ hq => ?_
    rw [hR.exs q (by omega)]
    cases he : cEx c (nI q)
    · rfl
    · have he' := cEx_at (by omega) he
      have h3 : v 1 (4 * q) = c 2 q := hR.row q (by omega) he' 0 (by omega)
      rw [h3, Bool.true_and, decide_eq_false_iff_not]
      intro hp
      have := hI.wnt q (by omega) h hh hp
      rw [e] at this
      exact nI_nm (by omega) this.symm
  · rw [e]
    have hx : ¬ c 2 k = -1 := by rw [hp]; exact nI_nm (by omega)
    refine lFst_one 16 0 (by omega) (by omega) ?_ fun q _ hq hp2 => ?_
    · have h3 : v 1 (4 * k) = c 2 k := hR.row k hk hx 0 (by omega)
      rw [hR.exs k hk, (cEx_nI hk).mpr hx, h3, hp]
      simp
    · rw [hR.exs q (by omega), Bool.and_eq_true, decide_eq_true_eq] at hp2
      have he' := cEx_at (by omega) hp2.1
      have h3 : v 1 (4 * q) = c 2 q := hR.row q (by omega) he' 0 (by omega)
      have := hI.wnt q (by omega) h hh (h3 ▸ hp2.2)
      rw [e] at this
      exact (nI_inj (by omega) (by omega) this).symm
theorem RelL.opens {b : Prop} {c v : cSt} (h : RelL b c v) {k : Nat} (hk : k < 24) : cOpen c (nI k) = !(lBit (v 0 1) k) := by
  have hh : hHole (nI k) = true := (hHole_nI (by omega)).mpr hk
  unfold cOpen
  rw [if_neg (show ¬ hHole (nI k) = false by rw [hh]; decide), ix_nI (by omega), h.opn k hk]
  cases lBit (v 0 1) k <;> rfl
/-! free holes -/
theorem lFreeB_bit {b : Prop} {c v : cSt} (hR : RelL b c v) (hI : Inv 24 c) {h k : Nat} (hh : h < 24) (hk : k < 16) : lBit (lFreeB v k) h = decide (¬ (¬ c 2 k = -1 ∧ c 4 k = nI h)) := by
  unfold lFreeB
  rw [hR.exs k hk]
  cases he : cEx c (nI k)
  · rw [if_neg (by decide), lBit_m1 (by omega)]
    have : c 2 k = -1 := by
      rcases Classical.em (c 2 k = -1) with q | q
      · exact q
      · rw [(cEx_nI hk).mpr q] at he; cases he
    rw [decide_eq_true (p := ¬ (¬ c 2 k = -1 ∧ c 4 k = nI h)) (fun w => w.1 this)]
  · have he' := cEx_at hk he
    have h3 : v 1 (4 * k + 2) = c 4 k := hR.row k hk he' 2 (by omega)
    rw [if_pos rfl, h3]
    rcases hI.plc k hk he' with e | ⟨n, hn, e⟩
    · rw [e, if_pos (by decide), lBit_m1 (by omega)]
      rw [decide_eq_true (p := ¬ (¬ c 2 k = -1 ∧ (-1 : Int32) = nI h)) (fun w => nI_nm (a := h) (by omega) w.2.symm)]
    · rw [e, if_neg (nI_pos (by omega))]
      by_cases h24 : n = 24
      · subst h24
        rw [if_pos (by decide), lBit_m1 (by omega)]
        rw [decide_eq_true (p := ¬ (¬ c 2 k = -1 ∧ nI 24 = nI h)) (fun w => by have := nI_inj (a := 24) (by omega) (by omega) w.2; omega)]
      · rw [if_neg (show ¬ (24 : Int32) ≤ nI n from nI_ge (a := n) (b := 24) (by omega) (by omega)), lBit_not (by omega), lBit_one (by omega)]
        by_cases hc : h = n
        · subst hc
          rw [decide_eq_true (p := h = h) rfl, decide_eq_false (p := ¬ (¬ c 2 k = -1 ∧ nI h = nI h)) (fun w => w ⟨he', rfl⟩)]; rfl
        · rw [decide_eq_false hc, decide_eq_true (p := ¬ (¬ c 2 k = -1 ∧ nI n = nI h)) (fun w => hc (nI_inj (by omega) (by omega) w.2).symm)]; rfl
theorem lFreeN_bit {b : Prop} {c v : cSt} (hR : RelL b c v) (hI : Inv 24 c) {h : Nat} (hh : h < 24) : ∀ n, n ≤ 16 → (lBit (lFreeN v n) h = true ↔ lBit (v 0 1) h = false ∧ ∀ k, k < n → ¬ (¬ c 2 k = -1 ∧ c 4 k = nI h))
  | 0, _ => by
    unfold lFreeN
    have hb : ∀ q, q < 24 → lBit 16777215 q = true := by decide +kernel
    rw [lBit_and, hb h hh, Bool.true_and, lBit_not (by omega)]
    cases lBit (v 0 1) h
    · exact ⟨fun _ => ⟨rfl, fun k hk => absurd hk (by omega)⟩, fun _ => rfl⟩
    · exact ⟨fun q => (by cases q), fun q => (by cases q.1)⟩
  | n + 1, hn => by
    unfold lFreeN
    rw [lBit_and, Bool.and_eq_true, lFreeN_bit hR hI hh n (by omega), lFreeB_bit hR hI hh (by omega), decide_eq_true_eq]
    constructor
    · intro ⟨⟨h1, h2⟩, h3⟩
      refine ⟨h1, fun k hk => ?_⟩
      by_cases hc : k = n
      · rw [hc]; exact h3
      · exact h2 k (by omega)
    · intro ⟨h1, h2⟩
      exact ⟨⟨h1, fun k hk => h2 k (by omega)⟩, h2 n (by omega)⟩
theorem lFree_bit {b : Prop} {c v : cSt} (hR : RelL b c v) (hI : Inv 24 c) {h : Nat} (hh : h < 24) : lBit (lFree v) h = cFree c (nI h) := by
  rw [Bool.eq_iff_iff]
  unfold lFree
  rw [lFreeN_bit hR hI hh 16 (Nat.le_refl 16)]
  unfold cFree
  rw [hR.opens hh, ix_nI (by omega)]
  cases lBit (v 0 1) h
  · rw [if_neg (by decide)]
    rcases hI.sit h hh (by omega) with e | ⟨k, hk, e, hx, hp⟩
    · rw [e, if_pos rfl]
      refine ⟨fun _ => rfl, fun _ => ⟨rfl, fun k hk w => ?_⟩⟩
      have := hI.stt k hk w.1 h hh w.2
      rw [e] at this
      exact nI_nm (a := k) (by omega) this.symm
    · rw [e, if_neg (nI_nm (by omega))]
      exact ⟨fun q => absurd ⟨hx, hp⟩ (q.2 k hk), fun q => (by cases q)⟩
  · rw [if_pos (by decide)]
    exact ⟨fun q => (by cases q.1), fun q => (by cases q)⟩
/-! looks -/
theorem far1 : ∀ h, h < 24 → ∀ q, q < 24 → ((nI h - nI q) * (nI h - nI q) = 1 ↔ (h + 1 = q ∨ h = q + 1)) := by decide +kernel
theorem cFree_m1 {c : cSt} : cFree c (-1) = false := rfl
theorem cFree_24 {c : cSt} : cFree c 24 = false := rfl
theorem lNear_eq {b : Prop} {c v : cSt} (hR : RelL b c v) (hI : Inv 24 c) {q : Nat} (hq : q < 24) (R : Int32) : ∀ n h, h + n = 24 →
    lNear (lFree v) (nI q) R n h = if h < q ∧ cFree c (nI q - 1) = true then nI q - 1 else if h ≤ q + 1 ∧ cFree c (nI q + 1) = true then nI q + 1 else R
  | 0, h, hh => by
    obtain rfl : h = 24 := by omega
    rw [if_neg (by omega), if_neg]
    · rfl
    · intro ⟨h1, h2⟩
      obtain rfl : q = 23 := by omega
      exact absurd h2 (by rw [show nI 23 + 1 = (24 : Int32) from rfl, cFree_24]; decide)
  | n + 1, h, hh => by
    unfold lNear
    have ih := lNear_eq hR hI hq R n (h + 1) (by omega)
    rw [ih, lFree_bit hR hI (by omega)]
    by_cases h1 : h + 1 = q
    · rw [if_pos ((far1 h (by omega) q hq).mpr (Or.inl h1))]
      have e : nI h = nI q - 1 := by rw [← h1]; exact (nI_pred h).symm
      rw [e]
      generalize cFree c (nI q - 1) = A
      generalize cFree c (nI q + 1) = B
      cases A <;> cases B <;> simp only [Bool.false_eq_true, and_false, and_true, if_false, if_true] <;> (repeat' split) <;> first | rfl | omega
    · by_cases h2 : h = q + 1
      · rw [if_pos ((far1 h (by omega) q hq).mpr (Or.inr h2))]
        have e : nI h = nI q + 1 := by rw [h2]; exact (nI_1 q).symm
        rw [e]
        generalize cFree c (nI q - 1) = A
        generalize cFree c (nI q + 1) = B
        cases A <;> cases B <;> simp only [Bool.false_eq_true, and_false, and_true, if_false, if_true] <;> (repeat' split) <;> first | rfl | omega
      · rw [if_neg (fun w => by rcases (far1 h (by omega) q hq).mp w with r | r; exact h1 r; exact h2 r)]
        generalize cFree c (nI q - 1) = A
        generalize cFree c (nI q + 1) = B
        cases A <;> cases B <;> simp only [Bool.false_eq_true, and_false, and_true, if_false, if_true] <;> (repeat' split) <;> first | rfl | omega
theorem lRing_eq {b : Prop} {c v : cSt} (hR : RelL b c v) (hI : Inv 24 c) {k w0 : Nat} (hk : k < 16) (hw : c 2 k = nI w0) (hw0 : w0 < 24) : ∀ n j, n + j ≤ 25 → lRing (lFree v) n ((w0 + j) % 24) = cFreeL c (nI k) n j
  | 0, _, _ => rfl
  | n + 1, j, hj => by
    have hm : (w0 + j) % 24 < 24 := Nat.mod_lt _ (by omega)
    have e : cHk c (nI k) (nI j) = nI ((w0 + j) % 24) := by
      unfold cHk
      rw [ix_nI (by omega), hw, rem24 hw0 (by omega)]
    unfold lRing cFreeL
    rw [lFree_bit hR hI hm, e]
    have ih := lRing_eq hR hI hk hw hw0 n (j + 1) (by omega)
    by_cases hf : cFree c (nI ((w0 + j) % 24)) = true
    · rw [if_pos hf, if_pos hf]
    · rw [if_neg hf, if_neg hf, ← ih]
      by_cases h23 : (w0 + j) % 24 = 23
      · rw [if_pos h23, show (w0 + (j + 1)) % 24 = 0 by omega]
      · rw [if_neg h23, show (w0 + (j + 1)) % 24 = (w0 + j) % 24 + 1 by omega]
theorem look_sim {b : Prop} {c v : cSt} (hR : RelL b c v) (hI : Inv 24 c) {k : Nat} (hk : k < 16) (he : ¬ c 2 k = -1) : lLook v k = cFirst c (nI k) := by
  obtain ⟨w0, hw0, ew⟩ := hI.own k hk he
  have h2 : v 1 (4 * k) = c 2 k := hR.row k hk he 0 (by omega)
  have h5 : v 1 (4 * k + 3) = c 5 k := hR.row k hk he 3 (by omega)
  have hr : lRing (lFree v) 24 (ix (v 1 (4 * k))) = cFreeL c (nI k) 24 0 := by
    rw [h2, ew, ix_nI (by omega)]
    have := lRing_eq hR hI hk ew hw0 24 0 (by omega)
    rwa [Nat.add_zero, Nat.mod_eq_of_lt hw0] at this
  have hp : lPl v k = cMP c (nI k) := by
    unfold lPl cMP
    rw [h5, ix_nI (by omega)]
    rcases hI.mat k hk he with e | ⟨m, hm, e, hx, -, -⟩
    · rw [e, cEx_m1, if_neg (by decide), if_neg (by decide)]
    · have h3 : v 1 (4 * m + 2) = c 4 m := hR.row m hm hx 2 (by omega)
      rw [e, (cEx_nI hm).mpr hx, if_pos (nI_pos' (by omega)), ix_nI (by omega), h3, if_pos rfl]
  unfold lLook cFirst
  rw [hr, hp]
  have hcases : cMP c (nI k) = -1 ∨ ∃ n, n < 25 ∧ cMP c (nI k) = nI n := by
    unfold cMP
    rw [ix_nI (by omega)]
    rcases hI.mat k hk he with e | ⟨m, hm, e, hx, -, -⟩
    · rw [e, cEx_m1, if_neg (by decide)]; exact Or.inl rfl
    · rw [e, (cEx_nI hm).mpr hx, if_pos rfl, ix_nI (by omega)]; exact hI.plc m hm hx
  rcases hcases with e | ⟨n, hn, e⟩
  · rw [e, if_pos (by decide), if_neg (by decide)]
  · rw [e, if_neg (nI_pos (by omega))]
    by_cases h24 : n = 24
    · subst h24
      rw [if_pos (by decide), if_neg (by decide)]
    · rw [if_neg (show ¬ (24 : Int32) ≤ nI n from nI_ge (a := n) (b := 24) (by omega) (by omega)), if_pos ((hHole_nI (by omega)).mpr (by omega)), lNear_eq hR hI (by omega) _ 24 0 (by omega)]
      by_cases h1 : cFree c (nI n - 1) = true
      · have hn0 : 0 < n := by
          rcases Nat.eq_zero_or_pos n with q | q
          · subst q; rw [show nI 0 - 1 = (-1 : Int32) from rfl, cFree_m1] at h1; cases h1
          · exact q
        rw [if_pos ⟨hn0, h1⟩, if_pos h1]
      · rw [if_neg (fun w => h1 w.2), if_neg h1]
        by_cases h2 : cFree c (nI n + 1) = true
        · rw [if_pos ⟨by omega, h2⟩, if_pos h2]
        · rw [if_neg (fun w => h2 w.2), if_neg h2]
