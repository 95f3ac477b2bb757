/-! the relation under single writes -/
theorem Rel.uRow {c : cSt} {z : Nat → Int32} (h : Rel c z) {k y : Nat} {v : Int32} (hk : k < 16) (h1 : 1 ≤ y) (h8 : y < 8) : Rel (cW c (2 + y) k v) (zU z (9 * k + (1 + y)) v) := by
  refine ⟨fun q hq => ?_, fun q hq he y' hy' => ?_, fun q hq => ?_, ?_, ?_, fun j' hj' => ?_, ?_, ?_, fun j' hj' => ?_, fun j' hj' => ?_, ?_, fun q hq hs => ?_⟩
  · simp (disch := omega) only [cWr, cWn, zU_ne, zU_at]
    exact h.ex q hq
  · simp (disch := omega) only [cWn] at he
    by_cases hy : y' = y
    · subst hy
      by_cases hc : q = k
      · subst hc; simp (disch := omega) only [cWr, cWn, zU_ne, zU_at]
      · simp (disch := omega) only [cWr, cWn, zU_ne, zU_at]; exact h.row q hq he y' hy'
    · simp (disch := omega) only [cWr, cWn, zU_ne, zU_at]; exact h.row q hq he y' hy'
  · simp (disch := omega) only [cWr, cWn, zU_ne, zU_at]
    exact h.opn q hq
  · simp (disch := omega) only [cWr, cWn, zU_ne, zU_at]
    exact h.time
  · simp (disch := omega) only [cWr, cWn, zU_ne, zU_at]
    exact h.day
  · simp (disch := omega) only [cWr, cWn, zU_ne, zU_at]
    exact h.set j' hj'
  · simp (disch := omega) only [cWr, cWn, zU_ne, zU_at]
    exact h.shf
  · simp (disch := omega) only [cWr, cWn, zU_ne, zU_at]
    exact h.qrl
  · simp (disch := omega) only [cWr, cWn, zU_ne, zU_at]
    exact h.dwn j' hj'
  · simp (disch := omega) only [cWr, cWn, zU_ne, zU_at]
    exact h.stp j' hj'
  · simp (disch := omega) only [cWr, cWn, zU_ne, zU_at]
    exact h.siz
  · simp (disch := omega) only [cWn] at hs
    simp (disch := omega) only [cWr, cWn, zU_ne, zU_at]
    exact h.who q hq hs
theorem Rel.uTime {c : cSt} {z : Nat → Int32} (h : Rel c z) {v : Int32} : Rel (cW c 0 7 v) (zU z 168 v) := by
  refine ⟨fun q hq => ?_, fun q hq he y' hy' => ?_, fun q hq => ?_, ?_, ?_, fun j' hj' => ?_, ?_, ?_, fun j' hj' => ?_, fun j' hj' => ?_, ?_, fun q hq hs => ?_⟩
  · simp (disch := omega) only [cWr, cWn, zU_ne, zU_at]
    exact h.ex q hq
  · simp (disch := omega) only [cWn] at he
    simp (disch := omega) only [cWr, cWn, zU_ne, zU_at]
    exact h.row q hq he y' hy'
  · simp (disch := omega) only [cWr, cWn, zU_ne, zU_at]
    exact h.opn q hq
  · simp (disch := omega) only [cWr, cWn, zU_ne, zU_at]
  · simp (disch := omega) only [cWr, cWn, zU_ne, zU_at]
    exact h.day
  · simp (disch := omega) only [cWr, cWn, zU_ne, zU_at]
    exact h.set j' hj'
  · simp (disch := omega) only [cWr, cWn, zU_ne, zU_at]
    exact h.shf
  · simp (disch := omega) only [cWr, cWn, zU_ne, zU_at]
    exact h.qrl
  · simp (disch := omega) only [cWr, cWn, zU_ne, zU_at]
    exact h.dwn j' hj'
  · simp (disch := omega) only [cWr, cWn, zU_ne, zU_at]
    exact h.stp j' hj'
  · simp (disch := omega) only [cWr, cWn, zU_ne, zU_at]
    exact h.siz
  · simp (disch := omega) only [cWn] at hs
    simp (disch := omega) only [cWr, cWn, zU_ne, zU_at]
    exact h.who q hq hs
theorem Rel.uDay {c : cSt} {z : Nat → Int32} (h : Rel c z) {v : Int32} : Rel (cW c 0 6 v) (zU z 169 v) := by
  refine ⟨fun q hq => ?_, fun q hq he y' hy' => ?_, fun q hq => ?_, ?_, ?_, fun j' hj' => ?_, ?_, ?_, fun j' hj' => ?_, fun j' hj' => ?_, ?_, fun q hq hs => ?_⟩
  · simp (disch := omega) only [cWr, cWn, zU_ne, zU_at]
    exact h.ex q hq
  · simp (disch := omega) only [cWn] at he
    simp (disch := omega) only [cWr, cWn, zU_ne, zU_at]
    exact h.row q hq he y' hy'
  · simp (disch := omega) only [cWr, cWn, zU_ne, zU_at]
    exact h.opn q hq
  · simp (disch := omega) only [cWr, cWn, zU_ne, zU_at]
    exact h.time
  · simp (disch := omega) only [cWr, cWn, zU_ne, zU_at]
  · simp (disch := omega) only [cWr, cWn, zU_ne, zU_at]
    exact h.set j' hj'
  · simp (disch := omega) only [cWr, cWn, zU_ne, zU_at]
    exact h.shf
  · simp (disch := omega) only [cWr, cWn, zU_ne, zU_at]
    exact h.qrl
  · simp (disch := omega) only [cWr, cWn, zU_ne, zU_at]
    exact h.dwn j' hj'
  · simp (disch := omega) only [cWr, cWn, zU_ne, zU_at]
    exact h.stp j' hj'
  · simp (disch := omega) only [cWr, cWn, zU_ne, zU_at]
    exact h.siz
  · simp (disch := omega) only [cWn] at hs
    simp (disch := omega) only [cWr, cWn, zU_ne, zU_at]
    exact h.who q hq hs
theorem Rel.uShf {c : cSt} {z : Nat → Int32} (h : Rel c z) {v : Int32} : Rel (cW c 0 8 v) (zU z 172 v) := by
  refine ⟨fun q hq => ?_, fun q hq he y' hy' => ?_, fun q hq => ?_, ?_, ?_, fun j' hj' => ?_, ?_, ?_, fun j' hj' => ?_, fun j' hj' => ?_, ?_, fun q hq hs => ?_⟩
  · simp (disch := omega) only [cWr, cWn, zU_ne, zU_at]
    exact h.ex q hq
  · simp (disch := omega) only [cWn] at he
    simp (disch := omega) only [cWr, cWn, zU_ne, zU_at]
    exact h.row q hq he y' hy'
  · simp (disch := omega) only [cWr, cWn, zU_ne, zU_at]
    exact h.opn q hq
  · simp (disch := omega) only [cWr, cWn, zU_ne, zU_at]
    exact h.time
  · simp (disch := omega) only [cWr, cWn, zU_ne, zU_at]
    exact h.day
  · simp (disch := omega) only [cWr, cWn, zU_ne, zU_at]
    exact h.set j' hj'
  · simp (disch := omega) only [cWr, cWn, zU_ne, zU_at]
  · simp (disch := omega) only [cWr, cWn, zU_ne, zU_at]
    exact h.qrl
  · simp (disch := omega) only [cWr, cWn, zU_ne, zU_at]
    exact h.dwn j' hj'
  · simp (disch := omega) only [cWr, cWn, zU_ne, zU_at]
    exact h.stp j' hj'
  · simp (disch := omega) only [cWr, cWn, zU_ne, zU_at]
    exact h.siz
  · simp (disch := omega) only [cWn] at hs
    simp (disch := omega) only [cWr, cWn, zU_ne, zU_at]
    exact h.who q hq hs
theorem Rel.uQrl {c : cSt} {z : Nat → Int32} (h : Rel c z) {v : Int32} : Rel (cW c 0 9 v) (zU z 173 v) := by
  refine ⟨fun q hq => ?_, fun q hq he y' hy' => ?_, fun q hq => ?_, ?_, ?_, fun j' hj' => ?_, ?_, ?_, fun j' hj' => ?_, fun j' hj' => ?_, ?_, fun q hq hs => ?_⟩
  · simp (disch := omega) only [cWr, cWn, zU_ne, zU_at]
    exact h.ex q hq
  · simp (disch := omega) only [cWn] at he
    simp (disch := omega) only [cWr, cWn, zU_ne, zU_at]
    exact h.row q hq he y' hy'
  · simp (disch := omega) only [cWr, cWn, zU_ne, zU_at]
    exact h.opn q hq
  · simp (disch := omega) only [cWr, cWn, zU_ne, zU_at]
    exact h.time
  · simp (disch := omega) only [cWr, cWn, zU_ne, zU_at]
    exact h.day
  · simp (disch := omega) only [cWr, cWn, zU_ne, zU_at]
    exact h.set j' hj'
  · simp (disch := omega) only [cWr, cWn, zU_ne, zU_at]
    exact h.shf
  · simp (disch := omega) only [cWr, cWn, zU_ne, zU_at]
  · simp (disch := omega) only [cWr, cWn, zU_ne, zU_at]
    exact h.dwn j' hj'
  · simp (disch := omega) only [cWr, cWn, zU_ne, zU_at]
    exact h.stp j' hj'
  · simp (disch := omega) only [cWr, cWn, zU_ne, zU_at]
    exact h.siz
  · simp (disch := omega) only [cWn] at hs
    simp (disch := omega) only [cWr, cWn, zU_ne, zU_at]
    exact h.who q hq hs
theorem Rel.uSet {c : cSt} {z : Nat → Int32} (h : Rel c z) {j : Nat} {v : Int32} (hj : j < 2) : Rel (cW c 14 j v) (zU z (170 + j) v) := by
  refine ⟨fun q hq => ?_, fun q hq he y' hy' => ?_, fun q hq => ?_, ?_, ?_, fun j' hj' => ?_, ?_, ?_, fun j' hj' => ?_, fun j' hj' => ?_, ?_, fun q hq hs => ?_⟩
  · simp (disch := omega) only [cWr, cWn, zU_ne, zU_at]
    exact h.ex q hq
  · simp (disch := omega) only [cWn] at he
    simp (disch := omega) only [cWr, cWn, zU_ne, zU_at]
    exact h.row q hq he y' hy'
  · simp (disch := omega) only [cWr, cWn, zU_ne, zU_at]
    exact h.opn q hq
  · simp (disch := omega) only [cWr, cWn, zU_ne, zU_at]
    exact h.time
  · simp (disch := omega) only [cWr, cWn, zU_ne, zU_at]
    exact h.day
  · by_cases hj0 : j' = j
    · subst hj0; simp (disch := omega) only [cWr, cWn, zU_ne, zU_at]
    · simp (disch := omega) only [cWr, cWn, zU_ne, zU_at]; exact h.set j' hj'
  · simp (disch := omega) only [cWr, cWn, zU_ne, zU_at]
    exact h.shf
  · simp (disch := omega) only [cWr, cWn, zU_ne, zU_at]
    exact h.qrl
  · simp (disch := omega) only [cWr, cWn, zU_ne, zU_at]
    exact h.dwn j' hj'
  · simp (disch := omega) only [cWr, cWn, zU_ne, zU_at]
    exact h.stp j' hj'
  · simp (disch := omega) only [cWr, cWn, zU_ne, zU_at]
    exact h.siz
  · simp (disch := omega) only [cWn] at hs
    simp (disch := omega) only [cWr, cWn, zU_ne, zU_at]
    exact h.who q hq hs
theorem Rel.uDwn {c : cSt} {z : Nat → Int32} (h : Rel c z) {j : Nat} {v : Int32} (hj : j < 4) : Rel (cW c 15 j v) (zU z (174 + j) v) := by
  refine ⟨fun q hq => ?_, fun q hq he y' hy' => ?_, fun q hq => ?_, ?_, ?_, fun j' hj' => ?_, ?_, ?_, fun j' hj' => ?_, fun j' hj' => ?_, ?_, fun q hq hs => ?_⟩
  · simp (disch := omega) only [cWr, cWn, zU_ne, zU_at]
    exact h.ex q hq
  · simp (disch := omega) only [cWn] at he
    simp (disch := omega) only [cWr, cWn, zU_ne, zU_at]
    exact h.row q hq he y' hy'
  · simp (disch := omega) only [cWr, cWn, zU_ne, zU_at]
    exact h.opn q hq
  · simp (disch := omega) only [cWr, cWn, zU_ne, zU_at]
    exact h.time
  · simp (disch := omega) only [cWr, cWn, zU_ne, zU_at]
    exact h.day
  · simp (disch := omega) only [cWr, cWn, zU_ne, zU_at]
    exact h.set j' hj'
  · simp (disch := omega) only [cWr, cWn, zU_ne, zU_at]
    exact h.shf
  · simp (disch := omega) only [cWr, cWn, zU_ne, zU_at]
    exact h.qrl
  · by_cases hj0 : j' = j
    · subst hj0; simp (disch := omega) only [cWr, cWn, zU_ne, zU_at]
    · simp (disch := omega) only [cWr, cWn, zU_ne, zU_at]; exact h.dwn j' hj'
  · simp (disch := omega) only [cWr, cWn, zU_ne, zU_at]
    exact h.stp j' hj'
  · simp (disch := omega) only [cWr, cWn, zU_ne, zU_at]
    exact h.siz
  · simp (disch := omega) only [cWn] at hs
    simp (disch := omega) only [cWr, cWn, zU_ne, zU_at]
    exact h.who q hq hs
theorem Rel.uStp {c : cSt} {z : Nat → Int32} (h : Rel c z) {j : Nat} {v : Int32} (hj : j < 2) : Rel (cW c 16 j v) (zU z (178 + j) v) := by
  refine ⟨fun q hq => ?_, fun q hq he y' hy' => ?_, fun q hq => ?_, ?_, ?_, fun j' hj' => ?_, ?_, ?_, fun j' hj' => ?_, fun j' hj' => ?_, ?_, fun q hq hs => ?_⟩
  · simp (disch := omega) only [cWr, cWn, zU_ne, zU_at]
    exact h.ex q hq
  · simp (disch := omega) only [cWn] at he
    simp (disch := omega) only [cWr, cWn, zU_ne, zU_at]
    exact h.row q hq he y' hy'
  · simp (disch := omega) only [cWr, cWn, zU_ne, zU_at]
    exact h.opn q hq
  · simp (disch := omega) only [cWr, cWn, zU_ne, zU_at]
    exact h.time
  · simp (disch := omega) only [cWr, cWn, zU_ne, zU_at]
    exact h.day
  · simp (disch := omega) only [cWr, cWn, zU_ne, zU_at]
    exact h.set j' hj'
  · simp (disch := omega) only [cWr, cWn, zU_ne, zU_at]
    exact h.shf
  · simp (disch := omega) only [cWr, cWn, zU_ne, zU_at]
    exact h.qrl
  · simp (disch := omega) only [cWr, cWn, zU_ne, zU_at]
    exact h.dwn j' hj'
  · by_cases hj0 : j' = j
    · subst hj0; simp (disch := omega) only [cWr, cWn, zU_ne, zU_at]
    · simp (disch := omega) only [cWr, cWn, zU_ne, zU_at]; exact h.stp j' hj'
  · simp (disch := omega) only [cWr, cWn, zU_ne, zU_at]
    exact h.siz
  · simp (disch := omega) only [cWn] at hs
    simp (disch := omega) only [cWr, cWn, zU_ne, zU_at]
    exact h.who q hq hs
theorem Rel.uSiz0 {c : cSt} {z : Nat → Int32} (h : Rel c z) {v : Int32} (hv : ¬ 0 < v) : Rel (cW c 17 2 v) (zU z 180 v) := by
  refine ⟨fun q hq => ?_, fun q hq he y' hy' => ?_, fun q hq => ?_, ?_, ?_, fun j' hj' => ?_, ?_, ?_, fun j' hj' => ?_, fun j' hj' => ?_, ?_, fun q hq hs => ?_⟩
  · simp (disch := omega) only [cWr, cWn, zU_ne, zU_at]
    exact h.ex q hq
  · simp (disch := omega) only [cWn] at he
    simp (disch := omega) only [cWr, cWn, zU_ne, zU_at]
    exact h.row q hq he y' hy'
  · simp (disch := omega) only [cWr, cWn, zU_ne, zU_at]
    exact h.opn q hq
  · simp (disch := omega) only [cWr, cWn, zU_ne, zU_at]
    exact h.time
  · simp (disch := omega) only [cWr, cWn, zU_ne, zU_at]
    exact h.day
  · simp (disch := omega) only [cWr, cWn, zU_ne, zU_at]
    exact h.set j' hj'
  · simp (disch := omega) only [cWr, cWn, zU_ne, zU_at]
    exact h.shf
  · simp (disch := omega) only [cWr, cWn, zU_ne, zU_at]
    exact h.qrl
  · simp (disch := omega) only [cWr, cWn, zU_ne, zU_at]
    exact h.dwn j' hj'
  · simp (disch := omega) only [cWr, cWn, zU_ne, zU_at]
    exact h.stp j' hj'
  · simp (disch := omega) only [cWr, cWn, zU_ne, zU_at]
  · simp (disch := omega) only [cWr, zU_at] at hs
    exact (hv (Int32.lt_of_le_of_lt (nI_pos' (by omega)) hs)).elim
theorem Rel.uOpen {c : cSt} {z : Nat → Int32} (h : Rel c z) {k : Nat} {b : Bool} (hk : k < 24) : Rel (cW c 13 k (if b = true then 1 else 0)) (zU z (144 + k) (if b = true then 0 else 1)) := by
  refine ⟨fun q hq => ?_, fun q hq he y' hy' => ?_, fun q hq => ?_, ?_, ?_, fun j' hj' => ?_, ?_, ?_, fun j' hj' => ?_, fun j' hj' => ?_, ?_, fun q hq hs => ?_⟩
  · simp (disch := omega) only [cWr, cWn, zU_ne, zU_at]; exact h.ex q hq
  · simp (disch := omega) only [cWn] at he
    simp (disch := omega) only [cWr, cWn, zU_ne, zU_at]; exact h.row q hq he y' hy'
  · by_cases hc : q = k
    · subst hc
      simp (disch := omega) only [cWr, cWn, zU_ne, zU_at]
      cases b
      · exact Or.inr ⟨rfl, rfl⟩
      · exact Or.inl ⟨rfl, rfl⟩
    · simp (disch := omega) only [cWr, cWn, zU_ne, zU_at]; exact h.opn q hq
  · simp (disch := omega) only [cWr, cWn, zU_ne, zU_at]; exact h.time
  · simp (disch := omega) only [cWr, cWn, zU_ne, zU_at]; exact h.day
  · simp (disch := omega) only [cWr, cWn, zU_ne, zU_at]; exact h.set j' hj'
  · simp (disch := omega) only [cWr, cWn, zU_ne, zU_at]; exact h.shf
  · simp (disch := omega) only [cWr, cWn, zU_ne, zU_at]; exact h.qrl
  · simp (disch := omega) only [cWr, cWn, zU_ne, zU_at]; exact h.dwn j' hj'
  · simp (disch := omega) only [cWr, cWn, zU_ne, zU_at]; exact h.stp j' hj'
  · simp (disch := omega) only [cWr, cWn, zU_ne, zU_at]; exact h.siz
  · simp (disch := omega) only [cWn] at hs
    simp (disch := omega) only [cWr, cWn, zU_ne, zU_at]; exact h.who q hq hs
/-- rows that the relation does not read -/
theorem Rel.uRest {c : cSt} {z : Nat → Int32} (h : Rel c z) {j k : Nat} {v : Int32} (hj : 10 ≤ j) (hj2 : j ≤ 12) : Rel (cW c j k v) z := by
  refine ⟨fun q hq => ?_, fun q hq he y' hy' => ?_, fun q hq => ?_, ?_, ?_, fun j' hj' => ?_, ?_, ?_, fun j' hj' => ?_, fun j' hj' => ?_, ?_, fun q hq hs => ?_⟩
  · simp (disch := omega) only [cWr, cWn, zU_ne, zU_at]; exact h.ex q hq
  · simp (disch := omega) only [cWn] at he
    simp (disch := omega) only [cWr, cWn, zU_ne, zU_at]; exact h.row q hq he y' hy'
  · simp (disch := omega) only [cWr, cWn, zU_ne, zU_at]; exact h.opn q hq
  · simp (disch := omega) only [cWr, cWn, zU_ne, zU_at]; exact h.time
  · simp (disch := omega) only [cWr, cWn, zU_ne, zU_at]; exact h.day
  · simp (disch := omega) only [cWr, cWn, zU_ne, zU_at]; exact h.set j' hj'
  · simp (disch := omega) only [cWr, cWn, zU_ne, zU_at]; exact h.shf
  · simp (disch := omega) only [cWr, cWn, zU_ne, zU_at]; exact h.qrl
  · simp (disch := omega) only [cWr, cWn, zU_ne, zU_at]; exact h.dwn j' hj'
  · simp (disch := omega) only [cWr, cWn, zU_ne, zU_at]; exact h.stp j' hj'
  · simp (disch := omega) only [cWr, cWn, zU_ne, zU_at]; exact h.siz
  · simp (disch := omega) only [cWn] at hs
    simp (disch := omega) only [cWr, cWn, zU_ne, zU_at]; exact h.who q hq hs
/-- a step is written behind the others -/
theorem Rel.uNote {c : cSt} {z : Nat → Int32} (h : Rel c z) {s : Nat} {x y : Int32} (hs : c 17 2 = nI s) (h24 : s ≤ 24) : Rel (cW (cW (cW c 18 s x) 19 s y) 17 2 (nI (s + 1))) (zU (zU (zU z (181 + 2 * s) x) (181 + 2 * s + 1) y) 180 (nI (s + 1))) := by
  refine ⟨fun q hq => ?_, fun q hq he y' hy' => ?_, fun q hq => ?_, ?_, ?_, fun j' hj' => ?_, ?_, ?_, fun j' hj' => ?_, fun j' hj' => ?_, ?_, fun q hq hq2 => ?_⟩
  · simp (disch := omega) only [cWr, cWn, zU_ne, zU_at]; exact h.ex q hq
  · simp (disch := omega) only [cWn] at he
    simp (disch := omega) only [cWr, cWn, zU_ne, zU_at]; exact h.row q hq he y' hy'
  · simp (disch := omega) only [cWr, cWn, zU_ne, zU_at]; exact h.opn q hq
  · simp (disch := omega) only [cWr, cWn, zU_ne, zU_at]; exact h.time
  · simp (disch := omega) only [cWr, cWn, zU_ne, zU_at]; exact h.day
  · simp (disch := omega) only [cWr, cWn, zU_ne, zU_at]; exact h.set j' hj'
  · simp (disch := omega) only [cWr, cWn, zU_ne, zU_at]; exact h.shf
  · simp (disch := omega) only [cWr, cWn, zU_ne, zU_at]; exact h.qrl
  · simp (disch := omega) only [cWr, cWn, zU_ne, zU_at]; exact h.dwn j' hj'
  · simp (disch := omega) only [cWr, cWn, zU_ne, zU_at]; exact h.stp j' hj'
  · simp (disch := omega) only [cWr, cWn, zU_ne, zU_at]
  · simp (disch := omega) only [cWr, zU_at] at hq2
    rw [nI_ltI (by omega) (by omega)] at hq2
    by_cases hc : q = s
    · subst hc
      exact ⟨by simp (disch := omega) only [cWr, cWn, zU_ne, zU_at], by simp (disch := omega) only [cWr, cWn, zU_ne, zU_at]⟩
    · simp (disch := omega) only [cWr, cWn, zU_ne, zU_at]
      exact h.who q hq (by rw [hs, nI_ltI (by omega) (by omega)]; omega)
theorem Rel.congr {c : cSt} {z z' : Nat → Int32} (h : Rel c z) (hz : ∀ q, q < 232 → z' q = z q) : Rel c z' := by
  refine ⟨fun q hq => ?_, fun q hq he y' hy' => ?_, fun q hq => ?_, ?_, ?_, fun j' hj' => ?_, ?_, ?_, fun j' hj' => ?_, fun j' hj' => ?_, ?_, fun q hq hs => ?_⟩
  · rw [hz _ (by omega)]; exact h.ex q hq
  · rw [hz _ (by omega)]; exact h.row q hq he y' hy'
  · rw [hz _ (by omega)]; exact h.opn q hq
  · rw [hz _ (by omega)]; exact h.time
  · rw [hz _ (by omega)]; exact h.day
  · rw [hz _ (by omega)]; exact h.set j' hj'
  · rw [hz _ (by omega)]; exact h.shf
  · rw [hz _ (by omega)]; exact h.qrl
  · rw [hz _ (by omega)]; exact h.dwn j' hj'
  · rw [hz _ (by omega)]; exact h.stp j' hj'
  · rw [hz _ (by omega)]; exact h.siz
  · rw [hz _ (by omega), hz _ (by omega)]; exact h.who q hq hs

