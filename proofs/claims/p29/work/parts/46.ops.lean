/-! the calls that change: the cote and the law's numbers -/
def lZ (v : cSt) (k : Nat) : Nat → cSt
  | 0 => v
  | n + 1 => cW (lZ v k n) 2 (4 * k + n) 0
def lBuy (v : cSt) (k : Nat) (x y : Int32) : cSt := lZ (cW (cW (cW (cW (cW v 0 0 (v 0 0 ||| ((1 : Int32) <<< (nI k &&& 31)))) 1 (4 * k) x) 1 (4 * k + 1) y) 1 (4 * k + 2) (-1)) 1 (4 * k + 3) (-1)) k 4
def lSel (v : cSt) (k : Nat) : cSt := if v 1 (4 * k + 3) < 0 then cW v 0 0 (v 0 0 ^^^ ((1 : Int32) <<< (nI k &&& 31))) else cW (cW v 0 0 (v 0 0 ^^^ ((1 : Int32) <<< (nI k &&& 31)))) 1 (4 * ix (v 1 (4 * k + 3)) + 3) (-1)
def lDn1 (v : cSt) : Nat → cSt
  | 0 => v
  | n + 1 => cW (lDn1 v n) 0 (8 + n) 0
def lDi (v : cSt) (k : Nat) : Nat := if v 1 (4 * k + 2) < 0 then 11 else if v 1 (4 * k + 2) = 24 then 10 else if v 1 (4 * k + 2) = v 1 (4 * k) then 8 else 9
def lDw (v : cSt) (k : Nat) : cSt := cW (cW (cW (cW v 0 (lDi v k) (v 0 (lDi v k) + 1)) 2 (4 * k + 2) (v 2 (4 * k + 2) + (if v 1 (4 * k + 2) < 0 then 1 else 0))) 2 (4 * k + 3) (v 2 (4 * k + 3) + (if v 1 (4 * k + 2) = v 1 (4 * k) then 1 else 0))) 1 (4 * k + 2) (-1)
def lDn2 (v : cSt) : Nat → cSt
  | 0 => v
  | k + 1 => if lIs (lDn2 v k) k = true then lDw (lDn2 v k) k else lDn2 v k
def lDawn (v : cSt) : cSt := cW (cW (lDn2 (lDn1 v 4) 16) 0 3 (lDn2 (lDn1 v 4) 16 0 3 + 1)) 0 2 0
theorem RelL.uOpen {b : Prop} {c v : cSt} (h : RelL b c v) {n : Nat} {x y : Int32} (hx : ∀ q, q < 24 → zU (c 13) n y q = bI (!(lBit x q))) : RelL b (cW c 13 n y) (cW v 0 1 x) := by
  refine ⟨fun q hq => ?_, fun q hq he y' hy' => ?_, fun q hq he y' hy' => ?_, fun q hq => ?_, ?_, ?_, fun j' hj' => ?_, ?_, ?_, fun j' hj' => ?_, ?_, fun hb q hq hs => ?_⟩
  · unfold lIs cEx
    simp (disch := omega) only [cWr, cWn, zU_ne, zU_at]
    exact h.ex q hq
  · simp (disch := omega) only [cWn] at he
    simp (disch := omega) only [cWr, cWn, zU_ne, zU_at]
    exact h.row q hq he y' hy'
  · simp (disch := omega) only [cWn] at he
    simp (disch := omega) only [cWr, cWn, zU_ne, zU_at]
    exact h.rob q hq he y' hy'
  · simp (disch := omega) only [cWr, zU_at]
    exact hx q hq
  · simp (disch := omega) only [cWr, cWn, zU_ne, zU_at]; exact h.time
  · simp (disch := omega) only [cWr, cWn, zU_ne, zU_at]; exact h.day
  · simp (disch := omega) only [cWr, cWn, zU_ne, zU_at]; exact h.set j' hj'
  · simp (disch := omega) only [cWr, cWn, zU_ne, zU_at]; exact h.shf
  · simp (disch := omega) only [cWr, cWn, zU_ne, zU_at]; exact h.qrl
  · simp (disch := omega) only [cWr, cWn, zU_ne, zU_at]; exact h.dwn j' hj'
  · simp (disch := omega) only [cWr, cWn, zU_ne, zU_at]; exact h.siz
  · simp (disch := omega) only [cWn] at hs
    simp (disch := omega) only [cWr, cWn, zU_ne, zU_at]; exact h.who hb q hq hs
theorem lBit_set {x : Int32} {h q : Nat} (hh : h < 32) : lBit (x ||| ((1 : Int32) <<< (nI h &&& 31))) q = (lBit x q || decide (q = h)) := by rw [lBit_or, lBit_one hh]
theorem lBit_clr {x : Int32} {h q : Nat} (hh : h < 32) (hq : q < 32) : lBit (x &&& (((1 : Int32) <<< (nI h &&& 31)) ^^^ -1)) q = (lBit x q && !(decide (q = h))) := by rw [lBit_and, lBit_not hq, lBit_one hh]
theorem lBit_flip {x : Int32} {h q : Nat} (hh : h < 32) : lBit (x ^^^ ((1 : Int32) <<< (nI h &&& 31))) q = (lBit x q ^^ decide (q = h)) := by rw [lBit_xor, lBit_one hh]
theorem shutL_SR {B : Nat} {c v : cSt} {h : Nat} (hS : SRL B c v) (hh : h < 24) : SRL B (cW c 13 h 0) (cW v 0 1 (v 0 1 ||| ((1 : Int32) <<< (nI h &&& 31)))) := by
  obtain ⟨hR, hI, hw, hn, ht⟩ := hS
  refine ⟨hR.uOpen fun q hq => ?_, ?_, ?_, ?_, ?_⟩
  · rw [lBit_set (by omega)]
    by_cases hc : q = h
    · subst hc; rw [zU_at, decide_eq_true rfl, Bool.or_true]; rfl
    · rw [zU_ne hc, decide_eq_false hc, Bool.or_false]; exact hR.opn q hq
  · refine hI.congr ?_ ?_ ?_ ?_ ?_ ?_ (fun q _ => ?_) (fun q _ => ?_) (fun q _ => ?_) (fun q _ => ?_) <;> simp (disch := omega) only [cWn]
  · rw [cWn (by omega)]; exact hw
  · rw [cWn (by omega)]; exact hn
  · rw [cWn (by omega)]; exact ht
theorem openL_SR {B : Nat} {c v : cSt} {h : Nat} (hS : SRL B c v) (hh : h < 24) : SRL B (cW c 13 h 1) (cW v 0 1 (v 0 1 &&& (((1 : Int32) <<< (nI h &&& 31)) ^^^ -1))) := by
  obtain ⟨hR, hI, hw, hn, ht⟩ := hS
  refine ⟨hR.uOpen fun q hq => ?_, ?_, ?_, ?_, ?_⟩
  · rw [lBit_clr (by omega) (by omega)]
    by_cases hc : q = h
    · subst hc; rw [zU_at, decide_eq_true rfl, Bool.not_true, Bool.and_false]; rfl
    · rw [zU_ne hc, decide_eq_false hc, Bool.not_false, Bool.and_true]; exact hR.opn q hq
  · refine hI.congr ?_ ?_ ?_ ?_ ?_ ?_ (fun q _ => ?_) (fun q _ => ?_) (fun q _ => ?_) (fun q _ => ?_) <;> simp (disch := omega) only [cWn]
  · rw [cWn (by omega)]; exact hw
  · rw [cWn (by omega)]; exact hn
  · rw [cWn (by omega)]; exact ht
theorem setL_SR {B : Nat} {c v : cSt} {j : Nat} {x : Int32} (hS : SRL B c v) (hj : j < 2) (hx : j = 1 → ∃ n, n ≤ 24 ∧ x = nI n) : SRL B (cW c 14 j x) (cW v 0 (4 + j) x) := by
  obtain ⟨hR, hI, hw, hn, ht⟩ := hS
  refine ⟨hR.uSet hj, ?_, ?_, ?_, ?_⟩
  · unfold Inv
    simp (disch := omega) only [cWn, cWr]
    refine ⟨hI.own, hI.plc, hI.mat, hI.sit, hI.stt, hI.wnr, hI.wnt, hI.non, ?_⟩
    by_cases h1 : 1 = j
    · rw [← h1, zU_at]; exact hx h1.symm
    · rw [zU_ne h1]; exact hI.mst
  · rw [cWn (by omega)]; exact hw
  · rw [cWn (by omega)]; exact hn
  · rw [cWn (by omega)]; exact ht
theorem pairL_SR {B : Nat} {c v : cSt} {x y : Nat} (hS : SRL B c v) (hx : x < 16) (hy : y < 16) (hne : x ≠ y) (hex : ¬ c 2 x = -1) (hey : ¬ c 2 y = -1) (hmx : c 5 x = -1) (hmy : c 5 y = -1) : SRL B (cPair c (nI x) (nI y)) (cW (cW v 1 (4 * x + 3) (nI y)) 1 (4 * y + 3) (nI x)) := by
  obtain ⟨hR, hI, hw, hn, ht⟩ := hS
  unfold cPair
  rw [ix_nI (by omega), ix_nI (by omega)]
  refine ⟨(hR.uRow (y := 3) hx (by omega) (by omega)).uRow (y := 3) hy (by omega) (by omega), ?_, ?_, ?_, ?_⟩
  · unfold Inv
    simp (disch := omega) only [cWn, cWr]
    refine ⟨hI.own, hI.plc, fun q hq he => ?_, hI.sit, hI.stt, hI.wnr, hI.wnt, fun q hq he => ?_, hI.mst⟩
    · by_cases h1 : q = y
      · subst h1
        rw [zU_at]
        exact Or.inr ⟨x, hx, rfl, hex, by rw [zU_ne hne, zU_at], hne⟩
      · rw [zU_ne h1]
        by_cases h2 : q = x
        · subst h2
          rw [zU_at]
          exact Or.inr ⟨y, hy, rfl, hey, by rw [zU_at], fun w => hne w.symm⟩
        · rw [zU_ne h2]
          rcases hI.mat q hq he with e | ⟨m, hm, e, hx', hm', hne'⟩
          · exact Or.inl e
          · refine Or.inr ⟨m, hm, e, hx', ?_, hne'⟩
            have n1 : m ≠ y := fun w => by rw [w, hmy] at hm'; exact nI_nm (by omega) hm'.symm
            have n2 : m ≠ x := fun w => by rw [w, hmx] at hm'; exact nI_nm (by omega) hm'.symm
            rw [zU_ne n1, zU_ne n2]; exact hm'
    · have n1 : q ≠ y := fun w => hey (w ▸ he)
      have n2 : q ≠ x := fun w => hex (w ▸ he)
      rw [zU_ne n1, zU_ne n2]
      exact hI.non q hq he
  · simp (disch := omega) only [cWn]; exact hw
  · simp (disch := omega) only [cWn]; exact hn
  · simp (disch := omega) only [cWn]; exact ht
theorem homeL_SR {B : Nat} {c v : cSt} {k n : Nat} (hS : SRL B c v) (hB : B < 2 ^ 30) (hk : k < 16) (he : ¬ c 2 k = -1) (hp : c 4 k = -1) (hn : n ≤ 1439) : lCm v k (nI n) ∧ SRL (B + 24) (cCome c (nI k) (nI n)) (lCome v k (nI n)) ∧ cComeR c (nI k) (nI n) = lCome v k (nI n) 0 6 - v 0 6 := by
  obtain ⟨hR, hI, hw, ⟨n0, hn0, h8⟩, ht⟩ := hS
  obtain ⟨g0, sf, g1, g2, g3, g4, g5, g6, g7, g8, g9⟩ := comeL_sim (t := nI n) hR hI hk he hp h8 (by omega)
  refine ⟨g0, ⟨g2, g3, g4, ⟨n0 + sf, by omega, g5⟩, ⟨n, hn, g8⟩⟩, ?_⟩
  unfold cComeR
  rw [g2.shf, hR.shf]
/-! a dove is bought -/
theorem firstF_some {c : cSt} : ∀ n k kf, n + k ≤ 16 → cFirstF c n k = some kf → kf < 16 ∧ c 2 kf = -1
  | 0, _, _, _, h => by cases h
  | n + 1, k, kf, hn, h => by
    unfold cFirstF at h
    split at h
    · exact firstF_some n (k + 1) kf (by omega) h
    · rename_i he
      cases h
      refine ⟨by omega, ?_⟩
      rw [cEx_nI (by omega)] at he
      exact Classical.byContradiction he
theorem firstF_at {c : cSt} {j : Nat} (hj : j < 16) (hn : cEx c (nI j) = false) : ∀ n k, k ≤ j → j < k + n → (∀ q, k ≤ q → q < j → cEx c (nI q) = true) → cFirstF c n k = some j
  | 0, k, h1, h2, _ => absurd h2 (by omega)
  | n + 1, k, h1, h2, ha => by
    unfold cFirstF
    by_cases hc : k = j
    · subst hc; rw [hn, if_neg (by decide)]
    · rw [if_pos (ha k (Nat.le_refl k) (by omega))]
      exact firstF_at hj hn n (k + 1) (by omega) (by omega) fun q h1 h2 => ha q (by omega) h2
theorem cnt_all {P : Nat → Bool} : ∀ n, (∀ q, q < n → P q = true) → cnt P n = n
  | 0, _ => rfl
  | n + 1, h => by
    unfold cnt
    rw [if_pos (h n (by omega)), cnt_all n fun q hq => h q (by omega)]
theorem cnt_lt {P : Nat → Bool} {j : Nat} : ∀ n, j < n → P j = false → cnt P n < n
  | 0, h, _ => absurd h (by omega)
  | n + 1, h, hp => by
    unfold cnt
    by_cases hc : j = n
    · subst hc; rw [hp, if_neg (by decide)]; have := cnt_le P j; omega
    · have := cnt_lt n (by omega) hp
      split <;> omega
/-- why a dove cannot be bought -/
theorem whyBuy_iff {B : Nat} {c v : cSt} (hS : SRL B c v) {h : Nat} (hh : h < 24) : cWhyBuy c (nI h) = 0 ↔ (∃ j, j < 16 ∧ lIs v j = false) ∧ lOwner v (nI h) < 0 ∧ lBit (v 0 1) h = false := by
  obtain ⟨hR, hI, -, -, -⟩ := hS
  unfold cWhyBuy
  rw [lowner hR hI hh, hR.opens hh, ix_nI (by omega)]
  by_cases hf : ∃ j, j < 16 ∧ lIs v j = false
  · obtain ⟨j, hj, hn⟩ := hf
    have hlt : cnt (fun k => cEx c (nI k)) 16 < 16 := cnt_lt 16 hj (by rw [← hR.exs j hj]; exact hn)
    rw [if_neg (show ¬ (16 : Int32) ≤ cDoves c from nI_ge (a := cnt (fun k => cEx c (nI k)) 16) (b := 16) hlt (by omega))]
    rcases hI.wnr h hh with e | ⟨k, hk, e, -⟩
    · rw [e, if_pos rfl]
      cases lBit (v 0 1) h
      · rw [if_neg (show ¬ (!false) = false by decide)]
        exact ⟨fun _ => ⟨⟨j, hj, hn⟩, by decide, rfl⟩, fun _ => rfl⟩
      · rw [if_pos (show (!true) = false from rfl)]
        exact ⟨fun w => absurd w (by decide), fun w => (by cases w.2.2)⟩
    · rw [e, if_neg (nI_nm (by omega))]
      exact ⟨fun w => absurd w (by decide), fun w => absurd w.2.1 (nI_pos (by omega))⟩
  · have ha : cnt (fun k => cEx c (nI k)) 16 = 16 := cnt_all 16 fun q hq => by
      rw [← hR.exs q hq]
      cases hx : lIs v q
      · exact (hf ⟨q, hq, hx⟩).elim
      · rfl
    rw [if_pos (show (16 : Int32) ≤ cDoves c by unfold cDoves; rw [ha]; decide)]
    exact ⟨fun w => absurd w (by decide), fun w => (hf w.1).elim⟩
theorem full_iff {B : Nat} {c v : cSt} (hS : SRL B c v) : v 0 0 = 65535 ↔ ¬ ∃ j, j < 16 ∧ lIs v j = false := by
  obtain ⟨hR, -⟩ := hS
  have hb : ∀ q, q < 32 → lBit 65535 q = decide (q < 16) := by decide +kernel
  constructor
  · intro h ⟨j, hj, hn⟩
    unfold lIs at hn
    rw [h, hb j (by omega), decide_eq_true hj] at hn
    cases hn
  · intro h
    refine lBit_ext fun q hq => ?_
    rw [hb q hq]
    have := hR.ex q hq
    unfold lIs at this
    rw [this]
    by_cases hc : q < 16
    · rw [decide_eq_true hc, Bool.true_and, ← hR.exs q hc]
      cases hx : lIs v q
      · exact (h ⟨q, hc, hx⟩).elim
      · rfl
    · rw [decide_eq_false hc, Bool.false_and]
theorem lZ_row {v : cSt} {k : Nat} : ∀ n, lZ v k n 2 = (fun q => if 4 * k ≤ q ∧ q < 4 * k + n then 0 else v 2 q) ∧ (∀ j, j ≠ 2 → lZ v k n j = v j)
  | 0 => ⟨by funext q; rw [if_neg (by omega)]; rfl, fun _ _ => rfl⟩
  | n + 1 => by
    obtain ⟨h1, h2⟩ := lZ_row (v := v) (k := k) n
    refine ⟨?_, fun j hj => by unfold lZ; rw [cWn hj]; exact h2 j hj⟩
    unfold lZ
    rw [cWr, h1]
    funext q
    show (if q = 4 * k + n then (0 : Int32) else if 4 * k ≤ q ∧ q < 4 * k + n then 0 else v 2 q) = _
    by_cases h : q = 4 * k + n
    · rw [if_pos h, if_pos (by omega)]
    · rw [if_neg h]
      by_cases h3 : 4 * k ≤ q ∧ q < 4 * k + n
      · rw [if_pos h3, if_pos (by omega)]
      · rw [if_neg h3, if_neg (by omega)]
theorem buyL_rel {c v : cSt} {h k : Nat} {y : Int32} (hR : RelL True c v) (hI : Inv 24 c) (hh : h < 24) (hk : k < 16) (he : c 2 k = -1) : RelL True (cAddK c (nI h) y k) (lBuy v k (nI h) y) := by
  obtain ⟨g4, g5, g6, g7, g8, g9⟩ := hI.non k hk he
  unfold cAddK lBuy
  obtain ⟨z2, zr⟩ := lZ_row (v := cW (cW (cW (cW (cW v 0 0 (v 0 0 ||| ((1 : Int32) <<< (nI k &&& 31)))) 1 (4 * k) (nI h)) 1 (4 * k + 1) y) 1 (4 * k + 2) (-1)) 1 (4 * k + 3) (-1)) (k := k) 4
  generalize hzz : lZ _ k 4 = zz at z2 zr
  have z0 : zz 0 = zU (v 0) 0 (v 0 0 ||| ((1 : Int32) <<< (nI k &&& 31))) := by rw [zr 0 (by omega)]; simp (disch := omega) only [cWr, cWn]
  have z1 : zz 1 = zU (zU (zU (zU (v 1) (4 * k) (nI h)) (4 * k + 1) y) (4 * k + 2) (-1)) (4 * k + 3) (-1) := by rw [zr 1 (by omega)]; simp (disch := omega) only [cWr, cWn]
  have z3 : zz 3 = v 3 := by rw [zr 3 (by omega)]; simp (disch := omega) only [cWn]
  have z2' : ∀ q, zz 2 q = if 4 * k ≤ q ∧ q < 4 * k + 4 then 0 else v 2 q := fun q => by rw [z2]; simp (disch := omega) only [cWn]
  rw [ix_nI (by omega)]
  refine ⟨fun q hq => ?_, fun q hq hx y' hy' => ?_, fun q hq hx y' hy' => ?_, fun q hq => ?_, ?_, ?_, fun j' hj' => ?_, ?_, ?_, fun j' hj' => ?_, ?_, fun hb q hq hs => ?_⟩
  · unfold lIs
    rw [z0, zU_at, lBit_set (by omega)]
    have hold := hR.ex q hq
    unfold lIs at hold
    rw [hold]
    by_cases hc : q = k
    · subst hc
      rw [decide_eq_true hk, decide_eq_true rfl, Bool.or_true, Bool.true_and]
      symm
      rw [cEx_nI hk]
      simp (disch := omega) only [cWr, cWn, zU_at]
      exact nI_nm (by omega)
    · rw [decide_eq_false hc, Bool.or_false]
      by_cases h16 : q < 16
      · congr 1
        rw [Bool.eq_iff_iff, cEx_nI h16, cEx_nI h16]
        simp (disch := omega) only [cWr, cWn, zU_ne]
      · rw [decide_eq_false h16]; rfl
  · rw [z1]
    by_cases hc : q = k
    · subst hc
      rcases (show y' = 0 ∨ y' = 1 ∨ y' = 2 ∨ y' = 3 by omega) with r | r | r | r <;> subst r
      · simp (disch := omega) only [cWr, cWn, zU_ne, zU_at, Nat.add_zero]
      · simp (disch := omega) only [cWr, cWn, zU_ne, zU_at]
      · simp (disch := omega) only [cWr, cWn, zU_ne, zU_at]; exact g4.symm
      · simp (disch := omega) only [cWr, cWn, zU_ne, zU_at]; exact g5.symm
    · simp (disch := omega) only [cWr, cWn, zU_ne] at hx
      simp (disch := omega) only [zU_ne]
      rw [hR.row q hq hx y' hy']
      have key : ∀ (cc : cSt) (a : Nat) (x : Int32), cW cc a k x (2 + y') q = cc (2 + y') q := fun cc a x => by
        unfold cW
        split <;> first | rfl | rw [if_neg hc]
      rw [cWn (by omega), key, key]
  · rw [z2']
    by_cases hc : q = k
    · subst hc
      rw [if_pos (by omega)]
      simp (disch := omega) only [cWn]
      rcases (show y' = 0 ∨ y' = 1 ∨ y' = 2 ∨ y' = 3 by omega) with r | r | r | r <;> subst r
      · exact g6.symm
      · exact g7.symm
      · exact g8.symm
      · exact g9.symm
    · simp (disch := omega) only [cWr, cWn, zU_ne] at hx
      rw [if_neg (by omega)]
      simp (disch := omega) only [cWn]
      exact hR.rob q hq hx y' hy'
  · rw [z0]; simp (disch := omega) only [cWn, zU_ne]; exact hR.opn q hq
  · rw [z0]; simp (disch := omega) only [cWn, zU_ne]; exact hR.time
  · rw [z0]; simp (disch := omega) only [cWn, zU_ne]; exact hR.day
  · rw [z0]; simp (disch := omega) only [cWn, zU_ne]; exact hR.set j' hj'
  · rw [z0]; simp (disch := omega) only [cWn, zU_ne]; exact hR.shf
  · rw [z0]; simp (disch := omega) only [cWn, zU_ne]; exact hR.qrl
  · rw [z0]; simp (disch := omega) only [cWn, zU_ne]; exact hR.dwn j' hj'
  · rw [z0]; simp (disch := omega) only [cWn, zU_ne]; exact hR.siz
  · simp (disch := omega) only [cWn] at hs
    rw [z3]
    simp (disch := omega) only [cWn]
    exact hR.who hb q hq hs
theorem buyK_inv {c : cSt} {h k : Nat} {y : Int32} (hI : Inv 24 c) (hh : h < 24) (h12 : c 12 h = -1) (hk : k < 16) (he : c 2 k = -1) : Inv 24 (cAddK c (nI h) y k) := by
  obtain ⟨g4, g5, g6, g7, g8, g9⟩ := hI.non k hk he
  unfold cAddK Inv
  rw [ix_nI (by omega)]
  simp (disch := omega) only [cWr, cWn]
  have hx' : ∀ q, ¬ c 2 q = -1 → ¬ zU (c 2) k (nI h) q = -1 := fun q hx w => by
    by_cases hc : q = k
    · rw [hc, zU_at] at w; exact nI_nm (by omega) w
    · rw [zU_ne hc] at w; exact hx w
  have hx2 : ∀ q, q ≠ k → ¬ zU (c 2) k (nI h) q = -1 → ¬ c 2 q = -1 := fun q hc w => by rw [zU_ne hc] at w; exact w
  refine ⟨fun q hq hx => ?_, fun q hq hx => ?_, fun q hq hx => ?_, fun q hq hn => ?_, fun q hq hx j hj hp => ?_, fun j hj => ?_, fun q hq j hj hp => ?_, fun q hq hx => ?_, hI.mst⟩
  · by_cases hc : q = k
    · rw [hc, zU_at]; exact ⟨h, hh, rfl⟩
    · rw [zU_ne hc]; exact hI.own q hq (hx2 q hc hx)
  · by_cases hc : q = k
    · rw [hc]; exact Or.inl g4
    · exact hI.plc q hq (hx2 q hc hx)
  · by_cases hc : q = k
    · rw [hc]; exact Or.inl g5
    · rcases hI.mat q hq (hx2 q hc hx) with e | ⟨m, hm, e, hx3, r⟩
      · exact Or.inl e
      · exact Or.inr ⟨m, hm, e, hx' m hx3, r⟩
  · rcases hI.sit q hq hn with e | ⟨m, hm, e, hx3, r⟩
    · exact Or.inl e
    · exact Or.inr ⟨m, hm, e, hx' m hx3, r⟩
  · by_cases hc : q = k
    · rw [hc, g4] at hp; exact (nI_nm (by omega) hp.symm).elim
    · exact hI.stt q hq (hx2 q hc hx) j hj hp
  · by_cases hc : j = h
    · rw [hc, zU_at]; exact Or.inr ⟨k, hk, rfl, by rw [zU_at]⟩
    · rw [zU_ne hc]
      rcases hI.wnr j hj with e | ⟨m, hm, e, r⟩
      · exact Or.inl e
      · refine Or.inr ⟨m, hm, e, ?_⟩
        have : m ≠ k := fun w => by rw [w, he] at r; exact nI_nm (by omega) r.symm
        rw [zU_ne this]; exact r
  · by_cases hc : q = k
    · rw [hc, zU_at] at hp
      have := nI_inj (by omega) (by omega) hp
      rw [hc, ← this, zU_at]
    · rw [zU_ne hc] at hp
      have : j ≠ h := fun w => by
        have := hI.wnt q hq j hj hp
        rw [w, h12] at this
        exact nI_nm (by omega) this.symm
      rw [zU_ne this]
      exact hI.wnt q hq j hj hp
  · have hc : q ≠ k := fun w => by rw [w, zU_at] at hx; exact nI_nm (by omega) hx
    rw [zU_ne hc] at hx
    exact hI.non q hq hx
theorem buyL_SR {B : Nat} {c v : cSt} {h k : Nat} {y : Int32} (hS : SRL B c v) (hh : h < 24) (hw : cWhyBuy c (nI h) = 0) (hk : k < 16) (hn : lIs v k = false) (ha : ∀ j, j < k → lIs v j = true) : SRL B (cAdd c (nI h) y).2 (lBuy v k (nI h) y) ∧ (cAdd c (nI h) y).1 = nI k := by
  have hw' := (whyBuy_iff hS hh).mp hw
  obtain ⟨hR, hI, hsz, hn8, ht⟩ := hS
  have hf : cFirstF c 16 0 = some k := firstF_at hk (by rw [← hR.exs k hk]; exact hn) 16 0 (by omega) (by omega) fun q _ hq => by rw [← hR.exs q (by omega)]; exact ha q hq
  obtain ⟨-, he⟩ := firstF_some 16 0 k (by omega) hf
  have h12 : c 12 h = -1 := by
    have := hw'.2.1
    rw [lowner hR hI hh] at this
    rcases hI.wnr h hh with e | ⟨m, hm, e, -⟩
    · exact e
    · rw [e] at this; exact absurd this (nI_pos (by omega))
  rw [cAdd_k hf]
  refine ⟨⟨buyL_rel hR hI hh hk he, buyK_inv hI hh h12 hk he, ?_, ?_, ?_⟩, rfl⟩
  · show ∃ w, w ≤ 25 ∧ cAddK c (nI h) y k 17 2 = nI w
    unfold cAddK
    simp (disch := omega) only [cWn]; exact hsz
  · show ∃ n, n ≤ B ∧ cAddK c (nI h) y k 0 8 = nI n
    unfold cAddK
    simp (disch := omega) only [cWn]; exact hn8
  · show ∃ n, n ≤ 1439 ∧ cAddK c (nI h) y k 0 7 = nI n
    unfold cAddK
    simp (disch := omega) only [cWn]; exact ht
