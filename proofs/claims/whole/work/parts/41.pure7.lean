/-! holes opened and shut, settings, stops, mates -/
theorem SR.rel {B : Nat} {c : cSt} {z : Nat → Int32} (h : SR B c z) : Rel c z := h.1
theorem SR.inv {B : Nat} {c : cSt} {z : Nat → Int32} (h : SR B c z) : Inv 24 c := h.2.1
theorem SR.szw {B : Nat} {c : cSt} {z : Nat → Int32} (h : SR B c z) : ∃ w, w ≤ 25 ∧ c 17 2 = nI w := h.2.2.1
theorem SR.sh8 {B : Nat} {c : cSt} {z : Nat → Int32} (h : SR B c z) : ∃ n, n ≤ B ∧ c 0 8 = nI n := h.2.2.2
theorem zU_zU {f : Nat → Int32} {i : Nat} {v w : Int32} : zU (zU f i v) i w = zU f i w := by
  funext q; unfold zU; split <;> rfl
theorem come_SR {B : Nat} {c d : cSt} {k : Nat} {t : Int32} (h : SR B c (d 1)) (hB : B < 2 ^ 30) (hk : k < 16) (he : ¬ c 2 k = -1) (hp : c 4 k = -1) : SR (B + 24) (cCome c (nI k) t) ((mHome d (nI k) t).1 1) ∧ cComeR c (nI k) t = (mHome d (nI k) t).2 := by
  obtain ⟨hR, hI, hw, n0, hn0, h8⟩ := h
  obtain ⟨sf, h1, h2, h3, h4, h5, h6⟩ := come_sim (t := t) hR hI hk he hp h8 (by omega)
  refine ⟨⟨h3, h4, h5, n0 + sf, by omega, h6⟩, ?_⟩
  rw [h2]
  exact comeR_eq h8 h6
theorem open_SR {B : Nat} {c d : cSt} {h : Nat} {b : Bool} (hS : SR B c (d 1)) (hh : h < 24) : SR B (cW c 13 h (if b = true then 1 else 0)) (cW d 1 (144 + h) (if b = true then 0 else 1) 1) := by
  obtain ⟨hR, hI, hw, hn⟩ := hS
  rw [cWr]
  refine ⟨hR.uOpen hh, ?_, ?_, ?_⟩
  · refine hI.congr ?_ ?_ ?_ ?_ ?_ ?_ (fun q _ => ?_) (fun q _ => ?_) (fun q _ => ?_) (fun q _ => ?_) <;> simp (disch := omega) only [cWn]
  · rw [cWn (by omega)]; exact hw
  · rw [cWn (by omega)]; exact hn
theorem set_SR {B : Nat} {c d : cSt} {j : Nat} {v : Int32} (hS : SR B c (d 1)) (hj : j < 2) (hv : j = 1 → ∃ n, n ≤ 24 ∧ v = nI n) : SR B (cW c 14 j v) (cW d 1 (170 + j) v 1) := by
  obtain ⟨hR, hI, hw, hn⟩ := hS
  rw [cWr]
  refine ⟨hR.uSet hj, ?_, ?_, ?_⟩
  · unfold Inv
    simp (disch := omega) only [cWn, cWr]
    refine ⟨hI.own, hI.plc, hI.mat, hI.sit, hI.stt, hI.wnr, hI.wnt, hI.non, ?_⟩
    by_cases h1 : 1 = j
    · rw [← h1, zU_at]; exact hv h1.symm
    · rw [zU_ne h1]; exact hI.mst
  · rw [cWn (by omega)]; exact hw
  · rw [cWn (by omega)]; exact hn
theorem stop_SR {B : Nat} {c d : cSt} {v w : Int32} (hS : SR B c (d 1)) : SR B (cStop c v w) (cW (cW d 1 178 v) 1 179 w 1) := by
  obtain ⟨hR, hI, hw, hn⟩ := hS
  unfold cStop
  rw [cWr, cWr]
  refine ⟨(hR.uStp (j := 0) (by omega)).uStp (j := 1) (by omega), ?_, ?_, ?_⟩
  · refine hI.congr ?_ ?_ ?_ ?_ ?_ ?_ (fun q _ => ?_) (fun q _ => ?_) (fun q _ => ?_) (fun q _ => ?_) <;> simp (disch := omega) only [cWn]
  · simp (disch := omega) only [cWn]; exact hw
  · simp (disch := omega) only [cWn]; exact hn
theorem pair_SR {B : Nat} {c d : cSt} {x y : Nat} (hS : SR B c (d 1)) (hx : x < 16) (hy : y < 16) (hne : x ≠ y) (hex : ¬ c 2 x = -1) (hey : ¬ c 2 y = -1) (hmx : c 5 x = -1) (hmy : c 5 y = -1) : SR B (cPair c (nI x) (nI y)) (mMate d (nI x) (nI y) 1) := by
  obtain ⟨hR, hI, hw, hn⟩ := hS
  unfold cPair mMate
  rw [ix_nI (by omega), ix_nI (by omega), cWr, cWr]
  refine ⟨(hR.uRow (y := 3) hx (by omega) (by omega)).uRow (y := 3) hy (by omega) (by omega), ?_, ?_, ?_⟩
  · unfold Inv
    simp (disch := omega) only [cWn, cWr]
    refine ⟨hI.own, hI.plc, fun q hq he => ?_, hI.sit, hI.stt, hI.wnr, hI.wnt, fun q hq he => ?_, hI.mst⟩
    · by_cases h1 : q = y
      · subst h1
        rw [zU_at]
        exact Or.inr ⟨x, hx, rfl, hex, by rw [zU_ne hne, zU_at], hne⟩
      · rw [zU_ne h1]
        by_cases h2 : q = x
        · subst h2
          rw [zU_at]
          exact Or.inr ⟨y, hy, rfl, hey, by rw [zU_at], fun w => hne w.symm⟩
        · rw [zU_ne h2]
          rcases hI.mat q hq he with e | ⟨m, hm, e, hx', hm', hne'⟩
          · exact Or.inl e
          · refine Or.inr ⟨m, hm, e, hx', ?_, hne'⟩
            have n1 : m ≠ y := fun w => by rw [w, hmy] at hm'; exact nI_nm (by omega) hm'.symm
            have n2 : m ≠ x := fun w => by rw [w, hmx] at hm'; exact nI_nm (by omega) hm'.symm
            rw [zU_ne n1, zU_ne n2]; exact hm'
    · have n1 : q ≠ y := fun w => hey (w ▸ he)
      have n2 : q ≠ x := fun w => hex (w ▸ he)
      rw [zU_ne n1, zU_ne n2]
      exact hI.non q hq he
  · simp (disch := omega) only [cWn]; exact hw
  · simp (disch := omega) only [cWn]; exact hn
/-! a dove is bought -/
theorem firstF_sim {c d : cSt} (hR : Rel c (d 1)) : ∀ n k, n + k ≤ 16 → cFirstF c n k = mFirstF d n k
  | 0, _, _ => rfl
  | n + 1, k, h => by
    unfold cFirstF mFirstF
    rw [hR.exs k (by omega), firstF_sim hR n (k + 1) (by omega)]
theorem firstF_some {c : cSt} : ∀ n k kf, n + k ≤ 16 → cFirstF c n k = some kf → kf < 16 ∧ c 2 kf = -1
  | 0, _, _, _, h => by cases h
  | n + 1, k, kf, hn, h => by
    unfold cFirstF at h
    split at h
    · exact firstF_some n (k + 1) kf (by omega) h
    · rename_i he
      cases h
      refine ⟨by omega, ?_⟩
      rw [cEx_nI (by omega)] at he
      exact Classical.byContradiction he
theorem firstF_none {c : cSt} : ∀ n k, cFirstF c n k = none → ∀ q, k ≤ q → q < k + n → cEx c (nI q) = true
  | 0, _, _, q, h1, h2 => absurd h1 (by omega)
  | n + 1, k, h, q, h1, h2 => by
    unfold cFirstF at h
    split at h
    · rename_i he
      by_cases hq : q = k
      · rw [hq]; exact he
      · exact firstF_none n (k + 1) h q (by omega) (by omega)
    · cases h
theorem cnt_all {P : Nat → Bool} : ∀ n, (∀ q, q < n → P q = true) → cnt P n = n
  | 0, _ => rfl
  | n + 1, h => by
    unfold cnt
    rw [if_pos (h n (by omega)), cnt_all n fun q hq => h q (by omega)]
theorem mZero_row {d : cSt} {k : Nat} : ∀ n, mZero d k n 1 = fun q => if 9 * k ≤ q ∧ q < 9 * k + n then 0 else d 1 q
  | 0 => by
    funext q
    rw [if_neg (by omega)]; rfl
  | n + 1 => by
    unfold mZero
    rw [cWr, mZero_row n]
    funext q
    show (if q = 9 * k + n then (0 : Int32) else if 9 * k ≤ q ∧ q < 9 * k + n then 0 else d 1 q) = _
    by_cases h : q = 9 * k + n
    · rw [if_pos h, if_pos (by omega)]
    · rw [if_neg h]
      by_cases h2 : 9 * k ≤ q ∧ q < 9 * k + n
      · rw [if_pos h2, if_pos (by omega)]
      · rw [if_neg h2, if_neg (by omega)]
theorem cDoves_nI {c : cSt} : ∃ n, n ≤ 16 ∧ cDoves c = nI n := ⟨_, cnt_le _ 16, rfl⟩
theorem whyBuy_sim {c d : cSt} (hR : Rel c (d 1)) (hI : Inv 24 c) {h : Nat} (hh : h < 24) : cWhyBuy c (nI h) = mWhyD d (nI h) := by
  unfold cWhyBuy mWhyD
  rw [hR.all, owner hR hI hh, hR.opens hh, ix_nI (by omega)]
  obtain ⟨n, hn, e⟩ := cDoves_nI (c := c)
  rw [e]
  by_cases h16 : n = 16
  · subst h16
    rw [if_pos (show (16 : Int32) ≤ nI 16 by decide), if_pos (show nI 16 = 16 from rfl)]
  · rw [if_neg (show ¬ (16 : Int32) ≤ nI n from nI_ge (a := n) (b := 16) (by omega) (by omega)), if_neg (show ¬ nI n = 16 from fun w => h16 (nI_inj (b := 16) (by omega) (by omega) w))]
    rcases hI.wnr h hh with e | ⟨k, hk, e, -⟩
    · rw [e, if_pos rfl, if_pos (show (-1 : Int32) < 0 by decide)]
      cases mOpen d (nI h) <;> rfl
    · rw [e, if_neg (nI_nm (by omega)), if_neg (nI_pos (by omega))]
theorem whyBuy_0 {c : cSt} {h : Nat} (hh : h < 24) (hw : cWhyBuy c (nI h) = 0) : c 12 h = -1 ∧ ∃ k, k < 16 ∧ cFirstF c 16 0 = some k ∧ c 2 k = -1 := by
  unfold cWhyBuy at hw
  rw [ix_nI (by omega)] at hw
  split at hw
  · exact absurd hw (by decide)
  · rename_i h16
    split at hw
    · rename_i h12
      refine ⟨h12, ?_⟩
      cases hf : cFirstF c 16 0 with
      | none =>
        exfalso
        apply h16
        unfold cDoves
        rw [cnt_all 16 fun q hq => firstF_none 16 0 hf q (by omega) (by omega)]
        decide
      | some k =>
        obtain ⟨g1, g2⟩ := firstF_some 16 0 k (by omega) hf
        exact ⟨k, g1, rfl, g2⟩
    · exact absurd hw (by decide)
theorem buyK_rel {c d : cSt} {h k : Nat} {y : Int32} (hR : Rel c (d 1)) (hI : Inv 24 c) (hh : h < 24) (hk : k < 16) (he : c 2 k = -1) : Rel (cAddK c (nI h) y k) (mBuyK d k (nI h) y 1) := by
  obtain ⟨g4, g5, g6, g7, g8, g9⟩ := hI.non k hk he
  unfold cAddK mBuyK
  rw [cWr, cWr, cWr, cWr, cWr, mZero_row, ix_nI (by omega)]
  generalize hzz : (fun q => if 9 * k ≤ q ∧ q < 9 * k + 9 then 0 else d 1 q) = zz
  have z0 : ∀ q, 9 * k ≤ q → q < 9 * k + 9 → zz q = 0 := fun q h1 h2 => by rw [← hzz]; exact if_pos ⟨h1, h2⟩
  have z1 : ∀ q, q < 9 * k ∨ 9 * k + 9 ≤ q → zz q = d 1 q := fun q h1 => by rw [← hzz]; exact if_neg (by omega)
  refine ⟨fun q hq => ?_, fun q hq hx y' hy' => ?_, fun q hq => ?_, ?_, ?_, fun j' hj' => ?_, ?_, ?_, fun j' hj' => ?_, fun j' hj' => ?_, ?_, fun q hq hs => ?_⟩
  · by_cases hc : q = k
    · subst hc
      right
      simp (disch := omega) only [cWr, cWn, zU_ne, zU_at]
      exact ⟨nI_nm (by omega), trivial⟩
    · simp (disch := omega) only [cWr, cWn, zU_ne]
      rw [z1 _ (by omega)]
      exact hR.ex q hq
  · by_cases hc : q = k
    · subst hc
      have : y' = 0 ∨ y' = 1 ∨ y' = 2 ∨ y' = 3 ∨ y' = 4 ∨ y' = 5 ∨ y' = 6 ∨ y' = 7 := by omega
      rcases this with r | r | r | r | r | r | r | r <;> subst r
      · simp (disch := omega) only [cWr, cWn, zU_ne, zU_at]
      · simp (disch := omega) only [cWr, cWn, zU_ne, zU_at]
      · simp (disch := omega) only [cWr, cWn, zU_ne, zU_at]; exact g4.symm
      · simp (disch := omega) only [cWr, cWn, zU_ne, zU_at]; exact g5.symm
      · simp (disch := omega) only [cWn, zU_ne]; rw [z0 _ (by omega) (by omega)]; exact g6.symm
      · simp (disch := omega) only [cWn, zU_ne]; rw [z0 _ (by omega) (by omega)]; exact g7.symm
      · simp (disch := omega) only [cWn, zU_ne]; rw [z0 _ (by omega) (by omega)]; exact g8.symm
      · simp (disch := omega) only [cWn, zU_ne]; rw [z0 _ (by omega) (by omega)]; exact g9.symm
    · simp (disch := omega) only [cWr, cWn, zU_ne] at hx
      simp (disch := omega) only [zU_ne]
      rw [z1 _ (by omega), hR.row q hq hx y' hy']
      have key : ∀ (cc : cSt) (a : Nat) (v : Int32), cW cc a k v (2 + y') q = cc (2 + y') q := fun cc a v => by
        unfold cW
        split <;> first | rfl | rw [if_neg hc]
      rw [cWn (by omega), key, key]
  · simp (disch := omega) only [cWr, cWn, zU_ne]
    rw [z1 _ (by omega)]; exact hR.opn q hq
  · simp (disch := omega) only [cWr, cWn, zU_ne]
    rw [z1 _ (by omega)]; exact hR.time
  · simp (disch := omega) only [cWr, cWn, zU_ne]
    rw [z1 _ (by omega)]; exact hR.day
  · simp (disch := omega) only [cWr, cWn, zU_ne]
    rw [z1 _ (by omega)]; exact hR.set j' hj'
  · simp (disch := omega) only [cWr, cWn, zU_ne]
    rw [z1 _ (by omega)]; exact hR.shf
  · simp (disch := omega) only [cWr, cWn, zU_ne]
    rw [z1 _ (by omega)]; exact hR.qrl
  · simp (disch := omega) only [cWr, cWn, zU_ne]
    rw [z1 _ (by omega)]; exact hR.dwn j' hj'
  · simp (disch := omega) only [cWr, cWn, zU_ne]
    rw [z1 _ (by omega)]; exact hR.stp j' hj'
  · simp (disch := omega) only [cWr, cWn, zU_ne]
    rw [z1 _ (by omega)]; exact hR.siz
  · simp (disch := omega) only [cWn] at hs
    simp (disch := omega) only [cWr, cWn, zU_ne]
    rw [z1 _ (by omega), z1 _ (by omega)]; exact hR.who q hq hs
theorem buyK_inv {c : cSt} {h k : Nat} {y : Int32} (hI : Inv 24 c) (hh : h < 24) (h12 : c 12 h = -1) (hk : k < 16) (he : c 2 k = -1) : Inv 24 (cAddK c (nI h) y k) := by
  obtain ⟨g4, g5, g6, g7, g8, g9⟩ := hI.non k hk he
  unfold cAddK Inv
  rw [ix_nI (by omega)]
  simp (disch := omega) only [cWr, cWn]
  have hx' : ∀ q, ¬ c 2 q = -1 → ¬ zU (c 2) k (nI h) q = -1 := fun q hx w => by
    by_cases hc : q = k
    · rw [hc, zU_at] at w; exact nI_nm (by omega) w
    · rw [zU_ne hc] at w; exact hx w
  have hx2 : ∀ q, q ≠ k → ¬ zU (c 2) k (nI h) q = -1 → ¬ c 2 q = -1 := fun q hc w => by rw [zU_ne hc] at w; exact w
  refine ⟨fun q hq hx => ?_, fun q hq hx => ?_, fun q hq hx => ?_, fun q hq hn => ?_, fun q hq hx j hj hp => ?_, fun j hj => ?_, fun q hq j hj hp => ?_, fun q hq hx => ?_, hI.mst⟩
  · by_cases hc : q = k
    · rw [hc, zU_at]; exact ⟨h, hh, rfl⟩
    · rw [zU_ne hc]; exact hI.own q hq (hx2 q hc hx)
  · by_cases hc : q = k
    · rw [hc]; exact Or.inl g4
    · exact hI.plc q hq (hx2 q hc hx)
  · by_cases hc : q = k
    · rw [hc]; exact Or.inl g5
    · rcases hI.mat q hq (hx2 q hc hx) with e | ⟨m, hm, e, hx3, r⟩
      · exact Or.inl e
      · exact Or.inr ⟨m, hm, e, hx' m hx3, r⟩
  · rcases hI.sit q hq hn with e | ⟨m, hm, e, hx3, r⟩
    · exact Or.inl e
    · exact Or.inr ⟨m, hm, e, hx' m hx3, r⟩
  · by_cases hc : q = k
    · rw [hc, g4] at hp; exact (nI_nm (by omega) hp.symm).elim
    · exact hI.stt q hq (hx2 q hc hx) j hj hp
  · by_cases hc : j = h
    · rw [hc, zU_at]; exact Or.inr ⟨k, hk, rfl, by rw [zU_at]⟩
    · rw [zU_ne hc]
      rcases hI.wnr j hj with e | ⟨m, hm, e, r⟩
      · exact Or.inl e
      · refine Or.inr ⟨m, hm, e, ?_⟩
        have : m ≠ k := fun w => by rw [w, he] at r; exact nI_nm (by omega) r.symm
        rw [zU_ne this]; exact r
  · by_cases hc : q = k
    · rw [hc, zU_at] at hp
      have := nI_inj (by omega) (by omega) hp
      rw [hc, ← this, zU_at]
    · rw [zU_ne hc] at hp
      have : j ≠ h := fun w => by
        have := hI.wnt q hq j hj hp
        rw [w, h12] at this
        exact nI_nm (by omega) this.symm
      rw [zU_ne this]
      exact hI.wnt q hq j hj hp
  · have hc : q ≠ k := fun w => by rw [w, zU_at] at hx; exact nI_nm (by omega) hx
    rw [zU_ne hc] at hx
    exact hI.non q hq hx
theorem buy_SR {B : Nat} {c d : cSt} {h : Nat} {y : Int32} (hS : SR B c (d 1)) (hh : h < 24) (hw : cWhyBuy c (nI h) = 0) : SR B (cAdd c (nI h) y).2 ((mBuy d (nI h) y).2 1) ∧ (cAdd c (nI h) y).1 = (mBuy d (nI h) y).1 ∧ ∃ kf, mFirstF d 16 0 = some kf := by
  obtain ⟨hR, hI, hsz, hn⟩ := hS
  obtain ⟨h12, k, hk, hf, he⟩ := whyBuy_0 hh hw
  have hf2 : mFirstF d 16 0 = some k := by rw [← firstF_sim hR 16 0 (by omega)]; exact hf
  unfold cAdd mBuy
  rw [hf, hf2]
  refine ⟨⟨buyK_rel hR hI hh hk he, buyK_inv hI hh h12 hk he, ?_, ?_⟩, rfl, k, rfl⟩
  · show ∃ w, w ≤ 25 ∧ cAddK c (nI h) y k 17 2 = nI w
    unfold cAddK
    simp (disch := omega) only [cWn]; exact hsz
  · show ∃ n, n ≤ B ∧ cAddK c (nI h) y k 0 8 = nI n
    unfold cAddK
    simp (disch := omega) only [cWn]; exact hn
