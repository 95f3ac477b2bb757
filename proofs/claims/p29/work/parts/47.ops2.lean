/-! selling, dawn: the cote and the law's numbers -/
theorem zU_zU {f : Nat → Int32} {i : Nat} {v w : Int32} : zU (zU f i v) i w = zU f i w := by
  funext q; unfold zU; split <;> rfl
theorem Inv.gone {c c' : cSt} (hI : Inv 24 c) {k : Nat} (hk : k < 16) (h2 : c' 2 = zU (c 2) k (-1)) (h4 : c' 4 = zU (c 4) k (-1)) (h5k : c' 5 k = -1) (h5 : ∀ q, q < 16 → q ≠ k → c' 5 q = if c 5 q = nI k then -1 else c 5 q) (h11 : ∀ h, h < 24 → c' 11 h = if c 11 h = nI k then -1 else c 11 h) (h12 : ∀ h, h < 24 → c' 12 h = if c 12 h = nI k then -1 else c 12 h) (hr : ∀ y, 4 ≤ y → y < 8 → c' (2 + y) = zU (c (2 + y)) k 0) (h14 : c' 14 = c 14) : Inv 24 c' := by
  have x2 : ∀ q, ¬ zU (c 2) k (-1) q = -1 → q ≠ k ∧ ¬ c 2 q = -1 := fun q w => by
    by_cases hc : q = k
    · rw [hc, zU_at] at w; exact absurd rfl w
    · rw [zU_ne hc] at w; exact ⟨hc, w⟩
  have y2 : ∀ q, q ≠ k → ¬ c 2 q = -1 → ¬ zU (c 2) k (-1) q = -1 := fun q hc w => by rw [zU_ne hc]; exact w
  unfold Inv
  rw [h2, h4, h14]
  refine ⟨fun q hq hx => ?_, fun q hq hx => ?_, fun q hq hx => ?_, fun q hq hn => ?_, fun q hq hx j hj hp => ?_, fun j hj => ?_, fun q hq j hj hp => ?_, fun q hq hx => ?_, hI.mst⟩
  · obtain ⟨hc, hx⟩ := x2 q hx
    rw [zU_ne hc]; exact hI.own q hq hx
  · obtain ⟨hc, hx⟩ := x2 q hx
    rw [zU_ne hc]; exact hI.plc q hq hx
  · obtain ⟨hc, hx⟩ := x2 q hx
    rw [h5 q hq hc]
    rcases hI.mat q hq hx with e | ⟨m, hm, e, hx3, r, hne⟩
    · rw [e]; exact Or.inl (by split <;> rfl)
    · by_cases hmk : m = k
      · subst hmk
        rw [e, if_pos rfl]; exact Or.inl rfl
      · rw [e, if_neg (fun w => hmk (nI_inj (by omega) (by omega) w))]
        refine Or.inr ⟨m, hm, rfl, y2 m hmk hx3, ?_, hne⟩
        rw [h5 m hm hmk, r, if_neg (fun w => hc (nI_inj (by omega) (by omega) w))]
  · rw [h11 q hq]
    rcases hI.sit q hq hn with e | ⟨m, hm, e, hx3, r⟩
    · rw [e]; exact Or.inl (by split <;> rfl)
    · by_cases hmk : m = k
      · subst hmk
        rw [e, if_pos rfl]; exact Or.inl rfl
      · rw [e, if_neg (fun w => hmk (nI_inj (by omega) (by omega) w))]
        exact Or.inr ⟨m, hm, rfl, y2 m hmk hx3, by rw [zU_ne hmk]; exact r⟩
  · obtain ⟨hc, hx⟩ := x2 q hx
    rw [zU_ne hc] at hp
    have := hI.stt q hq hx j hj hp
    rw [h11 j hj, this, if_neg (fun w => hc (nI_inj (by omega) (by omega) w))]
  · rw [h12 j hj]
    rcases hI.wnr j hj with e | ⟨m, hm, e, r⟩
    · rw [e]; exact Or.inl (by split <;> rfl)
    · by_cases hmk : m = k
      · subst hmk
        rw [e, if_pos rfl]; exact Or.inl rfl
      · rw [e, if_neg (fun w => hmk (nI_inj (by omega) (by omega) w))]
        exact Or.inr ⟨m, hm, rfl, by rw [zU_ne hmk]; exact r⟩
  · by_cases hc : q = k
    · rw [hc, zU_at] at hp; exact (nI_nm (by omega) hp.symm).elim
    · rw [zU_ne hc] at hp
      have := hI.wnt q hq j hj hp
      rw [h12 j hj, this, if_neg (fun w => hc (nI_inj (by omega) (by omega) w))]
  · have e6 : c' 6 = zU (c 6) k 0 := hr 4 (by omega) (by omega)
    have e7 : c' 7 = zU (c 7) k 0 := hr 5 (by omega) (by omega)
    have e8 : c' 8 = zU (c 8) k 0 := hr 6 (by omega) (by omega)
    have e9 : c' 9 = zU (c 9) k 0 := hr 7 (by omega) (by omega)
    rw [e6, e7, e8, e9]
    by_cases hc : q = k
    · rw [hc, zU_at, zU_at, zU_at, zU_at, zU_at]; exact ⟨rfl, h5k, rfl, rfl, rfl, rfl⟩
    · rw [zU_ne hc] at hx
      obtain ⟨g4, g5, g6, g7, g8, g9⟩ := hI.non q hq hx
      rw [zU_ne hc, zU_ne hc, zU_ne hc, zU_ne hc, zU_ne hc, h5 q hq hc, g5]
      exact ⟨g4, by split <;> rfl, g6, g7, g8, g9⟩
theorem cZero_row {c : cSt} {k : Nat} : ∀ n r, cZero c k n r = if 2 ≤ r ∧ r < 2 + n then zU (c r) k 0 else c r
  | 0, r => by rw [if_neg (by omega)]; rfl
  | n + 1, r => by
    unfold cZero
    by_cases h : r = 2 + n
    · subst h
      rw [cWr, cZero_row n, if_neg (by omega), if_pos (by omega)]
    · rw [cWn h, cZero_row n]
      by_cases h2 : 2 ≤ r ∧ r < 2 + n
      · rw [if_pos h2, if_pos (by omega)]
      · rw [if_neg h2, if_neg (by omega)]
/-- what is left of the others, when k goes -/
theorem cRem_rows {c : cSt} (hI : Inv 24 c) {k : Nat} (hk : k < 16) (he : ¬ c 2 k = -1) :
    cRem c (nI k) 2 = zU (c 2) k (-1) ∧ cRem c (nI k) 4 = zU (c 4) k (-1) ∧ cRem c (nI k) 5 k = -1 ∧ (∀ q, q < 16 → q ≠ k → cRem c (nI k) 5 q = if c 5 q = nI k then -1 else c 5 q) ∧ (∀ h, h < 24 → cRem c (nI k) 11 h = if c 11 h = nI k then -1 else c 11 h) ∧ (∀ h, h < 24 → cRem c (nI k) 12 h = if c 12 h = nI k then -1 else c 12 h) ∧ (∀ y, 4 ≤ y → y < 8 → cRem c (nI k) (2 + y) = zU (c (2 + y)) k 0) ∧ cRem c (nI k) 3 = zU (c 3) k 0 ∧ (∀ r, r = 0 ∨ 13 ≤ r → cRem c (nI k) r = c r) := by
  obtain ⟨w, hw, ew⟩ := hI.own k hk he
  have eA : cRemA c (nI k) = cW c 12 w (-1) := by
    unfold cRemA
    rw [ix_nI (by omega), ew, if_pos ((hHole_nI (by omega)).mpr hw), ix_nI (by omega)]
  have eB : ∀ r, r ≠ 11 → cRemB c (nI k) r = cW c 12 w (-1) r := fun r hr => by
    unfold cRemB
    rw [eA]
    split
    · rw [cWn hr]
    · rfl
  have eB11 : ∀ h, h < 24 → cRemB c (nI k) 11 h = if c 11 h = nI k then -1 else c 11 h := fun h hh => by
    unfold cRemB
    rw [eA, ix_nI (by omega)]
    rcases hI.plc k hk he with e | ⟨n, hn, e⟩
    · rw [e, if_neg (by decide), cWn (by omega)]
      rw [if_neg]
      intro hc
      rcases hI.sit h hh (by omega) with e' | ⟨m, hm, e', hx3, r⟩
      · exact nI_nm (a := k) (by omega) (hc.symm.trans e')
      · have := nI_inj (by omega) (by omega) (hc.symm.trans e')
        rw [← this, e] at r
        exact nI_nm (by omega) r.symm
    · by_cases h24 : n = 24
      · subst h24
        rw [e, if_neg (by decide), cWn (by omega)]
        rw [if_neg]
        intro hc
        rcases hI.sit h hh (by omega) with e' | ⟨m, hm, e', hx3, r⟩
        · exact nI_nm (a := k) (by omega) (hc.symm.trans e')
        · have := nI_inj (by omega) (by omega) (hc.symm.trans e')
          rw [← this, e] at r
          have := nI_inj (a := 24) (by omega) (by omega) r
          omega
      · rw [e, if_pos ((hHole_nI (by omega)).mpr (by omega)), ix_nI (by omega), cWr, cWn (by omega)]
        have hs := hI.stt k hk he n (by omega) e
        by_cases hc : h = n
        · rw [hc, zU_at, hs, if_pos rfl]
        · rw [zU_ne hc, if_neg]
          intro hc2
          rcases hI.sit h hh (by omega) with e' | ⟨m, hm, e', hx3, r⟩
          · exact nI_nm (a := k) (by omega) (hc2.symm.trans e')
          · have := nI_inj (by omega) (by omega) (hc2.symm.trans e')
            rw [← this, e] at r
            exact hc (nI_inj (by omega) (by omega) r).symm
  have eC : ∀ r, r ≠ 5 → cRemC c (nI k) r = cRemB c (nI k) r := fun r hr => by
    unfold cRemC
    split
    · rw [cWn hr]
    · rfl
  have eC5 : ∀ q, q < 16 → q ≠ k → cRemC c (nI k) 5 q = if c 5 q = nI k then -1 else c 5 q := fun q hq hqk => by
    have b5 : cRemB c (nI k) 5 = c 5 := by rw [eB 5 (by omega), cWn (by omega)]
    have b2 : cRemB c (nI k) 2 = c 2 := by rw [eB 2 (by omega), cWn (by omega)]
    have hq2 : c 5 q = nI k → ¬ c 2 q = -1 := fun w hx => by
      rw [(hI.non q hq hx).2.1] at w; exact nI_nm (by omega) w.symm
    unfold cRemC
    rw [ix_nI (by omega)]
    rcases hI.mat k hk he with e | ⟨m, hm, e, hx3, r, hne⟩
    · rw [e, cEx_m1, if_neg (by decide), b5, if_neg]
      intro w
      rcases hI.mat q hq (hq2 w) with e' | ⟨m, hm, e', hx3, r, hne⟩
      · exact nI_nm (a := k) (by omega) (w.symm.trans e')
      · have := nI_inj (by omega) (by omega) (w.symm.trans e')
        rw [← this, e] at r
        exact nI_nm (by omega) r.symm
    · rw [e, if_pos ((cEx_nI hm).mpr (by rw [b2]; exact hx3)), ix_nI (by omega), cWr, b5]
      by_cases hc : q = m
      · rw [hc, zU_at, r, if_pos rfl]
      · rw [zU_ne hc, if_neg]
        intro w
        rcases hI.mat q hq (hq2 w) with e' | ⟨m', hm', e', hx3', r', hne'⟩
        · exact nI_nm (a := k) (by omega) (w.symm.trans e')
        · have := nI_inj (by omega) (by omega) (w.symm.trans e')
          rw [← this, e] at r'
          exact hc (nI_inj (by omega) (by omega) r').symm
  have e1 : ∀ r, r ≠ 2 → r ≠ 4 → r ≠ 5 → cRem c (nI k) r = if 2 ≤ r ∧ r < 2 + 8 then zU (cRemC c (nI k) r) k 0 else cRemC c (nI k) r := fun r n2 n4 n5 => by
    unfold cRem cRem1
    rw [ix_nI (by omega), cWn n5, cWn n4, cWn n2, cZero_row]
  refine ⟨?_, ?_, ?_, ?_, ?_, ?_, ?_, ?_, ?_⟩
  · unfold cRem cRem1
    rw [ix_nI (by omega)]
    simp (disch := omega) only [cWn, cWr]
    rw [cZero_row, if_pos (by omega), zU_zU, eC 2 (by omega), eB 2 (by omega), cWn (by omega)]
  · unfold cRem cRem1
    rw [ix_nI (by omega)]
    simp (disch := omega) only [cWn, cWr]
    rw [cZero_row, if_pos (by omega), zU_zU, eC 4 (by omega), eB 4 (by omega), cWn (by omega)]
  · unfold cRem cRem1
    rw [ix_nI (by omega)]
    simp (disch := omega) only [cWr, zU_at]
  · intro q hq hqk
    unfold cRem cRem1
    rw [ix_nI (by omega)]
    simp (disch := omega) only [cWn, cWr, zU_ne]
    rw [cZero_row, if_pos (by omega), zU_ne hqk]
    exact eC5 q hq hqk
  · intro h hh
    rw [e1 11 (by omega) (by omega) (by omega), if_neg (by omega), eC 11 (by omega)]
    exact eB11 h hh
  · intro h hh
    rw [e1 12 (by omega) (by omega) (by omega), if_neg (by omega), eC 12 (by omega), eB 12 (by omega), cWr]
    by_cases hc : h = w
    · rw [hc, zU_at, hI.wnt k hk w hw ew, if_pos rfl]
    · rw [zU_ne hc, if_neg]
      intro hc2
      rcases hI.wnr h hh with e' | ⟨m, hm, e', r⟩
      · exact nI_nm (a := k) (by omega) (hc2.symm.trans e')
      · have := nI_inj (by omega) (by omega) (hc2.symm.trans e')
        rw [← this, ew] at r
        exact hc (nI_inj (by omega) (by omega) r).symm
  · intro y h4 h8
    rw [e1 (2 + y) (by omega) (by omega) (by omega), if_pos (by omega), eC _ (by omega), eB _ (by omega), cWn (by omega)]
  · rw [e1 3 (by omega) (by omega) (by omega), if_pos (by omega), eC _ (by omega), eB _ (by omega), cWn (by omega)]
  · intro r hr
    rw [e1 r (by omega) (by omega) (by omega), if_neg (by omega), eC _ (by omega), eB _ (by omega), cWn (by omega)]
theorem RelL.gone {b : Prop} {c c' v : cSt} (h : RelL b c v) {k : Nat} (hk : k < 16) (hx : ¬ c 2 k = -1) (h2 : c' 2 = zU (c 2) k (-1)) (hr : ∀ y, 1 ≤ y → y < 8 → ∀ q, q < 16 → q ≠ k → c' (2 + y) q = c (2 + y) q) (ho : ∀ r, r = 0 ∨ 13 ≤ r → c' r = c r) : RelL b c' (cW v 0 0 (v 0 0 ^^^ ((1 : Int32) <<< (nI k &&& 31)))) := by
  refine ⟨fun q hq => ?_, fun q hq he y' hy' => ?_, fun q hq he y' hy' => ?_, fun q hq => ?_, ?_, ?_, fun j' hj' => ?_, ?_, ?_, fun j' hj' => ?_, ?_, fun hb q hq hs => ?_⟩
  · unfold lIs
    rw [cWr, zU_at, lBit_flip (by omega)]
    have hold := h.ex q hq
    unfold lIs at hold
    rw [hold]
    by_cases hc : q = k
    · subst hc
      rw [decide_eq_true hk, decide_eq_true rfl, (cEx_nI hk).mpr hx]
      symm
      show (true && cEx c' (nI q)) = false
      rw [Bool.true_and, ← Bool.not_eq_true, cEx_nI hk, h2, zU_at]
      exact fun w => w rfl
    · rw [decide_eq_false hc, Bool.xor_false]
      by_cases h16 : q < 16
      · congr 1
        rw [Bool.eq_iff_iff, cEx_nI h16, cEx_nI h16, h2, zU_ne hc]
      · rw [decide_eq_false h16]; rfl
  · rw [h2] at he
    have hc : q ≠ k := fun w => he (by rw [w, zU_at])
    rw [zU_ne hc] at he
    rw [cWn (by omega), h.row q hq he y' hy']
    by_cases h0 : y' = 0
    · subst h0
      show c 2 q = c' 2 q
      rw [h2, zU_ne hc]
    · exact (hr y' (by omega) (by omega) q hq hc).symm
  · rw [h2] at he
    have hc : q ≠ k := fun w => he (by rw [w, zU_at])
    rw [zU_ne hc] at he
    rw [cWn (by omega), h.rob q hq he y' hy', show 6 + y' = 2 + (4 + y') by omega]
    exact (hr (4 + y') (by omega) (by omega) q hq hc).symm
  · rw [ho 13 (by omega), cWr, zU_ne (by omega)]; exact h.opn q hq
  · rw [ho 0 (by omega), cWr, zU_ne (by omega)]; exact h.time
  · rw [ho 0 (by omega), cWr, zU_ne (by omega)]; exact h.day
  · rw [ho 14 (by omega), cWr, zU_ne (by omega)]; exact h.set j' hj'
  · rw [ho 0 (by omega), cWr, zU_ne (by omega)]; exact h.shf
  · rw [ho 0 (by omega), cWr, zU_ne (by omega)]; exact h.qrl
  · rw [ho 15 (by omega), cWr, zU_ne (by omega)]; exact h.dwn j' hj'
  · rw [ho 17 (by omega), cWr, zU_ne (by omega)]; exact h.siz
  · rw [ho 17 (by omega)] at hs
    rw [ho 18 (by omega), ho 19 (by omega), cWn (by omega)]; exact h.who hb q hq hs
theorem sellL_SR {B : Nat} {c v : cSt} (hS : SRL B c v) {k : Nat} (hk : k < 16) (he : ¬ c 2 k = -1) : SRL B (cRem c (nI k)) (lSel v k) ∧ lSel v k 1 (4 * k + 2) = c 4 k := by
  obtain ⟨hR, hI, hsz, hn, ht⟩ := hS
  obtain ⟨r2, r4, r5k, r5, r11, r12, r6, r3, r0⟩ := cRem_rows hI hk he
  have d4 : v 1 (4 * k + 3) = c 5 k := hR.row k hk he 3 (by omega)
  have d3 : v 1 (4 * k + 2) = c 4 k := hR.row k hk he 2 (by omega)
  have hInv := hI.gone hk r2 r4 r5k r5 r11 r12 r6 (r0 14 (by omega))
  unfold lSel
  rw [d4]
  have hrow : ∀ cc : cSt, (∀ r, r ≠ 5 → cc r = c r) → (∀ q, q < 16 → cc 5 q = if c 5 q = nI k then -1 else c 5 q) → ∀ y, 1 ≤ y → y < 8 → ∀ q, q < 16 → q ≠ k → cRem c (nI k) (2 + y) q = cc (2 + y) q := fun cc h1 h5 y hy1 hy8 q hq hqk => by
    by_cases y3 : y = 3
    · subst y3
      show cRem c (nI k) 5 q = cc 5 q
      rw [r5 q hq hqk, h5 q hq]
    · rw [h1 _ (by omega)]
      have : y = 1 ∨ y = 2 ∨ 4 ≤ y := by omega
      rcases this with q1 | q1 | q1
      · subst q1
        show cRem c (nI k) 3 q = c 3 q
        rw [r3, zU_ne hqk]
      · subst q1
        show cRem c (nI k) 4 q = c 4 q
        rw [r4, zU_ne hqk]
      · rw [r6 y q1 hy8, zU_ne hqk]
  have hmt : ∀ q, q < 16 → c 5 q = nI k → c 5 k = nI q := fun q hq w => by
    by_cases hx : c 2 q = -1
    · rw [(hI.non q hq hx).2.1] at w; exact (nI_nm (by omega) w.symm).elim
    · rcases hI.mat q hq hx with e' | ⟨m, hm, e', hx3, r, hne⟩
      · exact (nI_nm (a := k) (by omega) (w.symm.trans e')).elim
      · have := nI_inj (by omega) (by omega) (w.symm.trans e')
        rw [this]; exact r
  have hrest : (∃ w, w ≤ 25 ∧ cRem c (nI k) 17 2 = nI w) ∧ (∃ n, n ≤ B ∧ cRem c (nI k) 0 8 = nI n) ∧ (∃ n, n ≤ 1439 ∧ cRem c (nI k) 0 7 = nI n) := by
    rw [r0 17 (by omega), r0 0 (by omega)]; exact ⟨hsz, hn, ht⟩
  rcases hI.mat k hk he with e | ⟨m, hm, e, hx3, r, hne⟩
  · rw [e, if_pos (show (-1 : Int32) < 0 by decide)]
    refine ⟨⟨hR.gone hk he r2 (hrow c (fun _ _ => rfl) fun q hq => ?_) r0, hInv, hrest⟩, by rw [cWn (by omega)]; exact d3⟩
    rw [if_neg]
    intro w
    have := hmt q hq w
    rw [e] at this
    exact nI_nm (by omega) this.symm
  · rw [e, if_neg (nI_pos (by omega)), ix_nI (by omega), cW_comm (by omega)]
    have hR1 : RelL True (cW c 5 m (-1)) (cW v 1 (4 * m + 3) (-1)) := hR.uRow (y := 3) hm (by omega) (by omega)
    have hg := hR1.gone (c' := cRem c (nI k)) hk (by rw [cWn (by omega)]; exact he) (by rw [cWn (by omega)]; exact r2) (hrow (cW c 5 m (-1)) (fun r hr => cWn hr) fun q hq => ?_) (fun r hr => by rw [cWn (by omega)]; exact r0 r hr)
    · rw [show cW v 1 (4 * m + 3) (-1) 0 0 = v 0 0 from rfl] at hg
      exact ⟨⟨hg, hInv, hrest⟩, by rw [cWn (by omega), cWr, zU_ne (by omega)]; exact d3⟩
    · rw [cWr]
      by_cases hc : q = m
      · rw [hc, zU_at, r, if_pos rfl]
      · rw [zU_ne hc, if_neg]
        intro w
        have := hmt q hq w
        rw [e] at this
        exact hc (nI_inj (by omega) (by omega) this).symm
/-! dawn -/
theorem cW_0 {c : cSt} {j i : Nat} {x : Int32} (h : x = c j i) : cW c j i (x + 0) = c := by rw [Int32.add_zero, h, cW_same]
theorem dwL_sim {b : Prop} {c v : cSt} (hR : RelL b c v) (hO : ∀ k, k < 16 → ¬ c 2 k = -1 → ∃ n, n < 24 ∧ c 2 k = nI n) {k : Nat} (hk : k < 16) (he : ¬ c 2 k = -1) (hp : c 4 k = -1 ∨ ∃ n, n < 25 ∧ c 4 k = nI n) : RelL b (cW (cDw c (nI k)) 4 k (-1)) (lDw v k) := by
  have h3 : v 1 (4 * k + 2) = c 4 k := hR.row k hk he 2 (by omega)
  have h1 : v 1 (4 * k) = c 2 k := hR.row k hk he 0 (by omega)
  have h7 : v 2 (4 * k + 2) = c 8 k := hR.rob k hk he 2 (by omega)
  have h8 : v 2 (4 * k + 3) = c 9 k := hR.rob k hk he 3 (by omega)
  obtain ⟨w, hw, ew⟩ := hO k hk he
  unfold lDw lDi cDw
  rw [ix_nI (by omega), h3, h1]
  rcases hp with e0 | ⟨n, hn, e0⟩
  · rw [e0, if_pos (show (-1 : Int32) < 0 by decide), if_pos (show (-1 : Int32) < 0 by decide), if_pos rfl, if_neg (show ¬ (-1 : Int32) = c 2 k from fun q => he q.symm)]
    rw [cW_0 (show v 2 (4 * k + 3) = cW (cW v 0 11 (v 0 11 + 1)) 2 (4 * k + 2) (v 2 (4 * k + 2) + 1) 2 (4 * k + 3) by rw [cWr, zU_ne (by omega), cWn (by omega)]), h7, show v 0 11 = c 15 3 from hR.dwn 3 (by omega)]
    exact ((hR.uDwn (j := 3) (by omega)).uRob (y := 2) hk (by omega)).uRow (y := 2) hk (by omega) (by omega)
  · rw [e0, if_neg (nI_pos (by omega)), if_neg (nI_pos (by omega)), if_neg (nI_nm (by omega))]
    by_cases h24 : n = 24
    · subst h24
      rw [if_pos (show nI 24 = 24 from rfl), if_pos (show nI 24 = 24 from rfl), if_neg (show ¬ nI 24 = c 2 k by rw [ew, nI_eq (by omega) (by omega)]; omega)]
      rw [cW_0 (show v 2 (4 * k + 2) = cW v 0 10 (v 0 10 + 1) 2 (4 * k + 2) by rw [cWn (by omega)]), cW_0 (show v 2 (4 * k + 3) = cW v 0 10 (v 0 10 + 1) 2 (4 * k + 3) by rw [cWn (by omega)]), show v 0 10 = c 15 2 from hR.dwn 2 (by omega)]
      exact (hR.uDwn (j := 2) (by omega)).uRow (y := 2) hk (by omega) (by omega)
    · have hn24 : ¬ nI n = 24 := fun q => h24 (nI_inj (b := 24) (by omega) (by omega) q)
      rw [if_neg hn24, if_neg hn24]
      by_cases ho : nI n = c 2 k
      · rw [if_pos ho, if_pos ho, if_pos ho]
        rw [cW_0 (show v 2 (4 * k + 2) = cW v 0 8 (v 0 8 + 1) 2 (4 * k + 2) by rw [cWn (by omega)]), h8, show v 0 8 = c 15 0 from hR.dwn 0 (by omega)]
        exact ((hR.uDwn (j := 0) (by omega)).uRob (y := 3) hk (by omega)).uRow (y := 2) hk (by omega) (by omega)
      · rw [if_neg ho, if_neg ho, if_neg ho]
        rw [cW_0 (show v 2 (4 * k + 2) = cW v 0 9 (v 0 9 + 1) 2 (4 * k + 2) by rw [cWn (by omega)]), cW_0 (show v 2 (4 * k + 3) = cW v 0 9 (v 0 9 + 1) 2 (4 * k + 3) by rw [cWn (by omega)]), show v 0 9 = c 15 1 from hR.dwn 1 (by omega)]
        exact (hR.uDwn (j := 1) (by omega)).uRow (y := 2) hk (by omega) (by omega)
theorem n1L_sim {b : Prop} {c v : cSt} (hR : RelL b c v) : ∀ n, n ≤ 4 → RelL b (cN1 c n) (lDn1 v n)
  | 0, _ => hR
  | n + 1, hn => by
    unfold cN1 lDn1
    exact (n1L_sim hR n (by omega)).uDwn (by omega)
theorem n2L_sim {b : Prop} {c v : cSt} (hR : RelL b c v) (hI : Inv 24 c) (h0 : c 15 0 = 0) (h1 : c 15 1 = 0) : ∀ n, n ≤ 16 → RelL b (cN2 c n) (lDn2 v n) ∧ N2s c n (cN2 c n)
  | 0, _ => ⟨hR, fun _ _ _ _ _ => rfl, fun _ _ => ⟨rfl, rfl, rfl⟩, fun q h => absurd h (by omega), ⟨0, 0, h0, h1, rfl⟩⟩
  | n + 1, hn => by
    obtain ⟨ihR, i1, i2, i3, a, b, ia, ib, iab⟩ := n2L_sim hR hI h0 h1 n (by omega)
    have hex : cEx (cN2 c n) (nI n) = cEx c (nI n) := by
      rw [Bool.eq_iff_iff, cEx_nI (by omega), cEx_nI (by omega), i1 2 (by omega) (by omega) (by omega) (by omega)]
    unfold cN2 lDn2
    rw [ihR.exs n (by omega), hex]
    by_cases he : cEx c (nI n) = true
    · have he' := cEx_at (by omega) he
      have e2 : cN2 c n 2 = c 2 := i1 2 (by omega) (by omega) (by omega) (by omega)
      have e4 : cN2 c n 4 n = c 4 n := (i2 n (Or.inl (Nat.le_refl n))).1
      rw [if_pos he, if_pos he]
      obtain ⟨a', b', ga, gb, gab⟩ := cDw_s (c := cN2 c n) (k := n) (by omega) (by rw [e4]; exact hI.plc n (by omega) he') ia ib
      refine ⟨dwL_sim ihR (by rw [e2]; exact hI.own) (by omega) (by rw [e2]; exact he') (by rw [e4]; exact hI.plc n (by omega) he'), ?_, ?_, ?_, ?_⟩
      · intro j j4 j8 j9 j15
        rw [cWn j4, cDw_row j8 j9 j15]; exact i1 j j4 j8 j9 j15
      · intro q hq
        have hqn : q ≠ n := fun w => by rcases hq with r | r; · omega
                                        · exact he' (w ▸ r)
        have hi : q ≠ ix (nI n) := by rw [ix_nI (by omega)]; exact hqn
        have hq' : n ≤ q ∨ c 2 q = -1 := by rcases hq with r | r; · exact Or.inl (by omega)
                                            · exact Or.inr r
        obtain ⟨r1, r2, r3⟩ := i2 q hq'
        refine ⟨?_, ?_, ?_⟩
        · rw [cWr, zU_ne hqn, cDw_89 (by omega) hi]; exact r1
        · rw [cWn (by omega), cDw_89 (by omega) hi]; exact r2
        · rw [cWn (by omega), cDw_89 (by omega) hi]; exact r3
      · intro q hq hx
        rw [cWr]
        by_cases hc : q = n
        · rw [hc, zU_at]
        · rw [zU_ne hc, cDw_89 (by omega) (by rw [ix_nI (by omega)]; exact hc)]
          exact i3 q (by omega) hx
      · refine ⟨a', b', by rw [cWn (by omega)]; exact ga, by rw [cWn (by omega)]; exact gb, ?_⟩
        show _ = (if (cEx c (nI n) && hHole (c 4 n)) = true then cnt _ n + 1 else cnt _ n)
        rw [gab, iab, e4, he, Bool.true_and]
        split <;> rfl
    · rw [if_neg he, if_neg he]
      rw [Bool.not_eq_true] at he
      have hc : cnt (fun k => cEx c (nI k) && hHole (c 4 k)) (n + 1) = cnt (fun k => cEx c (nI k) && hHole (c 4 k)) n := by
        show (if (cEx c (nI n) && hHole (c 4 n)) = true then _ else _) = _
        rw [he, Bool.false_and, if_neg (by decide)]
      refine ⟨ihR, i1, ?_, ?_, a, b, ia, ib, by rw [hc]; exact iab⟩
      · intro q hq
        refine i2 q ?_
        rcases hq with r | r
        · exact Or.inl (by omega)
        · exact Or.inr r
      · intro q hq hx
        refine i3 q ?_ hx
        have : q ≠ n := fun w => by
          subst w
          rw [(cEx_nI (by omega)).mpr hx] at he
          cases he
        omega
theorem n3L_sim {b : Prop} {c v : cSt} (hR : RelL b c v) : ∀ n, RelL b (cN3 c n) v
  | 0 => hR
  | n + 1 => by unfold cN3; exact (n3L_sim hR n).uRest (by omega)
theorem nightL_SR {B : Nat} {c v : cSt} (hS : SRL B c v) : SRL B (cNight c) (lDawn v) ∧ cNightR c = lMany v 0 23 := by
  obtain ⟨hR, hI, ⟨w, hw, hsz⟩, ⟨n0, hn0, h8⟩, -⟩ := hS
  have hR1 := n1L_sim hR 4 (Nat.le_refl 4)
  have r1 : ∀ j, j ≠ 15 → cN1 c 4 j = c j := fun j hj => cN1_row hj 4
  have hI1 : Inv 24 (cN1 c 4) := hI.congr (r1 2 (by omega)) (r1 4 (by omega)) (r1 5 (by omega)) (r1 11 (by omega)) (r1 12 (by omega)) (by rw [r1 14 (by omega)]) (fun k _ => by rw [r1 6 (by omega)]) (fun k _ => by rw [r1 7 (by omega)]) (fun k _ => by rw [r1 8 (by omega)]) (fun k _ => by rw [r1 9 (by omega)])
  obtain ⟨hR2, i1, i2, i3, a, b, ia, ib, iab⟩ := n2L_sim hR1 hI1 (cN1_15 4 0 (by omega)) (cN1_15 4 1 (by omega)) 16 (Nat.le_refl 16)
  have hR3 := n3L_sim hR2 24
  have rr : ∀ j, j ≠ 4 → j ≠ 8 → j ≠ 9 → j ≠ 15 → j ≠ 11 → cNightL c j = c j := fun j j4 j8 j9 j15 j11 => by
    unfold cNightL
    rw [n3_row j11, i1 j j4 j8 j9 j15, r1 j j15]
  have r4 : ∀ k, k < 16 → cNightL c 4 k = -1 := fun k hk => by
    unfold cNightL
    rw [n3_row (by omega)]
    by_cases hx : c 2 k = -1
    · have hx' : cN1 c 4 2 k = -1 := by rw [r1 2 (by omega)]; exact hx
      rw [(i2 k (Or.inr hx')).1, r1 4 (by omega)]
      exact (hI.non k hk hx).1
    · exact i3 k hk (by rw [r1 2 (by omega)]; exact hx)
  have r8 : ∀ k, c 2 k = -1 → cNightL c 8 k = c 8 k ∧ cNightL c 9 k = c 9 k := fun k hx => by
    have hx' : cN1 c 4 2 k = -1 := by rw [r1 2 (by omega)]; exact hx
    unfold cNightL
    rw [n3_row (by omega), n3_row (by omega), (i2 k (Or.inr hx')).2.1, (i2 k (Or.inr hx')).2.2, r1 8 (by omega), r1 9 (by omega)]
    exact ⟨rfl, rfl⟩
  have hRL : RelL True (cNightL c) (lDn2 (lDn1 v 4) 16) := hR3
  have hRN : RelL True (cNight c) (lDawn v) := by
    unfold cNight lDawn
    rw [hRL.day]
    exact hRL.uDay.uTime
  have rn : ∀ j, j ≠ 0 → cNight c j = cNightL c j := fun j j0 => by unfold cNight; simp (disch := omega) only [cWn]
  refine ⟨⟨hRN, ?_, ⟨w, hw, ?_⟩, ⟨n0, hn0, ?_⟩, ⟨0, by omega, ?_⟩⟩, ?_⟩
  · have e2 : cNight c 2 = c 2 := by rw [rn 2 (by omega), rr 2] <;> omega
    have e4 : cNight c 4 = cNightL c 4 := rn 4 (by omega)
    have e5 : cNight c 5 = c 5 := by rw [rn 5 (by omega), rr 5] <;> omega
    have e12 : cNight c 12 = c 12 := by rw [rn 12 (by omega), rr 12] <;> omega
    have e14 : cNight c 14 = c 14 := by rw [rn 14 (by omega), rr 14] <;> omega
    have e11 : ∀ q, q < 24 → cNight c 11 q = -1 := fun q hq => by rw [rn 11 (by omega)]; exact n3_11 24 q hq
    unfold Inv
    rw [e2, e4, e5, e12, e14]
    refine ⟨hI.own, fun k hk _ => Or.inl (r4 k hk), hI.mat, fun q hq _ => Or.inl (e11 q hq), fun k hk _ q hq hp => ?_, hI.wnr, hI.wnt, fun k hk hx => ?_, hI.mst⟩
    · rw [r4 k hk] at hp
      exact (nI_nm (by omega) hp.symm).elim
    · obtain ⟨g4, g5, g6, g7, g8, g9⟩ := hI.non k hk hx
      have e6 : cNight c 6 = c 6 := by rw [rn 6 (by omega), rr 6] <;> omega
      have e7 : cNight c 7 = c 7 := by rw [rn 7 (by omega), rr 7] <;> omega
      rw [e6, e7, rn 8 (by omega), rn 9 (by omega), (r8 k hx).1, (r8 k hx).2]
      exact ⟨r4 k hk, g5, g6, g7, g8, g9⟩
  · rw [rn 17 (by omega), rr 17 (by omega) (by omega) (by omega) (by omega) (by omega)]; exact hsz
  · have : cNight c 0 8 = cNightL c 0 8 := by unfold cNight; simp (disch := omega) only [cWr, zU_ne]
    rw [this, rr 0 (by omega) (by omega) (by omega) (by omega) (by omega)]; exact h8
  · unfold cNight; rw [cWr, zU_at]; rfl
  · unfold cNightR
    rw [rn 15 (by omega), lMany_in hR hI]
    show cN3 (cN2 (cN1 c 4) 16) 24 15 0 + cN3 (cN2 (cN1 c 4) 16) 24 15 1 = _
    rw [n3_row (by omega), ia, ib, nI_add, iab]
    refine congrArg nI (cnt_ext 16 fun k hk => ?_)
    show (cEx (cN1 c 4) (nI k) && hHole (cN1 c 4 4 k)) = (cEx c (nI k) && hHole (c 4 k))
    have : cEx (cN1 c 4) (nI k) = cEx c (nI k) := by
      rw [Bool.eq_iff_iff, cEx_nI hk, cEx_nI hk, r1 2 (by omega)]
    rw [this, r1 4 (by omega)]
