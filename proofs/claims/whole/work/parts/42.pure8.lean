/-! a dove is sold -/
theorem Rel.gone {c c' : cSt} {z : Nat → Int32} (h : Rel c z) {k : Nat} (hk : k < 16) (h2 : c' 2 = zU (c 2) k (-1)) (hr : ∀ y, 1 ≤ y → y < 8 → ∀ q, q < 16 → q ≠ k → c' (2 + y) q = c (2 + y) q) (ho : ∀ r, r = 0 ∨ 13 ≤ r → c' r = c r) : Rel c' (zU z (9 * k) 0) := by
  refine ⟨fun q hq => ?_, fun q hq he y' hy' => ?_, fun q hq => ?_, ?_, ?_, fun j' hj' => ?_, ?_, ?_, fun j' hj' => ?_, fun j' hj' => ?_, ?_, fun q hq hs => ?_⟩
  · rw [h2]
    by_cases hc : q = k
    · rw [hc, zU_at, zU_at]; exact Or.inl ⟨rfl, rfl⟩
    · rw [zU_ne hc, zU_ne (by omega)]; exact h.ex q hq
  · rw [h2] at he
    have hc : q ≠ k := fun w => he (by rw [w, zU_at])
    rw [zU_ne hc] at he
    rw [zU_ne (by omega), h.row q hq he y' hy']
    by_cases h0 : y' = 0
    · subst h0
      show c 2 q = c' 2 q
      rw [h2, zU_ne hc]
    · exact (hr y' (by omega) hy' q hq hc).symm
  · rw [ho 13 (by omega), zU_ne (by omega)]; exact h.opn q hq
  · rw [ho 0 (by omega), zU_ne (by omega)]; exact h.time
  · rw [ho 0 (by omega), zU_ne (by omega)]; exact h.day
  · rw [ho 14 (by omega), zU_ne (by omega)]; exact h.set j' hj'
  · rw [ho 0 (by omega), zU_ne (by omega)]; exact h.shf
  · rw [ho 0 (by omega), zU_ne (by omega)]; exact h.qrl
  · rw [ho 15 (by omega), zU_ne (by omega)]; exact h.dwn j' hj'
  · rw [ho 16 (by omega), zU_ne (by omega)]; exact h.stp j' hj'
  · rw [ho 17 (by omega), zU_ne (by omega)]; exact h.siz
  · rw [ho 17 (by omega)] at hs
    rw [ho 18 (by omega), ho 19 (by omega), zU_ne (by omega), zU_ne (by omega)]; exact h.who q hq hs
theorem Inv.gone {c c' : cSt} (hI : Inv 24 c) {k : Nat} (hk : k < 16) (h2 : c' 2 = zU (c 2) k (-1)) (h4 : c' 4 = zU (c 4) k (-1)) (h5k : c' 5 k = -1) (h5 : ∀ q, q < 16 → q ≠ k → c' 5 q = if c 5 q = nI k then -1 else c 5 q) (h11 : ∀ h, h < 24 → c' 11 h = if c 11 h = nI k then -1 else c 11 h) (h12 : ∀ h, h < 24 → c' 12 h = if c 12 h = nI k then -1 else c 12 h) (hr : ∀ y, 4 ≤ y → y < 8 → c' (2 + y) = zU (c (2 + y)) k 0) (h14 : c' 14 = c 14) : Inv 24 c' := by
  have x2 : ∀ q, ¬ zU (c 2) k (-1) q = -1 → q ≠ k ∧ ¬ c 2 q = -1 := fun q w => by
    by_cases hc : q = k
    · rw [hc, zU_at] at w; exact absurd rfl w
    · rw [zU_ne hc] at w; exact ⟨hc, w⟩
  have y2 : ∀ q, q ≠ k → ¬ c 2 q = -1 → ¬ zU (c 2) k (-1) q = -1 := fun q hc w => by rw [zU_ne hc]; exact w
  unfold Inv
  rw [h2, h4, h14]
  refine ⟨fun q hq hx => ?_, fun q hq hx => ?_, fun q hq hx => ?_, fun q hq hn => ?_, fun q hq hx j hj hp => ?_, fun j hj => ?_, fun q hq j hj hp => ?_, fun q hq hx => ?_, hI.mst⟩
  · obtain ⟨hc, hx⟩ := x2 q hx
    rw [zU_ne hc]; exact hI.own q hq hx
  · obtain ⟨hc, hx⟩ := x2 q hx
    rw [zU_ne hc]; exact hI.plc q hq hx
  · obtain ⟨hc, hx⟩ := x2 q hx
    rw [h5 q hq hc]
    rcases hI.mat q hq hx with e | ⟨m, hm, e, hx3, r, hne⟩
    · rw [e]; exact Or.inl (by split <;> rfl)
    · by_cases hmk : m = k
      · subst hmk
        rw [e, if_pos rfl]; exact Or.inl rfl
      · rw [e, if_neg (fun w => hmk (nI_inj (by omega) (by omega) w))]
        refine Or.inr ⟨m, hm, rfl, y2 m hmk hx3, ?_, hne⟩
        rw [h5 m hm hmk, r, if_neg (fun w => hc (nI_inj (by omega) (by omega) w))]
  · rw [h11 q hq]
    rcases hI.sit q hq hn with e | ⟨m, hm, e, hx3, r⟩
    · rw [e]; exact Or.inl (by split <;> rfl)
    · by_cases hmk : m = k
      · subst hmk
        rw [e, if_pos rfl]; exact Or.inl rfl
      · rw [e, if_neg (fun w => hmk (nI_inj (by omega) (by omega) w))]
        exact Or.inr ⟨m, hm, rfl, y2 m hmk hx3, by rw [zU_ne hmk]; exact r⟩
  · obtain ⟨hc, hx⟩ := x2 q hx
    rw [zU_ne hc] at hp
    have := hI.stt q hq hx j hj hp
    rw [h11 j hj, this, if_neg (fun w => hc (nI_inj (by omega) (by omega) w))]
  · rw [h12 j hj]
    rcases hI.wnr j hj with e | ⟨m, hm, e, r⟩
    · rw [e]; exact Or.inl (by split <;> rfl)
    · by_cases hmk : m = k
      · subst hmk
        rw [e, if_pos rfl]; exact Or.inl rfl
      · rw [e, if_neg (fun w => hmk (nI_inj (by omega) (by omega) w))]
        exact Or.inr ⟨m, hm, rfl, by rw [zU_ne hmk]; exact r⟩
  · by_cases hc : q = k
    · rw [hc, zU_at] at hp; exact (nI_nm (by omega) hp.symm).elim
    · rw [zU_ne hc] at hp
      have := hI.wnt q hq j hj hp
      rw [h12 j hj, this, if_neg (fun w => hc (nI_inj (by omega) (by omega) w))]
  · have e6 : c' 6 = zU (c 6) k 0 := hr 4 (by omega) (by omega)
    have e7 : c' 7 = zU (c 7) k 0 := hr 5 (by omega) (by omega)
    have e8 : c' 8 = zU (c 8) k 0 := hr 6 (by omega) (by omega)
    have e9 : c' 9 = zU (c 9) k 0 := hr 7 (by omega) (by omega)
    rw [e6, e7, e8, e9]
    by_cases hc : q = k
    · rw [hc, zU_at, zU_at, zU_at, zU_at, zU_at]; exact ⟨rfl, h5k, rfl, rfl, rfl, rfl⟩
    · rw [zU_ne hc] at hx
      obtain ⟨g4, g5, g6, g7, g8, g9⟩ := hI.non q hq hx
      rw [zU_ne hc, zU_ne hc, zU_ne hc, zU_ne hc, zU_ne hc, h5 q hq hc, g5]
      exact ⟨g4, by split <;> rfl, g6, g7, g8, g9⟩
theorem cZero_row {c : cSt} {k : Nat} : ∀ n r, cZero c k n r = if 2 ≤ r ∧ r < 2 + n then zU (c r) k 0 else c r
  | 0, r => by rw [if_neg (by omega)]; rfl
  | n + 1, r => by
    unfold cZero
    by_cases h : r = 2 + n
    · subst h
      rw [cWr, cZero_row n, if_neg (by omega), if_pos (by omega)]
    · rw [cWn h, cZero_row n]
      by_cases h2 : 2 ≤ r ∧ r < 2 + n
      · rw [if_pos h2, if_pos (by omega)]
      · rw [if_neg h2, if_neg (by omega)]
/-- what is left of the others, when k goes -/
theorem cRem_rows {B : Nat} {c : cSt} {z : Nat → Int32} (hS : SR B c z) {k : Nat} (hk : k < 16) (he : ¬ c 2 k = -1) :
    cRem c (nI k) 2 = zU (c 2) k (-1) ∧ cRem c (nI k) 4 = zU (c 4) k (-1) ∧ cRem c (nI k) 5 k = -1 ∧ (∀ q, q < 16 → q ≠ k → cRem c (nI k) 5 q = if c 5 q = nI k then -1 else c 5 q) ∧ (∀ h, h < 24 → cRem c (nI k) 11 h = if c 11 h = nI k then -1 else c 11 h) ∧ (∀ h, h < 24 → cRem c (nI k) 12 h = if c 12 h = nI k then -1 else c 12 h) ∧ (∀ y, 4 ≤ y → y < 8 → cRem c (nI k) (2 + y) = zU (c (2 + y)) k 0) ∧ cRem c (nI k) 3 = zU (c 3) k 0 ∧ (∀ r, r = 0 ∨ 13 ≤ r → cRem c (nI k) r = c r) := by
  obtain ⟨hR, hI, hsz, hn⟩ := hS
  obtain ⟨w, hw, ew⟩ := hI.own k hk he
  have eA : cRemA c (nI k) = cW c 12 w (-1) := by
    unfold cRemA
    rw [ix_nI (by omega), ew, if_pos ((hHole_nI (by omega)).mpr hw), ix_nI (by omega)]
  have eB : ∀ r, r ≠ 11 → cRemB c (nI k) r = cW c 12 w (-1) r := fun r hr => by
    unfold cRemB
    rw [eA]
    split
    · rw [cWn hr]
    · rfl
  have eB11 : ∀ h, h < 24 → cRemB c (nI k) 11 h = if c 11 h = nI k then -1 else c 11 h := fun h hh => by
    unfold cRemB
    rw [eA, ix_nI (by omega)]
    rcases hI.plc k hk he with e | ⟨n, hn, e⟩
    · rw [e, if_neg (by decide), cWn (by omega)]
      rw [if_neg]
      intro hc
      rcases hI.sit h hh (by omega) with e' | ⟨m, hm, e', hx3, r⟩
      · exact nI_nm (a := k) (by omega) (hc.symm.trans e')
      · have := nI_inj (by omega) (by omega) (hc.symm.trans e')
        rw [← this, e] at r
        exact nI_nm (by omega) r.symm
    · by_cases h24 : n = 24
      · subst h24
        rw [e, if_neg (by decide), cWn (by omega)]
        rw [if_neg]
        intro hc
        rcases hI.sit h hh (by omega) with e' | ⟨m, hm, e', hx3, r⟩
        · exact nI_nm (a := k) (by omega) (hc.symm.trans e')
        · have := nI_inj (by omega) (by omega) (hc.symm.trans e')
          rw [← this, e] at r
          have := nI_inj (a := 24) (by omega) (by omega) r
          omega
      · rw [e, if_pos ((hHole_nI (by omega)).mpr (by omega)), ix_nI (by omega), cWr, cWn (by omega)]
        have hs := hI.stt k hk he n (by omega) e
        by_cases hc : h = n
        · rw [hc, zU_at, hs, if_pos rfl]
        · rw [zU_ne hc, if_neg]
          intro hc2
          rcases hI.sit h hh (by omega) with e' | ⟨m, hm, e', hx3, r⟩
          · exact nI_nm (a := k) (by omega) (hc2.symm.trans e')
          · have := nI_inj (by omega) (by omega) (hc2.symm.trans e')
            rw [← this, e] at r
            exact hc (nI_inj (by omega) (by omega) r).symm
  have eC : ∀ r, r ≠ 5 → cRemC c (nI k) r = cRemB c (nI k) r := fun r hr => by
    unfold cRemC
    split
    · rw [cWn hr]
    · rfl
  have eC5 : ∀ q, q < 16 → q ≠ k → cRemC c (nI k) 5 q = if c 5 q = nI k then -1 else c 5 q := fun q hq hqk => by
    have b5 : cRemB c (nI k) 5 = c 5 := by rw [eB 5 (by omega), cWn (by omega)]
    have b2 : cRemB c (nI k) 2 = c 2 := by rw [eB 2 (by omega), cWn (by omega)]
    have hq2 : c 5 q = nI k → ¬ c 2 q = -1 := fun w hx => by
      rw [(hI.non q hq hx).2.1] at w; exact nI_nm (by omega) w.symm
    unfold cRemC
    rw [ix_nI (by omega)]
    rcases hI.mat k hk he with e | ⟨m, hm, e, hx3, r, hne⟩
    · rw [e, cEx_m1, if_neg (by decide), b5, if_neg]
      intro w
      rcases hI.mat q hq (hq2 w) with e' | ⟨m, hm, e', hx3, r, hne⟩
      · exact nI_nm (a := k) (by omega) (w.symm.trans e')
      · have := nI_inj (by omega) (by omega) (w.symm.trans e')
        rw [← this, e] at r
        exact nI_nm (by omega) r.symm
    · rw [e, if_pos ((cEx_nI hm).mpr (by rw [b2]; exact hx3)), ix_nI (by omega), cWr, b5]
      by_cases hc : q = m
      · rw [hc, zU_at, r, if_pos rfl]
      · rw [zU_ne hc, if_neg]
        intro w
        rcases hI.mat q hq (hq2 w) with e' | ⟨m', hm', e', hx3', r', hne'⟩
        · exact nI_nm (a := k) (by omega) (w.symm.trans e')
        · have := nI_inj (by omega) (by omega) (w.symm.trans e')
          rw [← this, e] at r'
          exact hc (nI_inj (by omega) (by omega) r').symm
  have e1 : ∀ r, r ≠ 2 → r ≠ 4 → r ≠ 5 → cRem c (nI k) r = if 2 ≤ r ∧ r < 2 + 8 then zU (cRemC c (nI k) r) k 0 else cRemC c (nI k) r := fun r n2 n4 n5 => by
    unfold cRem cRem1
    rw [ix_nI (by omega), cWn n5, cWn n4, cWn n2, cZero_row]
  refine ⟨?_, ?_, ?_, ?_, ?_, ?_, ?_, ?_, ?_⟩
  · unfold cRem cRem1
    rw [ix_nI (by omega)]
    simp (disch := omega) only [cWn, cWr]
    rw [cZero_row, if_pos (by omega), zU_zU, eC 2 (by omega), eB 2 (by omega), cWn (by omega)]
  · unfold cRem cRem1
    rw [ix_nI (by omega)]
    simp (disch := omega) only [cWn, cWr]
    rw [cZero_row, if_pos (by omega), zU_zU, eC 4 (by omega), eB 4 (by omega), cWn (by omega)]
  · unfold cRem cRem1
    rw [ix_nI (by omega)]
    simp (disch := omega) only [cWr, zU_at]
  · intro q hq hqk
    unfold cRem cRem1
    rw [ix_nI (by omega)]
    simp (disch := omega) only [cWn, cWr, zU_ne]
    rw [cZero_row, if_pos (by omega), zU_ne hqk]
    exact eC5 q hq hqk
  · intro h hh
    rw [e1 11 (by omega) (by omega) (by omega), if_neg (by omega), eC 11 (by omega)]
    exact eB11 h hh
  · intro h hh
    rw [e1 12 (by omega) (by omega) (by omega), if_neg (by omega), eC 12 (by omega), eB 12 (by omega), cWr]
    by_cases hc : h = w
    · rw [hc, zU_at, hI.wnt k hk w hw ew, if_pos rfl]
    · rw [zU_ne hc, if_neg]
      intro hc2
      rcases hI.wnr h hh with e' | ⟨m, hm, e', r⟩
      · exact nI_nm (a := k) (by omega) (hc2.symm.trans e')
      · have := nI_inj (by omega) (by omega) (hc2.symm.trans e')
        rw [← this, ew] at r
        exact hc (nI_inj (by omega) (by omega) r).symm
  · intro y h4 h8
    rw [e1 (2 + y) (by omega) (by omega) (by omega), if_pos (by omega), eC _ (by omega), eB _ (by omega), cWn (by omega)]
  · rw [e1 3 (by omega) (by omega) (by omega), if_pos (by omega), eC _ (by omega), eB _ (by omega), cWn (by omega)]
  · intro r hr
    rw [e1 r (by omega) (by omega) (by omega), if_neg (by omega), eC _ (by omega), eB _ (by omega), cWn (by omega)]
theorem sell_SR {B : Nat} {c d : cSt} (hS : SR B c (d 1)) {k : Nat} (hk : k < 16) (he : ¬ c 2 k = -1) : SR B (cRem c (nI k)) ((mSell d (nI k)).2 1) ∧ (mSell d (nI k)).1 = c 4 (ix (nI k)) := by
  obtain ⟨r2, r4, r5k, r5, r11, r12, r6, r3, r0⟩ := cRem_rows hS hk he
  obtain ⟨hR, hI, hsz, hn⟩ := hS
  have d4 : d 1 (9 * k + 4) = c 5 k := hR.row k hk he 3 (by omega)
  have d3 : d 1 (9 * k + 3) = c 4 k := hR.row k hk he 2 (by omega)
  have hInv := hI.gone hk r2 r4 r5k r5 r11 r12 r6 (r0 14 (by omega))
  unfold mSell mSell1
  rw [ix_nI (by omega), d4]
  have hrow : ∀ cc : cSt, (∀ r, r ≠ 5 → cc r = c r) → (∀ q, q < 16 → cc 5 q = if c 5 q = nI k then -1 else c 5 q) → ∀ y, 1 ≤ y → y < 8 → ∀ q, q < 16 → q ≠ k → cRem c (nI k) (2 + y) q = cc (2 + y) q := fun cc h1 h5 y hy1 hy8 q hq hqk => by
    by_cases y3 : y = 3
    · subst y3
      show cRem c (nI k) 5 q = cc 5 q
      rw [r5 q hq hqk, h5 q hq]
    · rw [h1 _ (by omega)]
      have : y = 1 ∨ y = 2 ∨ 4 ≤ y := by omega
      rcases this with q1 | q1 | q1
      · subst q1
        show cRem c (nI k) 3 q = c 3 q
        rw [r3, zU_ne hqk]
      · subst q1
        show cRem c (nI k) 4 q = c 4 q
        rw [r4, zU_ne hqk]
      · rw [r6 y q1 hy8, zU_ne hqk]
  have hmt : ∀ q, q < 16 → c 5 q = nI k → c 5 k = nI q := fun q hq w => by
    by_cases hx : c 2 q = -1
    · rw [(hI.non q hq hx).2.1] at w; exact (nI_nm (by omega) w.symm).elim
    · rcases hI.mat q hq hx with e' | ⟨m, hm, e', hx3, r, hne⟩
      · exact (nI_nm (a := k) (by omega) (w.symm.trans e')).elim
      · have := nI_inj (by omega) (by omega) (w.symm.trans e')
        rw [this]; exact r
  have hrest : (∃ w, w ≤ 25 ∧ cRem c (nI k) 17 2 = nI w) ∧ (∃ n, n ≤ B ∧ cRem c (nI k) 0 8 = nI n) := by
    rw [r0 17 (by omega), r0 0 (by omega)]; exact ⟨hsz, hn⟩
  rcases hI.mat k hk he with e | ⟨m, hm, e, hx3, r, hne⟩
  · rw [e, if_pos (show (-1 : Int32) < 0 by decide), cWr]
    refine ⟨⟨hR.gone hk r2 (hrow c (fun _ _ => rfl) fun q hq => ?_) r0, hInv, hrest⟩, by rw [zU_ne (by omega)]; exact d3⟩
    rw [if_neg]
    intro w
    have := hmt q hq w
    rw [e] at this
    exact nI_nm (by omega) this.symm
  · rw [e, if_neg (nI_pos (by omega)), ix_nI (by omega), cWr, cWr]
    have hR1 : Rel (cW c 5 m (-1)) (zU (d 1) (9 * m + 4) (-1)) := hR.uRow (y := 3) hm (by omega) (by omega)
    refine ⟨⟨hR1.gone hk (by rw [cWn (by omega)]; exact r2) (hrow (cW c 5 m (-1)) (fun r hr => cWn hr) fun q hq => ?_) (fun r hr => by rw [cWn (by omega)]; exact r0 r hr), hInv, hrest⟩, by rw [zU_ne (by omega), zU_ne (by omega)]; exact d3⟩
    rw [cWr]
    by_cases hc : q = m
    · rw [hc, zU_at, r, if_pos rfl]
    · rw [zU_ne hc, if_neg]
      intro w
      have := hmt q hq w
      rw [e] at this
      exact hc (nI_inj (by omega) (by omega) this).symm
