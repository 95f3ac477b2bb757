/-! looks, what would be -/
theorem whyShut_sim {c d : cSt} (hR : Rel c (d 1)) (hI : Inv 24 c) {h : Nat} (hh : h < 24) : cWhyShut c (nI h) = mWhyS d (nI h) := by
  unfold cWhyShut mWhyS
  rw [sitter hR hI hh, hR.opens hh, ix_nI (by omega)]
  rcases hI.sit h hh (by omega) with e | ⟨m, hm, e, -, -⟩
  · rw [e, if_pos rfl, if_pos (show (-1 : Int32) < 0 by decide)]
    cases mOpen d (nI h) <;> rfl
  · rw [e, if_neg (nI_nm (by omega)), if_neg (nI_pos (by omega))]
theorem m5 {e : Nat} {c : cSt} (hI : Inv e c) {k : Nat} (hk : k < 16) (he : ¬ c 2 k = -1) : (c 5 k = -1 ↔ c 5 k < 0) ∧ (c 5 k = -1 ↔ ¬ 0 ≤ c 5 k) := by
  rcases hI.mat k hk he with e | ⟨m, hm, e, -⟩
  · rw [e]; decide
  · rw [e]
    exact ⟨⟨fun w => (nI_nm (by omega) w).elim, fun w => (nI_pos (by omega) w).elim⟩, ⟨fun w => (nI_nm (by omega) w).elim, fun w => (w (nI_pos' (by omega))).elim⟩⟩
theorem whyPair_sim {c d : cSt} (hR : Rel c (d 1)) (hI : Inv 24 c) {x y : Nat} (hx : x < 16) (hy : y < 16) (hex : ¬ c 2 x = -1) (hey : ¬ c 2 y = -1) : cWhyPair c (nI x) (nI y) = mWhyM d (nI x) (nI y) := by
  have dx : d 1 (9 * x + 4) = c 5 x := hR.row x hx hex 3 (by omega)
  have dy : d 1 (9 * y + 4) = c 5 y := hR.row y hy hey 3 (by omega)
  unfold cWhyPair mWhyM
  rw [ix_nI (by omega), ix_nI (by omega), dx, dy]
  by_cases h : nI x = nI y
  · rw [if_pos h, if_pos h]
  · rw [if_neg h, if_neg h]
    by_cases h1 : c 5 x = -1
    · rw [if_pos h1, if_neg ((m5 hI hx hex).2.mp h1)]
      by_cases h2 : c 5 y = -1
      · rw [if_pos h2, if_pos ((m5 hI hy hey).1.mp h2)]
      · rw [if_neg h2, if_neg (fun w => h2 ((m5 hI hy hey).1.mpr w))]
    · rw [if_neg h1, if_pos (Classical.byContradiction fun w => h1 ((m5 hI hx hex).2.mpr w))]
theorem whyPair_0 {c : cSt} {x y : Nat} (hx : x < 16) (hy : y < 16) (hw : cWhyPair c (nI x) (nI y) = 0) : x ≠ y ∧ c 5 x = -1 ∧ c 5 y = -1 := by
  unfold cWhyPair at hw
  rw [ix_nI (by omega), ix_nI (by omega)] at hw
  split at hw
  · exact absurd hw (by decide)
  · rename_i h1
    split at hw
    · rename_i h2
      split at hw
      · rename_i h3
        exact ⟨fun w => h1 (by rw [w]), h2, h3⟩
      · exact absurd hw (by decide)
    · exact absurd hw (by decide)
theorem whyHome_0 {c : cSt} {x t : Int32} (hw : cWhyHome c x t = 0) : c 4 (ix x) = -1 := by
  unfold cWhyHome at hw
  split at hw
  · rename_i h; exact h
  · exact absurd hw (by decide)
theorem whyH_le {d : cSt} {x t : Int32} : mWhyH d x t ≤ 0 ↔ mWhyH d x t = 0 := by
  unfold mWhyH
  split
  · split <;> decide
  · decide
theorem whyD_le {d : cSt} {x : Int32} : mWhyD d x ≤ 0 ↔ mWhyD d x = 0 := by
  unfold mWhyD
  split
  · decide
  · split
    · split <;> decide
    · decide
theorem whyM_le {d : cSt} {x y : Int32} : mWhyM d x y ≤ 0 ↔ mWhyM d x y = 0 := by
  unfold mWhyM
  split
  · decide
  · split
    · decide
    · split <;> decide
theorem whyS_le {d : cSt} {x : Int32} : mWhyS d x ≤ 0 ↔ mWhyS d x = 0 := by
  unfold mWhyS
  split
  · split <;> decide
  · decide
theorem hole_sim {c d : cSt} (hR : Rel c (d 1)) (hI : Inv 24 c) {h y : Nat} (hh : h < 24) (hy : y < 3) : mHoleN d (nI h) (nI y) = c (11 + y) h := by
  unfold mHoleN
  have : y = 0 ∨ y = 1 ∨ y = 2 := by omega
  rcases this with r | r | r <;> subst r
  · rw [if_pos (by decide), sitter hR hI hh]
  · rw [if_neg (by decide), if_pos (by decide), owner hR hI hh]
  · rw [if_neg (by decide), if_neg (by decide), ← hR.opens hh]
    have hHo : hHole (nI h) = true := (hHole_nI (by omega)).mpr hh
    unfold cOpen
    rw [if_neg (show ¬ hHole (nI h) = false by rw [hHo]; decide), ix_nI (by omega)]
    show _ = c 13 h
    rcases hR.opn h hh with ⟨e, -⟩ | ⟨e, -⟩
    · rw [e]; rfl
    · rw [e]; rfl
theorem num_sim {c d : cSt} {sv : Int32} (hR : Rel c (d 1)) (hI : Inv 24 c) (hs : d 0 4 = sv) : ∀ k, k < 18 → (if nI k = 17 then sv else cNum c (nI k)) = mNumN d (nI k) := by
  intro k hk
  have : k = 0 ∨ k = 1 ∨ k = 2 ∨ k = 3 ∨ k = 4 ∨ k = 5 ∨ k = 6 ∨ k = 7 ∨ k = 8 ∨ k = 9 ∨ k = 10 ∨ k = 11 ∨ k = 12 ∨ k = 13 ∨ k = 14 ∨ k = 15 ∨ k = 16 ∨ k = 17 := by omega
  rcases this with r | r | r | r | r | r | r | r | r | r | r | r | r | r | r | r | r | r <;> subst r
  · unfold mNumN cNum
    rw [if_neg (by decide), if_pos (by decide), if_neg (by decide), if_pos (by decide)]
    exact hR.day.symm
  · unfold mNumN cNum
    rw [if_neg (by decide), if_neg (by decide), if_pos (by decide), if_neg (by decide), if_neg (by decide), if_pos (by decide)]
    exact hR.time.symm
  · unfold mNumN cNum
    rw [if_neg (by decide), if_neg (by decide), if_neg (by decide), if_pos (by decide), if_neg (by decide), if_neg (by decide), if_neg (by decide), if_pos (by decide)]
    exact hR.all.symm
  · unfold mNumN cNum
    rw [if_neg (by decide), if_neg (by decide), if_neg (by decide), if_neg (by decide), if_pos (by decide), if_neg (by decide), if_neg (by decide), if_neg (by decide), if_neg (by decide), if_pos (by decide)]
    exact sitD_sim hR hI
  · unfold mNumN cNum
    rw [if_neg (by decide), if_neg (by decide), if_neg (by decide), if_neg (by decide), if_neg (by decide), if_pos (by decide), if_neg (by decide), if_neg (by decide), if_neg (by decide), if_neg (by decide), if_neg (by decide), if_pos (by decide)]
    exact sitH_sim hR hI
  · unfold mNumN cNum
    rw [if_neg (by decide), if_neg (by decide), if_neg (by decide), if_neg (by decide), if_neg (by decide), if_neg (by decide), if_pos (by decide), if_neg (by decide), if_neg (by decide), if_neg (by decide), if_neg (by decide), if_neg (by decide), if_neg (by decide), if_pos (by decide)]
    exact hR.atPlace
  · unfold mNumN cNum
    rw [if_neg (by decide), if_neg (by decide), if_neg (by decide), if_neg (by decide), if_neg (by decide), if_neg (by decide), if_neg (by decide), if_pos (by decide), if_neg (by decide), if_neg (by decide), if_neg (by decide), if_neg (by decide), if_neg (by decide), if_neg (by decide), if_neg (by decide), if_pos (by decide)]
    exact hR.atPlace
  · unfold mNumN cNum
    rw [if_neg (by decide), if_neg (by decide), if_neg (by decide), if_neg (by decide), if_neg (by decide), if_neg (by decide), if_neg (by decide), if_neg (by decide), if_pos (by decide), if_neg (by decide), if_neg (by decide), if_neg (by decide), if_neg (by decide), if_neg (by decide), if_neg (by decide), if_neg (by decide), if_neg (by decide), if_pos (by decide)]
    exact hR.openN
  · unfold mNumN cNum
    rw [if_neg (by decide), if_neg (by decide), if_neg (by decide), if_neg (by decide), if_neg (by decide), if_neg (by decide), if_neg (by decide), if_neg (by decide), if_neg (by decide), if_pos (by decide), if_neg (by decide), if_neg (by decide), if_neg (by decide), if_neg (by decide), if_neg (by decide), if_neg (by decide), if_neg (by decide), if_neg (by decide), if_neg (by decide), if_pos (by decide)]
    exact pairs_sim hR hI
  · unfold mNumN cNum
    rw [if_neg (by decide), if_neg (by decide), if_neg (by decide), if_neg (by decide), if_neg (by decide), if_neg (by decide), if_neg (by decide), if_neg (by decide), if_neg (by decide), if_neg (by decide), if_pos (by decide), if_neg (by decide), if_neg (by decide), if_neg (by decide), if_neg (by decide), if_neg (by decide), if_neg (by decide), if_neg (by decide), if_neg (by decide), if_neg (by decide), if_neg (by decide), if_pos (by decide)]
    exact hR.shf.symm
  · unfold mNumN cNum
    rw [if_neg (by decide), if_neg (by decide), if_neg (by decide), if_neg (by decide), if_neg (by decide), if_neg (by decide), if_neg (by decide), if_neg (by decide), if_neg (by decide), if_neg (by decide), if_neg (by decide), if_pos (by decide), if_neg (by decide), if_neg (by decide), if_neg (by decide), if_neg (by decide), if_neg (by decide), if_neg (by decide), if_neg (by decide), if_neg (by decide), if_neg (by decide), if_neg (by decide), if_neg (by decide), if_pos (by decide)]
    exact hR.qrl.symm
  · unfold mNumN cNum
    rw [if_neg (by decide), if_neg (by decide), if_neg (by decide), if_neg (by decide), if_neg (by decide), if_neg (by decide), if_neg (by decide), if_neg (by decide), if_neg (by decide), if_neg (by decide), if_neg (by decide), if_neg (by decide), if_pos (by decide), if_pos (by decide)]
    exact (hR.dwn 0 (by omega)).symm
  · unfold mNumN cNum
    rw [if_neg (by decide), if_neg (by decide), if_neg (by decide), if_neg (by decide), if_neg (by decide), if_neg (by decide), if_neg (by decide), if_neg (by decide), if_neg (by decide), if_neg (by decide), if_neg (by decide), if_neg (by decide), if_neg (by decide), if_pos (by decide), if_pos (by decide)]
    exact (hR.dwn 1 (by omega)).symm
  · unfold mNumN cNum
    rw [if_neg (by decide), if_neg (by decide), if_neg (by decide), if_neg (by decide), if_neg (by decide), if_neg (by decide), if_neg (by decide), if_neg (by decide), if_neg (by decide), if_neg (by decide), if_neg (by decide), if_neg (by decide), if_neg (by decide), if_neg (by decide), if_pos (by decide), if_pos (by decide)]
    exact (hR.dwn 2 (by omega)).symm
  · unfold mNumN cNum
    rw [if_neg (by decide), if_neg (by decide), if_neg (by decide), if_neg (by decide), if_neg (by decide), if_neg (by decide), if_neg (by decide), if_neg (by decide), if_neg (by decide), if_neg (by decide), if_neg (by decide), if_neg (by decide), if_neg (by decide), if_neg (by decide), if_neg (by decide), if_pos (by decide), if_pos (by decide)]
    exact (hR.dwn 3 (by omega)).symm
  · unfold mNumN cNum
    rw [if_neg (by decide), if_neg (by decide), if_neg (by decide), if_neg (by decide), if_neg (by decide), if_neg (by decide), if_neg (by decide), if_neg (by decide), if_neg (by decide), if_neg (by decide), if_neg (by decide), if_neg (by decide), if_neg (by decide), if_neg (by decide), if_neg (by decide), if_neg (by decide), if_pos (by decide), if_neg (by decide), if_neg (by decide), if_neg (by decide), if_neg (by decide), if_neg (by decide), if_neg (by decide), if_neg (by decide), if_neg (by decide), if_neg (by decide), if_neg (by decide), if_neg (by decide), if_neg (by decide), if_pos (by decide)]
    exact (hR.set 0 (by omega)).symm
  · unfold mNumN cNum
    rw [if_neg (by decide), if_neg (by decide), if_neg (by decide), if_neg (by decide), if_neg (by decide), if_neg (by decide), if_neg (by decide), if_neg (by decide), if_neg (by decide), if_neg (by decide), if_neg (by decide), if_neg (by decide), if_neg (by decide), if_neg (by decide), if_neg (by decide), if_neg (by decide), if_neg (by decide), if_neg (by decide), if_neg (by decide), if_neg (by decide), if_neg (by decide), if_neg (by decide), if_neg (by decide), if_neg (by decide), if_neg (by decide), if_neg (by decide), if_neg (by decide), if_neg (by decide), if_neg (by decide), if_neg (by decide), if_pos (by decide)]
    exact (hR.set 1 (by omega)).symm
  · unfold mNumN cNum
    rw [if_pos (by decide), if_neg (by decide), if_neg (by decide), if_neg (by decide), if_neg (by decide), if_neg (by decide), if_neg (by decide), if_neg (by decide), if_neg (by decide), if_neg (by decide), if_neg (by decide), if_neg (by decide), if_neg (by decide), if_neg (by decide), if_neg (by decide)]
    exact hs.symm
theorem fh_sim {c d : cSt} (hR : Rel c (d 1)) (hI : Inv 24 c) : ∀ k n, n + k = 24 → mFH d k (tFH c n k) = tFH c 24 0
  | 0, n, h => by
    have : n = 24 := by omega
    subst this; rfl
  | k + 1, n, h => by
    rw [← fh_sim hR hI k (n + 1) (by omega)]
    show mFH d k (if mOpen d (nI k) = true ∧ ¬ 0 ≤ mOwn d (nI k) then nI k else tFH c n (k + 1)) = mFH d k (if cOpen c (nI k) = true then (if c 12 k = -1 then nI k else tFH c n (k + 1)) else tFH c n (k + 1))
    congr 1
    rw [owner hR hI (show k < 24 by omega), hR.opens (show k < 24 by omega)]
    cases mOpen d (nI k)
    · rw [if_neg (fun w => by cases w.1), if_neg (by decide)]
    · rcases hI.wnr k (by omega) with e | ⟨m, hm, e, -⟩
      · rw [e, if_pos ⟨rfl, by decide⟩, if_pos rfl, if_pos rfl]
      · rw [e, if_neg (fun w => w.2 (nI_pos' (by omega))), if_pos rfl, if_neg (nI_nm (by omega))]
theorem freeHole_sim {c d : cSt} (hR : Rel c (d 1)) (hI : Inv 24 c) : tFH c 24 0 = mFH d 24 (-1) := (fh_sim hR hI 24 0 rfl).symm
/-! who is there stays there, when one comes home -/
theorem cSit_2 {c : cSt} {x y : Int32} : cSit c x y 2 = c 2 := by
  unfold cSit cNote
  split
  · split <;> simp (disch := omega) only [cWn]
  · split <;> simp (disch := omega) only [cWn]
theorem cShift_2 {c : cSt} {x y : Int32} : cShift c x y 2 = c 2 := by
  unfold cShift
  rw [cSit_2]
  unfold cShift0
  split <;> simp (disch := omega) only [cWn]
theorem cSettle_2 {c : cSt} {x : Int32} {b : Bool} : (cSettle c x b).2 2 = c 2 := by
  unfold cSettle
  split
  · split
    · exact cShift_2
    · exact cSit_2
  · exact cSit_2
theorem cRun_2 {most : Int32} : ∀ n (c : cSt) (y : Int32), cRun most n c y 2 = c 2
  | 0, _, _ => rfl
  | n + 1, c, y => by
    unfold cRun
    split
    · rw [cRun_2 n, cSettle_2]
    · rfl
theorem cCome_2 {c : cSt} {x t : Int32} : cCome c x t 2 = c 2 := by
  unfold cCome
  rw [cRun_2]
  unfold cCome0 cEnter
  split
  · split
    · split
      · split
        · show cShift _ _ _ 2 = _
          rw [cShift_2]; simp (disch := omega) only [cWn]
        · show cSit _ _ _ 2 = _
          rw [cSit_2]; simp (disch := omega) only [cWn]
      · show cSit _ _ _ 2 = _
        rw [cSit_2]; simp (disch := omega) only [cWn]
    · simp (disch := omega) only [cWn]
  · simp (disch := omega) only [cWn]
theorem ifHome_sim {B : Nat} {c0 c1 d : cSt} (hS : SR B c0 (d 1)) (hB : B < 2 ^ 30) {k : Nat} {t : Int32} (hk : k < 16) (he : ¬ c0 2 k = -1) {w : Nat} (hw : w < 3) : (if (tTry c0 c1 (nI k) t).1 = true then tTN c0 (tTry c0 c1 (nI k) t).2 (nI k) (nI w) else -1) = mHomeIf d (nI k) t (nI w) := by
  have hS' : SR B c0 (mA d 1) := hS
  unfold mHomeIf tTry
  rw [hS.rel.whyHome hk he]
  by_cases h0 : mWhyH d (nI k) t = 0
  · have hp : c0 4 k = -1 := by
      have := whyHome_0 ((hS.rel.whyHome hk he).trans h0)
      rw [ix_nI (by omega)] at this; exact this
    obtain ⟨hC, hr⟩ := come_SR (t := t) hS' hB hk he hp
    have he' : ¬ cCome c0 (nI k) t 2 k = -1 := by rw [cCome_2]; exact he
    have d3 : (mHome (mA d) (nI k) t).1 1 (9 * k + 3) = cCome c0 (nI k) t 4 k := hC.rel.row k hk he' 2 (by omega)
    rw [if_pos h0, if_pos rfl, if_pos (whyH_le.mpr h0)]
    unfold tTN
    show (if nI w = 0 then cCome c0 (nI k) t 4 (ix (nI k)) else if nI w = 1 then cCome c0 (nI k) t 0 8 - c0 0 8 else cAt (cCome c0 (nI k) t) 24 - cAt c0 24) = _
    rw [ix_nI (by omega), d3, ← hr, hC.rel.atPlace, hS.rel.atPlace]
    rfl
  · rw [if_neg h0, if_neg (show ¬ ((false, c1) : Bool × cSt).1 = true from fun w => by cases w), if_neg (fun q => h0 (whyH_le.mp q))]
theorem all_sim {B : Nat} {c d : cSt} {t : Int32} (hB : B + 384 < 2 ^ 30) (hS : SR B c (d 1)) : ∀ n, n ≤ 16 → SR (B + 24 * n) (tAll c t n) (mAllH d t n 1)
  | 0, _ => hS
  | n + 1, hn => by
    have ih := all_sim hB hS (t := t) n (by omega)
    unfold tAll mAllH
    rw [← ih.rel.exs n (by omega)]
    by_cases he : cEx (tAll c t n) (nI n) = true
    · have he' := cEx_at (by omega) he
      have d3 : mAllH d t n 1 (9 * n + 3) = tAll c t n 4 n := ih.rel.row n (by omega) he' 2 (by omega)
      rw [if_pos he, if_pos he, d3]
      by_cases hp : tAll c t n 4 n = -1
      · rw [if_pos hp, if_pos hp]
        exact (come_SR ih (by omega) (by omega) he' hp).1
      · rw [if_neg hp, if_neg hp]
        exact ih.mono (by omega)
    · rw [if_neg he, if_neg he]
      exact ih.mono (by omega)
theorem inH_sim {B : Nat} {c d : cSt} {t : Int32} (hB : B + 384 < 2 ^ 30) (hS : SR B c (d 1)) : cSitD (tAll c t 16) = mInH d t := by
  have hS' : SR B c (mA d 1) := hS
  have := all_sim (t := t) hB hS' 16 (Nat.le_refl 16)
  unfold mInH
  exact sitD_sim this.rel this.inv
theorem good_sim {B : Nat} {c d : cSt} (hB : B + 384 < 2 ^ 30) (hS : SR B c (d 1)) : tGood c = mGood d := by
  unfold tGood mGood
  rw [inH_sim hB hS, inH_sim hB hS, hS.rel.time]
/-! the digest -/
theorem dgF_ext {f g : Nat → Int32} {e : Int64} : ∀ n, (∀ k, k < n → f k = g k) → dgF f n e = dgF g n e
  | 0, _ => rfl
  | n + 1, h => by
    unfold dgF
    rw [h n (by omega), dgF_ext n fun k hk => h k (by omega)]
theorem mHomeIfS_row {d : cSt} {x t : Int32} {j : Nat} (hj : j ≠ 2) : mHomeIfS d x t j = d j := by
  unfold mHomeIfS
  split
  · unfold mA; exact mCpy_row hj
  · rfl
theorem mHs_row {e : cSt} {x : Int32} {j : Nat} (hj : j ≠ 2) : ∀ n, mHs e x n j = e j
  | 0 => rfl
  | n + 1 => by unfold mHs; rw [mHomeIfS_row hj, mHs_row hj n]
theorem dgS_row {d : cSt} {j : Nat} (hj : j ≠ 2) : ∀ n, dgS d n j = d j
  | 0 => rfl
  | n + 1 => by
    unfold dgS
    split
    · rw [mHs_row hj, dgS_row hj n]
    · exact dgS_row hj n
theorem dov_sim {B : Nat} {c0 c1 d : cSt} (hB : B < 2 ^ 30) (hS : SR B c0 (d 1)) {e : Int64} : ∀ n, n ≤ 16 → tD c0 c1 n e = dgE d n e
  | 0, _ => rfl
  | n + 1, hn => by
    have hS' : SR B c0 (dgS d n 1) := by rw [dgS_row (by omega)]; exact hS
    unfold tD dgE
    rw [← hS'.rel.exs n (by omega), dov_sim hB hS n (by omega)]
    by_cases he : cEx c0 (nI n) = true
    · have he' := cEx_at (by omega) he
      rw [if_pos he, if_pos he]
      unfold tMD
      rw [hS'.rel.whyHome (by omega) he', ix_nI (by omega)]
      rw [dgF_ext (f := fun v => c0 (2 + v) n) (g := fun v => mDoveN (dgS d n) (nI n) (nI v)) 8 fun v hv => (hS'.rel.dov (by omega) hv he').symm]
      refine dgF_ext 3 fun w hw => ?_
      have hS2 : SR B c0 (mHs (dgS d n) (nI n) w 1) := by rw [mHs_row (by omega)]; exact hS'
      exact ifHome_sim hS2 hB (by omega) he' hw
    · rw [if_neg he, if_neg he]
theorem hol_sim {c d : cSt} (hR : Rel c (d 1)) (hI : Inv 24 c) {e : Int64} : ∀ n, n ≤ 24 → tH c n e = dgF (fun k => mHoleN d (nI k / 3) (nI k - nI k / 3 * 3)) (3 * n) e
  | 0, _ => rfl
  | n + 1, hn => by
    unfold tH
    rw [hol_sim hR hI n (by omega)]
    have key : ∀ j, j < 3 → mHoleN d (nI (3 * n + j) / 3) (nI (3 * n + j) - nI (3 * n + j) / 3 * 3) = c (11 + j) n := fun j hj => by
      have e1 : nI (3 * n + j) / 3 = nI n := by
        rw [show (3 : Int32) = nI 3 from rfl, pk_div (by omega) (by omega) (by omega)]; congr 1; omega
      have e2 : nI (3 * n + j) - nI (3 * n + j) / 3 * 3 = nI j := by
        rw [show (3 : Int32) = nI 3 from rfl, pk_rem (by omega) (by omega) (by omega)]; congr 1; omega
      rw [e2, e1]
      exact hole_sim hR hI (by omega) hj
    show 31 * (31 * (31 * _ + (c (11 + 0) n).toInt64) + (c (11 + 1) n).toInt64) + (c (11 + 2) n).toInt64 = 31 * (31 * (31 * _ + _) + _) + _
    rw [← key 0 (by omega), ← key 1 (by omega), ← key 2 (by omega)]
    rfl
theorem way_sim {c d : cSt} (hR : Rel c (d 1)) {n0 : Nat} (hn0 : c 17 2 = nI n0) (h25 : n0 ≤ 25) {e : Int64} : ∀ n, n ≤ n0 → tMW c n e = dgF (fun k => d 1 (181 + k)) (2 * n) e
  | 0, _ => rfl
  | n + 1, hn => by
    obtain ⟨w1, w2⟩ := hR.who n (by omega) (by rw [hn0, nI_ltI (by omega) (by omega)]; omega)
    unfold tMW
    rw [way_sim hR hn0 h25 n (by omega), ← w1, ← w2]
    rfl
theorem digest_sim {B : Nat} {c0 c1 c9 d : cSt} {n0 L : Nat} (hB : B + 384 < 2 ^ 30) (hS : SR B c0 (d 1)) (hn0 : c0 17 2 = nI n0) (h25 : n0 ≤ 25) (hs : c9 0 5 = d 0 4) (hL : c9 0 7 = d 0 8) (ht : ∀ k, k < L → c9 2 k = d 5 k) : tDig c0 c1 c9 n0 L = mDig (cW d 0 0 0) (dgS (cW d 0 0 0) 16) n0 L := by
  have hD1 : cW d 0 0 0 1 = d 1 := cWn (by omega)
  have hSD : SR B c0 (cW d 0 0 0 1) := by rw [hD1]; exact hS
  have hT1 : dgS (cW d 0 0 0) 16 1 = d 1 := by rw [dgS_row (by omega), hD1]
  have hST : SR B c0 (dgS (cW d 0 0 0) 16 1) := by rw [hT1]; exact hS
  have e1 : td1 c0 c9 = dgF (fun k => mNumN (cW d 0 0 0) (nI k)) 18 3889 := by
    unfold td1
    refine dgF_ext 18 fun k hk => ?_
    exact num_sim hSD.rel hSD.inv (by rw [cWr, zU_ne (by omega)]; exact hs.symm) k hk
  have e3 : td3 c0 c1 c9 = dg2 (cW d 0 0 0) (dgS (cW d 0 0 0) 16) := by
    unfold td3 dg2 dg1
    rw [e1, dov_sim (by omega) hSD 16 (by omega), hol_sim hST.rel hST.inv 24 (by omega)]
  have e4 : td4 c0 c1 c9 n0 = dg4 (cW d 0 0 0) (dgS (cW d 0 0 0) 16) n0 := by
    unfold td4 dg4 dg3
    rw [e3, way_sim hST.rel hn0 h25 n0 (by omega), freeHole_sim hST.rel hST.inv, good_sim hB hST, ← hST.rel.stp 0 (by omega), ← hST.rel.stp 1 (by omega)]
  have e5 : td5 c0 c1 c9 n0 = dg5 (cW d 0 0 0) (dgS (cW d 0 0 0) 16) n0 := by
    have hSA : SR B c0 (mA (dgS (cW d 0 0 0) 16) 1) := by rw [mA_1]; exact hST
    have e8 : mA (dgS (cW d 0 0 0) 16) 0 8 = d 0 8 := by
      rw [mA_0, dgS_row (by omega), cWr, zU_ne (by omega)]
    unfold td5 dg5
    rw [e4, hSA.rel.share, e8, hL]
  unfold tDig mDig
  rw [e5]
  refine dgF_ext L fun k hk => ?_
  show c9 2 k = mCpy (dgS (cW d 0 0 0) 16) 2 0 1 0 232 5 k
  rw [mCpy_ne (by omega), dgS_row (by omega), cWn (by omega)]
  exact ht k hk
