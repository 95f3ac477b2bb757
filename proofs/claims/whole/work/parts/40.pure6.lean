/-! dawn -/
/-- a cote and a row that go together, and what the cote keeps -/
def SR (B : Nat) (c : cSt) (z : Nat → Int32) : Prop := Rel c z ∧ Inv 24 c ∧ (∃ w, w ≤ 25 ∧ c 17 2 = nI w) ∧ (∃ n, n ≤ B ∧ c 0 8 = nI n)
theorem SR.mono {B B' : Nat} {c : cSt} {z : Nat → Int32} (h : SR B c z) (hb : B ≤ B') : SR B' c z := by
  obtain ⟨h1, h2, h3, n, hn, e⟩ := h
  exact ⟨h1, h2, h3, n, by omega, e⟩
theorem zU_same {f : Nat → Int32} {i : Nat} : zU f i (f i) = f := by
  funext q; unfold zU; split
  · rename_i h; rw [h]
  · rfl
theorem zU_noop {f : Nat → Int32} {i : Nat} {v : Int32} (h : f i = v) : zU f i (v + 0) = f := by rw [Int32.add_zero, ← h, zU_same]
theorem dw_sim {c d : cSt} (hR : Rel c (d 1)) (hO : ∀ k, k < 16 → ¬ c 2 k = -1 → ∃ n, n < 24 ∧ c 2 k = nI n) {k : Nat} (hk : k < 16) (he : ¬ c 2 k = -1) (hp : c 4 k = -1 ∨ ∃ n, n < 25 ∧ c 4 k = nI n) : Rel (cW (cDw c (nI k)) 4 k (-1)) (mDw d k 1) := by
  have h3 : d 1 (9 * k + 3) = c 4 k := hR.row k hk he 2 (by omega)
  have h1 : d 1 (9 * k + 1) = c 2 k := hR.row k hk he 0 (by omega)
  have h7 : d 1 (9 * k + 7) = c 8 k := hR.row k hk he 6 (by omega)
  have h8 : d 1 (9 * k + 8) = c 9 k := hR.row k hk he 7 (by omega)
  obtain ⟨w, hw, ew⟩ := hO k hk he
  unfold mDw mDw3 mDw2 mDw1 mDwI cDw
  rw [ix_nI (by omega), h3, h1]
  rcases hp with e0 | ⟨n, hn, e0⟩
  · rw [e0, if_neg (show ¬ (0 : Int32) ≤ -1 by decide), if_neg (show ¬ (0 : Int32) ≤ -1 by decide), if_pos rfl, if_neg (show ¬ (-1 : Int32) = c 2 k from fun q => he q.symm)]
    simp (disch := omega) only [cWr, zU_ne]
    rw [zU_noop (by simp (disch := omega) only [zU_ne]), h7, show d 1 177 = c 15 3 from hR.dwn 3 (by omega)]
    exact ((hR.uDwn (j := 3) (by omega)).uRow (y := 6) hk (by omega) (by omega)).uRow (y := 2) hk (by omega) (by omega)
  · rw [e0, if_pos (nI_pos' (by omega)), if_pos (nI_pos' (by omega)), if_neg (nI_nm (by omega))]
    by_cases h24 : n = 24
    · subst h24
      rw [if_pos (show nI 24 = 24 from rfl), if_pos (show nI 24 = 24 from rfl), if_neg (show ¬ nI 24 = c 2 k by rw [ew, nI_eq (by omega) (by omega)]; omega)]
      simp (disch := omega) only [cWr, zU_ne]
      rw [zU_noop (by simp (disch := omega) only [zU_ne]), zU_noop (by simp (disch := omega) only [zU_ne]), show d 1 176 = c 15 2 from hR.dwn 2 (by omega)]
      exact (hR.uDwn (j := 2) (by omega)).uRow (y := 2) hk (by omega) (by omega)
    · have hn24 : ¬ nI n = 24 := fun q => h24 (nI_inj (b := 24) (by omega) (by omega) q)
      rw [if_neg hn24, if_neg hn24]
      by_cases ho : nI n = c 2 k
      · rw [if_pos ho, if_pos ho, if_pos ho]
        simp (disch := omega) only [cWr, zU_ne]
        rw [zU_noop (by simp (disch := omega) only [zU_ne]), h8, show d 1 174 = c 15 0 from hR.dwn 0 (by omega)]
        exact ((hR.uDwn (j := 0) (by omega)).uRow (y := 7) hk (by omega) (by omega)).uRow (y := 2) hk (by omega) (by omega)
      · rw [if_neg ho, if_neg ho, if_neg ho]
        simp (disch := omega) only [cWr, zU_ne]
        rw [zU_noop (by simp (disch := omega) only [zU_ne]), zU_noop (by simp (disch := omega) only [zU_ne]), show d 1 175 = c 15 1 from hR.dwn 1 (by omega)]
        exact (hR.uDwn (j := 1) (by omega)).uRow (y := 2) hk (by omega) (by omega)
theorem n1_sim {c d : cSt} (hR : Rel c (d 1)) : ∀ n, n ≤ 4 → Rel (cN1 c n) (mD1 d n 1)
  | 0, _ => hR
  | n + 1, hn => by
    unfold cN1 mD1
    rw [cWr]
    exact (n1_sim hR n (by omega)).uDwn (by omega)
theorem cN1_row {c : cSt} {j : Nat} (hj : j ≠ 15) : ∀ n, cN1 c n j = c j
  | 0 => rfl
  | n + 1 => by unfold cN1; rw [cWn hj]; exact cN1_row hj n
theorem cN1_15 {c : cSt} : ∀ n q, q < n → cN1 c n 15 q = 0
  | 0, _, h => absurd h (by omega)
  | n + 1, q, h => by
    unfold cN1
    rw [cWr]
    by_cases hq : q = n
    · rw [hq, zU_at]
    · rw [zU_ne hq]; exact cN1_15 n q (by omega)
/-- what one dove's dawn changes -/
theorem cDw_row {c : cSt} {x : Int32} {j : Nat} (h8 : j ≠ 8) (h9 : j ≠ 9) (h15 : j ≠ 15) : cDw c x j = c j := by
  unfold cDw
  split
  · simp (disch := omega) only [cWn]
  · split
    · simp (disch := omega) only [cWn]
    · split <;> simp (disch := omega) only [cWn]
theorem cDw_89 {c : cSt} {x : Int32} {j q : Nat} (h15 : j ≠ 15) (hq : q ≠ ix x) : cDw c x j q = c j q := by
  have key : ∀ (cc : cSt) (a : Nat) (v : Int32), cW cc a (ix x) v j q = cc j q := fun cc a v => by
    unfold cW
    split <;> first | rfl | rw [if_neg hq]
  unfold cDw
  split
  · rw [key, cWn h15]
  · split
    · rw [cWn h15]
    · split
      · rw [key, cWn h15]
      · rw [cWn h15]
theorem cDw_s {c : cSt} {k a b : Nat} (hk : k < 16) (hp : c 4 k = -1 ∨ ∃ n, n < 25 ∧ c 4 k = nI n) (ha : c 15 0 = nI a) (hb : c 15 1 = nI b) : ∃ a' b', cDw c (nI k) 15 0 = nI a' ∧ cDw c (nI k) 15 1 = nI b' ∧ a' + b' = a + b + (if hHole (c 4 k) = true then 1 else 0) := by
  unfold cDw
  rw [ix_nI (by omega)]
  rcases hp with e0 | ⟨n, hn, e0⟩
  · rw [e0, if_pos rfl, if_neg (by decide)]
    simp (disch := omega) only [cWn, cWr, zU_ne]
    exact ⟨a, b, ha, hb, rfl⟩
  · rw [e0, if_neg (nI_nm (by omega))]
    by_cases h24 : n = 24
    · subst h24
      rw [if_pos (show nI 24 = 24 from rfl), if_neg (by decide)]
      simp (disch := omega) only [cWn, cWr, zU_ne]
      exact ⟨a, b, ha, hb, rfl⟩
    · rw [if_neg (show ¬ nI n = 24 from fun q => h24 (nI_inj (b := 24) (by omega) (by omega) q)), if_pos ((hHole_nI (by omega)).mpr (by omega))]
      by_cases ho : nI n = c 2 k
      · rw [if_pos ho]
        simp (disch := omega) only [cWn, cWr, zU_ne, zU_at]
        exact ⟨a + 1, b, by rw [ha, nI_1], hb, by omega⟩
      · rw [if_neg ho]
        simp (disch := omega) only [cWr, zU_ne, zU_at]
        exact ⟨a, b + 1, ha, by rw [hb, nI_1], by omega⟩
/-- the doves' dawn, one by one: how far it is through at n -/
def N2s (c : cSt) (n : Nat) (c' : cSt) : Prop :=
  (∀ j, j ≠ 4 → j ≠ 8 → j ≠ 9 → j ≠ 15 → c' j = c j) ∧ (∀ q, n ≤ q ∨ c 2 q = -1 → c' 4 q = c 4 q ∧ c' 8 q = c 8 q ∧ c' 9 q = c 9 q) ∧ (∀ q, q < n → ¬ c 2 q = -1 → c' 4 q = -1) ∧
  (∃ a b, c' 15 0 = nI a ∧ c' 15 1 = nI b ∧ a + b = cnt (fun k => cEx c (nI k) && hHole (c 4 k)) n)
theorem n2_sim {c d : cSt} (hR : Rel c (d 1)) (hI : Inv 24 c) (h0 : c 15 0 = 0) (h1 : c 15 1 = 0) : ∀ n, n ≤ 16 → Rel (cN2 c n) (mD2 d n 1) ∧ N2s c n (cN2 c n)
  | 0, _ => ⟨hR, fun _ _ _ _ _ => rfl, fun _ _ => ⟨rfl, rfl, rfl⟩, fun q h => absurd h (by omega), ⟨0, 0, h0, h1, rfl⟩⟩
  | n + 1, hn => by
    obtain ⟨ihR, i1, i2, i3, a, b, ia, ib, iab⟩ := n2_sim hR hI h0 h1 n (by omega)
    have hex : cEx (cN2 c n) (nI n) = cEx c (nI n) := by
      rw [Bool.eq_iff_iff, cEx_nI (by omega), cEx_nI (by omega), i1 2 (by omega) (by omega) (by omega) (by omega)]
    unfold cN2 mD2
    rw [← ihR.exs n (by omega), hex]
    by_cases he : cEx c (nI n) = true
    · have he' := cEx_at (by omega) he
      have e2 : cN2 c n 2 = c 2 := i1 2 (by omega) (by omega) (by omega) (by omega)
      have e4 : cN2 c n 4 n = c 4 n := (i2 n (Or.inl (Nat.le_refl n))).1
      rw [if_pos he, if_pos he]
      obtain ⟨a', b', ga, gb, gab⟩ := cDw_s (c := cN2 c n) (k := n) (by omega) (by rw [e4]; exact hI.plc n (by omega) he') ia ib
      refine ⟨dw_sim ihR (by rw [e2]; exact hI.own) (by omega) (by rw [e2]; exact he') (by rw [e4]; exact hI.plc n (by omega) he'), ?_, ?_, ?_, ?_⟩
      · intro j j4 j8 j9 j15
        rw [cWn j4, cDw_row j8 j9 j15]; exact i1 j j4 j8 j9 j15
      · intro q hq
        have hqn : q ≠ n := fun w => by rcases hq with r | r; · omega
                                        · exact he' (w ▸ r)
        have hi : q ≠ ix (nI n) := by rw [ix_nI (by omega)]; exact hqn
        have hq' : n ≤ q ∨ c 2 q = -1 := by rcases hq with r | r; · exact Or.inl (by omega)
                                            · exact Or.inr r
        obtain ⟨r1, r2, r3⟩ := i2 q hq'
        refine ⟨?_, ?_, ?_⟩
        · rw [cWr, zU_ne hqn, cDw_89 (by omega) hi]; exact r1
        · rw [cWn (by omega), cDw_89 (by omega) hi]; exact r2
        · rw [cWn (by omega), cDw_89 (by omega) hi]; exact r3
      · intro q hq hx
        rw [cWr]
        by_cases hc : q = n
        · rw [hc, zU_at]
        · rw [zU_ne hc, cDw_89 (by omega) (by rw [ix_nI (by omega)]; exact hc)]
          exact i3 q (by omega) hx
      · refine ⟨a', b', by rw [cWn (by omega)]; exact ga, by rw [cWn (by omega)]; exact gb, ?_⟩
        show _ = (if (cEx c (nI n) && hHole (c 4 n)) = true then cnt _ n + 1 else cnt _ n)
        rw [gab, iab, e4, he, Bool.true_and]
        split <;> rfl
    · rw [if_neg he, if_neg he]
      rw [Bool.not_eq_true] at he
      have hc : cnt (fun k => cEx c (nI k) && hHole (c 4 k)) (n + 1) = cnt (fun k => cEx c (nI k) && hHole (c 4 k)) n := by
        show (if (cEx c (nI n) && hHole (c 4 n)) = true then _ else _) = _
        rw [he, Bool.false_and, if_neg (by decide)]
      refine ⟨ihR, i1, ?_, ?_, a, b, ia, ib, by rw [hc]; exact iab⟩
      · intro q hq
        refine i2 q ?_
        rcases hq with r | r
        · exact Or.inl (by omega)
        · exact Or.inr r
      · intro q hq hx
        refine i3 q ?_ hx
        have : q ≠ n := fun w => by
          subst w
          rw [(cEx_nI (by omega)).mpr hx] at he
          cases he
        omega
theorem n3_row {c : cSt} {j : Nat} (hj : j ≠ 11) : ∀ n, cN3 c n j = c j
  | 0 => rfl
  | n + 1 => by unfold cN3; rw [cWn hj]; exact n3_row hj n
theorem n3_11 {c : cSt} : ∀ n q, q < n → cN3 c n 11 q = -1
  | 0, _, h => absurd h (by omega)
  | n + 1, q, h => by
    unfold cN3
    rw [cWr]
    by_cases hq : q = n
    · rw [hq, zU_at]
    · rw [zU_ne hq]; exact n3_11 n q (by omega)
theorem n3_sim {c : cSt} {z : Nat → Int32} (hR : Rel c z) : ∀ n, Rel (cN3 c n) z
  | 0 => hR
  | n + 1 => by unfold cN3; exact (n3_sim hR n).uRest (by omega) (by omega)
theorem inHoles {c d : cSt} (hR : Rel c (d 1)) : mAt d 0 23 = nI (cnt (fun k => cEx c (nI k) && hHole (c 4 k)) 16) := by
  unfold mAt
  rw [hR.atP (P := hHole) (Q := fun x => mIn x 0 23) fun k _ _ => hHole_mIn.symm]
theorem night_sim {B : Nat} {c d : cSt} (h : SR B c (d 1)) : SR B (cNight c) (mDawn d 1) ∧ cNightR c = mAt d 0 23 := by
  obtain ⟨hR, hI, ⟨w, hw, hsz⟩, n0, hn0, h8⟩ := h
  have hR1 := n1_sim hR 4 (Nat.le_refl 4)
  have r1 : ∀ j, j ≠ 15 → cN1 c 4 j = c j := fun j hj => cN1_row hj 4
  have hI1 : Inv 24 (cN1 c 4) := hI.congr (r1 2 (by omega)) (r1 4 (by omega)) (r1 5 (by omega)) (r1 11 (by omega)) (r1 12 (by omega)) (by rw [r1 14 (by omega)]) (fun k _ => by rw [r1 6 (by omega)]) (fun k _ => by rw [r1 7 (by omega)]) (fun k _ => by rw [r1 8 (by omega)]) (fun k _ => by rw [r1 9 (by omega)])
  obtain ⟨hR2, i1, i2, i3, a, b, ia, ib, iab⟩ := n2_sim hR1 hI1 (cN1_15 4 0 (by omega)) (cN1_15 4 1 (by omega)) 16 (Nat.le_refl 16)
  have hR3 := n3_sim hR2 24
  have rr : ∀ j, j ≠ 4 → j ≠ 8 → j ≠ 9 → j ≠ 15 → j ≠ 11 → cNightL c j = c j := fun j j4 j8 j9 j15 j11 => by
    unfold cNightL
    rw [n3_row j11, i1 j j4 j8 j9 j15, r1 j j15]
  have r4 : ∀ k, k < 16 → cNightL c 4 k = -1 := fun k hk => by
    unfold cNightL
    rw [n3_row (by omega)]
    by_cases hx : c 2 k = -1
    · have hx' : cN1 c 4 2 k = -1 := by rw [r1 2 (by omega)]; exact hx
      rw [(i2 k (Or.inr hx')).1, r1 4 (by omega)]
      exact (hI.non k hk hx).1
    · exact i3 k hk (by rw [r1 2 (by omega)]; exact hx)
  have r8 : ∀ k, c 2 k = -1 → cNightL c 8 k = c 8 k ∧ cNightL c 9 k = c 9 k := fun k hx => by
    have hx' : cN1 c 4 2 k = -1 := by rw [r1 2 (by omega)]; exact hx
    unfold cNightL
    rw [n3_row (by omega), n3_row (by omega), (i2 k (Or.inr hx')).2.1, (i2 k (Or.inr hx')).2.2, r1 8 (by omega), r1 9 (by omega)]
    exact ⟨rfl, rfl⟩
  have hRL : Rel (cNightL c) (mDawnL d 1) := hR3
  have hRN : Rel (cNight c) (mDawn d 1) := by
    unfold cNight mDawn
    simp only [cWr]
    rw [hRL.day]
    exact hRL.uDay.uTime
  have rn : ∀ j, j ≠ 0 → cNight c j = cNightL c j := fun j j0 => by unfold cNight; simp (disch := omega) only [cWn]
  refine ⟨⟨hRN, ?_, ⟨w, hw, ?_⟩, n0, hn0, ?_⟩, ?_⟩
  · have e2 : cNight c 2 = c 2 := by rw [rn 2 (by omega), rr 2] <;> omega
    have e4 : cNight c 4 = cNightL c 4 := rn 4 (by omega)
    have e5 : cNight c 5 = c 5 := by rw [rn 5 (by omega), rr 5] <;> omega
    have e12 : cNight c 12 = c 12 := by rw [rn 12 (by omega), rr 12] <;> omega
    have e14 : cNight c 14 = c 14 := by rw [rn 14 (by omega), rr 14] <;> omega
    have e11 : ∀ q, q < 24 → cNight c 11 q = -1 := fun q hq => by rw [rn 11 (by omega)]; exact n3_11 24 q hq
    unfold Inv
    rw [e2, e4, e5, e12, e14]
    refine ⟨hI.own, fun k hk _ => Or.inl (r4 k hk), hI.mat, fun q hq _ => Or.inl (e11 q hq), fun k hk _ q hq hp => ?_, hI.wnr, hI.wnt, fun k hk hx => ?_, hI.mst⟩
    · rw [r4 k hk] at hp
      exact (nI_nm (by omega) hp.symm).elim
    · obtain ⟨g4, g5, g6, g7, g8, g9⟩ := hI.non k hk hx
      have e6 : cNight c 6 = c 6 := by rw [rn 6 (by omega), rr 6] <;> omega
      have e7 : cNight c 7 = c 7 := by rw [rn 7 (by omega), rr 7] <;> omega
      rw [e6, e7, rn 8 (by omega), rn 9 (by omega), (r8 k hx).1, (r8 k hx).2]
      exact ⟨r4 k hk, g5, g6, g7, g8, g9⟩
  · rw [rn 17 (by omega), rr 17 (by omega) (by omega) (by omega) (by omega) (by omega)]; exact hsz
  · have : cNight c 0 8 = cNightL c 0 8 := by unfold cNight; simp (disch := omega) only [cWr, zU_ne]
    rw [this, rr 0 (by omega) (by omega) (by omega) (by omega) (by omega)]; exact h8
  · unfold cNightR
    rw [rn 15 (by omega), inHoles hR]
    show cN3 (cN2 (cN1 c 4) 16) 24 15 0 + cN3 (cN2 (cN1 c 4) 16) 24 15 1 = _
    rw [n3_row (by omega), ia, ib, nI_add, iab]
    refine congrArg nI (cnt_ext 16 fun k hk => ?_)
    show (cEx (cN1 c 4) (nI k) && hHole (cN1 c 4 4 k)) = (cEx c (nI k) && hHole (c 4 k))
    have : cEx (cN1 c 4) (nI k) = cEx c (nI k) := by
      rw [Bool.eq_iff_iff, cEx_nI hk, cEx_nI hk, r1 2 (by omega)]
    rw [this, r1 4 (by omega)]
