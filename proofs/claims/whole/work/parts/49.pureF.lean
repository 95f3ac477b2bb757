/-! an evening, part by part -/
theorem mAtT_congr {d e : cSt} (h5 : e 5 = d 5) (h8 : e 0 8 = d 0 8) : mAtT e = mAtT d := by
  funext p
  unfold mAtT
  rw [h5, h8]
theorem mNumL_congr {d e : cSt} {mo : Int32} (h : mAtT e = mAtT d) : ∀ n p s, mNumL e mo n p s = mNumL d mo n p s
  | 0, _, _ => rfl
  | n + 1, p, s => by
    unfold mNumL
    rw [h, mNumL_congr h n]
theorem mNum_congr {d e : cSt} {fr lo mo : Int32} (h : mAtT e = mAtT d) : mNum e fr lo mo = mNum d fr lo mo := by
  unfold mNum
  rw [h, mNumL_congr h]
theorem mTwo_congr {d e : cSt} {fr mo sg lo hi : Int32} (h : mAtT e = mAtT d) : mTwo e fr mo sg lo hi = mTwo d fr mo sg lo hi := by
  unfold mTwo
  rw [mNum_congr h, mNum_congr h, h]
theorem mPart_congr {d e : cSt} {p : Int32} (h : mAtT e = mAtT d) : (mPart e p).1 = (mPart d p).1 := by
  unfold mPart
  rw [h]
  split
  · rfl
  · split
    · show (mTwo e (p + 1) _ _ _ _).1 = (mTwo d (p + 1) _ _ _ _).1; rw [mTwo_congr h]
    · split
      · show (mTwo e (p + 1) _ _ _ _).1 = (mTwo d (p + 1) _ _ _ _).1; rw [mTwo_congr h]
      · split
        · show (mTwo e (p + 1) _ _ _ _).1 = (mTwo d (p + 1) _ _ _ _).1; rw [mTwo_congr h]
        · split
          · show (mNum e (p + 1) _ _).1 = (mNum d (p + 1) _ _).1; rw [mNum_congr h]
          · split
            · show (mNum e (p + 1) _ _).1 = (mNum d (p + 1) _ _).1; rw [mNum_congr h]
            · rfl
theorem mErrL_congr : ∀ n (d e : cSt) p, e 5 = d 5 → e 0 8 = d 0 8 → (mErrL e n p).1 = (mErrL d n p).1
  | 0, _, _, _, _, _ => rfl
  | n + 1, d, e, p, h5, h8 => by
    have hA := mAtT_congr h5 h8
    unfold mErrL
    rw [mPart_congr hA, h5, h8]
    split
    · split
      · rfl
      · split
        · exact mErrL_congr n _ _ _ (by rw [mPart_row (by omega), mPart_row (by omega), h5]) (by rw [mPart_0 (by omega) (by omega) (by omega), mPart_0 (by omega) (by omega) (by omega), h8])
        · rfl
    · rfl
theorem tEL_go {t : Nat → Int32} {L : Nat} (hL : L ≤ 60) : ∀ n p (c0 c c' : cSt) (z : Int32), c 2 = t → rGo t n p c = (true, c') → p + n ≤ L → tEL (L + 1 - p) p L c0 c z = tEL (L + 1 - (p + n)) (p + n) L c0 c' z ∧ (tEOK (L + 1 - p) p L c0 c ↔ tEOK (L + 1 - (p + n)) (p + n) L c0 c')
  | 0, p, c0, c, c', z, _, h, _ => by cases h; exact ⟨rfl, Iff.rfl⟩
  | n + 1, p, c0, c, c', z, hc, h, hp => by
    unfold rGo at h
    split at h
    · rename_i hk
      have hpn : p + 1 + n ≤ L := by omega
      have h2 : (rTake c (t p)).2 2 = t := by rw [rTake_r (j := 2) (by omega)]; exact hc
      obtain ⟨i1, i2⟩ := tEL_go hL n (p + 1) c0 (rTake c (t p)).2 c' z h2 h hpn
      have hcond : ¬ (nI p = nI L ∨ c 2 p = 59) := by
        rintro (w | w)
        · have := nI_inj (by omega) (by omega) w; omega
        · rw [hc] at w; exact hk.2 w
      have hnx : tNext c p L = (rTake c (t p)).2 := by
        unfold tNext
        rw [if_neg (show ¬ nI L ≤ nI p from nI_ge (by omega) (by omega)), hc]
      rw [show p + (n + 1) = p + 1 + n by omega, ← i1, ← i2, show L + 1 - p = (L + 1 - (p + 1)) + 1 by omega]
      constructor
      · show (if nI p = nI L ∨ c 2 p = 59 then _ else tEL (L + 1 - (p + 1)) (p + 1) L c0 (tNext c p L) z) = _
        rw [if_neg hcond, hnx]
      · show (if nI p = nI L ∨ c 2 p = 59 then _ else tEOK (L + 1 - (p + 1)) (p + 1) L c0 (tNext c p L)) ↔ _
        rw [if_neg hcond, hnx]
    · cases h
theorem tNext_r {c9 : cSt} {k L j : Nat} (h : j ≠ 3) : tNext c9 k L j = c9 j := by
  unfold tNext
  split
  · rfl
  · exact rTake_r h
/-- how an evening ends -/
def PassEnd (B : Nat) (c9 d : cSt) (x : Int32 × cSt × cSt) (y : Int32 × cSt) : Prop :=
  ∃ r d0 d9 dF, x = (r, d0, d9) ∧ y = (r, dF) ∧ SR B d0 (dF 1) ∧ mOK dF ∧ (∀ j, j ≠ 3 → d9 j = c9 j) ∧ (∀ j, j ≠ 0 → j ≠ 1 → dF j = d j) ∧ (∀ i, i ≠ 9 → i ≠ 10 → i ≠ 11 → dF 0 i = d 0 i)
theorem stop_ok {d : cSt} {v w : Int32} (h : mOK d) : mOK (cW (cW d 1 178 v) 1 179 w) := mOK_ne (mOK_ne h fun q hq => ⟨by omega, by omega⟩) fun q hq => ⟨by omega, by omega⟩
theorem pass_sim {t : Nat → Int32} {L : Nat} : ∀ n p (c0 c9 d : cSt) (B : Nat) (z : Int32), SR B c0 (d 1) → B + 24 * n < 2 ^ 30 → mOK d → TX t d L → c9 2 = t → Beg c9 → p < L → L < p + n → (mErrL d (n + 1) (nI p)).1 = -1 →
    tEOK (L + 1 - p) p L c0 c9 ∧ pOK n d (nI p) ∧ PassEnd (B + 24 * n) c9 d (tEL (L + 1 - p) p L c0 c9 z) (mPassL n d (nI p) z)
  | 0, _, _, _, _, _, _, _, _, _, _, _, _, h1, h2, _ => absurd h2 (by omega)
  | n + 1, p, c0, c9, d, B, z, hS, hB, hO, hT, hc, hBg, hp, hpn, hE => by
    have hL := hT.2.1
    have rr : ∀ j, j ≠ 0 → (mPart d (nI p)).2 j = d j := fun j hj => mPart_row hj
    have r0 : ∀ i, i ≠ 9 → i ≠ 10 → i ≠ 11 → (mPart d (nI p)).2 0 i = d 0 i := fun i a b c => mPart_0 a b c
    have hle : ¬ d 0 8 ≤ nI p := by rw [hT.1]; exact nI_ge hp (by omega)
    unfold mErrL at hE
    rcases part_run (p := p) hT (by omega) hBg.1 hBg.2.1 hBg.2.2 with ⟨q, c', g1, g2, g3, g4, g5, g6, g7, g8, g9⟩ | ⟨e, c', g1, g2, g3, g4, g5, g6⟩
    · rw [g3, if_pos (nI_pos' (by omega)), hT.1, ix_nI (by omega)] at hE
      have hc' : c' 2 = t := by rw [g4.row (by omega)]; exact hc
      have hS' : SR B c0 ((mPart d (nI p)).2 1) := by rw [rr 1 (by omega)]; exact hS
      have hO' : mOK (mPart d (nI p)).2 := mOK_1 (rr 1 (by omega)) hO
      obtain ⟨w1, w2, w3, ⟨w4, w5⟩, w6, w7⟩ := play_sim hS' (by omega) hO' g8 g9
      obtain ⟨m, hm, eg⟩ := g4
      subst hm
      obtain ⟨i1, i2⟩ := tEL_go hL m p c0 c9 c' z hc eg g2
      have hend : nI (p + m) = nI L ∨ c' 2 (p + m) = 59 := by
        by_cases hq : p + m = L
        · rw [hq]; exact Or.inl rfl
        · right
          rw [if_neg (fun w => hq (nI_inj (by omega) (by omega) w)), (hT.2.2 (p + m) (by omega)).1] at hE
          rw [hc']
          by_cases h59 : t (p + m) = 59
          · exact h59
          · rw [if_neg h59] at hE
            exact absurd hE (nI_nm (by omega))
      have eEL : tEL (L + 1 - (p + m)) (p + m) L c0 c' z = if (tPP c0 c').1 = 0 then tEL (L - (p + m)) (p + m + 1) L (tPP c0 c').2 (tNext c' (p + m) L) (z + 1) else (z, cStop (tPP c0 c').2 z (tPP c0 c').1, tNext c' (p + m) L) := by
        rw [show L + 1 - (p + m) = (L - (p + m)) + 1 by omega]
        show (if nI (p + m) = nI L ∨ c' 2 (p + m) = 59 then _ else _) = _
        rw [if_pos hend]
      have eOK : tEOK (L + 1 - (p + m)) (p + m) L c0 c' ↔ ((c' 3 1 = 98 → vp_in (c' 3 2) 24) ∧ (c' 3 1 = 120 → vp_in (c' 3 2) 24) ∧ ((tPP c0 c').1 = 0 → tEOK (L - (p + m)) (p + m + 1) L (tPP c0 c').2 (tNext c' (p + m) L))) := by
        rw [show L + 1 - (p + m) = (L - (p + m)) + 1 by omega]
        show (if nI (p + m) = nI L ∨ c' 2 (p + m) = 59 then _ else _) ↔ _
        rw [if_pos hend]
      rw [i1, i2, eEL, eOK, w1]
      have ePL : mPassL (n + 1) d (nI p) z = if mWhyP (mPart d (nI p)).2 = 0 then mPassL n (mDoP (mPart d (nI p)).2).2 (nI (p + m + 1)) (z + 1) else (z, cW (cW (mPart d (nI p)).2 1 178 z) 1 179 (mWhyP (mPart d (nI p)).2)) := by
        show (if d 0 8 ≤ nI p then _ else _) = _
        rw [if_neg hle, g3, nI_1]
      have ePO : pOK (n + 1) d (nI p) ↔ (∃ L q, d 0 8 = nI L ∧ L ≤ 60 ∧ nI p = nI q ∧ q < 800) ∧ ((mPart d (nI p)).2 0 9 = 98 → vp_in ((mPart d (nI p)).2 0 10) 24) ∧ ((mPart d (nI p)).2 0 9 = 120 → vp_in ((mPart d (nI p)).2 0 11) 24) ∧ (mWhyP (mPart d (nI p)).2 = 0 → pGo (mPart d (nI p)).2 ∧ pOK n (mDoP (mPart d (nI p)).2).2 (nI (p + m + 1))) := by
        show (¬ d 0 8 ≤ nI p → _) ↔ _
        rw [g3, nI_1]
        exact ⟨fun w => w hle, fun w _ => w⟩
      rw [ePL, ePO]
      have hexL : ∃ L q, d 0 8 = nI L ∧ L ≤ 60 ∧ nI p = nI q ∧ q < 800 := ⟨L, p, hT.1, hL, rfl, by omega⟩
      by_cases h0 : mWhyP (mPart d (nI p)).2 = 0
      · obtain ⟨v1, v2, v3, v4⟩ := w2 h0
        rw [if_pos h0, if_pos h0]
        have hd5 : (mDoP (mPart d (nI p)).2).2 5 = d 5 := by rw [v3 5 (by omega), rr 5 (by omega)]
        have hd0 : (mDoP (mPart d (nI p)).2).2 0 = (mPart d (nI p)).2 0 := v3 0 (by omega)
        have hd8 : (mDoP (mPart d (nI p)).2).2 0 8 = d 0 8 := by rw [hd0, r0 8 (by omega) (by omega) (by omega)]
        by_cases hq : p + m = L
        · have eN : tNext c' (p + m) L = c' := by
            unfold tNext
            rw [hq, if_pos (Int32.le_refl _)]
          rw [eN, hq, Nat.sub_self]
          refine ⟨⟨w4, w5, fun _ => trivial⟩, ⟨hexL, w6, w7, fun _ => ⟨v4, ?_⟩⟩, z + 1, (tPP c0 c').2, c', (mDoP (mPart d (nI p)).2).2, rfl, ?_, v1.mono (by omega), v2, fun j hj => (Go.row ⟨m, rfl, eg⟩ hj), fun j j0 j1 => by rw [v3 j j1, rr j j0], fun i a b c => by rw [hd0, r0 i a b c]⟩
          · have hge : (mDoP (mPart d (nI p)).2).2 0 8 ≤ nI (L + 1) := by rw [hd8, hT.1]; exact nI_le (by omega) (by omega)
            cases n with
            | zero => exact hge
            | succ n => exact fun w => absurd hge w
          · have hge : (mDoP (mPart d (nI p)).2).2 0 8 ≤ nI (L + 1) := by rw [hd8, hT.1]; exact nI_le (by omega) (by omega)
            cases n with
            | zero => rfl
            | succ n =>
              show (if (mDoP (mPart d (nI p)).2).2 0 8 ≤ nI (L + 1) then _ else _) = _
              rw [if_pos hge]
        · have hqL : p + m < L := by omega
          have h59 : t (p + m) = 59 := by
            rcases hend with w | w
            · exact absurd (nI_inj (by omega) (by omega) w) hq
            · rw [hc'] at w; exact w
          have eN : tNext c' (p + m) L = rBegin c' := by
            unfold tNext
            rw [if_neg (show ¬ nI L ≤ nI (p + m) from nI_ge hqL (by omega)), hc', h59, end_take g6 g5]
          rw [if_neg (fun w => hq (nI_inj (by omega) (by omega) w)), (hT.2.2 (p + m) hqL).1, if_pos h59, nI_1] at hE
          have hT2 : TX t (mDoP (mPart d (nI p)).2).2 L := hT.of hd8 hd5
          have hE2 : (mErrL (mDoP (mPart d (nI p)).2).2 (n + 1) (nI (p + m + 1))).1 = -1 := by
            rw [mErrL_congr (n + 1) (mPart d (nI p)).2 _ _ (v3 5 (by omega)) (by rw [hd0])]
            exact hE
          have hlt : p + m + 1 < L := by
            rcases Nat.lt_or_ge (p + m + 1) L with h | h
            · exact h
            · exfalso
              have hh : p + m + 1 = L := by omega
              rw [hh] at hE2
              unfold mErrL at hE2
              rcases part_run hT2 (Nat.le_refl L) (beg_begin (c := c')).1 beg_begin.2.1 beg_begin.2.2 with ⟨q, c', g1, g2, -⟩ | ⟨e, c', g1, g2, g3, -⟩
              · omega
              · rw [g3, if_neg (m1neg e (by omega)).2.1, (m1neg e (by omega)).2.2] at hE2
                exact nI_nm (by omega) hE2
          obtain ⟨k1, k2, r, d0, d9, dF, k3, k4, k5, k6, k7, k8, k9⟩ := pass_sim n (p + m + 1) (tPP c0 c').2 (rBegin c') (mDoP (mPart d (nI p)).2).2 (B + 24) (z + 1) v1 (by omega) v2 hT2 (by rw [rBegin_r (by omega)]; exact hc') beg_begin hlt (by omega) hE2
          rw [show L + 1 - (p + m + 1) = L - (p + m) by omega] at k1 k3
          rw [eN]
          refine ⟨⟨w4, w5, fun _ => k1⟩, ⟨hexL, w6, w7, fun _ => ⟨v4, k2⟩⟩, r, d0, d9, dF, k3, k4, ?_, k6, fun j hj => ?_, fun j j0 j1 => ?_, fun i a b c => ?_⟩
          · rw [show B + 24 * (n + 1) = B + 24 + 24 * n by omega]; exact k5
          · rw [k7 j hj, rBegin_r hj]; exact (Go.row ⟨m, rfl, eg⟩ hj)
          · rw [k8 j j0 j1, v3 j j1, rr j j0]
          · rw [k9 i a b c, hd0, r0 i a b c]
      · rw [if_neg h0, if_neg h0, w3 h0]
        refine ⟨⟨w4, w5, fun w => absurd w h0⟩, ⟨hexL, w6, w7, fun w => absurd w h0⟩, z, _, tNext c' (p + m) L, _, rfl, rfl, (stop_SR hS').mono (by omega), stop_ok hO', fun j hj => (tNext_r hj).trans (Go.row ⟨m, rfl, eg⟩ hj), fun j j0 j1 => ?_, fun i a b c => ?_⟩
        · rw [cWn j1, cWn j1, rr j j0]
        · rw [cWn (by omega), cWn (by omega), r0 i a b c]
    · exfalso
      rw [g3, if_neg (m1neg e (by omega)).2.1, (m1neg e (by omega)).2.2] at hE
      exact nI_nm (by omega) hE
