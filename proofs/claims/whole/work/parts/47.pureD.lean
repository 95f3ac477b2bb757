/-! a part from its letter to its end -/
theorem part_run {t : Nat → Int32} {d : cSt} {L p : Nat} {c : cSt} (hT : TX t d L) (hp : p ≤ L) (h30 : c 3 0 = 0) (h32 : c 3 2 = -1) (h33 : c 3 3 = -1) : POk t L p c (mPart d (nI p)) ∨ GErr t L p c (mPart d (nI p)).1 := by
  have hL := hT.2.1
  have hdn : rDone c = false := by
    unfold rDone
    rw [if_neg (by rw [h30]; decide), if_neg (by rw [h30]; decide), if_neg (by rw [h30]; decide)]
  rcases Nat.lt_or_ge p L with hq | hq
  · unfold mPart
    rw [hT.at hq, nI_1]
    by_cases k94 : t p = 94
    · rw [if_pos k94]
      left
      obtain ⟨l1, l2, l3, l4, l5⟩ := letter_go (c := c) (x := t p) (s := 3) (j := 0) (by unfold rLetter; rw [if_pos k94]) h32 h33 h30 rfl
      refine ⟨p + 1, _, by omega, hq, rfl, Go.cons l1 (by rw [k94]; decide) Go.refl, ?_, by rw [l2]; decide, fun _ h59 => ?_, ?_, ?_⟩
      · unfold rDone
        rw [if_neg (by rw [l2]; decide), if_pos l2]
      · rcases chr3 (t (p + 1)) with w | ⟨j, hj, w⟩ | ⟨-, w⟩
        · exact (h59 w).elim
        · rw [w, takeD (by rw [l2]; decide) hj]
          unfold rDigit
          rw [if_neg (by rw [l2]; decide), if_neg (by rw [l2]; decide)]
        · rw [w _ (by rw [l2]; decide)]
          unfold rSignT
          rw [if_neg (by rw [l2]; decide)]
      · show _ = cW d 0 9 (t p) 0 9
        rw [l3, cWr, zU_at]
      · exact Or.inr (Or.inr (Or.inr (Or.inr (Or.inr (show cW d 0 9 (t p) 0 9 = 94 by rw [cWr, zU_at]; exact k94)))))
    rw [if_neg k94]
    by_cases k98 : t p = 98
    · rw [if_pos k98, k98]
      obtain ⟨l1, l2, l3, l4, l5⟩ := letter_go (c := c) (x := t p) (s := 1) (j := 0) (by unfold rLetter; rw [if_neg k94, if_pos k98]) h32 h33 h30 rfl
      replace l3 := l3.trans k98
      refine part_two (mo := 23) (sg := 33) (lo := 1) (hi := 9) (by omega) hq ⟨_, l1, by rw [k98]; decide, two_run hT (NOK1 (by omega) fun c h => by unfold rHi1; rw [h]; rfl) (NOK2 fun c h => by unfold rLo2 rHi2; rw [h]; exact ⟨rfl, rfl⟩) (by omega) (by omega) (by omega) (by omega) (by omega) (fun c h => by unfold rSign; rw [h]; rfl) (by decide) (by decide) (by decide) (by decide) hq l2 l3 l4 l5⟩ fun c' dd a b ha hlb hb e1 e2 e3 e4 e5 => ?_
      exact Or.inr (Or.inl ⟨e1, a, b, by omega, hlb, hb, e2, e3, e4, e5⟩)
    rw [if_neg k98]
    by_cases k104 : t p = 104
    · rw [if_pos k104, k104]
      obtain ⟨l1, l2, l3, l4, l5⟩ := letter_go (c := c) (x := t p) (s := 1) (j := 0) (by unfold rLetter; rw [if_neg k94, if_neg k98, if_pos k104]) h32 h33 h30 rfl
      replace l3 := l3.trans k104
      refine part_two (mo := 15) (sg := 64) (lo := 0) (hi := 1439) (by omega) hq ⟨_, l1, by rw [k104]; decide, two_run hT (NOK1 (by omega) fun c h => by unfold rHi1; rw [h]; rfl) (NOK2 fun c h => by unfold rLo2 rHi2; rw [h]; exact ⟨rfl, rfl⟩) (by omega) (by omega) (by omega) (by omega) (by omega) (fun c h => by unfold rSign; rw [h]; rfl) (by decide) (by decide) (by decide) (by decide) hq l2 l3 l4 l5⟩ fun c' dd a b ha hlb hb e1 e2 e3 e4 e5 => ?_
      exact Or.inl ⟨e1, a, b, by omega, hb, e2, e3, e4, e5⟩
    rw [if_neg k104]
    by_cases k109 : t p = 109
    · rw [if_pos k109, k109]
      obtain ⟨l1, l2, l3, l4, l5⟩ := letter_go (c := c) (x := t p) (s := 1) (j := 0) (by unfold rLetter; rw [if_neg k94, if_neg k98, if_neg k104, if_pos k109]) h32 h33 h30 rfl
      replace l3 := l3.trans k109
      refine part_two (mo := 15) (sg := 43) (lo := 0) (hi := 15) (by omega) hq ⟨_, l1, by rw [k109]; decide, two_run hT (NOK1 (by omega) fun c h => by unfold rHi1; rw [h]; rfl) (NOK2 fun c h => by unfold rLo2 rHi2; rw [h]; exact ⟨rfl, rfl⟩) (by omega) (by omega) (by omega) (by omega) (by omega) (fun c h => by unfold rSign; rw [h]; rfl) (by decide) (by decide) (by decide) (by decide) hq l2 l3 l4 l5⟩ fun c' dd a b ha hlb hb e1 e2 e3 e4 e5 => ?_
      exact Or.inr (Or.inr (Or.inl ⟨e1, a, b, by omega, by omega, e2, e3, e4, e5⟩))
    rw [if_neg k109]
    by_cases k111 : t p = 111
    · rw [if_pos k111, k111]
      obtain ⟨l1, l2, l3, l4, l5⟩ := letter_go (c := c) (x := t p) (s := 1) (j := 0) (by unfold rLetter; rw [if_neg k94, if_neg k98, if_neg k104, if_neg k109, if_pos k111]) h32 h33 h30 rfl
      replace l3 := l3.trans k111
      have h59 : t p ≠ 59 := by rw [k111]; decide
      rcases one_run (mo := 23) hT (NOK1 (by omega) fun c h => by unfold rHi1; rw [h]; rfl) (by omega) (by omega) (fun c h => by unfold rSign; rw [h]; rfl) hq l2 l3 l4 with ⟨q, a, c', g1, g2, g3, g4, g5, g6, g7, g8, g9, g10⟩ | ⟨e, c', g1, g2, g3, g4, g5, g6⟩
      · left
        have g4' : mNum d (nI (p + 1)) 0 23 = (nI q, nI a) := g4
        rw [g4']
        refine ⟨q, c', by omega, g2, rfl, Go.cons l1 h59 g5, g9, by rw [g6]; decide, g10, ?_, Or.inr (Or.inr (Or.inr (Or.inr (Or.inl ⟨?_, a, by omega, g8, ?_⟩))))⟩
        · rw [g7]; simp (disch := omega) only [cWr, zU_ne, zU_at]
        · simp (disch := omega) only [cWr, zU_ne, zU_at]
        · simp (disch := omega) only [cWr, zU_at]
      · right
        exact ⟨e, c', by omega, g2, g3, Go.cons l1 h59 g4, g5, g6⟩
    rw [if_neg k111]
    by_cases k120 : t p = 120
    · rw [if_pos k120, k120]
      obtain ⟨l1, l2, l3, l4, l5⟩ := letter_go (c := c) (x := t p) (s := 1) (j := 0) (by unfold rLetter; rw [if_neg k94, if_neg k98, if_neg k104, if_neg k109, if_neg k111, if_pos k120]) h32 h33 h30 rfl
      replace l3 := l3.trans k120
      have h59 : t p ≠ 59 := by rw [k120]; decide
      rcases one_run (mo := 23) hT (NOK1 (by omega) fun c h => by unfold rHi1; rw [h]; rfl) (by omega) (by omega) (fun c h => by unfold rSign; rw [h]; rfl) hq l2 l3 l4 with ⟨q, a, c', g1, g2, g3, g4, g5, g6, g7, g8, g9, g10⟩ | ⟨e, c', g1, g2, g3, g4, g5, g6⟩
      · left
        have g4' : mNum d (nI (p + 1)) 0 23 = (nI q, nI a) := g4
        rw [g4']
        refine ⟨q, c', by omega, g2, rfl, Go.cons l1 h59 g5, g9, by rw [g6]; decide, g10, ?_, Or.inr (Or.inr (Or.inr (Or.inl ⟨?_, a, by omega, g8, ?_⟩)))⟩
        · rw [g7]; simp (disch := omega) only [cWr, zU_ne, zU_at]
        · simp (disch := omega) only [cWr, zU_ne, zU_at]
        · simp (disch := omega) only [cWr, zU_at]
      · right
        exact ⟨e, c', by omega, g2, g3, Go.cons l1 h59 g4, g5, g6⟩
    rw [if_neg k120]
    right
    refine ⟨p, c, Nat.le_refl p, hp, rfl, Go.refl, hdn, fun _ => ?_⟩
    unfold rTake
    rw [if_pos h30]
    unfold rLetter
    rw [if_neg k94, if_neg k98, if_neg k104, if_neg k109, if_neg k111, if_neg k120]
  · have : p = L := by omega
    subst this
    right
    have e0 : (mPart d (nI p)).1 = -1 - nI p := by
      unfold mPart
      rw [hT.atL, if_neg (by decide), if_neg (by decide), if_neg (by decide), if_neg (by decide), if_neg (by decide), if_neg (by decide)]
    exact ⟨p, c, Nat.le_refl p, hp, e0, Go.refl, hdn, fun w => absurd w (by omega)⟩
theorem mPart_row {d : cSt} {p : Int32} {j : Nat} (hj : j ≠ 0) : (mPart d p).2 j = d j := by
  unfold mPart mFS
  split
  · simp (disch := omega) only [cWn]
  · split
    · simp (disch := omega) only [cWn]
    · split
      · simp (disch := omega) only [cWn]
      · split
        · simp (disch := omega) only [cWn]
        · split
          · simp (disch := omega) only [cWn]
          · split
            · simp (disch := omega) only [cWn]
            · simp (disch := omega) only [cWn]
theorem mPart_0 {d : cSt} {p : Int32} {i : Nat} (h9 : i ≠ 9) (h10 : i ≠ 10) (h11 : i ≠ 11) : (mPart d p).2 0 i = d 0 i := by
  unfold mPart mFS
  split
  · simp (disch := omega) only [cWr, zU_ne]
  · split
    · simp (disch := omega) only [cWr, zU_ne]
    · split
      · simp (disch := omega) only [cWr, zU_ne]
      · split
        · simp (disch := omega) only [cWr, zU_ne]
        · split
          · simp (disch := omega) only [cWr, zU_ne]
          · split
            · simp (disch := omega) only [cWr, zU_ne]
            · simp (disch := omega) only [cWr, zU_ne]
/-! the first error -/
theorem tFE_go {t : Nat → Int32} {L : Nat} : ∀ n p (c c' : cSt), c 2 = t → rGo t n p c = (true, c') → p + n ≤ L → tFE (L - p) p L c = tFE (L - (p + n)) (p + n) L c'
  | 0, p, c, c', _, h, _ => by cases h; rfl
  | n + 1, p, c, c', hc, h, hp => by
    unfold rGo at h
    split at h
    · rename_i hk
      have hpn : p + 1 + n ≤ L := by omega
      have h2 : (rTake c (t p)).2 2 = t := by rw [rTake_r (j := 2) (by omega)]; exact hc
      have ih := tFE_go n (p + 1) (rTake c (t p)).2 c' h2 h hpn
      rw [show p + (n + 1) = p + 1 + n by omega, ← ih, show L - p = (L - (p + 1)) + 1 by omega]
      show (if (rTake c (c 2 p)).1 = true then _ else _) = _
      rw [hc, if_pos hk.1]
    · cases h
theorem Go.fe {t : Nat → Int32} {L p q : Nat} {c c' : cSt} (hc : c 2 = t) (h : Go t p c q c') (hq : q ≤ L) : tFE (L - p) p L c = tFE (L - q) q L c' := by
  obtain ⟨n, rfl, e⟩ := h
  exact tFE_go n p c c' hc e hq
/-- a begun part -/
def Beg (c : cSt) : Prop := c 3 0 = 0 ∧ c 3 2 = -1 ∧ c 3 3 = -1
theorem beg_begin {c : cSt} : Beg (rBegin c) := by
  unfold rBegin Beg
  simp (disch := omega) only [cWr, zU_ne, zU_at]
  exact ⟨trivial, trivial, trivial⟩
theorem end_take {c : cSt} (h0 : c 3 0 ≠ 0) (hd : rDone c = true) : rTake c 59 = (true, rBegin c) := by
  rw [take59 h0]; unfold rEnd; rw [if_pos hd]
theorem TX.of {t : Nat → Int32} {d d' : cSt} {L : Nat} (h : TX t d L) (h8 : d' 0 8 = d 0 8) (h5 : d' 5 = d 5) : TX t d' L := by
  unfold TX
  rw [h8, h5]; exact h
/-- what firstError and findError find -/
def FEr (L p : Nat) (c d : cSt) (r : Int32 × cSt) : Prop :=
  (∀ j, j ≠ 0 → r.2 j = d j) ∧ (∀ i, i ≠ 9 → i ≠ 10 → i ≠ 11 → r.2 0 i = d 0 i) ∧
  ((r.1 = -1 ∧ ∃ c', tFE (L - p) p L c = (nI L, c') ∧ rDone c' = true ∧ ∀ j, j ≠ 3 → c' j = c j) ∨
   (∃ e c', e ≤ L ∧ r.1 = nI e ∧ tFE (L - p) p L c = (nI e, c') ∧ (e = L → rDone c' = false) ∧ ∀ j, j ≠ 3 → c' j = c j))
theorem tFE_L {L : Nat} {c : cSt} : tFE (L - L) L L c = (nI L, c) := by rw [Nat.sub_self]; rfl
theorem tFE_bad {L q : Nat} {c : cSt} (hq : q < L) (h : (rTake c (c 2 q)).1 = false) : tFE (L - q) q L c = (nI q, (rTake c (c 2 q)).2) := by
  rw [show L - q = (L - (q + 1)) + 1 by omega]
  show (if (rTake c (c 2 q)).1 = true then _ else _) = _
  rw [if_neg (by rw [h]; decide)]
theorem err_sim {t : Nat → Int32} {L : Nat} : ∀ n p (c d : cSt), p ≤ L → L < p + n → c 2 = t → TX t d L → Beg c → FEr L p c d (mErrL d n (nI p))
  | 0, _, _, _, h1, h2, _, _, _ => absurd h2 (by omega)
  | n + 1, p, c, d, h1, h2, hc, hT, hB => by
    have hL := hT.2.1
    have rr : ∀ j, j ≠ 0 → (mPart d (nI p)).2 j = d j := fun j hj => mPart_row hj
    have r0 : ∀ i, i ≠ 9 → i ≠ 10 → i ≠ 11 → (mPart d (nI p)).2 0 i = d 0 i := fun i a b c => mPart_0 a b c
    unfold mErrL
    rcases part_run hT h1 hB.1 hB.2.1 hB.2.2 with ⟨q, c', g1, g2, g3, g4, g5, g6, g7, g8, g9⟩ | ⟨e, c', g1, g2, g3, g4, g5, g6⟩
    · rw [g3, if_pos (nI_pos' (by omega)), hT.1, ix_nI (by omega)]
      have hc' : c' 2 = t := by rw [g4.row (by omega)]; exact hc
      have eF := g4.fe hc g2
      by_cases hq : q = L
      · subst hq
        rw [if_pos rfl]
        exact ⟨rr, r0, Or.inl ⟨rfl, c', by rw [eF]; exact tFE_L, g5, fun j hj => g4.row hj⟩⟩
      · rw [if_neg (fun w => hq (nI_inj (by omega) (by omega) w))]
        have hq' : q < L := by omega
        rw [(hT.2.2 q hq').1]
        by_cases h59 : t q = 59
        · rw [if_pos h59, nI_1]
          have hTk : rTake c' (c' 2 q) = (true, rBegin c') := by rw [hc', h59]; exact end_take g6 g5
          have hcb : rBegin c' 2 = t := by rw [rBegin_r (by omega)]; exact hc'
          obtain ⟨i1, i2, i3⟩ := err_sim n (q + 1) (rBegin c') (mPart d (nI p)).2 (by omega) (by omega) hcb (hT.of (r0 8 (by omega) (by omega) (by omega)) (rr 5 (by omega))) beg_begin
          have eF2 : tFE (L - p) p L c = tFE (L - (q + 1)) (q + 1) L (rBegin c') := by
            rw [eF, show L - q = (L - (q + 1)) + 1 by omega]
            show (if (rTake c' (c' 2 q)).1 = true then _ else _) = _
            rw [hTk, if_pos rfl]
          have rows : ∀ j, j ≠ 3 → rBegin c' j = c j := fun j hj => by rw [rBegin_r hj, g4.row hj]
          refine ⟨fun j hj => by rw [i1 j hj, rr j hj], fun i a b c => by rw [i2 i a b c, r0 i a b c], ?_⟩
          rcases i3 with ⟨k1, c2, k2, k3, k4⟩ | ⟨e, c2, k1, k2, k3, k4, k5⟩
          · exact Or.inl ⟨k1, c2, by rw [eF2]; exact k2, k3, fun j hj => by rw [k4 j hj, rows j hj]⟩
          · exact Or.inr ⟨e, c2, k1, k2, by rw [eF2]; exact k3, k4, fun j hj => by rw [k5 j hj, rows j hj]⟩
        · rw [if_neg h59]
          have hbad : (rTake c' (c' 2 q)).1 = false := by rw [hc']; exact g7 hq' h59
          exact ⟨rr, r0, Or.inr ⟨q, _, g2, rfl, by rw [eF]; exact tFE_bad hq' hbad, fun w => absurd w (by omega), fun j hj => by rw [rTake_r hj, g4.row hj]⟩⟩
    · rw [g3, if_neg (m1neg e (by omega)).2.1, (m1neg e (by omega)).2.2]
      have hc' : c' 2 = t := by rw [g4.row (by omega)]; exact hc
      have eF := g4.fe hc g2
      refine ⟨rr, r0, Or.inr ?_⟩
      by_cases hq : e = L
      · subst hq
        exact ⟨e, c', g2, rfl, by rw [eF]; exact tFE_L, fun _ => g5, fun j hj => g4.row hj⟩
      · have hq' : e < L := by omega
        have hbad : (rTake c' (c' 2 e)).1 = false := by rw [hc']; exact g6 hq'
        exact ⟨e, _, g2, rfl, by rw [eF]; exact tFE_bad hq' hbad, fun w => absurd w (by omega), fun j hj => by rw [rTake_r hj, g4.row hj]⟩
