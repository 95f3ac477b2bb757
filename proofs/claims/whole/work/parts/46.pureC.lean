/-! parts of a text -/
theorem m1neg : ∀ p, p < 100 → (-1 - nI p < 0) ∧ ¬ (0 ≤ -1 - nI p) ∧ -1 - (-1 - nI p) = nI p := by decide +kernel
def TOK (t : Nat → Int32) (L mo lo hi : Nat) (K : Int32) (p : Nat) (c : cSt) (r : Int32 × Int32 × Int32) : Prop :=
  ∃ q a b c', p < q ∧ q ≤ L ∧ a ≤ mo ∧ lo ≤ b ∧ b ≤ hi ∧ r = (nI q, nI a, nI b) ∧ Go t p c q c' ∧ c' 3 0 = 2 ∧ c' 3 1 = K ∧ c' 3 2 = nI a ∧ c' 3 3 = nI b ∧ (q < L → t q ≠ 59 → (rTake c' (t q)).1 = false)
def GErr (t : Nat → Int32) (L p : Nat) (c : cSt) (r : Int32) : Prop :=
  ∃ e c', p ≤ e ∧ e ≤ L ∧ r = -1 - nI e ∧ Go t p c e c' ∧ rDone c' = false ∧ (e < L → (rTake c' (t e)).1 = false)
theorem done1 {c : cSt} (h0 : c 3 0 = 1) (h : c 3 2 = -1 ∨ ¬ rSign c = -1) : rDone c = false := by
  unfold rDone
  rw [if_pos h0]
  rcases h with h | h
  · rw [if_pos h]
  · rw [if_neg h]; split <;> rfl
theorem done2 {c : cSt} (h0 : c 3 0 = 2) : rDone c = if c 3 3 = -1 then false else true := by
  unfold rDone
  rw [if_neg (by rw [h0]; decide), if_neg (by rw [h0]; decide), if_pos h0]
theorem two_run {t : Nat → Int32} {d : cSt} {L mo sg lo hi : Nat} {K : Int32} (hT : TX t d L) (hN1 : NOK 2 0 mo 1 K) (hN2 : NOK 3 lo hi 2 K) (hmo : mo < 2000) (hhi : hi < 2000) (h9 : 9 ≤ mo) (h9' : 9 ≤ hi) (hlo : lo < 10) (hsg : ∀ c : cSt, c 3 1 = K → rSign c = nI sg) (hs1 : nI sg ≠ 59) (hs2 : ∀ j, j < 10 → nI sg ≠ nI (48 + j)) (hs3 : nI sg ≠ 0) (hs4 : nI sg ≠ -1) {p : Nat} {c : cSt} (hp : p ≤ L) (h30 : c 3 0 = 1) (h31 : c 3 1 = K) (h32 : c 3 2 = -1) (h33 : c 3 3 = -1) :
    TOK t L mo lo hi K p c (mTwo d (nI p) (nI mo) (nI sg) (nI lo) (nI hi)) ∨ GErr t L p c (mTwo d (nI p) (nI mo) (nI sg) (nI lo) (nI hi)).1 := by
  have hL := hT.2.1
  unfold mTwo
  have hn := num_run (p := p) (c := c) hN1 hT (by omega) hmo h9 (by omega) hp h30 h31 h32
  rw [show nI 0 = 0 from rfl] at hn
  rcases hn with ⟨r, er, hpL, q1, v, c1, g1, g2, -, g4, g5, g6, g7, g8, g9⟩ | ⟨er, hdf⟩
  · subst er
    rw [g5]
    have h130 : c1 3 0 = 1 := by rw [g8 0 (by omega)]; exact h30
    have h131 : c1 3 1 = K := by rw [g8 1 (by omega)]; exact h31
    have h133 : c1 3 3 = -1 := by rw [g8 3 (by omega)]; exact h33
    rw [if_pos (show 0 ≤ ((nI q1, nI v) : Int32 × Int32).1 from nI_pos' (by omega))]
    by_cases hs : mAtT d ((nI q1, nI v) : Int32 × Int32).1 = nI sg
    · rw [if_pos hs]
      replace hs : mAtT d (nI q1) = nI sg := hs
      have hq1 : q1 < L := by
        rcases Nat.lt_or_ge q1 L with h | h
        · exact h
        · have : q1 = L := by omega
          subst this
          rw [hT.atL] at hs
          exact (hs3 hs.symm).elim
      rw [hT.at hq1] at hs
      have hTk : rTake c1 (t q1) = (true, cW c1 3 0 2) := by
        rw [hs]
        rcases chr3 (nI sg) with w | ⟨j, hj, w⟩ | ⟨-, w⟩
        · exact (hs1 w).elim
        · exact (hs2 j hj w).elim
        · rw [w c1 (by rw [h130]; decide)]
          unfold rSignT
          rw [if_pos h130, if_neg (by rw [g7]; exact nI_nm (by omega)), hsg c1 h131, if_pos rfl]
      have e0 : cW c1 3 0 2 3 0 = 2 := by rw [cWr, zU_at]
      have e1 : cW c1 3 0 2 3 1 = K := by rw [cWr, zU_ne (by omega)]; exact h131
      have e2 : cW c1 3 0 2 3 2 = nI v := by rw [cWr, zU_ne (by omega)]; exact g7
      have e3 : cW c1 3 0 2 3 3 = -1 := by rw [cWr, zU_ne (by omega)]; exact h133
      have hG2 : Go t p c (q1 + 1) (cW c1 3 0 2) := g6.trans (Go.cons hTk (by rw [hs]; exact hs1) Go.refl)
      have hn2 := num_run (p := q1 + 1) (c := cW c1 3 0 2) hN2 hT (by omega) hhi h9' hlo (by omega) e0 e1 e3
      show TOK t L mo lo hi K p c ((mNum d (nI q1 + 1) (nI lo) (nI hi)).1, nI v, (mNum d (nI q1 + 1) (nI lo) (nI hi)).2) ∨ GErr t L p c (mNum d (nI q1 + 1) (nI lo) (nI hi)).1
      rw [nI_1]
      rcases hn2 with ⟨r, er, hpL2, q2, v2, c2, k1, k2, k3, k4, k5, k6, k7, k8, k9⟩ | ⟨er, hdf⟩
      · subst er
        rw [k5]
        left
        have f0 : c2 3 0 = 2 := by rw [k8 0 (by omega)]; exact e0
        refine ⟨q2, v, v2, c2, by omega, k2, g4, k3, k4, rfl, hG2.trans k6, f0, by rw [k8 1 (by omega)]; exact e1, by rw [k8 2 (by omega)]; exact e2, k7, fun hq h59 => ?_⟩
        rcases chr3 (t q2) with w | ⟨j, hj, w⟩ | ⟨-, w⟩
        · exact (h59 w).elim
        · exact k9 hq j hj w
        · rw [w c2 (by rw [f0]; decide)]
          unfold rSignT
          rw [if_neg (by rw [f0]; decide)]
      · right
        have hd2 : rDone (cW c1 3 0 2) = false := by rw [done2 e0, if_pos e3]
        refine ⟨q1 + 1, _, by omega, by omega, er, hG2, hd2, fun hq => ?_⟩
        rcases chr3 (t (q1 + 1)) with w | ⟨j, hj, w⟩ | ⟨-, w⟩
        · rw [w]; exact take59_f (by rw [e0]; decide) hd2
        · exact hdf hq j hj w
        · rw [w _ (by rw [e0]; decide)]
          unfold rSignT
          rw [if_neg (by rw [e0]; decide)]
    · rw [if_neg hs]
      replace hs : ¬ mAtT d (nI q1) = nI sg := hs
      right
      have hd1 : rDone c1 = false := done1 h130 (Or.inr (by rw [hsg c1 h131]; exact hs4))
      refine ⟨q1, c1, g1, g2, rfl, g6, hd1, fun hq => ?_⟩
      rw [hT.at hq] at hs
      rcases chr3 (t q1) with w | ⟨j, hj, w⟩ | ⟨-, w⟩
      · rw [w]; exact take59_f (by rw [h130]; decide) hd1
      · exact g9 hq j hj w
      · rw [w _ (by rw [h130]; decide)]
        unfold rSignT
        rw [if_pos h130, if_neg (by rw [g7]; exact nI_nm (by omega)), hsg c1 h131, if_neg hs]
  · rw [er, if_neg (m1neg p (by omega)).2.1]
    right
    have hd1 : rDone c = false := done1 h30 (Or.inl h32)
    refine ⟨p, c, Nat.le_refl p, hp, rfl, Go.refl, hd1, fun hq => ?_⟩
    rcases chr3 (t p) with w | ⟨j, hj, w⟩ | ⟨-, w⟩
    · rw [w]; exact take59_f (by rw [h30]; decide) hd1
    · exact hdf hq j hj w
    · rw [w _ (by rw [h30]; decide)]
      unfold rSignT
      rw [if_pos h30, if_pos h32]
/-- a part of one number alone -/
theorem one_run {t : Nat → Int32} {d : cSt} {L mo : Nat} {K : Int32} (hT : TX t d L) (hN1 : NOK 2 0 mo 1 K) (hmo : mo < 2000) (h9 : 9 ≤ mo) (hsg : ∀ c : cSt, c 3 1 = K → rSign c = -1) {p : Nat} {c : cSt} (hp : p ≤ L) (h30 : c 3 0 = 1) (h31 : c 3 1 = K) (h32 : c 3 2 = -1) :
    (∃ q a c', p < q ∧ q ≤ L ∧ a ≤ mo ∧ mNum d (nI p) 0 (nI mo) = (nI q, nI a) ∧ Go t p c q c' ∧ c' 3 0 = 1 ∧ c' 3 1 = K ∧ c' 3 2 = nI a ∧ rDone c' = true ∧ (q < L → t q ≠ 59 → (rTake c' (t q)).1 = false)) ∨ GErr t L p c (mNum d (nI p) 0 (nI mo)).1 := by
  have hL := hT.2.1
  have hn := num_run (p := p) (c := c) hN1 hT (by omega) hmo h9 (by omega) hp h30 h31 h32
  rw [show nI 0 = 0 from rfl] at hn
  rcases hn with ⟨r, er, hpL, q1, v, c1, g1, g2, -, g4, g5, g6, g7, g8, g9⟩ | ⟨er, hdf⟩
  · subst er
    rw [g5]
    have h130 : c1 3 0 = 1 := by rw [g8 0 (by omega)]; exact h30
    have h131 : c1 3 1 = K := by rw [g8 1 (by omega)]; exact h31
    have hne : p < q1 := by
      rcases Nat.lt_or_ge p q1 with h | h
      · exact h
      · exfalso
        have : q1 = p := by omega
        subst this
        obtain ⟨n, hn, e⟩ := g6
        have : n = 0 := by omega
        subst this
        unfold rGo at e
        cases e
        rw [h32] at g7
        exact nI_nm (by omega) g7.symm
    left
    refine ⟨q1, v, c1, hne, g2, g4, rfl, g6, h130, h131, g7, ?_, fun hq h59 => ?_⟩
    · unfold rDone
      rw [if_pos h130, if_neg (by rw [g7]; exact nI_nm (by omega)), if_pos (hsg c1 h131)]
    · rcases chr3 (t q1) with w | ⟨j, hj, w⟩ | ⟨hn59, w⟩
      · exact (h59 w).elim
      · exact g9 hq j hj w
      · rw [w _ (by rw [h130]; decide)]
        unfold rSignT
        rw [if_pos h130, if_neg (by rw [g7]; exact nI_nm (by omega)), hsg c1 h131, if_neg (hT.2.2 q1 hq).2]
  · right
    have hd1 : rDone c = false := done1 h30 (Or.inl h32)
    refine ⟨p, c, Nat.le_refl p, hp, er, Go.refl, hd1, fun hq => ?_⟩
    rcases chr3 (t p) with w | ⟨j, hj, w⟩ | ⟨-, w⟩
    · rw [w]; exact take59_f (by rw [h30]; decide) hd1
    · exact hdf hq j hj w
    · rw [w _ (by rw [h30]; decide)]
      unfold rSignT
      rw [if_pos h30, if_pos h32]
/-- what a part that is read holds, on both sides -/
def PV (c : cSt) (d : cSt) : Prop :=
  (d 0 9 = 104 ∧ ∃ a b, a < 16 ∧ b ≤ 1439 ∧ c 3 2 = nI a ∧ d 0 10 = nI a ∧ c 3 3 = nI b ∧ d 0 11 = nI b) ∨
  (d 0 9 = 98 ∧ ∃ a b, a < 24 ∧ 1 ≤ b ∧ b ≤ 9 ∧ c 3 2 = nI a ∧ d 0 10 = nI a ∧ c 3 3 = nI b ∧ d 0 11 = nI b) ∨
  (d 0 9 = 109 ∧ ∃ a b, a < 16 ∧ b < 16 ∧ c 3 2 = nI a ∧ d 0 10 = nI a ∧ c 3 3 = nI b ∧ d 0 11 = nI b) ∨
  (d 0 9 = 120 ∧ ∃ a, a < 24 ∧ c 3 2 = nI a ∧ d 0 11 = nI a) ∨
  (d 0 9 = 111 ∧ ∃ a, a < 24 ∧ c 3 2 = nI a ∧ d 0 11 = nI a) ∨
  d 0 9 = 94
def POk (t : Nat → Int32) (L p : Nat) (c : cSt) (r : Int32 × cSt) : Prop :=
  ∃ q c', p < q ∧ q ≤ L ∧ r.1 = nI q ∧ Go t p c q c' ∧ rDone c' = true ∧ c' 3 0 ≠ 0 ∧ (q < L → t q ≠ 59 → (rTake c' (t q)).1 = false) ∧ c' 3 1 = r.2 0 9 ∧ PV c' r.2
theorem Go.row {t : Nat → Int32} {p q : Nat} {c c' : cSt} (h : Go t p c q c') {j : Nat} (hj : j ≠ 3) : c' j = c j := by
  obtain ⟨n, rfl, e⟩ := h
  have key : ∀ n p (c : cSt), (rGo t n p c).1 = true → (rGo t n p c).2 j = c j := by
    intro n
    induction n with
    | zero => intro p c _; rfl
    | succ n ih =>
      intro p c h
      unfold rGo at h ⊢
      split at h
      · rename_i hc
        rw [if_pos hc, ih _ _ h, rTake_r hj]
      · cases h
  have := key n p c (by rw [e])
  rw [e] at this
  exact this
theorem letter_go {c : cSt} {x s : Int32} {j : Nat} (h : rLetter c x = (true, cW (cW c 3 0 s) 3 1 x)) (h32 : c 3 2 = -1) (h33 : c 3 3 = -1) (h30 : c 3 0 = 0) (_ : j = 0) : rTake c x = (true, cW (cW c 3 0 s) 3 1 x) ∧ cW (cW c 3 0 s) 3 1 x 3 0 = s ∧ cW (cW c 3 0 s) 3 1 x 3 1 = x ∧ cW (cW c 3 0 s) 3 1 x 3 2 = -1 ∧ cW (cW c 3 0 s) 3 1 x 3 3 = -1 := by
  refine ⟨?_, ?_, ?_, ?_, ?_⟩
  · unfold rTake
    rw [if_pos h30]; exact h
  · simp (disch := omega) only [cWr, zU_ne, zU_at]
  · simp (disch := omega) only [cWr, zU_at]
  · simp (disch := omega) only [cWr, zU_ne]; exact h32
  · simp (disch := omega) only [cWr, zU_ne]; exact h33
theorem part_two {t : Nat → Int32} {d : cSt} {L mo sg lo hi p : Nat} {K : Int32} {c : cSt} (hhi : hi < 2000) (hp : p < L) (hTk : ∃ c1, rTake c (t p) = (true, c1) ∧ t p ≠ 59 ∧ (TOK t L mo lo hi K (p + 1) c1 (mTwo d (nI (p + 1)) (nI mo) (nI sg) (nI lo) (nI hi)) ∨ GErr t L (p + 1) c1 (mTwo d (nI (p + 1)) (nI mo) (nI sg) (nI lo) (nI hi)).1)) (hPV : ∀ (c' dd : cSt) a b, a ≤ mo → lo ≤ b → b ≤ hi → dd 0 9 = K → c' 3 2 = nI a → dd 0 10 = nI a → c' 3 3 = nI b → dd 0 11 = nI b → PV c' dd) :
    POk t L p c ((mTwo d (nI (p + 1)) (nI mo) (nI sg) (nI lo) (nI hi)).1, mFS (cW d 0 9 K) (mTwo d (nI (p + 1)) (nI mo) (nI sg) (nI lo) (nI hi)).2.1 (mTwo d (nI (p + 1)) (nI mo) (nI sg) (nI lo) (nI hi)).2.2) ∨ GErr t L p c (mTwo d (nI (p + 1)) (nI mo) (nI sg) (nI lo) (nI hi)).1 := by
  obtain ⟨c1, h1, h2, h3⟩ := hTk
  rcases h3 with ⟨q, a, b, c', g1, g2, g3, g4, g5, g6, g7, g8, g9, g10, g11, g12⟩ | ⟨e, c', g1, g2, g3, g4, g5, g6⟩
  · left
    rw [g6]
    refine ⟨q, c', by omega, g2, rfl, Go.cons h1 h2 g7, ?_, by rw [g8]; decide, g12, ?_, hPV c' _ a b g3 g4 g5 ?_ g10 ?_ g11 ?_⟩
    · rw [done2 g8, g11, if_neg (nI_nm (show b < 2 ^ 31 by omega))]
    · rw [g9]; unfold mFS; simp (disch := omega) only [cWr, zU_ne, zU_at]
    · unfold mFS; simp (disch := omega) only [cWr, zU_ne, zU_at]
    · unfold mFS; simp (disch := omega) only [cWr, zU_ne, zU_at]
    · unfold mFS; simp (disch := omega) only [cWr, zU_at]
  · right
    exact ⟨e, c', by omega, g2, g3, Go.cons h1 h2 g4, g5, g6⟩
