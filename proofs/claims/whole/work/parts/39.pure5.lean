/-! coming home: the loop, the whole -/
theorem settle_sim {c d : cSt} {k mo s : Nat} {b : Bool} (hR : Rel c (d 1)) (hI : Inv 24 c) (hs : c 17 2 = nI s) (hsm : s ≤ mo) (hmo : mo ≤ 24) (hk : k < 16) (he : ¬ c 2 k = -1) (hp : c 4 k = -1) (hb : b = decide (s < mo)) :
    ((cSettle c (nI k) b).1 = -1 ∧ (mStep (nI mo) d (nI k) (nI s)).2.1 = -1 ∧ (mStep (nI mo) d (nI k) (nI s)).2.2 = nI s ∧ Rel (cSettle c (nI k) b).2 ((mStep (nI mo) d (nI k) (nI s)).1 1) ∧ Inv 24 (cSettle c (nI k) b).2 ∧ (cSettle c (nI k) b).2 17 2 = nI (s + 1) ∧ (cSettle c (nI k) b).2 0 8 = c 0 8) ∨
    (s < mo ∧ ∃ j, j < 16 ∧ (cSettle c (nI k) b).1 = nI j ∧ (mStep (nI mo) d (nI k) (nI s)).2.1 = nI j ∧ (mStep (nI mo) d (nI k) (nI s)).2.2 = nI (s + 1) ∧ Rel (cSettle c (nI k) b).2 ((mStep (nI mo) d (nI k) (nI s)).1 1) ∧ Inv 24 (cSettle c (nI k) b).2 ∧ (cSettle c (nI k) b).2 17 2 = nI (s + 1) ∧ (cSettle c (nI k) b).2 0 8 = c 0 8 + 1 ∧ ¬ (cSettle c (nI k) b).2 2 j = -1 ∧ (cSettle c (nI k) b).2 4 j = -1) := by
  have h24 : s ≤ 24 := by omega
  have hroof : (-1 : Int32) = -1 ∧ (-1 : Int32) = -1 ∧ nI s = nI s ∧ Rel (cSit c (nI k) 24) (mSitS d (nI k) 24 1) ∧ Inv 24 (cSit c (nI k) 24) ∧ cSit c (nI k) 24 17 2 = nI (s + 1) ∧ cSit c (nI k) 24 0 8 = c 0 8 := by
    obtain ⟨k17, k0, -, -⟩ := cSit_keep (c := c) (y := 24) hk hs h24
    exact ⟨rfl, rfl, rfl, hR.sit hk hs h24, hI.sitR hk he hp hs h24, k17, by rw [k0]⟩
  unfold cSettle mStep
  rw [first_sim hR hI hk he]
  by_cases hF : cFirst c (nI k) = -1
  · rw [if_pos hF, if_neg (show ¬ 0 ≤ cFirst c (nI k) by rw [hF]; decide)]
    obtain ⟨q, hq, eq⟩ := cHk_nI hI hk he (j := 1) (by omega)
    replace eq : cHk c (nI k) 1 = nI q := eq
    rw [cHk_eq hR hk he, eq, sitter hR hI hq, ← hR.opens hq, ix_nI (by omega), ix_nI (by omega)]
    have hk2 : d 1 (9 * k + 2) = c 3 k := hR.row k hk he 1 (by omega)
    rcases hI.sit q hq (by omega) with e | ⟨j, hj, e, hx, hpj⟩
    · rw [e, cEx_m1, if_neg (fun w => by exact absurd w.2.2.1 (by decide)), if_neg (fun w => w.2.1 (by decide))]
      exact Or.inl hroof
    · have hj2 : d 1 (9 * j + 2) = c 3 j := hR.row j hj hx 1 (by omega)
      rw [e, ix_nI (by omega), hk2, hj2]
      by_cases hP : s < mo ∧ cOpen c (nI q) = true ∧ ¬ c 3 k ≤ c 3 j
      · obtain ⟨p1, p2, p3⟩ := hP
        rw [if_pos ⟨by rw [hb]; exact decide_eq_true p1, p2, (cEx_nI hj).mpr hx, p3⟩, if_pos ⟨p2, nI_pos (by omega), p3, by rw [nI_leI (by omega) (by omega)]; omega⟩]
        obtain ⟨g1, g2, g3, g4, g5, g6⟩ := shift_sim hR hI hs h24 hk he hp hq hj e
        refine Or.inr ⟨p1, j, hj, rfl, rfl, nI_1 s, ?_, g2, g3, g4, g5, g6⟩
        rw [ix_nI (by omega)] at g1
        exact g1
      · rw [if_neg (fun w => hP ⟨by rw [hb] at w; exact of_decide_eq_true w.1, w.2.1, w.2.2.2⟩), if_neg (fun w => hP ⟨by have := w.2.2.2; rw [nI_leI (by omega) (by omega)] at this; omega, w.1, w.2.2.1⟩)]
        exact Or.inl hroof
  · rcases first_val (c := c) (x := nI k) with e | hf
    · exact absurd e hF
    · obtain ⟨q, hq, eq, -, h11⟩ := cFree_in hf
      rw [if_neg hF, eq, if_pos (nI_pos' (by omega))]
      obtain ⟨k17, k0, -, -⟩ := cSit_keep (c := c) (y := nI q) hk hs h24
      exact Or.inl ⟨rfl, rfl, rfl, hR.sit hk hs h24, hI.sitF h11 hk he hp hq hs h24, k17, congrFun k0 8⟩
theorem cRun_m1 {most : Int32} {c : cSt} : ∀ n, cRun most n c (-1) = c
  | 0 => rfl
  | n + 1 => by unfold cRun; rw [cEx_m1, if_neg (by decide)]
/-- how a coming home ends -/
def Came (c : cSt) (n0 mo : Nat) (c' : cSt) (z' : Nat → Int32) (r : Int32) : Prop :=
  ∃ sf, sf ≤ mo ∧ r = nI sf ∧ Rel c' z' ∧ Inv 24 c' ∧ (∃ w, w ≤ 25 ∧ c' 17 2 = nI w) ∧ c' 0 8 = nI (n0 + sf)
theorem run_sim {n0 mo : Nat} (hmo : mo ≤ 24) (hn0 : n0 < 2 ^ 30) : ∀ (g n m s : Nat) (c d : cSt) (k : Nat), mo ≤ s + g → s ≤ mo → g + 1 ≤ n → g + 1 ≤ m → Rel c (d 1) → Inv 24 c → c 17 2 = nI s → k < 16 → ¬ c 2 k = -1 → c 4 k = -1 → c 0 8 = nI (n0 + s) →
    Came c n0 mo (cRun (nI (n0 + mo)) n c (nI k)) ((mRun (nI mo) m d (nI k) (nI s)).1 1) (mRun (nI mo) m d (nI k) (nI s)).2
  | g, 0, _, _, _, _, _, _, _, h, _, _, _, _, _, _, _, _ => absurd h (by omega)
  | g, _, 0, _, _, _, _, _, _, _, h, _, _, _, _, _, _, _ => absurd h (by omega)
  | g, n + 1, m + 1, s, c, d, k, hg, hsm, hn, hm, hR, hI, hs, hk, he, hp, h8 => by
    unfold cRun mRun
    rw [if_pos ((cEx_nI hk).mpr he), if_neg (nI_pos (by omega))]
    have hb : decide (¬ nI (n0 + mo) ≤ c 0 8) = decide (s < mo) := by
      rw [h8]
      refine decide_eq_decide.mpr ?_
      rw [nI_leI (by omega) (by omega)]
      omega
    rcases settle_sim hR hI hs hsm hmo hk he hp hb with ⟨g1, g2, g3, g4, g5, g6, g7⟩ | ⟨hlt, j, hj, g1, g2, g3, g4, g5, g6, g7, g8, g9⟩
    · rw [g1, g2, g3, cRun_m1, mRun_neg (by decide)]
      exact ⟨s, hsm, rfl, g4, g5, ⟨s + 1, by omega, g6⟩, by rw [g7]; exact h8⟩
    · rw [g1, g2, g3]
      cases g with
      | zero => omega
      | succ g =>
        exact run_sim hmo hn0 g n m (s + 1) _ _ j (by omega) (by omega) (by omega) (by omega) g4 g5 g6 hj g8 g9 (by rw [g7, h8, nI_1]; rfl)
theorem come_sim {c d : cSt} {k n0 : Nat} {t : Int32} (hR : Rel c (d 1)) (hI : Inv 24 c) (hk : k < 16) (he : ¬ c 2 k = -1) (hp : c 4 k = -1) (h8 : c 0 8 = nI n0) (hn0 : n0 < 2 ^ 30) : Came c n0 24 (cCome c (nI k) t) ((mHome d (nI k) t).1 1) (mHome d (nI k) t).2 := by
  obtain ⟨mo, hmo, h141⟩ := hI.mst
  have h171 : d 1 171 = nI mo := (hR.set 1 (by omega)).trans h141
  have h170 : d 1 170 = c 14 0 := hR.set 0 (by omega)
  have hmon : ∀ {c' : cSt} {z : Nat → Int32} {r : Int32}, Came c n0 mo c' z r → Came c n0 24 c' z r := fun ⟨sf, h1, h2⟩ => ⟨sf, by omega, h2⟩
  apply hmon
  unfold cCome mHome
  rw [h8, h141, h171, nI_add]
  have hR0 : Rel (cW (cW c 0 7 t) 17 2 0) (mH0 d t 1) := by
    unfold mH0
    simp only [cWr]
    exact hR.uTime.uSiz0 (by decide)
  have hI0 : Inv 24 (cW (cW c 0 7 t) 17 2 0) := by
    refine hI.congr ?_ ?_ ?_ ?_ ?_ ?_ (fun q _ => ?_) (fun q _ => ?_) (fun q _ => ?_) (fun q _ => ?_) <;> simp (disch := omega) only [cWn]
  have e17 : cW (cW c 0 7 t) 17 2 0 17 2 = nI 0 := by rw [cWr, zU_at]; rfl
  have e2 : cW (cW c 0 7 t) 17 2 0 2 = c 2 := by simp (disch := omega) only [cWn]
  have e4 : cW (cW c 0 7 t) 17 2 0 4 = c 4 := by simp (disch := omega) only [cWn]
  have e8 : cW (cW c 0 7 t) 17 2 0 0 8 = nI n0 := by simp (disch := omega) only [cWn, cWr, zU_ne]; exact h8
  have d1 : d 1 (9 * k + 1) = c 2 k := hR.row k hk he 0 (by omega)
  obtain ⟨w, hw, ew⟩ := hI.own k hk he
  unfold cCome0 mHome0
  rw [h170, h8, h141, h171]
  generalize hcc : cW (cW c 0 7 t) 17 2 0 = cc at *
  generalize hdd : mH0 d t = dd at *
  by_cases ht : t ≤ c 14 0
  · rw [if_pos ht, if_neg (show ¬ ¬ t ≤ c 14 0 from fun q => q ht), ix_nI (by omega), d1, ew, hR0.opens hw, sitter hR0 hI0 hw]
    by_cases ho : mOpen dd (nI w) = true
    · rw [if_pos ho, if_pos ho]
      unfold cEnter
      rw [ix_nI (by omega), e2, ew, ix_nI (by omega)]
      rcases hI0.sit w hw (by omega) with e | ⟨j, hj, e, hx, hpj⟩
      · rw [e, cEx_m1, if_neg (by decide), if_pos (show (-1 : Int32) < 0 by decide)]
        show Came c n0 mo (cRun _ 25 (cSit cc (nI k) (nI w)) (-1)) ((mRun _ 26 (mSitS dd (nI k) (nI w)) (-1) 0).1 1) (mRun _ 26 (mSitS dd (nI k) (nI w)) (-1) 0).2
        rw [cRun_m1, mRun_neg (by decide)]
        obtain ⟨k17, k0, -, -⟩ := cSit_keep (c := cc) (y := nI w) hk e17 (by omega)
        exact ⟨0, by omega, rfl, hR0.sit hk e17 (by omega), hI0.sitF e hk (by rw [e2]; exact he) (by rw [e4]; exact hp) hw e17 (by omega), ⟨1, by omega, k17⟩, by rw [k0]; exact e8⟩
      · rw [e, if_pos ((cEx_nI hj).mpr hx), if_neg (nI_pos (by omega))]
        by_cases hm0 : mo = 0
        · subst hm0
          rw [if_neg (show ¬ decide (¬ nI n0 + nI 0 ≤ nI n0) = true by rw [nI_add]; simp [Int32.le_refl]), if_pos (show nI 0 ≤ 0 by decide)]
          show Came c n0 0 (cRun _ 25 (cSit (cW cc 4 (ix (nI j)) 24) (nI k) (nI w)) (-1)) ((mRun _ 26 (mSitS (cW dd 1 (9 * ix (nI j) + 3) 24) (nI k) (nI w)) (-1) 0).1 1) (mRun _ 26 (mSitS (cW dd 1 (9 * ix (nI j) + 3) 24) (nI k) (nI w)) (-1) 0).2
          rw [cRun_m1, mRun_neg (by decide), ix_nI (by omega)]
          obtain ⟨⟨hx', hpj'⟩, hO, hN⟩ := hI0.out hw hj e (v := 24) (Or.inr rfl)
          have hjk : j ≠ k := fun q => by rw [q, e4, hp] at hpj'; exact nI_nm (by omega) hpj'.symm
          have hR1 : Rel (cW cc 4 j 24) (cW dd 1 (9 * j + 3) 24 1) := by
            rw [cWr]; exact hR0.uRow (y := 2) hj (by omega) (by omega)
          have f17 : cW cc 4 j 24 17 2 = nI 0 := by rw [cWn (by omega)]; exact e17
          have f2 : cW cc 4 j 24 2 = c 2 := by rw [cWn (by omega)]; exact e2
          have f4 : cW cc 4 j 24 4 = zU (c 4) j 24 := by rw [cWr, e4]
          obtain ⟨k17, k0, -, -⟩ := cSit_keep (c := cW cc 4 j 24) (y := nI w) hk f17 (by omega)
          refine ⟨0, by omega, rfl, hR1.sit hk f17 (by omega), hO.sitH ?_ hk (by rw [f2]; exact he) (by rw [f4, zU_ne (fun q => hjk q.symm)]; exact hp) hw f17 (by omega), ⟨1, by omega, k17⟩, ?_⟩
          · rw [f2, f4]; rw [e2, e4] at hN; exact hN
          · rw [k0, cWn (by omega)]; exact e8
        · rw [if_pos (show decide (¬ nI n0 + nI mo ≤ nI n0) = true from decide_eq_true (by rw [nI_add, nI_leI (by omega) (by omega)]; omega)), if_neg (show ¬ nI mo ≤ 0 from nI_nle (by omega) (by omega))]
          obtain ⟨g1, g2, g3, g4, g5, g6⟩ := shift_sim hR0 hI0 e17 (by omega) hk (by rw [e2]; exact he) (by rw [e4]; exact hp) hw hj e
          exact run_sim hmo hn0 (mo - 1) 25 26 1 _ _ j (by omega) (by omega) (by omega) (by omega) g1 g2 g3 hj g5 g6 (g4.trans (by rw [e8, nI_1]))
    · rw [if_neg ho, if_neg ho]
      exact run_sim hmo hn0 mo 25 26 0 _ _ k (by omega) (by omega) (by omega) (by omega) hR0 hI0 e17 hk (show ¬ cc 2 k = -1 by rw [e2]; exact he) (show cc 4 k = -1 by rw [e4]; exact hp) e8
  · rw [if_neg ht, if_pos ht]
    have d5 : d 1 (9 * k + 5) = c 6 k := hR.row k hk he 4 (by omega)
    rw [ix_nI (by omega), d5]
    refine run_sim hmo hn0 mo 25 26 0 _ _ k (by omega) (by omega) (by omega) (by omega) ?_ ?_ ?_ hk ?_ ?_ ?_
    · show Rel (cW cc 6 k (c 6 k + 1)) (cW dd 1 (9 * k + 5) (c 6 k + 1) 1)
      rw [cWr]; exact hR0.uRow (y := 4) hk (by omega) (by omega)
    · refine hI0.congr ?_ ?_ ?_ ?_ ?_ ?_ (fun q hq => ?_) (fun q _ => ?_) (fun q _ => ?_) (fun q _ => ?_)
      · simp (disch := omega) only [cWn]
      · simp (disch := omega) only [cWn]
      · simp (disch := omega) only [cWn]
      · simp (disch := omega) only [cWn]
      · simp (disch := omega) only [cWn]
      · simp (disch := omega) only [cWn]
      · have : q ≠ k := fun w => he (by rw [← w, ← e2]; exact hq)
        show cW cc 6 k (c 6 k + 1) 6 q = cc 6 q
        rw [cWr, zU_ne this]
      · simp (disch := omega) only [cWn]
      · simp (disch := omega) only [cWn]
      · simp (disch := omega) only [cWn]
    · simp (disch := omega) only [cWn]; exact e17
    · simp (disch := omega) only [cWn]; rw [e2]; exact he
    · simp (disch := omega) only [cWn]; rw [e4]; exact hp
    · simp (disch := omega) only [cWn]; exact e8
theorem comeR_eq {c c' : cSt} {n0 sf : Nat} (h8 : c 0 8 = nI n0) (h : c' 0 8 = nI (n0 + sf)) : c' 0 8 - c 0 8 = nI sf := by
  rw [h, h8, pk_sub (by omega)]
  congr 1
  omega
