/-! coming home, step by step: the cote and the law's numbers -/
theorem cW_comm {c : cSt} {j i j' i' : Nat} {x y : Int32} (h : j ≠ j' ∨ i ≠ i') : cW (cW c j i x) j' i' y = cW (cW c j' i' y) j i x := by
  funext a d
  unfold cW
  by_cases h1 : a = j'
  · by_cases h2 : d = i'
    · rw [if_pos h1, if_pos h2]
      by_cases h3 : a = j
      · rw [if_pos h3]
        have : d ≠ i := by
          intro w
          rcases h with q | q
          · exact q (h3.symm.trans h1)
          · exact q (w.symm.trans h2)
        rw [if_neg this, if_pos h1, if_pos h2]
      · rw [if_neg h3, if_pos h1, if_pos h2]
    · rw [if_pos h1, if_neg h2]
      by_cases h3 : a = j
      · rw [if_pos h3, if_pos h3]
        by_cases h4 : d = i
        · rw [if_pos h4, if_pos h4]
        · rw [if_neg h4, if_neg h4, if_pos h1, if_neg h2]
      · rw [if_neg h3, if_neg h3, if_pos h1, if_neg h2]
  · rw [if_neg h1]
    by_cases h3 : a = j
    · rw [if_pos h3, if_pos h3, if_neg h1]
    · rw [if_neg h3, if_neg h3, if_neg h1]
theorem RelL.sitz {b : Prop} {c v : cSt} (h : RelL b c v) {k : Nat} {y : Int32} (hk : k < 16) : RelL b (sit0 c k y) (cW v 1 (4 * k + 2) y) := by
  have h1 : RelL b (cW c 4 k y) (cW v 1 (4 * k + 2) y) := h.uRow (y := 2) hk (by omega) (by omega)
  unfold sit0
  split
  · exact h1.uRest (by omega)
  · exact h1
theorem RelL.sit {b : Prop} {c v : cSt} (h : RelL b c v) {k s n : Nat} (hk : k < 16) (hn : n < 25) (hs : c 17 2 = nI s) (h24 : s ≤ 24) : RelL b (cSit c (nI k) (nI n)) (lSit v k (nI n) s) := by
  rw [cSit_eq hk hs h24]
  unfold lSit
  rw [nI_add]
  exact (h.sitz hk).uNote hk hn (by rw [sit0_17]; exact hs) h24
theorem cSit_more {c : cSt} {k s : Nat} {y : Int32} (hk : k < 16) (hs : c 17 2 = nI s) (h24 : s ≤ 24) : cSit c (nI k) y 14 = c 14 := by
  rw [cSit_eq hk hs h24]
  simp (disch := omega) only [cWn]
  unfold sit0
  split <;> simp (disch := omega) only [cWn]
theorem RelL.shift0 {b : Prop} {c v : cSt} (hR : RelL b c v) {k h j : Nat} (hk : k < 16) (he : ¬ c 2 k = -1) (hh : h < 24) (hj : j < 16) (hx : ¬ c 2 j = -1) (h11 : c 11 h = nI j) : RelL b (cShift0 c (nI h) (nI k)) (lShift v k j) := by
  rw [cShift0_eq (c := c) hk hh hj h11]
  have h5 : v 1 (4 * k + 3) = c 5 k := hR.row k hk he 3 (by omega)
  have h7 : v 2 (4 * j + 1) = c 7 j := hR.rob j hj hx 1 (by omega)
  have hc : cW v 1 (4 * j + 2) (-1) 1 (4 * k + 3) = c 5 k := by rw [cWr, zU_ne (by omega)]; exact h5
  unfold lShift
  rw [hc, h7, hR.shf, hR.qrl]
  rw [cW_comm (c := cW (cW c 0 8 (c 0 8 + 1)) 0 9 _) (j := 7) (j' := 4) (by omega), cW_comm (c := cW c 0 8 (c 0 8 + 1)) (j := 0) (i := 9) (j' := 4) (by omega), cW_comm (c := c) (j := 0) (i := 8) (j' := 4) (by omega)]
  rw [cW_comm (c := cW (cW c 4 j (-1)) 0 8 (c 0 8 + 1)) (j := 0) (i := 9) (j' := 7) (by omega), cW_comm (c := cW c 4 j (-1)) (j := 0) (i := 8) (j' := 7) (by omega)]
  exact (((hR.uRow (y := 2) hj (by omega) (by omega)).uRob (y := 1) hj (by omega)).uShf).uQrl
theorem shiftL_sim {b : Prop} {c v : cSt} {k h j s : Nat} (hR : RelL b c v) (hI : Inv 24 c) (hs : c 17 2 = nI s) (h24 : s ≤ 24) (hk : k < 16) (he : ¬ c 2 k = -1) (hp : c 4 k = -1) (hh : h < 24) (hj : j < 16) (h11 : c 11 h = nI j) :
    RelL b (cShift c (nI h) (nI k)) (lSit (lShift v k j) k (nI h) s) ∧ Inv 24 (cShift c (nI h) (nI k)) ∧ cShift c (nI h) (nI k) 17 2 = nI (s + 1) ∧ cShift c (nI h) (nI k) 0 8 = c 0 8 + 1 ∧ cShift c (nI h) (nI k) 2 = c 2 ∧ cShift c (nI h) (nI k) 4 = zU (zU (c 4) j (-1)) k (nI h) ∧ cShift c (nI h) (nI k) 14 = c 14 ∧ cShift c (nI h) (nI k) 0 7 = c 0 7 ∧ ¬ c 2 j = -1 ∧ c 4 j = nI h ∧ j ≠ k := by
  obtain ⟨⟨hx, hpj⟩, hO, hN⟩ := hI.out hh hj h11 (v := -1) (Or.inl rfl)
  have hjk : j ≠ k := fun w => by rw [w, hp] at hpj; exact nI_nm (by omega) hpj.symm
  have hR0 := hR.shift0 hk he hh hj hx h11
  have e0 := cShift0_eq (c := c) hk hh hj h11
  have r17 : cShift0 c (nI h) (nI k) 17 = c 17 := by rw [e0]; simp (disch := omega) only [cWn]
  have r14 : cShift0 c (nI h) (nI k) 14 = c 14 := by rw [e0]; simp (disch := omega) only [cWn]
  have r2 : cShift0 c (nI h) (nI k) 2 = c 2 := by rw [e0]; simp (disch := omega) only [cWn]
  have r4 : cShift0 c (nI h) (nI k) 4 = zU (c 4) j (-1) := by rw [e0, cWr]; simp (disch := omega) only [cWn]
  have r0 : cShift0 c (nI h) (nI k) 0 8 = c 0 8 + 1 := by rw [e0]; simp (disch := omega) only [cWn, cWr, zU_ne, zU_at]
  have r07 : cShift0 c (nI h) (nI k) 0 7 = c 0 7 := by rw [e0]; simp (disch := omega) only [cWn, cWr, zU_ne, zU_at]
  have hI0 : Inv h (cShift0 c (nI h) (nI k)) := by
    rw [e0]
    refine hO.congr ?_ ?_ ?_ ?_ ?_ ?_ (fun q _ => ?_) (fun q hq => ?_) (fun q _ => ?_) (fun q _ => ?_)
    · simp (disch := omega) only [cWn]
    · simp (disch := omega) only [cWn, cWr]
    · simp (disch := omega) only [cWn]
    · simp (disch := omega) only [cWn]
    · simp (disch := omega) only [cWn]
    · simp (disch := omega) only [cWn]
    · simp (disch := omega) only [cWn]
    · simp (disch := omega) only [cWn] at hq
      have : q ≠ j := fun w => hx (w ▸ hq)
      simp (disch := omega) only [cWn, cWr, zU_ne]
    · simp (disch := omega) only [cWn]
    · simp (disch := omega) only [cWn]
  have hs0 : cShift0 c (nI h) (nI k) 17 2 = nI s := by rw [r17]; exact hs
  have hp0 : cShift0 c (nI h) (nI k) 4 k = -1 := by rw [r4, zU_ne (fun w => hjk w.symm)]; exact hp
  obtain ⟨k17, k0, k2, k4⟩ := cSit_keep (c := cShift0 c (nI h) (nI k)) (y := nI h) hk hs0 h24
  have k14 := cSit_more (c := cShift0 c (nI h) (nI k)) (y := nI h) hk hs0 h24
  unfold cShift
  refine ⟨hR0.sit hk (by omega) hs0 h24, ?_, k17, ?_, k2.trans r2, ?_, k14.trans r14, ?_, hx, hpj, hjk⟩
  · exact hI0.sitH (by rw [r2, r4]; exact hN) hk (by rw [r2]; exact he) hp0 hh hs0 h24
  · rw [k0]; exact r0
  · rw [k4, r4]
  · rw [k0]; exact r07
/-- what a step of a coming home leaves as it was -/
def FrL (c c' : cSt) : Prop := c' 2 = c 2 ∧ c' 14 = c 14 ∧ c' 0 7 = c 0 7
theorem FrL.trans {c c' c'' : cSt} (h : FrL c c') (h2 : FrL c' c'') : FrL c c'' := ⟨h2.1.trans h.1, h2.2.1.trans h.2.1, h2.2.2.trans h.2.2⟩
theorem lBes_eq {b : Prop} {c v : cSt} (hR : RelL b c v) {k w : Nat} (hk : k < 16) (he : ¬ c 2 k = -1) (hw : w < 24) (ew : c 2 k = nI w) : lBes v k = (w + 1) % 24 ∧ cHk c (nI k) 1 = nI ((w + 1) % 24) := by
  have h2 : v 1 (4 * k) = c 2 k := hR.row k hk he 0 (by omega)
  constructor
  · unfold lBes; rw [h2, ew, ix_nI (by omega)]
  · unfold cHk
    rw [ix_nI (by omega), ew]
    exact rem24 (k := 1) hw (by omega)
theorem settleL_sim {b : Prop} {c v : cSt} {k mo s n0 : Nat} {bb : Bool} (hR : RelL b c v) (hI : Inv 24 c) (hs : c 17 2 = nI s) (hsm : s ≤ mo) (hmo : mo ≤ 24) (hk : k < 16) (he : ¬ c 2 k = -1) (hp : c 4 k = -1) (hb : bb = decide (s < mo)) (h14 : c 14 1 = nI mo) (h8 : c 0 8 = nI (n0 + s)) (hn0 : n0 < 2 ^ 30) :
    ((cSettle c (nI k) bb).1 = -1 ∧ lSt1 v (nI n0) k = -1 ∧ RelL b (cSettle c (nI k) bb).2 (lSt2 v (nI n0) k) ∧ Inv 24 (cSettle c (nI k) bb).2 ∧ (cSettle c (nI k) bb).2 17 2 = nI (s + 1) ∧ (cSettle c (nI k) bb).2 0 8 = c 0 8 ∧ FrL c (cSettle c (nI k) bb).2 ∧ ∃ y, y < 25 ∧ (cSettle c (nI k) bb).2 4 = zU (c 4) k (nI y)) ∨
    (s < mo ∧ ∃ j, j < 16 ∧ (cSettle c (nI k) bb).1 = nI j ∧ lSt1 v (nI n0) k = nI j ∧ RelL b (cSettle c (nI k) bb).2 (lSt2 v (nI n0) k) ∧ Inv 24 (cSettle c (nI k) bb).2 ∧ (cSettle c (nI k) bb).2 17 2 = nI (s + 1) ∧ (cSettle c (nI k) bb).2 0 8 = c 0 8 + 1 ∧ FrL c (cSettle c (nI k) bb).2 ∧ ¬ c 2 j = -1 ∧ (¬ c 4 j = -1) ∧ j ≠ k ∧ ∃ y, y < 25 ∧ (cSettle c (nI k) bb).2 4 = zU (zU (c 4) j (-1)) k (nI y)) := by
  have h24 : s ≤ 24 := by omega
  have hsz : ix (v 0 12) = s := by rw [hR.siz, hs, ix_nI (by omega)]
  obtain ⟨w, hw, ew⟩ := hI.own k hk he
  obtain ⟨eb, eh⟩ := lBes_eq hR hk he hw ew
  have hq : (w + 1) % 24 < 24 := Nat.mod_lt _ (by omega)
  generalize (w + 1) % 24 = q at eb eh hq
  have eo : lOth v k = c 11 q := by unfold lOth; rw [eb]; exact lsitter hR hI hq
  have elim : decide (¬ v 0 5 ≤ v 0 6 - nI n0) = decide (s < mo) := by
    rw [show v 0 5 = c 14 1 from hR.set 1 (by omega), h14, hR.shf, h8, pk_sub (by omega)]
    refine decide_eq_decide.mpr ?_
    rw [nI_leI (by omega) (by omega)]
    omega
  have hroof : RelL b (cSit c (nI k) 24) (lSit v k 24 s) ∧ Inv 24 (cSit c (nI k) 24) ∧ cSit c (nI k) 24 17 2 = nI (s + 1) ∧ cSit c (nI k) 24 0 8 = c 0 8 ∧ FrL c (cSit c (nI k) 24) ∧ ∃ y, y < 25 ∧ cSit c (nI k) 24 4 = zU (c 4) k (nI y) := by
    obtain ⟨k17, k0, k2, k4⟩ := cSit_keep (c := c) (y := 24) hk hs h24
    exact ⟨hR.sit (n := 24) hk (by omega) hs h24, hI.sitR hk he hp hs h24, k17, by rw [k0], ⟨k2, cSit_more hk hs h24, by rw [k0]⟩, 24, by omega, k4⟩
  have hL := look_sim hR hI hk he
  unfold cSettle lSt1 lSt2
  by_cases hF : cFirst c (nI k) = -1
  · rw [if_pos hF, eh]
    have hlook : ¬ 0 ≤ lLook v k := by rw [hL, hF]; decide
    have eC : lCan v (nI n0) k = (decide (lBit (v 0 1) q = false) && (decide (¬ c 11 q < 0) && (decide (¬ v 1 (4 * k + 1) ≤ v 1 (4 * ix (c 11 q) + 1)) && decide (s < mo)))) := by
      unfold lCan
      rw [decide_eq_true hlook, eb, eo, elim, Bool.true_and]
    have hneg : lLook v k < 0 := Int32.not_le.mp hlook
    have hk1 : v 1 (4 * k + 1) = c 3 k := hR.row k hk he 1 (by omega)
    have eop := hR.opens hq
    rw [ix_nI (by omega), ix_nI (by omega)]
    rcases hI.sit q hq (by omega) with e | ⟨j, hj, e, hx, hpj⟩
    · have eC0 : lCan v (nI n0) k = false := by rw [eC, e]; simp
      rw [e, cEx_m1, if_neg (fun w => by exact absurd w.2.2.1 (by decide)), eC0, if_neg (by decide), if_neg (by decide), if_pos hneg, hsz]
      exact Or.inl ⟨rfl, rfl, hroof⟩
    · have hj1 : v 1 (4 * j + 1) = c 3 j := hR.row j hj hx 1 (by omega)
      rw [e, ix_nI (by omega)]
      by_cases hP : s < mo ∧ cOpen c (nI q) = true ∧ ¬ c 3 k ≤ c 3 j
      · obtain ⟨p1, p2, p3⟩ := hP
        have eC1 : lCan v (nI n0) k = true := by
          rw [eC, e, ix_nI (by omega), hk1, hj1, decide_eq_true p3, decide_eq_true p1, decide_eq_true (p := ¬ nI j < 0) (nI_pos (by omega))]
          rw [eop] at p2
          cases hbq : lBit (v 0 1) q
          · rfl
          · rw [hbq] at p2; cases p2
        rw [if_pos ⟨by rw [hb]; exact decide_eq_true p1, p2, (cEx_nI hj).mpr hx, p3⟩, if_pos eC1, if_pos eC1, eo, e, eb, hsz, ix_nI (by omega)]
        obtain ⟨g1, g2, g3, g4, g5, g6, g7, g8, g9, g10, g11⟩ := shiftL_sim hR hI hs h24 hk he hp hq hj e
        exact Or.inr ⟨p1, j, hj, rfl, rfl, g1, g2, g3, g4, ⟨g5, g7, g8⟩, g9, by rw [g10]; exact nI_nm (by omega), g11, q, by omega, g6⟩
      · have eC0 : lCan v (nI n0) k = false := by
          rw [eC, e, ix_nI (by omega), hk1, hj1]
          rw [← Bool.not_eq_true]
          intro w
          simp only [Bool.and_eq_true, decide_eq_true_eq] at w
          exact hP ⟨w.2.2.2, by rw [eop, w.1]; rfl, w.2.2.1⟩
        rw [if_neg (fun w => hP ⟨by rw [hb] at w; exact of_decide_eq_true w.1, w.2.1, w.2.2.2⟩), eC0, if_neg (by decide), if_neg (by decide), if_pos hneg, hsz]
        exact Or.inl ⟨rfl, rfl, hroof⟩
  · rcases first_val (c := c) (x := nI k) with e | hf
    · exact absurd e hF
    · obtain ⟨q', hq', eq', -, h11⟩ := cFree_in hf
      have eC0 : lCan v (nI n0) k = false := by
        unfold lCan
        rw [hL, eq', decide_eq_false (p := ¬ 0 ≤ nI q') (fun w => w (nI_pos' (by omega)))]
        rfl
      rw [if_neg hF, eC0, if_neg (by decide), if_neg (by decide), hL, eq', if_neg (nI_pos (by omega)), hsz]
      obtain ⟨k17, k0, k2, k4⟩ := cSit_keep (c := c) (y := nI q') hk hs h24
      exact Or.inl ⟨rfl, rfl, hR.sit hk (by omega) hs h24, hI.sitF h11 hk he hp hq' hs h24, k17, congrFun k0 8, ⟨k2, cSit_more hk hs h24, congrFun k0 7⟩, q', by omega, k4⟩
theorem lRun_neg {b0 x : Int32} {v : cSt} (hx : x < 0) : ∀ n, lRun b0 n v x = v
  | 0 => rfl
  | n + 1 => by unfold lRun; rw [if_pos hx]
theorem lPath_neg {b0 x : Int32} {v : cSt} (hx : x < 0) : ∀ n, lPath b0 n v x
  | 0 => hx
  | n + 1 => Or.inl hx
/-- how a coming home ends; O: who is out then -/
def CameL (b : Prop) (c : cSt) (n0 mo : Nat) (O : Nat → Prop) (c' v' : cSt) : Prop :=
  ∃ sf, sf ≤ mo ∧ RelL b c' v' ∧ Inv 24 c' ∧ (∃ w, w ≤ 25 ∧ c' 17 2 = nI w) ∧ c' 0 8 = nI (n0 + sf) ∧ FrL c c' ∧ (∀ q, q < 16 → ¬ c 2 q = -1 → (c' 4 q = -1 ↔ O q))
theorem lOK_of {b : Prop} {c v : cSt} (hR : RelL b c v) (hI : Inv 24 c) {k s : Nat} (hk : k < 16) (he : ¬ c 2 k = -1) (hs : c 17 2 = nI s) (h24 : s ≤ 25) : lOK v k := by
  refine ⟨?_, fun h0 => ?_, s, by omega, hR.siz.trans hs⟩
  · obtain ⟨w, hw, ew⟩ := hI.own k hk he
    exact ⟨w, hw, (hR.row k hk he 0 (by omega)).trans ew⟩
  · have h5 : v 1 (4 * k + 3) = c 5 k := hR.row k hk he 3 (by omega)
    rw [h5] at h0 ⊢
    rcases hI.mat k hk he with e | ⟨m, hm, e, -⟩
    · rw [e] at h0; exact absurd h0 (by decide)
    · exact ⟨m, hm, e⟩
theorem runL_sim {b : Prop} {n0 mo : Nat} (hmo : mo ≤ 24) (hn0 : n0 < 2 ^ 30) (O : Nat → Prop) : ∀ (g n m s : Nat) (c v : cSt) (k : Nat), mo ≤ s + g → s ≤ mo → g + 1 ≤ n → g + 1 ≤ m → RelL b c v → Inv 24 c → c 17 2 = nI s → k < 16 → ¬ c 2 k = -1 → c 4 k = -1 → c 0 8 = nI (n0 + s) → c 14 1 = nI mo → (∀ q, q < 16 → ¬ c 2 q = -1 → (c 4 q = -1 ↔ (q = k ∨ O q))) → ¬ O k →
    lPath (nI n0) m v (nI k) ∧ CameL b c n0 mo O (cRun (nI (n0 + mo)) n c (nI k)) (lRun (nI n0) m v (nI k))
  | g, 0, _, _, _, _, _, _, _, h, _, _, _, _, _, _, _, _, _, _, _ => absurd h (by omega)
  | g, _, 0, _, _, _, _, _, _, _, h, _, _, _, _, _, _, _, _, _, _ => absurd h (by omega)
  | g, n + 1, m + 1, s, c, v, k, hg, hsm, hn, hm, hR, hI, hs, hk, he, hp, h8, h14, hO, hOk => by
    unfold cRun lRun lPath
    rw [if_pos ((cEx_nI hk).mpr he), if_neg (nI_pos (by omega)), ix_nI (by omega)]
    have hb : decide (¬ nI (n0 + mo) ≤ c 0 8) = decide (s < mo) := by
      rw [h8]
      refine decide_eq_decide.mpr ?_
      rw [nI_leI (by omega) (by omega)]
      omega
    have hok := lOK_of hR hI hk he hs (by omega)
    rcases settleL_sim hR hI hs hsm hmo hk he hp hb h14 h8 hn0 with ⟨g1, g2, g3, g4, g5, g6, g7, y, hy, g8⟩ | ⟨hlt, j, hj, g1, g2, g3, g4, g5, g6, g7, g8, g9, g10, y, hy, g11⟩
    · rw [g1, g2, cRun_m1, lRun_neg (by decide)]
      refine ⟨Or.inr ⟨k, hk, rfl, hok, by rw [g2]; exact lPath_neg (by decide) m⟩, s, hsm, g3, g4, ⟨s + 1, by omega, g5⟩, by rw [g6]; exact h8, g7, fun q hq hx => ?_⟩
      rw [g8]
      by_cases hc : q = k
      · subst hc
        rw [zU_at]
        exact ⟨fun w => (nI_nm (by omega) w).elim, fun w => (hOk w).elim⟩
      · rw [zU_ne hc, hO q hq hx]
        exact ⟨fun w => w.resolve_left hc, Or.inr⟩
    · rw [g1, g2]
      cases g with
      | zero => omega
      | succ g =>
        have hOj : ¬ O j := fun w => g9 ((hO j hj g8).mpr (Or.inr w))
        obtain ⟨q1, sf, q2, q3, q4, q5, q6, q7, q8⟩ := runL_sim (b := b) hmo hn0 O g n m (s + 1) _ _ j (by omega) (by omega) (by omega) (by omega) g3 g4 g5 hj (by rw [g7.1]; exact g8) (by rw [g11, zU_ne g10, zU_at]) (by rw [g6, h8, nI_1]; rfl) (by rw [g7.2.1]; exact h14) (fun q hq hx => by
          rw [g7.1] at hx
          rw [g11]
          by_cases hc : q = k
          · subst hc
            rw [zU_at]
            exact ⟨fun w => (nI_nm (by omega) w).elim, fun w => w.elim (fun r => (g10 r.symm).elim) (fun r => (hOk r).elim)⟩
          · rw [zU_ne hc]
            by_cases hd : q = j
            · subst hd
              rw [zU_at]
              exact ⟨fun _ => Or.inl rfl, fun _ => rfl⟩
            · rw [zU_ne hd, hO q hq hx]
              exact ⟨fun w => Or.inr (w.resolve_left hc), fun w => Or.inr (w.resolve_left hd)⟩) hOj
        exact ⟨Or.inr ⟨k, hk, rfl, hok, by rw [g2]; exact q1⟩, sf, q2, q3, q4, q5, q6, g7.trans q7, fun q hq hx => q8 q hq (by rw [g7.1]; exact hx)⟩
theorem comeL_sim {b : Prop} {c v : cSt} {k n0 : Nat} {t : Int32} (hR : RelL b c v) (hI : Inv 24 c) (hk : k < 16) (he : ¬ c 2 k = -1) (hp : c 4 k = -1) (h8 : c 0 8 = nI n0) (hn0 : n0 < 2 ^ 30) :
    lCm v k t ∧ ∃ sf, sf ≤ 24 ∧ RelL b (cCome c (nI k) t) (lCome v k t) ∧ Inv 24 (cCome c (nI k) t) ∧ (∃ w, w ≤ 25 ∧ cCome c (nI k) t 17 2 = nI w) ∧ cCome c (nI k) t 0 8 = nI (n0 + sf) ∧ cCome c (nI k) t 2 = c 2 ∧ cCome c (nI k) t 14 = c 14 ∧ cCome c (nI k) t 0 7 = t ∧ (∀ q, q < 16 → ¬ c 2 q = -1 → (cCome c (nI k) t 4 q = -1 ↔ (c 4 q = -1 ∧ q ≠ k))) := by
  obtain ⟨mo, hmo, h141⟩ := hI.mst
  obtain ⟨w, hw, ew⟩ := hI.own k hk he
  have v5 : v 0 5 = nI mo := (hR.set 1 (by omega)).trans h141
  have v4 : v 0 4 = c 14 0 := hR.set 0 (by omega)
  have v6 : v 0 6 = nI n0 := hR.shf.trans h8
  have v1 : v 1 (4 * k) = nI w := (hR.row k hk he 0 (by omega)).trans ew
  suffices hmain : lPath (nI n0) 27 (lHome v k t).1 (lHome v k t).2 ∧ ∃ cc, FrL cc (cCome c (nI k) t) ∧ cc 2 = c 2 ∧ cc 14 = c 14 ∧ cc 0 7 = t ∧ CameL b cc n0 mo (fun q => c 4 q = -1 ∧ q ≠ k) (cCome c (nI k) t) (lCome v k t) by
    obtain ⟨m1, cc, m2, m3, m4, m5, sf, q2, q3, q4, q5, q6, q7, q8⟩ := hmain
    refine ⟨⟨w, mo, v1, hw, hmo, v5, by rw [v6]; exact m1⟩, sf, by omega, q3, q4, q5, q6, m2.1.trans m3, m2.2.1.trans m4, m2.2.2.trans m5, fun q hq hx => q8 q hq (by rw [m3]; exact hx)⟩
  have hR0 : RelL b (cW (cW c 0 7 t) 17 2 0) (cW (cW v 0 2 t) 0 12 0) := hR.uTime.uSiz0
  have hI0 : Inv 24 (cW (cW c 0 7 t) 17 2 0) := by
    refine hI.congr ?_ ?_ ?_ ?_ ?_ ?_ (fun q _ => ?_) (fun q _ => ?_) (fun q _ => ?_) (fun q _ => ?_) <;> simp (disch := omega) only [cWn]
  have e17 : cW (cW c 0 7 t) 17 2 0 17 2 = nI 0 := by rw [cWr, zU_at]; rfl
  have e2 : cW (cW c 0 7 t) 17 2 0 2 = c 2 := by simp (disch := omega) only [cWn]
  have e4 : cW (cW c 0 7 t) 17 2 0 4 = c 4 := by simp (disch := omega) only [cWn]
  have e14 : cW (cW c 0 7 t) 17 2 0 14 = c 14 := by simp (disch := omega) only [cWn]
  have e6 : cW (cW c 0 7 t) 17 2 0 6 = c 6 := by simp (disch := omega) only [cWn]
  have e07 : cW (cW c 0 7 t) 17 2 0 0 7 = t := by simp (disch := omega) only [cWn, cWr, zU_at]
  have e8 : cW (cW c 0 7 t) 17 2 0 0 8 = nI n0 := by simp (disch := omega) only [cWn, cWr, zU_ne]; exact h8
  have hOk : ¬ (fun q => c 4 q = -1 ∧ q ≠ k) k := fun q => q.2 rfl
  have hOw : ∀ (cc : cSt), cc 2 = c 2 → cc 4 = c 4 → ∀ q, q < 16 → ¬ cc 2 q = -1 → (cc 4 q = -1 ↔ (q = k ∨ (fun q => c 4 q = -1 ∧ q ≠ k) q)) := fun cc h2 h4 q hq hx => by
    rw [h4]
    by_cases hc : q = k
    · subst hc; exact ⟨fun _ => Or.inl rfl, fun _ => hp⟩
    · exact ⟨fun w => Or.inr ⟨w, hc⟩, fun w => (w.resolve_left hc).1⟩
  unfold cCome lCome
  rw [h8, h141, nI_add, v6]
  unfold cCome0 lHome
  rw [h8, h141, v4, v5, v1, ix_nI (by omega), ix_nI (by omega), ew]
  have hH0 : RelL b (cW (cW c 0 7 t) 17 2 0) (lH0 v k t) ∨ ¬ t ≤ c 14 0 := by
    by_cases ht : t ≤ c 14 0
    · left
      unfold lH0
      rw [v4, if_pos ht, Int32.add_zero]
      have : cW (cW (cW v 0 2 t) 0 12 0) 2 (4 * k) (v 2 (4 * k)) = cW (cW v 0 2 t) 0 12 0 := by
        have h := cW_same (c := cW (cW v 0 2 t) 0 12 0) (j := 2) (i := 4 * k)
        simp (disch := omega) only [cWn] at h
        exact h
      rw [this]; exact hR0
    · exact Or.inr ht
  have hop : cOpen (cW (cW c 0 7 t) 17 2 0) (nI w) = !(lBit (v 0 1) w) := by
    rw [hR0.opens hw]
    simp (disch := omega) only [cWr, zU_ne]
  by_cases ht : t ≤ c 14 0
  · have hRH := hH0.resolve_right (fun q => q ht)
    rw [if_pos ht, if_pos ht, hop]
    generalize hvv : lH0 v k t = vv at *
    generalize hcc : cW (cW c 0 7 t) 17 2 0 = cc at *
    have hs := lsitter hRH hI0 hw
    cases hbw : lBit (v 0 1) w
    · rw [if_neg (show ¬ false = true by decide), if_pos (show (!false) = true from rfl), hs]
      unfold cEnter
      rw [ix_nI (by omega), e2, ew, ix_nI (by omega)]
      rcases hI0.sit w hw (by omega) with e | ⟨j, hj, e, hx, hpj⟩
      · rw [e, cEx_m1, if_pos (show (-1 : Int32) < 0 by decide), if_neg (show ¬ false = true by decide)]
        obtain ⟨k17, k0, k2, k4⟩ := cSit_keep (c := cc) (y := nI w) hk e17 (by omega)
        show lPath (nI n0) 27 (lSit vv k (nI w) 0) (-1) ∧ ∃ cc', FrL cc' (cRun _ 25 (cSit cc (nI k) (nI w)) (-1)) ∧ cc' 2 = c 2 ∧ cc' 14 = c 14 ∧ cc' 0 7 = t ∧ CameL b cc' n0 mo _ (cRun _ 25 (cSit cc (nI k) (nI w)) (-1)) (lRun (nI n0) 27 (lSit vv k (nI w) 0) (-1))
        rw [cRun_m1, lRun_neg (by decide)]
        have hF : FrL cc (cSit cc (nI k) (nI w)) := ⟨k2, cSit_more hk e17 (by omega), by rw [k0]⟩
        refine ⟨lPath_neg (by decide) 27, cc, hF, e2, e14, e07, 0, by omega, hRH.sit hk (by omega) e17 (by omega), hI0.sitF e hk (by rw [e2]; exact he) (by rw [e4]; exact hp) hw e17 (by omega), ⟨1, by omega, k17⟩, by rw [k0]; exact e8, hF, fun q hq hx => ?_⟩
        rw [k4]
        by_cases hc : q = k
        · subst hc; rw [zU_at]; exact ⟨fun r => (nI_nm (by omega) r).elim, fun r => (r.2 rfl).elim⟩
        · rw [zU_ne hc, e4]; exact ⟨fun r => ⟨r, hc⟩, fun r => r.1⟩
      · rw [e, if_pos ((cEx_nI hj).mpr hx), if_neg (nI_pos (by omega)), ix_nI (by omega)]
        by_cases hm0 : mo = 0
        · subst hm0
          rw [if_neg (show ¬ decide (¬ nI n0 + nI 0 ≤ nI n0) = true by rw [nI_add]; simp [Int32.le_refl]), if_pos (show nI 0 = 0 from rfl)]
          obtain ⟨⟨hx', hpj'⟩, hO, hN⟩ := hI0.out hw hj e (v := 24) (Or.inr rfl)
          have hjk : j ≠ k := fun q => by rw [q, e4, hp] at hpj'; exact nI_nm (by omega) hpj'.symm
          have hR1 : RelL b (cW cc 4 j 24) (cW vv 1 (4 * j + 2) 24) := hRH.uRow (y := 2) hj (by omega) (by omega)
          have f17 : cW cc 4 j 24 17 2 = nI 0 := by rw [cWn (by omega)]; exact e17
          have f2 : cW cc 4 j 24 2 = c 2 := by rw [cWn (by omega)]; exact e2
          have f4 : cW cc 4 j 24 4 = zU (c 4) j 24 := by rw [cWr, e4]
          have f14 : cW cc 4 j 24 14 = c 14 := by rw [cWn (by omega)]; exact e14
          have f07 : cW cc 4 j 24 0 7 = t := by rw [cWn (by omega)]; exact e07
          obtain ⟨k17, k0, k2, k4⟩ := cSit_keep (c := cW cc 4 j 24) (y := nI w) hk f17 (by omega)
          show lPath (nI n0) 27 (lSit (cW vv 1 (4 * j + 2) 24) k (nI w) 0) (-1) ∧ ∃ cc', FrL cc' (cRun _ 25 (cSit (cW cc 4 j 24) (nI k) (nI w)) (-1)) ∧ cc' 2 = c 2 ∧ cc' 14 = c 14 ∧ cc' 0 7 = t ∧ CameL b cc' n0 0 _ (cRun _ 25 (cSit (cW cc 4 j 24) (nI k) (nI w)) (-1)) (lRun (nI n0) 27 (lSit (cW vv 1 (4 * j + 2) 24) k (nI w) 0) (-1))
          rw [cRun_m1, lRun_neg (by decide)]
          have hF : FrL (cW cc 4 j 24) (cSit (cW cc 4 j 24) (nI k) (nI w)) := ⟨k2, cSit_more hk f17 (by omega), by rw [k0]⟩
          refine ⟨lPath_neg (by decide) 27, cW cc 4 j 24, hF, f2, f14, f07, 0, by omega, hR1.sit hk (by omega) f17 (by omega), hO.sitH ?_ hk (by rw [f2]; exact he) (by rw [f4, zU_ne (fun q => hjk q.symm)]; exact hp) hw f17 (by omega), ⟨1, by omega, k17⟩, ?_, hF, fun q hq hx => ?_⟩
          · rw [f2, f4]; rw [e2, e4] at hN; exact hN
          · rw [k0, cWn (by omega)]; exact e8
          · rw [k4, f4]
            by_cases hc : q = k
            · subst hc; rw [zU_at]; exact ⟨fun r => (nI_nm (by omega) r).elim, fun r => (r.2 rfl).elim⟩
            · rw [zU_ne hc]
              by_cases hd : q = j
              · subst hd
                rw [zU_at]
                refine ⟨fun r => (by cases r), fun r => ?_⟩
                rw [e4] at hpj'
                exact (nI_nm (by omega) (hpj'.symm.trans r.1)).elim
              · rw [zU_ne hd]; exact ⟨fun r => ⟨r, hc⟩, fun r => r.1⟩
        · rw [if_pos (show decide (¬ nI n0 + nI mo ≤ nI n0) = true from decide_eq_true (by rw [nI_add, nI_leI (by omega) (by omega)]; omega)), if_neg (show ¬ nI mo = 0 from nI_ne0 (by omega) (by omega))]
          obtain ⟨g1, g2, g3, g4, g5, g6, g7, g8, g9, g10, g11⟩ := shiftL_sim hRH hI0 e17 (by omega) hk (by rw [e2]; exact he) (by rw [e4]; exact hp) hw hj e
          obtain ⟨r1, r2⟩ := runL_sim (b := b) hmo hn0 (fun q => c 4 q = -1 ∧ q ≠ k) (mo - 1) 25 27 1 _ _ j (by omega) (by omega) (by omega) (by omega) g1 g2 g3 hj (by rw [g5]; exact g9) (by rw [g6, zU_ne g11, zU_at]) (g4.trans (by rw [e8, nI_1])) (by rw [g7, e14]; exact h141) (fun q hq hx => by
            rw [g6]
            by_cases hc : q = k
            · subst hc
              rw [zU_at]
              exact ⟨fun r => (nI_nm (by omega) r).elim, fun r => r.elim (fun x => (g11 x.symm).elim) (fun x => (x.2 rfl).elim)⟩
            · rw [zU_ne hc]
              by_cases hd : q = j
              · subst hd; rw [zU_at]; exact ⟨fun _ => Or.inl rfl, fun _ => rfl⟩
              · rw [zU_ne hd, e4]; exact ⟨fun r => Or.inr ⟨r, hc⟩, fun r => (r.resolve_left hd).1⟩) (fun r => by
            rw [e4] at g10
            exact nI_nm (by omega) (g10.symm.trans r.1))
          obtain ⟨sf, r3⟩ := r2
          exact ⟨r1, _, r3.2.2.2.2.2.1, g5.trans e2, g7.trans e14, g8.trans e07, sf, r3⟩
    · rw [if_pos (show true = true from rfl), if_neg (show ¬ (!true) = true by decide)]
      obtain ⟨r1, sf, r3⟩ := runL_sim (b := b) hmo hn0 (fun q => c 4 q = -1 ∧ q ≠ k) mo 25 27 0 cc vv k (by omega) (by omega) (by omega) (by omega) hRH hI0 e17 hk (by rw [e2]; exact he) (by rw [e4]; exact hp) e8 (by rw [e14]; exact h141) (hOw cc e2 e4) hOk
      exact ⟨r1, cc, r3.2.2.2.2.2.1, e2, e14, e07, sf, r3⟩
  · rw [if_neg ht, if_neg ht]
    have hRL : RelL b (cW (cW (cW c 0 7 t) 17 2 0) 6 k (c 6 k + 1)) (lH0 v k t) := by
      have h6 : v 2 (4 * k) = c 6 k := hR.rob k hk he 0 (by omega)
      unfold lH0
      rw [v4, if_neg ht, h6]
      exact hR0.uRob (y := 0) hk (by omega)
    generalize hcc : cW (cW c 0 7 t) 17 2 0 = cc at *
    have f2 : cW cc 6 k (c 6 k + 1) 2 = c 2 := by rw [cWn (by omega)]; exact e2
    have f4 : cW cc 6 k (c 6 k + 1) 4 = c 4 := by rw [cWn (by omega)]; exact e4
    have f14 : cW cc 6 k (c 6 k + 1) 14 = c 14 := by rw [cWn (by omega)]; exact e14
    have f07 : cW cc 6 k (c 6 k + 1) 0 7 = t := by rw [cWn (by omega)]; exact e07
    have hI1 : Inv 24 (cW cc 6 k (c 6 k + 1)) := by
      refine hI0.congr ?_ ?_ ?_ ?_ ?_ ?_ (fun q hq => ?_) (fun q _ => ?_) (fun q _ => ?_) (fun q _ => ?_)
      · simp (disch := omega) only [cWn]
      · simp (disch := omega) only [cWn]
      · simp (disch := omega) only [cWn]
      · simp (disch := omega) only [cWn]
      · simp (disch := omega) only [cWn]
      · simp (disch := omega) only [cWn]
      · have : q ≠ k := fun w => he (by rw [← w, ← e2]; exact hq)
        rw [cWr, zU_ne this]
      · simp (disch := omega) only [cWn]
      · simp (disch := omega) only [cWn]
      · simp (disch := omega) only [cWn]
    obtain ⟨r1, sf, r3⟩ := runL_sim (b := b) hmo hn0 (fun q => c 4 q = -1 ∧ q ≠ k) mo 25 27 0 _ _ k (by omega) (by omega) (by omega) (by omega) hRL hI1 (by rw [cWn (by omega)]; exact e17) hk (by rw [f2]; exact he) (by rw [f4]; exact hp) (by rw [cWn (by omega)]; exact e8) (by rw [f14]; exact h141) (hOw _ f2 f4) hOk
    exact ⟨r1, _, r3.2.2.2.2.2.1, f2, f14, f07, sf, r3⟩
