/-! what the reference's row keeps -/
theorem mOK_any {d : cSt} {q : Nat} {v : Int32} (h : mOK d) (hv : ∀ k, k < 16 → (q = 9 * k + 1 → vp_in v 24) ∧ (q = 9 * k + 4 → v < 0 ∨ vp_in v 16)) : mOK (cW d 1 q v) := by
  intro k hk
  obtain ⟨h1, h2⟩ := h k hk
  obtain ⟨v1, v2⟩ := hv k hk
  rw [cWr]
  constructor
  · by_cases hc : 9 * k + 1 = q
    · rw [hc, zU_at]; exact v1 hc.symm
    · rw [zU_ne hc]; exact h1
  · by_cases hc : 9 * k + 4 = q
    · rw [hc, zU_at]; exact v2 hc.symm
    · rw [zU_ne hc]; exact h2
theorem mOK_ne {d : cSt} {q : Nat} {v : Int32} (h : mOK d) (hq : ∀ k, k < 16 → q ≠ 9 * k + 1 ∧ q ≠ 9 * k + 4) : mOK (cW d 1 q v) := mOK_any h fun k hk => ⟨fun w => absurd w (hq k hk).1, fun w => absurd w (hq k hk).2⟩
theorem vp0 {N : Nat} (h : 0 < N) (hN : N < 2 ^ 31) : vp_in 0 N := vp_in_nI (n := 0) h hN
theorem mZero_ok {d : cSt} {k : Nat} (h : mOK d) : ∀ n, mOK (mZero d k n)
  | 0 => h
  | n + 1 => by
    unfold mZero
    exact mOK_any (mZero_ok h n) fun _ _ => ⟨fun _ => vp0 (by omega) (by omega), fun _ => Or.inr (vp0 (by omega) (by omega))⟩
theorem mZero_r {d : cSt} {k j : Nat} (hj : j ≠ 1) : ∀ n, mZero d k n j = d j
  | 0 => rfl
  | n + 1 => by unfold mZero; rw [cWn hj, mZero_r hj n]
theorem mBuy_ok {d : cSt} {x y : Int32} (h : mOK d) (hx : vp_in x 24) : mOK (mBuy d x y).2 ∧ ∀ j, j ≠ 1 → (mBuy d x y).2 j = d j := by
  unfold mBuy
  split
  · rename_i k hk
    show mOK (mBuyK d k x y) ∧ ∀ j, j ≠ 1 → mBuyK d k x y j = d j
    unfold mBuyK
    refine ⟨?_, fun j hj => ?_⟩
    · refine mOK_any (mOK_ne (mOK_ne (mOK_any (mOK_ne (mZero_ok h 9) fun q hq => ⟨by omega, by omega⟩) fun q hq => ⟨fun _ => hx, fun w => by omega⟩) fun q hq => ⟨by omega, by omega⟩) fun q hq => ⟨by omega, by omega⟩) fun q hq => ⟨fun w => by omega, fun _ => Or.inl (by decide)⟩
    · simp (disch := omega) only [cWn]
      exact mZero_r hj 9
  · exact ⟨h, fun _ _ => rfl⟩
theorem mMate_ok {d : cSt} {x y : Nat} (h : mOK d) (hx : x < 16) (hy : y < 16) : mOK (mMate d (nI x) (nI y)) ∧ ∀ j, j ≠ 1 → mMate d (nI x) (nI y) j = d j := by
  unfold mMate
  rw [ix_nI (by omega), ix_nI (by omega)]
  refine ⟨mOK_any (mOK_any h fun q hq => ⟨fun w => by omega, fun _ => Or.inr (vp_in_nI hy (by omega))⟩) fun q hq => ⟨fun w => by omega, fun _ => Or.inr (vp_in_nI hx (by omega))⟩, fun j hj => ?_⟩
  simp (disch := omega) only [cWn]
theorem mD1_ok {d : cSt} (h : mOK d) : ∀ n, mOK (mD1 d n) ∧ ∀ j, j ≠ 1 → mD1 d n j = d j
  | 0 => ⟨h, fun _ _ => rfl⟩
  | n + 1 => by
    obtain ⟨i1, i2⟩ := mD1_ok h n
    unfold mD1
    exact ⟨mOK_ne i1 fun q hq => ⟨by omega, by omega⟩, fun j hj => by rw [cWn hj, i2 j hj]⟩
theorem mDwI_in {d : cSt} {k : Nat} : 174 ≤ mDwI d k := by
  unfold mDwI
  split
  · split
    · omega
    · split <;> omega
  · omega
theorem mDw_ok {d : cSt} {k : Nat} (h : mOK d) : mOK (mDw d k) ∧ ∀ j, j ≠ 1 → mDw d k j = d j := by
  have hI := mDwI_in (d := d) (k := k)
  unfold mDw mDw3 mDw2 mDw1
  refine ⟨mOK_ne (mOK_ne (mOK_ne (mOK_ne h fun q hq => ⟨by omega, by omega⟩) fun q hq => ⟨by omega, by omega⟩) fun q hq => ⟨by omega, by omega⟩) fun q hq => ⟨by omega, by omega⟩, fun j hj => ?_⟩
  simp (disch := omega) only [cWn]
theorem mD2_ok {d : cSt} (h : mOK d) : ∀ n, mOK (mD2 d n) ∧ ∀ j, j ≠ 1 → mD2 d n j = d j
  | 0 => ⟨h, fun _ _ => rfl⟩
  | n + 1 => by
    obtain ⟨i1, i2⟩ := mD2_ok h n
    unfold mD2
    split
    · obtain ⟨g1, g2⟩ := mDw_ok (k := n) i1
      exact ⟨g1, fun j hj => by rw [g2 j hj, i2 j hj]⟩
    · exact ⟨i1, i2⟩
theorem mDawn_ok {d : cSt} (h : mOK d) : mOK (mDawn d) ∧ ∀ j, j ≠ 1 → mDawn d j = d j := by
  obtain ⟨a1, a2⟩ := mD1_ok h 4
  obtain ⟨b1, b2⟩ := mD2_ok a1 16
  unfold mDawn mDawnL
  refine ⟨mOK_ne (mOK_ne b1 fun q hq => ⟨by omega, by omega⟩) fun q hq => ⟨by omega, by omega⟩, fun j hj => ?_⟩
  rw [cWn hj, cWn hj, b2 j hj, a2 j hj]
theorem mHo_ok {d : cSt} {h : Nat} {v : Int32} (hd : mOK d) (hh : h < 24) : mOK (cW d 1 (144 + h) v) ∧ ∀ j, j ≠ 1 → cW d 1 (144 + h) v j = d j := ⟨mOK_ne hd fun q hq => ⟨by omega, by omega⟩, fun j hj => cWn hj⟩
/-! a part happens -/
def Play (B : Nat) (c0 c9 d : cSt) : Prop :=
  (tPP c0 c9).1 = mWhyP d ∧ (mWhyP d = 0 → SR (B + 24) (tPP c0 c9).2 ((mDoP d).2 1) ∧ mOK (mDoP d).2 ∧ (∀ j, j ≠ 1 → (mDoP d).2 j = d j) ∧ pGo d) ∧ (¬ mWhyP d = 0 → (tPP c0 c9).2 = c0) ∧
  ((c9 3 1 = 98 → vp_in (c9 3 2) 24) ∧ (c9 3 1 = 120 → vp_in (c9 3 2) 24)) ∧ ((d 0 9 = 98 → vp_in (d 0 10) 24) ∧ (d 0 9 = 120 → vp_in (d 0 11) 24))
theorem play_sim {B : Nat} {c0 c9 d : cSt} (hS : SR B c0 (d 1)) (hB : B < 2 ^ 30) (hO : mOK d) (hK : c9 3 1 = d 0 9) (hV : PV c9 d) : Play B c0 c9 d := by
  have hR := hS.rel
  have hI := hS.inv
  obtain ⟨mo, hmo, h141⟩ := hI.mst
  have h171 : d 1 171 = nI mo := (hR.set 1 (by omega)).trans h141
  unfold Play
  rcases hV with ⟨e, a, b, ha, hb, e1, e2, e3, e4⟩ | ⟨e, a, b, ha, hb1, hb, e1, e2, e3, e4⟩ | ⟨e, a, b, ha, hb, e1, e2, e3, e4⟩ | ⟨e, a, ha, e1, e2⟩ | ⟨e, a, ha, e1, e2⟩ | e
  · have eT : tPP c0 c9 = tPH c0 (nI a) (nI b) := by unfold tPP; rw [hK, e, e1, e3, if_neg (by decide), if_pos rfl]
    have eW : mWhyP d = if mDove d (nI a) = true then mWhyH d (nI a) (nI b) else 10 := by unfold mWhyP; rw [e, e2, e4, if_neg (by decide), if_pos rfl]
    have eD : (mDoP d).2 = (mHome d (nI a) (nI b)).1 := by unfold mDoP; rw [e, e2, e4, if_neg (by decide), if_pos rfl]
    rw [eT, eW, eD]
    unfold tPH
    rw [← hR.exs a ha]
    by_cases he : cEx c0 (nI a) = true
    · have he' := cEx_at ha he
      rw [if_pos he, if_pos he, hR.whyHome ha he']
      by_cases h0 : mWhyH d (nI a) (nI b) = 0
      · rw [if_pos h0]
        have hp : c0 4 a = -1 := by
          have := whyHome_0 ((hR.whyHome ha he').trans h0)
          rw [ix_nI (by omega)] at this; exact this
        refine ⟨rfl, fun _ => ⟨(come_SR hS hB ha he' hp).1, (mHome_keep hO).1, fun j hj => mHome_row hj, ⟨mo, 0, hO, h171, hmo, fun w => absurd (e.symm.trans w) (by decide), fun _ => by rw [e2]; exact vp_in_nI ha (by omega), fun w => absurd (e.symm.trans w) (by decide), fun w => absurd (e.symm.trans w) (by decide), fun w => absurd (e.symm.trans w) (by decide)⟩⟩, fun w => absurd h0 w, ⟨⟨fun w => absurd ((hK.trans e).symm.trans w) (by decide), fun w => absurd ((hK.trans e).symm.trans w) (by decide)⟩, ⟨fun w => absurd (e.symm.trans w) (by decide), fun w => absurd (e.symm.trans w) (by decide)⟩⟩⟩
      · rw [if_neg h0]
        exact ⟨rfl, fun w => absurd w h0, fun _ => rfl, ⟨⟨fun w => absurd ((hK.trans e).symm.trans w) (by decide), fun w => absurd ((hK.trans e).symm.trans w) (by decide)⟩, ⟨fun w => absurd (e.symm.trans w) (by decide), fun w => absurd (e.symm.trans w) (by decide)⟩⟩⟩
    · rw [if_neg he, if_neg he]
      exact ⟨rfl, fun w => absurd w (by decide), fun _ => rfl, ⟨⟨fun w => absurd ((hK.trans e).symm.trans w) (by decide), fun w => absurd ((hK.trans e).symm.trans w) (by decide)⟩, ⟨fun w => absurd (e.symm.trans w) (by decide), fun w => absurd (e.symm.trans w) (by decide)⟩⟩⟩
  · have eT : tPP c0 c9 = tPB c0 (nI a) (nI b) := by unfold tPP; rw [hK, e, e1, e3, if_pos rfl]
    have eW : mWhyP d = mWhyD d (nI a) := by unfold mWhyP; rw [e, e2, if_pos rfl]
    have eD : (mDoP d).2 = (mBuy d (nI a) (nI b)).2 := by unfold mDoP; rw [e, e2, e4, if_pos rfl]
    rw [eT, eW, eD]
    unfold tPB
    rw [whyBuy_sim hR hI ha]
    by_cases h0 : mWhyD d (nI a) = 0
    · rw [if_pos h0]
      obtain ⟨g1, g2, kf, g3⟩ := buy_SR (y := nI b) hS ha ((whyBuy_sim hR hI ha).trans h0)
      obtain ⟨k1, k2⟩ := mBuy_ok (x := nI a) (y := nI b) hO (vp_in_nI ha (by omega))
      refine ⟨rfl, fun _ => ⟨g1.mono (by omega), k1, k2, ⟨mo, kf, hO, h171, hmo, fun _ => g3, fun w => absurd (e.symm.trans w) (by decide), fun w => absurd (e.symm.trans w) (by decide), fun w => absurd (e.symm.trans w) (by decide), fun w => absurd (e.symm.trans w) (by decide)⟩⟩, fun w => absurd h0 w, ⟨⟨fun _ => by rw [e1]; exact vp_in_nI ha (by omega), fun w => absurd ((hK.trans e).symm.trans w) (by decide)⟩, ⟨fun _ => by rw [e2]; exact vp_in_nI ha (by omega), fun w => absurd (e.symm.trans w) (by decide)⟩⟩⟩
    · rw [if_neg h0]
      exact ⟨rfl, fun w => absurd w h0, fun _ => rfl, ⟨⟨fun _ => by rw [e1]; exact vp_in_nI ha (by omega), fun w => absurd ((hK.trans e).symm.trans w) (by decide)⟩, ⟨fun _ => by rw [e2]; exact vp_in_nI ha (by omega), fun w => absurd (e.symm.trans w) (by decide)⟩⟩⟩
  · have eT : tPP c0 c9 = tPM c0 (nI a) (nI b) := by unfold tPP; rw [hK, e, e1, e3, if_neg (by decide), if_neg (by decide), if_pos rfl]
    have eW : mWhyP d = if mDove d (nI a) = true then (if mDove d (nI b) = true then mWhyM d (nI a) (nI b) else 10) else 10 := by unfold mWhyP; rw [e, e2, e4, if_neg (by decide), if_neg (by decide), if_pos rfl]
    have eD : (mDoP d).2 = mMate d (nI a) (nI b) := by unfold mDoP; rw [e, e2, e4, if_neg (by decide), if_neg (by decide), if_pos rfl]
    rw [eT, eW, eD]
    unfold tPM
    rw [← hR.exs a ha, ← hR.exs b hb]
    by_cases he : cEx c0 (nI a) = true
    · have he' := cEx_at ha he
      rw [if_pos he, if_pos he]
      by_cases hf : cEx c0 (nI b) = true
      · have hf' := cEx_at hb hf
        rw [if_pos hf, if_pos hf, whyPair_sim hR hI ha hb he' hf']
        by_cases h0 : mWhyM d (nI a) (nI b) = 0
        · rw [if_pos h0]
          obtain ⟨w1, w2, w3⟩ := whyPair_0 ha hb ((whyPair_sim hR hI ha hb he' hf').trans h0)
          obtain ⟨k1, k2⟩ := mMate_ok hO ha hb
          refine ⟨rfl, fun _ => ⟨(pair_SR hS ha hb w1 he' hf' w2 w3).mono (by omega), k1, k2, ⟨mo, 0, hO, h171, hmo, fun w => absurd (e.symm.trans w) (by decide), fun w => absurd (e.symm.trans w) (by decide), fun _ => by rw [e2, e4]; exact ⟨vp_in_nI ha (by omega), vp_in_nI hb (by omega)⟩, fun w => absurd (e.symm.trans w) (by decide), fun w => absurd (e.symm.trans w) (by decide)⟩⟩, fun w => absurd h0 w, ⟨⟨fun w => absurd ((hK.trans e).symm.trans w) (by decide), fun w => absurd ((hK.trans e).symm.trans w) (by decide)⟩, ⟨fun w => absurd (e.symm.trans w) (by decide), fun w => absurd (e.symm.trans w) (by decide)⟩⟩⟩
        · rw [if_neg h0]
          exact ⟨rfl, fun w => absurd w h0, fun _ => rfl, ⟨⟨fun w => absurd ((hK.trans e).symm.trans w) (by decide), fun w => absurd ((hK.trans e).symm.trans w) (by decide)⟩, ⟨fun w => absurd (e.symm.trans w) (by decide), fun w => absurd (e.symm.trans w) (by decide)⟩⟩⟩
      · rw [if_neg hf, if_neg hf]
        exact ⟨rfl, fun w => absurd w (by decide), fun _ => rfl, ⟨⟨fun w => absurd ((hK.trans e).symm.trans w) (by decide), fun w => absurd ((hK.trans e).symm.trans w) (by decide)⟩, ⟨fun w => absurd (e.symm.trans w) (by decide), fun w => absurd (e.symm.trans w) (by decide)⟩⟩⟩
    · rw [if_neg he, if_neg he]
      exact ⟨rfl, fun w => absurd w (by decide), fun _ => rfl, ⟨⟨fun w => absurd ((hK.trans e).symm.trans w) (by decide), fun w => absurd ((hK.trans e).symm.trans w) (by decide)⟩, ⟨fun w => absurd (e.symm.trans w) (by decide), fun w => absurd (e.symm.trans w) (by decide)⟩⟩⟩
  · have eT : tPP c0 c9 = tPS c0 (nI a) := by unfold tPP; rw [hK, e, e1, if_neg (by decide), if_neg (by decide), if_neg (by decide), if_neg (by decide), if_pos rfl]
    have eW : mWhyP d = mWhyS d (nI a) := by unfold mWhyP; rw [e, e2, if_neg (by decide), if_neg (by decide), if_neg (by decide), if_pos rfl]
    have eD : (mDoP d).2 = cW d 1 (144 + a) 1 := by unfold mDoP; rw [e, e2, if_neg (by decide), if_neg (by decide), if_neg (by decide), if_neg (by decide), if_pos rfl, ix_nI (by omega)]
    rw [eT, eW, eD]
    unfold tPS
    rw [whyShut_sim hR hI ha, ix_nI (by omega)]
    by_cases h0 : mWhyS d (nI a) = 0
    · rw [if_pos h0]
      obtain ⟨k1, k2⟩ := mHo_ok (v := 1) hO ha
      refine ⟨rfl, fun _ => ⟨(open_SR (b := false) hS ha).mono (by omega), k1, k2, ⟨mo, 0, hO, h171, hmo, fun w => absurd (e.symm.trans w) (by decide), fun w => absurd (e.symm.trans w) (by decide), fun w => absurd (e.symm.trans w) (by decide), fun w => absurd (e.symm.trans w) (by decide), fun _ => by rw [e2]; exact vp_in_nI ha (by omega)⟩⟩, fun w => absurd h0 w, ⟨⟨fun w => absurd ((hK.trans e).symm.trans w) (by decide), fun _ => by rw [e1]; exact vp_in_nI ha (by omega)⟩, ⟨fun w => absurd (e.symm.trans w) (by decide), fun _ => by rw [e2]; exact vp_in_nI ha (by omega)⟩⟩⟩
    · rw [if_neg h0]
      exact ⟨rfl, fun w => absurd w h0, fun _ => rfl, ⟨⟨fun w => absurd ((hK.trans e).symm.trans w) (by decide), fun _ => by rw [e1]; exact vp_in_nI ha (by omega)⟩, ⟨fun w => absurd (e.symm.trans w) (by decide), fun _ => by rw [e2]; exact vp_in_nI ha (by omega)⟩⟩⟩
  · have eT : tPP c0 c9 = (0, cW c0 13 a 1) := by unfold tPP; rw [hK, e, e1, if_neg (by decide), if_neg (by decide), if_neg (by decide), if_pos rfl, if_pos ((hHole_nI (by omega)).mpr ha), ix_nI (by omega)]
    have eW : mWhyP d = 0 := by unfold mWhyP; rw [e, if_neg (by decide), if_neg (by decide), if_neg (by decide), if_neg (by decide)]
    have eD : (mDoP d).2 = cW d 1 (144 + a) 0 := by unfold mDoP; rw [e, e2, if_neg (by decide), if_neg (by decide), if_neg (by decide), if_pos rfl, ix_nI (by omega)]
    rw [eT, eW, eD]
    obtain ⟨k1, k2⟩ := mHo_ok (v := 0) hO ha
    refine ⟨rfl, fun _ => ⟨(open_SR (b := true) hS ha).mono (by omega), k1, k2, ⟨mo, 0, hO, h171, hmo, fun w => absurd (e.symm.trans w) (by decide), fun w => absurd (e.symm.trans w) (by decide), fun w => absurd (e.symm.trans w) (by decide), fun _ => by rw [e2]; exact vp_in_nI ha (by omega), fun w => absurd (e.symm.trans w) (by decide)⟩⟩, fun w => absurd rfl w, ⟨⟨fun w => absurd ((hK.trans e).symm.trans w) (by decide), fun w => absurd ((hK.trans e).symm.trans w) (by decide)⟩, ⟨fun w => absurd (e.symm.trans w) (by decide), fun w => absurd (e.symm.trans w) (by decide)⟩⟩⟩
  · have eT : tPP c0 c9 = (0, cNight c0) := by unfold tPP; rw [hK, e, if_neg (by decide), if_neg (by decide), if_neg (by decide), if_neg (by decide), if_neg (by decide)]
    have eW : mWhyP d = 0 := by unfold mWhyP; rw [e, if_neg (by decide), if_neg (by decide), if_neg (by decide), if_neg (by decide)]
    have eD : (mDoP d).2 = mDawn d := by unfold mDoP; rw [e, if_neg (by decide), if_neg (by decide), if_neg (by decide), if_neg (by decide), if_neg (by decide)]
    rw [eT, eW, eD]
    obtain ⟨k1, k2⟩ := mDawn_ok hO
    refine ⟨rfl, fun _ => ⟨(night_sim hS).1.mono (by omega), k1, k2, ⟨mo, 0, hO, h171, hmo, fun w => absurd (e.symm.trans w) (by decide), fun w => absurd (e.symm.trans w) (by decide), fun w => absurd (e.symm.trans w) (by decide), fun w => absurd (e.symm.trans w) (by decide), fun w => absurd (e.symm.trans w) (by decide)⟩⟩, fun w => absurd rfl w, ⟨⟨fun w => absurd ((hK.trans e).symm.trans w) (by decide), fun w => absurd ((hK.trans e).symm.trans w) (by decide)⟩, ⟨fun w => absurd (e.symm.trans w) (by decide), fun w => absurd (e.symm.trans w) (by decide)⟩⟩⟩
