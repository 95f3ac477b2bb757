/-! the whole of both, side by side -/
def ZK (z : Nat → Int32) : Prop := ∀ k, k < 16 → vp_in (z (9 * k + 1)) 24 ∧ (z (9 * k + 4) < 0 ∨ vp_in (z (9 * k + 4)) 16)
def SZ (B : Nat) (c : cSt) (z : Nat → Int32) : Prop := SR B c z ∧ ZK z
theorem SZ.mono {B B' : Nat} {c : cSt} {z : Nat → Int32} (h : SZ B c z) (hb : B ≤ B') : SZ B' c z := ⟨h.1.mono hb, h.2⟩
theorem SZ.congr {B : Nat} {c : cSt} {z z' : Nat → Int32} (h : SZ B c z) (hz : ∀ q, q < 232 → z' q = z q) : SZ B c z' := by
  obtain ⟨⟨h1, h2, h3⟩, h4⟩ := h
  refine ⟨⟨h1.congr hz, h2, h3⟩, fun k hk => ?_⟩
  rw [hz _ (by omega), hz _ (by omega)]
  exact h4 k hk
def Pi6 (π : Nat → Nat) : Prop := (∀ k, k < 6 → 3 ≤ π k ∧ π k < 9) ∧ ∀ j k, j < 6 → k < 6 → π j = π k → j = k
def Sav (B : Nat) (S : gSt) (π : Nat → Nat) (sv : Nat) (d : cSt) : Prop := sv ≤ 6 ∧ d 0 4 = nI sv ∧ ∀ k, k < sv → SZ B (S (π k)) (fun q => d 3 (232 * k + q))
def Kept (B : Nat) (c9 c2 d : cSt) : Prop := (c9 0 3 = 0 ∧ d 0 6 = 0) ∨ (¬ c9 0 3 = 0 ∧ ¬ d 0 6 = 0 ∧ SZ B c2 (d 4))
def Big (B : Nat) (σ : gSt) (π : Nat → Nat) : Prop := ∃ sv L, SZ B (σ 0) (σ 10 1) ∧ Pi6 π ∧ σ 9 0 5 = nI sv ∧ Sav B σ π sv (σ 10) ∧ Kept B (σ 9) (σ 2) (σ 10) ∧ σ 9 0 7 = nI L ∧ TX (σ 9 2) (σ 10) L
theorem Sav.mono {B B' : Nat} {S : gSt} {π : Nat → Nat} {sv : Nat} {d : cSt} (h : Sav B S π sv d) (hb : B ≤ B') : Sav B' S π sv d := ⟨h.1, h.2.1, fun k hk => (h.2.2 k hk).mono hb⟩
theorem Kept.mono {B B' : Nat} {c9 c2 d : cSt} (h : Kept B c9 c2 d) (hb : B ≤ B') : Kept B' c9 c2 d := by
  rcases h with h | ⟨h1, h2, h3⟩
  · exact Or.inl h
  · exact Or.inr ⟨h1, h2, h3.mono hb⟩
theorem gT_eta {σ : gSt} : gT σ (σ 0) (σ 1) (σ 2) (σ 9) = σ := by
  funext i
  unfold gT gU
  split
  · rename_i h; rw [h]
  · split
    · rename_i h; rw [h]
    · split
      · rename_i h; rw [h]
      · split
        · rename_i h; rw [h]
        · rfl
theorem gT_10 {σ : gSt} {c0 c1 c2 c9 : cSt} : gT σ c0 c1 c2 c9 10 = σ 10 := rfl
theorem svS_10 {σ : gSt} {π : Nat → Nat} {sv : Nat} {c0 : cSt} (hP : Pi6 π) (hs : sv ≤ 6) : svS σ π sv c0 10 = σ 10 := by
  unfold svS gU
  have : π (if sv < 6 then sv else 0) < 9 := by
    split
    · exact (hP.1 sv (by omega)).2
    · exact (hP.1 0 (by omega)).2
  rw [if_neg (by omega)]
theorem Sav.ext {B : Nat} {S S' : gSt} {π : Nat → Nat} {sv : Nat} {d d' : cSt} (h : Sav B S π sv d) (hS : ∀ k, k < sv → S' (π k) = S (π k)) (h4 : d' 0 4 = d 0 4) (h3 : d' 3 = d 3) : Sav B S' π sv d' := by
  obtain ⟨h1, h2, h5⟩ := h
  refine ⟨h1, by rw [h4]; exact h2, fun k hk => ?_⟩
  rw [hS k hk, h3]
  exact h5 k hk
theorem Big.mk {B : Nat} {S : gSt} {π : Nat → Nat} {c0 c1 c2 c9 d : cSt} {sv L : Nat} (h1 : SZ B c0 (d 1)) (hP : Pi6 π) (hs : c9 0 5 = nI sv) (hv : Sav B S π sv d) (hk : Kept B c9 c2 d) (hL : c9 0 7 = nI L) (hT : TX (c9 2) d L) : Big B (gU (gT S c0 c1 c2 c9) 10 d) π :=
  ⟨sv, L, h1, hP, hs, hv.ext (fun k hk => by
    obtain ⟨a, b⟩ := hP.1 k (by have := hv.1; omega)
    rw [gU_ne (by omega), gT_s a b]) rfl rfl, hk, hL, hT⟩
theorem Kept.ext {B : Nat} {c9 c9' c2 d d' : cSt} (h : Kept B c9 c2 d) (h9 : c9' 0 3 = c9 0 3) (h6 : d' 0 6 = d 0 6) (h4 : d' 4 = d 4) : Kept B c9' c2 d' := by
  unfold Kept
  rw [h9, h6, h4]; exact h
theorem TX.ext {t t' : Nat → Int32} {d d' : cSt} {L : Nat} (h : TX t d L) (ht : t' = t) (h8 : d' 0 8 = d 0 8) (h5 : d' 5 = d 5) : TX t' d' L := by
  rw [ht]; exact h.of h8 h5
/-- the reference's numbers apart from its row: as before -/
theorem Big.same {B : Nat} {σ : gSt} {π : Nat → Nat} {d' : cSt} (h : Big B σ π) (h1 : d' 1 = σ 10 1) (h3 : d' 3 = σ 10 3) (h4 : d' 4 = σ 10 4) (h5 : d' 5 = σ 10 5) (h04 : d' 0 4 = σ 10 0 4) (h06 : d' 0 6 = σ 10 0 6) (h08 : d' 0 8 = σ 10 0 8) {c1 c9' : cSt} (r2 : c9' 2 = σ 9 2) (r05 : c9' 0 5 = σ 9 0 5) (r03 : c9' 0 3 = σ 9 0 3) (r07 : c9' 0 7 = σ 9 0 7) : Big B (gU (gT σ (σ 0) c1 (σ 2) c9') 10 d') π := by
  obtain ⟨sv, L, g1, g2, g3, g4, g5, g6, g7⟩ := h
  exact Big.mk (by rw [h1]; exact g1) g2 (r05.trans g3) (g4.ext (fun _ _ => rfl) h04 h3) (g5.ext r03 h06 h4) (r07.trans g6) (g7.ext r2 h08 h5)
/-! a state is saved -/
theorem mR_j {d : cSt} {sv j : Nat} (h0 : j ≠ 0) (h3 : j ≠ 3) : mR d sv j = d j := by
  unfold mR mRec mRec5
  split
  · rw [cWn h0, mCpy_row h3, cWn h0, mCpy_row h3, cWn h0]
  · rw [cWn h0, mCpy_row h3, cWn h0]
theorem mR_0 {d : cSt} {sv i : Nat} (h0 : i ≠ 0) (h4 : i ≠ 4) : mR d sv 0 i = d 0 i := by
  unfold mR mRec mRec5
  split
  · rw [cWr, zU_ne h4, mCpy_row (by omega), cWr, zU_ne h4, mCpy_row (by omega), cWr, zU_ne h0]
  · rw [cWr, zU_ne h4, mCpy_row (by omega), cWr, zU_ne h0]
theorem mR_00 {d : cSt} {sv : Nat} : mR d sv 0 0 = 0 := by
  unfold mR mRec mRec5
  split
  · rw [cWr, zU_ne (by omega), mCpy_row (by omega), cWr, zU_ne (by omega), mCpy_row (by omega), cWr, zU_at]
  · rw [cWr, zU_ne (by omega), mCpy_row (by omega), cWr, zU_at]
def sv1 (sv : Nat) : Nat := if sv < 6 then sv + 1 else 6
theorem mR_04 {d : cSt} {sv : Nat} (hs : sv ≤ 6) : mR d sv 0 4 = nI (sv1 sv) := by
  unfold mR mRec mRec5 sv1
  by_cases h : sv = 6
  · rw [if_pos h, if_neg (by omega), cWr, zU_at]
  · rw [if_neg h, if_pos (by omega), cWr, zU_at]
theorem sv9_5 {c9 : cSt} {sv : Nat} : sv9 c9 sv 0 5 = nI (sv1 sv) := by
  unfold sv9 sv1
  by_cases h : sv < 6
  · rw [if_pos h, if_pos h, cWr, zU_at]
  · rw [if_neg h, if_neg h, cWr, zU_at]; rfl
theorem sv9_j {c9 : cSt} {sv j : Nat} (h0 : j ≠ 0) : sv9 c9 sv j = c9 j := by
  unfold sv9
  split
  · rw [cWn h0]
  · rw [cWn h0, cWn h0]
theorem sv9_0 {c9 : cSt} {sv i : Nat} (h5 : i ≠ 5) : sv9 c9 sv 0 i = c9 0 i := by
  unfold sv9
  split
  · rw [cWr, zU_ne h5]
  · rw [cWr, zU_ne h5, cWr, zU_ne h5]
theorem rot_lt {π : Nat → Nat} {k : Nat} (h : k < 5) : rot π k = π (k + 1) := by
  unfold rot upN shP
  rw [if_neg (by omega), if_pos (by omega)]
theorem rot_5 {π : Nat → Nat} : rot π 5 = π 0 := by
  unfold rot upN
  rw [if_pos rfl]
theorem Pi6.rt {π : Nat → Nat} (h : Pi6 π) : Pi6 (rot π) := by
  refine ⟨fun k hk => ?_, fun j k hj hk e => ?_⟩
  · by_cases h5 : k = 5
    · rw [h5, rot_5]; exact h.1 0 (by omega)
    · rw [rot_lt (by omega)]; exact h.1 (k + 1) (by omega)
  · by_cases j5 : j = 5
    · by_cases k5 : k = 5
      · omega
      · rw [j5, rot_5, rot_lt (by omega)] at e
        have := h.2 0 (k + 1) (by omega) (by omega) e
        omega
    · by_cases k5 : k = 5
      · rw [k5, rot_5, rot_lt (by omega)] at e
        have := h.2 (j + 1) 0 (by omega) (by omega) e
        omega
      · rw [rot_lt (by omega), rot_lt (by omega)] at e
        have := h.2 (j + 1) (k + 1) (by omega) (by omega) e
        omega
theorem Sav.save {B : Nat} {S : gSt} {π : Nat → Nat} {sv : Nat} {c0 d : cSt} (h : Sav B S π sv d) (hP : Pi6 π) (h0 : SZ B c0 (d 1)) : Pi6 (svP π sv) ∧ Sav B (svS S π sv c0) (svP π sv) (sv1 sv) (mR d sv) := by
  obtain ⟨hs, h4, hk⟩ := h
  refine ⟨?_, by unfold sv1; split <;> omega, mR_04 hs, fun k hkl => ?_⟩
  · unfold svP
    split
    · exact hP
    · exact hP.rt
  · unfold svS svP
    by_cases h6 : sv < 6
    · rw [if_pos h6, if_pos h6]
      have hk1 : k < sv + 1 := by unfold sv1 at hkl; rw [if_pos h6] at hkl; exact hkl
      have e3 : ∀ q, q < 232 → mR d sv 3 (232 * k + q) = if k = sv then d 1 q else d 3 (232 * k + q) := fun q hq => by
        unfold mR mRec mRec5
        rw [if_neg (by omega), cWn (by omega)]
        show (if 3 = 3 then (if 232 * sv ≤ 232 * k + q ∧ 232 * k + q < 232 * sv + 232 then cW d 0 0 0 1 (0 + (232 * k + q - 232 * sv)) else cW d 0 0 0 3 (232 * k + q)) else _) = _
        rw [if_pos rfl]
        by_cases hc : k = sv
        · rw [if_pos hc, if_pos (by omega), cWn (by omega), show 0 + (232 * k + q - 232 * sv) = q by omega]
        · rw [if_neg hc, if_neg (by omega), cWn (by omega)]
      by_cases hc : k = sv
      · subst hc
        rw [gU_at]
        exact h0.congr fun q hq => by rw [e3 q hq, if_pos rfl]
      · have hne : π k ≠ π sv := fun w => hc (hP.2 k sv (by omega) (by omega) w)
        rw [gU_ne hne]
        exact (hk k (by omega)).congr fun q hq => by rw [e3 q hq, if_neg hc]
    · have h6' : sv = 6 := by omega
      subst h6'
      rw [if_neg h6, if_neg h6]
      have hk1 : k < 6 := by unfold sv1 at hkl; rw [if_neg h6] at hkl; exact hkl
      have e3 : ∀ q, q < 232 → mR d 6 3 (232 * k + q) = if k = 5 then d 1 q else d 3 (232 * (k + 1) + q) := fun q hq => by
        unfold mR mRec mRec5
        rw [if_pos rfl, cWn (by omega)]
        show (if 3 = 3 then (if 232 * 5 ≤ 232 * k + q ∧ 232 * k + q < 232 * 5 + 232 then cW (mCpy (cW d 0 0 0) 3 0 3 232 1160) 0 4 5 1 (0 + (232 * k + q - 232 * 5)) else cW (mCpy (cW d 0 0 0) 3 0 3 232 1160) 0 4 5 3 (232 * k + q)) else _) = _
        rw [if_pos rfl]
        by_cases hc : k = 5
        · rw [if_pos hc, if_pos (by omega), cWn (by omega), mCpy_ne (by omega), cWn (by omega), show 0 + (232 * k + q - 232 * 5) = q by omega]
        · rw [if_neg hc, if_neg (by omega), cWn (by omega)]
          show (if 3 = 3 then (if 0 ≤ 232 * k + q ∧ 232 * k + q < 0 + 1160 then cW d 0 0 0 3 (232 + (232 * k + q - 0)) else cW d 0 0 0 3 (232 * k + q)) else _) = _
          rw [if_pos rfl, if_pos (by omega), cWn (by omega), show 232 + (232 * k + q - 0) = 232 * (k + 1) + q by omega]
      by_cases hc : k = 5
      · subst hc
        rw [rot_5, gU_at]
        exact h0.congr fun q hq => by rw [e3 q hq, if_pos rfl]
      · rw [rot_lt (by omega)]
        have hne : π (k + 1) ≠ π 0 := fun w => by have := hP.2 (k + 1) 0 (by omega) (by omega) w; omega
        rw [gU_ne hne]
        exact (hk (k + 1) (by omega)).congr fun q hq => by rw [e3 q hq, if_neg hc]
/-- behind a call that saves -/
theorem Big.saved {B B' : Nat} {σ : gSt} {π : Nat → Nat} {c0' c1 c9' d' : cSt} {sv : Nat} (h : Big B σ π) (hs : σ 9 0 5 = nI sv) (hs6 : sv ≤ 6) (hB : B ≤ B') (h1 : SZ B' c0' (d' 1)) (hd : ∀ j, j ≠ 0 → j ≠ 1 → d' j = mR (σ 10) sv j) (h04 : d' 0 4 = mR (σ 10) sv 0 4) (h06 : d' 0 6 = σ 10 0 6) (r03 : c9' 0 3 = σ 9 0 3) (r05 : c9' 0 5 = sv9 (σ 9) sv 0 5) (r2 : c9' 2 = σ 9 2)
    (hTL : (c9' 0 7 = σ 9 0 7 ∧ d' 0 8 = σ 10 0 8) ∨ (c9' 0 7 = 0 ∧ d' 0 8 = 0)) : Big B' (gU (gT (svS σ π sv (σ 0)) c0' c1 (σ 2) c9') 10 d') (svP π sv) := by
  obtain ⟨sv', L, g1, g2, g3, g4, g5, g6, g7⟩ := h
  have e : sv' = sv := nI_inj (by have := g4.1; omega) (by omega) (g3.symm.trans hs)
  subst e
  obtain ⟨hP', hv'⟩ := g4.save g2 g1
  have hv2 : Sav B' (svS σ π sv' (σ 0)) (svP π sv') (sv1 sv') d' := (hv'.ext (fun _ _ => rfl) h04 (hd 3 (by omega) (by omega))).mono hB
  have hk2 : Kept B' c9' (σ 2) d' := (g5.ext r03 h06 (by rw [hd 4 (by omega) (by omega), mR_j (by omega) (by omega)])).mono hB
  have h5 : d' 5 = σ 10 5 := by rw [hd 5 (by omega) (by omega), mR_j (by omega) (by omega)]
  rcases hTL with ⟨t1, t2⟩ | ⟨t1, t2⟩
  · exact Big.mk h1 hP' (r05.trans sv9_5) hv2 hk2 (t1.trans g6) (g7.ext r2 t2 h5)
  · exact Big.mk h1 hP' (r05.trans sv9_5) hv2 hk2 (L := 0) t1 ⟨t2, by omega, fun k hk => absurd hk (by omega)⟩
