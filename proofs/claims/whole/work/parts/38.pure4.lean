/-! coming home, step by step -/
def sit0 (c : cSt) (k : Nat) (y : Int32) : cSt := if hHole y = true then cW (cW c 4 k y) 11 (ix y) (nI k) else cW c 4 k y
theorem sit0_17 {c : cSt} {k : Nat} {y : Int32} : sit0 c k y 17 = c 17 := by
  unfold sit0; split <;> simp (disch := omega) only [cWn]
theorem cSit_eq {c : cSt} {k s : Nat} {y : Int32} (hk : k < 16) (hs : c 17 2 = nI s) (h24 : s ≤ 24) : cSit c (nI k) y = cW (cW (cW (sit0 c k y) 18 s (nI k)) 19 s y) 17 2 (nI (s + 1)) := by
  have e : cSit c (nI k) y = cNote (sit0 c k y) (nI k) y := by
    unfold cSit sit0
    rw [ix_nI (by omega)]
  rw [e]
  unfold cNote
  rw [sit0_17, hs, if_neg (show ¬ (24 : Int32) < nI s from nI_nlt (a := 24) (b := s) h24 (by omega)), ix_nI (by omega), nI_1]
theorem mSitS_eq {d : cSt} {k s : Nat} {y : Int32} (hk : k < 16) (hs : d 1 180 = nI s) (h24 : s ≤ 24) : mSitS d (nI k) y 1 = zU (zU (zU (zU (d 1) (9 * k + 3) y) (181 + 2 * s) (nI k)) (181 + 2 * s + 1) y) 180 (nI (s + 1)) := by
  unfold mSitS mSt
  rw [hs, ix_nI (by omega), ix_nI (by omega)]
  simp only [cWr]
theorem Rel.sitz {c : cSt} {z : Nat → Int32} (h : Rel c z) {k : Nat} {y : Int32} (hk : k < 16) : Rel (sit0 c k y) (zU z (9 * k + 3) y) := by
  have h1 : Rel (cW c 4 k y) (zU z (9 * k + 3) y) := h.uRow (y := 2) hk (by omega) (by omega)
  unfold sit0
  split
  · exact h1.uRest (by omega) (by omega)
  · exact h1
theorem Rel.sit {c d : cSt} (h : Rel c (d 1)) {k s : Nat} {y : Int32} (hk : k < 16) (hs : c 17 2 = nI s) (h24 : s ≤ 24) : Rel (cSit c (nI k) y) (mSitS d (nI k) y 1) := by
  rw [cSit_eq hk hs h24, mSitS_eq hk (h.siz.trans hs) h24]
  exact (h.sitz hk).uNote (by rw [sit0_17]; exact hs) h24
theorem cSit_keep {c : cSt} {k s : Nat} {y : Int32} (hk : k < 16) (hs : c 17 2 = nI s) (h24 : s ≤ 24) : cSit c (nI k) y 17 2 = nI (s + 1) ∧ cSit c (nI k) y 0 = c 0 ∧ cSit c (nI k) y 2 = c 2 ∧ cSit c (nI k) y 4 = zU (c 4) k y := by
  rw [cSit_eq hk hs h24]
  refine ⟨?_, ?_, ?_, ?_⟩
  · rw [cWr, zU_at]
  · simp (disch := omega) only [cWn]; unfold sit0; split <;> simp (disch := omega) only [cWn]
  · simp (disch := omega) only [cWn]; unfold sit0; split <;> simp (disch := omega) only [cWn]
  · simp (disch := omega) only [cWn]; unfold sit0; split <;> simp (disch := omega) only [cWn, cWr]
theorem Inv.note {e : Nat} {c : cSt} (h : Inv e c) {s : Nat} {x y v : Int32} : Inv e (cW (cW (cW c 18 s x) 19 s y) 17 2 v) := by
  refine h.congr ?_ ?_ ?_ ?_ ?_ ?_ (fun k _ => ?_) (fun k _ => ?_) (fun k _ => ?_) (fun k _ => ?_) <;> simp (disch := omega) only [cWn]
theorem Inv.hole {c : cSt} {k h : Nat} (hI : Inv h c) (hN : ∀ q, q < 16 → ¬ c 2 q = -1 → ¬ c 4 q = nI h) (hk : k < 16) (he : ¬ c 2 k = -1) (hp : c 4 k = -1) (hh : h < 24) : Inv 24 (cW (cW c 4 k (nI h)) 11 h (nI k)) := by
  unfold Inv
  simp (disch := omega) only [cWr, cWn]
  refine ⟨hI.own, fun q hq hx => ?_, hI.mat, fun q hq _ => ?_, fun q hq hx j hj hp2 => ?_, hI.wnr, hI.wnt, fun q hq hx => ?_, hI.mst⟩
  · by_cases hc : q = k
    · rw [hc, zU_at]; exact Or.inr ⟨h, by omega, rfl⟩
    · rw [zU_ne hc]; exact hI.plc q hq hx
  · by_cases hc : q = h
    · rw [hc, zU_at]; exact Or.inr ⟨k, hk, rfl, he, zU_at⟩
    · rw [zU_ne hc]
      rcases hI.sit q hq hc with e | ⟨m, hm, e, hx, hp'⟩
      · exact Or.inl e
      · refine Or.inr ⟨m, hm, e, hx, ?_⟩
        have : m ≠ k := fun q => by rw [q, hp] at hp'; exact nI_nm (by omega) hp'.symm
        rw [zU_ne this]; exact hp'
  · by_cases hc : q = k
    · rw [hc, zU_at] at hp2
      have := nI_inj (by omega) (by omega) hp2
      rw [hc, ← this, zU_at]
    · rw [zU_ne hc] at hp2
      have : j ≠ h := fun w => hN q hq hx (w ▸ hp2)
      rw [zU_ne this]
      exact hI.stt q hq hx j hj hp2
  · have : q ≠ k := fun w => he (w ▸ hx)
    rw [zU_ne this]
    exact hI.non q hq hx
theorem Inv.roof {c : cSt} {k : Nat} (hI : Inv 24 c) (hk : k < 16) (he : ¬ c 2 k = -1) (hp : c 4 k = -1) : Inv 24 (cW c 4 k 24) := by
  unfold Inv
  simp (disch := omega) only [cWr, cWn]
  refine ⟨hI.own, fun q hq hx => ?_, hI.mat, fun q hq hn => ?_, fun q hq hx j hj hp2 => ?_, hI.wnr, hI.wnt, fun q hq hx => ?_, hI.mst⟩
  · by_cases hc : q = k
    · rw [hc, zU_at]; exact Or.inr ⟨24, by omega, rfl⟩
    · rw [zU_ne hc]; exact hI.plc q hq hx
  · rcases hI.sit q hq hn with e | ⟨m, hm, e, hx, hp'⟩
    · exact Or.inl e
    · refine Or.inr ⟨m, hm, e, hx, ?_⟩
      have : m ≠ k := fun q => by rw [q, hp] at hp'; exact nI_nm (by omega) hp'.symm
      rw [zU_ne this]; exact hp'
  · by_cases hc : q = k
    · rw [hc, zU_at] at hp2
      have := nI_inj (a := 24) (by omega) (by omega) hp2
      omega
    · rw [zU_ne hc] at hp2
      exact hI.stt q hq hx j hj hp2
  · have : q ≠ k := fun w => he (w ▸ hx)
    rw [zU_ne this]
    exact hI.non q hq hx
/-- the one in a hole goes out of it -/
theorem Inv.out {c : cSt} {j h : Nat} {v : Int32} (hI : Inv 24 c) (hh : h < 24) (hj : j < 16) (hs : c 11 h = nI j) (hv : v = -1 ∨ v = nI 24) : (¬ c 2 j = -1 ∧ c 4 j = nI h) ∧ Inv h (cW c 4 j v) ∧ (∀ q, q < 16 → ¬ c 2 q = -1 → ¬ zU (c 4) j v q = nI h) := by
  have hvn : ∀ q, q < 24 → ¬ v = nI q := fun q hq w => by
    rcases hv with r | r
    · exact nI_nm (by omega) (w.symm.trans r)
    · have := nI_inj (by omega) (by omega) (w.symm.trans r); omega
  have hj2 : ¬ c 2 j = -1 ∧ c 4 j = nI h := by
    rcases hI.sit h hh (by omega) with e | ⟨m, hm, e, hx, hp'⟩
    · exact (nI_nm (a := j) (by omega) (hs.symm.trans e)).elim
    · have := nI_inj (by omega) (by omega) (hs.symm.trans e)
      rw [this]; exact ⟨hx, hp'⟩
  refine ⟨hj2, ?_, fun q hq hx w => ?_⟩
  · unfold Inv
    simp (disch := omega) only [cWr, cWn]
    refine ⟨hI.own, fun q hq hx => ?_, hI.mat, fun q hq hn => ?_, fun q hq hx j' hj' hp2 => ?_, hI.wnr, hI.wnt, fun q hq hx => ?_, hI.mst⟩
    · by_cases hc : q = j
      · rw [hc, zU_at]; rcases hv with r | r
        · exact Or.inl r
        · exact Or.inr ⟨24, by omega, r⟩
      · rw [zU_ne hc]; exact hI.plc q hq hx
    · rcases hI.sit q hq (by omega) with e | ⟨m, hm, e, hx, hp'⟩
      · exact Or.inl e
      · refine Or.inr ⟨m, hm, e, hx, ?_⟩
        have : m ≠ j := fun w => by rw [w, hj2.2] at hp'; exact hn (nI_inj (by omega) (by omega) hp').symm
        rw [zU_ne this]; exact hp'
    · by_cases hc : q = j
      · rw [hc, zU_at] at hp2
        exact (hvn j' hj' hp2).elim
      · rw [zU_ne hc] at hp2
        exact hI.stt q hq hx j' hj' hp2
    · have : q ≠ j := fun w => hj2.1 (w ▸ hx)
      rw [zU_ne this]
      exact hI.non q hq hx
  · by_cases hc : q = j
    · rw [hc, zU_at] at w; exact hvn h hh w
    · rw [zU_ne hc] at w
      have := hI.stt q hq hx h hh w
      exact hc (nI_inj (by omega) (by omega) (this.symm.trans hs))
theorem sit0_h {c : cSt} {k h : Nat} (hh : h < 24) : sit0 c k (nI h) = cW (cW c 4 k (nI h)) 11 h (nI k) := by
  unfold sit0
  rw [if_pos ((hHole_nI (by omega)).mpr hh), ix_nI (by omega)]
theorem sit0_24 {c : cSt} {k : Nat} : sit0 c k 24 = cW c 4 k 24 := by
  unfold sit0
  rw [if_neg (by decide)]
theorem Inv.sitH {c : cSt} {k h s : Nat} (hI : Inv h c) (hN : ∀ q, q < 16 → ¬ c 2 q = -1 → ¬ c 4 q = nI h) (hk : k < 16) (he : ¬ c 2 k = -1) (hp : c 4 k = -1) (hh : h < 24) (hs : c 17 2 = nI s) (h24 : s ≤ 24) : Inv 24 (cSit c (nI k) (nI h)) := by
  rw [cSit_eq hk hs h24, sit0_h hh]
  exact (hI.hole hN hk he hp hh).note
theorem Inv.sitR {c : cSt} {k s : Nat} (hI : Inv 24 c) (hk : k < 16) (he : ¬ c 2 k = -1) (hp : c 4 k = -1) (hs : c 17 2 = nI s) (h24 : s ≤ 24) : Inv 24 (cSit c (nI k) 24) := by
  rw [cSit_eq hk hs h24, sit0_24]
  exact (hI.roof hk he hp).note
theorem Inv.wk {c : cSt} (h : Nat) (hI : Inv 24 c) : Inv h c := ⟨hI.own, hI.plc, hI.mat, fun q hq _ => hI.sit q hq (by omega), hI.stt, hI.wnr, hI.wnt, hI.non, hI.mst⟩
theorem Inv.sitF {c : cSt} {k h s : Nat} (hI : Inv 24 c) (hf : c 11 h = -1) (hk : k < 16) (he : ¬ c 2 k = -1) (hp : c 4 k = -1) (hh : h < 24) (hs : c 17 2 = nI s) (h24 : s ≤ 24) : Inv 24 (cSit c (nI k) (nI h)) :=
  (hI.wk h).sitH (fun q hq hx w => by
    have := hI.stt q hq hx h hh w
    exact nI_nm (a := q) (by omega) (this.symm.trans hf)) hk he hp hh hs h24
theorem cW_same {c : cSt} {j i : Nat} : cW c j i (c j i) = c := by
  funext a b
  unfold cW
  split
  · rename_i h; split
    · rename_i h2; rw [h, h2]
    · rfl
  · rfl
theorem cShift0_eq {c : cSt} {k h j : Nat} (hk : k < 16) (hh : h < 24) (hj : j < 16) (hs : c 11 h = nI j) : cShift0 c (nI h) (nI k) = cW (cW (cW (cW c 0 8 (c 0 8 + 1)) 0 9 (c 0 9 + (if c 5 k = nI j then 0 else 1))) 7 j (c 7 j + 1)) 4 j (-1) := by
  unfold cShift0
  rw [ix_nI (by omega), ix_nI (by omega), hs, ix_nI (by omega)]
  by_cases h5 : c 5 k = nI j
  · rw [if_pos h5, if_pos h5, Int32.add_zero]
    have e : cW (cW c 0 8 (c 0 8 + 1)) 0 9 (c 0 9) = cW c 0 8 (c 0 8 + 1) := by
      have := cW_same (c := cW c 0 8 (c 0 8 + 1)) (j := 0) (i := 9)
      rw [cWr, zU_ne (by omega)] at this
      exact this
    rw [e]
  · rw [if_neg h5, if_neg h5]
theorem shift_sim {c d : cSt} {k h j s : Nat} (hR : Rel c (d 1)) (hI : Inv 24 c) (hs : c 17 2 = nI s) (h24 : s ≤ 24) (hk : k < 16) (he : ¬ c 2 k = -1) (hp : c 4 k = -1) (hh : h < 24) (hj : j < 16) (h11 : c 11 h = nI j) :
    Rel (cShift c (nI h) (nI k)) (mSitS (cW (mCount d (nI k) (nI j)) 1 (9 * ix (nI j) + 3) (-1)) (nI k) (nI h) 1) ∧ Inv 24 (cShift c (nI h) (nI k)) ∧ cShift c (nI h) (nI k) 17 2 = nI (s + 1) ∧ cShift c (nI h) (nI k) 0 8 = c 0 8 + 1 ∧ ¬ cShift c (nI h) (nI k) 2 j = -1 ∧ cShift c (nI h) (nI k) 4 j = -1 := by
  obtain ⟨⟨hx, hpj⟩, hO, hN⟩ := hI.out hh hj h11 (v := -1) (Or.inl rfl)
  have hjk : j ≠ k := fun w => by rw [w, hp] at hpj; exact nI_nm (by omega) hpj.symm
  have h3 : d 1 (9 * k + 4) = c 5 k := hR.row k hk he 3 (by omega)
  have h6 : d 1 (9 * j + 6) = c 7 j := hR.row j hj hx 5 (by omega)
  have e0 := cShift0_eq (c := c) hk hh hj h11
  have hR0 : Rel (cShift0 c (nI h) (nI k)) ((cW (mCount d (nI k) (nI j)) 1 (9 * ix (nI j) + 3) (-1)) 1) := by
    rw [e0]
    unfold mCount
    rw [ix_nI (by omega), ix_nI (by omega), h3, h6, hR.shf, hR.qrl]
    simp only [cWr]
    exact ((hR.uShf.uQrl).uRow (y := 5) hj (by omega) (by omega)).uRow (y := 2) hj (by omega) (by omega)
  have r17 : cShift0 c (nI h) (nI k) 17 = c 17 := by rw [e0]; simp (disch := omega) only [cWn]
  have r2 : cShift0 c (nI h) (nI k) 2 = c 2 := by rw [e0]; simp (disch := omega) only [cWn]
  have r4 : cShift0 c (nI h) (nI k) 4 = zU (c 4) j (-1) := by rw [e0, cWr]; simp (disch := omega) only [cWn]
  have r0 : cShift0 c (nI h) (nI k) 0 8 = c 0 8 + 1 := by rw [e0]; simp (disch := omega) only [cWn, cWr, zU_ne, zU_at]
  have hI0 : Inv h (cShift0 c (nI h) (nI k)) := by
    rw [e0]
    refine hO.congr ?_ ?_ ?_ ?_ ?_ ?_ (fun q _ => ?_) (fun q hq => ?_) (fun q _ => ?_) (fun q _ => ?_)
    · simp (disch := omega) only [cWn]
    · simp (disch := omega) only [cWn, cWr]
    · simp (disch := omega) only [cWn]
    · simp (disch := omega) only [cWn]
    · simp (disch := omega) only [cWn]
    · simp (disch := omega) only [cWn]
    · simp (disch := omega) only [cWn]
    · simp (disch := omega) only [cWn] at hq
      have : q ≠ j := fun w => hx (w ▸ hq)
      simp (disch := omega) only [cWn, cWr, zU_ne]
    · simp (disch := omega) only [cWn]
    · simp (disch := omega) only [cWn]
  have hs0 : cShift0 c (nI h) (nI k) 17 2 = nI s := by rw [r17]; exact hs
  have hp0 : cShift0 c (nI h) (nI k) 4 k = -1 := by rw [r4, zU_ne (fun w => hjk w.symm)]; exact hp
  obtain ⟨k17, k0, k2, k4⟩ := cSit_keep (c := cShift0 c (nI h) (nI k)) (y := nI h) hk hs0 h24
  unfold cShift
  refine ⟨hR0.sit hk hs0 h24, ?_, k17, ?_, ?_, ?_⟩
  · exact hI0.sitH (by rw [r2, r4]; exact hN) hk (by rw [r2]; exact he) hp0 hh hs0 h24
  · rw [k0]; exact r0
  · rw [k2, r2]; exact hx
  · rw [k4, zU_ne hjk, r4, zU_at]
