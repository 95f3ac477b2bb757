/-! pure rows taken from the proof of whole: a cote by itself -/
def zU (f : Nat → Int32) (i : Nat) (v : Int32) : Nat → Int32 := fun q => if q = i then v else f q
theorem zU_at {f : Nat → Int32} {i : Nat} {v : Int32} : zU f i v i = v := if_pos rfl
theorem zU_ne {f : Nat → Int32} {i q : Nat} {v : Int32} (h : q ≠ i) : zU f i v q = f q := if_neg h
theorem cWr {c : cSt} {j i : Nat} {v : Int32} : cW c j i v j = zU (c j) i v := by funext q; simp [cW, zU]
theorem cWn {c : cSt} {j i j' : Nat} {v : Int32} (h : j' ≠ j) : cW c j i v j' = c j' := by funext q; simp [cW, h]
theorem nI_inj {a b : Nat} (ha : a < 2 ^ 31) (hb : b < 2 ^ 31) (h : nI a = nI b) : a = b := (nI_eq ha hb).mp h
theorem nI_nm {a : Nat} (ha : a < 2 ^ 31) : ¬ nI a = -1 := fun h => nI_pos ha (by rw [h]; decide)
theorem cEx_nI {c : cSt} {k : Nat} (hk : k < 16) : cEx c (nI k) = true ↔ ¬ c 2 k = -1 := by
  unfold cEx
  rw [if_neg (nI_pos (by omega)), if_neg (show ¬ (16 : Int32) ≤ nI k by rw [show (16 : Int32) = nI 16 from rfl, nI_leI (by omega) (by omega)]; omega), ix_nI (by omega)]
  by_cases h : c 2 k = -1
  · simp [h]
  · simp [h]
theorem cEx_m1 {c : cSt} : cEx c (-1) = false := rfl
theorem cEx_at {c : cSt} {k : Nat} (hk : k < 16) (h : cEx c (nI k) = true) : ¬ c 2 k = -1 := (cEx_nI hk).mp h
theorem cEx_iff {c : cSt} {x : Int32} : cEx c x = true ↔ ∃ k, k < 16 ∧ x = nI k ∧ ¬ c 2 k = -1 := by
  constructor
  · intro h
    obtain ⟨k, hk, rfl⟩ := vp_in_of (cEx_in h) (by omega)
    exact ⟨k, hk, rfl, (cEx_nI hk).mp h⟩
  · rintro ⟨k, hk, rfl, h⟩
    exact (cEx_nI hk).mpr h
theorem hHole_nI {k : Nat} (hk : k < 2 ^ 31) : hHole (nI k) = true ↔ k < 24 := by
  unfold hHole
  rw [if_neg (nI_pos hk), show (24 : Int32) = nI 24 from rfl]
  simp only [nI_leI (show 24 < 2 ^ 31 by omega) hk]
  by_cases h : 24 ≤ k
  · simp [h]
  · simp [h]; omega
theorem cnt_ext {P Q : Nat → Bool} : ∀ n, (∀ k, k < n → P k = Q k) → cnt P n = cnt Q n
  | 0, _ => rfl
  | n + 1, h => by
    unfold cnt
    rw [h n (by omega), cnt_ext n (fun k hk => h k (by omega))]
def Inv (e : Nat) (c : cSt) : Prop :=
  (∀ k, k < 16 → ¬ c 2 k = -1 → ∃ n, n < 24 ∧ c 2 k = nI n) ∧
  (∀ k, k < 16 → ¬ c 2 k = -1 → c 4 k = -1 ∨ ∃ n, n < 25 ∧ c 4 k = nI n) ∧
  (∀ k, k < 16 → ¬ c 2 k = -1 → c 5 k = -1 ∨ ∃ m, m < 16 ∧ c 5 k = nI m ∧ ¬ c 2 m = -1 ∧ c 5 m = nI k ∧ m ≠ k) ∧
  (∀ h, h < 24 → h ≠ e → c 11 h = -1 ∨ ∃ k, k < 16 ∧ c 11 h = nI k ∧ ¬ c 2 k = -1 ∧ c 4 k = nI h) ∧
  (∀ k, k < 16 → ¬ c 2 k = -1 → ∀ h, h < 24 → c 4 k = nI h → c 11 h = nI k) ∧
  (∀ h, h < 24 → c 12 h = -1 ∨ ∃ k, k < 16 ∧ c 12 h = nI k ∧ c 2 k = nI h) ∧
  (∀ k, k < 16 → ∀ h, h < 24 → c 2 k = nI h → c 12 h = nI k) ∧
  (∀ k, k < 16 → c 2 k = -1 → c 4 k = -1 ∧ c 5 k = -1 ∧ c 6 k = 0 ∧ c 7 k = 0 ∧ c 8 k = 0 ∧ c 9 k = 0) ∧
  (∃ n, n ≤ 24 ∧ c 14 1 = nI n)
theorem Inv.own {e : Nat} {c : cSt} (h : Inv e c) : ∀ k, k < 16 → ¬ c 2 k = -1 → ∃ n, n < 24 ∧ c 2 k = nI n := h.1
theorem Inv.plc {e : Nat} {c : cSt} (h : Inv e c) : ∀ k, k < 16 → ¬ c 2 k = -1 → c 4 k = -1 ∨ ∃ n, n < 25 ∧ c 4 k = nI n := h.2.1
theorem Inv.mat {e : Nat} {c : cSt} (h : Inv e c) : ∀ k, k < 16 → ¬ c 2 k = -1 → c 5 k = -1 ∨ ∃ m, m < 16 ∧ c 5 k = nI m ∧ ¬ c 2 m = -1 ∧ c 5 m = nI k ∧ m ≠ k := h.2.2.1
theorem Inv.sit {e : Nat} {c : cSt} (h : Inv e c) : ∀ h, h < 24 → h ≠ e → c 11 h = -1 ∨ ∃ k, k < 16 ∧ c 11 h = nI k ∧ ¬ c 2 k = -1 ∧ c 4 k = nI h := h.2.2.2.1
theorem Inv.stt {e : Nat} {c : cSt} (h : Inv e c) : ∀ k, k < 16 → ¬ c 2 k = -1 → ∀ h, h < 24 → c 4 k = nI h → c 11 h = nI k := h.2.2.2.2.1
theorem Inv.wnr {e : Nat} {c : cSt} (h : Inv e c) : ∀ h, h < 24 → c 12 h = -1 ∨ ∃ k, k < 16 ∧ c 12 h = nI k ∧ c 2 k = nI h := h.2.2.2.2.2.1
theorem Inv.wnt {e : Nat} {c : cSt} (h : Inv e c) : ∀ k, k < 16 → ∀ h, h < 24 → c 2 k = nI h → c 12 h = nI k := h.2.2.2.2.2.2.1
theorem Inv.non {e : Nat} {c : cSt} (h : Inv e c) : ∀ k, k < 16 → c 2 k = -1 → c 4 k = -1 ∧ c 5 k = -1 ∧ c 6 k = 0 ∧ c 7 k = 0 ∧ c 8 k = 0 ∧ c 9 k = 0 := h.2.2.2.2.2.2.2.1
theorem Inv.mst {e : Nat} {c : cSt} (h : Inv e c) : ∃ n, n ≤ 24 ∧ c 14 1 = nI n := h.2.2.2.2.2.2.2.2
/-- rows alike: the invariant too -/
theorem Inv.congr {e : Nat} {c c' : cSt} (h : Inv e c) (h2 : c' 2 = c 2) (h4 : c' 4 = c 4) (h5 : c' 5 = c 5) (h11 : c' 11 = c 11) (h12 : c' 12 = c 12) (hm : c' 14 1 = c 14 1) (h6 : ∀ k, c 2 k = -1 → c' 6 k = c 6 k) (h7 : ∀ k, c 2 k = -1 → c' 7 k = c 7 k) (h8 : ∀ k, c 2 k = -1 → c' 8 k = c 8 k) (h9 : ∀ k, c 2 k = -1 → c' 9 k = c 9 k) : Inv e c' := by
  unfold Inv
  rw [h2, h4, h5, h11, h12, hm]
  refine ⟨h.own, h.plc, h.mat, h.sit, h.stt, h.wnr, h.wnt, fun k hk hq => ?_, h.mst⟩
  rw [h6 k hq, h7 k hq, h8 k hq, h9 k hq]
  exact h.non k hk hq
theorem cFree_in {c : cSt} {x : Int32} (h : cFree c x = true) : ∃ q, q < 24 ∧ x = nI q ∧ cOpen c x = true ∧ c 11 q = -1 := by
  unfold cFree at h
  split at h
  · cases h
  · rename_i ho
    rw [Bool.not_eq_false] at ho
    obtain ⟨q, hq, rfl⟩ := vp_in_of (cOpen_in ho) (by omega)
    rw [ix_nI (by omega)] at h
    split at h
    · rename_i h1
      exact ⟨q, hq, rfl, ho, h1⟩
    · cases h
theorem rem24 {a k : Nat} (ha : a < 24) (hk : k < 25) : (nI a + nI k) - (nI a + nI k) / 24 * 24 = nI ((a + k) % 24) := by
  have e : (24 : Int32) = nI 24 := rfl
  rw [e, nI_add]
  exact pk_rem (by omega) (by omega) (by omega)
theorem cHk_nI {e : Nat} {c : cSt} (hI : Inv e c) {k : Nat} (hk : k < 16) (he : ¬ c 2 k = -1) {j : Nat} (hj : j < 25) : ∃ q, q < 24 ∧ cHk c (nI k) (nI j) = nI q := by
  obtain ⟨n, hn, e⟩ := hI.own k hk he
  unfold cHk
  rw [ix_nI (by omega), e, rem24 hn hj]
  exact ⟨_, Nat.mod_lt _ (by omega), rfl⟩
theorem freeL_val {c : cSt} {x : Int32} : ∀ n j, cFreeL c x n j = -1 ∨ cFree c (cFreeL c x n j) = true
  | 0, _ => Or.inl rfl
  | n + 1, j => by
    unfold cFreeL
    by_cases h : cFree c (cHk c x (nI j)) = true
    · rw [if_pos h]; exact Or.inr h
    · rw [if_neg h]; exact freeL_val n (j + 1)
theorem first_val {c : cSt} {x : Int32} : cFirst c x = -1 ∨ cFree c (cFirst c x) = true := by
  unfold cFirst
  split
  · split
    · rename_i h; exact Or.inr h
    · split
      · rename_i h; exact Or.inr h
      · exact freeL_val 24 0
  · exact freeL_val 24 0
def sit0 (c : cSt) (k : Nat) (y : Int32) : cSt := if hHole y = true then cW (cW c 4 k y) 11 (ix y) (nI k) else cW c 4 k y
theorem sit0_17 {c : cSt} {k : Nat} {y : Int32} : sit0 c k y 17 = c 17 := by
  unfold sit0; split <;> simp (disch := omega) only [cWn]
theorem cSit_eq {c : cSt} {k s : Nat} {y : Int32} (hk : k < 16) (hs : c 17 2 = nI s) (h24 : s ≤ 24) : cSit c (nI k) y = cW (cW (cW (sit0 c k y) 18 s (nI k)) 19 s y) 17 2 (nI (s + 1)) := by
  have e : cSit c (nI k) y = cNote (sit0 c k y) (nI k) y := by
    unfold cSit sit0
    rw [ix_nI (by omega)]
  rw [e]
  unfold cNote
  rw [sit0_17, hs, if_neg (show ¬ (24 : Int32) < nI s from nI_nlt (a := 24) (b := s) h24 (by omega)), ix_nI (by omega), nI_1]
theorem cSit_keep {c : cSt} {k s : Nat} {y : Int32} (hk : k < 16) (hs : c 17 2 = nI s) (h24 : s ≤ 24) : cSit c (nI k) y 17 2 = nI (s + 1) ∧ cSit c (nI k) y 0 = c 0 ∧ cSit c (nI k) y 2 = c 2 ∧ cSit c (nI k) y 4 = zU (c 4) k y := by
  rw [cSit_eq hk hs h24]
  refine ⟨?_, ?_, ?_, ?_⟩
  · rw [cWr, zU_at]
  · simp (disch := omega) only [cWn]; unfold sit0; split <;> simp (disch := omega) only [cWn]
  · simp (disch := omega) only [cWn]; unfold sit0; split <;> simp (disch := omega) only [cWn]
  · simp (disch := omega) only [cWn]; unfold sit0; split <;> simp (disch := omega) only [cWn, cWr]
theorem Inv.note {e : Nat} {c : cSt} (h : Inv e c) {s : Nat} {x y v : Int32} : Inv e (cW (cW (cW c 18 s x) 19 s y) 17 2 v) := by
  refine h.congr ?_ ?_ ?_ ?_ ?_ ?_ (fun k _ => ?_) (fun k _ => ?_) (fun k _ => ?_) (fun k _ => ?_) <;> simp (disch := omega) only [cWn]
theorem Inv.hole {c : cSt} {k h : Nat} (hI : Inv h c) (hN : ∀ q, q < 16 → ¬ c 2 q = -1 → ¬ c 4 q = nI h) (hk : k < 16) (he : ¬ c 2 k = -1) (hp : c 4 k = -1) (hh : h < 24) : Inv 24 (cW (cW c 4 k (nI h)) 11 h (nI k)) := by
  unfold Inv
  simp (disch := omega) only [cWr, cWn]
  refine ⟨hI.own, fun q hq hx => ?_, hI.mat, fun q hq _ => ?_, fun q hq hx j hj hp2 => ?_, hI.wnr, hI.wnt, fun q hq hx => ?_, hI.mst⟩
  · by_cases hc : q = k
    · rw [hc, zU_at]; exact Or.inr ⟨h, by omega, rfl⟩
    · rw [zU_ne hc]; exact hI.plc q hq hx
  · by_cases hc : q = h
    · rw [hc, zU_at]; exact Or.inr ⟨k, hk, rfl, he, zU_at⟩
    · rw [zU_ne hc]
      rcases hI.sit q hq hc with e | ⟨m, hm, e, hx, hp'⟩
      · exact Or.inl e
      · refine Or.inr ⟨m, hm, e, hx, ?_⟩
        have : m ≠ k := fun q => by rw [q, hp] at hp'; exact nI_nm (by omega) hp'.symm
        rw [zU_ne this]; exact hp'
  · by_cases hc : q = k
    · rw [hc, zU_at] at hp2
      have := nI_inj (by omega) (by omega) hp2
      rw [hc, ← this, zU_at]
    · rw [zU_ne hc] at hp2
      have : j ≠ h := fun w => hN q hq hx (w ▸ hp2)
      rw [zU_ne this]
      exact hI.stt q hq hx j hj hp2
  · have : q ≠ k := fun w => he (w ▸ hx)
    rw [zU_ne this]
    exact hI.non q hq hx
theorem Inv.roof {c : cSt} {k : Nat} (hI : Inv 24 c) (hk : k < 16) (he : ¬ c 2 k = -1) (hp : c 4 k = -1) : Inv 24 (cW c 4 k 24) := by
  unfold Inv
  simp (disch := omega) only [cWr, cWn]
  refine ⟨hI.own, fun q hq hx => ?_, hI.mat, fun q hq hn => ?_, fun q hq hx j hj hp2 => ?_, hI.wnr, hI.wnt, fun q hq hx => ?_, hI.mst⟩
  · by_cases hc : q = k
    · rw [hc, zU_at]; exact Or.inr ⟨24, by omega, rfl⟩
    · rw [zU_ne hc]; exact hI.plc q hq hx
  · rcases hI.sit q hq hn with e | ⟨m, hm, e, hx, hp'⟩
    · exact Or.inl e
    · refine Or.inr ⟨m, hm, e, hx, ?_⟩
      have : m ≠ k := fun q => by rw [q, hp] at hp'; exact nI_nm (by omega) hp'.symm
      rw [zU_ne this]; exact hp'
  · by_cases hc : q = k
    · rw [hc, zU_at] at hp2
      have := nI_inj (a := 24) (by omega) (by omega) hp2
      omega
    · rw [zU_ne hc] at hp2
      exact hI.stt q hq hx j hj hp2
  · have : q ≠ k := fun w => he (w ▸ hx)
    rw [zU_ne this]
    exact hI.non q hq hx
/-- the one in a hole goes out of it -/
theorem Inv.out {c : cSt} {j h : Nat} {v : Int32} (hI : Inv 24 c) (hh : h < 24) (hj : j < 16) (hs : c 11 h = nI j) (hv : v = -1 ∨ v = nI 24) : (¬ c 2 j = -1 ∧ c 4 j = nI h) ∧ Inv h (cW c 4 j v) ∧ (∀ q, q < 16 → ¬ c 2 q = -1 → ¬ zU (c 4) j v q = nI h) := by
  have hvn : ∀ q, q < 24 → ¬ v = nI q := fun q hq w => by
    rcases hv with r | r
    · exact nI_nm (by omega) (w.symm.trans r)
    · have := nI_inj (by omega) (by omega) (w.symm.trans r); omega
  have hj2 : ¬ c 2 j = -1 ∧ c 4 j = nI h := by
    rcases hI.sit h hh (by omega) with e | ⟨m, hm, e, hx, hp'⟩
    · exact (nI_nm (a := j) (by omega) (hs.symm.trans e)).elim
    · have := nI_inj (by omega) (by omega) (hs.symm.trans e)
      rw [this]; exact ⟨hx, hp'⟩
  refine ⟨hj2, ?_, fun q hq hx w => ?_⟩
  · unfold Inv
    simp (disch := omega) only [cWr, cWn]
    refine ⟨hI.own, fun q hq hx => ?_, hI.mat, fun q hq hn => ?_, fun q hq hx j' hj' hp2 => ?_, hI.wnr, hI.wnt, fun q hq hx => ?_, hI.mst⟩
    · by_cases hc : q = j
      · rw [hc, zU_at]; rcases hv with r | r
        · exact Or.inl r
        · exact Or.inr ⟨24, by omega, r⟩
      · rw [zU_ne hc]; exact hI.plc q hq hx
    · rcases hI.sit q hq (by omega) with e | ⟨m, hm, e, hx, hp'⟩
      · exact Or.inl e
      · refine Or.inr ⟨m, hm, e, hx, ?_⟩
        have : m ≠ j := fun w => by rw [w, hj2.2] at hp'; exact hn (nI_inj (by omega) (by omega) hp').symm
        rw [zU_ne this]; exact hp'
    · by_cases hc : q = j
      · rw [hc, zU_at] at hp2
        exact (hvn j' hj' hp2).elim
      · rw [zU_ne hc] at hp2
        exact hI.stt q hq hx j' hj' hp2
    · have : q ≠ j := fun w => hj2.1 (w ▸ hx)
      rw [zU_ne this]
      exact hI.non q hq hx
  · by_cases hc : q = j
    · rw [hc, zU_at] at w; exact hvn h hh w
    · rw [zU_ne hc] at w
      have := hI.stt q hq hx h hh w
      exact hc (nI_inj (by omega) (by omega) (this.symm.trans hs))
theorem sit0_h {c : cSt} {k h : Nat} (hh : h < 24) : sit0 c k (nI h) = cW (cW c 4 k (nI h)) 11 h (nI k) := by
  unfold sit0
  rw [if_pos ((hHole_nI (by omega)).mpr hh), ix_nI (by omega)]
theorem sit0_24 {c : cSt} {k : Nat} : sit0 c k 24 = cW c 4 k 24 := by
  unfold sit0
  rw [if_neg (by decide)]
theorem Inv.sitH {c : cSt} {k h s : Nat} (hI : Inv h c) (hN : ∀ q, q < 16 → ¬ c 2 q = -1 → ¬ c 4 q = nI h) (hk : k < 16) (he : ¬ c 2 k = -1) (hp : c 4 k = -1) (hh : h < 24) (hs : c 17 2 = nI s) (h24 : s ≤ 24) : Inv 24 (cSit c (nI k) (nI h)) := by
  rw [cSit_eq hk hs h24, sit0_h hh]
  exact (hI.hole hN hk he hp hh).note
theorem Inv.sitR {c : cSt} {k s : Nat} (hI : Inv 24 c) (hk : k < 16) (he : ¬ c 2 k = -1) (hp : c 4 k = -1) (hs : c 17 2 = nI s) (h24 : s ≤ 24) : Inv 24 (cSit c (nI k) 24) := by
  rw [cSit_eq hk hs h24, sit0_24]
  exact (hI.roof hk he hp).note
theorem Inv.wk {c : cSt} (h : Nat) (hI : Inv 24 c) : Inv h c := ⟨hI.own, hI.plc, hI.mat, fun q hq _ => hI.sit q hq (by omega), hI.stt, hI.wnr, hI.wnt, hI.non, hI.mst⟩
theorem Inv.sitF {c : cSt} {k h s : Nat} (hI : Inv 24 c) (hf : c 11 h = -1) (hk : k < 16) (he : ¬ c 2 k = -1) (hp : c 4 k = -1) (hh : h < 24) (hs : c 17 2 = nI s) (h24 : s ≤ 24) : Inv 24 (cSit c (nI k) (nI h)) :=
  (hI.wk h).sitH (fun q hq hx w => by
    have := hI.stt q hq hx h hh w
    exact nI_nm (a := q) (by omega) (this.symm.trans hf)) hk he hp hh hs h24
theorem cW_same {c : cSt} {j i : Nat} : cW c j i (c j i) = c := by
  funext a b
  unfold cW
  split
  · rename_i h; split
    · rename_i h2; rw [h, h2]
    · rfl
  · rfl
theorem cShift0_eq {c : cSt} {k h j : Nat} (hk : k < 16) (hh : h < 24) (hj : j < 16) (hs : c 11 h = nI j) : cShift0 c (nI h) (nI k) = cW (cW (cW (cW c 0 8 (c 0 8 + 1)) 0 9 (c 0 9 + (if c 5 k = nI j then 0 else 1))) 7 j (c 7 j + 1)) 4 j (-1) := by
  unfold cShift0
  rw [ix_nI (by omega), ix_nI (by omega), hs, ix_nI (by omega)]
  by_cases h5 : c 5 k = nI j
  · rw [if_pos h5, if_pos h5, Int32.add_zero]
    have e : cW (cW c 0 8 (c 0 8 + 1)) 0 9 (c 0 9) = cW c 0 8 (c 0 8 + 1) := by
      have := cW_same (c := cW c 0 8 (c 0 8 + 1)) (j := 0) (i := 9)
      rw [cWr, zU_ne (by omega)] at this
      exact this
    rw [e]
  · rw [if_neg h5, if_neg h5]
theorem cRun_m1 {most : Int32} {c : cSt} : ∀ n, cRun most n c (-1) = c
  | 0 => rfl
  | n + 1 => by unfold cRun; rw [cEx_m1, if_neg (by decide)]
theorem comeR_eq {c c' : cSt} {n0 sf : Nat} (h8 : c 0 8 = nI n0) (h : c' 0 8 = nI (n0 + sf)) : c' 0 8 - c 0 8 = nI sf := by
  rw [h, h8, pk_sub (by omega)]
  congr 1
  omega
theorem zU_same {f : Nat → Int32} {i : Nat} : zU f i (f i) = f := by
  funext q; unfold zU; split
  · rename_i h; rw [h]
  · rfl
theorem zU_noop {f : Nat → Int32} {i : Nat} {v : Int32} (h : f i = v) : zU f i (v + 0) = f := by rw [Int32.add_zero, ← h, zU_same]
theorem cN1_row {c : cSt} {j : Nat} (hj : j ≠ 15) : ∀ n, cN1 c n j = c j
  | 0 => rfl
  | n + 1 => by unfold cN1; rw [cWn hj]; exact cN1_row hj n
theorem cN1_15 {c : cSt} : ∀ n q, q < n → cN1 c n 15 q = 0
  | 0, _, h => absurd h (by omega)
  | n + 1, q, h => by
    unfold cN1
    rw [cWr]
    by_cases hq : q = n
    · rw [hq, zU_at]
    · rw [zU_ne hq]; exact cN1_15 n q (by omega)
/-- what one dove's dawn changes -/
theorem cDw_row {c : cSt} {x : Int32} {j : Nat} (h8 : j ≠ 8) (h9 : j ≠ 9) (h15 : j ≠ 15) : cDw c x j = c j := by
  unfold cDw
  split
  · simp (disch := omega) only [cWn]
  · split
    · simp (disch := omega) only [cWn]
    · split <;> simp (disch := omega) only [cWn]
theorem cDw_89 {c : cSt} {x : Int32} {j q : Nat} (h15 : j ≠ 15) (hq : q ≠ ix x) : cDw c x j q = c j q := by
  have key : ∀ (cc : cSt) (a : Nat) (v : Int32), cW cc a (ix x) v j q = cc j q := fun cc a v => by
    unfold cW
    split <;> first | rfl | rw [if_neg hq]
  unfold cDw
  split
  · rw [key, cWn h15]
  · split
    · rw [cWn h15]
    · split
      · rw [key, cWn h15]
      · rw [cWn h15]
theorem cDw_s {c : cSt} {k a b : Nat} (hk : k < 16) (hp : c 4 k = -1 ∨ ∃ n, n < 25 ∧ c 4 k = nI n) (ha : c 15 0 = nI a) (hb : c 15 1 = nI b) : ∃ a' b', cDw c (nI k) 15 0 = nI a' ∧ cDw c (nI k) 15 1 = nI b' ∧ a' + b' = a + b + (if hHole (c 4 k) = true then 1 else 0) := by
  unfold cDw
  rw [ix_nI (by omega)]
  rcases hp with e0 | ⟨n, hn, e0⟩
  · rw [e0, if_pos rfl, if_neg (by decide)]
    simp (disch := omega) only [cWn, cWr, zU_ne]
    exact ⟨a, b, ha, hb, rfl⟩
  · rw [e0, if_neg (nI_nm (by omega))]
    by_cases h24 : n = 24
    · subst h24
      rw [if_pos (show nI 24 = 24 from rfl), if_neg (by decide)]
      simp (disch := omega) only [cWn, cWr, zU_ne]
      exact ⟨a, b, ha, hb, rfl⟩
    · rw [if_neg (show ¬ nI n = 24 from fun q => h24 (nI_inj (b := 24) (by omega) (by omega) q)), if_pos ((hHole_nI (by omega)).mpr (by omega))]
      by_cases ho : nI n = c 2 k
      · rw [if_pos ho]
        simp (disch := omega) only [cWn, cWr, zU_ne, zU_at]
        exact ⟨a + 1, b, by rw [ha, nI_1], hb, by omega⟩
      · rw [if_neg ho]
        simp (disch := omega) only [cWr, zU_ne, zU_at]
        exact ⟨a, b + 1, ha, by rw [hb, nI_1], by omega⟩
/-- the doves' dawn, one by one: how far it is through at n -/
def N2s (c : cSt) (n : Nat) (c' : cSt) : Prop :=
  (∀ j, j ≠ 4 → j ≠ 8 → j ≠ 9 → j ≠ 15 → c' j = c j) ∧ (∀ q, n ≤ q ∨ c 2 q = -1 → c' 4 q = c 4 q ∧ c' 8 q = c 8 q ∧ c' 9 q = c 9 q) ∧ (∀ q, q < n → ¬ c 2 q = -1 → c' 4 q = -1) ∧
  (∃ a b, c' 15 0 = nI a ∧ c' 15 1 = nI b ∧ a + b = cnt (fun k => cEx c (nI k) && hHole (c 4 k)) n)
theorem n3_row {c : cSt} {j : Nat} (hj : j ≠ 11) : ∀ n, cN3 c n j = c j
  | 0 => rfl
  | n + 1 => by unfold cN3; rw [cWn hj]; exact n3_row hj n
theorem n3_11 {c : cSt} : ∀ n q, q < n → cN3 c n 11 q = -1
  | 0, _, h => absurd h (by omega)
  | n + 1, q, h => by
    unfold cN3
    rw [cWr]
    by_cases hq : q = n
    · rw [hq, zU_at]
    · rw [zU_ne hq]; exact n3_11 n q (by omega)
