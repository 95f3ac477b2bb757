/-! what a cote keeps: places, mates, sitters, owners (e: a hole whose sitter is just shifted; 24: none) -/
def Inv (e : Nat) (c : cSt) : Prop :=
  (∀ k, k < 16 → ¬ c 2 k = -1 → ∃ n, n < 24 ∧ c 2 k = nI n) ∧
  (∀ k, k < 16 → ¬ c 2 k = -1 → c 4 k = -1 ∨ ∃ n, n < 25 ∧ c 4 k = nI n) ∧
  (∀ k, k < 16 → ¬ c 2 k = -1 → c 5 k = -1 ∨ ∃ m, m < 16 ∧ c 5 k = nI m ∧ ¬ c 2 m = -1 ∧ c 5 m = nI k ∧ m ≠ k) ∧
  (∀ h, h < 24 → h ≠ e → c 11 h = -1 ∨ ∃ k, k < 16 ∧ c 11 h = nI k ∧ ¬ c 2 k = -1 ∧ c 4 k = nI h) ∧
  (∀ k, k < 16 → ¬ c 2 k = -1 → ∀ h, h < 24 → c 4 k = nI h → c 11 h = nI k) ∧
  (∀ h, h < 24 → c 12 h = -1 ∨ ∃ k, k < 16 ∧ c 12 h = nI k ∧ c 2 k = nI h) ∧
  (∀ k, k < 16 → ∀ h, h < 24 → c 2 k = nI h → c 12 h = nI k) ∧
  (∀ k, k < 16 → c 2 k = -1 → c 4 k = -1 ∧ c 5 k = -1 ∧ c 6 k = 0 ∧ c 7 k = 0 ∧ c 8 k = 0 ∧ c 9 k = 0) ∧
  (∃ n, n ≤ 24 ∧ c 14 1 = nI n)
theorem Inv.own {e : Nat} {c : cSt} (h : Inv e c) : ∀ k, k < 16 → ¬ c 2 k = -1 → ∃ n, n < 24 ∧ c 2 k = nI n := h.1
theorem Inv.plc {e : Nat} {c : cSt} (h : Inv e c) : ∀ k, k < 16 → ¬ c 2 k = -1 → c 4 k = -1 ∨ ∃ n, n < 25 ∧ c 4 k = nI n := h.2.1
theorem Inv.mat {e : Nat} {c : cSt} (h : Inv e c) : ∀ k, k < 16 → ¬ c 2 k = -1 → c 5 k = -1 ∨ ∃ m, m < 16 ∧ c 5 k = nI m ∧ ¬ c 2 m = -1 ∧ c 5 m = nI k ∧ m ≠ k := h.2.2.1
theorem Inv.sit {e : Nat} {c : cSt} (h : Inv e c) : ∀ h, h < 24 → h ≠ e → c 11 h = -1 ∨ ∃ k, k < 16 ∧ c 11 h = nI k ∧ ¬ c 2 k = -1 ∧ c 4 k = nI h := h.2.2.2.1
theorem Inv.stt {e : Nat} {c : cSt} (h : Inv e c) : ∀ k, k < 16 → ¬ c 2 k = -1 → ∀ h, h < 24 → c 4 k = nI h → c 11 h = nI k := h.2.2.2.2.1
theorem Inv.wnr {e : Nat} {c : cSt} (h : Inv e c) : ∀ h, h < 24 → c 12 h = -1 ∨ ∃ k, k < 16 ∧ c 12 h = nI k ∧ c 2 k = nI h := h.2.2.2.2.2.1
theorem Inv.wnt {e : Nat} {c : cSt} (h : Inv e c) : ∀ k, k < 16 → ∀ h, h < 24 → c 2 k = nI h → c 12 h = nI k := h.2.2.2.2.2.2.1
theorem Inv.non {e : Nat} {c : cSt} (h : Inv e c) : ∀ k, k < 16 → c 2 k = -1 → c 4 k = -1 ∧ c 5 k = -1 ∧ c 6 k = 0 ∧ c 7 k = 0 ∧ c 8 k = 0 ∧ c 9 k = 0 := h.2.2.2.2.2.2.2.1
theorem Inv.mst {e : Nat} {c : cSt} (h : Inv e c) : ∃ n, n ≤ 24 ∧ c 14 1 = nI n := h.2.2.2.2.2.2.2.2
/-- rows alike: the invariant too -/
theorem Inv.congr {e : Nat} {c c' : cSt} (h : Inv e c) (h2 : c' 2 = c 2) (h4 : c' 4 = c 4) (h5 : c' 5 = c 5) (h11 : c' 11 = c 11) (h12 : c' 12 = c 12) (hm : c' 14 1 = c 14 1) (h6 : ∀ k, c 2 k = -1 → c' 6 k = c 6 k) (h7 : ∀ k, c 2 k = -1 → c' 7 k = c 7 k) (h8 : ∀ k, c 2 k = -1 → c' 8 k = c 8 k) (h9 : ∀ k, c 2 k = -1 → c' 9 k = c 9 k) : Inv e c' := by
  unfold Inv
  rw [h2, h4, h5, h11, h12, hm]
  refine ⟨h.own, h.plc, h.mat, h.sit, h.stt, h.wnr, h.wnt, fun k hk hq => ?_, h.mst⟩
  rw [h6 k hq, h7 k hq, h8 k hq, h9 k hq]
  exact h.non k hk hq
theorem lastP_none {P : Nat → Bool} : ∀ n, (∀ k, k < n → P k = false) → lastP P n = -1
  | 0, _ => rfl
  | n + 1, h => by
    unfold lastP
    rw [h n (by omega), if_neg (by decide)]
    exact lastP_none n fun k hk => h k (by omega)
theorem lastP_one {P : Nat → Bool} {k : Nat} : ∀ n, k < n → P k = true → (∀ q, q < n → P q = true → q = k) → lastP P n = nI k
  | 0, hk, _, _ => absurd hk (by omega)
  | n + 1, hk, hp, hu => by
    unfold lastP
    by_cases hn : P n = true
    · rw [if_pos hn, hu n (by omega) hn]
    · rw [if_neg hn]
      have : k ≠ n := fun q => hn (q ▸ hp)
      exact lastP_one n (by omega) hp fun q hq => hu q (by omega)
/-- who sits in a hole -/
theorem sitter {c d : cSt} (hR : Rel c (d 1)) (hI : Inv 24 c) {h : Nat} (hh : h < 24) : mSit d (nI h) = c 11 h := by
  unfold mSit
  rcases hI.sit h hh (by omega) with e | ⟨k, hk, e, hx, hp⟩
  · rw [e]
    refine lastP_none 16 fun q hq => ?_
    rw [← hR.exs q hq]
    cases he : cEx c (nI q)
    · rfl
    · have he' := cEx_at hq he
      have h3 : d 1 (9 * q + 3) = c 4 q := hR.row q hq he' 2 (by omega)
      rw [h3, Bool.true_and, decide_eq_false_iff_not]
      intro hp
      have := hI.stt q hq he' h hh hp
      rw [e] at this
      exact nI_nm (by omega) this.symm
  · rw [e]
    refine lastP_one 16 hk ?_ fun q hq hp2 => ?_
    · have h3 : d 1 (9 * k + 3) = c 4 k := hR.row k hk hx 2 (by omega)
      rw [← hR.exs k hk, (cEx_nI hk).mpr hx, h3, hp]
      simp
    · rw [← hR.exs q hq, Bool.and_eq_true, decide_eq_true_eq] at hp2
      have he' := cEx_at hq hp2.1
      have h3 : d 1 (9 * q + 3) = c 4 q := hR.row q hq he' 2 (by omega)
      have := hI.stt q hq he' h hh (h3 ▸ hp2.2)
      rw [e] at this
      exact (nI_inj (by omega) (by omega) this).symm
theorem owner {c d : cSt} {e : Nat} (hR : Rel c (d 1)) (hI : Inv e c) {h : Nat} (hh : h < 24) : mOwn d (nI h) = c 12 h := by
  unfold mOwn
  rcases hI.wnr h hh with e | ⟨k, hk, e, hp⟩
  · rw [e]
    refine lastP_none 16 fun q hq => ?_
    rw [← hR.exs q hq]
    cases he : cEx c (nI q)
    · rfl
    · have he' := cEx_at hq he
      have h3 : d 1 (9 * q + 1) = c 2 q := hR.row q hq he' 0 (by omega)
      rw [h3, Bool.true_and, decide_eq_false_iff_not]
      intro hp
      have := hI.wnt q hq h hh hp
      rw [e] at this
      exact nI_nm (by omega) this.symm
  · rw [e]
    have hx : ¬ c 2 k = -1 := by rw [hp]; exact nI_nm (by omega)
    refine lastP_one 16 hk ?_ fun q hq hp2 => ?_
    · have h3 : d 1 (9 * k + 1) = c 2 k := hR.row k hk hx 0 (by omega)
      rw [← hR.exs k hk, (cEx_nI hk).mpr hx, h3, hp]
      simp
    · rw [← hR.exs q hq, Bool.and_eq_true, decide_eq_true_eq] at hp2
      have he' := cEx_at hq hp2.1
      have h3 : d 1 (9 * q + 1) = c 2 q := hR.row q hq he' 0 (by omega)
      have := hI.wnt q hq h hh (h3 ▸ hp2.2)
      rw [e] at this
      exact (nI_inj (by omega) (by omega) this).symm
theorem free_sim {c d : cSt} (hR : Rel c (d 1)) (hI : Inv 24 c) {h : Nat} (hh : h < 24) : cFree c (nI h) = mFree d (nI h) := by
  unfold cFree mFree
  rw [hR.opens hh, sitter hR hI hh, ix_nI (by omega)]
  by_cases ho : mOpen d (nI h) = false
  · rw [if_pos ho, if_pos ho]
  · rw [if_neg ho, if_neg ho]
    rcases hI.sit h hh (by omega) with e | ⟨k, hk, e, -⟩
    · rw [e]; rfl
    · rw [e, if_neg (nI_nm (by omega)), if_pos (nI_pos' (by omega))]
theorem cFree_in {c : cSt} {x : Int32} (h : cFree c x = true) : ∃ q, q < 24 ∧ x = nI q ∧ cOpen c x = true ∧ c 11 q = -1 := by
  unfold cFree at h
  split at h
  · cases h
  · rename_i ho
    rw [Bool.not_eq_false] at ho
    obtain ⟨q, hq, rfl⟩ := vp_in_of (cOpen_in ho) (by omega)
    rw [ix_nI (by omega)] at h
    split at h
    · rename_i h1
      exact ⟨q, hq, rfl, ho, h1⟩
    · cases h
theorem mFree_c {c d : cSt} (hR : Rel c (d 1)) (hI : Inv 24 c) (x : Int32) : (mIn x 0 23 = true ∧ mFree d x = true) ↔ cFree c x = true := by
  rw [hHole_mIn]
  constructor
  · intro ⟨h1, h2⟩
    obtain ⟨q, hq, rfl⟩ := vp_in_of (hHole_in h1) (by omega)
    rw [free_sim hR hI hq]; exact h2
  · intro h
    obtain ⟨q, hq, rfl, -⟩ := cFree_in h
    exact ⟨(hHole_nI (by omega)).mpr hq, by rw [← free_sim hR hI hq]; exact h⟩
theorem cHk_eq {c d : cSt} (hR : Rel c (d 1)) {k : Nat} (hk : k < 16) (he : ¬ c 2 k = -1) {j : Int32} : mHk d (nI k) j = cHk c (nI k) j := by
  have h1 : d 1 (9 * k + 1) = c 2 k := hR.row k hk he 0 (by omega)
  unfold mHk cHk
  rw [ix_nI (by omega), h1]
theorem cHk_nI {e : Nat} {c : cSt} (hI : Inv e c) {k : Nat} (hk : k < 16) (he : ¬ c 2 k = -1) {j : Nat} (hj : j < 25) : ∃ q, q < 24 ∧ cHk c (nI k) (nI j) = nI q := by
  obtain ⟨n, hn, e⟩ := hI.own k hk he
  unfold cHk
  rw [ix_nI (by omega), e, rem24 hn hj]
  exact ⟨_, Nat.mod_lt _ (by omega), rfl⟩
theorem freeL_sim {c d : cSt} (hR : Rel c (d 1)) (hI : Inv 24 c) {k : Nat} (hk : k < 16) (he : ¬ c 2 k = -1) : ∀ n j, n + j ≤ 25 → mFreeL d (nI k) n j = cFreeL c (nI k) n j
  | 0, _, _ => rfl
  | n + 1, j, hj => by
    unfold mFreeL cFreeL
    rw [cHk_eq hR hk he, freeL_sim hR hI hk he n (j + 1) (by omega)]
    obtain ⟨q, hq, e⟩ := cHk_nI hI hk he (j := j) (by omega)
    rw [e, free_sim hR hI hq]
theorem freeL_val {c : cSt} {x : Int32} : ∀ n j, cFreeL c x n j = -1 ∨ cFree c (cFreeL c x n j) = true
  | 0, _ => Or.inl rfl
  | n + 1, j => by
    unfold cFreeL
    by_cases h : cFree c (cHk c x (nI j)) = true
    · rw [if_pos h]; exact Or.inr h
    · rw [if_neg h]; exact freeL_val n (j + 1)
theorem first_val {c : cSt} {x : Int32} : cFirst c x = -1 ∨ cFree c (cFirst c x) = true := by
  unfold cFirst
  split
  · split
    · rename_i h; exact Or.inr h
    · split
      · rename_i h; exact Or.inr h
      · exact freeL_val 24 0
  · exact freeL_val 24 0
theorem first_sim {c d : cSt} (hR : Rel c (d 1)) (hI : Inv 24 c) {k : Nat} (hk : k < 16) (he : ¬ c 2 k = -1) : mFirst d (nI k) = cFirst c (nI k) := by
  have h5 : d 1 (9 * k + 4) = c 5 k := hR.row k hk he 3 (by omega)
  unfold mFirst cFirst
  rw [freeL_sim hR hI hk he 24 0 (by omega)]
  unfold mPl cMP
  rw [ix_nI (by omega), h5]
  rcases hI.mat k hk he with e | ⟨m, hm, e, hx, -, -⟩
  · rw [e, cEx_m1, if_pos (show (-1 : Int32) < 0 by decide), if_neg (show ¬ false = true by decide), if_neg (show ¬ hHole (-1) = true by decide)]
  · have h3 : d 1 (9 * m + 3) = c 4 m := hR.row m hm hx 2 (by omega)
    rw [e, (cEx_nI hm).mpr hx, if_neg (nI_pos (by omega)), ix_nI (by omega), h3, if_pos rfl, hHole_mIn]
    by_cases hp : hHole (c 4 m) = true
    · rw [if_pos hp, if_neg (by rw [hp]; decide)]
      by_cases h1 : cFree c (c 4 m - 1) = true
      · rw [if_pos h1, if_pos ((mFree_c hR hI _).mpr h1)]
      · rw [if_neg h1, if_neg (fun q => h1 ((mFree_c hR hI _).mp q))]
        by_cases h2 : cFree c (c 4 m + 1) = true
        · rw [if_pos h2, if_pos ((mFree_c hR hI _).mpr h2)]
        · rw [if_neg h2, if_neg (fun q => h2 ((mFree_c hR hI _).mp q))]
    · rw [if_neg hp, if_pos (by rw [Bool.not_eq_true] at hp; exact hp)]
