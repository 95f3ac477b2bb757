/-! the class and the reference: how their contents go together -/
def zU (f : Nat → Int32) (i : Nat) (v : Int32) : Nat → Int32 := fun q => if q = i then v else f q
theorem zU_at {f : Nat → Int32} {i : Nat} {v : Int32} : zU f i v i = v := if_pos rfl
theorem zU_ne {f : Nat → Int32} {i q : Nat} {v : Int32} (h : q ≠ i) : zU f i v q = f q := if_neg h
theorem cWr {c : cSt} {j i : Nat} {v : Int32} : cW c j i v j = zU (c j) i v := by funext q; simp [cW, zU]
theorem cWn {c : cSt} {j i j' : Nat} {v : Int32} (h : j' ≠ j) : cW c j i v j' = c j' := by funext q; simp [cW, h]
theorem nI_inj {a b : Nat} (ha : a < 2 ^ 31) (hb : b < 2 ^ 31) (h : nI a = nI b) : a = b := (nI_eq ha hb).mp h
theorem nI_nm {a : Nat} (ha : a < 2 ^ 31) : ¬ nI a = -1 := fun h => nI_pos ha (by rw [h]; decide)
def Rel (c : cSt) (z : Nat → Int32) : Prop :=
  (∀ k, k < 16 → (c 2 k = -1 ∧ z (9 * k) = 0) ∨ (¬ c 2 k = -1 ∧ z (9 * k) = 1)) ∧
  (∀ k, k < 16 → ¬ c 2 k = -1 → ∀ y, y < 8 → z (9 * k + (1 + y)) = c (2 + y) k) ∧
  (∀ h, h < 24 → (c 13 h = 1 ∧ z (144 + h) = 0) ∨ (c 13 h = 0 ∧ z (144 + h) = 1)) ∧
  z 168 = c 0 7 ∧ z 169 = c 0 6 ∧ (∀ j, j < 2 → z (170 + j) = c 14 j) ∧ z 172 = c 0 8 ∧ z 173 = c 0 9 ∧
  (∀ j, j < 4 → z (174 + j) = c 15 j) ∧ (∀ j, j < 2 → z (178 + j) = c 16 j) ∧ z 180 = c 17 2 ∧
  (∀ k, k < 25 → nI k < c 17 2 → z (181 + 2 * k) = c 18 k ∧ z (181 + 2 * k + 1) = c 19 k)
theorem Rel.ex {c : cSt} {z : Nat → Int32} (h : Rel c z) : ∀ k, k < 16 → (c 2 k = -1 ∧ z (9 * k) = 0) ∨ (¬ c 2 k = -1 ∧ z (9 * k) = 1) := h.1
theorem Rel.row {c : cSt} {z : Nat → Int32} (h : Rel c z) : ∀ k, k < 16 → ¬ c 2 k = -1 → ∀ y, y < 8 → z (9 * k + (1 + y)) = c (2 + y) k := h.2.1
theorem Rel.opn {c : cSt} {z : Nat → Int32} (h : Rel c z) : ∀ h, h < 24 → (c 13 h = 1 ∧ z (144 + h) = 0) ∨ (c 13 h = 0 ∧ z (144 + h) = 1) := h.2.2.1
theorem Rel.time {c : cSt} {z : Nat → Int32} (h : Rel c z) : z 168 = c 0 7 := h.2.2.2.1
theorem Rel.day {c : cSt} {z : Nat → Int32} (h : Rel c z) : z 169 = c 0 6 := h.2.2.2.2.1
theorem Rel.set {c : cSt} {z : Nat → Int32} (h : Rel c z) : ∀ j, j < 2 → z (170 + j) = c 14 j := h.2.2.2.2.2.1
theorem Rel.shf {c : cSt} {z : Nat → Int32} (h : Rel c z) : z 172 = c 0 8 := h.2.2.2.2.2.2.1
theorem Rel.qrl {c : cSt} {z : Nat → Int32} (h : Rel c z) : z 173 = c 0 9 := h.2.2.2.2.2.2.2.1
theorem Rel.dwn {c : cSt} {z : Nat → Int32} (h : Rel c z) : ∀ j, j < 4 → z (174 + j) = c 15 j := h.2.2.2.2.2.2.2.2.1
theorem Rel.stp {c : cSt} {z : Nat → Int32} (h : Rel c z) : ∀ j, j < 2 → z (178 + j) = c 16 j := h.2.2.2.2.2.2.2.2.2.1
theorem Rel.siz {c : cSt} {z : Nat → Int32} (h : Rel c z) : z 180 = c 17 2 := h.2.2.2.2.2.2.2.2.2.2.1
theorem Rel.who {c : cSt} {z : Nat → Int32} (h : Rel c z) : ∀ k, k < 25 → nI k < c 17 2 → z (181 + 2 * k) = c 18 k ∧ z (181 + 2 * k + 1) = c 19 k := h.2.2.2.2.2.2.2.2.2.2.2
theorem cEx_nI {c : cSt} {k : Nat} (hk : k < 16) : cEx c (nI k) = true ↔ ¬ c 2 k = -1 := by
  unfold cEx
  rw [if_neg (nI_pos (by omega)), if_neg (show ¬ (16 : Int32) ≤ nI k by rw [show (16 : Int32) = nI 16 from rfl, nI_leI (by omega) (by omega)]; omega), ix_nI (by omega)]
  by_cases h : c 2 k = -1
  · simp [h]
  · simp [h]
theorem cEx_m1 {c : cSt} : cEx c (-1) = false := rfl
theorem cEx_at {c : cSt} {k : Nat} (hk : k < 16) (h : cEx c (nI k) = true) : ¬ c 2 k = -1 := (cEx_nI hk).mp h
theorem cEx_iff {c : cSt} {x : Int32} : cEx c x = true ↔ ∃ k, k < 16 ∧ x = nI k ∧ ¬ c 2 k = -1 := by
  constructor
  · intro h
    obtain ⟨k, hk, rfl⟩ := vp_in_of (cEx_in h) (by omega)
    exact ⟨k, hk, rfl, (cEx_nI hk).mp h⟩
  · rintro ⟨k, hk, rfl, h⟩
    exact (cEx_nI hk).mpr h
theorem mIn_nI2 {k a b : Nat} (hk : k < 2 ^ 31) (ha : a < 2 ^ 31) (hb : b < 2 ^ 31) : mIn (nI k) (nI a) (nI b) = true ↔ a ≤ k ∧ k ≤ b := by
  unfold mIn
  simp only [nI_ltI hk ha, nI_ltI hb hk]
  by_cases h1 : k < a
  · simp [h1]; omega
  · by_cases h2 : b < k
    · simp [h1, h2]
    · simp [h1, h2]; omega
theorem hHole_nI {k : Nat} (hk : k < 2 ^ 31) : hHole (nI k) = true ↔ k < 24 := by
  unfold hHole
  rw [if_neg (nI_pos hk), show (24 : Int32) = nI 24 from rfl]
  simp only [nI_leI (show 24 < 2 ^ 31 by omega) hk]
  by_cases h : 24 ≤ k
  · simp [h]
  · simp [h]; omega
theorem hHole_mIn {x : Int32} : mIn x 0 23 = hHole x := by
  unfold mIn hHole
  by_cases h : x < 0
  · rw [if_pos h, if_pos h]
  · obtain ⟨k, hk, rfl⟩ := nI_of h
    rw [if_neg h, if_neg h, show (23 : Int32) = nI 23 from rfl, show (24 : Int32) = nI 24 from rfl]
    simp only [nI_ltI (show 23 < 2 ^ 31 by omega) hk, nI_leI (show 24 < 2 ^ 31 by omega) hk]
    by_cases h2 : 23 < k
    · rw [if_pos h2, if_pos (by omega)]
    · rw [if_neg h2, if_neg (by omega)]
theorem mDove_nI {d : cSt} {k : Nat} (hk : k < 16) : mDove d (nI k) = true ↔ d 1 (9 * k) = 1 := by
  unfold mDove
  rw [if_neg (show ¬ mIn (nI k) 0 15 = false by rw [Bool.not_eq_false]; exact (mIn_nI2 (a := 0) (b := 15) (by omega) (by omega) (by omega)).mpr ⟨by omega, by omega⟩), ix_nI (by omega)]
  by_cases h : d 1 (9 * k) = 1
  · simp [h]
  · simp [h]
theorem Rel.exs {c d : cSt} (h : Rel c (d 1)) (k : Nat) (hk : k < 16) : cEx c (nI k) = mDove d (nI k) := by
  rw [Bool.eq_iff_iff, cEx_nI hk, mDove_nI hk]
  rcases h.ex k hk with ⟨h1, h2⟩ | ⟨h1, h2⟩
  · simp [h1, h2]
  · simp [h1, h2]
theorem mDove_vp {d : cSt} {x : Int32} (h : mDove d x = true) : vp_in x 16 := mDove_in h
theorem Rel.exx {c d : cSt} (h : Rel c (d 1)) (x : Int32) : cEx c x = mDove d x := by
  by_cases hx : vp_in x 16
  · obtain ⟨k, hk, rfl⟩ := vp_in_of hx (by omega)
    exact h.exs k hk
  · rw [Bool.eq_iff_iff]
    exact ⟨fun q => (hx (cEx_in q)).elim, fun q => (hx (mDove_in q)).elim⟩
theorem cnt_ext {P Q : Nat → Bool} : ∀ n, (∀ k, k < n → P k = Q k) → cnt P n = cnt Q n
  | 0, _ => rfl
  | n + 1, h => by
    unfold cnt
    rw [h n (by omega), cnt_ext n (fun k hk => h k (by omega))]
theorem Rel.whyHome {c d : cSt} (h : Rel c (d 1)) {k : Nat} (hk : k < 16) (he : ¬ c 2 k = -1) {t : Int32} : cWhyHome c (nI k) t = mWhyH d (nI k) t := by
  have h3 : d 1 (9 * k + 3) = c 4 k := h.row k hk he 2 (by omega)
  unfold cWhyHome mWhyH
  rw [ix_nI (by omega), h3, h.time]
theorem Rel.atP {c d : cSt} (h : Rel c (d 1)) {P Q : Int32 → Bool} (hm : ∀ k, k < 16 → ¬ c 2 k = -1 → P (c 4 k) = Q (c 4 k)) : cnt (fun k => cEx c (nI k) && P (c 4 k)) 16 = cnt (fun k => mDove d (nI k) && Q (d 1 (9 * k + 3))) 16 := by
  refine cnt_ext 16 fun k hk => ?_
  show (cEx c (nI k) && P (c 4 k)) = (mDove d (nI k) && Q (d 1 (9 * k + 3)))
  rw [← h.exs k hk]
  cases he : cEx c (nI k)
  · rfl
  · have he' := cEx_at hk he
    have h3 : d 1 (9 * k + 3) = c 4 k := h.row k hk he' 2 (by omega)
    rw [h3, hm k hk he']
theorem mIn_one {a x : Int32} : mIn x a a = decide (x = a) := by
  unfold mIn
  by_cases h1 : x < a
  · rw [if_pos h1]
    have : ¬ x = a := fun q => by rw [q] at h1; exact Int32.lt_irrefl h1
    simp [this]
  · rw [if_neg h1]
    by_cases h2 : a < x
    · rw [if_pos h2]
      have : ¬ x = a := fun q => by rw [q] at h2; exact Int32.lt_irrefl h2
      simp [this]
    · rw [if_neg h2]
      have : x = a := Int32.le_antisymm (Int32.not_lt.mp h2) (Int32.not_lt.mp h1)
      simp [this]
theorem Rel.atPlace {c d : cSt} (h : Rel c (d 1)) {a : Int32} : cAt c a = mAt d a a := by
  unfold cAt mAt
  congr 1
  exact h.atP (P := fun x => decide (x = a)) (Q := fun x => mIn x a a) (fun _ _ _ => mIn_one.symm)
theorem Rel.sum {c d : cSt} (h : Rel c (d 1)) : ∀ n, n ≤ 16 → sumP (fun k => d 1 (9 * k)) n = nI (cnt (fun k => cEx c (nI k)) n)
  | 0, _ => rfl
  | n + 1, hn => by
    have ih := h.sum n (by omega)
    unfold sumP cnt
    rw [ih]
    rcases h.ex n (by omega) with ⟨h1, h2⟩ | ⟨h1, h2⟩
    · have he : ¬ cEx c (nI n) = true := fun q => (cEx_at (by omega) q) h1
      rw [if_neg he, h2, Int32.add_zero]
    · have he : cEx c (nI n) = true := (cEx_nI (by omega)).mpr h1
      rw [if_pos he, h2, show (1 : Int32) = nI 1 from rfl, nI_add]
theorem Rel.all {c d : cSt} (h : Rel c (d 1)) : mAll d = cDoves c := h.sum 16 (Nat.le_refl 16)
theorem Rel.home {c d : cSt} (h : Rel c (d 1)) : cHome c = nI (cnt (fun k => mDove d (nI k) && decide (d 1 (9 * k + 3) = d 1 (9 * k + 1))) 16) := by
  unfold cHome
  congr 1
  refine cnt_ext 16 fun k hk => ?_
  show (cEx c (nI k) && _) = _
  rw [← h.exs k hk]
  cases he : cEx c (nI k)
  · rfl
  · have he' := cEx_at hk he
    have h3 : d 1 (9 * k + 3) = c 4 k := h.row k hk he' 2 (by omega)
    have h1 : d 1 (9 * k + 1) = c 2 k := h.row k hk he' 0 (by omega)
    rw [h3, h1]
theorem Rel.share {c d : cSt} (h : Rel c (d 1)) : tShare c = mShare d := by
  unfold tShare mShare
  rw [h.all, h.home]
theorem Rel.dov {c d : cSt} (h : Rel c (d 1)) {k y : Nat} (hk : k < 16) (hy : y < 8) (he : ¬ c 2 k = -1) : mDoveN d (nI k) (nI y) = c (2 + y) k := by
  unfold mDoveN
  rw [ix_nI (by omega), ix_nI (by omega)]
  exact h.row k hk he y hy
theorem Rel.opens {c d : cSt} (h : Rel c (d 1)) {k : Nat} (hk : k < 24) : cOpen c (nI k) = mOpen d (nI k) := by
  have hh : hHole (nI k) = true := (hHole_nI (by omega)).mpr hk
  unfold cOpen mOpen
  rw [if_neg (show ¬ hHole (nI k) = false by rw [hh]; decide), ix_nI (by omega)]
  rcases h.opn k hk with ⟨h1, h2⟩ | ⟨h1, h2⟩
  · rw [if_pos h1, if_pos h2]
  · rw [h1, h2]; rfl
theorem Rel.openN {c d : cSt} (h : Rel c (d 1)) : cOpens c = mOpens d := by
  unfold cOpens mOpens
  congr 1
  exact cnt_ext 24 fun k hk => h.opens hk
