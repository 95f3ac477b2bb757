/-! the class and the reference: how their contents go together -/
def Rel (c : cSt) (z : Nat → Int32) : Prop := (∀ k, k < 16 → (c 2 k = -1 ∧ z (9 * k) = 0) ∨ (¬ c 2 k = -1 ∧ z (9 * k) = 1)) ∧ (∀ k, k < 16 → ¬ c 2 k = -1 → ∀ y, y < 8 → z (9 * k + (1 + y)) = c (2 + y) k) ∧ (∀ h, h < 24 → (c 13 h = 1 ∧ z (144 + h) = 0) ∨ (c 13 h = 0 ∧ z (144 + h) = 1)) ∧ (z 168 = c 0 7) ∧ (z 169 = c 0 6) ∧ (∀ j, j < 2 → z (170 + j) = c 14 j) ∧ (z 172 = c 0 8) ∧ (z 173 = c 0 9) ∧ (∀ j, j < 4 → z (174 + j) = c 15 j) ∧ (∀ j, j < 2 → z (178 + j) = c 16 j) ∧ (z 180 = c 17 2) ∧ (∀ n k, c 17 2 = nI n → k < n → z (181 + 2 * k) = c 18 k ∧ z (181 + 2 * k + 1) = c 19 k)
theorem Rel.ex {c : cSt} {z : Nat → Int32} (h : Rel c z) : ∀ k, k < 16 → (c 2 k = -1 ∧ z (9 * k) = 0) ∨ (¬ c 2 k = -1 ∧ z (9 * k) = 1) := h.1
theorem Rel.row {c : cSt} {z : Nat → Int32} (h : Rel c z) : ∀ k, k < 16 → ¬ c 2 k = -1 → ∀ y, y < 8 → z (9 * k + (1 + y)) = c (2 + y) k := h.2.1
theorem Rel.opn {c : cSt} {z : Nat → Int32} (h : Rel c z) : ∀ h, h < 24 → (c 13 h = 1 ∧ z (144 + h) = 0) ∨ (c 13 h = 0 ∧ z (144 + h) = 1) := h.2.2.1
theorem Rel.time {c : cSt} {z : Nat → Int32} (h : Rel c z) : z 168 = c 0 7 := h.2.2.2.1
theorem Rel.day {c : cSt} {z : Nat → Int32} (h : Rel c z) : z 169 = c 0 6 := h.2.2.2.2.1
theorem Rel.set {c : cSt} {z : Nat → Int32} (h : Rel c z) : ∀ j, j < 2 → z (170 + j) = c 14 j := h.2.2.2.2.2.1
theorem Rel.shf {c : cSt} {z : Nat → Int32} (h : Rel c z) : z 172 = c 0 8 := h.2.2.2.2.2.2.1
theorem Rel.qrl {c : cSt} {z : Nat → Int32} (h : Rel c z) : z 173 = c 0 9 := h.2.2.2.2.2.2.2.1
theorem Rel.dwn {c : cSt} {z : Nat → Int32} (h : Rel c z) : ∀ j, j < 4 → z (174 + j) = c 15 j := h.2.2.2.2.2.2.2.2.1
theorem Rel.stp {c : cSt} {z : Nat → Int32} (h : Rel c z) : ∀ j, j < 2 → z (178 + j) = c 16 j := h.2.2.2.2.2.2.2.2.2.1
theorem Rel.siz {c : cSt} {z : Nat → Int32} (h : Rel c z) : z 180 = c 17 2 := h.2.2.2.2.2.2.2.2.2.2.1
theorem Rel.who {c : cSt} {z : Nat → Int32} (h : Rel c z) : ∀ n k, c 17 2 = nI n → k < n → z (181 + 2 * k) = c 18 k ∧ z (181 + 2 * k + 1) = c 19 k := h.2.2.2.2.2.2.2.2.2.2.2
theorem Rel.exs {c d : cSt} (h : Rel c (d 1)) (k : Nat) (hk : k < 16) : cEx c (nI k) = mDove d (nI k) := by
  have h0 : ¬ nI k < 0 := nI_pos (by omega)
  have h16 : ¬ (16 : Int32) ≤ nI k := by
    rw [show (16 : Int32) = nI 16 from rfl, nI_leI (by omega) (by omega)]
    omega
  have h15 : mIn (nI k) 0 15 = true := by
    unfold mIn
    rw [if_neg h0, if_neg]
    rw [show (15 : Int32) = nI 15 from rfl, nI_ltI (by omega) (by omega)]
    omega
  unfold cEx mDove
  rw [if_neg h0, if_neg h16, ix_nI (by omega), if_neg (show ¬ mIn (nI k) 0 15 = false by rw [h15]; decide)]
  rcases h.ex k hk with ⟨h1, h2⟩ | ⟨h1, h2⟩
  · rw [if_pos h1, h2]; rfl
  · rw [if_neg h1, h2]; rfl
theorem cnt_ext {P Q : Nat → Bool} : ∀ n, (∀ k, k < n → P k = Q k) → cnt P n = cnt Q n
  | 0, _ => rfl
  | n + 1, h => by
    unfold cnt
    rw [h n (by omega), cnt_ext n (fun k hk => h k (by omega))]
theorem cEx_at {c : cSt} {k : Nat} (hk : k < 16) (h : cEx c (nI k) = true) : ¬ c 2 k = -1 := by
  unfold cEx at h
  split at h
  · cases h
  · split at h
    · cases h
    · split at h
      · cases h
      · rename_i h1
        rw [ix_nI (by omega)] at h1
        exact h1
theorem Rel.whyHome {c d : cSt} (h : Rel c (d 1)) {k : Nat} (hk : k < 16) (he : cEx c (nI k) = true) {t : Int32} : cWhyHome c (nI k) t = mWhyH d (nI k) t := by
  have h3 : d 1 (9 * k + 3) = c 4 k := h.row k hk (cEx_at hk he) 2 (by omega)
  unfold cWhyHome mWhyH
  rw [ix_nI (by omega), h3, h.time]
theorem Rel.atPlace {c d : cSt} (h : Rel c (d 1)) {a : Int32} (hm : ∀ x : Int32, mIn x a a = decide (x = a)) : cAt c a = mAt d a a := by
  unfold cAt mAt
  congr 1
  refine cnt_ext 16 fun k hk => ?_
  rw [h.exs k hk, hm]
  by_cases he : cEx c (nI k) = true
  · have h3 : d 1 (9 * k + 3) = c 4 k := h.row k hk (cEx_at hk he) 2 (by omega)
    rw [h3]
  · rw [← h.exs k hk]
    rw [Bool.not_eq_true] at he
    rw [he]
    rfl
theorem Rel.sum {c d : cSt} (h : Rel c (d 1)) : ∀ n, n ≤ 16 → sumP (fun k => d 1 (9 * k)) n = nI (cnt (fun k => cEx c (nI k)) n)
  | 0, _ => rfl
  | n + 1, hn => by
    have ih := h.sum n (by omega)
    unfold sumP cnt
    rw [ih]
    rcases h.ex n (by omega) with ⟨h1, h2⟩ | ⟨h1, h2⟩
    · have he : cEx c (nI n) = false := by
        rw [h.exs n (by omega)]
        unfold mDove
        rw [ix_nI (by omega), h2]
        split <;> rfl
      rw [he, if_neg (by decide), h2, Int32.add_zero]
    · have he : cEx c (nI n) = true := by
        cases hq : cEx c (nI n)
        · exfalso
          unfold cEx at hq
          rw [if_neg (nI_pos (by omega)), if_neg (show ¬ (16 : Int32) ≤ nI n by rw [show (16 : Int32) = nI 16 from rfl, nI_leI (by omega) (by omega)]; omega), ix_nI (by omega), if_neg h1] at hq
          cases hq
        · rfl
      rw [he, if_pos rfl, h2, show (1 : Int32) = nI 1 from rfl, nI_add]
theorem Rel.all {c d : cSt} (h : Rel c (d 1)) : mAll d = cDoves c := h.sum 16 (Nat.le_refl 16)
theorem Rel.home {c d : cSt} (h : Rel c (d 1)) : cHome c = nI (cnt (fun k => mDove d (nI k) && decide (d 1 (9 * k + 3) = d 1 (9 * k + 1))) 16) := by
  unfold cHome
  congr 1
  refine cnt_ext 16 fun k hk => ?_
  by_cases he : cEx c (nI k) = true
  · have h3 : d 1 (9 * k + 3) = c 4 k := h.row k hk (cEx_at hk he) 2 (by omega)
    have h1 : d 1 (9 * k + 1) = c 2 k := h.row k hk (cEx_at hk he) 0 (by omega)
    rw [← h.exs k hk, h3, h1]
  · rw [← h.exs k hk]
    rw [Bool.not_eq_true] at he
    rw [he]
    rfl
theorem Rel.share {c d : cSt} (h : Rel c (d 1)) : tShare c = mShare d := by
  unfold tShare mShare
  rw [h.all, h.home]
theorem Rel.dov {c d : cSt} (h : Rel c (d 1)) {k y : Nat} (hk : k < 16) (hy : y < 8) (he : cEx c (nI k) = true) : mDoveN d (nI k) (nI y) = c (2 + y) k := by
  unfold mDoveN
  rw [ix_nI (by omega), ix_nI (by omega)]
  exact h.row k hk (cEx_at hk he) y hy
theorem Rel.opens {c d : cSt} (h : Rel c (d 1)) {k : Nat} (hk : k < 24) : cOpen c (nI k) = mOpen d (nI k) := by
  have hh : hHole (nI k) = true := by
    unfold hHole
    rw [if_neg (nI_pos (by omega)), if_neg (show ¬ (24 : Int32) ≤ nI k by rw [show (24 : Int32) = nI 24 from rfl, nI_leI (by omega) (by omega)]; omega)]
  unfold cOpen mOpen
  rw [if_neg (show ¬ hHole (nI k) = false by rw [hh]; decide), ix_nI (by omega)]
  rcases h.opn k hk with ⟨h1, h2⟩ | ⟨h1, h2⟩
  · rw [if_pos h1, if_pos h2]
  · rw [h1, h2]; rfl
theorem Rel.openN {c d : cSt} (h : Rel c (d 1)) : cOpens c = mOpens d := by
  unfold cOpens mOpens
  congr 1
  exact cnt_ext 24 fun k hk => h.opens hk
