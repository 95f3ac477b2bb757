/-! numbers that are counted in two ways -/
def dsum (R : Nat → Nat → Bool) (m : Nat) : Nat → Nat
  | 0 => 0
  | n + 1 => dsum R m n + cnt (R n) m
theorem dsum_succ {Q : Nat → Nat → Bool} {n : Nat} : ∀ m, dsum Q (n + 1) m = dsum Q n m + cnt (fun j => Q j n) m
  | 0 => rfl
  | m + 1 => by
    have ih := dsum_succ (Q := Q) (n := n) m
    show dsum Q (n + 1) m + cnt (Q m) (n + 1) = dsum Q n m + cnt (Q m) n + (if Q m n = true then cnt (fun j => Q j n) m + 1 else cnt (fun j => Q j n) m)
    rw [ih]
    show _ + (if Q m n = true then cnt (Q m) n + 1 else cnt (Q m) n) = _
    split <;> omega
theorem dsum_0 {Q : Nat → Nat → Bool} : ∀ m, dsum Q 0 m = 0
  | 0 => rfl
  | m + 1 => by show dsum Q 0 m + 0 = 0; rw [dsum_0 m]
theorem dsum_swap {R : Nat → Nat → Bool} {m : Nat} : ∀ n, dsum R m n = dsum (fun j k => R k j) n m
  | 0 => (dsum_0 m).symm
  | n + 1 => by
    rw [dsum_succ m, ← dsum_swap n]
    rfl
theorem dsum_ext {R S : Nat → Nat → Bool} {m : Nat} : ∀ n, (∀ k, k < n → ∀ j, j < m → R k j = S k j) → dsum R m n = dsum S m n
  | 0, _ => rfl
  | n + 1, h => by
    show dsum R m n + cnt (R n) m = dsum S m n + cnt (S n) m
    rw [dsum_ext n fun k hk => h k (by omega), cnt_ext m fun j hj => h n (by omega) j hj]
theorem dsum_add {R S T : Nat → Nat → Bool} {m : Nat} : ∀ n, (∀ k, k < n → cnt (R k) m = cnt (S k) m + cnt (T k) m) → dsum R m n = dsum S m n + dsum T m n
  | 0, _ => rfl
  | n + 1, h => by
    show dsum R m n + cnt (R n) m = dsum S m n + cnt (S n) m + (dsum T m n + cnt (T n) m)
    rw [dsum_add n fun k hk => h k (by omega), h n (by omega)]
    omega
theorem dsum_cnt {R : Nat → Nat → Bool} {P : Nat → Bool} {m : Nat} : ∀ n, (∀ k, k < n → cnt (R k) m = if P k = true then 1 else 0) → dsum R m n = cnt P n
  | 0, _ => rfl
  | n + 1, h => by
    show dsum R m n + cnt (R n) m = (if P n = true then cnt P n + 1 else cnt P n)
    rw [dsum_cnt n fun k hk => h k (by omega), h n (by omega)]
    split <;> rfl
theorem cnt_none {P : Nat → Bool} : ∀ n, (∀ k, k < n → P k = false) → cnt P n = 0
  | 0, _ => rfl
  | n + 1, h => by
    unfold cnt
    rw [h n (by omega), if_neg (by decide)]
    exact cnt_none n fun k hk => h k (by omega)
theorem cnt_one {P : Nat → Bool} {k : Nat} : ∀ n, k < n → P k = true → (∀ q, q < n → P q = true → q = k) → cnt P n = 1
  | 0, hk, _, _ => absurd hk (by omega)
  | n + 1, hk, hp, hu => by
    unfold cnt
    by_cases hn : P n = true
    · have e := hu n (by omega) hn
      rw [if_pos hn, cnt_none n fun q hq => by
        rw [← Bool.not_eq_true]
        intro w
        have := hu q (by omega) w
        omega]
    · rw [if_neg hn]
      have : k ≠ n := fun q => hn (q ▸ hp)
      exact cnt_one n (by omega) hp fun q hq => hu q (by omega)
theorem cnt_add2 {P Q S : Nat → Bool} : ∀ n, (∀ k, k < n → (P k = true ∧ ((Q k = true ∧ S k = false) ∨ (Q k = false ∧ S k = true))) ∨ (P k = false ∧ Q k = false ∧ S k = false)) → cnt P n = cnt Q n + cnt S n
  | 0, _ => rfl
  | n + 1, h => by
    have ih := cnt_add2 n fun k hk => h k (by omega)
    unfold cnt
    rcases h n (by omega) with ⟨h1, ⟨h2, h3⟩ | ⟨h2, h3⟩⟩ | ⟨h1, h2, h3⟩ <;> rw [h1, h2, h3, ih] <;> simp <;> omega
/-! pairs -/
theorem pairs_sim {c d : cSt} (hR : Rel c (d 1)) (hI : Inv 24 c) : cPairs c = mPairs d := by
  have hM : ∀ k, k < 16 → (∀ j, j < 16 → (cEx c (nI k) && decide (c 5 k = nI j)) = (cEx c (nI j) && decide (c 5 j = nI k))) := fun k hk j hj => by
    have key : ∀ a b, a < 16 → b < 16 → (cEx c (nI a) && decide (c 5 a = nI b)) = true → (cEx c (nI b) && decide (c 5 b = nI a)) = true := fun a b ha hb w => by
      rw [Bool.and_eq_true, decide_eq_true_eq] at w ⊢
      rcases hI.mat a ha (cEx_at ha w.1) with e | ⟨m, hm, e, hx, r, hne⟩
      · exact (nI_nm (a := b) (by omega) (w.2.symm.trans e)).elim
      · have := nI_inj (by omega) (by omega) (w.2.symm.trans e)
        rw [this]; exact ⟨(cEx_nI hm).mpr hx, r⟩
    rw [Bool.eq_iff_iff]
    exact ⟨key k j hk hj, key j k hj hk⟩
  have hA : ∀ k, k < 16 → cnt (fun j => (cEx c (nI k) && decide (c 5 k = nI j)) && decide (k < j)) 16 = if (mDove d (nI k) && decide (¬ d 1 (9 * k + 4) ≤ nI k)) = true then 1 else 0 := fun k hk => by
    rw [← hR.exs k hk]
    cases he : cEx c (nI k)
    · rw [cnt_none 16 fun q _ => by simp]; rfl
    · have he' := cEx_at hk he
      have d4 : d 1 (9 * k + 4) = c 5 k := hR.row k hk he' 3 (by omega)
      rw [d4]
      rcases hI.mat k hk he' with e | ⟨m, hm, e, hx, r, hne⟩
      · rw [e, cnt_none 16 fun q hq => by
          have : ¬ (-1 : Int32) = nI q := fun w => nI_nm (by omega) w.symm
          simp [this]]
        rw [if_neg]
        have : (-1 : Int32) ≤ nI k := Int32.le_of_lt (Int32.lt_of_lt_of_le (by decide) (nI_pos' (n := k) (by omega)))
        simp [this]
      · rw [e]
        by_cases hlt : k < m
        · rw [cnt_one (k := m) 16 hm (by simp [hlt]) fun q hq w => by
            simp only [Bool.and_eq_true, decide_eq_true_eq, Bool.true_and] at w
            exact (nI_inj (by omega) (by omega) w.1).symm]
          rw [if_pos]
          have : ¬ nI m ≤ nI k := nI_ge hlt (by omega)
          simp [this]
        · rw [cnt_none 16 fun q hq => by
            rw [← Bool.not_eq_true]
            intro w
            simp only [Bool.and_eq_true, decide_eq_true_eq, Bool.true_and] at w
            have := nI_inj (by omega) (by omega) w.1
            omega]
          rw [if_neg]
          have : nI m ≤ nI k := nI_le (by omega) (by omega)
          simp [this]
  have hP : ∀ k, k < 16 → cnt (fun j => cEx c (nI k) && decide (c 5 k = nI j)) 16 = if (cEx c (nI k) && decide (¬ c 5 k = -1)) = true then 1 else 0 := fun k hk => by
    cases he : cEx c (nI k)
    · rw [cnt_none 16 fun q _ => by simp]; rfl
    · have he' := cEx_at hk he
      rcases hI.mat k hk he' with e | ⟨m, hm, e, hx, r, hne⟩
      · rw [e, cnt_none 16 fun q hq => by
          have : ¬ (-1 : Int32) = nI q := fun w => nI_nm (by omega) w.symm
          simp [this]]
        rfl
      · rw [e, cnt_one (k := m) 16 hm (by simp) fun q hq w => by
            simp only [Bool.true_and, decide_eq_true_eq] at w
            exact (nI_inj (by omega) (by omega) w).symm]
        rw [if_pos]
        have : ¬ nI m = -1 := nI_nm (by omega)
        simp [this]
  have e1 := dsum_cnt (R := fun k j => cEx c (nI k) && decide (c 5 k = nI j)) (P := fun k => cEx c (nI k) && decide (¬ c 5 k = -1)) (m := 16) 16 hP
  have e2 := dsum_cnt (R := fun k j => (cEx c (nI k) && decide (c 5 k = nI j)) && decide (k < j)) (P := fun k => mDove d (nI k) && decide (¬ d 1 (9 * k + 4) ≤ nI k)) (m := 16) 16 hA
  have e3 := dsum_add (R := fun k j => cEx c (nI k) && decide (c 5 k = nI j)) (S := fun k j => (cEx c (nI k) && decide (c 5 k = nI j)) && decide (k < j)) (T := fun k j => (cEx c (nI k) && decide (c 5 k = nI j)) && decide (j < k)) (m := 16) 16 fun k hk => by
    refine cnt_add2 16 fun j hj => ?_
    cases hq : (cEx c (nI k) && decide (c 5 k = nI j))
    · exact Or.inr ⟨rfl, by simp, by simp⟩
    · left
      refine ⟨rfl, ?_⟩
      have hne : k ≠ j := fun w => by
        subst w
        rw [Bool.and_eq_true, decide_eq_true_eq] at hq
        rcases hI.mat k hk (cEx_at hk hq.1) with e | ⟨m, hm, e, hx, r, hne⟩
        · exact nI_nm (a := k) (by omega) (hq.2.symm.trans e)
        · exact hne (nI_inj (by omega) (by omega) (e.symm.trans hq.2))
      by_cases hlt : k < j
      · exact Or.inl ⟨by simp [hlt], by simp; omega⟩
      · exact Or.inr ⟨by simp; omega, by simp; omega⟩
  have e4 : dsum (fun k j => (cEx c (nI k) && decide (c 5 k = nI j)) && decide (j < k)) 16 16 = dsum (fun k j => (cEx c (nI k) && decide (c 5 k = nI j)) && decide (k < j)) 16 16 := by
    rw [dsum_swap 16]
    refine dsum_ext 16 fun k hk j hj => ?_
    show ((cEx c (nI j) && decide (c 5 j = nI k)) && decide (k < j)) = _
    rw [hM j hj k hk]
  unfold cPairs mPairs
  rw [← e1, ← e2, e3, e4]
  generalize hG : dsum (fun k j => (cEx c (nI k) && decide (c 5 k = nI j)) && decide (k < j)) 16 16 = a
  have ha : a ≤ 16 := by rw [← hG, e2]; exact cnt_le _ 16
  rw [show (2 : Int32) = nI 2 from rfl, pk_div (by omega) (by omega) (by omega)]
  congr 1
  omega
/-! doves in holes -/
theorem sitH_sim {c d : cSt} (hR : Rel c (d 1)) (hI : Inv 24 c) : cSitH c = mAt d 0 23 := by
  rw [inHoles hR]
  unfold cSitH
  have e1 := dsum_cnt (R := fun h k => cEx c (nI k) && decide (c 4 k = nI h)) (P := fun h => decide (¬ c 11 h = -1)) (m := 16) 24 fun h hh => by
    rcases hI.sit h hh (by omega) with e | ⟨m, hm, e, hx, r⟩
    · rw [e, cnt_none 16 fun q hq => by
        rw [← Bool.not_eq_true]
        intro w
        rw [Bool.and_eq_true, decide_eq_true_eq] at w
        have := hI.stt q hq (cEx_at hq w.1) h hh w.2
        rw [e] at this
        exact nI_nm (by omega) this.symm]
      rfl
    · rw [cnt_one (k := m) 16 hm (by rw [(cEx_nI hm).mpr hx, r]; simp) fun q hq w => by
        rw [Bool.and_eq_true, decide_eq_true_eq] at w
        have := hI.stt q hq (cEx_at hq w.1) h hh w.2
        rw [e] at this
        exact (nI_inj (by omega) (by omega) this).symm]
      rw [if_pos]
      have : ¬ nI m = -1 := nI_nm (by omega)
      rw [e]
      simp [this]
  have e2 := dsum_cnt (R := fun k h => cEx c (nI k) && decide (c 4 k = nI h)) (P := fun k => cEx c (nI k) && hHole (c 4 k)) (m := 24) 16 fun k hk => by
    cases he : cEx c (nI k)
    · rw [cnt_none 24 fun q _ => by simp]; rfl
    · rcases hI.plc k hk (cEx_at hk he) with e | ⟨n, hn, e⟩
      · rw [e, cnt_none 24 fun q hq => by
          have : ¬ (-1 : Int32) = nI q := fun w => nI_nm (by omega) w.symm
          simp [this]]
        rfl
      · rw [e]
        by_cases h24 : n < 24
        · rw [cnt_one (k := n) 24 h24 (by simp) fun q hq w => by
              simp only [Bool.true_and, decide_eq_true_eq] at w
              exact (nI_inj (by omega) (by omega) w).symm]
          rw [if_pos]
          rw [(hHole_nI (by omega)).mpr h24]; rfl
        · rw [cnt_none 24 fun q hq => by
            have : ¬ nI n = nI q := fun w => by have := nI_inj (by omega) (by omega) w; omega
            simp [this]]
          rw [if_neg]
          intro w
          rw [Bool.true_and, hHole_nI (by omega)] at w
          exact h24 w
  rw [← e1, ← e2, dsum_swap 24]
theorem sitD_sim {c d : cSt} (hR : Rel c (d 1)) (hI : Inv 24 c) : cSitD c = mAt d 0 23 := by
  rw [inHoles hR]
  unfold cSitD cDoves cAt
  have e1 : cnt (fun k => cEx c (nI k)) 16 = cnt (fun k => cEx c (nI k) && hHole (c 4 k)) 16 + cnt (fun k => cEx c (nI k) && !hHole (c 4 k)) 16 := cnt_add2 16 fun k hk => by
    show (cEx c (nI k) = true ∧ _) ∨ _
    cases cEx c (nI k) <;> cases hHole (c 4 k) <;> simp
  have e2 : cnt (fun k => cEx c (nI k) && !hHole (c 4 k)) 16 = cnt (fun k => cEx c (nI k) && decide (c 4 k = 24)) 16 + cnt (fun k => cEx c (nI k) && decide (c 4 k = -1)) 16 := cnt_add2 16 fun k hk => by
    show ((cEx c (nI k) && !hHole (c 4 k)) = true ∧ (((cEx c (nI k) && decide (c 4 k = 24)) = true ∧ (cEx c (nI k) && decide (c 4 k = -1)) = false) ∨ ((cEx c (nI k) && decide (c 4 k = 24)) = false ∧ (cEx c (nI k) && decide (c 4 k = -1)) = true))) ∨ ((cEx c (nI k) && !hHole (c 4 k)) = false ∧ (cEx c (nI k) && decide (c 4 k = 24)) = false ∧ (cEx c (nI k) && decide (c 4 k = -1)) = false)
    cases he : cEx c (nI k)
    · right; simp
    · rcases hI.plc k hk (cEx_at hk he) with e | ⟨n, hn, e⟩
      · left; rw [e]; decide
      · rw [e]
        by_cases h24 : n = 24
        · left; subst h24; decide
        · right
          have a1 : hHole (nI n) = true := (hHole_nI (by omega)).mpr (by omega)
          have a2 : ¬ nI n = 24 := fun w => h24 (nI_inj (b := 24) (by omega) (by omega) w)
          have a3 : ¬ nI n = -1 := nI_nm (by omega)
          rw [a1, decide_eq_false a2, decide_eq_false a3]; decide
  rw [e1, e2]
  generalize cnt (fun k => cEx c (nI k) && hHole (c 4 k)) 16 = a
  generalize cnt (fun k => cEx c (nI k) && decide (c 4 k = 24)) 16 = b
  generalize cnt (fun k => cEx c (nI k) && decide (c 4 k = -1)) 16 = g
  rw [pk_sub (by omega), pk_sub (by omega)]
  congr 1
  omega
