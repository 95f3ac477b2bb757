/-! numbers that are counted in two ways -/
def dsum (R : Nat → Nat → Bool) (m : Nat) : Nat → Nat
  | 0 => 0
  | n + 1 => dsum R m n + cnt (R n) m
theorem dsum_succ {Q : Nat → Nat → Bool} {n : Nat} : ∀ m, dsum Q (n + 1) m = dsum Q n m + cnt (fun j => Q j n) m
  | 0 => rfl
  | m + 1 => by
    have ih := dsum_succ (Q := Q) (n := n) m
    show dsum Q (n + 1) m + cnt (Q m) (n + 1) = dsum Q n m + cnt (Q m) n + (if Q m n = true then cnt (fun j => Q j n) m + 1 else cnt (fun j => Q j n) m)
    rw [ih]
    show _ + (if Q m n = true then cnt (Q m) n + 1 else cnt (Q m) n) = _
    split <;> omega
theorem dsum_0 {Q : Nat → Nat → Bool} : ∀ m, dsum Q 0 m = 0
  | 0 => rfl
  | m + 1 => by show dsum Q 0 m + 0 = 0; rw [dsum_0 m]
theorem dsum_swap {R : Nat → Nat → Bool} {m : Nat} : ∀ n, dsum R m n = dsum (fun j k => R k j) n m
  | 0 => (dsum_0 m).symm
  | n + 1 => by
    rw [dsum_succ m, ← dsum_swap n]
    rfl
theorem dsum_ext {R S : Nat → Nat → Bool} {m : Nat} : ∀ n, (∀ k, k < n → ∀ j, j < m → R k j = S k j) → dsum R m n = dsum S m n
  | 0, _ => rfl
  | n + 1, h => by
    show dsum R m n + cnt (R n) m = dsum S m n + cnt (S n) m
    rw [dsum_ext n fun k hk => h k (by omega), cnt_ext m fun j hj => h n (by omega) j hj]
theorem dsum_add {R S T : Nat → Nat → Bool} {m : Nat} : ∀ n, (∀ k, k < n → cnt (R k) m = cnt (S k) m + cnt (T k) m) → dsum R m n = dsum S m n + dsum T m n
  | 0, _ => rfl
  | n + 1, h => by
    show dsum R m n + cnt (R n) m = dsum S m n + cnt (S n) m + (dsum T m n + cnt (T n) m)
    rw [dsum_add n fun k hk => h k (by omega), h n (by omega)]
    omega
theorem dsum_cnt {R : Nat → Nat → Bool} {P : Nat → Bool} {m : Nat} : ∀ n, (∀ k, k < n → cnt (R k) m = if P k = true then 1 else 0) → dsum R m n = cnt P n
  | 0, _ => rfl
  | n + 1, h => by
    show dsum R m n + cnt (R n) m = (if P n = true then cnt P n + 1 else cnt P n)
    rw [dsum_cnt n fun k hk => h k (by omega), h n (by omega)]
    split <;> rfl
theorem cnt_none {P : Nat → Bool} : ∀ n, (∀ k, k < n → P k = false) → cnt P n = 0
  | 0, _ => rfl
  | n + 1, h => by
    unfold cnt
    rw [h n (by omega), if_neg (by decide)]
    exact cnt_none n fun k hk => h k (by omega)
theorem cnt_one {P : Nat → Bool} {k : Nat} : ∀ n, k < n → P k = true → (∀ q, q < n → P q = true → q = k) → cnt P n = 1
  | 0, hk, _, _ => absurd hk (by omega)
  | n + 1, hk, hp, hu => by
    unfold cnt
    by_cases hn : P n = true
    · have e := hu n (by omega) hn
      rw [if_pos hn, cnt_none n fun q hq => by
        rw [← Bool.not_eq_true]
        intro w
        have := hu q (by omega) w
        omega]
    · rw [if_neg hn]
      have : k ≠ n := fun q => hn (q ▸ hp)
      exact cnt_one n (by omega) hp fun q hq => hu q (by omega)
theorem cnt_add2 {P Q S : Nat → Bool} : ∀ n, (∀ k, k < n → (P k = true ∧ ((Q k = true ∧ S k = false) ∨ (Q k = false ∧ S k = true))) ∨ (P k = false ∧ Q k = false ∧ S k = false)) → cnt P n = cnt Q n + cnt S n
  | 0, _ => rfl
  | n + 1, h => by
    have ih := cnt_add2 n fun k hk => h k (by omega)
    unfold cnt
    rcases h n (by omega) with ⟨h1, ⟨h2, h3⟩ | ⟨h2, h3⟩⟩ | ⟨h1, h2, h3⟩ <;> rw [h1, h2, h3, ih] <;> simp <;> omega

/-! pairs -/
theorem pairsL_sim {b : Prop} {c v : cSt} (hR : RelL b c v) (hI : Inv 24 c) : cPairs c = nI (cnt (fun q => lPrs v q) 16) ∧ cnt (fun k => cEx c (nI k) && decide (¬ c 5 k = -1)) 16 = 2 * cnt (fun q => lPrs v q) 16 := by
  have hM : ∀ k, k < 16 → (∀ j, j < 16 → (cEx c (nI k) && decide (c 5 k = nI j)) = (cEx c (nI j) && decide (c 5 j = nI k))) := fun k hk j hj => by
    have key : ∀ a b, a < 16 → b < 16 → (cEx c (nI a) && decide (c 5 a = nI b)) = true → (cEx c (nI b) && decide (c 5 b = nI a)) = true := fun a b ha hb w => by
      rw [Bool.and_eq_true, decide_eq_true_eq] at w ⊢
      rcases hI.mat a ha (cEx_at ha w.1) with e | ⟨m, hm, e, hx, r, hne⟩
      · exact (nI_nm (a := b) (by omega) (w.2.symm.trans e)).elim
      · have := nI_inj (by omega) (by omega) (w.2.symm.trans e)
        rw [this]; exact ⟨(cEx_nI hm).mpr hx, r⟩
    rw [Bool.eq_iff_iff]
    exact ⟨key k j hk hj, key j k hj hk⟩
  have hA : ∀ k, k < 16 → cnt (fun j => (cEx c (nI k) && decide (c 5 k = nI j)) && decide (k < j)) 16 = if lPrs v k = true then 1 else 0 := fun k hk => by
    unfold lPrs
    rw [hR.exs k hk]
    cases he : cEx c (nI k)
    · rw [cnt_none 16 fun q _ => by simp]; rfl
    · have he' := cEx_at hk he
      have d4 : v 1 (4 * k + 3) = c 5 k := hR.row k hk he' 3 (by omega)
      rw [d4]
      rcases hI.mat k hk he' with e | ⟨m, hm, e, hx, r, hne⟩
      · rw [e, cnt_none 16 fun q hq => by
          have : ¬ (-1 : Int32) = nI q := fun w => nI_nm (by omega) w.symm
          simp [this]]
        rw [if_neg]
        have : (-1 : Int32) ≤ nI k := Int32.le_of_lt (Int32.lt_of_lt_of_le (by decide) (nI_pos' (n := k) (by omega)))
        simp [this]
      · rw [e]
        by_cases hlt : k < m
        · rw [cnt_one (k := m) 16 hm (by simp [hlt]) fun q hq w => by
            simp only [Bool.and_eq_true, decide_eq_true_eq, Bool.true_and] at w
            exact (nI_inj (by omega) (by omega) w.1).symm]
          rw [if_pos]
          have : ¬ nI m ≤ nI k := nI_ge hlt (by omega)
          simp [this]
        · rw [cnt_none 16 fun q hq => by
            rw [← Bool.not_eq_true]
            intro w
            simp only [Bool.and_eq_true, decide_eq_true_eq, Bool.true_and] at w
            have := nI_inj (by omega) (by omega) w.1
            omega]
          rw [if_neg]
          have : nI m ≤ nI k := nI_le (by omega) (by omega)
          simp [this]
  have hP : ∀ k, k < 16 → cnt (fun j => cEx c (nI k) && decide (c 5 k = nI j)) 16 = if (cEx c (nI k) && decide (¬ c 5 k = -1)) = true then 1 else 0 := fun k hk => by
    cases he : cEx c (nI k)
    · rw [cnt_none 16 fun q _ => by simp]; rfl
    · have he' := cEx_at hk he
      rcases hI.mat k hk he' with e | ⟨m, hm, e, hx, r, hne⟩
      · rw [e, cnt_none 16 fun q hq => by
          have : ¬ (-1 : Int32) = nI q := fun w => nI_nm (by omega) w.symm
          simp [this]]
        rfl
      · rw [e, cnt_one (k := m) 16 hm (by simp) fun q hq w => by
            simp only [Bool.true_and, decide_eq_true_eq] at w
            exact (nI_inj (by omega) (by omega) w).symm]
        rw [if_pos]
        have : ¬ nI m = -1 := nI_nm (by omega)
        simp [this]
  have e1 := dsum_cnt (R := fun k j => cEx c (nI k) && decide (c 5 k = nI j)) (P := fun k => cEx c (nI k) && decide (¬ c 5 k = -1)) (m := 16) 16 hP
  have e2 := dsum_cnt (R := fun k j => (cEx c (nI k) && decide (c 5 k = nI j)) && decide (k < j)) (P := fun k => lPrs v k) (m := 16) 16 hA
  have e3 := dsum_add (R := fun k j => cEx c (nI k) && decide (c 5 k = nI j)) (S := fun k j => (cEx c (nI k) && decide (c 5 k = nI j)) && decide (k < j)) (T := fun k j => (cEx c (nI k) && decide (c 5 k = nI j)) && decide (j < k)) (m := 16) 16 fun k hk => by
    refine cnt_add2 16 fun j hj => ?_
    cases hq : (cEx c (nI k) && decide (c 5 k = nI j))
    · exact Or.inr ⟨rfl, by simp, by simp⟩
    · left
      refine ⟨rfl, ?_⟩
      have hne : k ≠ j := fun w => by
        subst w
        rw [Bool.and_eq_true, decide_eq_true_eq] at hq
        rcases hI.mat k hk (cEx_at hk hq.1) with e | ⟨m, hm, e, hx, r, hne⟩
        · exact nI_nm (a := k) (by omega) (hq.2.symm.trans e)
        · exact hne (nI_inj (by omega) (by omega) (e.symm.trans hq.2))
      by_cases hlt : k < j
      · exact Or.inl ⟨by simp [hlt], by simp; omega⟩
      · exact Or.inr ⟨by simp; omega, by simp; omega⟩
  have e4 : dsum (fun k j => (cEx c (nI k) && decide (c 5 k = nI j)) && decide (j < k)) 16 16 = dsum (fun k j => (cEx c (nI k) && decide (c 5 k = nI j)) && decide (k < j)) 16 16 := by
    rw [dsum_swap 16]
    refine dsum_ext 16 fun k hk j hj => ?_
    show ((cEx c (nI j) && decide (c 5 j = nI k)) && decide (k < j)) = _
    rw [hM j hj k hk]
  have hT : cnt (fun k => cEx c (nI k) && decide (¬ c 5 k = -1)) 16 = 2 * cnt (fun q => lPrs v q) 16 := by
    rw [← e1, ← e2, e3, e4]
    omega
  refine ⟨?_, hT⟩
  unfold cPairs
  rw [hT]
  have ha : cnt (fun q => lPrs v q) 16 ≤ 16 := cnt_le _ 16
  rw [show (2 : Int32) = nI 2 from rfl, pk_div (by omega) (by omega) (by omega)]
  congr 1
  omega

/-! doves in holes -/
theorem sitH_c {c : cSt} (hI : Inv 24 c) : cSitH c = nI (cnt (fun k => cEx c (nI k) && hHole (c 4 k)) 16) := by
  unfold cSitH
  have e1 := dsum_cnt (R := fun h k => cEx c (nI k) && decide (c 4 k = nI h)) (P := fun h => decide (¬ c 11 h = -1)) (m := 16) 24 fun h hh => by
    rcases hI.sit h hh (by omega) with e | ⟨m, hm, e, hx, r⟩
    · rw [e, cnt_none 16 fun q hq => by
        rw [← Bool.not_eq_true]
        intro w
        rw [Bool.and_eq_true, decide_eq_true_eq] at w
        have := hI.stt q hq (cEx_at hq w.1) h hh w.2
        rw [e] at this
        exact nI_nm (by omega) this.symm]
      rfl
    · rw [cnt_one (k := m) 16 hm (by rw [(cEx_nI hm).mpr hx, r]; simp) fun q hq w => by
        rw [Bool.and_eq_true, decide_eq_true_eq] at w
        have := hI.stt q hq (cEx_at hq w.1) h hh w.2
        rw [e] at this
        exact (nI_inj (by omega) (by omega) this).symm]
      rw [if_pos]
      have : ¬ nI m = -1 := nI_nm (by omega)
      rw [e]
      simp [this]
  have e2 := dsum_cnt (R := fun k h => cEx c (nI k) && decide (c 4 k = nI h)) (P := fun k => cEx c (nI k) && hHole (c 4 k)) (m := 24) 16 fun k hk => by
    cases he : cEx c (nI k)
    · rw [cnt_none 24 fun q _ => by simp]; rfl
    · rcases hI.plc k hk (cEx_at hk he) with e | ⟨n, hn, e⟩
      · rw [e, cnt_none 24 fun q hq => by
          have : ¬ (-1 : Int32) = nI q := fun w => nI_nm (by omega) w.symm
          simp [this]]
        rfl
      · rw [e]
        by_cases h24 : n < 24
        · rw [cnt_one (k := n) 24 h24 (by simp) fun q hq w => by
              simp only [Bool.true_and, decide_eq_true_eq] at w
              exact (nI_inj (by omega) (by omega) w).symm]
          rw [if_pos]
          rw [(hHole_nI (by omega)).mpr h24]; rfl
        · rw [cnt_none 24 fun q hq => by
            have : ¬ nI n = nI q := fun w => by have := nI_inj (by omega) (by omega) w; omega
            simp [this]]
          rw [if_neg]
          intro w
          rw [Bool.true_and, hHole_nI (by omega)] at w
          exact h24 w
  rw [← e1, ← e2, dsum_swap 24]
theorem sitD_c {c : cSt} (hI : Inv 24 c) : cSitD c = nI (cnt (fun k => cEx c (nI k) && hHole (c 4 k)) 16) := by
  unfold cSitD cDoves cAt
  have e1 : cnt (fun k => cEx c (nI k)) 16 = cnt (fun k => cEx c (nI k) && hHole (c 4 k)) 16 + cnt (fun k => cEx c (nI k) && !hHole (c 4 k)) 16 := cnt_add2 16 fun k hk => by
    show (cEx c (nI k) = true ∧ _) ∨ _
    cases cEx c (nI k) <;> cases hHole (c 4 k) <;> simp
  have e2 : cnt (fun k => cEx c (nI k) && !hHole (c 4 k)) 16 = cnt (fun k => cEx c (nI k) && decide (c 4 k = 24)) 16 + cnt (fun k => cEx c (nI k) && decide (c 4 k = -1)) 16 := cnt_add2 16 fun k hk => by
    show ((cEx c (nI k) && !hHole (c 4 k)) = true ∧ (((cEx c (nI k) && decide (c 4 k = 24)) = true ∧ (cEx c (nI k) && decide (c 4 k = -1)) = false) ∨ ((cEx c (nI k) && decide (c 4 k = 24)) = false ∧ (cEx c (nI k) && decide (c 4 k = -1)) = true))) ∨ ((cEx c (nI k) && !hHole (c 4 k)) = false ∧ (cEx c (nI k) && decide (c 4 k = 24)) = false ∧ (cEx c (nI k) && decide (c 4 k = -1)) = false)
    cases he : cEx c (nI k)
    · right; simp
    · rcases hI.plc k hk (cEx_at hk he) with e | ⟨n, hn, e⟩
      · left; rw [e]; decide
      · rw [e]
        by_cases h24 : n = 24
        · left; subst h24; decide
        · right
          have a1 : hHole (nI n) = true := (hHole_nI (by omega)).mpr (by omega)
          have a2 : ¬ nI n = 24 := fun w => h24 (nI_inj (b := 24) (by omega) (by omega) w)
          have a3 : ¬ nI n = -1 := nI_nm (by omega)
          rw [a1, decide_eq_false a2, decide_eq_false a3]; decide
  rw [e1, e2]
  generalize cnt (fun k => cEx c (nI k) && hHole (c 4 k)) 16 = a
  generalize cnt (fun k => cEx c (nI k) && decide (c 4 k = 24)) 16 = b
  generalize cnt (fun k => cEx c (nI k) && decide (c 4 k = -1)) 16 = g
  rw [pk_sub (by omega), pk_sub (by omega)]
  congr 1
  omega

/-! the law's counts -/
theorem lMany_eq {b : Prop} {c v : cSt} {lo hi : Int32} (hR : RelL b c v) {P : Int32 → Bool} (hm : ∀ k, k < 16 → ¬ c 2 k = -1 → (decide (¬ c 4 k < lo) && decide (¬ hi < c 4 k)) = P (c 4 k)) : lMany v lo hi = nI (cnt (fun k => cEx c (nI k) && P (c 4 k)) 16) := by
  unfold lMany
  congr 1
  refine cnt_ext 16 fun k hk => ?_
  show (lIs v k && _) = (cEx c (nI k) && P (c 4 k))
  rw [hR.exs k hk]
  cases he : cEx c (nI k)
  · rfl
  · have he' := cEx_at hk he
    have h3 : v 1 (4 * k + 2) = c 4 k := hR.row k hk he' 2 (by omega)
    rw [h3, hm k hk he']
theorem one_in {a x : Int32} : (decide (¬ x < a) && decide (¬ a < x)) = decide (x = a) := by
  by_cases h : x = a
  · subst h
    have : ¬ x < x := Int32.lt_irrefl
    simp [this]
  · rw [decide_eq_false h]
    by_cases h1 : x < a
    · rw [decide_eq_false (p := ¬ x < a) (fun w => w h1)]; rfl
    · by_cases h2 : a < x
      · rw [decide_eq_false (p := ¬ a < x) (fun w => w h2)]; exact Bool.and_false _
      · exact absurd (Int32.le_antisymm (Int32.not_lt.mp h2) (Int32.not_lt.mp h1)) h
theorem lMany_at {b : Prop} {c v : cSt} {a : Int32} (hR : RelL b c v) : lMany v a a = cAt c a := by
  rw [lMany_eq hR (P := fun x => decide (x = a)) fun k hk he => one_in]
  rfl
theorem lMany_in {b : Prop} {c v : cSt} (hR : RelL b c v) (hI : Inv 24 c) : lMany v 0 23 = nI (cnt (fun k => cEx c (nI k) && hHole (c 4 k)) 16) := by
  refine lMany_eq hR fun k hk he => ?_
  rcases hI.plc k hk he with e | ⟨n, hn, e⟩
  · rw [e]; decide
  · rw [e, decide_eq_true (p := ¬ nI n < 0) (nI_pos (by omega)), Bool.true_and, Bool.eq_iff_iff, hHole_nI (by omega), decide_eq_true_eq, show (23 : Int32) = nI 23 from rfl, nI_ltI (by omega) (by omega)]
    omega
theorem lAll_eq {b : Prop} {c v : cSt} (hR : RelL b c v) : cDoves c = nI (cnt (fun q => lIs v q) 16) := by
  unfold cDoves
  congr 1
  exact cnt_ext 16 fun k hk => (hR.exs k hk).symm
theorem lOwn_eq {b : Prop} {c v : cSt} (hR : RelL b c v) : cHome c = nI (cnt (fun q => lOwn v q) 16) := by
  unfold cHome
  congr 1
  refine cnt_ext 16 fun k hk => ?_
  show (cEx c (nI k) && _) = lOwn v k
  unfold lOwn
  rw [hR.exs k hk]
  cases he : cEx c (nI k)
  · rfl
  · have he' := cEx_at hk he
    have h0 : v 1 (4 * k) = c 2 k := hR.row k hk he' 0 (by omega)
    have h3 : v 1 (4 * k + 2) = c 4 k := hR.row k hk he' 2 (by omega)
    rw [h0, h3]
    exact congrArg _ (decide_eq_decide.mpr ⟨fun q => q.symm, fun q => q.symm⟩)
theorem cnt_rev {P : Nat → Bool} : cnt (fun j => P (23 - j)) 24 = cnt P 24 := by
  have hs : ∀ (Q : Nat → Bool) n, cnt Q (n + 1) = cnt Q n + (if Q n = true then 1 else 0) := fun Q n => by
    show (if Q n = true then cnt Q n + 1 else cnt Q n) = _
    split <;> rfl
  have h0 : ∀ (Q : Nat → Bool), cnt Q 0 = 0 := fun _ => rfl
  simp only [hs, h0, Nat.reduceSub]
  omega
theorem lOp_eq {b : Prop} {c v : cSt} (hR : RelL b c v) : cOpens c = nI (lOpK v 24) := by
  unfold cOpens lOpK
  rw [cnt_rev (P := fun h => !(lBit (v 0 1) h))]
  congr 1
  exact cnt_ext 24 fun k hk => hR.opens hk
theorem lFr_eq {b : Prop} {c v : cSt} (hR : RelL b c v) (hI : Inv 24 c) : ∀ n j, j + n = 24 → tFH c n j = lFrD v n
  | 0, _, _ => rfl
  | n + 1, j, h => by
    rw [lFr_s (k := n) (n := j) (by omega)]
    unfold tFH
    rw [hR.opens (by omega), lowner hR hI (by omega), lFr_eq hR hI n (j + 1) (by omega)]
    cases lBit (v 0 1) j
    · rw [if_pos (by rfl), if_pos rfl]
      rcases hI.wnr j (by omega) with e | ⟨k, hk, e, -⟩
      · rw [e, if_pos rfl, if_pos (by decide)]
      · rw [e, if_neg (nI_nm (by omega)), if_neg (nI_pos (by omega))]
    · rw [if_neg (show ¬ (!true) = true by decide), if_neg (show ¬ true = false by decide)]
theorem shr_eq {b : Prop} {c v : cSt} (hR : RelL b c v) : tShare c = lShr v := by
  unfold tShare lShr
  rw [lAll_eq hR, lOwn_eq hR]
/-- the cote and the law's numbers go together, and what the cote keeps -/
def SRL (B : Nat) (c v : cSt) : Prop := RelL True c v ∧ Inv 24 c ∧ (∃ w, w ≤ 25 ∧ c 17 2 = nI w) ∧ (∃ n, n ≤ B ∧ c 0 8 = nI n) ∧ (∃ n, n ≤ 1439 ∧ c 0 7 = nI n)
theorem SRL.rel {B : Nat} {c v : cSt} (h : SRL B c v) : RelL True c v := h.1
theorem SRL.inv {B : Nat} {c v : cSt} (h : SRL B c v) : Inv 24 c := h.2.1
theorem SRL.mono {B B' : Nat} {c v : cSt} (h : SRL B c v) (hb : B ≤ B') : SRL B' c v := by
  obtain ⟨h1, h2, h3, ⟨n, hn, e⟩, h5⟩ := h
  exact ⟨h1, h2, h3, ⟨n, by omega, e⟩, h5⟩
theorem cNum_4 {c : cSt} : ∀ k, k < 4 → cNum c (nI (11 + k)) = c 15 k := by
  intro k hk
  rcases (show k = 0 ∨ k = 1 ∨ k = 2 ∨ k = 3 by omega) with rfl | rfl | rfl | rfl
  · exact (rfl : cNum c 11 = c 15 0)
  · exact (rfl : cNum c 12 = c 15 1)
  · exact (rfl : cNum c 13 = c 15 2)
  · exact (rfl : cNum c 14 = c 15 3)
theorem lSo_of {B : Nat} {c v : cSt} (hS : SRL B c v) : lSo c v := by
  obtain ⟨hR, hI, ⟨w, hw, ew⟩, -, -⟩ := hS
  refine ⟨fun k hk => hR.exs k hk, fun k hk h y hy => ?_, fun h hh => ⟨(lsitter hR hI hh).symm, (lowner hR hI hh).symm, hR.opn h hh⟩, ⟨w, hw, hR.siz.trans ew, ew, fun k hk => ?_⟩, fun k hk => ?_, ⟨?_, ?_, ?_, ?_, ?_, ?_, ?_⟩, ⟨?_, ?_, ?_, ?_, ?_, ?_⟩, lFr_eq hR hI 24 0 (by omega), shr_eq hR⟩
  · rw [hR.exs k hk] at h
    have he := cEx_at hk h
    refine ⟨(hR.row k hk he y hy).symm, ?_⟩
    rw [show 2 + (4 + y) = 6 + y by omega]
    exact (hR.rob k hk he y hy).symm
  · obtain ⟨a, y, ha, hy, h1, h2, h3⟩ := hR.who trivial k (by omega) (by rw [ew]; exact nI_lt hk (by omega))
    rw [h1, h2, h3, show (32 : Int32) = nI 32 from rfl, pk_div (by omega) (by omega) (by omega), pk_mul, pk_sub (by omega)]
    refine ⟨congrArg nI (by omega), congrArg nI (by omega)⟩
  · rw [cNum_4 k hk]; exact (hR.dwn k hk).symm
  · exact hR.day.symm
  · exact hR.time.symm
  · exact lAll_eq hR
  · rw [lMany_in hR hI]; exact sitD_c hI
  · rw [lMany_in hR hI]; exact sitH_c hI
  · exact (lMany_at hR).symm
  · exact (lMany_at hR).symm
  · exact lOp_eq hR
  · exact (pairsL_sim hR hI).1
  · exact hR.shf.symm
  · exact hR.qrl.symm
  · exact (hR.set 0 (by omega)).symm
  · exact (hR.set 1 (by omega)).symm
/-! what would be -/
theorem plc_neg {c : cSt} (hI : Inv 24 c) {k : Nat} (hk : k < 16) (he : ¬ c 2 k = -1) : c 4 k < 0 ↔ c 4 k = -1 := by
  rcases hI.plc k hk he with e | ⟨n, hn, e⟩
  · rw [e]; exact ⟨fun _ => rfl, fun _ => by decide⟩
  · rw [e]; exact ⟨fun q => absurd q (nI_pos (by omega)), fun q => absurd q (nI_nm (by omega))⟩
theorem lAllC_s {v w : cSt} {t : Int32} {n : Nat} : lAllC v w t (n + 1) = if lIs v n = true then (if 0 ≤ v 1 (4 * n + 2) then lAllC v w t n else lCome (lAllC v w t n) n t) else lAllC v w t n := rfl
theorem tAll_s {c : cSt} {t : Int32} {k : Nat} : tAll c t (k + 1) = if cEx (tAll c t k) (nI k) = true then (if tAll c t k 4 k = -1 then cCome (tAll c t k) (nI k) t else tAll c t k) else tAll c t k := rfl
theorem allL_sim {b : Prop} {c v w : cSt} {t : Int32} {n0 : Nat} (hR : RelL b c v) (hI : Inv 24 c) (h8 : c 0 8 = nI n0) (hn0 : n0 + 384 < 2 ^ 30) (hw : wEq v w) : ∀ n, n ≤ 16 →
    RelL False (tAll c t n) (lAllC v w t n) ∧ Inv 24 (tAll c t n) ∧ (∃ m, m ≤ n0 + 24 * n ∧ tAll c t n 0 8 = nI m) ∧ tAll c t n 2 = c 2 ∧ (∀ q, q < 16 → ¬ c 2 q = -1 → (tAll c t n 4 q = -1 ↔ (c 4 q = -1 ∧ n ≤ q))) ∧ (∀ k, k < n → lIs v k = true → v 1 (4 * k + 2) < 0 → lCm (lAllC v w t k) k t)
  | 0, _ => ⟨hR.of_wEq hw, hI, ⟨n0, by omega, h8⟩, rfl, fun q _ _ => ⟨fun r => ⟨r, by omega⟩, fun r => r.1⟩, fun k hk => absurd hk (by omega)⟩
  | n + 1, hn => by
    obtain ⟨r1, r2, ⟨m, hm, r3⟩, r4, r5, r6⟩ := allL_sim hR hI h8 hn0 hw n (by omega)
    have hex : cEx (tAll c t n) (nI n) = cEx c (nI n) := by
      rw [Bool.eq_iff_iff, cEx_nI (by omega), cEx_nI (by omega), r4]
    rw [tAll_s, lAllC_s, hex, hR.exs n (by omega)]
    cases he : cEx c (nI n)
    · rw [if_neg (by decide), if_neg (by decide)]
      have hno : c 2 n = -1 := by
        rcases Classical.em (c 2 n = -1) with q | q
        · exact q
        · rw [(cEx_nI (by omega)).mpr q] at he; cases he
      refine ⟨r1, r2, ⟨m, by omega, r3⟩, r4, fun q hq hx => ?_, fun k hk h1 h2 => ?_⟩
      · rw [r5 q hq hx]
        have : q ≠ n := fun w => hx (w ▸ hno)
        exact ⟨fun r => ⟨r.1, by omega⟩, fun r => ⟨r.1, by omega⟩⟩
      · by_cases hc : k = n
        · subst hc; rw [hR.exs k (by omega), he] at h1; cases h1
        · exact r6 k (by omega) h1 h2
    · have he' := cEx_at (by omega) he
      have h3 : v 1 (4 * n + 2) = c 4 n := hR.row n (by omega) he' 2 (by omega)
      have hpn := plc_neg hI (k := n) (by omega) he'
      rw [if_pos rfl, if_pos rfl, h3]
      by_cases hp : c 4 n = -1
      · have hp' : tAll c t n 4 n = -1 := (r5 n (by omega) he').mpr ⟨hp, Nat.le_refl n⟩
        rw [if_pos hp', if_neg (show ¬ 0 ≤ c 4 n by rw [hp]; decide)]
        obtain ⟨g0, sf, g1, g2, g3, g4, g5, g6, g7, g8, g9⟩ := comeL_sim (t := t) r1 r2 (by omega) (by rw [r4]; exact he') hp' r3 (by omega)
        refine ⟨g2, g3, ⟨m + sf, by omega, g5⟩, g6.trans r4, fun q hq hx => ?_, fun k hk h1 h2 => ?_⟩
        · rw [g9 q hq (by rw [r4]; exact hx), r5 q hq hx]
          exact ⟨fun r => ⟨r.1.1, by have := r.2; have := r.1.2; omega⟩, fun r => ⟨⟨r.1, by omega⟩, by omega⟩⟩
        · by_cases hc : k = n
          · subst hc; exact g0
          · exact r6 k (by omega) h1 h2
      · have hp' : ¬ tAll c t n 4 n = -1 := fun q => hp ((r5 n (by omega) he').mp q).1
        rw [if_neg hp', if_pos (Int32.not_lt.mp (fun q => hp (hpn.mp q)))]
        refine ⟨r1, r2, ⟨m, by omega, r3⟩, r4, fun q hq hx => ?_, fun k hk h1 h2 => ?_⟩
        · rw [r5 q hq hx]
          have : c 4 q = -1 → q ≠ n := fun w x => hp (x ▸ w)
          exact ⟨fun r => ⟨r.1, by have := this r.1; omega⟩, fun r => ⟨r.1, by omega⟩⟩
        · by_cases hc : k = n
          · subst hc; rw [h3] at h2; exact absurd (hpn.mp h2) hp
          · exact r6 k (by omega) h1 h2
theorem lAh_of {B : Nat} {c v : cSt} {t : Int32} (hS : SRL B c v) (hB : B + 384 < 2 ^ 30) : lAh c v t := by
  obtain ⟨hR, hI, -, ⟨n0, hn0, h8⟩, -⟩ := hS
  refine ⟨fun k hk => hR.exs k hk, fun k hk h => ?_, fun k hk h hlt hle w hw => ?_, fun t' ht' w hw k hk h hlt => ?_, fun w w' hw hw' => ?_⟩
  · rw [hR.exs k hk] at h
    have he := cEx_at hk h
    have h3 : v 1 (4 * k + 2) = c 4 k := hR.row k hk he 2 (by omega)
    unfold cWhyHome
    rw [h3, ix_nI (by omega), hR.time]
    by_cases hp : c 4 k = -1
    · rw [if_pos hp, if_pos ((plc_neg hI hk he).mpr hp)]
    · rw [if_neg hp, if_neg (fun q => hp ((plc_neg hI hk he).mp q))]
  · rw [hR.exs k hk] at h
    have he := cEx_at hk h
    have h3 : v 1 (4 * k + 2) = c 4 k := hR.row k hk he 2 (by omega)
    rw [h3] at hlt
    have hp := (plc_neg hI hk he).mp hlt
    have hRw := hR.of_wEq hw
    obtain ⟨g0, sf, g1, g2, g3, g4, g5, g6, g7, g8, g9⟩ := comeL_sim (t := t) hRw hI hk he hp h8 (by omega)
    refine ⟨g0, ?_, ?_, ?_⟩
    · show cCome c (nI k) t 4 (ix (nI k)) = _
      rw [ix_nI (by omega)]
      exact (g2.row k hk (by rw [g6]; exact he) 2 (by omega)).symm
    · show cCome c (nI k) t 0 8 - c 0 8 = _
      rw [g2.shf, hRw.shf]
    · show cAt (cCome c (nI k) t) 24 - cAt c 24 = _
      rw [lMany_at g2, lMany_at hR]
  · obtain ⟨-, -, -, -, -, r6⟩ := allL_sim (t := t') hR hI h8 (by omega) hw 16 (Nat.le_refl 16)
    exact r6 k hk h hlt
  · obtain ⟨r1, r2, -⟩ := allL_sim (t := 1439) hR hI h8 (by omega) hw 16 (Nat.le_refl 16)
    obtain ⟨s1, s2, -⟩ := allL_sim (t := c 0 7) hR hI h8 (by omega) hw' 16 (Nat.le_refl 16)
    unfold tGood
    rw [hR.time, lMany_in r1 r2, lMany_in s1 s2, sitD_c r2, sitD_c s2]
