/-! texts: the class's reader beside the reference's -/
/-- the texts are alike -/
def TX (t : Nat → Int32) (d : cSt) (L : Nat) : Prop := d 0 8 = nI L ∧ L ≤ 60 ∧ ∀ k, k < L → d 5 k = t k ∧ t k ≠ -1
theorem TX.at {t : Nat → Int32} {d : cSt} {L : Nat} (h : TX t d L) {p : Nat} (hp : p < L) : mAtT d (nI p) = t p := by
  obtain ⟨h1, h2, h3⟩ := h
  unfold mAtT
  rw [h1, if_neg (show ¬ nI L ≤ nI p from nI_ge hp (by omega)), ix_nI (by omega)]
  exact (h3 p hp).1
theorem TX.atL {t : Nat → Int32} {d : cSt} {L : Nat} (h : TX t d L) : mAtT d (nI L) = 0 := by
  obtain ⟨h1, h2, h3⟩ := h
  unfold mAtT
  rw [h1, if_pos (Int32.le_refl _)]
/-- n characters from k on are read, none of them ends a part -/
def rGo (t : Nat → Int32) : Nat → Nat → cSt → Bool × cSt
  | 0, _, c => (true, c)
  | n + 1, k, c => if (rTake c (t k)).1 = true ∧ t k ≠ 59 then rGo t n (k + 1) (rTake c (t k)).2 else (false, c)
def Go (t : Nat → Int32) (p : Nat) (c : cSt) (q : Nat) (c' : cSt) : Prop := ∃ n, q = p + n ∧ rGo t n p c = (true, c')
theorem Go.refl {t : Nat → Int32} {p : Nat} {c : cSt} : Go t p c p c := ⟨0, rfl, rfl⟩
theorem Go.cons {t : Nat → Int32} {p q : Nat} {c c1 c' : cSt} (h1 : rTake c (t p) = (true, c1)) (h2 : t p ≠ 59) (h : Go t (p + 1) c1 q c') : Go t p c q c' := by
  obtain ⟨n, hn, e⟩ := h
  refine ⟨n + 1, by omega, ?_⟩
  unfold rGo
  rw [h1, if_pos ⟨rfl, h2⟩]
  exact e
theorem rGo_trans {t : Nat → Int32} {c2 : cSt} {m : Nat} : ∀ n p (c c1 : cSt), rGo t n p c = (true, c1) → rGo t m (p + n) c1 = (true, c2) → rGo t (n + m) p c = (true, c2)
  | 0, p, c, c1, h1, h2 => by cases h1; rw [Nat.zero_add]; exact h2
  | n + 1, p, c, c1, h1, h2 => by
    unfold rGo at h1
    split at h1
    · rename_i hc
      rw [show n + 1 + m = (n + m) + 1 by omega]
      unfold rGo
      rw [if_pos hc]
      exact rGo_trans n (p + 1) _ c1 h1 (by rw [show p + 1 + n = p + (n + 1) by omega]; exact h2)
    · cases h1
theorem Go.trans {t : Nat → Int32} {p q r : Nat} {c c1 c2 : cSt} (h1 : Go t p c q c1) (h2 : Go t q c1 r c2) : Go t p c r c2 := by
  obtain ⟨n, hn, e⟩ := h1
  obtain ⟨m, hm, e2⟩ := h2
  subst hn
  exact ⟨n + m, by omega, rGo_trans n p c c1 e e2⟩
/-- a character: the end of a part, a digit, or another one -/
theorem chr3 (x : Int32) : x = 59 ∨ (∃ j, j < 10 ∧ x = nI (48 + j)) ∨ (x ≠ 59 ∧ ∀ c : cSt, c 3 0 ≠ 0 → rTake c x = rSignT c x) := by
  by_cases h1 : x = 59
  · exact Or.inl h1
  · right
    by_cases h2 : x < 48
    · right
      refine ⟨h1, fun c hc => ?_⟩
      unfold rTake
      rw [if_neg hc, if_neg h1, if_pos h2]
    · by_cases h3 : 57 < x
      · right
        refine ⟨h1, fun c hc => ?_⟩
        unfold rTake
        rw [if_neg hc, if_neg h1, if_neg h2, if_pos h3]
      · left
        obtain ⟨n, hn, rfl⟩ := nI_of (x := x) (fun w => h2 (Int32.lt_trans w (by decide)))
        rw [show (48 : Int32) = nI 48 from rfl, nI_ltI hn (by omega)] at h2
        rw [show (57 : Int32) = nI 57 from rfl, nI_ltI (by omega) hn] at h3
        exact ⟨n - 48, by omega, by congr 1; omega⟩
theorem take59 {c : cSt} (h0 : c 3 0 ≠ 0) : rTake c 59 = rEnd c := by
  unfold rTake
  rw [if_neg h0, if_pos rfl]
theorem take59_f {c : cSt} (h0 : c 3 0 ≠ 0) (hd : rDone c = false) : (rTake c 59).1 = false := by
  rw [take59 h0]
  unfold rEnd
  rw [if_neg (by rw [hd]; decide)]
theorem dig59 {j : Nat} (hj : j < 10) : nI (48 + j) ≠ 59 := fun w => by
  have := nI_inj (b := 59) (by omega) (by omega) w
  omega
theorem takeD {c : cSt} (h0 : c 3 0 ≠ 0) {j : Nat} (hj : j < 10) : rTake c (nI (48 + j)) = rDigit c (nI j) := by
  unfold rTake
  rw [if_neg h0, if_neg (dig59 hj), if_neg (show ¬ nI (48 + j) < 48 from nI_nlt (b := 48) (by omega) (by omega)), if_neg (show ¬ 57 < nI (48 + j) from nI_nlt (a := 57) (by omega) (by omega)), show (48 : Int32) = nI 48 from rfl, pk_sub (by omega)]
  congr 2
  omega
/-- digits in a number that is held at place i -/
def NOK (i lo hi : Nat) (s k : Int32) : Prop := ∀ c : cSt, c 3 0 = s → c 3 1 = k → (c 3 i = -1 ∨ ∃ v, v < 2000 ∧ c 3 i = nI v) → ∀ j, j < 10 → rTake c (nI (48 + j)) = if ¬ rGrown (c 3 i) (nI j) < nI lo ∧ rGrown (c 3 i) (nI j) ≤ nI hi then (true, cW c 3 i (rGrown (c 3 i) (nI j))) else (false, c)
theorem grown_m1 {j : Int32} : rGrown (-1) j = j := if_pos rfl
theorem grown_nI {v j : Nat} (hv : v < 2000) : rGrown (nI v) (nI j) = if v = 0 then -1 else nI (v * 10 + j) := by
  unfold rGrown
  rw [if_neg (nI_nm (by omega))]
  by_cases h : v = 0
  · subst h
    rw [if_pos (show nI 0 = 0 from rfl), if_pos rfl]
  · rw [if_neg (nI_ne0 (by omega) (by omega)), if_neg h, show (10 : Int32) = nI 10 from rfl, pk_mul, nI_add]
theorem grown_3 {x : Int32} {j : Nat} (hx : x = -1 ∨ ∃ v, v < 2000 ∧ x = nI v) (hj : j < 10) : rGrown x (nI j) = -1 ∨ ∃ v, v < 20010 ∧ rGrown x (nI j) = nI v := by
  rcases hx with e | ⟨v, hv, e⟩
  · rw [e, grown_m1]; exact Or.inr ⟨j, by omega, rfl⟩
  · rw [e, grown_nI hv]
    split
    · exact Or.inl rfl
    · exact Or.inr ⟨_, by omega, rfl⟩
theorem NOK1 {hi : Nat} {k : Int32} (hh : hi < 2000) (hk : ∀ c : cSt, c 3 1 = k → rHi1 c = nI hi) : NOK 2 0 hi 1 k := by
  intro c h0 h1 h2 j hj
  rw [takeD (by rw [h0]; decide) hj]
  unfold rDigit
  rw [if_pos h0, hk c h1]
  rcases grown_3 h2 hj with e | ⟨v, hv, e⟩
  · rw [e, if_pos rfl, if_neg (fun w => w.1 (by decide))]
  · rw [e, if_neg (nI_nm (by omega))]
    by_cases hle : nI v ≤ nI hi
    · rw [if_pos hle, if_pos ⟨nI_pos (by omega), hle⟩]
    · rw [if_neg hle, if_neg (fun w => hle w.2)]
theorem NOK2 {lo hi : Nat} {k : Int32} (hk : ∀ c : cSt, c 3 1 = k → rLo2 c = nI lo ∧ rHi2 c = nI hi) : NOK 3 lo hi 2 k := by
  intro c h0 h1 h2 j hj
  rw [takeD (by rw [h0]; decide) hj]
  unfold rDigit
  rw [if_neg (by rw [h0]; decide), if_pos h0, (hk c h1).1, (hk c h1).2]
  by_cases ha : rGrown (c 3 3) (nI j) < nI lo
  · rw [if_pos ha, if_neg (fun w => w.1 ha)]
  · rw [if_neg ha]
    by_cases hb : rGrown (c 3 3) (nI j) ≤ nI hi
    · rw [if_pos hb, if_pos ⟨ha, hb⟩]
    · rw [if_neg hb, if_neg (fun w => hb w.2)]
theorem mIn_dig {x : Int32} : mIn x 48 57 = true ↔ ∃ j, j < 10 ∧ x = nI (48 + j) := by
  constructor
  · intro h
    obtain ⟨j, h1, h2, rfl⟩ := mIn_nI (a := 48) (b := 57) h (by omega) (by omega)
    exact ⟨j - 48, by omega, by congr 1; omega⟩
  · rintro ⟨j, hj, rfl⟩
    exact (mIn_nI2 (a := 48) (b := 57) (by omega) (by omega) (by omega)).mpr ⟨by omega, by omega⟩
theorem mIn_dig2 {x : Int32} {lo : Nat} (hlo : lo < 10) : mIn (x - 48) (nI lo) 9 = true ↔ ∃ j, lo ≤ j ∧ j < 10 ∧ x = nI (48 + j) := by
  constructor
  · intro h
    obtain ⟨j, h1, h2, e⟩ := mIn_nI (a := lo) (b := 9) h (by omega) (by omega)
    refine ⟨j, h1, by omega, ?_⟩
    have : x = x - 48 + 48 := by rw [Int32.sub_add_cancel]
    rw [this, e, show (48 : Int32) = nI 48 from rfl, nI_add]
    congr 1; omega
  · rintro ⟨j, h1, hj, rfl⟩
    rw [show (48 : Int32) = nI 48 from rfl, pk_sub (by omega)]
    exact (mIn_nI2 (b := 9) (by omega) (by omega) (by omega)).mpr ⟨by omega, by omega⟩
/-- where a number ends -/
def NEnd (t : Nat → Int32) (L i lo hi : Nat) (c : cSt) (p : Nat) (r : Int32 × Int32) : Prop :=
  ∃ q v c', p ≤ q ∧ q ≤ L ∧ lo ≤ v ∧ v ≤ hi ∧ r = (nI q, nI v) ∧ Go t p c q c' ∧ c' 3 i = nI v ∧ (∀ i', i' ≠ i → c' 3 i' = c 3 i') ∧ (q < L → ∀ j, j < 10 → t q = nI (48 + j) → (rTake c' (t q)).1 = false)
theorem numL_run {t : Nat → Int32} {d : cSt} {L i lo hi : Nat} {s k : Int32} (hN : NOK i lo hi s k) (hT : TX t d L) (hi0 : 1 < i) (hh : hi < 2000) : ∀ n q v (c : cSt), q ≤ L → L < q + n → c 3 0 = s → c 3 1 = k → c 3 i = nI v → lo ≤ v → v ≤ hi → NEnd t L i lo hi c q (mNumL d (nI hi) n (nI q) (nI v))
  | 0, q, _, _, h1, h2, _, _, _, _, _ => absurd h2 (by omega)
  | n + 1, q, v, c, h1, h2, h30, h31, h3i, hlo, hv => by
    obtain ⟨hT1, hT2, hT3⟩ := hT
    have hT : TX t d L := ⟨hT1, hT2, hT3⟩
    unfold mNumL
    by_cases hq : q < L
    · rw [hT.at hq]
      by_cases hd : ∃ j, j < 10 ∧ t q = nI (48 + j)
      · obtain ⟨j, hj, ej⟩ := hd
        have e10 : 10 * nI v + nI (48 + j) - 48 = nI (10 * v + j) := by
          rw [show (10 : Int32) = nI 10 from rfl, show (48 : Int32) = nI 48 from rfl, pk_mul, nI_add, pk_sub (by omega)]
          congr 1; omega
        have hTk := hN c h30 h31 (Or.inr ⟨v, by omega, h3i⟩) j hj
        rw [h3i, grown_nI (by omega)] at hTk
        rw [ej, e10]
        by_cases hc : ¬ v = 0 ∧ 10 * v + j ≤ hi
        · obtain ⟨c1, c2⟩ := hc
          rw [if_pos ⟨nI_nle (by omega) (by omega), mIn_dig.mpr ⟨j, hj, rfl⟩, nI_nlt (by omega) (by omega)⟩, nI_1]
          rw [if_neg c1, if_pos ⟨nI_nlt (by omega) (by omega), nI_le (by omega) (by omega)⟩] at hTk
          have hc0 : cW c 3 i (nI (v * 10 + j)) 3 0 = s := by rw [cWr, zU_ne (by omega)]; exact h30
          have hc1 : cW c 3 i (nI (v * 10 + j)) 3 1 = k := by rw [cWr, zU_ne (by omega)]; exact h31
          have hci : cW c 3 i (nI (v * 10 + j)) 3 i = nI (10 * v + j) := by rw [cWr, zU_at]; congr 1; omega
          obtain ⟨q', v', c', g1, g2, g3, g4, g5, g6, g7, g8, g9⟩ := numL_run hN hT hi0 hh n (q + 1) (10 * v + j) _ (by omega) (by omega) hc0 hc1 hci (by omega) c2
          refine ⟨q', v', c', by omega, g2, g3, g4, g5, Go.cons (by rw [ej]; exact hTk) (by rw [ej]; exact dig59 hj) g6, g7, fun i' hi' => ?_, g9⟩
          rw [g8 i' hi', cWr, zU_ne hi']
        · rw [if_neg (fun w => hc ⟨fun r => w.1 (by rw [r]; decide), by have := w.2.2; rw [nI_ltI (by omega) (by omega)] at this; omega⟩)]
          refine ⟨q, v, c, Nat.le_refl q, h1, hlo, hv, rfl, Go.refl, h3i, fun _ _ => rfl, fun _ j' hj' ej' => ?_⟩
          have hjj : j' = j := by
            have := nI_inj (by omega) (by omega) (ej'.symm.trans ej); omega
          rw [ej, hTk, if_neg]
          intro w
          apply hc
          by_cases hv0 : v = 0
          · subst hv0
            rw [if_pos rfl] at w
            exfalso
            have hl0 : lo = 0 := by omega
            subst hl0
            exact w.1 (by decide)
          · rw [if_neg hv0] at w
            have := w.2
            rw [nI_leI (by omega) (by omega)] at this
            exact ⟨hv0, by omega⟩
      · rw [if_neg (fun w => hd (mIn_dig.mp w.2.1))]
        exact ⟨q, v, c, Nat.le_refl q, h1, hlo, hv, rfl, Go.refl, h3i, fun _ _ => rfl, fun _ j' hj' ej' => (hd ⟨j', hj', ej'⟩).elim⟩
    · have : q = L := by omega
      subst this
      rw [hT.atL, if_neg (fun w => absurd w.2.1 (by decide))]
      exact ⟨q, v, c, Nat.le_refl q, h1, hlo, hv, rfl, Go.refl, h3i, fun _ _ => rfl, fun w => absurd w (by omega)⟩
theorem num_run {t : Nat → Int32} {d : cSt} {L i lo hi : Nat} {s k : Int32} (hN : NOK i lo hi s k) (hT : TX t d L) (hi0 : 1 < i) (hh : hi < 2000) (h9 : 9 ≤ hi) (hlo : lo < 10) {p : Nat} {c : cSt} (hp : p ≤ L) (h30 : c 3 0 = s) (h31 : c 3 1 = k) (h3i : c 3 i = -1) :
    (∃ r, mNum d (nI p) (nI lo) (nI hi) = r ∧ p < L ∧ NEnd t L i lo hi c p r) ∨ ((mNum d (nI p) (nI lo) (nI hi)).1 = -1 - nI p ∧ (p < L → ∀ j, j < 10 → t p = nI (48 + j) → (rTake c (t p)).1 = false)) := by
  have hL := hT.2.1
  unfold mNum
  by_cases hq : p < L
  · rw [hT.at hq]
    by_cases hd : ∃ j, lo ≤ j ∧ j < 10 ∧ t p = nI (48 + j)
    · left
      obtain ⟨j, hj1, hj, ej⟩ := hd
      have hTk := hN c h30 h31 (Or.inl h3i) j hj
      rw [h3i, grown_m1, if_pos ⟨nI_nlt (by omega) (by omega), nI_le (by omega) (by omega)⟩] at hTk
      rw [ej, if_pos ((mIn_dig2 hlo).mpr ⟨j, hj1, hj, rfl⟩), nI_1]
      have e48 : nI (48 + j) - 48 = nI j := by rw [show (48 : Int32) = nI 48 from rfl, pk_sub (by omega)]; congr 1; omega
      rw [e48]
      have hc0 : cW c 3 i (nI j) 3 0 = s := by rw [cWr, zU_ne (by omega)]; exact h30
      have hc1 : cW c 3 i (nI j) 3 1 = k := by rw [cWr, zU_ne (by omega)]; exact h31
      have hci : cW c 3 i (nI j) 3 i = nI j := by rw [cWr, zU_at]
      obtain ⟨q', v', c', g1, g2, g3, g4, g5, g6, g7, g8, g9⟩ := numL_run hN hT hi0 hh 61 (p + 1) j _ (by omega) (by omega) hc0 hc1 hci hj1 (by omega)
      refine ⟨_, rfl, hq, q', v', c', by omega, g2, g3, g4, g5, Go.cons (by rw [ej]; exact hTk) (by rw [ej]; exact dig59 hj) g6, g7, fun i' hi' => ?_, g9⟩
      rw [g8 i' hi', cWr, zU_ne hi']
    · right
      rw [if_neg (fun w => hd ((mIn_dig2 hlo).mp w))]
      refine ⟨rfl, fun _ j hj ej => ?_⟩
      rw [ej, hN c h30 h31 (Or.inl h3i) j hj, h3i, grown_m1, if_neg]
      intro w
      have := w.1
      rw [nI_ltI (by omega) (by omega)] at this
      exact hd ⟨j, by omega, hj, ej⟩
  · have : p = L := by omega
    subst this
    right
    rw [hT.atL, if_neg (fun w => by
      obtain ⟨j, h1, h2, h3⟩ := (mIn_dig2 hlo).mp w
      exact nI_ne0 (n := 48 + j) (by omega) (by omega) h3.symm)]
    exact ⟨rfl, fun w => absurd w (by omega)⟩
