/-! the model: errors, parts, and what it tells -/
theorem mTwo_at {d : cSt} {mo sg le la : Int32} {L q : Nat} (hL : d 0 8 = nI L) (h60 : L ≤ 60) (hq : q < 900) (hle : ¬ le < 0) : (mTwo d (nI q) mo sg le la).1 < 0 ∨ ∃ q', q < q' ∧ q' ≤ L ∧ (mTwo d (nI q) mo sg le la).1 = nI q' := by
  unfold mTwo
  split
  · rename_i h0
    obtain ⟨q2, h1, h2, h3⟩ := (mNum_at (mo := mo) hL h60 (by omega) (by decide : ¬ (0 : Int32) < 0)).resolve_left (i_nlt h0)
    split
    · rw [h3, nI_1]
      rcases mNum_at (le := le) (mo := la) (q := q2 + 1) hL h60 (by omega) hle with h | ⟨q', h4, h5, h6⟩
      · exact Or.inl h
      · exact Or.inr ⟨q', by omega, h5, h6⟩
    · rw [h3]; exact Or.inl (neg_of (by omega))
  · rename_i h0
    exact Or.inl (i_lt h0)
theorem mPart_at {d : cSt} {L q : Nat} (hL : d 0 8 = nI L) (h60 : L ≤ 60) (hq : q < 800) : (mPart d (nI q)).1 < 0 ∨ ∃ q', q < q' ∧ q' ≤ L ∧ (mPart d (nI q)).1 = nI q' := by
  have up : ∀ {x : Int32}, (x < 0 ∨ ∃ q', q + 1 < q' ∧ q' ≤ L ∧ x = nI q') → (x < 0 ∨ ∃ q', q < q' ∧ q' ≤ L ∧ x = nI q') := by
    intro x h
    rcases h with h | ⟨q', h1, h2, h3⟩
    · exact Or.inl h
    · exact Or.inr ⟨q', by omega, h2, h3⟩
  unfold mPart
  rw [nI_1]
  split
  · rename_i h
    exact Or.inr ⟨q + 1, by omega, at_lt hL h60 (by omega) (fun e => by rw [e] at h; exact absurd h (by decide)), rfl⟩
  · split
    · exact up (mTwo_at hL h60 (by omega) (by decide))
    · split
      · exact up (mTwo_at hL h60 (by omega) (by decide))
      · split
        · exact up (mTwo_at hL h60 (by omega) (by decide))
        · split
          · exact up (mNum_at hL h60 (by omega) (by decide))
          · split
            · exact up (mNum_at hL h60 (by omega) (by decide))
            · exact Or.inl (neg_of (by omega))
/-- a part that is read leaves all but three fields -/
theorem mPart_keep {d : cSt} {p : Int32} : (∀ j, j ≠ 0 → (mPart d p).2 j = d j) ∧ ∀ k, k ≠ 9 → k ≠ 10 → k ≠ 11 → (mPart d p).2 0 k = d 0 k := by
  have c1 : ∀ (e : cSt) (k : Nat) (v : Int32) (j : Nat), j ≠ 0 → cW e 0 k v j = e j := fun e k v j h => funext fun q => by simp [cW, h]
  have c2 : ∀ (e : cSt) (k k' : Nat) (v : Int32), k' ≠ k → cW e 0 k v 0 k' = e 0 k' := fun e k k' v h => by simp [cW, h]
  unfold mPart mFS
  split
  · exact ⟨fun j h => by simp only [c1 _ _ _ _ h], fun k h1 h2 h3 => by simp only [c2 _ _ _ _ h1]⟩
  · split
    · exact ⟨fun j h => by simp only [c1 _ _ _ _ h], fun k h1 h2 h3 => by simp only [c2 _ _ _ _ h1, c2 _ _ _ _ h2, c2 _ _ _ _ h3]⟩
    · split
      · exact ⟨fun j h => by simp only [c1 _ _ _ _ h], fun k h1 h2 h3 => by simp only [c2 _ _ _ _ h1, c2 _ _ _ _ h2, c2 _ _ _ _ h3]⟩
      · split
        · exact ⟨fun j h => by simp only [c1 _ _ _ _ h], fun k h1 h2 h3 => by simp only [c2 _ _ _ _ h1, c2 _ _ _ _ h2, c2 _ _ _ _ h3]⟩
        · split
          · exact ⟨fun j h => by simp only [c1 _ _ _ _ h], fun k h1 h2 h3 => by simp only [c2 _ _ _ _ h1, c2 _ _ _ _ h2, c2 _ _ _ _ h3]⟩
          · split
            · exact ⟨fun j h => by simp only [c1 _ _ _ _ h], fun k h1 h2 h3 => by simp only [c2 _ _ _ _ h1, c2 _ _ _ _ h2, c2 _ _ _ _ h3]⟩
            · exact ⟨fun j h => by simp only [c1 _ _ _ _ h], fun k h1 h2 h3 => by simp only [c2 _ _ _ _ h1]⟩
def mErrL : cSt → Nat → Int32 → Int32 × cSt
  | d, 0, _ => (-1, d)
  | d, n + 1, p => if 0 ≤ (mPart d p).1 then
      (if (mPart d p).1 = d 0 8 then (-1, (mPart d p).2) else if d 5 (ix (mPart d p).1) = 59 then mErrL (mPart d p).2 n ((mPart d p).1 + 1) else ((mPart d p).1, (mPart d p).2))
    else (-1 - (mPart d p).1, (mPart d p).2)
theorem mErrL_1 {d : cSt} {n : Nat} {p : Int32} (h : ¬ 0 ≤ (mPart d p).1) : mErrL d (n + 1) p = (-1 - (mPart d p).1, (mPart d p).2) := by rw [mErrL, if_neg h]
theorem mErrL_2 {d : cSt} {n : Nat} {p : Int32} (h : 0 ≤ (mPart d p).1) (h2 : (mPart d p).1 = d 0 8) : mErrL d (n + 1) p = (-1, (mPart d p).2) := by rw [mErrL, if_pos h, if_pos h2]
theorem mErrL_3 {d : cSt} {n : Nat} {p : Int32} (h : 0 ≤ (mPart d p).1) (h2 : ¬ (mPart d p).1 = d 0 8) (h3 : d 5 (ix (mPart d p).1) = 59) : mErrL d (n + 1) p = mErrL (mPart d p).2 n ((mPart d p).1 + 1) := by rw [mErrL, if_pos h, if_neg h2, if_pos h3]
theorem mErrL_4 {d : cSt} {n : Nat} {p : Int32} (h : 0 ≤ (mPart d p).1) (h2 : ¬ (mPart d p).1 = d 0 8) (h3 : ¬ d 5 (ix (mPart d p).1) = 59) : mErrL d (n + 1) p = ((mPart d p).1, (mPart d p).2) := by rw [mErrL, if_pos h, if_neg h2, if_neg h3]
def mErr (d : cSt) : Int32 × cSt := mErrL d 62 0
def mFE (d : cSt) : Int32 × cSt := (if 0 ≤ (mErr (cW d 0 0 0)).1 then (mErr (cW d 0 0 0)).1 else d 0 8, (mErr (cW d 0 0 0)).2)
theorem mErrL_keep : ∀ {d : cSt} {n : Nat} {p : Int32}, (∀ j, j ≠ 0 → (mErrL d n p).2 j = d j) ∧ ∀ k, k ≠ 9 → k ≠ 10 → k ≠ 11 → (mErrL d n p).2 0 k = d 0 k
  | d, 0, p => ⟨fun _ _ => rfl, fun _ _ _ _ => rfl⟩
  | d, n + 1, p => by
    have h := mPart_keep (d := d) (p := p)
    unfold mErrL
    split
    · split
      · exact h
      · split
        · have h2 := mErrL_keep (d := (mPart d p).2) (n := n) (p := (mPart d p).1 + 1)
          exact ⟨fun j hj => (h2.1 j hj).trans (h.1 j hj), fun k h9 h10 h11 => (h2.2 k h9 h10 h11).trans (h.2 k h9 h10 h11)⟩
        · exact h
    · exact h
def mWhyP (d : cSt) : Int32 := if d 0 9 = 98 then mWhyD d (d 0 10) else if d 0 9 = 104 then (if mDove d (d 0 10) = true then mWhyH d (d 0 10) (d 0 11) else 10) else if d 0 9 = 109 then (if mDove d (d 0 10) = true then (if mDove d (d 0 11) = true then mWhyM d (d 0 10) (d 0 11) else 10) else 10) else if d 0 9 = 120 then mWhyS d (d 0 11) else 0
def mBuy (d : cSt) (x y : Int32) : Int32 × cSt := match mFirstF d 16 0 with
  | some k => (nI k, mBuyK d k x y)
  | none => (0, d)
theorem mBuy_k {d : cSt} {x y : Int32} {k : Nat} (h : mFirstF d 16 0 = some k) : mBuy d x y = (nI k, mBuyK d k x y) := by unfold mBuy; rw [h]
def mDoP (d : cSt) : Int32 × cSt := if d 0 9 = 98 then mBuy d (d 0 10) (d 0 11) else if d 0 9 = 104 then ((mHome d (d 0 10) (d 0 11)).2, (mHome d (d 0 10) (d 0 11)).1) else if d 0 9 = 109 then (mPairs (mMate d (d 0 10) (d 0 11)), mMate d (d 0 10) (d 0 11)) else if d 0 9 = 111 then (0, cW d 1 (144 + ix (d 0 11)) 0) else if d 0 9 = 120 then (0, cW d 1 (144 + ix (d 0 11)) 1) else (mAt d 0 23, mDawn d)
def mDoveN (d : cSt) (x y : Int32) : Int32 := d 1 (9 * ix x + (1 + ix y))
def mHoleN (d : cSt) (x y : Int32) : Int32 := if y = 0 then mSit d x else if y = 1 then mOwn d x else if mOpen d x = true then 1 else 0
def mNumN (d : cSt) (x : Int32) : Int32 := if mIn x 11 14 = true then d 1 (ix (174 + x - 11)) else if x = 0 then d 1 169 else if x = 1 then d 1 168 else if x = 2 then mAll d else if x = 3 then mAt d 0 23 else if x = 4 then mAt d 0 23 else if x = 5 then mAt d 24 24 else if x = 6 then mAt d (-1) (-1) else if x = 7 then mOpens d else if x = 8 then mPairs d else if x = 9 then d 1 172 else if x = 10 then d 1 173 else if x = 15 then d 1 (ix (170 + x - 15)) else if x = 16 then d 1 (ix (170 + x - 15)) else d 0 4
/-- the row is put aside -/
def mA (d : cSt) : cSt := mCpy d 2 0 1 0 232
theorem mA_1 {d : cSt} : mA d 1 = d 1 := rfl
theorem mA_0 {d : cSt} : mA d 0 = d 0 := rfl
theorem mA_A {d : cSt} : mA (mA d) = mA d := by
  funext j q
  show mCpy (mA d) 2 0 1 0 232 j q = mCpy d 2 0 1 0 232 j q
  unfold mCpy
  by_cases h : j = 2
  · rw [if_pos h, if_pos h]
    by_cases h2 : 0 ≤ q ∧ q < 0 + 232
    · rw [if_pos h2, if_pos h2]; rfl
    · rw [if_neg h2, if_neg h2]
      show mCpy d 2 0 1 0 232 j q = d j q
      unfold mCpy
      rw [if_pos h, if_neg h2]
  · rw [if_neg h, if_neg h]
    show mCpy d 2 0 1 0 232 j q = d j q
    exact mCpy_ne h
/-- alike as far as the row goes -/
def dEqv (d e : cSt) : Prop := (∀ j, j ≠ 1 → d j = e j) ∧ ∀ q, q < 232 → d 1 q = e 1 q
theorem CW.eqd {E : gEn} {σ : gSt} {π : Nat → Nat} {o : Int64} {H : Heap} {d e : cSt} (he : dEqv d e) (h : CW E (gU σ 10 d) π o H) : CW E (gU σ 10 e) π o H := by
  intro i j hv
  have hh := h i j hv
  by_cases hi : i = 10
  · subst hi
    by_cases hj : j = 1
    · subst hj
      have hn : gN 10 1 = some 232 := rfl
      rw [gC_arr hn hv, gU_at] at hh ⊢
      show H[_]? = some (vp_cell _ _)
      rw [← gCell_ext he.2]
      exact hh
    · have e1 : gC E (gU σ 10 e) π o 10 j = gC E (gU σ 10 d) π o 10 j := by
        have h0 : d 0 = e 0 := he.1 0 (by decide)
        have hjj := he.1 j hj
        have hif : ∀ f : cSt, gC E (gU σ 10 f) π o 10 j = (if j = 0 then .inr (4, gFd E f) else .inl (E.2.2.1, (if j = 3 then 1392 else if j = 5 then 60 else 232), .inl (f j))) := fun f => by
          unfold gC
          rw [gU_at]
          rfl
        have hfd : gFd E d = gFd E e := by unfold gFd; rw [h0]
        rw [hif, hif, hjj, hfd]
      rw [e1]; exact hh
  · have e1 : gC E (gU σ 10 e) π o i j = gC E (gU σ 10 d) π o i j := by
      unfold gC
      rw [gU_ne hi, gU_ne hi]
    rw [e1]; exact hh
theorem cW1 {d : cSt} {q : Nat} {v : Int32} {j : Nat} (h : j ≠ 1) : cW d 1 q v j = d j := funext fun k => by simp [cW, h]
theorem mSitS_row {d : cSt} {x y : Int32} {j : Nat} (h : j ≠ 1) : mSitS d x y j = d j := by unfold mSitS; rw [cW1 h, cW1 h, cW1 h, cW1 h]
theorem mCount_row {d : cSt} {x y : Int32} {j : Nat} (h : j ≠ 1) : mCount d x y j = d j := by unfold mCount; rw [cW1 h, cW1 h, cW1 h]
theorem mStep_row {mo : Int32} {d : cSt} {y s : Int32} {j : Nat} (h : j ≠ 1) : (mStep mo d y s).1 j = d j := by
  unfold mStep
  split
  · exact mSitS_row h
  · split
    · dsimp only
      rw [mSitS_row h, cW1 h, mCount_row h]
    · exact mSitS_row h
theorem mRun_row {mo : Int32} {j : Nat} (h : j ≠ 1) : ∀ (n : Nat) (d : cSt) (y s : Int32), (mRun mo n d y s).1 j = d j
  | 0, d, y, s => rfl
  | n + 1, d, y, s => by
    unfold mRun
    split
    · rfl
    · rw [mRun_row h n]; exact mStep_row h
theorem mHome0_row {d : cSt} {x t : Int32} {j : Nat} (h : j ≠ 1) : (mHome0 d x t).1 j = d j := by
  have h0 : mH0 d t j = d j := by unfold mH0; rw [cW1 h, cW1 h]
  unfold mHome0
  split
  · dsimp only
    rw [cW1 h, h0]
  · split
    · split
      · dsimp only
        rw [mSitS_row h, h0]
      · split
        · dsimp only
          rw [mSitS_row h, cW1 h, h0]
        · dsimp only
          rw [mSitS_row h, cW1 h, mCount_row h, h0]
    · exact h0
theorem mHome_row {d : cSt} {x t : Int32} {j : Nat} (h : j ≠ 1) : (mHome d x t).1 j = d j := (mRun_row h _ _ _ _).trans (mHome0_row h)
theorem mSitS_keep {d : cSt} {x y : Int32} (h : mOK d) : mOK (mSitS d x y) ∧ mSitS d x y 1 171 = d 1 171 := by
  refine ⟨?_, ?_⟩
  · unfold mSitS
    refine mOK_W (mOK_W (mOK_W (mOK_W h ?_) ?_) ?_) ?_ <;> (intro k hk; omega)
  · unfold mSitS
    simp only [cW, if_true, if_neg (show ¬ 171 = 180 by omega), if_neg (show ¬ 171 = 181 + 2 * mSt d + 1 by omega), if_neg (show ¬ 171 = 181 + 2 * mSt d by omega), if_neg (show ¬ 171 = 9 * ix x + 3 by omega)]
theorem mCount_keep {d : cSt} {x y : Int32} (h : mOK d) : mOK (mCount d x y) ∧ mCount d x y 1 171 = d 1 171 := by
  refine ⟨?_, ?_⟩
  · unfold mCount
    refine mOK_W (mOK_W (mOK_W h ?_) ?_) ?_ <;> (intro k hk; omega)
  · unfold mCount
    simp only [cW, if_true, if_neg (show ¬ 171 = 172 by omega), if_neg (show ¬ 171 = 173 by omega), if_neg (show ¬ 171 = 9 * ix y + 6 by omega)]
theorem mPl_keep {d : cSt} {y v : Int32} (h : mOK d) : mOK (cW d 1 (9 * ix y + 3) v) ∧ cW d 1 (9 * ix y + 3) v 1 171 = d 1 171 :=
  ⟨mOK_W h (fun k hk => by omega), by simp only [cW, if_true, if_neg (show ¬ 171 = 9 * ix y + 3 by omega)]⟩
theorem mStep_keep {mo : Int32} {d : cSt} {y s : Int32} (h : mOK d) : mOK (mStep mo d y s).1 ∧ (mStep mo d y s).1 1 171 = d 1 171 := by
  unfold mStep
  split
  · exact mSitS_keep h
  · split
    · dsimp only
      have h1 := mCount_keep (x := y) (y := mSit d (mHk d y 1)) h
      have h2 := mPl_keep (y := mSit d (mHk d y 1)) (v := -1) h1.1
      have h3 := mSitS_keep (x := y) (y := mHk d y 1) h2.1
      exact ⟨h3.1, h3.2.trans (h2.2.trans h1.2)⟩
    · exact mSitS_keep h
theorem mRun_keep {mo : Int32} : ∀ (n : Nat) (d : cSt) (y s : Int32), mOK d → mOK (mRun mo n d y s).1 ∧ (mRun mo n d y s).1 1 171 = d 1 171
  | 0, d, y, s, h => ⟨h, rfl⟩
  | n + 1, d, y, s, h => by
    unfold mRun
    split
    · exact ⟨h, rfl⟩
    · have h1 := mStep_keep (mo := mo) (y := y) (s := s) h
      have h2 := mRun_keep (mo := mo) n _ (mStep mo d y s).2.1 (mStep mo d y s).2.2 h1.1
      exact ⟨h2.1, h2.2.trans h1.2⟩
theorem mHome_keep {d : cSt} {x t : Int32} (h : mOK d) : mOK (mHome d x t).1 ∧ (mHome d x t).1 1 171 = d 1 171 := by
  have h0 := (mH0_ok (t := t) h).1
  have e0 : mH0 d t 1 171 = d 1 171 := by simp [mH0, cW]
  generalize hD : mH0 d t = D at h0 e0
  have key : mOK (mHome0 d x t).1 ∧ (mHome0 d x t).1 1 171 = d 1 171 := by
    unfold mHome0
    rw [hD]
    split
    · refine ⟨mOK_W h0 (fun k hk => by omega), ?_⟩
      dsimp only
      rw [← e0]
      simp only [cW, if_true, if_neg (show ¬ 171 = 9 * ix x + 5 by omega)]
    · split
      · split
        · dsimp only
          have := mSitS_keep (x := x) (y := d 1 (9 * ix x + 1)) h0
          rw [this.2]
          exact ⟨this.1, e0⟩
        · split
          · dsimp only
            have h2 := mPl_keep (y := mSit D (d 1 (9 * ix x + 1))) (v := 24) h0
            have h3 := mSitS_keep (x := x) (y := d 1 (9 * ix x + 1)) h2.1
            rw [h3.2, h2.2]
            exact ⟨h3.1, e0⟩
          · dsimp only
            have h1 := mCount_keep (x := x) (y := mSit D (d 1 (9 * ix x + 1))) h0
            have h2 := mPl_keep (y := mSit D (d 1 (9 * ix x + 1))) (v := -1) h1.1
            have h3 := mSitS_keep (x := x) (y := d 1 (9 * ix x + 1)) h2.1
            rw [h3.2, h2.2, h1.2]
            exact ⟨h3.1, e0⟩
      · exact ⟨h0, e0⟩
  have h1 := mRun_keep (mo := d 1 171) 26 _ (mHome0 d x t).2.1 (mHome0 d x t).2.2 key.1
  exact ⟨h1.1, h1.2.trans key.2⟩
def mHomeIf (d : cSt) (x t w : Int32) : Int32 := if mWhyH d x t ≤ 0 then (if w = 0 then (mHome (mA d) x t).1 1 (9 * ix x + 3) else if w = 1 then (mHome (mA d) x t).2 else mAt (mHome (mA d) x t).1 24 24 - mAt d 24 24) else -1
def mHomeIfS (d : cSt) (x t : Int32) : cSt := if mWhyH d x t ≤ 0 then mA d else d
theorem back_A {d e : cSt} (h : ∀ j, j ≠ 1 → e j = mA d j) : dEqv (mCpy e 1 0 2 0 232) (mA d) := by
  refine ⟨fun j hj => by funext q; rw [mCpy_ne hj, h j hj], fun q hq => ?_⟩
  show mCpy e 1 0 2 0 232 1 q = mA d 1 q
  unfold mCpy
  rw [if_pos rfl, if_pos (by omega), h 2 (by decide)]
  show mCpy d 2 0 1 0 232 2 _ = d 1 q
  unfold mCpy
  rw [if_pos rfl, if_pos (by omega)]
  congr 1
  omega
def mAllH (d : cSt) (t : Int32) : Nat → cSt
  | 0 => d
  | k + 1 => if mDove (mAllH d t k) (nI k) = true then (if mAllH d t k 1 (9 * k + 3) = -1 then (mHome (mAllH d t k) (nI k) t).1 else mAllH d t k) else mAllH d t k
theorem mAllH_keep {d : cSt} {t : Int32} (h : mOK d) : ∀ k, mOK (mAllH d t k) ∧ mAllH d t k 1 171 = d 1 171
  | 0 => ⟨h, rfl⟩
  | k + 1 => by
    have h1 := mAllH_keep (t := t) h k
    unfold mAllH
    split
    · split
      · have h2 := mHome_keep (x := nI k) (t := t) h1.1
        exact ⟨h2.1, h2.2.trans h1.2⟩
      · exact h1
    · exact h1
theorem mAllH_row {d : cSt} {t : Int32} {j : Nat} (h : j ≠ 1) : ∀ k, mAllH d t k j = d j
  | 0 => rfl
  | k + 1 => by
    unfold mAllH
    split
    · split
      · rw [mHome_row h]; exact mAllH_row h k
      · exact mAllH_row h k
    · exact mAllH_row h k
def mInH (d : cSt) (t : Int32) : Int32 := mAt (mAllH (mA d) t 16) 0 23
def mGood (d : cSt) : Int32 := if mInH d (d 1 168) ≤ mInH d 1439 then 1 else 0
def mFH (d : cSt) : Nat → Int32 → Int32
  | 0, f => f
  | m + 1, f => mFH d m (if mOpen d (nI m) = true ∧ ¬ 0 ≤ mOwn d (nI m) then nI m else f)
theorem nI_m1 (m : Nat) : nI m + Int32.ofInt (-1) = nI m - 1 := by rw [Int32.sub_eq_add_neg]; rfl
set_option maxRecDepth 100000 in
set_option maxHeartbeats 4000000 in
theorem k_X4_findError_2 (l : Launch) {E : gEn} {σ : gSt} {π : Nat → Nat} {o : Int64} {d dF : cSt} {r : Int32} {n q : Nat} {L : Nat} (hL : d 0 8 = nI L) (h60 : L ≤ 60) (hq : q ≤ L) (hn : L + 1 ≤ q + n) (hF : (r, dF) = mErrL d n (nI q)) {p : Program} {e : Env} {s : State} {m : MethodId} {args : Array Value} {below : List Frame} {meth : Method} {cd : Code} (C : gCx p s m cd cX4_findError 2 RX4 wsX4_findError args E (gA E) ({ frames := 4, cells := 0, slots := 0, locals := 93 } : Room) 0 0) (hrt : meth.sig.returnType = (some .int)) (hlk : meth.locks = false) : G p l e ({ frames := 4, cells := 0, slots := 0, locals := 93 } : Room) s m args below meth cd 2 0 0 (gA E) (gQI below args s (r) E (gU σ 10 dF) π o) E (gU σ 10 d) π o 2 [some (.ref (E.2.1 10 0)), some (.int (nI q))] [] := by
  have hinX4 : ∀ w ∈ wsX40, w ∈ wsX4_findError := by decide +kernel
  induction n generalizing d q with
  | zero => exact absurd hn (by omega)
  | succ n ih =>
    refine G.aldn0 C dX4_findError_2 ?_
    refine G.ildn1 C dX4_findError_3 ?_
    refine G.callVI1 C (k_X4_readPart l (L := L) hL h60 rfl (by omega)) (cwV 1 C.1.2.2.2.2 gX4_findError_X4_readPart rfl rfl rfl (by decide +kernel) ⟨Nat.le_of_ble_eq_true rfl, Nat.le_of_ble_eq_true rfl⟩) gO_d rfl (Nat.le_of_ble_eq_true rfl) dX4_findError_4 ?_
    refine G.istn1 C dX4_findError_7 (by omega) rfl ?_
    refine G.ildn1 C dX4_findError_8 ?_
    refine G.if_ge C 16 dX4_findError_9 (by decide) (fun h9 => ?_) (fun h9 => ?_)
    · obtain ⟨q2, hq1, hq2, hqe⟩ := (mPart_at (q := q) hL h60 (by omega)).resolve_left (i_nlt h9)
      refine G.ildn1 C dX4_findError_16 ?_
      refine G.aldn0 C dX4_findError_17 ?_
      refine G.getD C hinX4 8 (by decide) rfl (C.1.2.2.2.2 (.fieldLink RX4 118 RX4 "length" "I") (by decide +kernel)) rfl dX4_findError_18 ?_
      refine G.topI (d 0 8) (mPart_keep.2 8 (by decide) (by decide) (by decide)) ?_
      refine G.icmp_ne C 26 dX4_findError_21 (by decide) (fun h21 => ?_) (fun h21 => ?_)
      · have hlt : q2 < L := by
          rcases Nat.lt_or_ge q2 L with z | z
          · exact z
          · exact absurd (by rw [hqe, hL, show q2 = L by omega]) h21
        refine G.aldn0 C dX4_findError_26 ?_
        refine G.getD C hinX4 7 (by decide) rfl (C.1.2.2.2.2 (.fieldLink RX4 22 RX4 "text" "[I") (by decide +kernel)) rfl dX4_findError_27 ?_
        refine G.ildn1 C dX4_findError_30 ?_
        refine G.ialdU C (n := 60) (j := 5) (d0 := _) rfl (gV_d (by omega)) (by rw [hqe]; exact vp_in_nI (by omega) (by omega)) rfl dX4_findError_31 ?_
        refine G.topI (d 5 (ix (mPart d (nI q)).1)) (congrFun (mPart_keep.1 5 (by decide)) _) ?_
        refine G.bipush C 59 dX4_findError_32 (by decide) ?_
        refine G.icmp_eq C 39 dX4_findError_34 (by decide) (fun h34 => ?_) (fun h34 => ?_)
        · refine G.iinc1 C _ dX4_findError_39 (by omega) rfl rfl ?_
          refine G.goto C 2 dX4_findError_42 (by decide) ?_
          exact G.back (ih (d := (mPart d (nI q)).2) (q := q2 + 1) ((mPart_keep.2 8 (by decide) (by decide) (by decide)).trans hL) (by omega) (by omega) (by rw [hF, mErrL_3 h9 h21 h34, hqe, nI_1])) rfl ⟨rfl, congrArg (fun z => some (Value.int z)) (by rw [hqe]; exact nI_1 q2), trivial⟩
        · refine G.ildn1 C dX4_findError_37 ?_
          exact G.iret C hlk hrt dX4_findError_38 (by exact (congrArg Prod.fst (hF.trans (mErrL_4 h9 h21 h34))).symm) (by intro H h; rw [show dF = (mPart d (nI q)).2 from congrArg Prod.snd (hF.trans (mErrL_4 h9 h21 h34))]; exact h)
      · refine G.iconst C (-1) dX4_findError_24 (by decide) ?_
        exact G.iret C hlk hrt dX4_findError_25 (by exact (congrArg Prod.fst (hF.trans (mErrL_2 h9 h21))).symm) (by intro H h; rw [show dF = (mPart d (nI q)).2 from congrArg Prod.snd (hF.trans (mErrL_2 h9 h21))]; exact h)
    · refine G.iconst C (-1) dX4_findError_12 (by decide) ?_
      refine G.ildn1 C dX4_findError_13 ?_
      refine G.isub C dX4_findError_14 ?_
      exact G.iret C hlk hrt dX4_findError_15 (by exact (congrArg Prod.fst (hF.trans (mErrL_1 h9))).symm) (by intro H h; rw [show dF = (mPart d (nI q)).2 from congrArg Prod.snd (hF.trans (mErrL_1 h9))]; exact h)
set_option maxRecDepth 100000 in
set_option maxHeartbeats 4000000 in
theorem k_X4_findError (l : Launch) {E : gEn} {σ : gSt} {π : Nat → Nat} {o : Int64} {d : cSt} {dF : cSt} {r : Int32} {L : Nat} (hL : d 0 8 = nI L) (h60 : L ≤ 60) (hF : (r, dF) = mErr d) : CtI l yX4_findError wsX4_findError ({ frames := 4, cells := 0, slots := 0, locals := 93 } : Room) E [.ref (E.2.1 10 0)] (gU σ 10 d) π o (r) (gU σ 10 dF) π o := by
  refine CtI.of (cc := cX4_findError) (own := RX4) (maxL := 2) (ret := (some .int)) [some (.ref (E.2.1 10 0)), none] (by decide) rfl rfl (Nat.le_of_ble_eq_true rfl) rfl ?_
  intro p e s m args below meth cd C hrt hlk
  have hinX4 : ∀ w ∈ wsX40, w ∈ wsX4_findError := by decide +kernel
  refine G.iconst C 0 dX4_findError_0 (by decide) ?_
  refine G.istn1 C dX4_findError_1 (by omega) rfl ?_
  exact G.back (k_X4_findError_2 l (q := 0) (n := 62) hL h60 (by omega) (by omega) hF C hrt hlk) rfl ⟨rfl, rfl, trivial⟩
set_option maxRecDepth 100000 in
set_option maxHeartbeats 4000000 in
theorem k_X4_firstError (l : Launch) {E : gEn} {σ : gSt} {π : Nat → Nat} {o : Int64} {d : cSt} {L : Nat} (hL : d 0 8 = nI L) (h60 : L ≤ 60) : CtI l yX4_firstError wsX4_firstError ({ frames := 5, cells := 0, slots := 0, locals := 114 } : Room) E [.ref (E.2.1 10 0)] (gU σ 10 d) π o ((mFE d).1) (gU σ 10 ((mFE d).2)) π o := by
  refine CtI.of (cc := cX4_firstError) (own := RX4) (maxL := 2) (ret := (some .int)) [some (.ref (E.2.1 10 0)), none] (by decide) rfl rfl (Nat.le_of_ble_eq_true rfl) rfl ?_
  intro p e s m args below meth cd C hrt hlk
  have hinX4 : ∀ w ∈ wsX40, w ∈ wsX4_firstError := by decide +kernel
  refine G.aldn0 C dX4_firstError_0 ?_
  refine G.iconst C 0 dX4_firstError_1 (by decide) ?_
  refine G.putD (ty := .int) C hinX4 0 (by decide) rfl (C.1.2.2.2.2 (.fieldLink RX4 25 RX4 "thrown" "I") (by decide +kernel)) rfl rfl rfl rfl pfX4_0 dX4_firstError_2 ?_
  refine G.aldn0 C dX4_firstError_5 ?_
  refine G.callVI0 C (k_X4_findError l (d := cW d 0 0 0) (L := L) (r := (mErr (cW d 0 0 0)).1) (dF := (mErr (cW d 0 0 0)).2) hL h60 rfl) (cwV 0 C.1.2.2.2.2 gX4_firstError_X4_findError rfl rfl rfl (by decide +kernel) ⟨Nat.le_of_ble_eq_true rfl, Nat.le_of_ble_eq_true rfl⟩) gO_d rfl (Nat.le_of_ble_eq_true rfl) dX4_firstError_6 ?_
  refine G.istn1 C dX4_firstError_9 (by omega) rfl ?_
  refine G.ildn1 C dX4_firstError_10 ?_
  refine G.if_ge C 21 dX4_firstError_11 (by decide) (fun h11 => ?_) (fun h11 => ?_)
  · refine G.ildn1 C dX4_firstError_21 ?_
    exact G.iret C hlk hrt dX4_firstError_22 (by simp only [mFE, if_pos h11]) (by exact fun _ h => h)
  · refine G.aldn0 C dX4_firstError_14 ?_
    refine G.getD C hinX4 8 (by decide) rfl (C.1.2.2.2.2 (.fieldLink RX4 118 RX4 "length" "I") (by decide +kernel)) rfl dX4_firstError_15 ?_
    refine G.topI (d 0 8) (mErrL_keep.2 8 (by decide) (by decide) (by decide)) ?_
    refine G.goto C 22 dX4_firstError_18 (by decide) ?_
    exact G.iret C hlk hrt dX4_firstError_22 (by simp only [mFE, if_neg h11]) (by exact fun _ h => h)
set_option maxRecDepth 100000 in
set_option maxHeartbeats 4000000 in
theorem k_X4_whyNoPart (l : Launch) {E : gEn} {σ : gSt} {π : Nat → Nat} {o : Int64} {d : cSt} (h98 : d 0 9 = 98 → vp_in (d 0 10) 24) (h120 : d 0 9 = 120 → vp_in (d 0 11) 24) : CtI l yX4_whyNoPart wsX4_whyNoPart ({ frames := 4, cells := 0, slots := 0, locals := 87 } : Room) E [.ref (E.2.1 10 0)] (gU σ 10 d) π o (mWhyP d) (gU σ 10 d) π o := by
  refine CtI.of (cc := cX4_whyNoPart) (own := RX4) (maxL := 1) (ret := (some .int)) [some (.ref (E.2.1 10 0))] (by decide) rfl rfl (Nat.le_of_ble_eq_true rfl) rfl ?_
  intro p e s m args below meth cd C hrt hlk
  have hinX4 : ∀ w ∈ wsX40, w ∈ wsX4_whyNoPart := by decide +kernel
  refine G.aldn0 C dX4_whyNoPart_0 ?_
  refine G.getD C hinX4 9 (by decide) rfl (C.1.2.2.2.2 (.fieldLink RX4 134 RX4 "letter" "I") (by decide +kernel)) rfl dX4_whyNoPart_1 ?_
  have hp4 : True := trivial
  by_cases h4_98 : d 0 9 = 98
  · refine G.lookup C 77 dX4_whyNoPart_4 (by decide) (off := 73) (by rw [h4_98]; decide) (by decide) ?_
    refine G.aldn0 C dX4_whyNoPart_77 ?_
    refine G.aldn0 C dX4_whyNoPart_78 ?_
    refine G.getD C hinX4 10 (by decide) rfl (C.1.2.2.2.2 (.fieldLink RX4 131 RX4 "first" "I") (by decide +kernel)) rfl dX4_whyNoPart_79 ?_
    refine G.topI (d 0 10) rfl ?_
    refine G.callVI1 C (k_X4_whyNoDove l (h98 h4_98)) (cwV 1 C.1.2.2.2.2 gX4_whyNoPart_X4_whyNoDove rfl rfl rfl (by decide +kernel) ⟨Nat.le_of_ble_eq_true rfl, Nat.le_of_ble_eq_true rfl⟩) gO_d rfl (Nat.le_of_ble_eq_true rfl) dX4_whyNoPart_82 ?_
    exact G.iret C hlk hrt dX4_whyNoPart_85 (by rw [mWhyP, if_pos h4_98]; try simp [h4_98]) (by exact fun _ h => h)
  by_cases h4_104 : d 0 9 = 104
  · refine G.lookup C 48 dX4_whyNoPart_4 (by decide) (off := 44) (by rw [h4_104]; decide) (by decide) ?_
    refine G.aldn0 C dX4_whyNoPart_48 ?_
    refine G.aldn0 C dX4_whyNoPart_49 ?_
    refine G.getD C hinX4 10 (by decide) rfl (C.1.2.2.2.2 (.fieldLink RX4 131 RX4 "first" "I") (by decide +kernel)) rfl dX4_whyNoPart_50 ?_
    refine G.topI (d 0 10) rfl ?_
    refine G.callVI1 C (k_X4_isDove l) (cwV 1 C.1.2.2.2.2 gX4_whyNoPart_X4_isDove rfl rfl rfl (by decide +kernel) ⟨Nat.le_of_ble_eq_true rfl, Nat.le_of_ble_eq_true rfl⟩) gO_d rfl (Nat.le_of_ble_eq_true rfl) dX4_whyNoPart_53 ?_
    refine G.if_eqB C 74 dX4_whyNoPart_56 (by decide) (fun h56 => ?_) (fun h56 => ?_)
    · refine G.bipush C 10 dX4_whyNoPart_74 (by decide) ?_
      exact G.iret C hlk hrt dX4_whyNoPart_76 (by rw [mWhyP, if_neg h4_98, if_pos h4_104]; try simp [h56]) (by exact fun _ h => h)
    · refine G.aldn0 C dX4_whyNoPart_59 ?_
      refine G.aldn0 C dX4_whyNoPart_60 ?_
      refine G.getD C hinX4 10 (by decide) rfl (C.1.2.2.2.2 (.fieldLink RX4 131 RX4 "first" "I") (by decide +kernel)) rfl dX4_whyNoPart_61 ?_
      refine G.topI (d 0 10) rfl ?_
      refine G.aldn0 C dX4_whyNoPart_64 ?_
      refine G.getD C hinX4 11 (by decide) rfl (C.1.2.2.2.2 (.fieldLink RX4 124 RX4 "second" "I") (by decide +kernel)) rfl dX4_whyNoPart_65 ?_
      refine G.topI (d 0 11) rfl ?_
      refine G.callVI2 C (k_X4_whyNoHome l (mDove_in h56)) (cwV 2 C.1.2.2.2.2 gX4_whyNoPart_X4_whyNoHome rfl rfl rfl (by decide +kernel) ⟨Nat.le_of_ble_eq_true rfl, Nat.le_of_ble_eq_true rfl⟩) gO_d rfl (Nat.le_of_ble_eq_true rfl) dX4_whyNoPart_68 ?_
      refine G.goto C 76 dX4_whyNoPart_71 (by decide) ?_
      exact G.iret C hlk hrt dX4_whyNoPart_76 (by rw [mWhyP, if_neg h4_98, if_pos h4_104]; try simp [h56]) (by exact fun _ h => h)
  by_cases h4_109 : d 0 9 = 109
  · refine G.lookup C 86 dX4_whyNoPart_4 (by decide) (off := 82) (by rw [h4_109]; decide) (by decide) ?_
    refine G.aldn0 C dX4_whyNoPart_86 ?_
    refine G.aldn0 C dX4_whyNoPart_87 ?_
    refine G.getD C hinX4 10 (by decide) rfl (C.1.2.2.2.2 (.fieldLink RX4 131 RX4 "first" "I") (by decide +kernel)) rfl dX4_whyNoPart_88 ?_
    refine G.callVI1 C (k_X4_isDove l) (cwV 1 C.1.2.2.2.2 gX4_whyNoPart_X4_isDove rfl rfl rfl (by decide +kernel) ⟨Nat.le_of_ble_eq_true rfl, Nat.le_of_ble_eq_true rfl⟩) gO_d rfl (Nat.le_of_ble_eq_true rfl) dX4_whyNoPart_91 ?_
    refine G.if_eqB C 123 dX4_whyNoPart_94 (by decide) (fun h94 => ?_) (fun h94 => ?_)
    · refine G.bipush C 10 dX4_whyNoPart_123 (by decide) ?_
      exact G.iret C hlk hrt dX4_whyNoPart_125 (by rw [mWhyP, if_neg h4_98, if_neg h4_104, if_pos h4_109]; try simp [h94]) (by exact fun _ h => h)
    · refine G.aldn0 C dX4_whyNoPart_97 ?_
      refine G.aldn0 C dX4_whyNoPart_98 ?_
      refine G.getD C hinX4 11 (by decide) rfl (C.1.2.2.2.2 (.fieldLink RX4 124 RX4 "second" "I") (by decide +kernel)) rfl dX4_whyNoPart_99 ?_
      refine G.callVI1 C (k_X4_isDove l) (cwV 1 C.1.2.2.2.2 gX4_whyNoPart_X4_isDove rfl rfl rfl (by decide +kernel) ⟨Nat.le_of_ble_eq_true rfl, Nat.le_of_ble_eq_true rfl⟩) gO_d rfl (Nat.le_of_ble_eq_true rfl) dX4_whyNoPart_102 ?_
      refine G.if_eqB C 123 dX4_whyNoPart_105 (by decide) (fun h105 => ?_) (fun h105 => ?_)
      · refine G.bipush C 10 dX4_whyNoPart_123 (by decide) ?_
        exact G.iret C hlk hrt dX4_whyNoPart_125 (by rw [mWhyP, if_neg h4_98, if_neg h4_104, if_pos h4_109]; try simp [h94, h105]) (by exact fun _ h => h)
      · refine G.aldn0 C dX4_whyNoPart_108 ?_
        refine G.aldn0 C dX4_whyNoPart_109 ?_
        refine G.getD C hinX4 10 (by decide) rfl (C.1.2.2.2.2 (.fieldLink RX4 131 RX4 "first" "I") (by decide +kernel)) rfl dX4_whyNoPart_110 ?_
        refine G.aldn0 C dX4_whyNoPart_113 ?_
        refine G.getD C hinX4 11 (by decide) rfl (C.1.2.2.2.2 (.fieldLink RX4 124 RX4 "second" "I") (by decide +kernel)) rfl dX4_whyNoPart_114 ?_
        refine G.callVI2 C (k_X4_whyNoMates l (mDove_in h94) (mDove_in h105)) (cwV 2 C.1.2.2.2.2 gX4_whyNoPart_X4_whyNoMates rfl rfl rfl (by decide +kernel) ⟨Nat.le_of_ble_eq_true rfl, Nat.le_of_ble_eq_true rfl⟩) gO_d rfl (Nat.le_of_ble_eq_true rfl) dX4_whyNoPart_117 ?_
        refine G.goto C 125 dX4_whyNoPart_120 (by decide) ?_
        exact G.iret C hlk hrt dX4_whyNoPart_125 (by rw [mWhyP, if_neg h4_98, if_neg h4_104, if_pos h4_109]; try simp [h94, h105]) (by exact fun _ h => h)
  by_cases h4_120 : d 0 9 = 120
  · refine G.lookup C 126 dX4_whyNoPart_4 (by decide) (off := 122) (by rw [h4_120]; decide) (by decide) ?_
    refine G.aldn0 C dX4_whyNoPart_126 ?_
    refine G.aldn0 C dX4_whyNoPart_127 ?_
    refine G.getD C hinX4 11 (by decide) rfl (C.1.2.2.2.2 (.fieldLink RX4 124 RX4 "second" "I") (by decide +kernel)) rfl dX4_whyNoPart_128 ?_
    refine G.callVI1 C (k_X4_whyNoShut l (h120 h4_120)) (cwV 1 C.1.2.2.2.2 gX4_whyNoPart_X4_whyNoShut rfl rfl rfl (by decide +kernel) ⟨Nat.le_of_ble_eq_true rfl, Nat.le_of_ble_eq_true rfl⟩) gO_d rfl (Nat.le_of_ble_eq_true rfl) dX4_whyNoPart_131 ?_
    exact G.iret C hlk hrt dX4_whyNoPart_134 (by rw [mWhyP, if_neg h4_98, if_neg h4_104, if_neg h4_109, if_pos h4_120]; try simp [h4_98]) (by exact fun _ h => h)
  refine G.lookup C 135 dX4_whyNoPart_4 (by decide) (off := 131) ((lv_osw h4_98 (by decide)).trans ((lv_osw h4_104 (by decide)).trans ((lv_osw h4_109 (by decide)).trans ((lv_osw h4_120 (by decide)).trans rfl)))) (by decide) ?_
  refine G.iconst C 0 dX4_whyNoPart_135 (by decide) ?_
  exact G.iret C hlk hrt dX4_whyNoPart_136 (by rw [mWhyP, if_neg h4_98, if_neg h4_104, if_neg h4_109, if_neg h4_120]; try simp [h4_98]) (by exact fun _ h => h)
set_option maxRecDepth 100000 in
set_option maxHeartbeats 4000000 in
theorem k_X4_doPart (l : Launch) {E : gEn} {σ : gSt} {π : Nat → Nat} {o : Int64} {d : cSt} {moN kf : Nat} (hok : mOK d) (hmo : d 1 171 = nI moN) (h24 : moN ≤ 24) (h98 : d 0 9 = 98 → mFirstF d 16 0 = some kf) (h104 : d 0 9 = 104 → vp_in (d 0 10) 16) (h109 : d 0 9 = 109 → vp_in (d 0 10) 16 ∧ vp_in (d 0 11) 16) (h111 : d 0 9 = 111 → vp_in (d 0 11) 24) (h120 : d 0 9 = 120 → vp_in (d 0 11) 24) : CtI l yX4_doPart wsX4_doPart ({ frames := 6, cells := 0, slots := 0, locals := 140 } : Room) E [.ref (E.2.1 10 0)] (gU σ 10 d) π o ((mDoP d).1) (gU σ 10 ((mDoP d).2)) π o := by
  refine CtI.of (cc := cX4_doPart) (own := RX4) (maxL := 1) (ret := (some .int)) [some (.ref (E.2.1 10 0))] (by decide) rfl rfl (Nat.le_of_ble_eq_true rfl) rfl ?_
  intro p e s m args below meth cd C hrt hlk
  have hinX4 : ∀ w ∈ wsX40, w ∈ wsX4_doPart := by decide +kernel
  refine G.aldn0 C dX4_doPart_0 ?_
  refine G.getD C hinX4 9 (by decide) rfl (C.1.2.2.2.2 (.fieldLink RX4 134 RX4 "letter" "I") (by decide +kernel)) rfl dX4_doPart_1 ?_
  have hp4 : True := trivial
  by_cases h4_98 : d 0 9 = 98
  · refine G.lookup C 69 dX4_doPart_4 (by decide) (off := 65) (by rw [h4_98]; decide) (by decide) ?_
    refine G.aldn0 C dX4_doPart_69 ?_
    refine G.aldn0 C dX4_doPart_70 ?_
    refine G.getD C hinX4 10 (by decide) rfl (C.1.2.2.2.2 (.fieldLink RX4 131 RX4 "first" "I") (by decide +kernel)) rfl dX4_doPart_71 ?_
    refine G.aldn0 C dX4_doPart_74 ?_
    refine G.getD C hinX4 11 (by decide) rfl (C.1.2.2.2.2 (.fieldLink RX4 124 RX4 "second" "I") (by decide +kernel)) rfl dX4_doPart_75 ?_
    refine G.callVI2 C (k_X4_doBuy l (h98 h4_98)) (cwV 2 C.1.2.2.2.2 gX4_doPart_X4_doBuy rfl rfl rfl (by decide +kernel) ⟨Nat.le_of_ble_eq_true rfl, Nat.le_of_ble_eq_true rfl⟩) gO_d rfl (Nat.le_of_ble_eq_true rfl) dX4_doPart_78 ?_
    exact G.iret C hlk hrt dX4_doPart_81 (by rw [mDoP, if_pos h4_98]; rw [mBuy_k (h98 h4_98)]) (by intro H h; rw [mDoP, if_pos h4_98]; rw [mBuy_k (h98 h4_98)]; exact h)
  by_cases h4_104 : d 0 9 = 104
  · refine G.lookup C 56 dX4_doPart_4 (by decide) (off := 52) (by rw [h4_104]; decide) (by decide) ?_
    refine G.aldn0 C dX4_doPart_56 ?_
    refine G.aldn0 C dX4_doPart_57 ?_
    refine G.getD C hinX4 10 (by decide) rfl (C.1.2.2.2.2 (.fieldLink RX4 131 RX4 "first" "I") (by decide +kernel)) rfl dX4_doPart_58 ?_
    refine G.aldn0 C dX4_doPart_61 ?_
    refine G.getD C hinX4 11 (by decide) rfl (C.1.2.2.2.2 (.fieldLink RX4 124 RX4 "second" "I") (by decide +kernel)) rfl dX4_doPart_62 ?_
    refine G.callVI2 C (k_X4_doHome l (h104 h4_104) hok hmo h24 rfl rfl) (cwV 2 C.1.2.2.2.2 gX4_doPart_X4_doHome rfl rfl rfl (by decide +kernel) ⟨Nat.le_of_ble_eq_true rfl, Nat.le_of_ble_eq_true rfl⟩) gO_d rfl (Nat.le_of_ble_eq_true rfl) dX4_doPart_65 ?_
    exact G.iret C hlk hrt dX4_doPart_68 (by rw [mDoP, if_neg h4_98, if_pos h4_104]) (by intro H h; rw [mDoP, if_neg h4_98, if_pos h4_104]; exact h)
  by_cases h4_109 : d 0 9 = 109
  · refine G.lookup C 82 dX4_doPart_4 (by decide) (off := 78) (by rw [h4_109]; decide) (by decide) ?_
    refine G.aldn0 C dX4_doPart_82 ?_
    refine G.aldn0 C dX4_doPart_83 ?_
    refine G.getD C hinX4 10 (by decide) rfl (C.1.2.2.2.2 (.fieldLink RX4 131 RX4 "first" "I") (by decide +kernel)) rfl dX4_doPart_84 ?_
    refine G.aldn0 C dX4_doPart_87 ?_
    refine G.getD C hinX4 11 (by decide) rfl (C.1.2.2.2.2 (.fieldLink RX4 124 RX4 "second" "I") (by decide +kernel)) rfl dX4_doPart_88 ?_
    refine G.callVI2 C (k_X4_doMate l (h109 h4_109).1 (h109 h4_109).2) (cwV 2 C.1.2.2.2.2 gX4_doPart_X4_doMate rfl rfl rfl (by decide +kernel) ⟨Nat.le_of_ble_eq_true rfl, Nat.le_of_ble_eq_true rfl⟩) gO_d rfl (Nat.le_of_ble_eq_true rfl) dX4_doPart_91 ?_
    exact G.iret C hlk hrt dX4_doPart_94 (by rw [mDoP, if_neg h4_98, if_neg h4_104, if_pos h4_109]) (by intro H h; rw [mDoP, if_neg h4_98, if_neg h4_104, if_pos h4_109]; exact h)
  by_cases h4_111 : d 0 9 = 111
  · refine G.lookup C 95 dX4_doPart_4 (by decide) (off := 91) (by rw [h4_111]; decide) (by decide) ?_
    refine G.aldn0 C dX4_doPart_95 ?_
    refine G.getD C hinX4 1 (by decide) rfl (C.1.2.2.2.2 (.fieldLink RX4 7 RX4 "z" "[I") (by decide +kernel)) rfl dX4_doPart_96 ?_
    refine G.sipush C 144 dX4_doPart_99 (by decide) ?_
    refine G.aldn0 C dX4_doPart_102 ?_
    refine G.getD C hinX4 11 (by decide) rfl (C.1.2.2.2.2 (.fieldLink RX4 124 RX4 "second" "I") (by decide +kernel)) rfl dX4_doPart_103 ?_
    refine G.iadd C dX4_doPart_106 ?_
    refine G.aldn0 C dX4_doPart_107 ?_
    refine G.getD C hinX4 9 (by decide) rfl (C.1.2.2.2.2 (.fieldLink RX4 134 RX4 "letter" "I") (by decide +kernel)) rfl dX4_doPart_108 ?_
    refine G.bipush C 120 dX4_doPart_111 (by decide) ?_
    refine G.icmp_ne C 120 dX4_doPart_113 (by decide) (fun h113 => ?_) (fun h113 => absurd (h4_111.symm.trans h113) (by decide))
    refine G.iconst C 0 dX4_doPart_120 (by decide) ?_
    refine G.iastU C (n := 232) (j := 1) (d0 := (144 + ix (d 0 11))) rfl (gV_d (by omega)) (hin1 (h111 h4_111)) (hin2 (h111 h4_111)) dX4_doPart_121 ?_
    refine G.iconst C 0 dX4_doPart_122 (by decide) ?_
    exact G.iret C hlk hrt dX4_doPart_123 (by rw [mDoP, if_neg h4_98, if_neg h4_104, if_neg h4_109, if_pos h4_111]) (by intro H h; rw [mDoP, if_neg h4_98, if_neg h4_104, if_neg h4_109, if_pos h4_111]; exact h)
  by_cases h4_120 : d 0 9 = 120
  · refine G.lookup C 95 dX4_doPart_4 (by decide) (off := 91) (by rw [h4_120]; decide) (by decide) ?_
    refine G.aldn0 C dX4_doPart_95 ?_
    refine G.getD C hinX4 1 (by decide) rfl (C.1.2.2.2.2 (.fieldLink RX4 7 RX4 "z" "[I") (by decide +kernel)) rfl dX4_doPart_96 ?_
    refine G.sipush C 144 dX4_doPart_99 (by decide) ?_
    refine G.aldn0 C dX4_doPart_102 ?_
    refine G.getD C hinX4 11 (by decide) rfl (C.1.2.2.2.2 (.fieldLink RX4 124 RX4 "second" "I") (by decide +kernel)) rfl dX4_doPart_103 ?_
    refine G.iadd C dX4_doPart_106 ?_
    refine G.aldn0 C dX4_doPart_107 ?_
    refine G.getD C hinX4 9 (by decide) rfl (C.1.2.2.2.2 (.fieldLink RX4 134 RX4 "letter" "I") (by decide +kernel)) rfl dX4_doPart_108 ?_
    refine G.bipush C 120 dX4_doPart_111 (by decide) ?_
    refine G.icmp_ne C 120 dX4_doPart_113 (by decide) (fun h113 => absurd h4_120 h113) (fun h113 => ?_)
    refine G.iconst C 1 dX4_doPart_116 (by decide) ?_
    refine G.goto C 121 dX4_doPart_117 (by decide) ?_
    refine G.iastU C (n := 232) (j := 1) (d0 := (144 + ix (d 0 11))) rfl (gV_d (by omega)) (hin1 (h120 h4_120)) (hin2 (h120 h4_120)) dX4_doPart_121 ?_
    refine G.iconst C 0 dX4_doPart_122 (by decide) ?_
    exact G.iret C hlk hrt dX4_doPart_123 (by rw [mDoP, if_neg h4_98, if_neg h4_104, if_neg h4_109, if_neg h4_111, if_pos h4_120]) (by intro H h; rw [mDoP, if_neg h4_98, if_neg h4_104, if_neg h4_109, if_neg h4_111, if_pos h4_120]; exact h)
  refine G.lookup C 124 dX4_doPart_4 (by decide) (off := 120) ((lv_osw h4_98 (by decide)).trans ((lv_osw h4_104 (by decide)).trans ((lv_osw h4_109 (by decide)).trans ((lv_osw h4_111 (by decide)).trans ((lv_osw h4_120 (by decide)).trans rfl))))) (by decide) ?_
  refine G.aldn0 C dX4_doPart_124 ?_
  refine G.callVI0 C (k_X4_doDawn l) (cwV 0 C.1.2.2.2.2 gX4_doPart_X4_doDawn rfl rfl rfl (by decide +kernel) ⟨Nat.le_of_ble_eq_true rfl, Nat.le_of_ble_eq_true rfl⟩) gO_d rfl (Nat.le_of_ble_eq_true rfl) dX4_doPart_125 ?_
  exact G.iret C hlk hrt dX4_doPart_128 (by rw [mDoP, if_neg h4_98, if_neg h4_104, if_neg h4_109, if_neg h4_111, if_neg h4_120]) (by intro H h; rw [mDoP, if_neg h4_98, if_neg h4_104, if_neg h4_109, if_neg h4_111, if_neg h4_120]; exact h)
set_option maxRecDepth 100000 in
set_option maxHeartbeats 4000000 in
theorem k_X4_doveNow (l : Launch) {E : gEn} {σ : gSt} {π : Nat → Nat} {o : Int64} {d : cSt} {x y : Int32} (hx : vp_in x 16) (hy : vp_in y 8) : CtI l yX4_doveNow wsX4_doveNow ({ frames := 1, cells := 0, slots := 0, locals := 22 } : Room) E [.ref (E.2.1 10 0), .int x, .int y] (gU σ 10 d) π o (mDoveN d x y) (gU σ 10 d) π o := by
  refine CtI.of (cc := cX4_doveNow) (own := RX4) (maxL := 3) (ret := (some .int)) [some (.ref (E.2.1 10 0)), some (.int x), some (.int y)] (by decide) rfl rfl (Nat.le_of_ble_eq_true rfl) rfl ?_
  intro p e s m args below meth cd C hrt hlk
  have hinX4 : ∀ w ∈ wsX40, w ∈ wsX4_doveNow := by decide +kernel
  refine G.aldn0 C dX4_doveNow_0 ?_
  refine G.ildn1 C dX4_doveNow_1 ?_
  refine G.iconst C 1 dX4_doveNow_2 (by decide) ?_
  refine G.ildn2 C dX4_doveNow_3 ?_
  refine G.iadd C dX4_doveNow_4 ?_
  refine G.topI (nI (1 + ix y)) (by obtain ⟨j, hj, rfl⟩ := vp_in_of hy (by omega); rw [ix_nI (by omega), show (1 : Int32) = nI 1 from rfl, nI_add]) ?_
  refine G.callVI2 C (k_X4_of l (w := 1 + ix y) hx (by obtain ⟨j, hj, rfl⟩ := vp_in_of hy (by omega); rw [ix_nI (by omega)]; omega) rfl) (cwV 2 C.1.2.2.2.2 gX4_doveNow_X4_of rfl rfl rfl (by decide +kernel) ⟨Nat.le_of_ble_eq_true rfl, Nat.le_of_ble_eq_true rfl⟩) gO_d rfl (Nat.le_of_ble_eq_true rfl) dX4_doveNow_5 ?_
  exact G.iret C hlk hrt dX4_doveNow_8 (by rfl) (by exact fun _ h => h)
set_option maxRecDepth 100000 in
set_option maxHeartbeats 4000000 in
theorem k_X4_holeNow (l : Launch) {E : gEn} {σ : gSt} {π : Nat → Nat} {o : Int64} {d : cSt} {x y : Int32} (hx : vp_in x 24) : CtI l yX4_holeNow wsX4_holeNow ({ frames := 3, cells := 0, slots := 0, locals := 66 } : Room) E [.ref (E.2.1 10 0), .int x, .int y] (gU σ 10 d) π o (mHoleN d x y) (gU σ 10 d) π o := by
  refine CtI.of (cc := cX4_holeNow) (own := RX4) (maxL := 3) (ret := (some .int)) [some (.ref (E.2.1 10 0)), some (.int x), some (.int y)] (by decide) rfl rfl (Nat.le_of_ble_eq_true rfl) rfl ?_
  intro p e s m args below meth cd C hrt hlk
  have hinX4 : ∀ w ∈ wsX40, w ∈ wsX4_holeNow := by decide +kernel
  refine G.ildn2 C dX4_holeNow_0 ?_
  refine G.if_ne C 12 dX4_holeNow_1 (by decide) (fun h1 => ?_) (fun h1 => ?_)
  · refine G.ildn2 C dX4_holeNow_12 ?_
    refine G.iconst C 1 dX4_holeNow_13 (by decide) ?_
    refine G.icmp_ne C 25 dX4_holeNow_14 (by decide) (fun h14 => ?_) (fun h14 => ?_)
    · refine G.aldn0 C dX4_holeNow_25 ?_
      refine G.ildn1 C dX4_holeNow_26 ?_
      refine G.callVI1 C (k_X4_isOpen l (by first | assumption | exact vp_in_nI (by omega) (by omega))) (cwV 1 C.1.2.2.2.2 gX4_holeNow_X4_isOpen rfl rfl rfl (by decide +kernel) ⟨Nat.le_of_ble_eq_true rfl, Nat.le_of_ble_eq_true rfl⟩) gO_d rfl (Nat.le_of_ble_eq_true rfl) dX4_holeNow_27 ?_
      refine G.if_eqB C 37 dX4_holeNow_30 (by decide) (fun h30 => ?_) (fun h30 => ?_)
      · refine G.iconst C 0 dX4_holeNow_37 (by decide) ?_
        exact G.iret C hlk hrt dX4_holeNow_38 (by simp [mHoleN, *]) (by exact fun _ h => h)
      · refine G.iconst C 1 dX4_holeNow_33 (by decide) ?_
        refine G.goto C 38 dX4_holeNow_34 (by decide) ?_
        exact G.iret C hlk hrt dX4_holeNow_38 (by simp [mHoleN, *]) (by exact fun _ h => h)
    · refine G.aldn0 C dX4_holeNow_17 ?_
      refine G.ildn1 C dX4_holeNow_18 ?_
      refine G.callVI1 C (k_X4_ownerOf l) (cwV 1 C.1.2.2.2.2 gX4_holeNow_X4_ownerOf rfl rfl rfl (by decide +kernel) ⟨Nat.le_of_ble_eq_true rfl, Nat.le_of_ble_eq_true rfl⟩) gO_d rfl (Nat.le_of_ble_eq_true rfl) dX4_holeNow_19 ?_
      refine G.goto C 38 dX4_holeNow_22 (by decide) ?_
      exact G.iret C hlk hrt dX4_holeNow_38 (by simp [mHoleN, *]) (by exact fun _ h => h)
  · refine G.aldn0 C dX4_holeNow_4 ?_
    refine G.ildn1 C dX4_holeNow_5 ?_
    refine G.callVI1 C (k_X4_sitter l) (cwV 1 C.1.2.2.2.2 gX4_holeNow_X4_sitter rfl rfl rfl (by decide +kernel) ⟨Nat.le_of_ble_eq_true rfl, Nat.le_of_ble_eq_true rfl⟩) gO_d rfl (Nat.le_of_ble_eq_true rfl) dX4_holeNow_6 ?_
    refine G.goto C 38 dX4_holeNow_9 (by decide) ?_
    exact G.iret C hlk hrt dX4_holeNow_38 (by simp [mHoleN, *]) (by exact fun _ h => h)
