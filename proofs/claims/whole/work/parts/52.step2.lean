/-! calls on both sides, the rest of the helpers -/
theorem mR_3 {d e : cSt} {sv : Nat} (h1 : e 1 = d 1) (h3 : e 3 = d 3) : mR e sv 3 = mR d sv 3 := by
  funext q
  unfold mR mRec mRec5
  split
  · rw [cWn (by omega), cWn (by omega)]
    show (if 3 = 3 then (if 232 * 5 ≤ q ∧ q < 232 * 5 + 232 then cW (mCpy (cW e 0 0 0) 3 0 3 232 1160) 0 4 5 1 (0 + (q - 232 * 5)) else cW (mCpy (cW e 0 0 0) 3 0 3 232 1160) 0 4 5 3 q) else _) = (if 3 = 3 then (if 232 * 5 ≤ q ∧ q < 232 * 5 + 232 then cW (mCpy (cW d 0 0 0) 3 0 3 232 1160) 0 4 5 1 (0 + (q - 232 * 5)) else cW (mCpy (cW d 0 0 0) 3 0 3 232 1160) 0 4 5 3 q) else _)
    rw [if_pos rfl, if_pos rfl]
    split
    · rw [cWn (by omega), cWn (by omega), mCpy_ne (by omega), mCpy_ne (by omega), cWn (by omega), cWn (by omega), h1]
    · rw [cWn (by omega), cWn (by omega)]
      show (if 3 = 3 then (if 0 ≤ q ∧ q < 0 + 1160 then cW e 0 0 0 3 (232 + (q - 0)) else cW e 0 0 0 3 q) else _) = (if 3 = 3 then (if 0 ≤ q ∧ q < 0 + 1160 then cW d 0 0 0 3 (232 + (q - 0)) else cW d 0 0 0 3 q) else _)
      rw [if_pos rfl, if_pos rfl, cWn (by omega), cWn (by omega), h3]
  · rw [cWn (by omega), cWn (by omega)]
    show (if 3 = 3 then (if 232 * sv ≤ q ∧ q < 232 * sv + 232 then cW e 0 0 0 1 (0 + (q - 232 * sv)) else cW e 0 0 0 3 q) else _) = (if 3 = 3 then (if 232 * sv ≤ q ∧ q < 232 * sv + 232 then cW d 0 0 0 1 (0 + (q - 232 * sv)) else cW d 0 0 0 3 q) else _)
    rw [if_pos rfl, if_pos rfl, cWn (by omega), cWn (by omega), cWn (by omega), cWn (by omega), h1, h3]
theorem st_append (l : Launch) (hst : l.stackTraces = false) {E : gEn} {B : Nat} {σ : gSt} {π : Nat → Nat} {o : Int64} {x : Int32} (hB : B < 2 ^ 29) (h : Big B σ π) : HS l E B σ π o yL_append wsL_append ({ frames := 8, cells := 1, slots := 6, locals := 170 } : Room) [.ref (E.2.1 9 0), .int x, .ref (E.2.1 11 0)] yX4_append wsX4_append ({ frames := 1, cells := 0, slots := 0, locals := 22 } : Room) [.ref (E.2.1 10 0), .int x] := by
  obtain ⟨sv, L, hS, hP, h5, hv, hk, hL, hT⟩ := id h
  have hR := hS.1.rel
  have hI := hS.1.inv
  have hS2 : SR B (σ 0) (mR (σ 10) sv 1) := by rw [mR_1]; exact hS.1
  have hO2 : mOK (mR (σ 10) sv) := mOK_1 mR_1 hS.2
  by_cases hx : ¬ x < 33 ∧ x ≤ 126
  · by_cases h60 : L < 60
    · have eP : pAppend (σ 10) x = (nI (L + 1), cW (cW (cW (σ 10) 0 0 0) 5 L x) 0 8 (nI (L + 1))) := by
        unfold pAppend
        rw [if_pos (mIn_iff.mpr hx), hT.1, if_neg (fun w => by have := nI_inj (b := 60) (by omega) (by omega) w; omega), nI_1, ix_nI (by omega)]
      have hM := k_X4_append l (E := E) (σ := gT σ (σ 0) (σ 1) (σ 2) (cW (cW (σ 9) 2 L x) 0 7 (nI (L + 1)))) (π := π) (o := (nI (L + 1)).toInt64) (d := σ 10) (x := x) hT.1 hT.2.1
      rw [gU_10 (S := gT σ (σ 0) (σ 1) (σ 2) (cW (cW (σ 9) 2 L x) 0 7 (nI (L + 1)))) gT_10] at hM
      refine ⟨0, _, _, _, _, _, k_L_append l hx.1 hx.2 hL h60, hM, ?_, fun _ => ?_, ?_⟩
      · rw [eP]; simp (disch := omega) only [cWr, cWn, zU_ne, zU_at]
      · rw [eP]
      · rw [eP]
        show Big (B + 1500) (gU _ 10 (cW (cW (cW (σ 10) 0 0 0) 5 L x) 0 8 (nI (L + 1)))) π
        have r1 : ∀ j, j ≠ 0 → j ≠ 5 → cW (cW (cW (σ 10) 0 0 0) 5 L x) 0 8 (nI (L + 1)) j = σ 10 j := fun j j0 j5 => by rw [cWn j0, cWn j5, cWn j0]
        have r0 : ∀ i, i ≠ 0 → i ≠ 8 → cW (cW (cW (σ 10) 0 0 0) 5 L x) 0 8 (nI (L + 1)) 0 i = σ 10 0 i := fun i i0 i8 => by rw [cWr, zU_ne i8, cWn (by omega), cWr, zU_ne i0]
        refine Big.mono (B := B) ?_ (by omega)
        refine Big.mk (L := L + 1) (by rw [r1 1 (by omega) (by omega)]; exact hS) hP (sv := sv) ?_ (hv.ext (fun _ _ => rfl) (r0 4 (by omega) (by omega)) (r1 3 (by omega) (by omega))) (hk.ext ?_ (r0 6 (by omega) (by omega)) (r1 4 (by omega) (by omega))) (by rw [cWr, zU_at]) ⟨by rw [cWr, zU_at], by omega, fun k hk2 => ?_⟩
        · rw [cWr, zU_ne (by omega), cWn (by omega)]; exact h5
        · rw [cWr, zU_ne (by omega), cWn (by omega)]
        · rw [cWn (by omega), cWr, cWn (by omega), cWn (by omega), cWr]
          by_cases hc : k = L
          · rw [hc, zU_at, zU_at]
            exact ⟨rfl, fun w => hx.1 (by rw [w]; decide)⟩
          · rw [zU_ne hc, zU_ne hc]
            exact hT.2.2 k (by omega)
    · have e60 : L = 60 := by have := hT.2.1; omega
      refine HS.thr h (k_L_append_t2 l hst hx.1 hx.2 (by rw [hL, e60])) (k_X4_append l hT.1 hT.2.1) ?_ (by decide)
      unfold pAppend
      rw [if_pos (mIn_iff.mpr hx), if_pos (by rw [hT.1, e60]; rfl)]
  · refine HS.thr h (k_L_append_t1 l hst hx) (k_X4_append l hT.1 hT.2.1) ?_ (by decide)
    unfold pAppend
    rw [if_neg (mIn_f hx)]
theorem st_stopped (l : Launch) (hst : l.stackTraces = false) {E : gEn} {B : Nat} {σ : gSt} {π : Nat → Nat} {o : Int64} {x : Int32} (hB : B < 2 ^ 29) (h : Big B σ π) : HS l E B σ π o yL_stopped wsL_stopped ({ frames := 8, cells := 1, slots := 6, locals := 170 } : Room) [.ref (E.2.1 9 0), .int x, .ref (E.2.1 11 0)] yX4_stopped wsX4_stopped ({ frames := 1, cells := 0, slots := 0, locals := 22 } : Room) [.ref (E.2.1 10 0), .int x] := by
  obtain ⟨sv, L, hS, hP, h5, hv, hk, hL, hT⟩ := id h
  have hR := hS.1.rel
  have hI := hS.1.inv
  have hS2 : SR B (σ 0) (mR (σ 10) sv 1) := by rw [mR_1]; exact hS.1
  have hO2 : mOK (mR (σ 10) sv) := mOK_1 mR_1 hS.2
  by_cases hx : ¬ x < 0 ∧ x < 2
  · obtain ⟨j, hj, rfl⟩ : ∃ j, j < 2 ∧ x = nI j := by
      obtain ⟨j, hj, rfl⟩ := nI_of hx.1
      exact ⟨j, by have := hx.2; rw [show (2 : Int32) = nI 2 from rfl, nI_ltI (by omega) (by omega)] at this; exact this, rfl⟩
    have hmx : mIn (nI j) 0 1 = true := (mIn_nI2 (a := 0) (b := 1) (by omega) (by omega) (by omega)).mpr ⟨by omega, by omega⟩
    have eP : pStopped (σ 10) (nI j) = (cW (σ 10) 0 0 0 1 (178 + ix (nI j)), cW (σ 10) 0 0 0) := by
      unfold pStopped
      rw [if_pos hmx]
    refine HS.look h (k_L_stopped l hx.1 hx.2) (k_X4_stopped l) (Or.inl (by rw [eP])) ?_
    rw [eP, ix_nI (by omega)]
    show _ = (cW (σ 10) 0 0 0 1 (178 + j)).toInt64
    rw [cWn (by omega), hR.stp j hj]
  · refine HS.thr h (k_L_stopped_t l hst hx) (k_X4_stopped l) ?_ (by decide)
    unfold pStopped
    rw [if_neg (fun w => hx ⟨(mIn_iff.mp w).1, Int32.lt_of_le_of_lt (mIn_iff.mp w).2 (by decide)⟩)]
theorem st_undo (l : Launch) (hst : l.stackTraces = false) {E : gEn} {B : Nat} {σ : gSt} {π : Nat → Nat} {o : Int64} (hB : B < 2 ^ 29) (h : Big B σ π) : HS l E B σ π o yL_undo wsL_undo ({ frames := 8, cells := 1, slots := 6, locals := 170 } : Room) [.ref (E.2.1 9 0), .ref (E.2.1 11 0)] yX4_undo wsX4_undo ({ frames := 0, cells := 0, slots := 0, locals := 0 } : Room) [.ref (E.2.1 10 0)] := by
  obtain ⟨sv, L, hS, hP, h5, hv, hk, hL, hT⟩ := id h
  have hR := hS.1.rel
  have hI := hS.1.inv
  have hS2 : SR B (σ 0) (mR (σ 10) sv 1) := by rw [mR_1]; exact hS.1
  have hO2 : mOK (mR (σ 10) sv) := mOK_1 mR_1 hS.2
  cases sv with
  | zero =>
    refine HS.thr h (k_L_undo_t l hst h5) (k_X4_undo l hv.2.1 hv.1 (r := 0) (dF := cW (σ 10) 0 0 1) ?_) rfl (by decide)
    unfold mUndo
    rw [if_pos rfl]
  | succ sv =>
    have h6 := hv.1
    have eP : mUndo (σ 10) (sv + 1) = (nI sv, mCpy (cW (cW (σ 10) 0 0 0) 0 4 (nI sv)) 1 0 3 (232 * sv) 232) := by
      unfold mUndo
      rw [if_neg (by omega)]; rfl
    have hM := k_X4_undo l (E := E) (σ := gT σ (σ (π sv)) (σ 1) (σ 2) (cW (σ 9) 0 5 (nI sv))) (π := π) (o := (nI sv).toInt64) (d := σ 10) hv.2.1 hv.1 eP.symm
    rw [gU_10 (S := gT σ (σ (π sv)) (σ 1) (σ 2) (cW (σ 9) 0 5 (nI sv))) gT_10] at hM
    have r1 : ∀ j, j ≠ 0 → j ≠ 1 → mCpy (cW (cW (σ 10) 0 0 0) 0 4 (nI sv)) 1 0 3 (232 * sv) 232 j = σ 10 j := fun j j0 j1 => by rw [mCpy_row j1, cWn j0, cWn j0]
    have r0 : ∀ i, i ≠ 0 → i ≠ 4 → mCpy (cW (cW (σ 10) 0 0 0) 0 4 (nI sv)) 1 0 3 (232 * sv) 232 0 i = σ 10 0 i := fun i i0 i4 => by rw [mCpy_row (by omega), cWr, zU_ne i4, cWr, zU_ne i0]
    refine ⟨0, _, _, _, _, _, k_L_undo l h5 (by omega) hP.1, hM, ?_, fun _ => rfl, ?_⟩
    · rw [mCpy_row (by omega), cWr, zU_ne (by omega), cWr, zU_at]
    · refine Big.mono (B := B) ?_ (by omega)
      refine Big.mk (L := L) ?_ hP (sv := sv) (by rw [cWr, zU_at]) ⟨by omega, by rw [mCpy_row (by omega), cWr, zU_at], fun k hk2 => ?_⟩ (hk.ext ?_ (r0 6 (by omega) (by omega)) (r1 4 (by omega) (by omega))) ?_ (hT.ext (by rw [cWn (by omega)]) (r0 8 (by omega) (by omega)) (r1 5 (by omega) (by omega)))
      · refine (hv.2.2 sv (by omega)).congr fun q hq => ?_
        show (if 1 = 1 then (if 0 ≤ q ∧ q < 0 + 232 then cW (cW (σ 10) 0 0 0) 0 4 (nI sv) 3 (232 * sv + (q - 0)) else _) else _) = _
        rw [if_pos rfl, if_pos (by omega), cWn (by omega), cWn (by omega)]
        rfl
      · rw [r1 3 (by omega) (by omega)]
        exact hv.2.2 k (by omega)
      · rw [cWr, zU_ne (by omega)]
      · rw [cWr, zU_ne (by omega)]; exact hL
theorem st_restore (l : Launch) (hst : l.stackTraces = false) {E : gEn} {B : Nat} {σ : gSt} {π : Nat → Nat} {o : Int64} (hB : B < 2 ^ 29) (h : Big B σ π) : HS l E B σ π o yL_restore wsL_restore ({ frames := 8, cells := 1, slots := 6, locals := 170 } : Room) [.ref (E.2.1 9 0), .ref (E.2.1 11 0)] yX4_restore wsX4_restore ({ frames := 1, cells := 0, slots := 0, locals := 21 } : Room) [.ref (E.2.1 10 0)] := by
  obtain ⟨sv, L, hS, hP, h5, hv, hk, hL, hT⟩ := id h
  have hR := hS.1.rel
  have hI := hS.1.inv
  have hS2 : SR B (σ 0) (mR (σ 10) sv 1) := by rw [mR_1]; exact hS.1
  have hO2 : mOK (mR (σ 10) sv) := mOK_1 mR_1 hS.2
  rcases hk with ⟨hk1, hk2⟩ | ⟨hk1, hk2, hk3⟩
  · refine HS.thr h (k_L_restore_t l hst hk1) (k_X4_restore l hv.2.1 hv.1 (r := 0) (dF := cW (σ 10) 0 0 1) ?_) rfl (by decide)
    unfold mRest
    rw [if_pos hk2]
  · have eP : mRest (σ 10) sv = (mCpy (mR (σ 10) sv) 1 0 4 0 232 1 169, mCpy (mR (σ 10) sv) 1 0 4 0 232) := by
      unfold mRest
      rw [if_neg hk2]
      rfl
    have e1 : ∀ q, q < 232 → mCpy (mR (σ 10) sv) 1 0 4 0 232 1 q = σ 10 4 q := fun q hq => by
      show (if 1 = 1 then (if 0 ≤ q ∧ q < 0 + 232 then mR (σ 10) sv 4 (0 + (q - 0)) else _) else _) = _
      rw [if_pos rfl, if_pos (by omega), mR_j (by omega) (by omega)]
      congr 1; omega
    refine HS.sav h h5 hv.1 hP (k_L_restore l hk1 h5 hv.1 hP.1) (k_X4_restore l hv.2.1 hv.1 eP.symm) ?_ ((hk3.congr e1).mono (by omega)) (fun j j0 j1 => mCpy_row j1) ?_ ?_ ?_ (sv9_0 (by omega)) rfl (sv9_j (by omega)) (Or.inl ⟨sv9_0 (by omega), ?_⟩)
    · rw [e1 169 (by omega), hk3.1.rel.day]
    · rw [mCpy_row (by omega)]; exact mR_00
    · rw [mCpy_row (by omega)]
    · rw [mCpy_row (by omega)]; exact mR_0 (by omega) (by omega)
    · rw [mCpy_row (by omega)]; exact mR_0 (by omega) (by omega)
theorem st_dove (l : Launch) (hst : l.stackTraces = false) {E : gEn} {B : Nat} {σ : gSt} {π : Nat → Nat} {o : Int64} {x y : Int32} (hB : B < 2 ^ 29) (h : Big B σ π) : HS l E B σ π o yL_dove wsL_dove ({ frames := 8, cells := 1, slots := 6, locals := 170 } : Room) [.ref (E.2.1 9 0), .int x, .int y, .ref (E.2.1 11 0)] yX4_dove wsX4_dove ({ frames := 2, cells := 0, slots := 0, locals := 44 } : Room) [.ref (E.2.1 10 0), .int x, .int y] := by
  obtain ⟨sv, L, hS, hP, h5, hv, hk, hL, hT⟩ := id h
  have hR := hS.1.rel
  have hI := hS.1.inv
  have hS2 : SR B (σ 0) (mR (σ 10) sv 1) := by rw [mR_1]; exact hS.1
  have hO2 : mOK (mR (σ 10) sv) := mOK_1 mR_1 hS.2
  by_cases hx : cEx (σ 0) x = true
  · by_cases hy : ¬ y < 0 ∧ y < 8
    · obtain ⟨k, hk', rfl, he⟩ := cEx_iff.mp hx
      obtain ⟨j, hj, rfl⟩ : ∃ j, j < 8 ∧ y = nI j := by
        obtain ⟨j, hj, rfl⟩ := nI_of hy.1
        exact ⟨j, by have := hy.2; rw [show (8 : Int32) = nI 8 from rfl, nI_ltI (by omega) (by omega)] at this; exact this, rfl⟩
      have hmy : mIn (nI j) 0 7 = true := (mIn_nI2 (a := 0) (b := 7) (by omega) (by omega) (by omega)).mpr ⟨by omega, by omega⟩
      have eP : pDove (σ 10) (nI k) (nI j) = (mDoveN (cW (σ 10) 0 0 0) (nI k) (nI j), cW (σ 10) 0 0 0) := by
        unfold pDove
        rw [if_pos (by rw [← hR.exx]; exact hx), if_pos hmy]
      refine HS.look h (k_L_dove l hx hy.1 hy.2) (k_X4_dove l) (Or.inl (by rw [eP])) ?_
      have hR' : Rel (σ 0) (cW (σ 10) 0 0 0 1) := by rw [cWn (by omega)]; exact hR
      rw [eP, hR'.dov hk' hj he, ix_nI (by omega), ix_nI (by omega)]
    · refine HS.thr h (k_L_dove_t2 l hst hx hy) (k_X4_dove l) ?_ (by decide)
      unfold pDove
      rw [if_pos (by rw [← hR.exx]; exact hx), if_neg (fun w => hy ⟨(mIn_iff.mp w).1, Int32.lt_of_le_of_lt (mIn_iff.mp w).2 (by decide)⟩)]
  · refine HS.thr h (k_L_dove_t1 l hst (by rw [Bool.not_eq_true] at hx; exact hx)) (k_X4_dove l) ?_ (by decide)
    unfold pDove
    rw [if_neg (by rw [← hR.exx]; exact hx)]
theorem st_hole (l : Launch) (hst : l.stackTraces = false) {E : gEn} {B : Nat} {σ : gSt} {π : Nat → Nat} {o : Int64} {x y : Int32} (hB : B < 2 ^ 29) (h : Big B σ π) : HS l E B σ π o yL_hole wsL_hole ({ frames := 8, cells := 1, slots := 6, locals := 170 } : Room) [.ref (E.2.1 9 0), .int x, .int y, .ref (E.2.1 11 0)] yX4_hole wsX4_hole ({ frames := 4, cells := 0, slots := 0, locals := 88 } : Room) [.ref (E.2.1 10 0), .int x, .int y] := by
  obtain ⟨sv, L, hS, hP, h5, hv, hk, hL, hT⟩ := id h
  have hR := hS.1.rel
  have hI := hS.1.inv
  have hS2 : SR B (σ 0) (mR (σ 10) sv 1) := by rw [mR_1]; exact hS.1
  have hO2 : mOK (mR (σ 10) sv) := mOK_1 mR_1 hS.2
  by_cases hx : hHole x = true
  · by_cases hy : ¬ y < 0 ∧ y < 3
    · obtain ⟨q, hq, rfl⟩ := vp_in_of (hHole_in hx) (by omega)
      obtain ⟨j, hj, rfl⟩ : ∃ j, j < 3 ∧ y = nI j := by
        obtain ⟨j, hj, rfl⟩ := nI_of hy.1
        exact ⟨j, by have := hy.2; rw [show (3 : Int32) = nI 3 from rfl, nI_ltI (by omega) (by omega)] at this; exact this, rfl⟩
      have hmy : mIn (nI j) 0 2 = true := (mIn_nI2 (a := 0) (b := 2) (by omega) (by omega) (by omega)).mpr ⟨by omega, by omega⟩
      have eP : pHole (σ 10) (nI q) (nI j) = (mHoleN (cW (σ 10) 0 0 0) (nI q) (nI j), cW (σ 10) 0 0 0) := by
        unfold pHole
        rw [if_pos (by rw [hHole_mIn]; exact hx), if_pos hmy]
      refine HS.look h (k_L_hole l hx hy.1 hy.2) (k_X4_hole l) (Or.inl (by rw [eP])) ?_
      have hR' : Rel (σ 0) (cW (σ 10) 0 0 0 1) := by rw [cWn (by omega)]; exact hR
      rw [eP, hole_sim hR' hI hq hj, ix_nI (by omega), ix_nI (by omega)]
    · refine HS.thr h (k_L_hole_t2 l hst hx hy) (k_X4_hole l) ?_ (by decide)
      unfold pHole
      rw [if_pos (by rw [hHole_mIn]; exact hx), if_neg (fun w => hy ⟨(mIn_iff.mp w).1, Int32.lt_of_le_of_lt (mIn_iff.mp w).2 (by decide)⟩)]
  · refine HS.thr h (k_L_hole_t1 l hst (by rw [Bool.not_eq_true] at hx; exact hx)) (k_X4_hole l) ?_ (by decide)
    unfold pHole
    rw [if_neg (by rw [hHole_mIn]; exact hx)]
theorem st_count (l : Launch) (hst : l.stackTraces = false) {E : gEn} {B : Nat} {σ : gSt} {π : Nat → Nat} {o : Int64} {x : Int32} (hB : B < 2 ^ 29) (h : Big B σ π) : HS l E B σ π o yL_count wsL_count ({ frames := 8, cells := 1, slots := 6, locals := 170 } : Room) [.ref (E.2.1 9 0), .int x, .ref (E.2.1 11 0)] yX4_count wsX4_count ({ frames := 4, cells := 0, slots := 0, locals := 88 } : Room) [.ref (E.2.1 10 0), .int x] := by
  obtain ⟨sv, L, hS, hP, h5, hv, hk, hL, hT⟩ := id h
  have hR := hS.1.rel
  have hI := hS.1.inv
  have hS2 : SR B (σ 0) (mR (σ 10) sv 1) := by rw [mR_1]; exact hS.1
  have hO2 : mOK (mR (σ 10) sv) := mOK_1 mR_1 hS.2
  by_cases hx : ¬ x < 0 ∧ x < 18
  · obtain ⟨j, hj, rfl⟩ : ∃ j, j < 18 ∧ x = nI j := by
      obtain ⟨j, hj, rfl⟩ := nI_of hx.1
      exact ⟨j, by have := hx.2; rw [show (18 : Int32) = nI 18 from rfl, nI_ltI (by omega) (by omega)] at this; exact this, rfl⟩
    have hmx : mIn (nI j) 0 17 = true := (mIn_nI2 (a := 0) (b := 17) (by omega) (by omega) (by omega)).mpr ⟨by omega, by omega⟩
    have eP : pCount (σ 10) (nI j) = (mNumN (cW (σ 10) 0 0 0) (nI j), cW (σ 10) 0 0 0) := by
      unfold pCount
      rw [if_pos hmx]
    refine HS.look h (k_L_count l hx.1 hx.2) (k_X4_count l) (Or.inl (by rw [eP])) ?_
    have hR' : Rel (σ 0) (cW (σ 10) 0 0 0 1) := by rw [cWn (by omega)]; exact hR
    rw [eP, num_sim hR' hI (sv := σ 9 0 5) (by rw [cWr, zU_ne (by omega), hv.2.1, h5]) j hj]
  · refine HS.thr h (k_L_count_t l hst hx) (k_X4_count l) ?_ (by decide)
    unfold pCount
    rw [if_neg (fun w => hx ⟨(mIn_iff.mp w).1, Int32.lt_of_le_of_lt (mIn_iff.mp w).2 (by decide)⟩)]
theorem st_step (l : Launch) (hst : l.stackTraces = false) {E : gEn} {B : Nat} {σ : gSt} {π : Nat → Nat} {o : Int64} {x y : Int32} (hB : B < 2 ^ 29) (h : Big B σ π) : HS l E B σ π o yL_step wsL_step ({ frames := 8, cells := 1, slots := 6, locals := 170 } : Room) [.ref (E.2.1 9 0), .int x, .int y, .ref (E.2.1 11 0)] yX4_step wsX4_step ({ frames := 1, cells := 0, slots := 0, locals := 22 } : Room) [.ref (E.2.1 10 0), .int x, .int y] := by
  obtain ⟨sv, L, hS, hP, h5, hv, hk, hL, hT⟩ := id h
  have hR := hS.1.rel
  have hI := hS.1.inv
  have hS2 : SR B (σ 0) (mR (σ 10) sv 1) := by rw [mR_1]; exact hS.1
  have hO2 : mOK (mR (σ 10) sv) := mOK_1 mR_1 hS.2
  obtain ⟨w, hw, hsz⟩ := hS.1.szw
  have h180 : σ 10 1 180 = nI w := hR.siz.trans hsz
  by_cases hx : ¬ x < 0 ∧ ¬ y < 0 ∧ y ≤ 1
  · obtain ⟨hx0, hy0, hy1⟩ := hx
    obtain ⟨j, hj, rfl⟩ := nI_of2 (M := 1) (n := 1) (by decide) hy0 hy1
    have hmy : mIn (nI j) 0 1 = true := mIn_iff.mpr ⟨hy0, hy1⟩
    by_cases hle : nI w ≤ x
    · have eP : pStep (σ 10) x (nI j) = (-1, cW (σ 10) 0 0 0) := by
        unfold pStep
        rw [if_neg hx0, if_pos hmy, h180, if_pos hle]
      refine HS.look h (k_L_step l hx0 hy0 hy1 hsz hw) (k_X4_step l h180 hw) (Or.inl (by rw [eP])) ?_
      rw [eP, hsz, if_pos hle]
    · have eP : pStep (σ 10) x (nI j) = (cW (σ 10) 0 0 0 1 (181 + 2 * ix x + ix (nI j)), cW (σ 10) 0 0 0) := by
        unfold pStep
        rw [if_neg hx0, if_pos hmy, h180, if_neg hle]
      refine HS.look h (k_L_step l hx0 hy0 hy1 hsz hw) (k_X4_step l h180 hw) (Or.inl (by rw [eP])) ?_
      rw [eP, hsz, if_neg hle]
      obtain ⟨k, hk2, rfl⟩ := nI_of hx0
      have hkw : k < w := by
        rcases Nat.lt_or_ge k w with q | q
        · exact q
        · exact absurd (nI_le q (by omega)) hle
      obtain ⟨g1, g2⟩ := hR.who k (by omega) (by rw [hsz, nI_ltI (by omega) (by omega)]; exact hkw)
      rw [ix_nI (by omega), ix_nI (by omega)]
      show _ = (cW (σ 10) 0 0 0 1 (181 + 2 * k + j)).toInt64
      rw [cWn (by omega)]
      have hj2 : j = 0 ∨ j = 1 := by omega
      rcases hj2 with r | r <;> subst r
      · rw [if_pos (by decide), ← g1]; rfl
      · rw [if_neg (by decide), ← g2]
  · refine HS.thr h (k_L_step_t l hst hx) (k_X4_step l h180 hw) ?_ (by decide)
    unfold pStep
    by_cases hx0 : x < 0
    · rw [if_pos hx0]
    · rw [if_neg hx0, if_neg (fun w => hx ⟨hx0, mIn_iff.mp w⟩)]
theorem st_whyNot (l : Launch) (hst : l.stackTraces = false) {E : gEn} {B : Nat} {σ : gSt} {π : Nat → Nat} {o : Int64} {x t : Int32} (hB : B < 2 ^ 29) (h : Big B σ π) : HS l E B σ π o yL_whyNot wsL_whyNot ({ frames := 8, cells := 1, slots := 6, locals := 170 } : Room) [.ref (E.2.1 9 0), .int x, .int t, .ref (E.2.1 11 0)] yX4_whyNot wsX4_whyNot ({ frames := 2, cells := 0, slots := 0, locals := 44 } : Room) [.ref (E.2.1 10 0), .int x, .int t] := by
  obtain ⟨sv, L, hS, hP, h5, hv, hk, hL, hT⟩ := id h
  have hR := hS.1.rel
  have hI := hS.1.inv
  have hS2 : SR B (σ 0) (mR (σ 10) sv 1) := by rw [mR_1]; exact hS.1
  have hO2 : mOK (mR (σ 10) sv) := mOK_1 mR_1 hS.2
  by_cases hx : cEx (σ 0) x = true
  · by_cases ht : ¬ t < 0 ∧ t ≤ 1439
    · obtain ⟨k, hk', rfl, he⟩ := cEx_iff.mp hx
      have eP : pWhy (σ 10) (nI k) t = (mWhyH (cW (σ 10) 0 0 0) (nI k) t, cW (σ 10) 0 0 0) := by
        unfold pWhy
        rw [if_pos (by rw [← hR.exx]; exact hx), if_pos (mIn_iff.mpr ht)]
      refine HS.look h (k_L_whyNot l hx ht.1 ht.2) (k_X4_whyNot l) (Or.inl (by rw [eP])) ?_
      have hR' : Rel (σ 0) (cW (σ 10) 0 0 0 1) := by rw [cWn (by omega)]; exact hR
      rw [eP, hR'.whyHome hk' he]
    · refine HS.thr h (k_L_whyNot_t2 l hst hx ht) (k_X4_whyNot l) ?_ (by decide)
      unfold pWhy
      rw [if_pos (by rw [← hR.exx]; exact hx), if_neg (mIn_f ht)]
  · refine HS.thr h (k_L_whyNot_t1 l hst (by rw [Bool.not_eq_true] at hx; exact hx)) (k_X4_whyNot l) ?_ (by decide)
    unfold pWhy
    rw [if_neg (by rw [← hR.exx]; exact hx)]
theorem st_ifHome (l : Launch) (hst : l.stackTraces = false) {E : gEn} {B : Nat} {σ : gSt} {π : Nat → Nat} {o : Int64} {x t w : Int32} (hB : B < 2 ^ 29) (h : Big B σ π) : HS l E B σ π o yL_ifHome wsL_ifHome ({ frames := 8, cells := 1, slots := 6, locals := 181 } : Room) [.ref (E.2.1 9 0), .int x, .int t, .int w, .ref (E.2.1 11 0)] yX4_ifHome wsX4_ifHome ({ frames := 7, cells := 0, slots := 0, locals := 166 } : Room) [.ref (E.2.1 10 0), .int x, .int t, .int w] := by
  obtain ⟨sv, L, hS, hP, h5, hv, hk, hL, hT⟩ := id h
  have hR := hS.1.rel
  have hI := hS.1.inv
  have hS2 : SR B (σ 0) (mR (σ 10) sv 1) := by rw [mR_1]; exact hS.1
  have hO2 : mOK (mR (σ 10) sv) := mOK_1 mR_1 hS.2
  obtain ⟨mo, hmo, h141⟩ := hI.mst
  have h171 : σ 10 1 171 = nI mo := (hR.set 1 (by omega)).trans h141
  by_cases hx : cEx (σ 0) x = true
  · by_cases ht : ¬ t < 0 ∧ t ≤ 1439
    · by_cases hw : ¬ w < 0 ∧ w ≤ 2
      · obtain ⟨k, hk', rfl, he⟩ := cEx_iff.mp hx
        obtain ⟨j, hj, rfl⟩ := nI_of2 (M := 2) (n := 2) (by decide) hw.1 hw.2
        have eP : pIfHome (σ 10) (nI k) t (nI j) = (mHomeIf (cW (σ 10) 0 0 0) (nI k) t (nI j), mHomeIfS (cW (σ 10) 0 0 0) (nI k) t) := by
          unfold pIfHome
          rw [if_pos (by rw [← hR.exx]; exact hx), if_pos (mIn_iff.mpr ht), if_pos (mIn_iff.mpr hw)]
        refine HS.look h (k_L_ifHome l hx ht.1 ht.2 hw.1 hw.2) (k_X4_ifHome l hS.2 h171 hmo) ?_ ?_
        · rw [eP]
          show mHomeIfS (cW (σ 10) 0 0 0) (nI k) t = _ ∨ _
          unfold mHomeIfS
          split
          · exact Or.inr rfl
          · exact Or.inl rfl
        · have hS' : SR B (σ 0) (cW (σ 10) 0 0 0 1) := by rw [cWn (by omega)]; exact hS.1
          rw [eP, ifHome_sim hS' (by omega) hk' he (by omega)]
      · refine HS.thr h (k_L_ifHome_t3 l hst hx ht.1 ht.2 hw) (k_X4_ifHome l hS.2 h171 hmo) ?_ (by decide)
        unfold pIfHome
        rw [if_pos (by rw [← hR.exx]; exact hx), if_pos (mIn_iff.mpr ht), if_neg (mIn_f hw)]
    · refine HS.thr h (k_L_ifHome_t2 l hst hx ht) (k_X4_ifHome l hS.2 h171 hmo) ?_ (by decide)
      unfold pIfHome
      rw [if_pos (by rw [← hR.exx]; exact hx), if_neg (mIn_f ht)]
  · refine HS.thr h (k_L_ifHome_t1 l hst (by rw [Bool.not_eq_true] at hx; exact hx)) (k_X4_ifHome l hS.2 h171 hmo) ?_ (by decide)
    unfold pIfHome
    rw [if_neg (by rw [← hR.exx]; exact hx)]
theorem st_pass (l : Launch) (hst : l.stackTraces = false) {E : gEn} {B : Nat} {σ : gSt} {π : Nat → Nat} {o : Int64} (hB : B < 2 ^ 29) (h : Big B σ π) : HS l E B σ π o yL_pass wsL_pass ({ frames := 8, cells := 1, slots := 6, locals := 204 } : Room) [.ref (E.2.1 9 0), .ref (E.2.1 11 0)] yX4_pass wsX4_pass ({ frames := 7, cells := 0, slots := 0, locals := 160 } : Room) [.ref (E.2.1 10 0)] := by
  obtain ⟨sv, L, hS, hP, h5, hv, hk, hL, hT⟩ := id h
  have hR := hS.1.rel
  have hI := hS.1.inv
  have hS2 : SR B (σ 0) (mR (σ 10) sv 1) := by rw [mR_1]; exact hS.1
  have hO2 : mOK (mR (σ 10) sv) := mOK_1 mR_1 hS.2
  have hBg : Beg (rBegin (σ 9)) := beg_begin
  obtain ⟨f1, f2, f3⟩ := err_sim 62 0 (rBegin (σ 9)) (σ 10) (by omega) (by have := hT.2.1; omega) (rBegin_r (j := 2) (by omega)) hT hBg
  have eM : mErrL (σ 10) 62 (nI 0) = mErr (σ 10) := rfl
  rw [eM] at f1 f2 f3
  have rB : ∀ j, j ≠ 3 → rBegin (σ 9) j = σ 9 j := fun j hj => rBegin_r hj
  rcases f3 with ⟨e1, c', e2, e3, e4⟩ | ⟨e, c', he, e1, e2, e3, e4⟩
  · have e4' : ∀ j, j ≠ 3 → c' j = σ 9 j := fun j hj => by rw [e4 j hj, rB j hj]
    have hL0 : 0 < L := by
      rcases Nat.eq_zero_or_pos L with w | w
      · exfalso
        subst w
        rw [show tFE (0 - 0) 0 0 (rBegin (σ 9)) = (nI 0, rBegin (σ 9)) from rfl] at e2
        have : c' = rBegin (σ 9) := (Prod.mk.inj e2).2.symm
        rw [this] at e3
        unfold rDone at e3
        rw [hBg.1, if_neg (by decide), if_neg (by decide), if_neg (by decide)] at e3
        cases e3
      · exact w
    have hd1 : (mErr (σ 10)).2 1 = σ 10 1 := f1 1 (by omega)
    have hSt : SR B (cStop (σ 0) (-1) (-1)) (pStart (σ 10) sv 1) := by
      unfold pStart
      exact stop_SR (d := mR (mErr (σ 10)).2 sv) (by rw [mR_1, hd1]; exact hS.1)
    have hOt : mOK (pStart (σ 10) sv) := by
      unfold pStart
      exact stop_ok (mOK_1 (mR_1.trans hd1) hS.2)
    have pr : ∀ j, j ≠ 0 → j ≠ 1 → pStart (σ 10) sv j = mR (σ 10) sv j := fun j j0 j1 => by
      unfold pStart
      rw [cWn j1, cWn j1]
      by_cases j3 : j = 3
      · subst j3
        exact mR_3 hd1 (f1 3 (by omega))
      · rw [mR_j j0 j3, mR_j j0 j3, f1 j j0]
    have p0 : ∀ i, i ≠ 0 → i ≠ 4 → i ≠ 9 → i ≠ 10 → i ≠ 11 → pStart (σ 10) sv 0 i = σ 10 0 i := fun i a b c d e => by
      unfold pStart
      rw [cWn (by omega), cWn (by omega), mR_0 a b, f2 i c d e]
    have p4 : pStart (σ 10) sv 0 4 = mR (σ 10) sv 0 4 := by
      unfold pStart
      rw [cWn (by omega), cWn (by omega), mR_04 hv.1, mR_04 hv.1]
    have p00 : pStart (σ 10) sv 0 0 = 0 := by
      unfold pStart
      rw [cWn (by omega), cWn (by omega), mR_00]
    have hTt : TX (σ 9 2) (pStart (σ 10) sv) L := hT.of (p0 8 (by omega) (by omega) (by omega) (by omega) (by omega)) (by rw [pr 5 (by omega) (by omega), mR_j (by omega) (by omega)])
    have c92 : rBegin (sv9 c' sv) 2 = σ 9 2 := by rw [rBegin_r (by omega), sv9_j (by omega), e4' 2 (by omega)]
    have hE : (mErrL (pStart (σ 10) sv) (61 + 1) (nI 0)).1 = -1 := by
      rw [mErrL_congr 62 (σ 10) _ _ (by rw [pr 5 (by omega) (by omega), mR_j (by omega) (by omega)]) (p0 8 (by omega) (by omega) (by omega) (by omega) (by omega))]
      exact e1
    obtain ⟨k1, k2, r, d0, d9, dF, k3, k4, k5, k6, k7, k8, k9⟩ := pass_sim 61 0 (cStop (σ 0) (-1) (-1)) (rBegin (sv9 c' sv)) (pStart (σ 10) sv) B 0 hSt (by omega) hOt hTt c92 beg_begin hL0 (by have := hT.2.1; omega) hE
    have eP : pPass (σ 10) sv = (r, cW dF 0 8 0) := by
      have k4' : mPassL 61 (pStart (σ 10) sv) 0 0 = (r, dF) := k4
      unfold pPass
      rw [if_neg (show ¬ 0 ≤ (mErr (σ 10)).1 by rw [e1]; decide), k4']
    have hC := k_L_pass l (E := E) (σ := σ) (π := π) (o := o) (c0 := σ 0) (c1 := σ 1) (c2 := σ 2) (c9 := σ 9) (r := r) (d0 := d0) (d9 := d9) hL hT.2.1 e2.symm e3 (by rw [e4' 0 (by omega)]; exact hL) (sv := sv) (by rw [e4' 0 (by omega)]; exact h5) hv.1 hP.1 k1 k3.symm
    refine HS.sav h h5 hv.1 hP hC (k_X4_pass l hv.2.1 hv.1 hT.1 hT.2.1 (fun _ => k2) eP.symm) rfl ⟨?_, ?_⟩ ?_ ?_ ?_ ?_ ?_ ?_ ?_ (Or.inr ⟨?_, ?_⟩)
    · rw [cWn (by omega)]; exact k5.mono (by omega)
    · exact mOK_1 (cWn (by omega)) k6
    · intro j j0 j1
      rw [cWn j0, k8 j j0 j1, pr j j0 j1]
    · rw [cWr, zU_ne (by omega), k9 0 (by omega) (by omega) (by omega), p00]
    · rw [cWr, zU_ne (by omega), k9 4 (by omega) (by omega) (by omega), p4]
    · rw [cWr, zU_ne (by omega), k9 6 (by omega) (by omega) (by omega), p0 6 (by omega) (by omega) (by omega) (by omega) (by omega)]
    · rw [cWr, zU_ne (by omega), k7 0 (by omega), rBegin_r (by omega), sv9_0 (by omega), e4' 0 (by omega)]
    · rw [cWr, zU_ne (by omega), k7 0 (by omega), rBegin_r (by omega), sv9_5, sv9_5]
    · rw [cWn (by omega), k7 2 (by omega), c92]
    · rw [cWr, zU_at]
    · rw [cWr, zU_at]
  · have e4' : ∀ j, j ≠ 3 → c' j = σ 9 j := fun j hj => by rw [e4 j hj, rB j hj]
    have h60 := hT.2.1
    have hge : 0 ≤ (mErr (σ 10)).1 := by rw [e1]; exact nI_pos' (by omega)
    have eP : pPass (σ 10) sv = (0, cW (mErr (σ 10)).2 0 0 1) := by
      unfold pPass
      rw [if_pos hge]
    have hM : CtI l yX4_pass wsX4_pass ({ frames := 7, cells := 0, slots := 0, locals := 160 } : Room) E [.ref (E.2.1 10 0)] (gU (gT σ (σ 0) (σ 1) (σ 2) c') 10 (σ 10)) π o 0 (gU (gT σ (σ 0) (σ 1) (σ 2) c') 10 (cW (mErr (σ 10)).2 0 0 1)) π o := k_X4_pass l hv.2.1 hv.1 hT.1 hT.2.1 (fun w => absurd hge w) eP.symm
    have hC : CtH l yL_pass wsL_pass ({ frames := 8, cells := 1, slots := 6, locals := 204 } : Room) E [.ref (E.2.1 9 0), .ref (E.2.1 11 0)] (gT σ (σ 0) (σ 1) (σ 2) (σ 9)) π o 1 (gT σ (σ 0) (σ 1) (σ 2) c') π o := by
      by_cases hq : e = L
      · exact k_L_pass_t2 l hst hL h60 e2.symm (by rw [e4' 0 (by omega)]; exact hL) (by rw [hq]; exact Int32.lt_irrefl) (e3 hq)
      · exact k_L_pass_t1 l hst hL h60 e2.symm (by rw [e4' 0 (by omega)]; exact hL) (nI_lt (by omega) (by omega))
    refine HS.same h hC hM (by rw [cWr, zU_at]) (fun w => absurd w (by decide)) ?_ ?_ ?_ ?_ ?_ ?_ ?_ (e4' 2 (by omega)) (by rw [e4' 0 (by omega)]) (by rw [e4' 0 (by omega)]) (by rw [e4' 0 (by omega)])
    · rw [cWn (by omega)]; exact f1 1 (by omega)
    · rw [cWn (by omega)]; exact f1 3 (by omega)
    · rw [cWn (by omega)]; exact f1 4 (by omega)
    · rw [cWn (by omega)]; exact f1 5 (by omega)
    · rw [cWr, zU_ne (by omega)]; exact f2 4 (by omega) (by omega) (by omega)
    · rw [cWr, zU_ne (by omega)]; exact f2 6 (by omega) (by omega) (by omega)
    · rw [cWr, zU_ne (by omega)]; exact f2 8 (by omega) (by omega) (by omega)
