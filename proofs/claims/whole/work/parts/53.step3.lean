/-! calls on both sides that never throw -/
def DS (Ct : Launch → MethodName → List Cond → Room → gEn → List Value → gSt → (Nat → Nat) → Int64 → Int32 → gSt → (Nat → Nat) → Int64 → Prop) (l : Launch) (E : gEn) (B : Nat) (σ : gSt) (π : Nat → Nat) (o : Int64) (yC : MethodName) (wC : List Cond) (rC : Room) (yM : MethodName) (wM : List Cond) (rM : Room) : Prop :=
  ∃ a σ1 π1 d1, Ct l yC wC rC E [.ref (E.2.1 9 0)] (gT σ (σ 0) (σ 1) (σ 2) (σ 9)) π o a σ1 π1 o ∧ Ct l yM wM rM E [.ref (E.2.1 10 0)] σ1 π1 o a (gU σ1 10 d1) π1 o ∧ Big (B + 1500) (gU σ1 10 d1) π1
theorem sd_dawn (l : Launch) {E : gEn} {B : Nat} {σ : gSt} {π : Nat → Nat} {o : Int64} (hB : B < 2 ^ 29) (h : Big B σ π) : DS CtI l E B σ π o yX3_dawn wsX3_dawn ({ frames := 4, cells := 0, slots := 0, locals := 83 } : Room) yX4_dawn wsX4_dawn ({ frames := 4, cells := 0, slots := 0, locals := 91 } : Room) := by
  obtain ⟨sv, L, hS, hP, h5, hv, hk, hL, hT⟩ := id h
  have hR := hS.1.rel
  have hI := hS.1.inv
  have hS2 : SR B (σ 0) (mR (σ 10) sv 1) := by rw [mR_1]; exact hS.1
  have hO2 : mOK (mR (σ 10) sv) := mOK_1 mR_1 hS.2
  obtain ⟨g1, g2⟩ := night_sim hS2
  obtain ⟨k1, k2⟩ := mDawn_ok hO2
  have hM := k_X4_dawn l (E := E) (σ := gT (svS σ π sv (σ 0)) (cNight (σ 0)) (σ 1) (σ 2) (sv9 (σ 9) sv)) (π := svP π sv) (o := o) (d := σ 10) hv.2.1 hv.1
  rw [gU_10 (S := gT (svS σ π sv (σ 0)) (cNight (σ 0)) (σ 1) (σ 2) (sv9 (σ 9) sv)) (by rw [gT_10]; exact svS_10 hP hv.1)] at hM
  refine ⟨_, _, _, mDawn (mR (σ 10) sv), k_X3_dawn l h5 hv.1 hP.1, ?_, ?_⟩
  · rw [g2]; exact hM
  · exact h.saved h5 hv.1 (by omega) ⟨g1.mono (by omega), k1⟩ (fun j _ hj => k2 j hj) (by rw [k2 0 (by omega)]) (by rw [k2 0 (by omega)]; exact mR_0 (by omega) (by omega)) (sv9_0 (by omega)) rfl (sv9_j (by omega)) (Or.inl ⟨sv9_0 (by omega), by rw [k2 0 (by omega)]; exact mR_0 (by omega) (by omega)⟩)
theorem sd_clearBuffer (l : Launch) {E : gEn} {B : Nat} {σ : gSt} {π : Nat → Nat} {o : Int64} (hB : B < 2 ^ 29) (h : Big B σ π) : DS CtI l E B σ π o yX3_clearBuffer wsX3_clearBuffer ({ frames := 0, cells := 0, slots := 0, locals := 0 } : Room) yX4_clearBuffer wsX4_clearBuffer ({ frames := 0, cells := 0, slots := 0, locals := 0 } : Room) := by
  obtain ⟨sv, L, hS, hP, h5, hv, hk, hL, hT⟩ := id h
  have hR := hS.1.rel
  have hI := hS.1.inv
  have hS2 : SR B (σ 0) (mR (σ 10) sv 1) := by rw [mR_1]; exact hS.1
  have hO2 : mOK (mR (σ 10) sv) := mOK_1 mR_1 hS.2
  have hM := k_X4_clearBuffer l (E := E) (σ := gT σ (σ 0) (σ 1) (σ 2) (cW (σ 9) 0 7 0)) (π := π) (o := o) (d := σ 10)
  rw [gU_10 (S := gT σ (σ 0) (σ 1) (σ 2) (cW (σ 9) 0 7 0)) gT_10] at hM
  have r1 : ∀ j, j ≠ 0 → cW (cW (σ 10) 0 0 0) 0 8 0 j = σ 10 j := fun j j0 => by rw [cWn j0, cWn j0]
  have r0 : ∀ i, i ≠ 0 → i ≠ 8 → cW (cW (σ 10) 0 0 0) 0 8 0 0 i = σ 10 0 i := fun i i0 i8 => by rw [cWr, zU_ne i8, cWr, zU_ne i0]
  refine ⟨_, _, _, cW (cW (σ 10) 0 0 0) 0 8 0, k_X3_clearBuffer l, ?_, ?_⟩
  · rw [hL.trans hT.1.symm]; exact hM
  · refine Big.mono (B := B) ?_ (by omega)
    refine Big.mk (L := 0) (by rw [r1 1 (by omega)]; exact hS) hP (sv := sv) (by rw [cWr, zU_ne (by omega)]; exact h5) (hv.ext (fun _ _ => rfl) (r0 4 (by omega) (by omega)) (r1 3 (by omega))) (hk.ext (by rw [cWr, zU_ne (by omega)]) (r0 6 (by omega) (by omega)) (r1 4 (by omega))) (by rw [cWr, zU_at]; rfl) ⟨by rw [cWr, zU_at]; rfl, by omega, fun k hk2 => absurd hk2 (by omega)⟩
theorem sd_firstError (l : Launch) {E : gEn} {B : Nat} {σ : gSt} {π : Nat → Nat} {o : Int64} (hB : B < 2 ^ 29) (h : Big B σ π) : DS CtI l E B σ π o yX3_firstError wsX3_firstError ({ frames := 4, cells := 0, slots := 0, locals := 81 } : Room) yX4_firstError wsX4_firstError ({ frames := 5, cells := 0, slots := 0, locals := 114 } : Room) := by
  obtain ⟨sv, L, hS, hP, h5, hv, hk, hL, hT⟩ := id h
  have hR := hS.1.rel
  have hI := hS.1.inv
  have hS2 : SR B (σ 0) (mR (σ 10) sv 1) := by rw [mR_1]; exact hS.1
  have hO2 : mOK (mR (σ 10) sv) := mOK_1 mR_1 hS.2
  have hBg : Beg (rBegin (σ 9)) := beg_begin
  have hT' : TX (σ 9 2) (cW (σ 10) 0 0 0) L := hT.of (by rw [cWr, zU_ne (by omega)]) (by rw [cWn (by omega)])
  obtain ⟨f1, f2, f3⟩ := err_sim 62 0 (rBegin (σ 9)) (cW (σ 10) 0 0 0) (by omega) (by have := hT.2.1; omega) (rBegin_r (j := 2) (by omega)) hT' hBg
  have eM : mErrL (cW (σ 10) 0 0 0) 62 (nI 0) = mErr (cW (σ 10) 0 0 0) := rfl
  rw [eM] at f1 f2 f3
  have rB : ∀ j, j ≠ 3 → rBegin (σ 9) j = σ 9 j := fun j hj => rBegin_r hj
  have key : ∃ e c', tFE L 0 L (rBegin (σ 9)) = (e, c') ∧ (mFE (σ 10)).1 = e ∧ ∀ j, j ≠ 3 → c' j = σ 9 j := by
    rcases f3 with ⟨e1, c', e2, e3, e4⟩ | ⟨e, c', he, e1, e2, e3, e4⟩
    · refine ⟨nI L, c', e2, ?_, fun j hj => by rw [e4 j hj, rB j hj]⟩
      unfold mFE
      rw [if_neg (show ¬ 0 ≤ (mErr (cW (σ 10) 0 0 0)).1 by rw [e1]; decide)]
      exact hT.1
    · refine ⟨nI e, c', e2, ?_, fun j hj => by rw [e4 j hj, rB j hj]⟩
      unfold mFE
      have h60 := hT.2.1
      rw [if_pos (show 0 ≤ (mErr (cW (σ 10) 0 0 0)).1 by rw [e1]; exact nI_pos' (by omega))]
      exact e1
  obtain ⟨e, c', e2, e3, e4⟩ := key
  have hM := k_X4_firstError l (E := E) (σ := gT σ (σ 0) (σ 1) (σ 2) c') (π := π) (o := o) (d := σ 10) hT.1 hT.2.1
  rw [gU_10 (S := gT σ (σ 0) (σ 1) (σ 2) c') gT_10, e3] at hM
  refine ⟨_, _, _, (mFE (σ 10)).2, k_X3_firstError l hL hT.2.1 e2.symm, hM, ?_⟩
  have q1 : ∀ j, j ≠ 0 → (mFE (σ 10)).2 j = σ 10 j := fun j hj => by
    show (mErr (cW (σ 10) 0 0 0)).2 j = _
    rw [f1 j hj, cWn hj]
  have q0 : ∀ i, i ≠ 0 → i ≠ 9 → i ≠ 10 → i ≠ 11 → (mFE (σ 10)).2 0 i = σ 10 0 i := fun i a b c d => by
    show (mErr (cW (σ 10) 0 0 0)).2 0 i = _
    rw [f2 i b c d, cWr, zU_ne a]
  exact (h.same (q1 1 (by omega)) (q1 3 (by omega)) (q1 4 (by omega)) (q1 5 (by omega)) (q0 4 (by omega) (by omega) (by omega) (by omega)) (q0 6 (by omega) (by omega) (by omega) (by omega)) (q0 8 (by omega) (by omega) (by omega) (by omega)) (e4 2 (by omega)) (by rw [e4 0 (by omega)]) (by rw [e4 0 (by omega)]) (by rw [e4 0 (by omega)])).mono (by omega)
theorem sd_keep (l : Launch) {E : gEn} {B : Nat} {σ : gSt} {π : Nat → Nat} {o : Int64} (hB : B < 2 ^ 29) (h : Big B σ π) : DS CtI l E B σ π o yX3_keep wsX3_keep ({ frames := 3, cells := 0, slots := 0, locals := 61 } : Room) yX4_keep wsX4_keep ({ frames := 0, cells := 0, slots := 0, locals := 0 } : Room) := by
  obtain ⟨sv, L, hS, hP, h5, hv, hk, hL, hT⟩ := id h
  have hR := hS.1.rel
  have hI := hS.1.inv
  have hS2 : SR B (σ 0) (mR (σ 10) sv 1) := by rw [mR_1]; exact hS.1
  have hO2 : mOK (mR (σ 10) sv) := mOK_1 mR_1 hS.2
  have hM := k_X4_keep l (E := E) (σ := gT σ (σ 0) (σ 1) (σ 0) (cW (σ 9) 0 3 1)) (π := π) (o := o) (d := σ 10)
  rw [gU_10 (S := gT σ (σ 0) (σ 1) (σ 0) (cW (σ 9) 0 3 1)) gT_10] at hM
  have r1 : ∀ j, j ≠ 0 → j ≠ 4 → mKeep (σ 10) j = σ 10 j := fun j j0 j4 => by unfold mKeep; rw [cWn j0, mCpy_row j4, cWn j0]
  have r0 : ∀ i, i ≠ 0 → i ≠ 6 → mKeep (σ 10) 0 i = σ 10 0 i := fun i i0 i6 => by unfold mKeep; rw [cWr, zU_ne i6, mCpy_row (by omega), cWr, zU_ne i0]
  refine ⟨_, _, _, mKeep (σ 10), k_X3_keep l, ?_, ?_⟩
  · rw [← hR.day]; exact hM
  · refine Big.mono (B := B) ?_ (by omega)
    refine Big.mk (L := L) (by rw [r1 1 (by omega) (by omega)]; exact hS) hP (sv := sv) (by rw [cWr, zU_ne (by omega)]; exact h5) (hv.ext (fun _ _ => rfl) (r0 4 (by omega) (by omega)) (r1 3 (by omega) (by omega))) (Or.inr ⟨?_, ?_, ?_⟩) (by rw [cWr, zU_ne (by omega)]; exact hL) (hT.ext (by rw [cWn (by omega)]) (r0 8 (by omega) (by omega)) (r1 5 (by omega) (by omega)))
    · rw [cWr, zU_at]; decide
    · unfold mKeep; rw [cWr, zU_at]; decide
    · refine hS.congr fun q hq => ?_
      unfold mKeep
      rw [cWn (by omega)]
      show (if 4 = 4 then (if 0 ≤ q ∧ q < 0 + 232 then cW (σ 10) 0 0 0 1 (0 + (q - 0)) else _) else _) = _
      rw [if_pos rfl, if_pos (by omega), cWn (by omega)]
      congr 1; omega
theorem sd_freeHole (l : Launch) {E : gEn} {B : Nat} {σ : gSt} {π : Nat → Nat} {o : Int64} (hB : B < 2 ^ 29) (h : Big B σ π) : DS CtI l E B σ π o yX3_freeHole wsX3_freeHole ({ frames := 2, cells := 0, slots := 0, locals := 41 } : Room) yX4_freeHole wsX4_freeHole ({ frames := 4, cells := 0, slots := 0, locals := 88 } : Room) := by
  obtain ⟨sv, L, hS, hP, h5, hv, hk, hL, hT⟩ := id h
  have hR := hS.1.rel
  have hI := hS.1.inv
  have hS2 : SR B (σ 0) (mR (σ 10) sv 1) := by rw [mR_1]; exact hS.1
  have hO2 : mOK (mR (σ 10) sv) := mOK_1 mR_1 hS.2
  have hM := k_X4_freeHole l (E := E) (σ := gT σ (σ 0) (σ 1) (σ 2) (σ 9)) (π := π) (o := o) (d := σ 10)
  rw [gU_10 (S := gT σ (σ 0) (σ 1) (σ 2) (σ 9)) gT_10, ← freeHole_sim hR hI] at hM
  refine ⟨_, _, _, cW (σ 10) 0 0 0, k_X3_freeHole l, hM, ?_⟩
  exact (h.same (c1 := σ 1) (c9' := σ 9) (by rw [cWn (by omega)]) (by rw [cWn (by omega)]) (by rw [cWn (by omega)]) (by rw [cWn (by omega)]) (by rw [cWr, zU_ne (by omega)]) (by rw [cWr, zU_ne (by omega)]) (by rw [cWr, zU_ne (by omega)]) rfl rfl rfl rfl).mono (by omega)
theorem sd_lateIsAsGood (l : Launch) {E : gEn} {B : Nat} {σ : gSt} {π : Nat → Nat} {o : Int64} (hB : B < 2 ^ 29) (h : Big B σ π) : DS CtI l E B σ π o yX3_lateIsAsGood wsX3_lateIsAsGood ({ frames := 6, cells := 0, slots := 0, locals := 141 } : Room) yX4_lateIsAsGood wsX4_lateIsAsGood ({ frames := 8, cells := 0, slots := 0, locals := 182 } : Room) := by
  obtain ⟨sv, L, hS, hP, h5, hv, hk, hL, hT⟩ := id h
  have hR := hS.1.rel
  have hI := hS.1.inv
  have hS2 : SR B (σ 0) (mR (σ 10) sv 1) := by rw [mR_1]; exact hS.1
  have hO2 : mOK (mR (σ 10) sv) := mOK_1 mR_1 hS.2
  obtain ⟨mo, hmo, h141⟩ := hI.mst
  have h171 : σ 10 1 171 = nI mo := (hR.set 1 (by omega)).trans h141
  have hS' : SR B (σ 0) (cW (σ 10) 0 0 0 1) := by rw [cWn (by omega)]; exact hS.1
  have hM := k_X4_lateIsAsGood l (E := E) (σ := gT σ (σ 0) (tAll (σ 0) (σ 0 0 7) 16) (σ 2) (σ 9)) (π := π) (o := o) (d := σ 10) hS.2 h171 hmo
  rw [gU_10 (S := gT σ (σ 0) (tAll (σ 0) (σ 0 0 7) 16) (σ 2) (σ 9)) gT_10, ← good_sim (by omega) hS'] at hM
  refine ⟨_, _, _, mA (cW (σ 10) 0 0 0), k_X3_lateIsAsGood l, hM, ?_⟩
  have qq : ∀ j, j ≠ 2 → mA (cW (σ 10) 0 0 0) j = cW (σ 10) 0 0 0 j := fun j hj => by unfold mA; exact mCpy_row hj
  exact (h.same (c1 := tAll (σ 0) (σ 0 0 7) 16) (c9' := σ 9) (by rw [qq _ (by omega), cWn (by omega)]) (by rw [qq _ (by omega), cWn (by omega)]) (by rw [qq _ (by omega), cWn (by omega)]) (by rw [qq _ (by omega), cWn (by omega)]) (by rw [qq 0 (by omega), cWr, zU_ne (by omega)]) (by rw [qq 0 (by omega), cWr, zU_ne (by omega)]) (by rw [qq 0 (by omega), cWr, zU_ne (by omega)]) rfl rfl rfl rfl).mono (by omega)
theorem sd_homeShare (l : Launch) {E : gEn} {B : Nat} {σ : gSt} {π : Nat → Nat} {o : Int64} (hB : B < 2 ^ 29) (h : Big B σ π) : ∃ a σ1 π1 d1, CtD l yX3_homeShare wsX3_homeShare ({ frames := 2, cells := 0, slots := 0, locals := 43 } : Room) E [.ref (E.2.1 9 0)] (gT σ (σ 0) (σ 1) (σ 2) (σ 9)) π o a σ1 π1 o ∧ CtD l yX4_homeShare wsX4_homeShare ({ frames := 3, cells := 0, slots := 0, locals := 66 } : Room) E [.ref (E.2.1 10 0)] σ1 π1 o a (gU σ1 10 d1) π1 o ∧ Big (B + 1500) (gU σ1 10 d1) π1 := by
  obtain ⟨sv, L, hS, hP, h5, hv, hk, hL, hT⟩ := id h
  have hR := hS.1.rel
  have hI := hS.1.inv
  have hS2 : SR B (σ 0) (mR (σ 10) sv 1) := by rw [mR_1]; exact hS.1
  have hO2 : mOK (mR (σ 10) sv) := mOK_1 mR_1 hS.2
  have hR' : Rel (σ 0) (cW (σ 10) 0 0 0 1) := by rw [cWn (by omega)]; exact hR
  obtain ⟨a, ha, ea⟩ := cDoves_nI (c := σ 0)
  have hM := k_X4_homeShare l (E := E) (σ := gT σ (σ 0) (σ 1) (σ 2) (σ 9)) (π := π) (o := o) (d := σ 10) (hR.all.trans ea) ha
  rw [gU_10 (S := gT σ (σ 0) (σ 1) (σ 2) (σ 9)) gT_10, ← hR'.share] at hM
  refine ⟨_, _, _, cW (σ 10) 0 0 0, k_X3_homeShare l, hM, ?_⟩
  exact (h.same (c1 := σ 1) (c9' := σ 9) (by rw [cWn (by omega)]) (by rw [cWn (by omega)]) (by rw [cWn (by omega)]) (by rw [cWn (by omega)]) (by rw [cWr, zU_ne (by omega)]) (by rw [cWr, zU_ne (by omega)]) (by rw [cWr, zU_ne (by omega)]) rfl rfl rfl rfl).mono (by omega)
theorem sd_digest (l : Launch) {E : gEn} {B : Nat} {σ : gSt} {π : Nat → Nat} {o : Int64} (hB : B < 2 ^ 29) (h : Big B σ π) : ∃ a σ1 π1 d1, CtL l yX3_digest wsX3_digest ({ frames := 7, cells := 0, slots := 0, locals := 168 } : Room) E [.ref (E.2.1 9 0)] (gT σ (σ 0) (σ 1) (σ 2) (σ 9)) π o a σ1 π1 o ∧ CtL l yX4_digest wsX4_digest ({ frames := 8, cells := 0, slots := 0, locals := 182 } : Room) E [.ref (E.2.1 10 0)] σ1 π1 o a (gU σ1 10 d1) π1 o ∧ Big (B + 1500) (gU σ1 10 d1) π1 := by
  obtain ⟨sv, L, hS, hP, h5, hv, hk, hL, hT⟩ := id h
  have hR := hS.1.rel
  have hI := hS.1.inv
  have hS2 : SR B (σ 0) (mR (σ 10) sv 1) := by rw [mR_1]; exact hS.1
  have hO2 : mOK (mR (σ 10) sv) := mOK_1 mR_1 hS.2
  obtain ⟨mo, hmo, h141⟩ := hI.mst
  have h171 : σ 10 1 171 = nI mo := (hR.set 1 (by omega)).trans h141
  obtain ⟨w, hw, hsz⟩ := hS.1.szw
  have h180 : σ 10 1 180 = nI w := hR.siz.trans hsz
  obtain ⟨a, ha, ea⟩ := cDoves_nI (c := σ 0)
  have eD : tDig (σ 0) (σ 1) (σ 9) w L = mDig (cW (σ 10) 0 0 0) (dgS (cW (σ 10) 0 0 0) 16) w L := digest_sim (B := B) (by omega) hS.1 hsz hw (by rw [h5, hv.2.1]) (by rw [hL, hT.1]) fun k hk2 => ((hT.2.2 k hk2).1).symm
  have hM := k_X4_digest l (E := E) (σ := gT σ (σ 0) (tAll (σ 0) (σ 0 0 7) 16) (σ 2) (σ 9)) (π := π) (o := o) (d := σ 10) hS.2 h171 hmo (hR.all.trans ea) ha h180 hw hT.1 hT.2.1
  rw [gU_10 (S := gT σ (σ 0) (tAll (σ 0) (σ 0 0 7) 16) (σ 2) (σ 9)) gT_10, ← eD] at hM
  refine ⟨_, _, _, mA (dgS (cW (σ 10) 0 0 0) 16), k_X3_digest l hL hT.2.1 hsz hw, hM, ?_⟩
  have qq : ∀ j, j ≠ 2 → mA (dgS (cW (σ 10) 0 0 0) 16) j = cW (σ 10) 0 0 0 j := fun j hj => by unfold mA; rw [mCpy_row hj, dgS_row hj]
  exact (h.same (c1 := tAll (σ 0) (σ 0 0 7) 16) (c9' := σ 9) (by rw [qq _ (by omega), cWn (by omega)]) (by rw [qq _ (by omega), cWn (by omega)]) (by rw [qq _ (by omega), cWn (by omega)]) (by rw [qq _ (by omega), cWn (by omega)]) (by rw [qq 0 (by omega), cWr, zU_ne (by omega)]) (by rw [qq 0 (by omega), cWr, zU_ne (by omega)]) (by rw [qq 0 (by omega), cWr, zU_ne (by omega)]) rfl rfl rfl rfl).mono (by omega)
