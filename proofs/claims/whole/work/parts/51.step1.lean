/-! a call on both sides -/
def HS (l : Launch) (E : gEn) (B : Nat) (σ : gSt) (π : Nat → Nat) (o : Int64) (yC : MethodName) (wC : List Cond) (rC : Room) (avC : List Value) (yM : MethodName) (wM : List Cond) (rM : Room) (avM : List Value) : Prop :=
  ∃ r σ1 π1 o1 b d1, CtH l yC wC rC E avC (gT σ (σ 0) (σ 1) (σ 2) (σ 9)) π o r σ1 π1 o1 ∧ CtI l yM wM rM E avM σ1 π1 o1 b (gU σ1 10 d1) π1 o1 ∧ d1 0 0 = r ∧ (r = 0 → o1 = b.toInt64) ∧ Big (B + 1500) (gU σ1 10 d1) π1
theorem Big.mono {B B' : Nat} {σ : gSt} {π : Nat → Nat} (h : Big B σ π) (hb : B ≤ B') : Big B' σ π := by
  obtain ⟨sv, L, h1, h2, h3, h4, h5, h6⟩ := h
  exact ⟨sv, L, h1.mono hb, h2, h3, h4.mono hb, h5.mono hb, h6⟩
theorem gU_10 {S : gSt} {d : cSt} (h : S 10 = d) : gU S 10 d = S := by rw [← h]; exact gU_eta S 10
section HSs
variable {l : Launch} {E : gEn} {B : Nat} {σ : gSt} {π : Nat → Nat} {o : Int64} {yC yM : MethodName} {wC wM : List Cond} {rC rM : Room} {avC avM : List Value}
theorem HS.same {d1 c1 c9' : cSt} {r b : Int32} {o1 : Int64} (h : Big B σ π) (hC : CtH l yC wC rC E avC (gT σ (σ 0) (σ 1) (σ 2) (σ 9)) π o r (gT σ (σ 0) c1 (σ 2) c9') π o1) (hM : CtI l yM wM rM E avM (gU (gT σ (σ 0) c1 (σ 2) c9') 10 (σ 10)) π o1 b (gU (gT σ (σ 0) c1 (σ 2) c9') 10 d1) π o1) (h0 : d1 0 0 = r) (ho : r = 0 → o1 = b.toInt64) (h1 : d1 1 = σ 10 1) (h3 : d1 3 = σ 10 3) (h4 : d1 4 = σ 10 4) (h5 : d1 5 = σ 10 5) (h04 : d1 0 4 = σ 10 0 4) (h06 : d1 0 6 = σ 10 0 6) (h08 : d1 0 8 = σ 10 0 8) (r2 : c9' 2 = σ 9 2) (r05 : c9' 0 5 = σ 9 0 5) (r03 : c9' 0 3 = σ 9 0 3) (r07 : c9' 0 7 = σ 9 0 7) : HS l E B σ π o yC wC rC avC yM wM rM avM := by
  rw [gU_10 (S := gT σ (σ 0) c1 (σ 2) c9') gT_10] at hM
  exact ⟨r, _, π, o1, b, d1, hC, hM, h0, ho, (h.same h1 h3 h4 h5 h04 h06 h08 r2 r05 r03 r07).mono (by omega)⟩
theorem HS.thr {d1 : cSt} {r b : Int32} (h : Big B σ π) (hC : CtH l yC wC rC E avC (gT σ (σ 0) (σ 1) (σ 2) (σ 9)) π o r (gT σ (σ 0) (σ 1) (σ 2) (σ 9)) π o) (hM : CtI l yM wM rM E avM (gU (gT σ (σ 0) (σ 1) (σ 2) (σ 9)) 10 (σ 10)) π o b (gU (gT σ (σ 0) (σ 1) (σ 2) (σ 9)) 10 d1) π o) (e : d1 = cW (σ 10) 0 0 r) (hr : ¬ r = 0) : HS l E B σ π o yC wC rC avC yM wM rM avM := by
  subst e
  refine HS.same h hC hM (by rw [cWr, zU_at]) (fun w => absurd w hr) ?_ ?_ ?_ ?_ ?_ ?_ ?_ rfl rfl rfl rfl
  · rw [cWn (by omega)]
  · rw [cWn (by omega)]
  · rw [cWn (by omega)]
  · rw [cWn (by omega)]
  · rw [cWr, zU_ne (by omega)]
  · rw [cWr, zU_ne (by omega)]
  · rw [cWr, zU_ne (by omega)]
theorem HS.look {d1 c1 : cSt} {b : Int32} {o1 : Int64} (h : Big B σ π) (hC : CtH l yC wC rC E avC (gT σ (σ 0) (σ 1) (σ 2) (σ 9)) π o 0 (gT σ (σ 0) c1 (σ 2) (σ 9)) π o1) (hM : CtI l yM wM rM E avM (gU (gT σ (σ 0) c1 (σ 2) (σ 9)) 10 (σ 10)) π o1 b (gU (gT σ (σ 0) c1 (σ 2) (σ 9)) 10 d1) π o1) (e : d1 = cW (σ 10) 0 0 0 ∨ d1 = mA (cW (σ 10) 0 0 0)) (ho : o1 = b.toInt64) : HS l E B σ π o yC wC rC avC yM wM rM avM := by
  have key : d1 0 = cW (σ 10) 0 0 0 0 ∧ ∀ j, j ≠ 0 → j ≠ 2 → d1 j = σ 10 j := by
    rcases e with e | e <;> subst e
    · exact ⟨rfl, fun j hj _ => cWn hj⟩
    · exact ⟨mA_0, fun j hj h2 => by unfold mA; rw [mCpy_row h2, cWn hj]⟩
  obtain ⟨k0, kj⟩ := key
  refine HS.same h hC hM (by rw [k0, cWr, zU_at]) (fun _ => ho) (kj 1 (by omega) (by omega)) (kj 3 (by omega) (by omega)) (kj 4 (by omega) (by omega)) (kj 5 (by omega) (by omega)) ?_ ?_ ?_ rfl rfl rfl rfl
  · rw [k0, cWr, zU_ne (by omega)]
  · rw [k0, cWr, zU_ne (by omega)]
  · rw [k0, cWr, zU_ne (by omega)]
/-- a call that saves -/
theorem HS.sav {d1 c0' c9' : cSt} {b : Int32} {o1 : Int64} {sv : Nat} (h : Big B σ π) (hs : σ 9 0 5 = nI sv) (hs6 : sv ≤ 6) (hP : Pi6 π) (hC : CtH l yC wC rC E avC (gT σ (σ 0) (σ 1) (σ 2) (σ 9)) π o 0 (gT (svS σ π sv (σ 0)) c0' (σ 1) (σ 2) c9') (svP π sv) o1) (hM : CtI l yM wM rM E avM (gU (gT (svS σ π sv (σ 0)) c0' (σ 1) (σ 2) c9') 10 (σ 10)) (svP π sv) o1 b (gU (gT (svS σ π sv (σ 0)) c0' (σ 1) (σ 2) c9') 10 d1) (svP π sv) o1) (ho : o1 = b.toInt64) (h1 : SZ (B + 1500) c0' (d1 1)) (hd : ∀ j, j ≠ 0 → j ≠ 1 → d1 j = mR (σ 10) sv j) (h00 : d1 0 0 = 0) (h04 : d1 0 4 = mR (σ 10) sv 0 4) (h06 : d1 0 6 = σ 10 0 6) (r03 : c9' 0 3 = σ 9 0 3) (r05 : c9' 0 5 = sv9 (σ 9) sv 0 5) (r2 : c9' 2 = σ 9 2)
    (hTL : (c9' 0 7 = σ 9 0 7 ∧ d1 0 8 = σ 10 0 8) ∨ (c9' 0 7 = 0 ∧ d1 0 8 = 0)) : HS l E B σ π o yC wC rC avC yM wM rM avM := by
  rw [gU_10 (S := gT (svS σ π sv (σ 0)) c0' (σ 1) (σ 2) c9') (by rw [gT_10]; exact svS_10 hP hs6)] at hM
  exact ⟨0, _, _, o1, b, d1, hC, hM, h00, fun _ => ho, h.saved hs hs6 (by omega) h1 hd h04 h06 r03 r05 r2 hTL⟩
/-- where only the row's own part changes behind the saving -/
theorem HS.sav1 {d1 c0' : cSt} {b : Int32} {o1 : Int64} {sv : Nat} (h : Big B σ π) (hs : σ 9 0 5 = nI sv) (hs6 : sv ≤ 6) (hP : Pi6 π) (hC : CtH l yC wC rC E avC (gT σ (σ 0) (σ 1) (σ 2) (σ 9)) π o 0 (gT (svS σ π sv (σ 0)) c0' (σ 1) (σ 2) (sv9 (σ 9) sv)) (svP π sv) o1) (hM : CtI l yM wM rM E avM (gU (gT (svS σ π sv (σ 0)) c0' (σ 1) (σ 2) (sv9 (σ 9) sv)) 10 (σ 10)) (svP π sv) o1 b (gU (gT (svS σ π sv (σ 0)) c0' (σ 1) (σ 2) (sv9 (σ 9) sv)) 10 d1) (svP π sv) o1) (ho : o1 = b.toInt64) (h1 : SR (B + 1500) c0' (d1 1)) (hO : mOK d1) (hd : ∀ j, j ≠ 1 → d1 j = mR (σ 10) sv j) : HS l E B σ π o yC wC rC avC yM wM rM avM :=
  HS.sav h hs hs6 hP hC hM ho ⟨h1, hO⟩ (fun j _ hj => hd j hj) (by rw [hd 0 (by omega)]; exact mR_00) (by rw [hd 0 (by omega)]) (by rw [hd 0 (by omega)]; exact mR_0 (by omega) (by omega)) (sv9_0 (by omega)) rfl (sv9_j (by omega)) (Or.inl ⟨sv9_0 (by omega), by rw [hd 0 (by omega)]; exact mR_0 (by omega) (by omega)⟩)
end HSs
theorem mIn_iff {x a b : Int32} : mIn x a b = true ↔ ¬ x < a ∧ x ≤ b := by
  unfold mIn
  by_cases h1 : x < a
  · rw [if_pos h1]; exact ⟨fun w => (by cases w), fun w => absurd h1 w.1⟩
  · rw [if_neg h1]
    by_cases h2 : b < x
    · rw [if_pos h2]; exact ⟨fun w => (by cases w), fun w => absurd w.2 (Int32.not_le.mpr h2)⟩
    · rw [if_neg h2]; exact ⟨fun _ => ⟨h1, Int32.not_lt.mp h2⟩, fun _ => rfl⟩
theorem mIn_f {x a b : Int32} (h : ¬ (¬ x < a ∧ x ≤ b)) : ¬ mIn x a b = true := fun w => h (mIn_iff.mp w)
theorem st_buy (l : Launch) (hst : l.stackTraces = false) {E : gEn} {B : Nat} {σ : gSt} {π : Nat → Nat} {o : Int64} {x y : Int32} (hB : B < 2 ^ 29) (h : Big B σ π) : HS l E B σ π o yL_buy wsL_buy ({ frames := 8, cells := 1, slots := 6, locals := 170 } : Room) [.ref (E.2.1 9 0), .int x, .int y, .ref (E.2.1 11 0)] yX4_buy wsX4_buy ({ frames := 4, cells := 0, slots := 0, locals := 87 } : Room) [.ref (E.2.1 10 0), .int x, .int y] := by
  obtain ⟨sv, L, hS, hP, h5, hv, hk, hL, hT⟩ := id h
  have hR := hS.1.rel
  have hI := hS.1.inv
  have hS2 : SR B (σ 0) (mR (σ 10) sv 1) := by rw [mR_1]; exact hS.1
  have hO2 : mOK (mR (σ 10) sv) := mOK_1 mR_1 hS.2
  have hkf : ∃ kf, mIn x 0 23 = true → mWhyD (σ 10) x ≤ 0 → mFirstF (σ 10) 16 0 = some kf := by
    by_cases hx : hHole x = true
    · obtain ⟨q, hq, rfl⟩ := vp_in_of (hHole_in hx) (by omega)
      by_cases hw : mWhyD (σ 10) (nI q) = 0
      · obtain ⟨g1, g2, kf, g3⟩ := buy_SR (y := y) hS.1 hq ((whyBuy_sim hR hI hq).trans hw)
        exact ⟨kf, fun _ _ => g3⟩
      · exact ⟨0, fun _ w => absurd (whyD_le.mp w) hw⟩
    · exact ⟨0, fun w => absurd (hHole_mIn ▸ w) hx⟩
  obtain ⟨kf, hkf⟩ := hkf
  by_cases hx : hHole x = true
  · by_cases hy : ¬ y < 1 ∧ y ≤ 9
    · obtain ⟨q, hq, rfl⟩ := vp_in_of (hHole_in hx) (by omega)
      have hW := whyBuy_sim hR hI hq
      by_cases hw : cWhyBuy (σ 0) (nI q) = 0
      · have eP : pBuy (σ 10) sv (nI q) y = mBuy (mR (σ 10) sv) (nI q) y := by
          unfold pBuy
          rw [if_pos (by rw [hHole_mIn]; exact hx), if_pos (mIn_iff.mpr hy), if_pos (whyD_le.mpr (hW.symm.trans hw))]
        obtain ⟨g1, g2, -⟩ := buy_SR (y := y) hS2 hq hw
        obtain ⟨k1, k2⟩ := mBuy_ok (x := nI q) (y := y) hO2 (vp_in_nI hq (by omega))
        refine HS.sav1 h h5 hv.1 hP (k_L_buy l hx hy.1 hy.2 hw h5 hv.1 hP.1) (k_X4_buy l hv.2.1 hv.1 hkf) ?_ ?_ ?_ ?_
        · rw [eP, g2]
        · rw [eP]; exact g1.mono (by omega)
        · rw [eP]; exact k1
        · rw [eP]; exact k2
      · refine HS.thr h (k_L_buy_t3 l hst hx hy.1 hy.2 hw) (k_X4_buy l hv.2.1 hv.1 hkf) ?_ (by decide)
        unfold pBuy
        rw [if_pos (by rw [hHole_mIn]; exact hx), if_pos (mIn_iff.mpr hy), if_neg (fun w => hw (hW.trans (whyD_le.mp w)))]
    · refine HS.thr h (k_L_buy_t2 l hst hx hy) (k_X4_buy l hv.2.1 hv.1 hkf) ?_ (by decide)
      unfold pBuy
      rw [if_pos (by rw [hHole_mIn]; exact hx), if_neg (mIn_f hy)]
  · refine HS.thr h (k_L_buy_t1 l hst (by rw [Bool.not_eq_true] at hx; exact hx)) (k_X4_buy l hv.2.1 hv.1 hkf) ?_ (by decide)
    unfold pBuy
    rw [if_neg (by rw [hHole_mIn]; exact hx)]
theorem mSell_ok {d : cSt} {k : Nat} (h : mOK d) (hk : k < 16) : mOK (mSell d (nI k)).2 ∧ ∀ j, j ≠ 1 → (mSell d (nI k)).2 j = d j := by
  unfold mSell mSell1
  rw [ix_nI (by omega)]
  show mOK (cW _ 1 (9 * k) 0) ∧ ∀ j, j ≠ 1 → cW _ 1 (9 * k) 0 j = d j
  split
  · exact ⟨mOK_ne h fun q hq => ⟨by omega, by omega⟩, fun j hj => by rw [cWn hj]⟩
  · refine ⟨mOK_ne (mOK_any h fun q hq => ⟨fun w => by omega, fun _ => Or.inl (by decide)⟩) fun q hq => ⟨by omega, by omega⟩, fun j hj => ?_⟩
    rw [cWn hj, cWn hj]
theorem st_sell (l : Launch) (hst : l.stackTraces = false) {E : gEn} {B : Nat} {σ : gSt} {π : Nat → Nat} {o : Int64} {x : Int32} (hB : B < 2 ^ 29) (h : Big B σ π) : HS l E B σ π o yL_sell wsL_sell ({ frames := 8, cells := 1, slots := 6, locals := 170 } : Room) [.ref (E.2.1 9 0), .int x, .ref (E.2.1 11 0)] yX4_sell wsX4_sell ({ frames := 2, cells := 0, slots := 0, locals := 43 } : Room) [.ref (E.2.1 10 0), .int x] := by
  obtain ⟨sv, L, hS, hP, h5, hv, hk, hL, hT⟩ := id h
  have hR := hS.1.rel
  have hI := hS.1.inv
  have hS2 : SR B (σ 0) (mR (σ 10) sv 1) := by rw [mR_1]; exact hS.1
  have hO2 : mOK (mR (σ 10) sv) := mOK_1 mR_1 hS.2
  by_cases hx : cEx (σ 0) x = true
  · have eP : pSell (σ 10) sv x = mSell (mR (σ 10) sv) x := by
      unfold pSell
      rw [if_pos (by rw [← hR.exx]; exact hx)]
    obtain ⟨k, hk', rfl, he⟩ := cEx_iff.mp hx
    obtain ⟨g1, g2⟩ := sell_SR hS2 hk' he
    obtain ⟨k1, k2⟩ := mSell_ok (k := k) hO2 hk'
    refine HS.sav1 h h5 hv.1 hP (k_L_sell l hx h5 hv.1 hP.1) (k_X4_sell l hv.2.1 hv.1 hS.2) ?_ ?_ ?_ ?_
    · rw [eP, g2]
    · rw [eP]; exact g1.mono (by omega)
    · rw [eP]; exact k1
    · rw [eP]; exact k2
  · refine HS.thr h (k_L_sell_t l hst (by rw [Bool.not_eq_true] at hx; exact hx)) (k_X4_sell l hv.2.1 hv.1 hS.2) ?_ (by decide)
    unfold pSell
    rw [if_neg (by rw [← hR.exx]; exact hx)]
theorem st_mate (l : Launch) (hst : l.stackTraces = false) {E : gEn} {B : Nat} {σ : gSt} {π : Nat → Nat} {o : Int64} {x y : Int32} (hB : B < 2 ^ 29) (h : Big B σ π) : HS l E B σ π o yL_mate wsL_mate ({ frames := 8, cells := 1, slots := 6, locals := 170 } : Room) [.ref (E.2.1 9 0), .int x, .int y, .ref (E.2.1 11 0)] yX4_mate wsX4_mate ({ frames := 4, cells := 0, slots := 0, locals := 87 } : Room) [.ref (E.2.1 10 0), .int x, .int y] := by
  obtain ⟨sv, L, hS, hP, h5, hv, hk, hL, hT⟩ := id h
  have hR := hS.1.rel
  have hI := hS.1.inv
  have hS2 : SR B (σ 0) (mR (σ 10) sv 1) := by rw [mR_1]; exact hS.1
  have hO2 : mOK (mR (σ 10) sv) := mOK_1 mR_1 hS.2
  by_cases hx : cEx (σ 0) x = true
  · by_cases hy : cEx (σ 0) y = true
    · obtain ⟨a, ha, rfl, hea⟩ := cEx_iff.mp hx
      obtain ⟨b, hb, rfl, heb⟩ := cEx_iff.mp hy
      have hW := whyPair_sim hR hI ha hb hea heb
      by_cases hw : cWhyPair (σ 0) (nI a) (nI b) = 0
      · have eP : pMate (σ 10) sv (nI a) (nI b) = (mPairs (mMate (mR (σ 10) sv) (nI a) (nI b)), mMate (mR (σ 10) sv) (nI a) (nI b)) := by
          unfold pMate
          rw [if_pos (by rw [← hR.exx]; exact hx), if_pos (by rw [← hR.exx]; exact hy), if_pos (whyM_le.mpr (hW.symm.trans hw))]
        obtain ⟨w1, w2, w3⟩ := whyPair_0 ha hb hw
        have g1 := pair_SR hS2 ha hb w1 hea heb w2 w3
        obtain ⟨k1, k2⟩ := mMate_ok hO2 ha hb
        refine HS.sav1 h h5 hv.1 hP (k_L_mate l hx hy hw h5 hv.1 hP.1) (k_X4_mate l hv.2.1 hv.1) ?_ ?_ ?_ ?_
        · rw [eP, pairs_sim g1.rel g1.inv]
        · rw [eP]; exact g1.mono (by omega)
        · rw [eP]; exact k1
        · rw [eP]; exact k2
      · refine HS.thr h (k_L_mate_t3 l hst hx hy hw) (k_X4_mate l hv.2.1 hv.1) ?_ (by decide)
        unfold pMate
        rw [if_pos (by rw [← hR.exx]; exact hx), if_pos (by rw [← hR.exx]; exact hy), if_neg (fun w => hw (hW.trans (whyM_le.mp w)))]
    · refine HS.thr h (k_L_mate_t2 l hst hx (by rw [Bool.not_eq_true] at hy; exact hy)) (k_X4_mate l hv.2.1 hv.1) ?_ (by decide)
      unfold pMate
      rw [if_pos (by rw [← hR.exx]; exact hx), if_neg (by rw [← hR.exx]; exact hy)]
  · refine HS.thr h (k_L_mate_t1 l hst (by rw [Bool.not_eq_true] at hx; exact hx)) (k_X4_mate l hv.2.1 hv.1) ?_ (by decide)
    unfold pMate
    rw [if_neg (by rw [← hR.exx]; exact hx)]
theorem st_shut (l : Launch) (hst : l.stackTraces = false) {E : gEn} {B : Nat} {σ : gSt} {π : Nat → Nat} {o : Int64} {x : Int32} (hB : B < 2 ^ 29) (h : Big B σ π) : HS l E B σ π o yL_shut wsL_shut ({ frames := 8, cells := 1, slots := 6, locals := 170 } : Room) [.ref (E.2.1 9 0), .int x, .ref (E.2.1 11 0)] yX4_shut wsX4_shut ({ frames := 4, cells := 0, slots := 0, locals := 87 } : Room) [.ref (E.2.1 10 0), .int x] := by
  obtain ⟨sv, L, hS, hP, h5, hv, hk, hL, hT⟩ := id h
  have hR := hS.1.rel
  have hI := hS.1.inv
  have hS2 : SR B (σ 0) (mR (σ 10) sv 1) := by rw [mR_1]; exact hS.1
  have hO2 : mOK (mR (σ 10) sv) := mOK_1 mR_1 hS.2
  by_cases hx : hHole x = true
  · obtain ⟨q, hq, rfl⟩ := vp_in_of (hHole_in hx) (by omega)
    have hW := whyShut_sim hR hI hq
    by_cases hw : cWhyShut (σ 0) (nI q) = 0
    · have eP : pShut (σ 10) sv (nI q) = (mOpens (cW (mR (σ 10) sv) 1 (144 + q) 1), cW (mR (σ 10) sv) 1 (144 + q) 1) := by
        unfold pShut
        rw [if_pos (by rw [hHole_mIn]; exact hx), if_pos (whyS_le.mpr (hW.symm.trans hw)), ix_nI (by omega)]
      have g1 : SR B (cW (σ 0) 13 (ix (nI q)) 0) (cW (mR (σ 10) sv) 1 (144 + q) 1 1) := by rw [ix_nI (by omega)]; exact open_SR (b := false) hS2 hq
      obtain ⟨k1, k2⟩ := mHo_ok (v := 1) hO2 hq
      refine HS.sav1 h h5 hv.1 hP (k_L_shut l hx hw h5 hv.1 hP.1) (k_X4_shut l hv.2.1 hv.1) ?_ ?_ ?_ ?_
      · rw [eP, g1.rel.openN]
      · rw [eP]; exact g1.mono (by omega)
      · rw [eP]; exact k1
      · rw [eP]; exact k2
    · refine HS.thr h (k_L_shut_t2 l hst hx hw) (k_X4_shut l hv.2.1 hv.1) ?_ (by decide)
      unfold pShut
      rw [if_pos (by rw [hHole_mIn]; exact hx), if_neg (fun w => hw (hW.trans (whyS_le.mp w)))]
  · refine HS.thr h (k_L_shut_t1 l hst (by rw [Bool.not_eq_true] at hx; exact hx)) (k_X4_shut l hv.2.1 hv.1) ?_ (by decide)
    unfold pShut
    rw [if_neg (by rw [hHole_mIn]; exact hx)]
theorem st_open (l : Launch) (hst : l.stackTraces = false) {E : gEn} {B : Nat} {σ : gSt} {π : Nat → Nat} {o : Int64} {x : Int32} (hB : B < 2 ^ 29) (h : Big B σ π) : HS l E B σ π o yL_open wsL_open ({ frames := 8, cells := 1, slots := 6, locals := 170 } : Room) [.ref (E.2.1 9 0), .int x, .ref (E.2.1 11 0)] yX4_open wsX4_open ({ frames := 2, cells := 0, slots := 0, locals := 43 } : Room) [.ref (E.2.1 10 0), .int x] := by
  obtain ⟨sv, L, hS, hP, h5, hv, hk, hL, hT⟩ := id h
  have hR := hS.1.rel
  have hI := hS.1.inv
  have hS2 : SR B (σ 0) (mR (σ 10) sv 1) := by rw [mR_1]; exact hS.1
  have hO2 : mOK (mR (σ 10) sv) := mOK_1 mR_1 hS.2
  by_cases hx : hHole x = true
  · obtain ⟨q, hq, rfl⟩ := vp_in_of (hHole_in hx) (by omega)
    have eP : pOpen (σ 10) sv (nI q) = (mOpens (cW (mR (σ 10) sv) 1 (144 + q) 0), cW (mR (σ 10) sv) 1 (144 + q) 0) := by
      unfold pOpen
      rw [if_pos (by rw [hHole_mIn]; exact hx), ix_nI (by omega)]
    have g1 : SR B (cW (σ 0) 13 (ix (nI q)) 1) (cW (mR (σ 10) sv) 1 (144 + q) 0 1) := by rw [ix_nI (by omega)]; exact open_SR (b := true) hS2 hq
    obtain ⟨k1, k2⟩ := mHo_ok (v := 0) hO2 hq
    refine HS.sav1 h h5 hv.1 hP (k_L_open l hx h5 hv.1 hP.1) (k_X4_open l hv.2.1 hv.1) ?_ ?_ ?_ ?_
    · rw [eP, g1.rel.openN]
    · rw [eP]; exact g1.mono (by omega)
    · rw [eP]; exact k1
    · rw [eP]; exact k2
  · refine HS.thr h (k_L_open_t l hst (by rw [Bool.not_eq_true] at hx; exact hx)) (k_X4_open l hv.2.1 hv.1) ?_ (by decide)
    unfold pOpen
    rw [if_neg (by rw [hHole_mIn]; exact hx)]
theorem st_set (l : Launch) (hst : l.stackTraces = false) {E : gEn} {B : Nat} {σ : gSt} {π : Nat → Nat} {o : Int64} {x y : Int32} (hB : B < 2 ^ 29) (h : Big B σ π) : HS l E B σ π o yL_set wsL_set ({ frames := 8, cells := 1, slots := 6, locals := 170 } : Room) [.ref (E.2.1 9 0), .int x, .int y, .ref (E.2.1 11 0)] yX4_set wsX4_set ({ frames := 1, cells := 0, slots := 0, locals := 22 } : Room) [.ref (E.2.1 10 0), .int x, .int y] := by
  obtain ⟨sv, L, hS, hP, h5, hv, hk, hL, hT⟩ := id h
  have hR := hS.1.rel
  have hI := hS.1.inv
  have hS2 : SR B (σ 0) (mR (σ 10) sv 1) := by rw [mR_1]; exact hS.1
  have hO2 : mOK (mR (σ 10) sv) := mOK_1 mR_1 hS.2
  by_cases hx : ¬ x < 0 ∧ x < 2
  · obtain ⟨j, hj, rfl⟩ : ∃ j, j < 2 ∧ x = nI j := by
      obtain ⟨j, hj, rfl⟩ := nI_of hx.1
      exact ⟨j, by have := hx.2; rw [show (2 : Int32) = nI 2 from rfl, nI_ltI (by omega) (by omega)] at this; exact this, rfl⟩
    have hmx : mIn (nI j) 0 1 = true := (mIn_nI2 (a := 0) (b := 1) (by omega) (by omega) (by omega)).mpr ⟨by omega, by omega⟩
    by_cases hy : ¬ y < 0 ∧ y ≤ if nI j = 0 then 1439 else 24
    · have eP : pSet (σ 10) sv (nI j) y = mSet (mR (σ 10) sv) (nI j) y := by
        unfold pSet
        rw [if_pos hmx]
        by_cases h0 : nI j = 0
        · rw [if_pos h0]; rw [if_pos h0] at hy; rw [if_pos (mIn_iff.mpr hy)]
        · rw [if_neg h0]; rw [if_neg h0] at hy; rw [if_pos (mIn_iff.mpr hy)]
      have hv1 : j = 1 → ∃ n, n ≤ 24 ∧ y = nI n := fun w => by
        subst w
        rw [if_neg (show ¬ nI 1 = 0 by decide)] at hy
        obtain ⟨n, h1, h2⟩ := nI_of2 (M := 24) (n := 24) (by decide) hy.1 hy.2
        exact ⟨n, h1, h2⟩
      have g1 : SR B (cW (σ 0) 14 (ix (nI j)) y) (cW (mR (σ 10) sv) 1 (170 + j) y 1) := by rw [ix_nI (by omega)]; exact set_SR hS2 hj hv1
      have eS : mSet (mR (σ 10) sv) (nI j) y = (σ 10 1 (170 + j), cW (mR (σ 10) sv) 1 (170 + j) y) := by
        unfold mSet
        rw [ix_nI (by omega), mR_1]
      refine HS.sav1 h h5 hv.1 hP (k_L_set l hx.1 hx.2 hy.1 hy.2 h5 hv.1 hP.1) (k_X4_set l hv.2.1 hv.1) ?_ ?_ ?_ ?_
      · rw [eP, eS, ix_nI (by omega), hR.set j hj]
      · rw [eP, eS]; exact g1.mono (by omega)
      · rw [eP, eS]; exact mOK_ne hO2 fun q hq => ⟨by omega, by omega⟩
      · rw [eP, eS]; exact fun j' hj' => cWn hj'
    · refine HS.thr h (k_L_set_t2 l hst hx.1 hx.2 hy) (k_X4_set l hv.2.1 hv.1) ?_ (by decide)
      unfold pSet
      rw [if_pos hmx]
      by_cases h0 : nI j = 0
      · rw [if_pos h0]; rw [if_pos h0] at hy; rw [if_neg (mIn_f hy)]
      · rw [if_neg h0]; rw [if_neg h0] at hy; rw [if_neg (mIn_f hy)]
  · refine HS.thr h (k_L_set_t1 l hst hx) (k_X4_set l hv.2.1 hv.1) ?_ (by decide)
    unfold pSet
    rw [if_neg (fun w => hx ⟨(mIn_iff.mp w).1, Int32.lt_of_le_of_lt (mIn_iff.mp w).2 (by decide)⟩)]
theorem st_home (l : Launch) (hst : l.stackTraces = false) {E : gEn} {B : Nat} {σ : gSt} {π : Nat → Nat} {o : Int64} {x t : Int32} (hB : B < 2 ^ 29) (h : Big B σ π) : HS l E B σ π o yL_home wsL_home ({ frames := 8, cells := 1, slots := 6, locals := 170 } : Room) [.ref (E.2.1 9 0), .int x, .int t, .ref (E.2.1 11 0)] yX4_home wsX4_home ({ frames := 6, cells := 0, slots := 0, locals := 140 } : Room) [.ref (E.2.1 10 0), .int x, .int t] := by
  obtain ⟨sv, L, hS, hP, h5, hv, hk, hL, hT⟩ := id h
  have hR := hS.1.rel
  have hI := hS.1.inv
  have hS2 : SR B (σ 0) (mR (σ 10) sv 1) := by rw [mR_1]; exact hS.1
  have hO2 : mOK (mR (σ 10) sv) := mOK_1 mR_1 hS.2
  obtain ⟨mo, hmo, h141⟩ := hI.mst
  have h171 : σ 10 1 171 = nI mo := (hR.set 1 (by omega)).trans h141
  by_cases hx : cEx (σ 0) x = true
  · by_cases ht : ¬ t < 0 ∧ t ≤ 1439
    · obtain ⟨k, hk', rfl, he⟩ := cEx_iff.mp hx
      have hW := hR.whyHome hk' he (t := t)
      by_cases hw : cWhyHome (σ 0) (nI k) t = 0
      · have eP : pHome (σ 10) sv (nI k) t = ((mHome (mR (σ 10) sv) (nI k) t).2, (mHome (mR (σ 10) sv) (nI k) t).1) := by
          unfold pHome
          rw [if_pos (by rw [← hR.exx]; exact hx), if_pos (mIn_iff.mpr ht), if_pos (whyH_le.mpr (hW.symm.trans hw))]
        have hp : σ 0 4 k = -1 := by
          have := whyHome_0 hw
          rw [ix_nI (by omega)] at this; exact this
        obtain ⟨g1, g2⟩ := come_SR (t := t) hS2 (by omega) hk' he hp
        refine HS.sav1 h h5 hv.1 hP (k_L_home l hx ht.1 ht.2 hw h5 hv.1 hP.1) (k_X4_home l hv.2.1 hv.1 hS.2 h171 hmo) ?_ ?_ ?_ ?_
        · rw [eP, g2]
        · rw [eP]; exact g1.mono (by omega)
        · rw [eP]; exact (mHome_keep hO2).1
        · rw [eP]; exact fun j hj => mHome_row hj
      · refine HS.thr h (k_L_home_t3 l hst hx ht.1 ht.2 hw) (k_X4_home l hv.2.1 hv.1 hS.2 h171 hmo) ?_ (by decide)
        unfold pHome
        rw [if_pos (by rw [← hR.exx]; exact hx), if_pos (mIn_iff.mpr ht), if_neg (fun w => hw (hW.trans (whyH_le.mp w)))]
    · refine HS.thr h (k_L_home_t2 l hst hx ht) (k_X4_home l hv.2.1 hv.1 hS.2 h171 hmo) ?_ (by decide)
      unfold pHome
      rw [if_pos (by rw [← hR.exx]; exact hx), if_neg (mIn_f ht)]
  · refine HS.thr h (k_L_home_t1 l hst (by rw [Bool.not_eq_true] at hx; exact hx)) (k_X4_home l hv.2.1 hv.1 hS.2 h171 hmo) ?_ (by decide)
    unfold pHome
    rw [if_neg (by rw [← hR.exx]; exact hx)]
