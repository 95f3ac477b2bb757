set_option maxRecDepth 100000 in
set_option maxHeartbeats 4000000 in
theorem k_L_buy (l : Launch) {E : gEn} {σ : gSt} {π : Nat → Nat} {o : Int64} {c0 c1 c2 c9 : cSt} {x y : Int32} (hx : hHole x = true) (hy1 : ¬ y < 1) (hy9 : y ≤ 9) (hw : cWhyBuy c0 x = 0) {sv : Nat} (hs : c9 0 5 = nI sv) (hle : sv ≤ 6) (hπ : ∀ k, k < 6 → 3 ≤ π k ∧ π k < 9) : CtH l yL_buy wsL_buy ({ frames := 8, cells := 1, slots := 6, locals := 170 } : Room) E [.ref (E.2.1 9 0), .int x, .int y, .ref (E.2.1 11 0)] (gT σ c0 c1 c2 c9) π o (0) (gT (svS σ π sv c0) (cAdd c0 x y).2 c1 c2 (sv9 c9 sv)) (svP π sv) (((cAdd c0 x y).1)).toInt64 := by
  refine CtH.of (cc := cL_buy) (own := RL) (maxL := 5) (ret := (some .int)) [some (.ref (E.2.1 9 0)), some (.int x), some (.int y), some (.ref (E.2.1 11 0)), none] (by decide) rfl rfl (Nat.le_of_ble_eq_true rfl) rfl ?_
  intro p e s m args below meth cd C hX hY htab hrt hlk
  refine G.aldn3 C dL_buy_0 ?_
  refine G.iconst C 0 dL_buy_1 (by decide) ?_
  refine G.aldn0 C dL_buy_2 ?_
  refine G.ildn1 C dL_buy_3 ?_
  refine G.ildn2 C dL_buy_4 ?_
  refine G.callVI2 C (k_X3_buy l hx hy1 hy9 hw hs hle hπ) (cwV 2 C.1.2.2.2.2 gL_buy_X3_buy rfl rfl rfl (by decide +kernel) ⟨Nat.le_of_ble_eq_true rfl, Nat.le_of_ble_eq_true rfl⟩) gO_m rfl (Nat.le_of_ble_eq_true rfl) dL_buy_5 ?_
  refine G.i2l C dL_buy_8 ?_
  refine G.lastO C dL_buy_9 ?_
  refine G.goto C 25 dL_buy_10 (by decide) ?_
  refine G.iconst C 0 dL_buy_25 (by decide) ?_
  exact G.iretH C (by omega) (by omega) hlk hrt dL_buy_26 (by rfl) (by exact fun _ h => h)
set_option maxRecDepth 100000 in
set_option maxHeartbeats 4000000 in
theorem k_L_buy_t1 (l : Launch) {E : gEn} {σ : gSt} {π : Nat → Nat} {o : Int64} (hst : l.stackTraces = false) {c0 c1 c2 c9 : cSt} {x y : Int32} (hx : hHole x = false) : CtH l yL_buy wsL_buy ({ frames := 8, cells := 1, slots := 6, locals := 170 } : Room) E [.ref (E.2.1 9 0), .int x, .int y, .ref (E.2.1 11 0)] (gT σ c0 c1 c2 c9) π o (1) (gT σ c0 c1 c2 c9) π o := by
  refine CtH.of (cc := cL_buy) (own := RL) (maxL := 5) (ret := (some .int)) [some (.ref (E.2.1 9 0)), some (.int x), some (.int y), some (.ref (E.2.1 11 0)), none] (by decide) rfl rfl (Nat.le_of_ble_eq_true rfl) rfl ?_
  intro p e s m args below meth cd C hX hY htab hrt hlk
  refine G.aldn3 C dL_buy_0 ?_
  refine G.iconst C 0 dL_buy_1 (by decide) ?_
  refine G.aldn0 C dL_buy_2 ?_
  refine G.ildn1 C dL_buy_3 ?_
  refine G.ildn2 C dL_buy_4 ?_
  refine G.xcatchV2 C hX hY [] ⟨0, 10, 13, 13⟩ [⟨0, 10, 17, 15⟩, ⟨0, 10, 21, 17⟩] htab (fun z hz => by cases hz) (by decide) (by decide) (by decide +kernel : Cond.classLink RL 13 "java/lang/IndexOutOfBoundsException" ∈ wsL_buy) (by decide) (k_X3_buy_t1 l hst hx) (cwV 2 C.1.2.2.2.2 gL_buy_X3_buy rfl rfl rfl (by decide +kernel) ⟨Nat.le_of_ble_eq_true rfl, Nat.le_of_ble_eq_true rfl⟩) gO_m rfl (Nat.le_of_ble_eq_true rfl) dL_buy_5 ⟨by decide, by decide⟩ (fun q9 C => ?_)
  refine G.ast4 C dL_buy_13 (by omega) rfl ?_
  refine G.iconst C 1 dL_buy_15 (by decide) ?_
  exact G.iretH C (by omega) (by omega) hlk hrt dL_buy_16 (by rfl) (by exact fun _ h => h)
set_option maxRecDepth 100000 in
set_option maxHeartbeats 4000000 in
theorem k_L_buy_t2 (l : Launch) {E : gEn} {σ : gSt} {π : Nat → Nat} {o : Int64} (hst : l.stackTraces = false) {c0 c1 c2 c9 : cSt} {x y : Int32} (hx : hHole x = true) (hy : ¬ (¬ y < 1 ∧ y ≤ 9)) : CtH l yL_buy wsL_buy ({ frames := 8, cells := 1, slots := 6, locals := 170 } : Room) E [.ref (E.2.1 9 0), .int x, .int y, .ref (E.2.1 11 0)] (gT σ c0 c1 c2 c9) π o (2) (gT σ c0 c1 c2 c9) π o := by
  refine CtH.of (cc := cL_buy) (own := RL) (maxL := 5) (ret := (some .int)) [some (.ref (E.2.1 9 0)), some (.int x), some (.int y), some (.ref (E.2.1 11 0)), none] (by decide) rfl rfl (Nat.le_of_ble_eq_true rfl) rfl ?_
  intro p e s m args below meth cd C hX hY htab hrt hlk
  refine G.aldn3 C dL_buy_0 ?_
  refine G.iconst C 0 dL_buy_1 (by decide) ?_
  refine G.aldn0 C dL_buy_2 ?_
  refine G.ildn1 C dL_buy_3 ?_
  refine G.ildn2 C dL_buy_4 ?_
  refine G.xcatchV2 C hX hY [⟨0, 10, 13, 13⟩] ⟨0, 10, 17, 15⟩ [⟨0, 10, 21, 17⟩] htab (fun z hz => by obtain rfl := List.mem_singleton.mp hz; exact ⟨by decide, "java/lang/IndexOutOfBoundsException", (by decide +kernel : Cond.classLink RL 13 "java/lang/IndexOutOfBoundsException" ∈ wsL_buy), by decide⟩) (by decide) (by decide) (by decide +kernel : Cond.classLink RL 15 "java/lang/IllegalArgumentException" ∈ wsL_buy) (by decide) (k_X3_buy_t2 l hst hx hy) (cwV 2 C.1.2.2.2.2 gL_buy_X3_buy rfl rfl rfl (by decide +kernel) ⟨Nat.le_of_ble_eq_true rfl, Nat.le_of_ble_eq_true rfl⟩) gO_m rfl (Nat.le_of_ble_eq_true rfl) dL_buy_5 ⟨by decide, by decide⟩ (fun q9 C => ?_)
  refine G.ast4 C dL_buy_17 (by omega) rfl ?_
  refine G.iconst C 2 dL_buy_19 (by decide) ?_
  exact G.iretH C (by omega) (by omega) hlk hrt dL_buy_20 (by rfl) (by exact fun _ h => h)
set_option maxRecDepth 100000 in
set_option maxHeartbeats 4000000 in
theorem k_L_buy_t3 (l : Launch) {E : gEn} {σ : gSt} {π : Nat → Nat} {o : Int64} (hst : l.stackTraces = false) {c0 c1 c2 c9 : cSt} {x y : Int32} (hx : hHole x = true) (hy1 : ¬ y < 1) (hy9 : y ≤ 9) (hw : ¬ cWhyBuy c0 x = 0) : CtH l yL_buy wsL_buy ({ frames := 8, cells := 1, slots := 6, locals := 170 } : Room) E [.ref (E.2.1 9 0), .int x, .int y, .ref (E.2.1 11 0)] (gT σ c0 c1 c2 c9) π o (3) (gT σ c0 c1 c2 c9) π o := by
  refine CtH.of (cc := cL_buy) (own := RL) (maxL := 5) (ret := (some .int)) [some (.ref (E.2.1 9 0)), some (.int x), some (.int y), some (.ref (E.2.1 11 0)), none] (by decide) rfl rfl (Nat.le_of_ble_eq_true rfl) rfl ?_
  intro p e s m args below meth cd C hX hY htab hrt hlk
  refine G.aldn3 C dL_buy_0 ?_
  refine G.iconst C 0 dL_buy_1 (by decide) ?_
  refine G.aldn0 C dL_buy_2 ?_
  refine G.ildn1 C dL_buy_3 ?_
  refine G.ildn2 C dL_buy_4 ?_
  refine G.xcatchV2 C hX hY [⟨0, 10, 13, 13⟩, ⟨0, 10, 17, 15⟩] ⟨0, 10, 21, 17⟩ [] htab (fun z hz => by simp only [List.mem_cons, List.not_mem_nil, or_false] at hz; rcases hz with rfl | rfl; exact ⟨by decide, "java/lang/IndexOutOfBoundsException", (by decide +kernel : Cond.classLink RL 13 "java/lang/IndexOutOfBoundsException" ∈ wsL_buy), by decide⟩; exact ⟨by decide, "java/lang/IllegalArgumentException", (by decide +kernel : Cond.classLink RL 15 "java/lang/IllegalArgumentException" ∈ wsL_buy), by decide⟩) (by decide) (by decide) (by decide +kernel : Cond.classLink RL 17 "java/lang/IllegalStateException" ∈ wsL_buy) (by decide) (k_X3_buy_t3 l hst hx hy1 hy9 hw) (cwV 2 C.1.2.2.2.2 gL_buy_X3_buy rfl rfl rfl (by decide +kernel) ⟨Nat.le_of_ble_eq_true rfl, Nat.le_of_ble_eq_true rfl⟩) gO_m rfl (Nat.le_of_ble_eq_true rfl) dL_buy_5 ⟨by decide, by decide⟩ (fun q9 C => ?_)
  refine G.ast4 C dL_buy_21 (by omega) rfl ?_
  refine G.iconst C 3 dL_buy_23 (by decide) ?_
  exact G.iretH C (by omega) (by omega) hlk hrt dL_buy_24 (by rfl) (by exact fun _ h => h)
set_option maxRecDepth 100000 in
set_option maxHeartbeats 4000000 in
theorem k_L_sell (l : Launch) {E : gEn} {σ : gSt} {π : Nat → Nat} {o : Int64} {c0 c1 c2 c9 : cSt} {x : Int32} (hx : cEx c0 x = true) {sv : Nat} (hs : c9 0 5 = nI sv) (hle : sv ≤ 6) (hπ : ∀ k, k < 6 → 3 ≤ π k ∧ π k < 9) : CtH l yL_sell wsL_sell ({ frames := 8, cells := 1, slots := 6, locals := 170 } : Room) E [.ref (E.2.1 9 0), .int x, .ref (E.2.1 11 0)] (gT σ c0 c1 c2 c9) π o (0) (gT (svS σ π sv c0) (cRem c0 x) c1 c2 (sv9 c9 sv)) (svP π sv) ((c0 4 (ix x))).toInt64 := by
  refine CtH.of (cc := cL_sell) (own := RL) (maxL := 4) (ret := (some .int)) [some (.ref (E.2.1 9 0)), some (.int x), some (.ref (E.2.1 11 0)), none] (by decide) rfl rfl (Nat.le_of_ble_eq_true rfl) rfl ?_
  intro p e s m args below meth cd C hX hY htab hrt hlk
  refine G.aldn2 C dL_sell_0 ?_
  refine G.iconst C 0 dL_sell_1 (by decide) ?_
  refine G.aldn0 C dL_sell_2 ?_
  refine G.ildn1 C dL_sell_3 ?_
  refine G.callVI1 C (k_X3_sell l hx hs hle hπ) (cwV 1 C.1.2.2.2.2 gL_sell_X3_sell rfl rfl rfl (by decide +kernel) ⟨Nat.le_of_ble_eq_true rfl, Nat.le_of_ble_eq_true rfl⟩) gO_m rfl (Nat.le_of_ble_eq_true rfl) dL_sell_4 ?_
  refine G.i2l C dL_sell_7 ?_
  refine G.lastO C dL_sell_8 ?_
  refine G.goto C 15 dL_sell_9 (by decide) ?_
  refine G.iconst C 0 dL_sell_15 (by decide) ?_
  exact G.iretH C (by omega) (by omega) hlk hrt dL_sell_16 (by rfl) (by exact fun _ h => h)
set_option maxRecDepth 100000 in
set_option maxHeartbeats 4000000 in
theorem k_L_sell_t (l : Launch) {E : gEn} {σ : gSt} {π : Nat → Nat} {o : Int64} (hst : l.stackTraces = false) {c0 c1 c2 c9 : cSt} {x : Int32} (hx : cEx c0 x = false) : CtH l yL_sell wsL_sell ({ frames := 8, cells := 1, slots := 6, locals := 170 } : Room) E [.ref (E.2.1 9 0), .int x, .ref (E.2.1 11 0)] (gT σ c0 c1 c2 c9) π o (1) (gT σ c0 c1 c2 c9) π o := by
  refine CtH.of (cc := cL_sell) (own := RL) (maxL := 4) (ret := (some .int)) [some (.ref (E.2.1 9 0)), some (.int x), some (.ref (E.2.1 11 0)), none] (by decide) rfl rfl (Nat.le_of_ble_eq_true rfl) rfl ?_
  intro p e s m args below meth cd C hX hY htab hrt hlk
  refine G.aldn2 C dL_sell_0 ?_
  refine G.iconst C 0 dL_sell_1 (by decide) ?_
  refine G.aldn0 C dL_sell_2 ?_
  refine G.ildn1 C dL_sell_3 ?_
  refine G.xcatchV1 C hX hY [] ⟨0, 9, 12, 13⟩ [] htab (fun z hz => by cases hz) (by decide) (by decide) (by decide +kernel : Cond.classLink RL 13 "java/lang/IndexOutOfBoundsException" ∈ wsL_sell) (by decide) (k_X3_sell_t l hst hx) (cwV 1 C.1.2.2.2.2 gL_sell_X3_sell rfl rfl rfl (by decide +kernel) ⟨Nat.le_of_ble_eq_true rfl, Nat.le_of_ble_eq_true rfl⟩) gO_m rfl (Nat.le_of_ble_eq_true rfl) dL_sell_4 ⟨by decide, by decide⟩ (fun q9 C => ?_)
  refine G.astn3 C dL_sell_12 (by omega) rfl ?_
  refine G.iconst C 1 dL_sell_13 (by decide) ?_
  exact G.iretH C (by omega) (by omega) hlk hrt dL_sell_14 (by rfl) (by exact fun _ h => h)
set_option maxRecDepth 100000 in
set_option maxHeartbeats 4000000 in
theorem k_L_mate (l : Launch) {E : gEn} {σ : gSt} {π : Nat → Nat} {o : Int64} {c0 c1 c2 c9 : cSt} {x y : Int32} (hx : cEx c0 x = true) (hy : cEx c0 y = true) (hw : cWhyPair c0 x y = 0) {sv : Nat} (hs : c9 0 5 = nI sv) (hle : sv ≤ 6) (hπ : ∀ k, k < 6 → 3 ≤ π k ∧ π k < 9) : CtH l yL_mate wsL_mate ({ frames := 8, cells := 1, slots := 6, locals := 170 } : Room) E [.ref (E.2.1 9 0), .int x, .int y, .ref (E.2.1 11 0)] (gT σ c0 c1 c2 c9) π o (0) (gT (svS σ π sv c0) (cPair c0 x y) c1 c2 (sv9 c9 sv)) (svP π sv) ((cPairs (cPair c0 x y))).toInt64 := by
  refine CtH.of (cc := cL_mate) (own := RL) (maxL := 5) (ret := (some .int)) [some (.ref (E.2.1 9 0)), some (.int x), some (.int y), some (.ref (E.2.1 11 0)), none] (by decide) rfl rfl (Nat.le_of_ble_eq_true rfl) rfl ?_
  intro p e s m args below meth cd C hX hY htab hrt hlk
  refine G.aldn3 C dL_mate_0 ?_
  refine G.iconst C 0 dL_mate_1 (by decide) ?_
  refine G.aldn0 C dL_mate_2 ?_
  refine G.ildn1 C dL_mate_3 ?_
  refine G.ildn2 C dL_mate_4 ?_
  refine G.callVI2 C (k_X3_mate l hx hy hw hs hle hπ) (cwV 2 C.1.2.2.2.2 gL_mate_X3_mate rfl rfl rfl (by decide +kernel) ⟨Nat.le_of_ble_eq_true rfl, Nat.le_of_ble_eq_true rfl⟩) gO_m rfl (Nat.le_of_ble_eq_true rfl) dL_mate_5 ?_
  refine G.i2l C dL_mate_8 ?_
  refine G.lastO C dL_mate_9 ?_
  refine G.goto C 21 dL_mate_10 (by decide) ?_
  refine G.iconst C 0 dL_mate_21 (by decide) ?_
  exact G.iretH C (by omega) (by omega) hlk hrt dL_mate_22 (by rfl) (by exact fun _ h => h)
set_option maxRecDepth 100000 in
set_option maxHeartbeats 4000000 in
theorem k_L_mate_t1 (l : Launch) {E : gEn} {σ : gSt} {π : Nat → Nat} {o : Int64} (hst : l.stackTraces = false) {c0 c1 c2 c9 : cSt} {x y : Int32} (hx : cEx c0 x = false) : CtH l yL_mate wsL_mate ({ frames := 8, cells := 1, slots := 6, locals := 170 } : Room) E [.ref (E.2.1 9 0), .int x, .int y, .ref (E.2.1 11 0)] (gT σ c0 c1 c2 c9) π o (1) (gT σ c0 c1 c2 c9) π o := by
  refine CtH.of (cc := cL_mate) (own := RL) (maxL := 5) (ret := (some .int)) [some (.ref (E.2.1 9 0)), some (.int x), some (.int y), some (.ref (E.2.1 11 0)), none] (by decide) rfl rfl (Nat.le_of_ble_eq_true rfl) rfl ?_
  intro p e s m args below meth cd C hX hY htab hrt hlk
  refine G.aldn3 C dL_mate_0 ?_
  refine G.iconst C 0 dL_mate_1 (by decide) ?_
  refine G.aldn0 C dL_mate_2 ?_
  refine G.ildn1 C dL_mate_3 ?_
  refine G.ildn2 C dL_mate_4 ?_
  refine G.xcatchV2 C hX hY [] ⟨0, 10, 13, 13⟩ [⟨0, 10, 17, 17⟩] htab (fun z hz => by cases hz) (by decide) (by decide) (by decide +kernel : Cond.classLink RL 13 "java/lang/IndexOutOfBoundsException" ∈ wsL_mate) (by decide) (k_X3_mate_t1 l hst hx) (cwV 2 C.1.2.2.2.2 gL_mate_X3_mate rfl rfl rfl (by decide +kernel) ⟨Nat.le_of_ble_eq_true rfl, Nat.le_of_ble_eq_true rfl⟩) gO_m rfl (Nat.le_of_ble_eq_true rfl) dL_mate_5 ⟨by decide, by decide⟩ (fun q9 C => ?_)
  refine G.ast4 C dL_mate_13 (by omega) rfl ?_
  refine G.iconst C 1 dL_mate_15 (by decide) ?_
  exact G.iretH C (by omega) (by omega) hlk hrt dL_mate_16 (by rfl) (by exact fun _ h => h)
set_option maxRecDepth 100000 in
set_option maxHeartbeats 4000000 in
theorem k_L_mate_t2 (l : Launch) {E : gEn} {σ : gSt} {π : Nat → Nat} {o : Int64} (hst : l.stackTraces = false) {c0 c1 c2 c9 : cSt} {x y : Int32} (hx : cEx c0 x = true) (hy : cEx c0 y = false) : CtH l yL_mate wsL_mate ({ frames := 8, cells := 1, slots := 6, locals := 170 } : Room) E [.ref (E.2.1 9 0), .int x, .int y, .ref (E.2.1 11 0)] (gT σ c0 c1 c2 c9) π o (1) (gT σ c0 c1 c2 c9) π o := by
  refine CtH.of (cc := cL_mate) (own := RL) (maxL := 5) (ret := (some .int)) [some (.ref (E.2.1 9 0)), some (.int x), some (.int y), some (.ref (E.2.1 11 0)), none] (by decide) rfl rfl (Nat.le_of_ble_eq_true rfl) rfl ?_
  intro p e s m args below meth cd C hX hY htab hrt hlk
  refine G.aldn3 C dL_mate_0 ?_
  refine G.iconst C 0 dL_mate_1 (by decide) ?_
  refine G.aldn0 C dL_mate_2 ?_
  refine G.ildn1 C dL_mate_3 ?_
  refine G.ildn2 C dL_mate_4 ?_
  refine G.xcatchV2 C hX hY [] ⟨0, 10, 13, 13⟩ [⟨0, 10, 17, 17⟩] htab (fun z hz => by cases hz) (by decide) (by decide) (by decide +kernel : Cond.classLink RL 13 "java/lang/IndexOutOfBoundsException" ∈ wsL_mate) (by decide) (k_X3_mate_t2 l hst hx hy) (cwV 2 C.1.2.2.2.2 gL_mate_X3_mate rfl rfl rfl (by decide +kernel) ⟨Nat.le_of_ble_eq_true rfl, Nat.le_of_ble_eq_true rfl⟩) gO_m rfl (Nat.le_of_ble_eq_true rfl) dL_mate_5 ⟨by decide, by decide⟩ (fun q9 C => ?_)
  refine G.ast4 C dL_mate_13 (by omega) rfl ?_
  refine G.iconst C 1 dL_mate_15 (by decide) ?_
  exact G.iretH C (by omega) (by omega) hlk hrt dL_mate_16 (by rfl) (by exact fun _ h => h)
set_option maxRecDepth 100000 in
set_option maxHeartbeats 4000000 in
theorem k_L_mate_t3 (l : Launch) {E : gEn} {σ : gSt} {π : Nat → Nat} {o : Int64} (hst : l.stackTraces = false) {c0 c1 c2 c9 : cSt} {x y : Int32} (hx : cEx c0 x = true) (hy : cEx c0 y = true) (hw : ¬ cWhyPair c0 x y = 0) : CtH l yL_mate wsL_mate ({ frames := 8, cells := 1, slots := 6, locals := 170 } : Room) E [.ref (E.2.1 9 0), .int x, .int y, .ref (E.2.1 11 0)] (gT σ c0 c1 c2 c9) π o (2) (gT σ c0 c1 c2 c9) π o := by
  refine CtH.of (cc := cL_mate) (own := RL) (maxL := 5) (ret := (some .int)) [some (.ref (E.2.1 9 0)), some (.int x), some (.int y), some (.ref (E.2.1 11 0)), none] (by decide) rfl rfl (Nat.le_of_ble_eq_true rfl) rfl ?_
  intro p e s m args below meth cd C hX hY htab hrt hlk
  refine G.aldn3 C dL_mate_0 ?_
  refine G.iconst C 0 dL_mate_1 (by decide) ?_
  refine G.aldn0 C dL_mate_2 ?_
  refine G.ildn1 C dL_mate_3 ?_
  refine G.ildn2 C dL_mate_4 ?_
  refine G.xcatchV2 C hX hY [⟨0, 10, 13, 13⟩] ⟨0, 10, 17, 17⟩ [] htab (fun z hz => by obtain rfl := List.mem_singleton.mp hz; exact ⟨by decide, "java/lang/IndexOutOfBoundsException", (by decide +kernel : Cond.classLink RL 13 "java/lang/IndexOutOfBoundsException" ∈ wsL_mate), by decide⟩) (by decide) (by decide) (by decide +kernel : Cond.classLink RL 17 "java/lang/IllegalStateException" ∈ wsL_mate) (by decide) (k_X3_mate_t3 l hst hx hy hw) (cwV 2 C.1.2.2.2.2 gL_mate_X3_mate rfl rfl rfl (by decide +kernel) ⟨Nat.le_of_ble_eq_true rfl, Nat.le_of_ble_eq_true rfl⟩) gO_m rfl (Nat.le_of_ble_eq_true rfl) dL_mate_5 ⟨by decide, by decide⟩ (fun q9 C => ?_)
  refine G.ast4 C dL_mate_17 (by omega) rfl ?_
  refine G.iconst C 2 dL_mate_19 (by decide) ?_
  exact G.iretH C (by omega) (by omega) hlk hrt dL_mate_20 (by rfl) (by exact fun _ h => h)
set_option maxRecDepth 100000 in
set_option maxHeartbeats 4000000 in
theorem k_L_shut (l : Launch) {E : gEn} {σ : gSt} {π : Nat → Nat} {o : Int64} {c0 c1 c2 c9 : cSt} {x : Int32} (hx : hHole x = true) (hw : cWhyShut c0 x = 0) {sv : Nat} (hs : c9 0 5 = nI sv) (hle : sv ≤ 6) (hπ : ∀ k, k < 6 → 3 ≤ π k ∧ π k < 9) : CtH l yL_shut wsL_shut ({ frames := 8, cells := 1, slots := 6, locals := 170 } : Room) E [.ref (E.2.1 9 0), .int x, .ref (E.2.1 11 0)] (gT σ c0 c1 c2 c9) π o (0) (gT (svS σ π sv c0) (cW c0 13 (ix x) 0) c1 c2 (sv9 c9 sv)) (svP π sv) ((cOpens (cW c0 13 (ix x) 0))).toInt64 := by
  refine CtH.of (cc := cL_shut) (own := RL) (maxL := 4) (ret := (some .int)) [some (.ref (E.2.1 9 0)), some (.int x), some (.ref (E.2.1 11 0)), none] (by decide) rfl rfl (Nat.le_of_ble_eq_true rfl) rfl ?_
  intro p e s m args below meth cd C hX hY htab hrt hlk
  refine G.aldn2 C dL_shut_0 ?_
  refine G.iconst C 0 dL_shut_1 (by decide) ?_
  refine G.aldn0 C dL_shut_2 ?_
  refine G.ildn1 C dL_shut_3 ?_
  refine G.callVI1 C (k_X3_shut l hx hw hs hle hπ) (cwV 1 C.1.2.2.2.2 gL_shut_X3_shut rfl rfl rfl (by decide +kernel) ⟨Nat.le_of_ble_eq_true rfl, Nat.le_of_ble_eq_true rfl⟩) gO_m rfl (Nat.le_of_ble_eq_true rfl) dL_shut_4 ?_
  refine G.i2l C dL_shut_7 ?_
  refine G.lastO C dL_shut_8 ?_
  refine G.goto C 18 dL_shut_9 (by decide) ?_
  refine G.iconst C 0 dL_shut_18 (by decide) ?_
  exact G.iretH C (by omega) (by omega) hlk hrt dL_shut_19 (by rfl) (by exact fun _ h => h)
set_option maxRecDepth 100000 in
set_option maxHeartbeats 4000000 in
theorem k_L_shut_t1 (l : Launch) {E : gEn} {σ : gSt} {π : Nat → Nat} {o : Int64} (hst : l.stackTraces = false) {c0 c1 c2 c9 : cSt} {x : Int32} (hx : hHole x = false) : CtH l yL_shut wsL_shut ({ frames := 8, cells := 1, slots := 6, locals := 170 } : Room) E [.ref (E.2.1 9 0), .int x, .ref (E.2.1 11 0)] (gT σ c0 c1 c2 c9) π o (1) (gT σ c0 c1 c2 c9) π o := by
  refine CtH.of (cc := cL_shut) (own := RL) (maxL := 4) (ret := (some .int)) [some (.ref (E.2.1 9 0)), some (.int x), some (.ref (E.2.1 11 0)), none] (by decide) rfl rfl (Nat.le_of_ble_eq_true rfl) rfl ?_
  intro p e s m args below meth cd C hX hY htab hrt hlk
  refine G.aldn2 C dL_shut_0 ?_
  refine G.iconst C 0 dL_shut_1 (by decide) ?_
  refine G.aldn0 C dL_shut_2 ?_
  refine G.ildn1 C dL_shut_3 ?_
  refine G.xcatchV1 C hX hY [] ⟨0, 9, 12, 13⟩ [⟨0, 9, 15, 17⟩] htab (fun z hz => by cases hz) (by decide) (by decide) (by decide +kernel : Cond.classLink RL 13 "java/lang/IndexOutOfBoundsException" ∈ wsL_shut) (by decide) (k_X3_shut_t1 l hst hx) (cwV 1 C.1.2.2.2.2 gL_shut_X3_shut rfl rfl rfl (by decide +kernel) ⟨Nat.le_of_ble_eq_true rfl, Nat.le_of_ble_eq_true rfl⟩) gO_m rfl (Nat.le_of_ble_eq_true rfl) dL_shut_4 ⟨by decide, by decide⟩ (fun q9 C => ?_)
  refine G.astn3 C dL_shut_12 (by omega) rfl ?_
  refine G.iconst C 1 dL_shut_13 (by decide) ?_
  exact G.iretH C (by omega) (by omega) hlk hrt dL_shut_14 (by rfl) (by exact fun _ h => h)
set_option maxRecDepth 100000 in
set_option maxHeartbeats 4000000 in
theorem k_L_shut_t2 (l : Launch) {E : gEn} {σ : gSt} {π : Nat → Nat} {o : Int64} (hst : l.stackTraces = false) {c0 c1 c2 c9 : cSt} {x : Int32} (hx : hHole x = true) (hw : ¬ cWhyShut c0 x = 0) : CtH l yL_shut wsL_shut ({ frames := 8, cells := 1, slots := 6, locals := 170 } : Room) E [.ref (E.2.1 9 0), .int x, .ref (E.2.1 11 0)] (gT σ c0 c1 c2 c9) π o (2) (gT σ c0 c1 c2 c9) π o := by
  refine CtH.of (cc := cL_shut) (own := RL) (maxL := 4) (ret := (some .int)) [some (.ref (E.2.1 9 0)), some (.int x), some (.ref (E.2.1 11 0)), none] (by decide) rfl rfl (Nat.le_of_ble_eq_true rfl) rfl ?_
  intro p e s m args below meth cd C hX hY htab hrt hlk
  refine G.aldn2 C dL_shut_0 ?_
  refine G.iconst C 0 dL_shut_1 (by decide) ?_
  refine G.aldn0 C dL_shut_2 ?_
  refine G.ildn1 C dL_shut_3 ?_
  refine G.xcatchV1 C hX hY [⟨0, 9, 12, 13⟩] ⟨0, 9, 15, 17⟩ [] htab (fun z hz => by obtain rfl := List.mem_singleton.mp hz; exact ⟨by decide, "java/lang/IndexOutOfBoundsException", (by decide +kernel : Cond.classLink RL 13 "java/lang/IndexOutOfBoundsException" ∈ wsL_shut), by decide⟩) (by decide) (by decide) (by decide +kernel : Cond.classLink RL 17 "java/lang/IllegalStateException" ∈ wsL_shut) (by decide) (k_X3_shut_t2 l hst hx hw) (cwV 1 C.1.2.2.2.2 gL_shut_X3_shut rfl rfl rfl (by decide +kernel) ⟨Nat.le_of_ble_eq_true rfl, Nat.le_of_ble_eq_true rfl⟩) gO_m rfl (Nat.le_of_ble_eq_true rfl) dL_shut_4 ⟨by decide, by decide⟩ (fun q9 C => ?_)
  refine G.astn3 C dL_shut_15 (by omega) rfl ?_
  refine G.iconst C 2 dL_shut_16 (by decide) ?_
  exact G.iretH C (by omega) (by omega) hlk hrt dL_shut_17 (by rfl) (by exact fun _ h => h)
set_option maxRecDepth 100000 in
set_option maxHeartbeats 4000000 in
theorem k_L_open (l : Launch) {E : gEn} {σ : gSt} {π : Nat → Nat} {o : Int64} {c0 c1 c2 c9 : cSt} {x : Int32} (hx : hHole x = true) {sv : Nat} (hs : c9 0 5 = nI sv) (hle : sv ≤ 6) (hπ : ∀ k, k < 6 → 3 ≤ π k ∧ π k < 9) : CtH l yL_open wsL_open ({ frames := 8, cells := 1, slots := 6, locals := 170 } : Room) E [.ref (E.2.1 9 0), .int x, .ref (E.2.1 11 0)] (gT σ c0 c1 c2 c9) π o (0) (gT (svS σ π sv c0) (cW c0 13 (ix x) 1) c1 c2 (sv9 c9 sv)) (svP π sv) ((cOpens (cW c0 13 (ix x) 1))).toInt64 := by
  refine CtH.of (cc := cL_open) (own := RL) (maxL := 4) (ret := (some .int)) [some (.ref (E.2.1 9 0)), some (.int x), some (.ref (E.2.1 11 0)), none] (by decide) rfl rfl (Nat.le_of_ble_eq_true rfl) rfl ?_
  intro p e s m args below meth cd C hX hY htab hrt hlk
  refine G.aldn2 C dL_open_0 ?_
  refine G.iconst C 0 dL_open_1 (by decide) ?_
  refine G.aldn0 C dL_open_2 ?_
  refine G.ildn1 C dL_open_3 ?_
  refine G.callVI1 C (k_X3_open l hx hs hle hπ) (cwV 1 C.1.2.2.2.2 gL_open_X3_open rfl rfl rfl (by decide +kernel) ⟨Nat.le_of_ble_eq_true rfl, Nat.le_of_ble_eq_true rfl⟩) gO_m rfl (Nat.le_of_ble_eq_true rfl) dL_open_4 ?_
  refine G.i2l C dL_open_7 ?_
  refine G.lastO C dL_open_8 ?_
  refine G.goto C 15 dL_open_9 (by decide) ?_
  refine G.iconst C 0 dL_open_15 (by decide) ?_
  exact G.iretH C (by omega) (by omega) hlk hrt dL_open_16 (by rfl) (by exact fun _ h => h)
set_option maxRecDepth 100000 in
set_option maxHeartbeats 4000000 in
theorem k_L_open_t (l : Launch) {E : gEn} {σ : gSt} {π : Nat → Nat} {o : Int64} (hst : l.stackTraces = false) {c0 c1 c2 c9 : cSt} {x : Int32} (hx : hHole x = false) : CtH l yL_open wsL_open ({ frames := 8, cells := 1, slots := 6, locals := 170 } : Room) E [.ref (E.2.1 9 0), .int x, .ref (E.2.1 11 0)] (gT σ c0 c1 c2 c9) π o (1) (gT σ c0 c1 c2 c9) π o := by
  refine CtH.of (cc := cL_open) (own := RL) (maxL := 4) (ret := (some .int)) [some (.ref (E.2.1 9 0)), some (.int x), some (.ref (E.2.1 11 0)), none] (by decide) rfl rfl (Nat.le_of_ble_eq_true rfl) rfl ?_
  intro p e s m args below meth cd C hX hY htab hrt hlk
  refine G.aldn2 C dL_open_0 ?_
  refine G.iconst C 0 dL_open_1 (by decide) ?_
  refine G.aldn0 C dL_open_2 ?_
  refine G.ildn1 C dL_open_3 ?_
  refine G.xcatchV1 C hX hY [] ⟨0, 9, 12, 13⟩ [] htab (fun z hz => by cases hz) (by decide) (by decide) (by decide +kernel : Cond.classLink RL 13 "java/lang/IndexOutOfBoundsException" ∈ wsL_open) (by decide) (k_X3_open_t l hst hx) (cwV 1 C.1.2.2.2.2 gL_open_X3_open rfl rfl rfl (by decide +kernel) ⟨Nat.le_of_ble_eq_true rfl, Nat.le_of_ble_eq_true rfl⟩) gO_m rfl (Nat.le_of_ble_eq_true rfl) dL_open_4 ⟨by decide, by decide⟩ (fun q9 C => ?_)
  refine G.astn3 C dL_open_12 (by omega) rfl ?_
  refine G.iconst C 1 dL_open_13 (by decide) ?_
  exact G.iretH C (by omega) (by omega) hlk hrt dL_open_14 (by rfl) (by exact fun _ h => h)
set_option maxRecDepth 100000 in
set_option maxHeartbeats 4000000 in
theorem k_L_set (l : Launch) {E : gEn} {σ : gSt} {π : Nat → Nat} {o : Int64} {c0 c1 c2 c9 : cSt} {x y : Int32} (hx0 : ¬ x < 0) (hx2 : x < 2) (hy0 : ¬ y < 0) (hy : y ≤ if x = 0 then 1439 else 24) {sv : Nat} (hs : c9 0 5 = nI sv) (hle : sv ≤ 6) (hπ : ∀ k, k < 6 → 3 ≤ π k ∧ π k < 9) : CtH l yL_set wsL_set ({ frames := 8, cells := 1, slots := 6, locals := 170 } : Room) E [.ref (E.2.1 9 0), .int x, .int y, .ref (E.2.1 11 0)] (gT σ c0 c1 c2 c9) π o (0) (gT (svS σ π sv c0) (cW c0 14 (ix x) y) c1 c2 (sv9 c9 sv)) (svP π sv) ((c0 14 (ix x))).toInt64 := by
  refine CtH.of (cc := cL_set) (own := RL) (maxL := 5) (ret := (some .int)) [some (.ref (E.2.1 9 0)), some (.int x), some (.int y), some (.ref (E.2.1 11 0)), none] (by decide) rfl rfl (Nat.le_of_ble_eq_true rfl) rfl ?_
  intro p e s m args below meth cd C hX hY htab hrt hlk
  refine G.aldn3 C dL_set_0 ?_
  refine G.iconst C 0 dL_set_1 (by decide) ?_
  refine G.aldn0 C dL_set_2 ?_
  refine G.ildn1 C dL_set_3 ?_
  refine G.ildn2 C dL_set_4 ?_
  refine G.callVI2 C (k_X3_set l hx0 hx2 hy0 hy hs hle hπ) (cwV 2 C.1.2.2.2.2 gL_set_X3_set rfl rfl rfl (by decide +kernel) ⟨Nat.le_of_ble_eq_true rfl, Nat.le_of_ble_eq_true rfl⟩) gO_m rfl (Nat.le_of_ble_eq_true rfl) dL_set_5 ?_
  refine G.i2l C dL_set_8 ?_
  refine G.lastO C dL_set_9 ?_
  refine G.goto C 21 dL_set_10 (by decide) ?_
  refine G.iconst C 0 dL_set_21 (by decide) ?_
  exact G.iretH C (by omega) (by omega) hlk hrt dL_set_22 (by rfl) (by exact fun _ h => h)
set_option maxRecDepth 100000 in
set_option maxHeartbeats 4000000 in
theorem k_L_set_t1 (l : Launch) {E : gEn} {σ : gSt} {π : Nat → Nat} {o : Int64} (hst : l.stackTraces = false) {c0 c1 c2 c9 : cSt} {x y : Int32} (hx : ¬ (¬ x < 0 ∧ x < 2)) : CtH l yL_set wsL_set ({ frames := 8, cells := 1, slots := 6, locals := 170 } : Room) E [.ref (E.2.1 9 0), .int x, .int y, .ref (E.2.1 11 0)] (gT σ c0 c1 c2 c9) π o (1) (gT σ c0 c1 c2 c9) π o := by
  refine CtH.of (cc := cL_set) (own := RL) (maxL := 5) (ret := (some .int)) [some (.ref (E.2.1 9 0)), some (.int x), some (.int y), some (.ref (E.2.1 11 0)), none] (by decide) rfl rfl (Nat.le_of_ble_eq_true rfl) rfl ?_
  intro p e s m args below meth cd C hX hY htab hrt hlk
  refine G.aldn3 C dL_set_0 ?_
  refine G.iconst C 0 dL_set_1 (by decide) ?_
  refine G.aldn0 C dL_set_2 ?_
  refine G.ildn1 C dL_set_3 ?_
  refine G.ildn2 C dL_set_4 ?_
  refine G.xcatchV2 C hX hY [] ⟨0, 10, 13, 13⟩ [⟨0, 10, 17, 15⟩] htab (fun z hz => by cases hz) (by decide) (by decide) (by decide +kernel : Cond.classLink RL 13 "java/lang/IndexOutOfBoundsException" ∈ wsL_set) (by decide) (k_X3_set_t1 l hst hx) (cwV 2 C.1.2.2.2.2 gL_set_X3_set rfl rfl rfl (by decide +kernel) ⟨Nat.le_of_ble_eq_true rfl, Nat.le_of_ble_eq_true rfl⟩) gO_m rfl (Nat.le_of_ble_eq_true rfl) dL_set_5 ⟨by decide, by decide⟩ (fun q9 C => ?_)
  refine G.ast4 C dL_set_13 (by omega) rfl ?_
  refine G.iconst C 1 dL_set_15 (by decide) ?_
  exact G.iretH C (by omega) (by omega) hlk hrt dL_set_16 (by rfl) (by exact fun _ h => h)
set_option maxRecDepth 100000 in
set_option maxHeartbeats 4000000 in
theorem k_L_set_t2 (l : Launch) {E : gEn} {σ : gSt} {π : Nat → Nat} {o : Int64} (hst : l.stackTraces = false) {c0 c1 c2 c9 : cSt} {x y : Int32} (hx0 : ¬ x < 0) (hx2 : x < 2) (hy : ¬ (¬ y < 0 ∧ y ≤ if x = 0 then 1439 else 24)) : CtH l yL_set wsL_set ({ frames := 8, cells := 1, slots := 6, locals := 170 } : Room) E [.ref (E.2.1 9 0), .int x, .int y, .ref (E.2.1 11 0)] (gT σ c0 c1 c2 c9) π o (2) (gT σ c0 c1 c2 c9) π o := by
  refine CtH.of (cc := cL_set) (own := RL) (maxL := 5) (ret := (some .int)) [some (.ref (E.2.1 9 0)), some (.int x), some (.int y), some (.ref (E.2.1 11 0)), none] (by decide) rfl rfl (Nat.le_of_ble_eq_true rfl) rfl ?_
  intro p e s m args below meth cd C hX hY htab hrt hlk
  refine G.aldn3 C dL_set_0 ?_
  refine G.iconst C 0 dL_set_1 (by decide) ?_
  refine G.aldn0 C dL_set_2 ?_
  refine G.ildn1 C dL_set_3 ?_
  refine G.ildn2 C dL_set_4 ?_
  refine G.xcatchV2 C hX hY [⟨0, 10, 13, 13⟩] ⟨0, 10, 17, 15⟩ [] htab (fun z hz => by obtain rfl := List.mem_singleton.mp hz; exact ⟨by decide, "java/lang/IndexOutOfBoundsException", (by decide +kernel : Cond.classLink RL 13 "java/lang/IndexOutOfBoundsException" ∈ wsL_set), by decide⟩) (by decide) (by decide) (by decide +kernel : Cond.classLink RL 15 "java/lang/IllegalArgumentException" ∈ wsL_set) (by decide) (k_X3_set_t2 l hst hx0 hx2 hy) (cwV 2 C.1.2.2.2.2 gL_set_X3_set rfl rfl rfl (by decide +kernel) ⟨Nat.le_of_ble_eq_true rfl, Nat.le_of_ble_eq_true rfl⟩) gO_m rfl (Nat.le_of_ble_eq_true rfl) dL_set_5 ⟨by decide, by decide⟩ (fun q9 C => ?_)
  refine G.ast4 C dL_set_17 (by omega) rfl ?_
  refine G.iconst C 2 dL_set_19 (by decide) ?_
  exact G.iretH C (by omega) (by omega) hlk hrt dL_set_20 (by rfl) (by exact fun _ h => h)
set_option maxRecDepth 100000 in
set_option maxHeartbeats 4000000 in
theorem k_L_home (l : Launch) {E : gEn} {σ : gSt} {π : Nat → Nat} {o : Int64} {c0 c1 c2 c9 : cSt} {x t : Int32} (hx : cEx c0 x = true) (ht0 : ¬ t < 0) (ht1 : t ≤ 1439) (hw : cWhyHome c0 x t = 0) {sv : Nat} (hs : c9 0 5 = nI sv) (hle : sv ≤ 6) (hπ : ∀ k, k < 6 → 3 ≤ π k ∧ π k < 9) : CtH l yL_home wsL_home ({ frames := 8, cells := 1, slots := 6, locals := 170 } : Room) E [.ref (E.2.1 9 0), .int x, .int t, .ref (E.2.1 11 0)] (gT σ c0 c1 c2 c9) π o (0) (gT (svS σ π sv c0) (cCome c0 x t) c1 c2 (sv9 c9 sv)) (svP π sv) ((cComeR c0 x t)).toInt64 := by
  refine CtH.of (cc := cL_home) (own := RL) (maxL := 5) (ret := (some .int)) [some (.ref (E.2.1 9 0)), some (.int x), some (.int t), some (.ref (E.2.1 11 0)), none] (by decide) rfl rfl (Nat.le_of_ble_eq_true rfl) rfl ?_
  intro p e s m args below meth cd C hX hY htab hrt hlk
  refine G.aldn3 C dL_home_0 ?_
  refine G.iconst C 0 dL_home_1 (by decide) ?_
  refine G.aldn0 C dL_home_2 ?_
  refine G.ildn1 C dL_home_3 ?_
  refine G.ildn2 C dL_home_4 ?_
  refine G.callVI2 C (k_X3_home l hx ht0 ht1 hw hs hle hπ) (cwV 2 C.1.2.2.2.2 gL_home_X3_home rfl rfl rfl (by decide +kernel) ⟨Nat.le_of_ble_eq_true rfl, Nat.le_of_ble_eq_true rfl⟩) gO_m rfl (Nat.le_of_ble_eq_true rfl) dL_home_5 ?_
  refine G.i2l C dL_home_8 ?_
  refine G.lastO C dL_home_9 ?_
  refine G.goto C 25 dL_home_10 (by decide) ?_
  refine G.iconst C 0 dL_home_25 (by decide) ?_
  exact G.iretH C (by omega) (by omega) hlk hrt dL_home_26 (by rfl) (by exact fun _ h => h)
set_option maxRecDepth 100000 in
set_option maxHeartbeats 4000000 in
theorem k_L_home_t1 (l : Launch) {E : gEn} {σ : gSt} {π : Nat → Nat} {o : Int64} (hst : l.stackTraces = false) {c0 c1 c2 c9 : cSt} {x t : Int32} (hx : cEx c0 x = false) : CtH l yL_home wsL_home ({ frames := 8, cells := 1, slots := 6, locals := 170 } : Room) E [.ref (E.2.1 9 0), .int x, .int t, .ref (E.2.1 11 0)] (gT σ c0 c1 c2 c9) π o (1) (gT σ c0 c1 c2 c9) π o := by
  refine CtH.of (cc := cL_home) (own := RL) (maxL := 5) (ret := (some .int)) [some (.ref (E.2.1 9 0)), some (.int x), some (.int t), some (.ref (E.2.1 11 0)), none] (by decide) rfl rfl (Nat.le_of_ble_eq_true rfl) rfl ?_
  intro p e s m args below meth cd C hX hY htab hrt hlk
  refine G.aldn3 C dL_home_0 ?_
  refine G.iconst C 0 dL_home_1 (by decide) ?_
  refine G.aldn0 C dL_home_2 ?_
  refine G.ildn1 C dL_home_3 ?_
  refine G.ildn2 C dL_home_4 ?_
  refine G.xcatchV2 C hX hY [] ⟨0, 10, 13, 13⟩ [⟨0, 10, 17, 15⟩, ⟨0, 10, 21, 17⟩] htab (fun z hz => by cases hz) (by decide) (by decide) (by decide +kernel : Cond.classLink RL 13 "java/lang/IndexOutOfBoundsException" ∈ wsL_home) (by decide) (k_X3_home_t1 l hst hx) (cwV 2 C.1.2.2.2.2 gL_home_X3_home rfl rfl rfl (by decide +kernel) ⟨Nat.le_of_ble_eq_true rfl, Nat.le_of_ble_eq_true rfl⟩) gO_m rfl (Nat.le_of_ble_eq_true rfl) dL_home_5 ⟨by decide, by decide⟩ (fun q9 C => ?_)
  refine G.ast4 C dL_home_13 (by omega) rfl ?_
  refine G.iconst C 1 dL_home_15 (by decide) ?_
  exact G.iretH C (by omega) (by omega) hlk hrt dL_home_16 (by rfl) (by exact fun _ h => h)
set_option maxRecDepth 100000 in
set_option maxHeartbeats 4000000 in
theorem k_L_home_t2 (l : Launch) {E : gEn} {σ : gSt} {π : Nat → Nat} {o : Int64} (hst : l.stackTraces = false) {c0 c1 c2 c9 : cSt} {x t : Int32} (hx : cEx c0 x = true) (ht : ¬ (¬ t < 0 ∧ t ≤ 1439)) : CtH l yL_home wsL_home ({ frames := 8, cells := 1, slots := 6, locals := 170 } : Room) E [.ref (E.2.1 9 0), .int x, .int t, .ref (E.2.1 11 0)] (gT σ c0 c1 c2 c9) π o (2) (gT σ c0 c1 c2 c9) π o := by
  refine CtH.of (cc := cL_home) (own := RL) (maxL := 5) (ret := (some .int)) [some (.ref (E.2.1 9 0)), some (.int x), some (.int t), some (.ref (E.2.1 11 0)), none] (by decide) rfl rfl (Nat.le_of_ble_eq_true rfl) rfl ?_
  intro p e s m args below meth cd C hX hY htab hrt hlk
  refine G.aldn3 C dL_home_0 ?_
  refine G.iconst C 0 dL_home_1 (by decide) ?_
  refine G.aldn0 C dL_home_2 ?_
  refine G.ildn1 C dL_home_3 ?_
  refine G.ildn2 C dL_home_4 ?_
  refine G.xcatchV2 C hX hY [⟨0, 10, 13, 13⟩] ⟨0, 10, 17, 15⟩ [⟨0, 10, 21, 17⟩] htab (fun z hz => by obtain rfl := List.mem_singleton.mp hz; exact ⟨by decide, "java/lang/IndexOutOfBoundsException", (by decide +kernel : Cond.classLink RL 13 "java/lang/IndexOutOfBoundsException" ∈ wsL_home), by decide⟩) (by decide) (by decide) (by decide +kernel : Cond.classLink RL 15 "java/lang/IllegalArgumentException" ∈ wsL_home) (by decide) (k_X3_home_t2 l hst hx ht) (cwV 2 C.1.2.2.2.2 gL_home_X3_home rfl rfl rfl (by decide +kernel) ⟨Nat.le_of_ble_eq_true rfl, Nat.le_of_ble_eq_true rfl⟩) gO_m rfl (Nat.le_of_ble_eq_true rfl) dL_home_5 ⟨by decide, by decide⟩ (fun q9 C => ?_)
  refine G.ast4 C dL_home_17 (by omega) rfl ?_
  refine G.iconst C 2 dL_home_19 (by decide) ?_
  exact G.iretH C (by omega) (by omega) hlk hrt dL_home_20 (by rfl) (by exact fun _ h => h)
set_option maxRecDepth 100000 in
set_option maxHeartbeats 4000000 in
theorem k_L_home_t3 (l : Launch) {E : gEn} {σ : gSt} {π : Nat → Nat} {o : Int64} (hst : l.stackTraces = false) {c0 c1 c2 c9 : cSt} {x t : Int32} (hx : cEx c0 x = true) (ht0 : ¬ t < 0) (ht1 : t ≤ 1439) (hw : ¬ cWhyHome c0 x t = 0) : CtH l yL_home wsL_home ({ frames := 8, cells := 1, slots := 6, locals := 170 } : Room) E [.ref (E.2.1 9 0), .int x, .int t, .ref (E.2.1 11 0)] (gT σ c0 c1 c2 c9) π o (3) (gT σ c0 c1 c2 c9) π o := by
  refine CtH.of (cc := cL_home) (own := RL) (maxL := 5) (ret := (some .int)) [some (.ref (E.2.1 9 0)), some (.int x), some (.int t), some (.ref (E.2.1 11 0)), none] (by decide) rfl rfl (Nat.le_of_ble_eq_true rfl) rfl ?_
  intro p e s m args below meth cd C hX hY htab hrt hlk
  refine G.aldn3 C dL_home_0 ?_
  refine G.iconst C 0 dL_home_1 (by decide) ?_
  refine G.aldn0 C dL_home_2 ?_
  refine G.ildn1 C dL_home_3 ?_
  refine G.ildn2 C dL_home_4 ?_
  refine G.xcatchV2 C hX hY [⟨0, 10, 13, 13⟩, ⟨0, 10, 17, 15⟩] ⟨0, 10, 21, 17⟩ [] htab (fun z hz => by simp only [List.mem_cons, List.not_mem_nil, or_false] at hz; rcases hz with rfl | rfl; exact ⟨by decide, "java/lang/IndexOutOfBoundsException", (by decide +kernel : Cond.classLink RL 13 "java/lang/IndexOutOfBoundsException" ∈ wsL_home), by decide⟩; exact ⟨by decide, "java/lang/IllegalArgumentException", (by decide +kernel : Cond.classLink RL 15 "java/lang/IllegalArgumentException" ∈ wsL_home), by decide⟩) (by decide) (by decide) (by decide +kernel : Cond.classLink RL 17 "java/lang/IllegalStateException" ∈ wsL_home) (by decide) (k_X3_home_t3 l hst hx ht0 ht1 hw) (cwV 2 C.1.2.2.2.2 gL_home_X3_home rfl rfl rfl (by decide +kernel) ⟨Nat.le_of_ble_eq_true rfl, Nat.le_of_ble_eq_true rfl⟩) gO_m rfl (Nat.le_of_ble_eq_true rfl) dL_home_5 ⟨by decide, by decide⟩ (fun q9 C => ?_)
  refine G.ast4 C dL_home_21 (by omega) rfl ?_
  refine G.iconst C 3 dL_home_23 (by decide) ?_
  exact G.iretH C (by omega) (by omega) hlk hrt dL_home_24 (by rfl) (by exact fun _ h => h)
set_option maxRecDepth 100000 in
set_option maxHeartbeats 4000000 in
theorem k_L_append (l : Launch) {E : gEn} {σ : gSt} {π : Nat → Nat} {o : Int64} {c0 c1 c2 c9 : cSt} {x : Int32} {L : Nat} (hx1 : ¬ x < 33) (hx2 : x ≤ 126) (hL : c9 0 7 = nI L) (hl : L < 60) : CtH l yL_append wsL_append ({ frames := 8, cells := 1, slots := 6, locals := 170 } : Room) E [.ref (E.2.1 9 0), .int x, .ref (E.2.1 11 0)] (gT σ c0 c1 c2 c9) π o (0) (gT σ c0 c1 c2 (cW (cW c9 2 L x) 0 7 (nI (L + 1)))) π ((nI (L + 1))).toInt64 := by
  refine CtH.of (cc := cL_append) (own := RL) (maxL := 4) (ret := (some .int)) [some (.ref (E.2.1 9 0)), some (.int x), some (.ref (E.2.1 11 0)), none] (by decide) rfl rfl (Nat.le_of_ble_eq_true rfl) rfl ?_
  intro p e s m args below meth cd C hX hY htab hrt hlk
  refine G.aldn2 C dL_append_0 ?_
  refine G.iconst C 0 dL_append_1 (by decide) ?_
  refine G.aldn0 C dL_append_2 ?_
  refine G.ildn1 C dL_append_3 ?_
  refine G.callVI1 C (k_X3_append l hx1 hx2 hL hl) (cwV 1 C.1.2.2.2.2 gL_append_X3_append rfl rfl rfl (by decide +kernel) ⟨Nat.le_of_ble_eq_true rfl, Nat.le_of_ble_eq_true rfl⟩) gO_m rfl (Nat.le_of_ble_eq_true rfl) dL_append_4 ?_
  refine G.i2l C dL_append_7 ?_
  refine G.lastO C dL_append_8 ?_
  refine G.goto C 18 dL_append_9 (by decide) ?_
  refine G.iconst C 0 dL_append_18 (by decide) ?_
  exact G.iretH C (by omega) (by omega) hlk hrt dL_append_19 (by rfl) (by exact fun _ h => h)
set_option maxRecDepth 100000 in
set_option maxHeartbeats 4000000 in
theorem k_L_append_t1 (l : Launch) {E : gEn} {σ : gSt} {π : Nat → Nat} {o : Int64} (hst : l.stackTraces = false) {c0 c1 c2 c9 : cSt} {x : Int32} (hx : ¬ (¬ x < 33 ∧ x ≤ 126)) : CtH l yL_append wsL_append ({ frames := 8, cells := 1, slots := 6, locals := 170 } : Room) E [.ref (E.2.1 9 0), .int x, .ref (E.2.1 11 0)] (gT σ c0 c1 c2 c9) π o (1) (gT σ c0 c1 c2 c9) π o := by
  refine CtH.of (cc := cL_append) (own := RL) (maxL := 4) (ret := (some .int)) [some (.ref (E.2.1 9 0)), some (.int x), some (.ref (E.2.1 11 0)), none] (by decide) rfl rfl (Nat.le_of_ble_eq_true rfl) rfl ?_
  intro p e s m args below meth cd C hX hY htab hrt hlk
  refine G.aldn2 C dL_append_0 ?_
  refine G.iconst C 0 dL_append_1 (by decide) ?_
  refine G.aldn0 C dL_append_2 ?_
  refine G.ildn1 C dL_append_3 ?_
  refine G.xcatchV1 C hX hY [] ⟨0, 9, 12, 15⟩ [⟨0, 9, 15, 17⟩] htab (fun z hz => by cases hz) (by decide) (by decide) (by decide +kernel : Cond.classLink RL 15 "java/lang/IllegalArgumentException" ∈ wsL_append) (by decide) (k_X3_append_t1 l hst hx) (cwV 1 C.1.2.2.2.2 gL_append_X3_append rfl rfl rfl (by decide +kernel) ⟨Nat.le_of_ble_eq_true rfl, Nat.le_of_ble_eq_true rfl⟩) gO_m rfl (Nat.le_of_ble_eq_true rfl) dL_append_4 ⟨by decide, by decide⟩ (fun q9 C => ?_)
  refine G.astn3 C dL_append_12 (by omega) rfl ?_
  refine G.iconst C 1 dL_append_13 (by decide) ?_
  exact G.iretH C (by omega) (by omega) hlk hrt dL_append_14 (by rfl) (by exact fun _ h => h)
set_option maxRecDepth 100000 in
set_option maxHeartbeats 4000000 in
theorem k_L_append_t2 (l : Launch) {E : gEn} {σ : gSt} {π : Nat → Nat} {o : Int64} (hst : l.stackTraces = false) {c0 c1 c2 c9 : cSt} {x : Int32} (hx1 : ¬ x < 33) (hx2 : x ≤ 126) (hL : c9 0 7 = nI 60) : CtH l yL_append wsL_append ({ frames := 8, cells := 1, slots := 6, locals := 170 } : Room) E [.ref (E.2.1 9 0), .int x, .ref (E.2.1 11 0)] (gT σ c0 c1 c2 c9) π o (2) (gT σ c0 c1 c2 c9) π o := by
  refine CtH.of (cc := cL_append) (own := RL) (maxL := 4) (ret := (some .int)) [some (.ref (E.2.1 9 0)), some (.int x), some (.ref (E.2.1 11 0)), none] (by decide) rfl rfl (Nat.le_of_ble_eq_true rfl) rfl ?_
  intro p e s m args below meth cd C hX hY htab hrt hlk
  refine G.aldn2 C dL_append_0 ?_
  refine G.iconst C 0 dL_append_1 (by decide) ?_
  refine G.aldn0 C dL_append_2 ?_
  refine G.ildn1 C dL_append_3 ?_
  refine G.xcatchV1 C hX hY [⟨0, 9, 12, 15⟩] ⟨0, 9, 15, 17⟩ [] htab (fun z hz => by obtain rfl := List.mem_singleton.mp hz; exact ⟨by decide, "java/lang/IllegalArgumentException", (by decide +kernel : Cond.classLink RL 15 "java/lang/IllegalArgumentException" ∈ wsL_append), by decide⟩) (by decide) (by decide) (by decide +kernel : Cond.classLink RL 17 "java/lang/IllegalStateException" ∈ wsL_append) (by decide) (k_X3_append_t2 l (L := 0) hst hx1 hx2 hL) (cwV 1 C.1.2.2.2.2 gL_append_X3_append rfl rfl rfl (by decide +kernel) ⟨Nat.le_of_ble_eq_true rfl, Nat.le_of_ble_eq_true rfl⟩) gO_m rfl (Nat.le_of_ble_eq_true rfl) dL_append_4 ⟨by decide, by decide⟩ (fun q9 C => ?_)
  refine G.astn3 C dL_append_15 (by omega) rfl ?_
  refine G.iconst C 2 dL_append_16 (by decide) ?_
  exact G.iretH C (by omega) (by omega) hlk hrt dL_append_17 (by rfl) (by exact fun _ h => h)
set_option maxRecDepth 100000 in
set_option maxHeartbeats 4000000 in
theorem k_L_pass (l : Launch) {E : gEn} {σ : gSt} {π : Nat → Nat} {o : Int64} {c0 c1 c2 c9 : cSt} {r : Int32} {d0 d9 dF : cSt} {L : Nat} (hL : c9 0 7 = nI L) (h60 : L ≤ 60) (hF : (nI L, dF) = tFE L 0 L (rBegin c9)) (hD : rDone dF = true) (hF7 : dF 0 7 = nI L) {sv : Nat} (hs : dF 0 5 = nI sv) (hle : sv ≤ 6) (hπ : ∀ k, k < 6 → 3 ≤ π k ∧ π k < 9) (hz : tEOK (L + 1) 0 L (cStop c0 (-1) (-1)) (rBegin (sv9 dF sv))) (hr : (r, d0, d9) = tEL (L + 1) 0 L (cStop c0 (-1) (-1)) (rBegin (sv9 dF sv)) 0) : CtH l yL_pass wsL_pass ({ frames := 8, cells := 1, slots := 6, locals := 204 } : Room) E [.ref (E.2.1 9 0), .ref (E.2.1 11 0)] (gT σ c0 c1 c2 c9) π o (0) (gT (svS σ π sv c0) d0 c1 c2 (cW d9 0 7 0)) (svP π sv) ((r)).toInt64 := by
  refine CtH.of (cc := cL_pass) (own := RL) (maxL := 3) (ret := (some .int)) [some (.ref (E.2.1 9 0)), some (.ref (E.2.1 11 0)), none] (by decide) rfl rfl (Nat.le_of_ble_eq_true rfl) rfl ?_
  intro p e s m args below meth cd C hX hY htab hrt hlk
  refine G.aldn1 C dL_pass_0 ?_
  refine G.iconst C 0 dL_pass_1 (by decide) ?_
  refine G.aldn0 C dL_pass_2 ?_
  refine G.callVI0 C (k_X3_pass l hL h60 hF hD hF7 hs hle hπ hz hr) (cwV 0 C.1.2.2.2.2 gL_pass_X3_pass rfl rfl rfl (by decide +kernel) ⟨Nat.le_of_ble_eq_true rfl, Nat.le_of_ble_eq_true rfl⟩) gO_m rfl (Nat.le_of_ble_eq_true rfl) dL_pass_3 ?_
  refine G.i2l C dL_pass_6 ?_
  refine G.lastO C dL_pass_7 ?_
  refine G.goto C 14 dL_pass_8 (by decide) ?_
  refine G.iconst C 0 dL_pass_14 (by decide) ?_
  exact G.iretH C (by omega) (by omega) hlk hrt dL_pass_15 (by rfl) (by exact fun _ h => h)
set_option maxRecDepth 100000 in
set_option maxHeartbeats 4000000 in
theorem k_L_pass_t1 (l : Launch) {E : gEn} {σ : gSt} {π : Nat → Nat} {o : Int64} (hst : l.stackTraces = false) {c0 c1 c2 c9 : cSt} {dF : cSt} {r : Int32} {L : Nat} (hL : c9 0 7 = nI L) (h60 : L ≤ 60) (hF : (r, dF) = tFE L 0 L (rBegin c9)) (hF7 : dF 0 7 = nI L) (hr : r < nI L) : CtH l yL_pass wsL_pass ({ frames := 8, cells := 1, slots := 6, locals := 204 } : Room) E [.ref (E.2.1 9 0), .ref (E.2.1 11 0)] (gT σ c0 c1 c2 c9) π o (1) (gT σ c0 c1 c2 dF) π o := by
  refine CtH.of (cc := cL_pass) (own := RL) (maxL := 3) (ret := (some .int)) [some (.ref (E.2.1 9 0)), some (.ref (E.2.1 11 0)), none] (by decide) rfl rfl (Nat.le_of_ble_eq_true rfl) rfl ?_
  intro p e s m args below meth cd C hX hY htab hrt hlk
  refine G.aldn1 C dL_pass_0 ?_
  refine G.iconst C 0 dL_pass_1 (by decide) ?_
  refine G.aldn0 C dL_pass_2 ?_
  refine G.xcatchV0 C hX hY [] ⟨0, 8, 11, 15⟩ [] htab (fun z hz => by cases hz) (by decide) (by decide) (by decide +kernel : Cond.classLink RL 15 "java/lang/IllegalArgumentException" ∈ wsL_pass) (by decide) (k_X3_pass_t1 l hst hL h60 hF hF7 hr) (cwV 0 C.1.2.2.2.2 gL_pass_X3_pass rfl rfl rfl (by decide +kernel) ⟨Nat.le_of_ble_eq_true rfl, Nat.le_of_ble_eq_true rfl⟩) gO_m rfl (Nat.le_of_ble_eq_true rfl) dL_pass_3 ⟨by decide, by decide⟩ (fun q9 C => ?_)
  refine G.astn2 C dL_pass_11 (by omega) rfl ?_
  refine G.iconst C 1 dL_pass_12 (by decide) ?_
  exact G.iretH C (by omega) (by omega) hlk hrt dL_pass_13 (by rfl) (by exact fun _ h => h)
set_option maxRecDepth 100000 in
set_option maxHeartbeats 4000000 in
theorem k_L_pass_t2 (l : Launch) {E : gEn} {σ : gSt} {π : Nat → Nat} {o : Int64} (hst : l.stackTraces = false) {c0 c1 c2 c9 : cSt} {dF : cSt} {r : Int32} {L : Nat} (hL : c9 0 7 = nI L) (h60 : L ≤ 60) (hF : (r, dF) = tFE L 0 L (rBegin c9)) (hF7 : dF 0 7 = nI L) (hr : ¬ r < nI L) (hD : rDone dF = false) : CtH l yL_pass wsL_pass ({ frames := 8, cells := 1, slots := 6, locals := 204 } : Room) E [.ref (E.2.1 9 0), .ref (E.2.1 11 0)] (gT σ c0 c1 c2 c9) π o (1) (gT σ c0 c1 c2 dF) π o := by
  refine CtH.of (cc := cL_pass) (own := RL) (maxL := 3) (ret := (some .int)) [some (.ref (E.2.1 9 0)), some (.ref (E.2.1 11 0)), none] (by decide) rfl rfl (Nat.le_of_ble_eq_true rfl) rfl ?_
  intro p e s m args below meth cd C hX hY htab hrt hlk
  refine G.aldn1 C dL_pass_0 ?_
  refine G.iconst C 0 dL_pass_1 (by decide) ?_
  refine G.aldn0 C dL_pass_2 ?_
  refine G.xcatchV0 C hX hY [] ⟨0, 8, 11, 15⟩ [] htab (fun z hz => by cases hz) (by decide) (by decide) (by decide +kernel : Cond.classLink RL 15 "java/lang/IllegalArgumentException" ∈ wsL_pass) (by decide) (k_X3_pass_t2 l hst hL h60 hF hF7 hr hD) (cwV 0 C.1.2.2.2.2 gL_pass_X3_pass rfl rfl rfl (by decide +kernel) ⟨Nat.le_of_ble_eq_true rfl, Nat.le_of_ble_eq_true rfl⟩) gO_m rfl (Nat.le_of_ble_eq_true rfl) dL_pass_3 ⟨by decide, by decide⟩ (fun q9 C => ?_)
  refine G.astn2 C dL_pass_11 (by omega) rfl ?_
  refine G.iconst C 1 dL_pass_12 (by decide) ?_
  exact G.iretH C (by omega) (by omega) hlk hrt dL_pass_13 (by rfl) (by exact fun _ h => h)
set_option maxRecDepth 100000 in
set_option maxHeartbeats 4000000 in
theorem k_L_stopped (l : Launch) {E : gEn} {σ : gSt} {π : Nat → Nat} {o : Int64} {c0 c1 c2 c9 : cSt} {x : Int32} (hx0 : ¬ x < 0) (hx2 : x < 2) : CtH l yL_stopped wsL_stopped ({ frames := 8, cells := 1, slots := 6, locals := 170 } : Room) E [.ref (E.2.1 9 0), .int x, .ref (E.2.1 11 0)] (gT σ c0 c1 c2 c9) π o (0) (gT σ c0 c1 c2 c9) π ((c0 16 (ix x))).toInt64 := by
  refine CtH.of (cc := cL_stopped) (own := RL) (maxL := 4) (ret := (some .int)) [some (.ref (E.2.1 9 0)), some (.int x), some (.ref (E.2.1 11 0)), none] (by decide) rfl rfl (Nat.le_of_ble_eq_true rfl) rfl ?_
  intro p e s m args below meth cd C hX hY htab hrt hlk
  refine G.aldn2 C dL_stopped_0 ?_
  refine G.iconst C 0 dL_stopped_1 (by decide) ?_
  refine G.aldn0 C dL_stopped_2 ?_
  refine G.ildn1 C dL_stopped_3 ?_
  refine G.callVI1 C (k_X3_stopped l hx0 hx2) (cwV 1 C.1.2.2.2.2 gL_stopped_X3_stopped rfl rfl rfl (by decide +kernel) ⟨Nat.le_of_ble_eq_true rfl, Nat.le_of_ble_eq_true rfl⟩) gO_m rfl (Nat.le_of_ble_eq_true rfl) dL_stopped_4 ?_
  refine G.i2l C dL_stopped_7 ?_
  refine G.lastO C dL_stopped_8 ?_
  refine G.goto C 15 dL_stopped_9 (by decide) ?_
  refine G.iconst C 0 dL_stopped_15 (by decide) ?_
  exact G.iretH C (by omega) (by omega) hlk hrt dL_stopped_16 (by rfl) (by exact fun _ h => h)
set_option maxRecDepth 100000 in
set_option maxHeartbeats 4000000 in
theorem k_L_stopped_t (l : Launch) {E : gEn} {σ : gSt} {π : Nat → Nat} {o : Int64} (hst : l.stackTraces = false) {c0 c1 c2 c9 : cSt} {x : Int32} (hx : ¬ (¬ x < 0 ∧ x < 2)) : CtH l yL_stopped wsL_stopped ({ frames := 8, cells := 1, slots := 6, locals := 170 } : Room) E [.ref (E.2.1 9 0), .int x, .ref (E.2.1 11 0)] (gT σ c0 c1 c2 c9) π o (1) (gT σ c0 c1 c2 c9) π o := by
  refine CtH.of (cc := cL_stopped) (own := RL) (maxL := 4) (ret := (some .int)) [some (.ref (E.2.1 9 0)), some (.int x), some (.ref (E.2.1 11 0)), none] (by decide) rfl rfl (Nat.le_of_ble_eq_true rfl) rfl ?_
  intro p e s m args below meth cd C hX hY htab hrt hlk
  refine G.aldn2 C dL_stopped_0 ?_
  refine G.iconst C 0 dL_stopped_1 (by decide) ?_
  refine G.aldn0 C dL_stopped_2 ?_
  refine G.ildn1 C dL_stopped_3 ?_
  refine G.xcatchV1 C hX hY [] ⟨0, 9, 12, 15⟩ [] htab (fun z hz => by cases hz) (by decide) (by decide) (by decide +kernel : Cond.classLink RL 15 "java/lang/IllegalArgumentException" ∈ wsL_stopped) (by decide) (k_X3_stopped_t l hst hx) (cwV 1 C.1.2.2.2.2 gL_stopped_X3_stopped rfl rfl rfl (by decide +kernel) ⟨Nat.le_of_ble_eq_true rfl, Nat.le_of_ble_eq_true rfl⟩) gO_m rfl (Nat.le_of_ble_eq_true rfl) dL_stopped_4 ⟨by decide, by decide⟩ (fun q9 C => ?_)
  refine G.astn3 C dL_stopped_12 (by omega) rfl ?_
  refine G.iconst C 1 dL_stopped_13 (by decide) ?_
  exact G.iretH C (by omega) (by omega) hlk hrt dL_stopped_14 (by rfl) (by exact fun _ h => h)
set_option maxRecDepth 100000 in
set_option maxHeartbeats 4000000 in
theorem k_L_undo (l : Launch) {E : gEn} {σ : gSt} {π : Nat → Nat} {o : Int64} {c0 c1 c2 c9 : cSt} {sv : Nat} (hs : c9 0 5 = nI (sv + 1)) (hle : sv < 6) (hπ : ∀ k, k < 6 → 3 ≤ π k ∧ π k < 9) : CtH l yL_undo wsL_undo ({ frames := 8, cells := 1, slots := 6, locals := 170 } : Room) E [.ref (E.2.1 9 0), .ref (E.2.1 11 0)] (gT σ c0 c1 c2 c9) π o (0) (gT σ (σ (π sv)) c1 c2 (cW c9 0 5 (nI sv))) π ((nI sv)).toInt64 := by
  refine CtH.of (cc := cL_undo) (own := RL) (maxL := 3) (ret := (some .int)) [some (.ref (E.2.1 9 0)), some (.ref (E.2.1 11 0)), none] (by decide) rfl rfl (Nat.le_of_ble_eq_true rfl) rfl ?_
  intro p e s m args below meth cd C hX hY htab hrt hlk
  refine G.aldn1 C dL_undo_0 ?_
  refine G.iconst C 0 dL_undo_1 (by decide) ?_
  refine G.aldn0 C dL_undo_2 ?_
  refine G.callVI0 C (k_X3_undo l hs hle hπ) (cwV 0 C.1.2.2.2.2 gL_undo_X3_undo rfl rfl rfl (by decide +kernel) ⟨Nat.le_of_ble_eq_true rfl, Nat.le_of_ble_eq_true rfl⟩) gO_m rfl (Nat.le_of_ble_eq_true rfl) dL_undo_3 ?_
  refine G.i2l C dL_undo_6 ?_
  refine G.lastO C dL_undo_7 ?_
  refine G.goto C 14 dL_undo_8 (by decide) ?_
  refine G.iconst C 0 dL_undo_14 (by decide) ?_
  exact G.iretH C (by omega) (by omega) hlk hrt dL_undo_15 (by rfl) (by exact fun _ h => h)
set_option maxRecDepth 100000 in
set_option maxHeartbeats 4000000 in
theorem k_L_undo_t (l : Launch) {E : gEn} {σ : gSt} {π : Nat → Nat} {o : Int64} (hst : l.stackTraces = false) {c0 c1 c2 c9 : cSt} (hs : c9 0 5 = 0) : CtH l yL_undo wsL_undo ({ frames := 8, cells := 1, slots := 6, locals := 170 } : Room) E [.ref (E.2.1 9 0), .ref (E.2.1 11 0)] (gT σ c0 c1 c2 c9) π o (1) (gT σ c0 c1 c2 c9) π o := by
  refine CtH.of (cc := cL_undo) (own := RL) (maxL := 3) (ret := (some .int)) [some (.ref (E.2.1 9 0)), some (.ref (E.2.1 11 0)), none] (by decide) rfl rfl (Nat.le_of_ble_eq_true rfl) rfl ?_
  intro p e s m args below meth cd C hX hY htab hrt hlk
  refine G.aldn1 C dL_undo_0 ?_
  refine G.iconst C 0 dL_undo_1 (by decide) ?_
  refine G.aldn0 C dL_undo_2 ?_
  refine G.xcatchV0 C hX hY [] ⟨0, 8, 11, 17⟩ [] htab (fun z hz => by cases hz) (by decide) (by decide) (by decide +kernel : Cond.classLink RL 17 "java/lang/IllegalStateException" ∈ wsL_undo) (by decide) (k_X3_undo_t l hst hs) (cwV 0 C.1.2.2.2.2 gL_undo_X3_undo rfl rfl rfl (by decide +kernel) ⟨Nat.le_of_ble_eq_true rfl, Nat.le_of_ble_eq_true rfl⟩) gO_m rfl (Nat.le_of_ble_eq_true rfl) dL_undo_3 ⟨by decide, by decide⟩ (fun q9 C => ?_)
  refine G.astn2 C dL_undo_11 (by omega) rfl ?_
  refine G.iconst C 1 dL_undo_12 (by decide) ?_
  exact G.iretH C (by omega) (by omega) hlk hrt dL_undo_13 (by rfl) (by exact fun _ h => h)
set_option maxRecDepth 100000 in
set_option maxHeartbeats 4000000 in
theorem k_L_restore (l : Launch) {E : gEn} {σ : gSt} {π : Nat → Nat} {o : Int64} {c0 c1 c2 c9 : cSt} (hk : ¬ c9 0 3 = 0) {sv : Nat} (hs : c9 0 5 = nI sv) (hle : sv ≤ 6) (hπ : ∀ k, k < 6 → 3 ≤ π k ∧ π k < 9) : CtH l yL_restore wsL_restore ({ frames := 8, cells := 1, slots := 6, locals := 170 } : Room) E [.ref (E.2.1 9 0), .ref (E.2.1 11 0)] (gT σ c0 c1 c2 c9) π o (0) (gT (svS σ π sv c0) c2 c1 c2 (sv9 c9 sv)) (svP π sv) ((c2 0 6)).toInt64 := by
  refine CtH.of (cc := cL_restore) (own := RL) (maxL := 3) (ret := (some .int)) [some (.ref (E.2.1 9 0)), some (.ref (E.2.1 11 0)), none] (by decide) rfl rfl (Nat.le_of_ble_eq_true rfl) rfl ?_
  intro p e s m args below meth cd C hX hY htab hrt hlk
  refine G.aldn1 C dL_restore_0 ?_
  refine G.iconst C 0 dL_restore_1 (by decide) ?_
  refine G.aldn0 C dL_restore_2 ?_
  refine G.callVI0 C (k_X3_restore l hk hs hle hπ) (cwV 0 C.1.2.2.2.2 gL_restore_X3_restore rfl rfl rfl (by decide +kernel) ⟨Nat.le_of_ble_eq_true rfl, Nat.le_of_ble_eq_true rfl⟩) gO_m rfl (Nat.le_of_ble_eq_true rfl) dL_restore_3 ?_
  refine G.i2l C dL_restore_6 ?_
  refine G.lastO C dL_restore_7 ?_
  refine G.goto C 14 dL_restore_8 (by decide) ?_
  refine G.iconst C 0 dL_restore_14 (by decide) ?_
  exact G.iretH C (by omega) (by omega) hlk hrt dL_restore_15 (by rfl) (by exact fun _ h => h)
set_option maxRecDepth 100000 in
set_option maxHeartbeats 4000000 in
theorem k_L_restore_t (l : Launch) {E : gEn} {σ : gSt} {π : Nat → Nat} {o : Int64} (hst : l.stackTraces = false) {c0 c1 c2 c9 : cSt} (hk : c9 0 3 = 0) : CtH l yL_restore wsL_restore ({ frames := 8, cells := 1, slots := 6, locals := 170 } : Room) E [.ref (E.2.1 9 0), .ref (E.2.1 11 0)] (gT σ c0 c1 c2 c9) π o (1) (gT σ c0 c1 c2 c9) π o := by
  refine CtH.of (cc := cL_restore) (own := RL) (maxL := 3) (ret := (some .int)) [some (.ref (E.2.1 9 0)), some (.ref (E.2.1 11 0)), none] (by decide) rfl rfl (Nat.le_of_ble_eq_true rfl) rfl ?_
  intro p e s m args below meth cd C hX hY htab hrt hlk
  refine G.aldn1 C dL_restore_0 ?_
  refine G.iconst C 0 dL_restore_1 (by decide) ?_
  refine G.aldn0 C dL_restore_2 ?_
  refine G.xcatchV0 C hX hY [] ⟨0, 8, 11, 17⟩ [] htab (fun z hz => by cases hz) (by decide) (by decide) (by decide +kernel : Cond.classLink RL 17 "java/lang/IllegalStateException" ∈ wsL_restore) (by decide) (k_X3_restore_t l hst hk) (cwV 0 C.1.2.2.2.2 gL_restore_X3_restore rfl rfl rfl (by decide +kernel) ⟨Nat.le_of_ble_eq_true rfl, Nat.le_of_ble_eq_true rfl⟩) gO_m rfl (Nat.le_of_ble_eq_true rfl) dL_restore_3 ⟨by decide, by decide⟩ (fun q9 C => ?_)
  refine G.astn2 C dL_restore_11 (by omega) rfl ?_
  refine G.iconst C 1 dL_restore_12 (by decide) ?_
  exact G.iretH C (by omega) (by omega) hlk hrt dL_restore_13 (by rfl) (by exact fun _ h => h)
set_option maxRecDepth 100000 in
set_option maxHeartbeats 4000000 in
theorem k_L_dove (l : Launch) {E : gEn} {σ : gSt} {π : Nat → Nat} {o : Int64} {c0 c1 c2 c9 : cSt} {x y : Int32} (hx : cEx c0 x = true) (hy0 : ¬ y < 0) (hy8 : y < 8) : CtH l yL_dove wsL_dove ({ frames := 8, cells := 1, slots := 6, locals := 170 } : Room) E [.ref (E.2.1 9 0), .int x, .int y, .ref (E.2.1 11 0)] (gT σ c0 c1 c2 c9) π o (0) (gT σ c0 c1 c2 c9) π ((c0 (2 + ix y) (ix x))).toInt64 := by
  refine CtH.of (cc := cL_dove) (own := RL) (maxL := 5) (ret := (some .int)) [some (.ref (E.2.1 9 0)), some (.int x), some (.int y), some (.ref (E.2.1 11 0)), none] (by decide) rfl rfl (Nat.le_of_ble_eq_true rfl) rfl ?_
  intro p e s m args below meth cd C hX hY htab hrt hlk
  refine G.aldn3 C dL_dove_0 ?_
  refine G.iconst C 0 dL_dove_1 (by decide) ?_
  refine G.aldn0 C dL_dove_2 ?_
  refine G.ildn1 C dL_dove_3 ?_
  refine G.ildn2 C dL_dove_4 ?_
  refine G.callVI2 C (k_X3_dove l hx hy0 hy8) (cwV 2 C.1.2.2.2.2 gL_dove_X3_dove rfl rfl rfl (by decide +kernel) ⟨Nat.le_of_ble_eq_true rfl, Nat.le_of_ble_eq_true rfl⟩) gO_m rfl (Nat.le_of_ble_eq_true rfl) dL_dove_5 ?_
  refine G.i2l C dL_dove_8 ?_
  refine G.lastO C dL_dove_9 ?_
  refine G.goto C 21 dL_dove_10 (by decide) ?_
  refine G.iconst C 0 dL_dove_21 (by decide) ?_
  exact G.iretH C (by omega) (by omega) hlk hrt dL_dove_22 (by rfl) (by exact fun _ h => h)
set_option maxRecDepth 100000 in
set_option maxHeartbeats 4000000 in
theorem k_L_dove_t1 (l : Launch) {E : gEn} {σ : gSt} {π : Nat → Nat} {o : Int64} (hst : l.stackTraces = false) {c0 c1 c2 c9 : cSt} {x y : Int32} (hx : cEx c0 x = false) : CtH l yL_dove wsL_dove ({ frames := 8, cells := 1, slots := 6, locals := 170 } : Room) E [.ref (E.2.1 9 0), .int x, .int y, .ref (E.2.1 11 0)] (gT σ c0 c1 c2 c9) π o (1) (gT σ c0 c1 c2 c9) π o := by
  refine CtH.of (cc := cL_dove) (own := RL) (maxL := 5) (ret := (some .int)) [some (.ref (E.2.1 9 0)), some (.int x), some (.int y), some (.ref (E.2.1 11 0)), none] (by decide) rfl rfl (Nat.le_of_ble_eq_true rfl) rfl ?_
  intro p e s m args below meth cd C hX hY htab hrt hlk
  refine G.aldn3 C dL_dove_0 ?_
  refine G.iconst C 0 dL_dove_1 (by decide) ?_
  refine G.aldn0 C dL_dove_2 ?_
  refine G.ildn1 C dL_dove_3 ?_
  refine G.ildn2 C dL_dove_4 ?_
  refine G.xcatchV2 C hX hY [] ⟨0, 10, 13, 13⟩ [⟨0, 10, 17, 15⟩] htab (fun z hz => by cases hz) (by decide) (by decide) (by decide +kernel : Cond.classLink RL 13 "java/lang/IndexOutOfBoundsException" ∈ wsL_dove) (by decide) (k_X3_dove_t1 l hst hx) (cwV 2 C.1.2.2.2.2 gL_dove_X3_dove rfl rfl rfl (by decide +kernel) ⟨Nat.le_of_ble_eq_true rfl, Nat.le_of_ble_eq_true rfl⟩) gO_m rfl (Nat.le_of_ble_eq_true rfl) dL_dove_5 ⟨by decide, by decide⟩ (fun q9 C => ?_)
  refine G.ast4 C dL_dove_13 (by omega) rfl ?_
  refine G.iconst C 1 dL_dove_15 (by decide) ?_
  exact G.iretH C (by omega) (by omega) hlk hrt dL_dove_16 (by rfl) (by exact fun _ h => h)
set_option maxRecDepth 100000 in
set_option maxHeartbeats 4000000 in
theorem k_L_dove_t2 (l : Launch) {E : gEn} {σ : gSt} {π : Nat → Nat} {o : Int64} (hst : l.stackTraces = false) {c0 c1 c2 c9 : cSt} {x y : Int32} (hx : cEx c0 x = true) (hy : ¬ (¬ y < 0 ∧ y < 8)) : CtH l yL_dove wsL_dove ({ frames := 8, cells := 1, slots := 6, locals := 170 } : Room) E [.ref (E.2.1 9 0), .int x, .int y, .ref (E.2.1 11 0)] (gT σ c0 c1 c2 c9) π o (2) (gT σ c0 c1 c2 c9) π o := by
  refine CtH.of (cc := cL_dove) (own := RL) (maxL := 5) (ret := (some .int)) [some (.ref (E.2.1 9 0)), some (.int x), some (.int y), some (.ref (E.2.1 11 0)), none] (by decide) rfl rfl (Nat.le_of_ble_eq_true rfl) rfl ?_
  intro p e s m args below meth cd C hX hY htab hrt hlk
  refine G.aldn3 C dL_dove_0 ?_
  refine G.iconst C 0 dL_dove_1 (by decide) ?_
  refine G.aldn0 C dL_dove_2 ?_
  refine G.ildn1 C dL_dove_3 ?_
  refine G.ildn2 C dL_dove_4 ?_
  refine G.xcatchV2 C hX hY [⟨0, 10, 13, 13⟩] ⟨0, 10, 17, 15⟩ [] htab (fun z hz => by obtain rfl := List.mem_singleton.mp hz; exact ⟨by decide, "java/lang/IndexOutOfBoundsException", (by decide +kernel : Cond.classLink RL 13 "java/lang/IndexOutOfBoundsException" ∈ wsL_dove), by decide⟩) (by decide) (by decide) (by decide +kernel : Cond.classLink RL 15 "java/lang/IllegalArgumentException" ∈ wsL_dove) (by decide) (k_X3_dove_t2 l hst hx hy) (cwV 2 C.1.2.2.2.2 gL_dove_X3_dove rfl rfl rfl (by decide +kernel) ⟨Nat.le_of_ble_eq_true rfl, Nat.le_of_ble_eq_true rfl⟩) gO_m rfl (Nat.le_of_ble_eq_true rfl) dL_dove_5 ⟨by decide, by decide⟩ (fun q9 C => ?_)
  refine G.ast4 C dL_dove_17 (by omega) rfl ?_
  refine G.iconst C 2 dL_dove_19 (by decide) ?_
  exact G.iretH C (by omega) (by omega) hlk hrt dL_dove_20 (by rfl) (by exact fun _ h => h)
set_option maxRecDepth 100000 in
set_option maxHeartbeats 4000000 in
theorem k_L_hole (l : Launch) {E : gEn} {σ : gSt} {π : Nat → Nat} {o : Int64} {c0 c1 c2 c9 : cSt} {x y : Int32} (hx : hHole x = true) (hy0 : ¬ y < 0) (hy3 : y < 3) : CtH l yL_hole wsL_hole ({ frames := 8, cells := 1, slots := 6, locals := 170 } : Room) E [.ref (E.2.1 9 0), .int x, .int y, .ref (E.2.1 11 0)] (gT σ c0 c1 c2 c9) π o (0) (gT σ c0 c1 c2 c9) π ((c0 (11 + ix y) (ix x))).toInt64 := by
  refine CtH.of (cc := cL_hole) (own := RL) (maxL := 5) (ret := (some .int)) [some (.ref (E.2.1 9 0)), some (.int x), some (.int y), some (.ref (E.2.1 11 0)), none] (by decide) rfl rfl (Nat.le_of_ble_eq_true rfl) rfl ?_
  intro p e s m args below meth cd C hX hY htab hrt hlk
  refine G.aldn3 C dL_hole_0 ?_
  refine G.iconst C 0 dL_hole_1 (by decide) ?_
  refine G.aldn0 C dL_hole_2 ?_
  refine G.ildn1 C dL_hole_3 ?_
  refine G.ildn2 C dL_hole_4 ?_
  refine G.callVI2 C (k_X3_hole l hx hy0 hy3) (cwV 2 C.1.2.2.2.2 gL_hole_X3_hole rfl rfl rfl (by decide +kernel) ⟨Nat.le_of_ble_eq_true rfl, Nat.le_of_ble_eq_true rfl⟩) gO_m rfl (Nat.le_of_ble_eq_true rfl) dL_hole_5 ?_
  refine G.i2l C dL_hole_8 ?_
  refine G.lastO C dL_hole_9 ?_
  refine G.goto C 21 dL_hole_10 (by decide) ?_
  refine G.iconst C 0 dL_hole_21 (by decide) ?_
  exact G.iretH C (by omega) (by omega) hlk hrt dL_hole_22 (by rfl) (by exact fun _ h => h)
set_option maxRecDepth 100000 in
set_option maxHeartbeats 4000000 in
theorem k_L_hole_t1 (l : Launch) {E : gEn} {σ : gSt} {π : Nat → Nat} {o : Int64} (hst : l.stackTraces = false) {c0 c1 c2 c9 : cSt} {x y : Int32} (hx : hHole x = false) : CtH l yL_hole wsL_hole ({ frames := 8, cells := 1, slots := 6, locals := 170 } : Room) E [.ref (E.2.1 9 0), .int x, .int y, .ref (E.2.1 11 0)] (gT σ c0 c1 c2 c9) π o (1) (gT σ c0 c1 c2 c9) π o := by
  refine CtH.of (cc := cL_hole) (own := RL) (maxL := 5) (ret := (some .int)) [some (.ref (E.2.1 9 0)), some (.int x), some (.int y), some (.ref (E.2.1 11 0)), none] (by decide) rfl rfl (Nat.le_of_ble_eq_true rfl) rfl ?_
  intro p e s m args below meth cd C hX hY htab hrt hlk
  refine G.aldn3 C dL_hole_0 ?_
  refine G.iconst C 0 dL_hole_1 (by decide) ?_
  refine G.aldn0 C dL_hole_2 ?_
  refine G.ildn1 C dL_hole_3 ?_
  refine G.ildn2 C dL_hole_4 ?_
  refine G.xcatchV2 C hX hY [] ⟨0, 10, 13, 13⟩ [⟨0, 10, 17, 15⟩] htab (fun z hz => by cases hz) (by decide) (by decide) (by decide +kernel : Cond.classLink RL 13 "java/lang/IndexOutOfBoundsException" ∈ wsL_hole) (by decide) (k_X3_hole_t1 l hst hx) (cwV 2 C.1.2.2.2.2 gL_hole_X3_hole rfl rfl rfl (by decide +kernel) ⟨Nat.le_of_ble_eq_true rfl, Nat.le_of_ble_eq_true rfl⟩) gO_m rfl (Nat.le_of_ble_eq_true rfl) dL_hole_5 ⟨by decide, by decide⟩ (fun q9 C => ?_)
  refine G.ast4 C dL_hole_13 (by omega) rfl ?_
  refine G.iconst C 1 dL_hole_15 (by decide) ?_
  exact G.iretH C (by omega) (by omega) hlk hrt dL_hole_16 (by rfl) (by exact fun _ h => h)
set_option maxRecDepth 100000 in
set_option maxHeartbeats 4000000 in
theorem k_L_hole_t2 (l : Launch) {E : gEn} {σ : gSt} {π : Nat → Nat} {o : Int64} (hst : l.stackTraces = false) {c0 c1 c2 c9 : cSt} {x y : Int32} (hx : hHole x = true) (hy : ¬ (¬ y < 0 ∧ y < 3)) : CtH l yL_hole wsL_hole ({ frames := 8, cells := 1, slots := 6, locals := 170 } : Room) E [.ref (E.2.1 9 0), .int x, .int y, .ref (E.2.1 11 0)] (gT σ c0 c1 c2 c9) π o (2) (gT σ c0 c1 c2 c9) π o := by
  refine CtH.of (cc := cL_hole) (own := RL) (maxL := 5) (ret := (some .int)) [some (.ref (E.2.1 9 0)), some (.int x), some (.int y), some (.ref (E.2.1 11 0)), none] (by decide) rfl rfl (Nat.le_of_ble_eq_true rfl) rfl ?_
  intro p e s m args below meth cd C hX hY htab hrt hlk
  refine G.aldn3 C dL_hole_0 ?_
  refine G.iconst C 0 dL_hole_1 (by decide) ?_
  refine G.aldn0 C dL_hole_2 ?_
  refine G.ildn1 C dL_hole_3 ?_
  refine G.ildn2 C dL_hole_4 ?_
  refine G.xcatchV2 C hX hY [⟨0, 10, 13, 13⟩] ⟨0, 10, 17, 15⟩ [] htab (fun z hz => by obtain rfl := List.mem_singleton.mp hz; exact ⟨by decide, "java/lang/IndexOutOfBoundsException", (by decide +kernel : Cond.classLink RL 13 "java/lang/IndexOutOfBoundsException" ∈ wsL_hole), by decide⟩) (by decide) (by decide) (by decide +kernel : Cond.classLink RL 15 "java/lang/IllegalArgumentException" ∈ wsL_hole) (by decide) (k_X3_hole_t2 l hst hx hy) (cwV 2 C.1.2.2.2.2 gL_hole_X3_hole rfl rfl rfl (by decide +kernel) ⟨Nat.le_of_ble_eq_true rfl, Nat.le_of_ble_eq_true rfl⟩) gO_m rfl (Nat.le_of_ble_eq_true rfl) dL_hole_5 ⟨by decide, by decide⟩ (fun q9 C => ?_)
  refine G.ast4 C dL_hole_17 (by omega) rfl ?_
  refine G.iconst C 2 dL_hole_19 (by decide) ?_
  exact G.iretH C (by omega) (by omega) hlk hrt dL_hole_20 (by rfl) (by exact fun _ h => h)
set_option maxRecDepth 100000 in
set_option maxHeartbeats 4000000 in
theorem k_L_count (l : Launch) {E : gEn} {σ : gSt} {π : Nat → Nat} {o : Int64} {c0 c1 c2 c9 : cSt} {x : Int32} (hx0 : ¬ x < 0) (hx : x < 18) : CtH l yL_count wsL_count ({ frames := 8, cells := 1, slots := 6, locals := 170 } : Room) E [.ref (E.2.1 9 0), .int x, .ref (E.2.1 11 0)] (gT σ c0 c1 c2 c9) π o (0) (gT σ c0 c1 c2 c9) π ((if x = 17 then c9 0 5 else cNum c0 x)).toInt64 := by
  refine CtH.of (cc := cL_count) (own := RL) (maxL := 4) (ret := (some .int)) [some (.ref (E.2.1 9 0)), some (.int x), some (.ref (E.2.1 11 0)), none] (by decide) rfl rfl (Nat.le_of_ble_eq_true rfl) rfl ?_
  intro p e s m args below meth cd C hX hY htab hrt hlk
  refine G.aldn2 C dL_count_0 ?_
  refine G.iconst C 0 dL_count_1 (by decide) ?_
  refine G.aldn0 C dL_count_2 ?_
  refine G.ildn1 C dL_count_3 ?_
  refine G.callVI1 C (k_X3_count l hx0 hx) (cwV 1 C.1.2.2.2.2 gL_count_X3_count rfl rfl rfl (by decide +kernel) ⟨Nat.le_of_ble_eq_true rfl, Nat.le_of_ble_eq_true rfl⟩) gO_m rfl (Nat.le_of_ble_eq_true rfl) dL_count_4 ?_
  refine G.i2l C dL_count_7 ?_
  refine G.lastO C dL_count_8 ?_
  refine G.goto C 15 dL_count_9 (by decide) ?_
  refine G.iconst C 0 dL_count_15 (by decide) ?_
  exact G.iretH C (by omega) (by omega) hlk hrt dL_count_16 (by rfl) (by exact fun _ h => h)
set_option maxRecDepth 100000 in
set_option maxHeartbeats 4000000 in
theorem k_L_count_t (l : Launch) {E : gEn} {σ : gSt} {π : Nat → Nat} {o : Int64} (hst : l.stackTraces = false) {c0 c1 c2 c9 : cSt} {x : Int32} (hx : ¬ (¬ x < 0 ∧ x < 18)) : CtH l yL_count wsL_count ({ frames := 8, cells := 1, slots := 6, locals := 170 } : Room) E [.ref (E.2.1 9 0), .int x, .ref (E.2.1 11 0)] (gT σ c0 c1 c2 c9) π o (1) (gT σ c0 c1 c2 c9) π o := by
  refine CtH.of (cc := cL_count) (own := RL) (maxL := 4) (ret := (some .int)) [some (.ref (E.2.1 9 0)), some (.int x), some (.ref (E.2.1 11 0)), none] (by decide) rfl rfl (Nat.le_of_ble_eq_true rfl) rfl ?_
  intro p e s m args below meth cd C hX hY htab hrt hlk
  refine G.aldn2 C dL_count_0 ?_
  refine G.iconst C 0 dL_count_1 (by decide) ?_
  refine G.aldn0 C dL_count_2 ?_
  refine G.ildn1 C dL_count_3 ?_
  refine G.xcatchV1 C hX hY [] ⟨0, 9, 12, 15⟩ [] htab (fun z hz => by cases hz) (by decide) (by decide) (by decide +kernel : Cond.classLink RL 15 "java/lang/IllegalArgumentException" ∈ wsL_count) (by decide) (k_X3_count_t l hst hx) (cwV 1 C.1.2.2.2.2 gL_count_X3_count rfl rfl rfl (by decide +kernel) ⟨Nat.le_of_ble_eq_true rfl, Nat.le_of_ble_eq_true rfl⟩) gO_m rfl (Nat.le_of_ble_eq_true rfl) dL_count_4 ⟨by decide, by decide⟩ (fun q9 C => ?_)
  refine G.astn3 C dL_count_12 (by omega) rfl ?_
  refine G.iconst C 1 dL_count_13 (by decide) ?_
  exact G.iretH C (by omega) (by omega) hlk hrt dL_count_14 (by rfl) (by exact fun _ h => h)
set_option maxRecDepth 100000 in
set_option maxHeartbeats 4000000 in
theorem k_L_step (l : Launch) {E : gEn} {σ : gSt} {π : Nat → Nat} {o : Int64} {c0 c1 c2 c9 : cSt} {x y : Int32} (hx0 : ¬ x < 0) (hy0 : ¬ y < 0) (hy1 : y ≤ 1) {n0 : Nat} (hn0 : c0 17 2 = nI n0) (h25 : n0 ≤ 25) : CtH l yL_step wsL_step ({ frames := 8, cells := 1, slots := 6, locals := 170 } : Room) E [.ref (E.2.1 9 0), .int x, .int y, .ref (E.2.1 11 0)] (gT σ c0 c1 c2 c9) π o (0) (gT σ c0 c1 c2 c9) π ((if c0 17 2 ≤ x then -1 else if y = 0 then c0 18 (ix x) else c0 19 (ix x))).toInt64 := by
  refine CtH.of (cc := cL_step) (own := RL) (maxL := 5) (ret := (some .int)) [some (.ref (E.2.1 9 0)), some (.int x), some (.int y), some (.ref (E.2.1 11 0)), none] (by decide) rfl rfl (Nat.le_of_ble_eq_true rfl) rfl ?_
  intro p e s m args below meth cd C hX hY htab hrt hlk
  refine G.aldn3 C dL_step_0 ?_
  refine G.iconst C 0 dL_step_1 (by decide) ?_
  refine G.aldn0 C dL_step_2 ?_
  refine G.ildn1 C dL_step_3 ?_
  refine G.ildn2 C dL_step_4 ?_
  refine G.callVI2 C (k_X3_step l hx0 hy0 hy1 hn0 h25) (cwV 2 C.1.2.2.2.2 gL_step_X3_step rfl rfl rfl (by decide +kernel) ⟨Nat.le_of_ble_eq_true rfl, Nat.le_of_ble_eq_true rfl⟩) gO_m rfl (Nat.le_of_ble_eq_true rfl) dL_step_5 ?_
  refine G.i2l C dL_step_8 ?_
  refine G.lastO C dL_step_9 ?_
  refine G.goto C 17 dL_step_10 (by decide) ?_
  refine G.iconst C 0 dL_step_17 (by decide) ?_
  exact G.iretH C (by omega) (by omega) hlk hrt dL_step_18 (by rfl) (by exact fun _ h => h)
set_option maxRecDepth 100000 in
set_option maxHeartbeats 4000000 in
theorem k_L_step_t (l : Launch) {E : gEn} {σ : gSt} {π : Nat → Nat} {o : Int64} (hst : l.stackTraces = false) {c0 c1 c2 c9 : cSt} {x y : Int32} (hx : ¬ (¬ x < 0 ∧ ¬ y < 0 ∧ y ≤ 1)) : CtH l yL_step wsL_step ({ frames := 8, cells := 1, slots := 6, locals := 170 } : Room) E [.ref (E.2.1 9 0), .int x, .int y, .ref (E.2.1 11 0)] (gT σ c0 c1 c2 c9) π o (1) (gT σ c0 c1 c2 c9) π o := by
  refine CtH.of (cc := cL_step) (own := RL) (maxL := 5) (ret := (some .int)) [some (.ref (E.2.1 9 0)), some (.int x), some (.int y), some (.ref (E.2.1 11 0)), none] (by decide) rfl rfl (Nat.le_of_ble_eq_true rfl) rfl ?_
  intro p e s m args below meth cd C hX hY htab hrt hlk
  refine G.aldn3 C dL_step_0 ?_
  refine G.iconst C 0 dL_step_1 (by decide) ?_
  refine G.aldn0 C dL_step_2 ?_
  refine G.ildn1 C dL_step_3 ?_
  refine G.ildn2 C dL_step_4 ?_
  refine G.xcatchV2 C hX hY [] ⟨0, 10, 13, 15⟩ [] htab (fun z hz => by cases hz) (by decide) (by decide) (by decide +kernel : Cond.classLink RL 15 "java/lang/IllegalArgumentException" ∈ wsL_step) (by decide) (k_X3_step_t l hst hx) (cwV 2 C.1.2.2.2.2 gL_step_X3_step rfl rfl rfl (by decide +kernel) ⟨Nat.le_of_ble_eq_true rfl, Nat.le_of_ble_eq_true rfl⟩) gO_m rfl (Nat.le_of_ble_eq_true rfl) dL_step_5 ⟨by decide, by decide⟩ (fun q9 C => ?_)
  refine G.ast4 C dL_step_13 (by omega) rfl ?_
  refine G.iconst C 1 dL_step_15 (by decide) ?_
  exact G.iretH C (by omega) (by omega) hlk hrt dL_step_16 (by rfl) (by exact fun _ h => h)
set_option maxRecDepth 100000 in
set_option maxHeartbeats 4000000 in
theorem k_L_whyNot (l : Launch) {E : gEn} {σ : gSt} {π : Nat → Nat} {o : Int64} {c0 c1 c2 c9 : cSt} {x t : Int32} (hx : cEx c0 x = true) (ht0 : ¬ t < 0) (ht1 : t ≤ 1439) : CtH l yL_whyNot wsL_whyNot ({ frames := 8, cells := 1, slots := 6, locals := 170 } : Room) E [.ref (E.2.1 9 0), .int x, .int t, .ref (E.2.1 11 0)] (gT σ c0 c1 c2 c9) π o (0) (gT σ c0 c1 c2 c9) π ((cWhyHome c0 x t)).toInt64 := by
  refine CtH.of (cc := cL_whyNot) (own := RL) (maxL := 5) (ret := (some .int)) [some (.ref (E.2.1 9 0)), some (.int x), some (.int t), some (.ref (E.2.1 11 0)), none] (by decide) rfl rfl (Nat.le_of_ble_eq_true rfl) rfl ?_
  intro p e s m args below meth cd C hX hY htab hrt hlk
  refine G.aldn3 C dL_whyNot_0 ?_
  refine G.iconst C 0 dL_whyNot_1 (by decide) ?_
  refine G.aldn0 C dL_whyNot_2 ?_
  refine G.ildn1 C dL_whyNot_3 ?_
  refine G.ildn2 C dL_whyNot_4 ?_
  refine G.callVI2 C (k_X3_whyNot l hx ht0 ht1) (cwV 2 C.1.2.2.2.2 gL_whyNot_X3_whyNot rfl rfl rfl (by decide +kernel) ⟨Nat.le_of_ble_eq_true rfl, Nat.le_of_ble_eq_true rfl⟩) gO_m rfl (Nat.le_of_ble_eq_true rfl) dL_whyNot_5 ?_
  refine G.i2l C dL_whyNot_8 ?_
  refine G.lastO C dL_whyNot_9 ?_
  refine G.goto C 21 dL_whyNot_10 (by decide) ?_
  refine G.iconst C 0 dL_whyNot_21 (by decide) ?_
  exact G.iretH C (by omega) (by omega) hlk hrt dL_whyNot_22 (by rfl) (by exact fun _ h => h)
set_option maxRecDepth 100000 in
set_option maxHeartbeats 4000000 in
theorem k_L_whyNot_t1 (l : Launch) {E : gEn} {σ : gSt} {π : Nat → Nat} {o : Int64} (hst : l.stackTraces = false) {c0 c1 c2 c9 : cSt} {x t : Int32} (hx : cEx c0 x = false) : CtH l yL_whyNot wsL_whyNot ({ frames := 8, cells := 1, slots := 6, locals := 170 } : Room) E [.ref (E.2.1 9 0), .int x, .int t, .ref (E.2.1 11 0)] (gT σ c0 c1 c2 c9) π o (1) (gT σ c0 c1 c2 c9) π o := by
  refine CtH.of (cc := cL_whyNot) (own := RL) (maxL := 5) (ret := (some .int)) [some (.ref (E.2.1 9 0)), some (.int x), some (.int t), some (.ref (E.2.1 11 0)), none] (by decide) rfl rfl (Nat.le_of_ble_eq_true rfl) rfl ?_
  intro p e s m args below meth cd C hX hY htab hrt hlk
  refine G.aldn3 C dL_whyNot_0 ?_
  refine G.iconst C 0 dL_whyNot_1 (by decide) ?_
  refine G.aldn0 C dL_whyNot_2 ?_
  refine G.ildn1 C dL_whyNot_3 ?_
  refine G.ildn2 C dL_whyNot_4 ?_
  refine G.xcatchV2 C hX hY [] ⟨0, 10, 13, 13⟩ [⟨0, 10, 17, 15⟩] htab (fun z hz => by cases hz) (by decide) (by decide) (by decide +kernel : Cond.classLink RL 13 "java/lang/IndexOutOfBoundsException" ∈ wsL_whyNot) (by decide) (k_X3_whyNot_t1 l hst hx) (cwV 2 C.1.2.2.2.2 gL_whyNot_X3_whyNot rfl rfl rfl (by decide +kernel) ⟨Nat.le_of_ble_eq_true rfl, Nat.le_of_ble_eq_true rfl⟩) gO_m rfl (Nat.le_of_ble_eq_true rfl) dL_whyNot_5 ⟨by decide, by decide⟩ (fun q9 C => ?_)
  refine G.ast4 C dL_whyNot_13 (by omega) rfl ?_
  refine G.iconst C 1 dL_whyNot_15 (by decide) ?_
  exact G.iretH C (by omega) (by omega) hlk hrt dL_whyNot_16 (by rfl) (by exact fun _ h => h)
set_option maxRecDepth 100000 in
set_option maxHeartbeats 4000000 in
theorem k_L_whyNot_t2 (l : Launch) {E : gEn} {σ : gSt} {π : Nat → Nat} {o : Int64} (hst : l.stackTraces = false) {c0 c1 c2 c9 : cSt} {x t : Int32} (hx : cEx c0 x = true) (ht : ¬ (¬ t < 0 ∧ t ≤ 1439)) : CtH l yL_whyNot wsL_whyNot ({ frames := 8, cells := 1, slots := 6, locals := 170 } : Room) E [.ref (E.2.1 9 0), .int x, .int t, .ref (E.2.1 11 0)] (gT σ c0 c1 c2 c9) π o (2) (gT σ c0 c1 c2 c9) π o := by
  refine CtH.of (cc := cL_whyNot) (own := RL) (maxL := 5) (ret := (some .int)) [some (.ref (E.2.1 9 0)), some (.int x), some (.int t), some (.ref (E.2.1 11 0)), none] (by decide) rfl rfl (Nat.le_of_ble_eq_true rfl) rfl ?_
  intro p e s m args below meth cd C hX hY htab hrt hlk
  refine G.aldn3 C dL_whyNot_0 ?_
  refine G.iconst C 0 dL_whyNot_1 (by decide) ?_
  refine G.aldn0 C dL_whyNot_2 ?_
  refine G.ildn1 C dL_whyNot_3 ?_
  refine G.ildn2 C dL_whyNot_4 ?_
  refine G.xcatchV2 C hX hY [⟨0, 10, 13, 13⟩] ⟨0, 10, 17, 15⟩ [] htab (fun z hz => by obtain rfl := List.mem_singleton.mp hz; exact ⟨by decide, "java/lang/IndexOutOfBoundsException", (by decide +kernel : Cond.classLink RL 13 "java/lang/IndexOutOfBoundsException" ∈ wsL_whyNot), by decide⟩) (by decide) (by decide) (by decide +kernel : Cond.classLink RL 15 "java/lang/IllegalArgumentException" ∈ wsL_whyNot) (by decide) (k_X3_whyNot_t2 l hst hx ht) (cwV 2 C.1.2.2.2.2 gL_whyNot_X3_whyNot rfl rfl rfl (by decide +kernel) ⟨Nat.le_of_ble_eq_true rfl, Nat.le_of_ble_eq_true rfl⟩) gO_m rfl (Nat.le_of_ble_eq_true rfl) dL_whyNot_5 ⟨by decide, by decide⟩ (fun q9 C => ?_)
  refine G.ast4 C dL_whyNot_17 (by omega) rfl ?_
  refine G.iconst C 2 dL_whyNot_19 (by decide) ?_
  exact G.iretH C (by omega) (by omega) hlk hrt dL_whyNot_20 (by rfl) (by exact fun _ h => h)
set_option maxRecDepth 100000 in
set_option maxHeartbeats 4000000 in
theorem k_L_ifHome (l : Launch) {E : gEn} {σ : gSt} {π : Nat → Nat} {o : Int64} {c0 c1 c2 c9 : cSt} {x t w : Int32} (hx : cEx c0 x = true) (ht0 : ¬ t < 0) (ht1 : t ≤ 1439) (hw0 : ¬ w < 0) (hw2 : w ≤ 2) : CtH l yL_ifHome wsL_ifHome ({ frames := 8, cells := 1, slots := 6, locals := 181 } : Room) E [.ref (E.2.1 9 0), .int x, .int t, .int w, .ref (E.2.1 11 0)] (gT σ c0 c1 c2 c9) π o (0) (gT σ c0 (tTry c0 c1 x t).2 c2 c9) π ((if (tTry c0 c1 x t).1 = true then tTN c0 (tTry c0 c1 x t).2 x w else -1)).toInt64 := by
  refine CtH.of (cc := cL_ifHome) (own := RL) (maxL := 6) (ret := (some .int)) [some (.ref (E.2.1 9 0)), some (.int x), some (.int t), some (.int w), some (.ref (E.2.1 11 0)), none] (by decide) rfl rfl (Nat.le_of_ble_eq_true rfl) rfl ?_
  intro p e s m args below meth cd C hX hY htab hrt hlk
  refine G.ald4 C dL_ifHome_0 ?_
  refine G.iconst C 0 dL_ifHome_2 (by decide) ?_
  refine G.aldn0 C dL_ifHome_3 ?_
  refine G.ildn1 C dL_ifHome_4 ?_
  refine G.ildn2 C dL_ifHome_5 ?_
  refine G.ildn3 C dL_ifHome_6 ?_
  refine G.callVI3 C (k_X3_ifHome l hx ht0 ht1 hw0 hw2) (cwV 3 C.1.2.2.2.2 gL_ifHome_X3_ifHome rfl rfl rfl (by decide +kernel) ⟨Nat.le_of_ble_eq_true rfl, Nat.le_of_ble_eq_true rfl⟩) gO_m rfl (Nat.le_of_ble_eq_true rfl) dL_ifHome_7 ?_
  refine G.i2l C dL_ifHome_10 ?_
  refine G.lastO C dL_ifHome_11 ?_
  refine G.goto C 23 dL_ifHome_12 (by decide) ?_
  refine G.iconst C 0 dL_ifHome_23 (by decide) ?_
  exact G.iretH C (by omega) (by omega) hlk hrt dL_ifHome_24 (by rfl) (by exact fun _ h => h)
set_option maxRecDepth 100000 in
set_option maxHeartbeats 4000000 in
theorem k_L_ifHome_t1 (l : Launch) {E : gEn} {σ : gSt} {π : Nat → Nat} {o : Int64} (hst : l.stackTraces = false) {c0 c1 c2 c9 : cSt} {x t w : Int32} (hx : cEx c0 x = false) : CtH l yL_ifHome wsL_ifHome ({ frames := 8, cells := 1, slots := 6, locals := 181 } : Room) E [.ref (E.2.1 9 0), .int x, .int t, .int w, .ref (E.2.1 11 0)] (gT σ c0 c1 c2 c9) π o (1) (gT σ c0 c1 c2 c9) π o := by
  refine CtH.of (cc := cL_ifHome) (own := RL) (maxL := 6) (ret := (some .int)) [some (.ref (E.2.1 9 0)), some (.int x), some (.int t), some (.int w), some (.ref (E.2.1 11 0)), none] (by decide) rfl rfl (Nat.le_of_ble_eq_true rfl) rfl ?_
  intro p e s m args below meth cd C hX hY htab hrt hlk
  refine G.ald4 C dL_ifHome_0 ?_
  refine G.iconst C 0 dL_ifHome_2 (by decide) ?_
  refine G.aldn0 C dL_ifHome_3 ?_
  refine G.ildn1 C dL_ifHome_4 ?_
  refine G.ildn2 C dL_ifHome_5 ?_
  refine G.ildn3 C dL_ifHome_6 ?_
  refine G.xcatchV3 C hX hY [] ⟨0, 12, 15, 13⟩ [⟨0, 12, 19, 15⟩] htab (fun z hz => by cases hz) (by decide) (by decide) (by decide +kernel : Cond.classLink RL 13 "java/lang/IndexOutOfBoundsException" ∈ wsL_ifHome) (by decide) (k_X3_ifHome_t1 l hst hx) (cwV 3 C.1.2.2.2.2 gL_ifHome_X3_ifHome rfl rfl rfl (by decide +kernel) ⟨Nat.le_of_ble_eq_true rfl, Nat.le_of_ble_eq_true rfl⟩) gO_m rfl (Nat.le_of_ble_eq_true rfl) dL_ifHome_7 ⟨by decide, by decide⟩ (fun q9 C => ?_)
  refine G.ast5 C dL_ifHome_15 (by omega) rfl ?_
  refine G.iconst C 1 dL_ifHome_17 (by decide) ?_
  exact G.iretH C (by omega) (by omega) hlk hrt dL_ifHome_18 (by rfl) (by exact fun _ h => h)
set_option maxRecDepth 100000 in
set_option maxHeartbeats 4000000 in
theorem k_L_ifHome_t2 (l : Launch) {E : gEn} {σ : gSt} {π : Nat → Nat} {o : Int64} (hst : l.stackTraces = false) {c0 c1 c2 c9 : cSt} {x t w : Int32} (hx : cEx c0 x = true) (ht : ¬ (¬ t < 0 ∧ t ≤ 1439)) : CtH l yL_ifHome wsL_ifHome ({ frames := 8, cells := 1, slots := 6, locals := 181 } : Room) E [.ref (E.2.1 9 0), .int x, .int t, .int w, .ref (E.2.1 11 0)] (gT σ c0 c1 c2 c9) π o (2) (gT σ c0 c1 c2 c9) π o := by
  refine CtH.of (cc := cL_ifHome) (own := RL) (maxL := 6) (ret := (some .int)) [some (.ref (E.2.1 9 0)), some (.int x), some (.int t), some (.int w), some (.ref (E.2.1 11 0)), none] (by decide) rfl rfl (Nat.le_of_ble_eq_true rfl) rfl ?_
  intro p e s m args below meth cd C hX hY htab hrt hlk
  refine G.ald4 C dL_ifHome_0 ?_
  refine G.iconst C 0 dL_ifHome_2 (by decide) ?_
  refine G.aldn0 C dL_ifHome_3 ?_
  refine G.ildn1 C dL_ifHome_4 ?_
  refine G.ildn2 C dL_ifHome_5 ?_
  refine G.ildn3 C dL_ifHome_6 ?_
  refine G.xcatchV3 C hX hY [⟨0, 12, 15, 13⟩] ⟨0, 12, 19, 15⟩ [] htab (fun z hz => by obtain rfl := List.mem_singleton.mp hz; exact ⟨by decide, "java/lang/IndexOutOfBoundsException", (by decide +kernel : Cond.classLink RL 13 "java/lang/IndexOutOfBoundsException" ∈ wsL_ifHome), by decide⟩) (by decide) (by decide) (by decide +kernel : Cond.classLink RL 15 "java/lang/IllegalArgumentException" ∈ wsL_ifHome) (by decide) (k_X3_ifHome_t2 l hst hx ht) (cwV 3 C.1.2.2.2.2 gL_ifHome_X3_ifHome rfl rfl rfl (by decide +kernel) ⟨Nat.le_of_ble_eq_true rfl, Nat.le_of_ble_eq_true rfl⟩) gO_m rfl (Nat.le_of_ble_eq_true rfl) dL_ifHome_7 ⟨by decide, by decide⟩ (fun q9 C => ?_)
  refine G.ast5 C dL_ifHome_19 (by omega) rfl ?_
  refine G.iconst C 2 dL_ifHome_21 (by decide) ?_
  exact G.iretH C (by omega) (by omega) hlk hrt dL_ifHome_22 (by rfl) (by exact fun _ h => h)
set_option maxRecDepth 100000 in
set_option maxHeartbeats 4000000 in
theorem k_L_ifHome_t3 (l : Launch) {E : gEn} {σ : gSt} {π : Nat → Nat} {o : Int64} (hst : l.stackTraces = false) {c0 c1 c2 c9 : cSt} {x t w : Int32} (hx : cEx c0 x = true) (ht0 : ¬ t < 0) (ht1 : t ≤ 1439) (hw : ¬ (¬ w < 0 ∧ w ≤ 2)) : CtH l yL_ifHome wsL_ifHome ({ frames := 8, cells := 1, slots := 6, locals := 181 } : Room) E [.ref (E.2.1 9 0), .int x, .int t, .int w, .ref (E.2.1 11 0)] (gT σ c0 c1 c2 c9) π o (2) (gT σ c0 c1 c2 c9) π o := by
  refine CtH.of (cc := cL_ifHome) (own := RL) (maxL := 6) (ret := (some .int)) [some (.ref (E.2.1 9 0)), some (.int x), some (.int t), some (.int w), some (.ref (E.2.1 11 0)), none] (by decide) rfl rfl (Nat.le_of_ble_eq_true rfl) rfl ?_
  intro p e s m args below meth cd C hX hY htab hrt hlk
  refine G.ald4 C dL_ifHome_0 ?_
  refine G.iconst C 0 dL_ifHome_2 (by decide) ?_
  refine G.aldn0 C dL_ifHome_3 ?_
  refine G.ildn1 C dL_ifHome_4 ?_
  refine G.ildn2 C dL_ifHome_5 ?_
  refine G.ildn3 C dL_ifHome_6 ?_
  refine G.xcatchV3 C hX hY [⟨0, 12, 15, 13⟩] ⟨0, 12, 19, 15⟩ [] htab (fun z hz => by obtain rfl := List.mem_singleton.mp hz; exact ⟨by decide, "java/lang/IndexOutOfBoundsException", (by decide +kernel : Cond.classLink RL 13 "java/lang/IndexOutOfBoundsException" ∈ wsL_ifHome), by decide⟩) (by decide) (by decide) (by decide +kernel : Cond.classLink RL 15 "java/lang/IllegalArgumentException" ∈ wsL_ifHome) (by decide) (k_X3_ifHome_t3 l hst hx ht0 ht1 hw) (cwV 3 C.1.2.2.2.2 gL_ifHome_X3_ifHome rfl rfl rfl (by decide +kernel) ⟨Nat.le_of_ble_eq_true rfl, Nat.le_of_ble_eq_true rfl⟩) gO_m rfl (Nat.le_of_ble_eq_true rfl) dL_ifHome_7 ⟨by decide, by decide⟩ (fun q9 C => ?_)
  refine G.ast5 C dL_ifHome_19 (by omega) rfl ?_
  refine G.iconst C 2 dL_ifHome_21 (by decide) ?_
  exact G.iretH C (by omega) (by omega) hlk hrt dL_ifHome_22 (by rfl) (by exact fun _ h => h)
