set_option maxRecDepth 100000 in
set_option maxHeartbeats 4000000 in
theorem k_L_buy (l : Launch) {E : gEn} {σ : gSt} {π : Nat → Nat} {o : Int64} {c0 c1 c2 c9 : cSt} {x y : Int32} (hx : hHole x = true) (hy1 : ¬ y < 1) (hy9 : y ≤ 9) (hw : cWhyBuy c0 x = 0) {sv : Nat} (hs : c9 0 5 = nI sv) (hle : sv ≤ 6) (hπ : ∀ k, k < 6 → 3 ≤ π k ∧ π k < 9) : CtH l yL_buy wsL_buy ({ frames := 8, cells := 1, slots := 6, locals := 170 } : Room) E [.ref (E.2.1 9 0), .int x, .int y] (gT σ c0 c1 c2 c9) π o (((cAdd c0 x y).1)) (gT (svS σ π sv c0) (cAdd c0 x y).2 c1 c2 (sv9 c9 sv)) (svP π sv) o := by
  refine CtH.of (cc := cL_buy) (own := RL) (maxL := 5) (ret := (some .int)) [some (.ref (E.2.1 9 0)), some (.int x), some (.int y), none, none] (by decide) rfl rfl (Nat.le_of_ble_eq_true rfl) rfl ?_
  intro p e s m args below meth cd C hX hY htab hrt hlk
  refine G.aldn0 C dL_buy_0 ?_
  refine G.ildn1 C dL_buy_1 ?_
  refine G.ildn2 C dL_buy_2 ?_
  refine G.callVI2 C (k_X3_buy l hx hy1 hy9 hw hs hle hπ) (cwV 2 C.1.2.2.2.2 gL_buy_X3_buy rfl rfl rfl (by decide +kernel) ⟨Nat.le_of_ble_eq_true rfl, Nat.le_of_ble_eq_true rfl⟩) gO_m rfl (Nat.le_of_ble_eq_true rfl) dL_buy_3 ?_
  refine G.istn3 C dL_buy_6 (by omega) rfl ?_
  refine G.goto C 25 dL_buy_7 (by decide) ?_
  refine G.ildn3 C dL_buy_25 ?_
  exact G.iretH C (by omega) (by omega) hlk hrt dL_buy_26 (by rfl) (by exact fun _ h => h)
set_option maxRecDepth 100000 in
set_option maxHeartbeats 4000000 in
theorem k_L_buy_t1 (l : Launch) {E : gEn} {σ : gSt} {π : Nat → Nat} {o : Int64} (hst : l.stackTraces = false) {c0 c1 c2 c9 : cSt} {x y : Int32} (hx : hHole x = false) : CtH l yL_buy wsL_buy ({ frames := 8, cells := 1, slots := 6, locals := 170 } : Room) E [.ref (E.2.1 9 0), .int x, .int y] (gT σ c0 c1 c2 c9) π o ((-31)) (gT σ c0 c1 c2 c9) π o := by
  refine CtH.of (cc := cL_buy) (own := RL) (maxL := 5) (ret := (some .int)) [some (.ref (E.2.1 9 0)), some (.int x), some (.int y), none, none] (by decide) rfl rfl (Nat.le_of_ble_eq_true rfl) rfl ?_
  intro p e s m args below meth cd C hX hY htab hrt hlk
  refine G.aldn0 C dL_buy_0 ?_
  refine G.ildn1 C dL_buy_1 ?_
  refine G.ildn2 C dL_buy_2 ?_
  refine G.xcatchV2 C hX hY [] ⟨0, 7, 10, 15⟩ [⟨0, 7, 15, 17⟩, ⟨0, 7, 20, 19⟩] htab (fun z hz => by cases hz) (by decide) (by decide) (by decide +kernel : Cond.classLink RL 15 "java/lang/IndexOutOfBoundsException" ∈ wsL_buy) (by decide) (k_X3_buy_t1 l hst hx) (cwV 2 C.1.2.2.2.2 gL_buy_X3_buy rfl rfl rfl (by decide +kernel) ⟨Nat.le_of_ble_eq_true rfl, Nat.le_of_ble_eq_true rfl⟩) gO_m rfl (Nat.le_of_ble_eq_true rfl) dL_buy_3 ⟨by decide, by decide⟩ (fun q9 C => ?_)
  refine G.ast4 C dL_buy_10 (by omega) rfl ?_
  refine G.bipush C (-31) dL_buy_12 (by decide) ?_
  exact G.iretH C (by omega) (by omega) hlk hrt dL_buy_14 (by rfl) (by exact fun _ h => h)
set_option maxRecDepth 100000 in
set_option maxHeartbeats 4000000 in
theorem k_L_buy_t2 (l : Launch) {E : gEn} {σ : gSt} {π : Nat → Nat} {o : Int64} (hst : l.stackTraces = false) {c0 c1 c2 c9 : cSt} {x y : Int32} (hx : hHole x = true) (hy : ¬ (¬ y < 1 ∧ y ≤ 9)) : CtH l yL_buy wsL_buy ({ frames := 8, cells := 1, slots := 6, locals := 170 } : Room) E [.ref (E.2.1 9 0), .int x, .int y] (gT σ c0 c1 c2 c9) π o ((-32)) (gT σ c0 c1 c2 c9) π o := by
  refine CtH.of (cc := cL_buy) (own := RL) (maxL := 5) (ret := (some .int)) [some (.ref (E.2.1 9 0)), some (.int x), some (.int y), none, none] (by decide) rfl rfl (Nat.le_of_ble_eq_true rfl) rfl ?_
  intro p e s m args below meth cd C hX hY htab hrt hlk
  refine G.aldn0 C dL_buy_0 ?_
  refine G.ildn1 C dL_buy_1 ?_
  refine G.ildn2 C dL_buy_2 ?_
  refine G.xcatchV2 C hX hY [⟨0, 7, 10, 15⟩] ⟨0, 7, 15, 17⟩ [⟨0, 7, 20, 19⟩] htab (fun z hz => by obtain rfl := List.mem_singleton.mp hz; exact ⟨by decide, "java/lang/IndexOutOfBoundsException", (by decide +kernel : Cond.classLink RL 15 "java/lang/IndexOutOfBoundsException" ∈ wsL_buy), by decide⟩) (by decide) (by decide) (by decide +kernel : Cond.classLink RL 17 "java/lang/IllegalArgumentException" ∈ wsL_buy) (by decide) (k_X3_buy_t2 l hst hx hy) (cwV 2 C.1.2.2.2.2 gL_buy_X3_buy rfl rfl rfl (by decide +kernel) ⟨Nat.le_of_ble_eq_true rfl, Nat.le_of_ble_eq_true rfl⟩) gO_m rfl (Nat.le_of_ble_eq_true rfl) dL_buy_3 ⟨by decide, by decide⟩ (fun q9 C => ?_)
  refine G.ast4 C dL_buy_15 (by omega) rfl ?_
  refine G.bipush C (-32) dL_buy_17 (by decide) ?_
  exact G.iretH C (by omega) (by omega) hlk hrt dL_buy_19 (by rfl) (by exact fun _ h => h)
set_option maxRecDepth 100000 in
set_option maxHeartbeats 4000000 in
theorem k_L_buy_t3 (l : Launch) {E : gEn} {σ : gSt} {π : Nat → Nat} {o : Int64} (hst : l.stackTraces = false) {c0 c1 c2 c9 : cSt} {x y : Int32} (hx : hHole x = true) (hy1 : ¬ y < 1) (hy9 : y ≤ 9) (hw : ¬ cWhyBuy c0 x = 0) : CtH l yL_buy wsL_buy ({ frames := 8, cells := 1, slots := 6, locals := 170 } : Room) E [.ref (E.2.1 9 0), .int x, .int y] (gT σ c0 c1 c2 c9) π o ((-33)) (gT σ c0 c1 c2 c9) π o := by
  refine CtH.of (cc := cL_buy) (own := RL) (maxL := 5) (ret := (some .int)) [some (.ref (E.2.1 9 0)), some (.int x), some (.int y), none, none] (by decide) rfl rfl (Nat.le_of_ble_eq_true rfl) rfl ?_
  intro p e s m args below meth cd C hX hY htab hrt hlk
  refine G.aldn0 C dL_buy_0 ?_
  refine G.ildn1 C dL_buy_1 ?_
  refine G.ildn2 C dL_buy_2 ?_
  refine G.xcatchV2 C hX hY [⟨0, 7, 10, 15⟩, ⟨0, 7, 15, 17⟩] ⟨0, 7, 20, 19⟩ [] htab (fun z hz => by simp only [List.mem_cons, List.not_mem_nil, or_false] at hz; rcases hz with rfl | rfl; exact ⟨by decide, "java/lang/IndexOutOfBoundsException", (by decide +kernel : Cond.classLink RL 15 "java/lang/IndexOutOfBoundsException" ∈ wsL_buy), by decide⟩; exact ⟨by decide, "java/lang/IllegalArgumentException", (by decide +kernel : Cond.classLink RL 17 "java/lang/IllegalArgumentException" ∈ wsL_buy), by decide⟩) (by decide) (by decide) (by decide +kernel : Cond.classLink RL 19 "java/lang/IllegalStateException" ∈ wsL_buy) (by decide) (k_X3_buy_t3 l hst hx hy1 hy9 hw) (cwV 2 C.1.2.2.2.2 gL_buy_X3_buy rfl rfl rfl (by decide +kernel) ⟨Nat.le_of_ble_eq_true rfl, Nat.le_of_ble_eq_true rfl⟩) gO_m rfl (Nat.le_of_ble_eq_true rfl) dL_buy_3 ⟨by decide, by decide⟩ (fun q9 C => ?_)
  refine G.ast4 C dL_buy_20 (by omega) rfl ?_
  refine G.bipush C (-33) dL_buy_22 (by decide) ?_
  exact G.iretH C (by omega) (by omega) hlk hrt dL_buy_24 (by rfl) (by exact fun _ h => h)
set_option maxRecDepth 100000 in
set_option maxHeartbeats 4000000 in
theorem k_L_sell (l : Launch) {E : gEn} {σ : gSt} {π : Nat → Nat} {o : Int64} {c0 c1 c2 c9 : cSt} {x : Int32} (hx : cEx c0 x = true) {sv : Nat} (hs : c9 0 5 = nI sv) (hle : sv ≤ 6) (hπ : ∀ k, k < 6 → 3 ≤ π k ∧ π k < 9) : CtH l yL_sell wsL_sell ({ frames := 8, cells := 1, slots := 6, locals := 170 } : Room) E [.ref (E.2.1 9 0), .int x] (gT σ c0 c1 c2 c9) π o ((c0 4 (ix x))) (gT (svS σ π sv c0) (cRem c0 x) c1 c2 (sv9 c9 sv)) (svP π sv) o := by
  refine CtH.of (cc := cL_sell) (own := RL) (maxL := 4) (ret := (some .int)) [some (.ref (E.2.1 9 0)), some (.int x), none, none] (by decide) rfl rfl (Nat.le_of_ble_eq_true rfl) rfl ?_
  intro p e s m args below meth cd C hX hY htab hrt hlk
  refine G.aldn0 C dL_sell_0 ?_
  refine G.ildn1 C dL_sell_1 ?_
  refine G.callVI1 C (k_X3_sell l hx hs hle hπ) (cwV 1 C.1.2.2.2.2 gL_sell_X3_sell rfl rfl rfl (by decide +kernel) ⟨Nat.le_of_ble_eq_true rfl, Nat.le_of_ble_eq_true rfl⟩) gO_m rfl (Nat.le_of_ble_eq_true rfl) dL_sell_2 ?_
  refine G.istn2 C dL_sell_5 (by omega) rfl ?_
  refine G.goto C 13 dL_sell_6 (by decide) ?_
  refine G.ildn2 C dL_sell_13 ?_
  exact G.iretH C (by omega) (by omega) hlk hrt dL_sell_14 (by rfl) (by exact fun _ h => h)
set_option maxRecDepth 100000 in
set_option maxHeartbeats 4000000 in
theorem k_L_sell_t (l : Launch) {E : gEn} {σ : gSt} {π : Nat → Nat} {o : Int64} (hst : l.stackTraces = false) {c0 c1 c2 c9 : cSt} {x : Int32} (hx : cEx c0 x = false) : CtH l yL_sell wsL_sell ({ frames := 8, cells := 1, slots := 6, locals := 170 } : Room) E [.ref (E.2.1 9 0), .int x] (gT σ c0 c1 c2 c9) π o ((-31)) (gT σ c0 c1 c2 c9) π o := by
  refine CtH.of (cc := cL_sell) (own := RL) (maxL := 4) (ret := (some .int)) [some (.ref (E.2.1 9 0)), some (.int x), none, none] (by decide) rfl rfl (Nat.le_of_ble_eq_true rfl) rfl ?_
  intro p e s m args below meth cd C hX hY htab hrt hlk
  refine G.aldn0 C dL_sell_0 ?_
  refine G.ildn1 C dL_sell_1 ?_
  refine G.xcatchV1 C hX hY [] ⟨0, 6, 9, 15⟩ [] htab (fun z hz => by cases hz) (by decide) (by decide) (by decide +kernel : Cond.classLink RL 15 "java/lang/IndexOutOfBoundsException" ∈ wsL_sell) (by decide) (k_X3_sell_t l hst hx) (cwV 1 C.1.2.2.2.2 gL_sell_X3_sell rfl rfl rfl (by decide +kernel) ⟨Nat.le_of_ble_eq_true rfl, Nat.le_of_ble_eq_true rfl⟩) gO_m rfl (Nat.le_of_ble_eq_true rfl) dL_sell_2 ⟨by decide, by decide⟩ (fun q9 C => ?_)
  refine G.astn3 C dL_sell_9 (by omega) rfl ?_
  refine G.bipush C (-31) dL_sell_10 (by decide) ?_
  exact G.iretH C (by omega) (by omega) hlk hrt dL_sell_12 (by rfl) (by exact fun _ h => h)
set_option maxRecDepth 100000 in
set_option maxHeartbeats 4000000 in
theorem k_L_mate (l : Launch) {E : gEn} {σ : gSt} {π : Nat → Nat} {o : Int64} {c0 c1 c2 c9 : cSt} {x y : Int32} (hx : cEx c0 x = true) (hy : cEx c0 y = true) (hw : cWhyPair c0 x y = 0) {sv : Nat} (hs : c9 0 5 = nI sv) (hle : sv ≤ 6) (hπ : ∀ k, k < 6 → 3 ≤ π k ∧ π k < 9) : CtH l yL_mate wsL_mate ({ frames := 8, cells := 1, slots := 6, locals := 170 } : Room) E [.ref (E.2.1 9 0), .int x, .int y] (gT σ c0 c1 c2 c9) π o ((cPairs (cPair c0 x y))) (gT (svS σ π sv c0) (cPair c0 x y) c1 c2 (sv9 c9 sv)) (svP π sv) o := by
  refine CtH.of (cc := cL_mate) (own := RL) (maxL := 5) (ret := (some .int)) [some (.ref (E.2.1 9 0)), some (.int x), some (.int y), none, none] (by decide) rfl rfl (Nat.le_of_ble_eq_true rfl) rfl ?_
  intro p e s m args below meth cd C hX hY htab hrt hlk
  refine G.aldn0 C dL_mate_0 ?_
  refine G.ildn1 C dL_mate_1 ?_
  refine G.ildn2 C dL_mate_2 ?_
  refine G.callVI2 C (k_X3_mate l hx hy hw hs hle hπ) (cwV 2 C.1.2.2.2.2 gL_mate_X3_mate rfl rfl rfl (by decide +kernel) ⟨Nat.le_of_ble_eq_true rfl, Nat.le_of_ble_eq_true rfl⟩) gO_m rfl (Nat.le_of_ble_eq_true rfl) dL_mate_3 ?_
  refine G.istn3 C dL_mate_6 (by omega) rfl ?_
  refine G.goto C 20 dL_mate_7 (by decide) ?_
  refine G.ildn3 C dL_mate_20 ?_
  exact G.iretH C (by omega) (by omega) hlk hrt dL_mate_21 (by rfl) (by exact fun _ h => h)
set_option maxRecDepth 100000 in
set_option maxHeartbeats 4000000 in
theorem k_L_mate_t1 (l : Launch) {E : gEn} {σ : gSt} {π : Nat → Nat} {o : Int64} (hst : l.stackTraces = false) {c0 c1 c2 c9 : cSt} {x y : Int32} (hx : cEx c0 x = false) : CtH l yL_mate wsL_mate ({ frames := 8, cells := 1, slots := 6, locals := 170 } : Room) E [.ref (E.2.1 9 0), .int x, .int y] (gT σ c0 c1 c2 c9) π o ((-31)) (gT σ c0 c1 c2 c9) π o := by
  refine CtH.of (cc := cL_mate) (own := RL) (maxL := 5) (ret := (some .int)) [some (.ref (E.2.1 9 0)), some (.int x), some (.int y), none, none] (by decide) rfl rfl (Nat.le_of_ble_eq_true rfl) rfl ?_
  intro p e s m args below meth cd C hX hY htab hrt hlk
  refine G.aldn0 C dL_mate_0 ?_
  refine G.ildn1 C dL_mate_1 ?_
  refine G.ildn2 C dL_mate_2 ?_
  refine G.xcatchV2 C hX hY [] ⟨0, 7, 10, 15⟩ [⟨0, 7, 15, 19⟩] htab (fun z hz => by cases hz) (by decide) (by decide) (by decide +kernel : Cond.classLink RL 15 "java/lang/IndexOutOfBoundsException" ∈ wsL_mate) (by decide) (k_X3_mate_t1 l hst hx) (cwV 2 C.1.2.2.2.2 gL_mate_X3_mate rfl rfl rfl (by decide +kernel) ⟨Nat.le_of_ble_eq_true rfl, Nat.le_of_ble_eq_true rfl⟩) gO_m rfl (Nat.le_of_ble_eq_true rfl) dL_mate_3 ⟨by decide, by decide⟩ (fun q9 C => ?_)
  refine G.ast4 C dL_mate_10 (by omega) rfl ?_
  refine G.bipush C (-31) dL_mate_12 (by decide) ?_
  exact G.iretH C (by omega) (by omega) hlk hrt dL_mate_14 (by rfl) (by exact fun _ h => h)
set_option maxRecDepth 100000 in
set_option maxHeartbeats 4000000 in
theorem k_L_mate_t2 (l : Launch) {E : gEn} {σ : gSt} {π : Nat → Nat} {o : Int64} (hst : l.stackTraces = false) {c0 c1 c2 c9 : cSt} {x y : Int32} (hx : cEx c0 x = true) (hy : cEx c0 y = false) : CtH l yL_mate wsL_mate ({ frames := 8, cells := 1, slots := 6, locals := 170 } : Room) E [.ref (E.2.1 9 0), .int x, .int y] (gT σ c0 c1 c2 c9) π o ((-31)) (gT σ c0 c1 c2 c9) π o := by
  refine CtH.of (cc := cL_mate) (own := RL) (maxL := 5) (ret := (some .int)) [some (.ref (E.2.1 9 0)), some (.int x), some (.int y), none, none] (by decide) rfl rfl (Nat.le_of_ble_eq_true rfl) rfl ?_
  intro p e s m args below meth cd C hX hY htab hrt hlk
  refine G.aldn0 C dL_mate_0 ?_
  refine G.ildn1 C dL_mate_1 ?_
  refine G.ildn2 C dL_mate_2 ?_
  refine G.xcatchV2 C hX hY [] ⟨0, 7, 10, 15⟩ [⟨0, 7, 15, 19⟩] htab (fun z hz => by cases hz) (by decide) (by decide) (by decide +kernel : Cond.classLink RL 15 "java/lang/IndexOutOfBoundsException" ∈ wsL_mate) (by decide) (k_X3_mate_t2 l hst hx hy) (cwV 2 C.1.2.2.2.2 gL_mate_X3_mate rfl rfl rfl (by decide +kernel) ⟨Nat.le_of_ble_eq_true rfl, Nat.le_of_ble_eq_true rfl⟩) gO_m rfl (Nat.le_of_ble_eq_true rfl) dL_mate_3 ⟨by decide, by decide⟩ (fun q9 C => ?_)
  refine G.ast4 C dL_mate_10 (by omega) rfl ?_
  refine G.bipush C (-31) dL_mate_12 (by decide) ?_
  exact G.iretH C (by omega) (by omega) hlk hrt dL_mate_14 (by rfl) (by exact fun _ h => h)
set_option maxRecDepth 100000 in
set_option maxHeartbeats 4000000 in
theorem k_L_mate_t3 (l : Launch) {E : gEn} {σ : gSt} {π : Nat → Nat} {o : Int64} (hst : l.stackTraces = false) {c0 c1 c2 c9 : cSt} {x y : Int32} (hx : cEx c0 x = true) (hy : cEx c0 y = true) (hw : ¬ cWhyPair c0 x y = 0) : CtH l yL_mate wsL_mate ({ frames := 8, cells := 1, slots := 6, locals := 170 } : Room) E [.ref (E.2.1 9 0), .int x, .int y] (gT σ c0 c1 c2 c9) π o ((-33)) (gT σ c0 c1 c2 c9) π o := by
  refine CtH.of (cc := cL_mate) (own := RL) (maxL := 5) (ret := (some .int)) [some (.ref (E.2.1 9 0)), some (.int x), some (.int y), none, none] (by decide) rfl rfl (Nat.le_of_ble_eq_true rfl) rfl ?_
  intro p e s m args below meth cd C hX hY htab hrt hlk
  refine G.aldn0 C dL_mate_0 ?_
  refine G.ildn1 C dL_mate_1 ?_
  refine G.ildn2 C dL_mate_2 ?_
  refine G.xcatchV2 C hX hY [⟨0, 7, 10, 15⟩] ⟨0, 7, 15, 19⟩ [] htab (fun z hz => by obtain rfl := List.mem_singleton.mp hz; exact ⟨by decide, "java/lang/IndexOutOfBoundsException", (by decide +kernel : Cond.classLink RL 15 "java/lang/IndexOutOfBoundsException" ∈ wsL_mate), by decide⟩) (by decide) (by decide) (by decide +kernel : Cond.classLink RL 19 "java/lang/IllegalStateException" ∈ wsL_mate) (by decide) (k_X3_mate_t3 l hst hx hy hw) (cwV 2 C.1.2.2.2.2 gL_mate_X3_mate rfl rfl rfl (by decide +kernel) ⟨Nat.le_of_ble_eq_true rfl, Nat.le_of_ble_eq_true rfl⟩) gO_m rfl (Nat.le_of_ble_eq_true rfl) dL_mate_3 ⟨by decide, by decide⟩ (fun q9 C => ?_)
  refine G.ast4 C dL_mate_15 (by omega) rfl ?_
  refine G.bipush C (-33) dL_mate_17 (by decide) ?_
  exact G.iretH C (by omega) (by omega) hlk hrt dL_mate_19 (by rfl) (by exact fun _ h => h)
set_option maxRecDepth 100000 in
set_option maxHeartbeats 4000000 in
theorem k_L_shut (l : Launch) {E : gEn} {σ : gSt} {π : Nat → Nat} {o : Int64} {c0 c1 c2 c9 : cSt} {x : Int32} (hx : hHole x = true) (hw : cWhyShut c0 x = 0) {sv : Nat} (hs : c9 0 5 = nI sv) (hle : sv ≤ 6) (hπ : ∀ k, k < 6 → 3 ≤ π k ∧ π k < 9) : CtH l yL_shut wsL_shut ({ frames := 8, cells := 1, slots := 6, locals := 170 } : Room) E [.ref (E.2.1 9 0), .int x] (gT σ c0 c1 c2 c9) π o ((cOpens (cW c0 13 (ix x) 0))) (gT (svS σ π sv c0) (cW c0 13 (ix x) 0) c1 c2 (sv9 c9 sv)) (svP π sv) o := by
  refine CtH.of (cc := cL_shut) (own := RL) (maxL := 4) (ret := (some .int)) [some (.ref (E.2.1 9 0)), some (.int x), none, none] (by decide) rfl rfl (Nat.le_of_ble_eq_true rfl) rfl ?_
  intro p e s m args below meth cd C hX hY htab hrt hlk
  refine G.aldn0 C dL_shut_0 ?_
  refine G.ildn1 C dL_shut_1 ?_
  refine G.callVI1 C (k_X3_shut l hx hw hs hle hπ) (cwV 1 C.1.2.2.2.2 gL_shut_X3_shut rfl rfl rfl (by decide +kernel) ⟨Nat.le_of_ble_eq_true rfl, Nat.le_of_ble_eq_true rfl⟩) gO_m rfl (Nat.le_of_ble_eq_true rfl) dL_shut_2 ?_
  refine G.istn2 C dL_shut_5 (by omega) rfl ?_
  refine G.goto C 17 dL_shut_6 (by decide) ?_
  refine G.ildn2 C dL_shut_17 ?_
  exact G.iretH C (by omega) (by omega) hlk hrt dL_shut_18 (by rfl) (by exact fun _ h => h)
set_option maxRecDepth 100000 in
set_option maxHeartbeats 4000000 in
theorem k_L_shut_t1 (l : Launch) {E : gEn} {σ : gSt} {π : Nat → Nat} {o : Int64} (hst : l.stackTraces = false) {c0 c1 c2 c9 : cSt} {x : Int32} (hx : hHole x = false) : CtH l yL_shut wsL_shut ({ frames := 8, cells := 1, slots := 6, locals := 170 } : Room) E [.ref (E.2.1 9 0), .int x] (gT σ c0 c1 c2 c9) π o ((-31)) (gT σ c0 c1 c2 c9) π o := by
  refine CtH.of (cc := cL_shut) (own := RL) (maxL := 4) (ret := (some .int)) [some (.ref (E.2.1 9 0)), some (.int x), none, none] (by decide) rfl rfl (Nat.le_of_ble_eq_true rfl) rfl ?_
  intro p e s m args below meth cd C hX hY htab hrt hlk
  refine G.aldn0 C dL_shut_0 ?_
  refine G.ildn1 C dL_shut_1 ?_
  refine G.xcatchV1 C hX hY [] ⟨0, 6, 9, 15⟩ [⟨0, 6, 13, 19⟩] htab (fun z hz => by cases hz) (by decide) (by decide) (by decide +kernel : Cond.classLink RL 15 "java/lang/IndexOutOfBoundsException" ∈ wsL_shut) (by decide) (k_X3_shut_t1 l hst hx) (cwV 1 C.1.2.2.2.2 gL_shut_X3_shut rfl rfl rfl (by decide +kernel) ⟨Nat.le_of_ble_eq_true rfl, Nat.le_of_ble_eq_true rfl⟩) gO_m rfl (Nat.le_of_ble_eq_true rfl) dL_shut_2 ⟨by decide, by decide⟩ (fun q9 C => ?_)
  refine G.astn3 C dL_shut_9 (by omega) rfl ?_
  refine G.bipush C (-31) dL_shut_10 (by decide) ?_
  exact G.iretH C (by omega) (by omega) hlk hrt dL_shut_12 (by rfl) (by exact fun _ h => h)
set_option maxRecDepth 100000 in
set_option maxHeartbeats 4000000 in
theorem k_L_shut_t2 (l : Launch) {E : gEn} {σ : gSt} {π : Nat → Nat} {o : Int64} (hst : l.stackTraces = false) {c0 c1 c2 c9 : cSt} {x : Int32} (hx : hHole x = true) (hw : ¬ cWhyShut c0 x = 0) : CtH l yL_shut wsL_shut ({ frames := 8, cells := 1, slots := 6, locals := 170 } : Room) E [.ref (E.2.1 9 0), .int x] (gT σ c0 c1 c2 c9) π o ((-33)) (gT σ c0 c1 c2 c9) π o := by
  refine CtH.of (cc := cL_shut) (own := RL) (maxL := 4) (ret := (some .int)) [some (.ref (E.2.1 9 0)), some (.int x), none, none] (by decide) rfl rfl (Nat.le_of_ble_eq_true rfl) rfl ?_
  intro p e s m args below meth cd C hX hY htab hrt hlk
  refine G.aldn0 C dL_shut_0 ?_
  refine G.ildn1 C dL_shut_1 ?_
  refine G.xcatchV1 C hX hY [⟨0, 6, 9, 15⟩] ⟨0, 6, 13, 19⟩ [] htab (fun z hz => by obtain rfl := List.mem_singleton.mp hz; exact ⟨by decide, "java/lang/IndexOutOfBoundsException", (by decide +kernel : Cond.classLink RL 15 "java/lang/IndexOutOfBoundsException" ∈ wsL_shut), by decide⟩) (by decide) (by decide) (by decide +kernel : Cond.classLink RL 19 "java/lang/IllegalStateException" ∈ wsL_shut) (by decide) (k_X3_shut_t2 l hst hx hw) (cwV 1 C.1.2.2.2.2 gL_shut_X3_shut rfl rfl rfl (by decide +kernel) ⟨Nat.le_of_ble_eq_true rfl, Nat.le_of_ble_eq_true rfl⟩) gO_m rfl (Nat.le_of_ble_eq_true rfl) dL_shut_2 ⟨by decide, by decide⟩ (fun q9 C => ?_)
  refine G.astn3 C dL_shut_13 (by omega) rfl ?_
  refine G.bipush C (-33) dL_shut_14 (by decide) ?_
  exact G.iretH C (by omega) (by omega) hlk hrt dL_shut_16 (by rfl) (by exact fun _ h => h)
set_option maxRecDepth 100000 in
set_option maxHeartbeats 4000000 in
theorem k_L_open (l : Launch) {E : gEn} {σ : gSt} {π : Nat → Nat} {o : Int64} {c0 c1 c2 c9 : cSt} {x : Int32} (hx : hHole x = true) {sv : Nat} (hs : c9 0 5 = nI sv) (hle : sv ≤ 6) (hπ : ∀ k, k < 6 → 3 ≤ π k ∧ π k < 9) : CtH l yL_open wsL_open ({ frames := 8, cells := 1, slots := 6, locals := 170 } : Room) E [.ref (E.2.1 9 0), .int x] (gT σ c0 c1 c2 c9) π o ((cOpens (cW c0 13 (ix x) 1))) (gT (svS σ π sv c0) (cW c0 13 (ix x) 1) c1 c2 (sv9 c9 sv)) (svP π sv) o := by
  refine CtH.of (cc := cL_open) (own := RL) (maxL := 4) (ret := (some .int)) [some (.ref (E.2.1 9 0)), some (.int x), none, none] (by decide) rfl rfl (Nat.le_of_ble_eq_true rfl) rfl ?_
  intro p e s m args below meth cd C hX hY htab hrt hlk
  refine G.aldn0 C dL_open_0 ?_
  refine G.ildn1 C dL_open_1 ?_
  refine G.callVI1 C (k_X3_open l hx hs hle hπ) (cwV 1 C.1.2.2.2.2 gL_open_X3_open rfl rfl rfl (by decide +kernel) ⟨Nat.le_of_ble_eq_true rfl, Nat.le_of_ble_eq_true rfl⟩) gO_m rfl (Nat.le_of_ble_eq_true rfl) dL_open_2 ?_
  refine G.istn2 C dL_open_5 (by omega) rfl ?_
  refine G.goto C 13 dL_open_6 (by decide) ?_
  refine G.ildn2 C dL_open_13 ?_
  exact G.iretH C (by omega) (by omega) hlk hrt dL_open_14 (by rfl) (by exact fun _ h => h)
set_option maxRecDepth 100000 in
set_option maxHeartbeats 4000000 in
theorem k_L_open_t (l : Launch) {E : gEn} {σ : gSt} {π : Nat → Nat} {o : Int64} (hst : l.stackTraces = false) {c0 c1 c2 c9 : cSt} {x : Int32} (hx : hHole x = false) : CtH l yL_open wsL_open ({ frames := 8, cells := 1, slots := 6, locals := 170 } : Room) E [.ref (E.2.1 9 0), .int x] (gT σ c0 c1 c2 c9) π o ((-31)) (gT σ c0 c1 c2 c9) π o := by
  refine CtH.of (cc := cL_open) (own := RL) (maxL := 4) (ret := (some .int)) [some (.ref (E.2.1 9 0)), some (.int x), none, none] (by decide) rfl rfl (Nat.le_of_ble_eq_true rfl) rfl ?_
  intro p e s m args below meth cd C hX hY htab hrt hlk
  refine G.aldn0 C dL_open_0 ?_
  refine G.ildn1 C dL_open_1 ?_
  refine G.xcatchV1 C hX hY [] ⟨0, 6, 9, 15⟩ [] htab (fun z hz => by cases hz) (by decide) (by decide) (by decide +kernel : Cond.classLink RL 15 "java/lang/IndexOutOfBoundsException" ∈ wsL_open) (by decide) (k_X3_open_t l hst hx) (cwV 1 C.1.2.2.2.2 gL_open_X3_open rfl rfl rfl (by decide +kernel) ⟨Nat.le_of_ble_eq_true rfl, Nat.le_of_ble_eq_true rfl⟩) gO_m rfl (Nat.le_of_ble_eq_true rfl) dL_open_2 ⟨by decide, by decide⟩ (fun q9 C => ?_)
  refine G.astn3 C dL_open_9 (by omega) rfl ?_
  refine G.bipush C (-31) dL_open_10 (by decide) ?_
  exact G.iretH C (by omega) (by omega) hlk hrt dL_open_12 (by rfl) (by exact fun _ h => h)
set_option maxRecDepth 100000 in
set_option maxHeartbeats 4000000 in
theorem k_L_set (l : Launch) {E : gEn} {σ : gSt} {π : Nat → Nat} {o : Int64} {c0 c1 c2 c9 : cSt} {x y : Int32} (hx0 : ¬ x < 0) (hx2 : x < 2) (hy0 : ¬ y < 0) (hy : y ≤ if x = 0 then 1439 else 24) {sv : Nat} (hs : c9 0 5 = nI sv) (hle : sv ≤ 6) (hπ : ∀ k, k < 6 → 3 ≤ π k ∧ π k < 9) : CtH l yL_set wsL_set ({ frames := 8, cells := 1, slots := 6, locals := 170 } : Room) E [.ref (E.2.1 9 0), .int x, .int y] (gT σ c0 c1 c2 c9) π o ((c0 14 (ix x))) (gT (svS σ π sv c0) (cW c0 14 (ix x) y) c1 c2 (sv9 c9 sv)) (svP π sv) o := by
  refine CtH.of (cc := cL_set) (own := RL) (maxL := 5) (ret := (some .int)) [some (.ref (E.2.1 9 0)), some (.int x), some (.int y), none, none] (by decide) rfl rfl (Nat.le_of_ble_eq_true rfl) rfl ?_
  intro p e s m args below meth cd C hX hY htab hrt hlk
  refine G.aldn0 C dL_set_0 ?_
  refine G.ildn1 C dL_set_1 ?_
  refine G.ildn2 C dL_set_2 ?_
  refine G.callVI2 C (k_X3_set l hx0 hx2 hy0 hy hs hle hπ) (cwV 2 C.1.2.2.2.2 gL_set_X3_set rfl rfl rfl (by decide +kernel) ⟨Nat.le_of_ble_eq_true rfl, Nat.le_of_ble_eq_true rfl⟩) gO_m rfl (Nat.le_of_ble_eq_true rfl) dL_set_3 ?_
  refine G.istn3 C dL_set_6 (by omega) rfl ?_
  refine G.goto C 20 dL_set_7 (by decide) ?_
  refine G.ildn3 C dL_set_20 ?_
  exact G.iretH C (by omega) (by omega) hlk hrt dL_set_21 (by rfl) (by exact fun _ h => h)
set_option maxRecDepth 100000 in
set_option maxHeartbeats 4000000 in
theorem k_L_set_t1 (l : Launch) {E : gEn} {σ : gSt} {π : Nat → Nat} {o : Int64} (hst : l.stackTraces = false) {c0 c1 c2 c9 : cSt} {x y : Int32} (hx : ¬ (¬ x < 0 ∧ x < 2)) : CtH l yL_set wsL_set ({ frames := 8, cells := 1, slots := 6, locals := 170 } : Room) E [.ref (E.2.1 9 0), .int x, .int y] (gT σ c0 c1 c2 c9) π o ((-31)) (gT σ c0 c1 c2 c9) π o := by
  refine CtH.of (cc := cL_set) (own := RL) (maxL := 5) (ret := (some .int)) [some (.ref (E.2.1 9 0)), some (.int x), some (.int y), none, none] (by decide) rfl rfl (Nat.le_of_ble_eq_true rfl) rfl ?_
  intro p e s m args below meth cd C hX hY htab hrt hlk
  refine G.aldn0 C dL_set_0 ?_
  refine G.ildn1 C dL_set_1 ?_
  refine G.ildn2 C dL_set_2 ?_
  refine G.xcatchV2 C hX hY [] ⟨0, 7, 10, 15⟩ [⟨0, 7, 15, 17⟩] htab (fun z hz => by cases hz) (by decide) (by decide) (by decide +kernel : Cond.classLink RL 15 "java/lang/IndexOutOfBoundsException" ∈ wsL_set) (by decide) (k_X3_set_t1 l hst hx) (cwV 2 C.1.2.2.2.2 gL_set_X3_set rfl rfl rfl (by decide +kernel) ⟨Nat.le_of_ble_eq_true rfl, Nat.le_of_ble_eq_true rfl⟩) gO_m rfl (Nat.le_of_ble_eq_true rfl) dL_set_3 ⟨by decide, by decide⟩ (fun q9 C => ?_)
  refine G.ast4 C dL_set_10 (by omega) rfl ?_
  refine G.bipush C (-31) dL_set_12 (by decide) ?_
  exact G.iretH C (by omega) (by omega) hlk hrt dL_set_14 (by rfl) (by exact fun _ h => h)
set_option maxRecDepth 100000 in
set_option maxHeartbeats 4000000 in
theorem k_L_set_t2 (l : Launch) {E : gEn} {σ : gSt} {π : Nat → Nat} {o : Int64} (hst : l.stackTraces = false) {c0 c1 c2 c9 : cSt} {x y : Int32} (hx0 : ¬ x < 0) (hx2 : x < 2) (hy : ¬ (¬ y < 0 ∧ y ≤ if x = 0 then 1439 else 24)) : CtH l yL_set wsL_set ({ frames := 8, cells := 1, slots := 6, locals := 170 } : Room) E [.ref (E.2.1 9 0), .int x, .int y] (gT σ c0 c1 c2 c9) π o ((-32)) (gT σ c0 c1 c2 c9) π o := by
  refine CtH.of (cc := cL_set) (own := RL) (maxL := 5) (ret := (some .int)) [some (.ref (E.2.1 9 0)), some (.int x), some (.int y), none, none] (by decide) rfl rfl (Nat.le_of_ble_eq_true rfl) rfl ?_
  intro p e s m args below meth cd C hX hY htab hrt hlk
  refine G.aldn0 C dL_set_0 ?_
  refine G.ildn1 C dL_set_1 ?_
  refine G.ildn2 C dL_set_2 ?_
  refine G.xcatchV2 C hX hY [⟨0, 7, 10, 15⟩] ⟨0, 7, 15, 17⟩ [] htab (fun z hz => by obtain rfl := List.mem_singleton.mp hz; exact ⟨by decide, "java/lang/IndexOutOfBoundsException", (by decide +kernel : Cond.classLink RL 15 "java/lang/IndexOutOfBoundsException" ∈ wsL_set), by decide⟩) (by decide) (by decide) (by decide +kernel : Cond.classLink RL 17 "java/lang/IllegalArgumentException" ∈ wsL_set) (by decide) (k_X3_set_t2 l hst hx0 hx2 hy) (cwV 2 C.1.2.2.2.2 gL_set_X3_set rfl rfl rfl (by decide +kernel) ⟨Nat.le_of_ble_eq_true rfl, Nat.le_of_ble_eq_true rfl⟩) gO_m rfl (Nat.le_of_ble_eq_true rfl) dL_set_3 ⟨by decide, by decide⟩ (fun q9 C => ?_)
  refine G.ast4 C dL_set_15 (by omega) rfl ?_
  refine G.bipush C (-32) dL_set_17 (by decide) ?_
  exact G.iretH C (by omega) (by omega) hlk hrt dL_set_19 (by rfl) (by exact fun _ h => h)
set_option maxRecDepth 100000 in
set_option maxHeartbeats 4000000 in
theorem k_L_home (l : Launch) {E : gEn} {σ : gSt} {π : Nat → Nat} {o : Int64} {c0 c1 c2 c9 : cSt} {x t : Int32} (hx : cEx c0 x = true) (ht0 : ¬ t < 0) (ht1 : t ≤ 1439) (hw : cWhyHome c0 x t = 0) {sv : Nat} (hs : c9 0 5 = nI sv) (hle : sv ≤ 6) (hπ : ∀ k, k < 6 → 3 ≤ π k ∧ π k < 9) : CtH l yL_home wsL_home ({ frames := 8, cells := 1, slots := 6, locals := 170 } : Room) E [.ref (E.2.1 9 0), .int x, .int t] (gT σ c0 c1 c2 c9) π o ((cComeR c0 x t)) (gT (svS σ π sv c0) (cCome c0 x t) c1 c2 (sv9 c9 sv)) (svP π sv) o := by
  refine CtH.of (cc := cL_home) (own := RL) (maxL := 5) (ret := (some .int)) [some (.ref (E.2.1 9 0)), some (.int x), some (.int t), none, none] (by decide) rfl rfl (Nat.le_of_ble_eq_true rfl) rfl ?_
  intro p e s m args below meth cd C hX hY htab hrt hlk
  refine G.aldn0 C dL_home_0 ?_
  refine G.ildn1 C dL_home_1 ?_
  refine G.ildn2 C dL_home_2 ?_
  refine G.callVI2 C (k_X3_home l hx ht0 ht1 hw hs hle hπ) (cwV 2 C.1.2.2.2.2 gL_home_X3_home rfl rfl rfl (by decide +kernel) ⟨Nat.le_of_ble_eq_true rfl, Nat.le_of_ble_eq_true rfl⟩) gO_m rfl (Nat.le_of_ble_eq_true rfl) dL_home_3 ?_
  refine G.istn3 C dL_home_6 (by omega) rfl ?_
  refine G.goto C 25 dL_home_7 (by decide) ?_
  refine G.ildn3 C dL_home_25 ?_
  exact G.iretH C (by omega) (by omega) hlk hrt dL_home_26 (by rfl) (by exact fun _ h => h)
set_option maxRecDepth 100000 in
set_option maxHeartbeats 4000000 in
theorem k_L_home_t1 (l : Launch) {E : gEn} {σ : gSt} {π : Nat → Nat} {o : Int64} (hst : l.stackTraces = false) {c0 c1 c2 c9 : cSt} {x t : Int32} (hx : cEx c0 x = false) : CtH l yL_home wsL_home ({ frames := 8, cells := 1, slots := 6, locals := 170 } : Room) E [.ref (E.2.1 9 0), .int x, .int t] (gT σ c0 c1 c2 c9) π o ((-31)) (gT σ c0 c1 c2 c9) π o := by
  refine CtH.of (cc := cL_home) (own := RL) (maxL := 5) (ret := (some .int)) [some (.ref (E.2.1 9 0)), some (.int x), some (.int t), none, none] (by decide) rfl rfl (Nat.le_of_ble_eq_true rfl) rfl ?_
  intro p e s m args below meth cd C hX hY htab hrt hlk
  refine G.aldn0 C dL_home_0 ?_
  refine G.ildn1 C dL_home_1 ?_
  refine G.ildn2 C dL_home_2 ?_
  refine G.xcatchV2 C hX hY [] ⟨0, 7, 10, 15⟩ [⟨0, 7, 15, 17⟩, ⟨0, 7, 20, 19⟩] htab (fun z hz => by cases hz) (by decide) (by decide) (by decide +kernel : Cond.classLink RL 15 "java/lang/IndexOutOfBoundsException" ∈ wsL_home) (by decide) (k_X3_home_t1 l hst hx) (cwV 2 C.1.2.2.2.2 gL_home_X3_home rfl rfl rfl (by decide +kernel) ⟨Nat.le_of_ble_eq_true rfl, Nat.le_of_ble_eq_true rfl⟩) gO_m rfl (Nat.le_of_ble_eq_true rfl) dL_home_3 ⟨by decide, by decide⟩ (fun q9 C => ?_)
  refine G.ast4 C dL_home_10 (by omega) rfl ?_
  refine G.bipush C (-31) dL_home_12 (by decide) ?_
  exact G.iretH C (by omega) (by omega) hlk hrt dL_home_14 (by rfl) (by exact fun _ h => h)
set_option maxRecDepth 100000 in
set_option maxHeartbeats 4000000 in
theorem k_L_home_t2 (l : Launch) {E : gEn} {σ : gSt} {π : Nat → Nat} {o : Int64} (hst : l.stackTraces = false) {c0 c1 c2 c9 : cSt} {x t : Int32} (hx : cEx c0 x = true) (ht : ¬ (¬ t < 0 ∧ t ≤ 1439)) : CtH l yL_home wsL_home ({ frames := 8, cells := 1, slots := 6, locals := 170 } : Room) E [.ref (E.2.1 9 0), .int x, .int t] (gT σ c0 c1 c2 c9) π o ((-32)) (gT σ c0 c1 c2 c9) π o := by
  refine CtH.of (cc := cL_home) (own := RL) (maxL := 5) (ret := (some .int)) [some (.ref (E.2.1 9 0)), some (.int x), some (.int t), none, none] (by decide) rfl rfl (Nat.le_of_ble_eq_true rfl) rfl ?_
  intro p e s m args below meth cd C hX hY htab hrt hlk
  refine G.aldn0 C dL_home_0 ?_
  refine G.ildn1 C dL_home_1 ?_
  refine G.ildn2 C dL_home_2 ?_
  refine G.xcatchV2 C hX hY [⟨0, 7, 10, 15⟩] ⟨0, 7, 15, 17⟩ [⟨0, 7, 20, 19⟩] htab (fun z hz => by obtain rfl := List.mem_singleton.mp hz; exact ⟨by decide, "java/lang/IndexOutOfBoundsException", (by decide +kernel : Cond.classLink RL 15 "java/lang/IndexOutOfBoundsException" ∈ wsL_home), by decide⟩) (by decide) (by decide) (by decide +kernel : Cond.classLink RL 17 "java/lang/IllegalArgumentException" ∈ wsL_home) (by decide) (k_X3_home_t2 l hst hx ht) (cwV 2 C.1.2.2.2.2 gL_home_X3_home rfl rfl rfl (by decide +kernel) ⟨Nat.le_of_ble_eq_true rfl, Nat.le_of_ble_eq_true rfl⟩) gO_m rfl (Nat.le_of_ble_eq_true rfl) dL_home_3 ⟨by decide, by decide⟩ (fun q9 C => ?_)
  refine G.ast4 C dL_home_15 (by omega) rfl ?_
  refine G.bipush C (-32) dL_home_17 (by decide) ?_
  exact G.iretH C (by omega) (by omega) hlk hrt dL_home_19 (by rfl) (by exact fun _ h => h)
set_option maxRecDepth 100000 in
set_option maxHeartbeats 4000000 in
theorem k_L_home_t3 (l : Launch) {E : gEn} {σ : gSt} {π : Nat → Nat} {o : Int64} (hst : l.stackTraces = false) {c0 c1 c2 c9 : cSt} {x t : Int32} (hx : cEx c0 x = true) (ht0 : ¬ t < 0) (ht1 : t ≤ 1439) (hw : ¬ cWhyHome c0 x t = 0) : CtH l yL_home wsL_home ({ frames := 8, cells := 1, slots := 6, locals := 170 } : Room) E [.ref (E.2.1 9 0), .int x, .int t] (gT σ c0 c1 c2 c9) π o ((-33)) (gT σ c0 c1 c2 c9) π o := by
  refine CtH.of (cc := cL_home) (own := RL) (maxL := 5) (ret := (some .int)) [some (.ref (E.2.1 9 0)), some (.int x), some (.int t), none, none] (by decide) rfl rfl (Nat.le_of_ble_eq_true rfl) rfl ?_
  intro p e s m args below meth cd C hX hY htab hrt hlk
  refine G.aldn0 C dL_home_0 ?_
  refine G.ildn1 C dL_home_1 ?_
  refine G.ildn2 C dL_home_2 ?_
  refine G.xcatchV2 C hX hY [⟨0, 7, 10, 15⟩, ⟨0, 7, 15, 17⟩] ⟨0, 7, 20, 19⟩ [] htab (fun z hz => by simp only [List.mem_cons, List.not_mem_nil, or_false] at hz; rcases hz with rfl | rfl; exact ⟨by decide, "java/lang/IndexOutOfBoundsException", (by decide +kernel : Cond.classLink RL 15 "java/lang/IndexOutOfBoundsException" ∈ wsL_home), by decide⟩; exact ⟨by decide, "java/lang/IllegalArgumentException", (by decide +kernel : Cond.classLink RL 17 "java/lang/IllegalArgumentException" ∈ wsL_home), by decide⟩) (by decide) (by decide) (by decide +kernel : Cond.classLink RL 19 "java/lang/IllegalStateException" ∈ wsL_home) (by decide) (k_X3_home_t3 l hst hx ht0 ht1 hw) (cwV 2 C.1.2.2.2.2 gL_home_X3_home rfl rfl rfl (by decide +kernel) ⟨Nat.le_of_ble_eq_true rfl, Nat.le_of_ble_eq_true rfl⟩) gO_m rfl (Nat.le_of_ble_eq_true rfl) dL_home_3 ⟨by decide, by decide⟩ (fun q9 C => ?_)
  refine G.ast4 C dL_home_20 (by omega) rfl ?_
  refine G.bipush C (-33) dL_home_22 (by decide) ?_
  exact G.iretH C (by omega) (by omega) hlk hrt dL_home_24 (by rfl) (by exact fun _ h => h)
set_option maxRecDepth 100000 in
set_option maxHeartbeats 4000000 in
theorem k_L_undo (l : Launch) {E : gEn} {σ : gSt} {π : Nat → Nat} {o : Int64} {c0 c1 c2 c9 : cSt} {sv : Nat} (hs : c9 0 5 = nI (sv + 1)) (hle : sv < 6) (hπ : ∀ k, k < 6 → 3 ≤ π k ∧ π k < 9) : CtH l yL_undo wsL_undo ({ frames := 8, cells := 1, slots := 6, locals := 170 } : Room) E [.ref (E.2.1 9 0)] (gT σ c0 c1 c2 c9) π o ((nI sv)) (gT σ (σ (π sv)) c1 c2 (cW c9 0 5 (nI sv))) π o := by
  refine CtH.of (cc := cL_undo) (own := RL) (maxL := 3) (ret := (some .int)) [some (.ref (E.2.1 9 0)), none, none] (by decide) rfl rfl (Nat.le_of_ble_eq_true rfl) rfl ?_
  intro p e s m args below meth cd C hX hY htab hrt hlk
  refine G.aldn0 C dL_undo_0 ?_
  refine G.callVI0 C (k_X3_undo l hs hle hπ) (cwV 0 C.1.2.2.2.2 gL_undo_X3_undo rfl rfl rfl (by decide +kernel) ⟨Nat.le_of_ble_eq_true rfl, Nat.le_of_ble_eq_true rfl⟩) gO_m rfl (Nat.le_of_ble_eq_true rfl) dL_undo_1 ?_
  refine G.istn1 C dL_undo_4 (by omega) rfl ?_
  refine G.goto C 12 dL_undo_5 (by decide) ?_
  refine G.ildn1 C dL_undo_12 ?_
  exact G.iretH C (by omega) (by omega) hlk hrt dL_undo_13 (by rfl) (by exact fun _ h => h)
set_option maxRecDepth 100000 in
set_option maxHeartbeats 4000000 in
theorem k_L_undo_t (l : Launch) {E : gEn} {σ : gSt} {π : Nat → Nat} {o : Int64} (hst : l.stackTraces = false) {c0 c1 c2 c9 : cSt} (hs : c9 0 5 = 0) : CtH l yL_undo wsL_undo ({ frames := 8, cells := 1, slots := 6, locals := 170 } : Room) E [.ref (E.2.1 9 0)] (gT σ c0 c1 c2 c9) π o ((-33)) (gT σ c0 c1 c2 c9) π o := by
  refine CtH.of (cc := cL_undo) (own := RL) (maxL := 3) (ret := (some .int)) [some (.ref (E.2.1 9 0)), none, none] (by decide) rfl rfl (Nat.le_of_ble_eq_true rfl) rfl ?_
  intro p e s m args below meth cd C hX hY htab hrt hlk
  refine G.aldn0 C dL_undo_0 ?_
  refine G.xcatchV0 C hX hY [] ⟨0, 5, 8, 19⟩ [] htab (fun z hz => by cases hz) (by decide) (by decide) (by decide +kernel : Cond.classLink RL 19 "java/lang/IllegalStateException" ∈ wsL_undo) (by decide) (k_X3_undo_t l hst hs) (cwV 0 C.1.2.2.2.2 gL_undo_X3_undo rfl rfl rfl (by decide +kernel) ⟨Nat.le_of_ble_eq_true rfl, Nat.le_of_ble_eq_true rfl⟩) gO_m rfl (Nat.le_of_ble_eq_true rfl) dL_undo_1 ⟨by decide, by decide⟩ (fun q9 C => ?_)
  refine G.astn2 C dL_undo_8 (by omega) rfl ?_
  refine G.bipush C (-33) dL_undo_9 (by decide) ?_
  exact G.iretH C (by omega) (by omega) hlk hrt dL_undo_11 (by rfl) (by exact fun _ h => h)
set_option maxRecDepth 100000 in
set_option maxHeartbeats 4000000 in
theorem k_L_restore (l : Launch) {E : gEn} {σ : gSt} {π : Nat → Nat} {o : Int64} {c0 c1 c2 c9 : cSt} (hk : ¬ c9 0 3 = 0) {sv : Nat} (hs : c9 0 5 = nI sv) (hle : sv ≤ 6) (hπ : ∀ k, k < 6 → 3 ≤ π k ∧ π k < 9) : CtH l yL_restore wsL_restore ({ frames := 8, cells := 1, slots := 6, locals := 170 } : Room) E [.ref (E.2.1 9 0)] (gT σ c0 c1 c2 c9) π o ((c2 0 6)) (gT (svS σ π sv c0) c2 c1 c2 (sv9 c9 sv)) (svP π sv) o := by
  refine CtH.of (cc := cL_restore) (own := RL) (maxL := 3) (ret := (some .int)) [some (.ref (E.2.1 9 0)), none, none] (by decide) rfl rfl (Nat.le_of_ble_eq_true rfl) rfl ?_
  intro p e s m args below meth cd C hX hY htab hrt hlk
  refine G.aldn0 C dL_restore_0 ?_
  refine G.callVI0 C (k_X3_restore l hk hs hle hπ) (cwV 0 C.1.2.2.2.2 gL_restore_X3_restore rfl rfl rfl (by decide +kernel) ⟨Nat.le_of_ble_eq_true rfl, Nat.le_of_ble_eq_true rfl⟩) gO_m rfl (Nat.le_of_ble_eq_true rfl) dL_restore_1 ?_
  refine G.istn1 C dL_restore_4 (by omega) rfl ?_
  refine G.goto C 12 dL_restore_5 (by decide) ?_
  refine G.ildn1 C dL_restore_12 ?_
  exact G.iretH C (by omega) (by omega) hlk hrt dL_restore_13 (by rfl) (by exact fun _ h => h)
set_option maxRecDepth 100000 in
set_option maxHeartbeats 4000000 in
theorem k_L_restore_t (l : Launch) {E : gEn} {σ : gSt} {π : Nat → Nat} {o : Int64} (hst : l.stackTraces = false) {c0 c1 c2 c9 : cSt} (hk : c9 0 3 = 0) : CtH l yL_restore wsL_restore ({ frames := 8, cells := 1, slots := 6, locals := 170 } : Room) E [.ref (E.2.1 9 0)] (gT σ c0 c1 c2 c9) π o ((-33)) (gT σ c0 c1 c2 c9) π o := by
  refine CtH.of (cc := cL_restore) (own := RL) (maxL := 3) (ret := (some .int)) [some (.ref (E.2.1 9 0)), none, none] (by decide) rfl rfl (Nat.le_of_ble_eq_true rfl) rfl ?_
  intro p e s m args below meth cd C hX hY htab hrt hlk
  refine G.aldn0 C dL_restore_0 ?_
  refine G.xcatchV0 C hX hY [] ⟨0, 5, 8, 19⟩ [] htab (fun z hz => by cases hz) (by decide) (by decide) (by decide +kernel : Cond.classLink RL 19 "java/lang/IllegalStateException" ∈ wsL_restore) (by decide) (k_X3_restore_t l hst hk) (cwV 0 C.1.2.2.2.2 gL_restore_X3_restore rfl rfl rfl (by decide +kernel) ⟨Nat.le_of_ble_eq_true rfl, Nat.le_of_ble_eq_true rfl⟩) gO_m rfl (Nat.le_of_ble_eq_true rfl) dL_restore_1 ⟨by decide, by decide⟩ (fun q9 C => ?_)
  refine G.astn2 C dL_restore_8 (by omega) rfl ?_
  refine G.bipush C (-33) dL_restore_9 (by decide) ?_
  exact G.iretH C (by omega) (by omega) hlk hrt dL_restore_11 (by rfl) (by exact fun _ h => h)
set_option maxRecDepth 100000 in
set_option maxHeartbeats 4000000 in
theorem k_L_dove (l : Launch) {E : gEn} {σ : gSt} {π : Nat → Nat} {o : Int64} {c0 c1 c2 c9 : cSt} {x y : Int32} (hx : cEx c0 x = true) (hy0 : ¬ y < 0) (hy8 : y < 8) : CtH l yL_dove wsL_dove ({ frames := 8, cells := 1, slots := 6, locals := 170 } : Room) E [.ref (E.2.1 9 0), .int x, .int y] (gT σ c0 c1 c2 c9) π o ((c0 (2 + ix y) (ix x))) (gT σ c0 c1 c2 c9) π o := by
  refine CtH.of (cc := cL_dove) (own := RL) (maxL := 5) (ret := (some .int)) [some (.ref (E.2.1 9 0)), some (.int x), some (.int y), none, none] (by decide) rfl rfl (Nat.le_of_ble_eq_true rfl) rfl ?_
  intro p e s m args below meth cd C hX hY htab hrt hlk
  refine G.aldn0 C dL_dove_0 ?_
  refine G.ildn1 C dL_dove_1 ?_
  refine G.ildn2 C dL_dove_2 ?_
  refine G.callVI2 C (k_X3_dove l hx hy0 hy8) (cwV 2 C.1.2.2.2.2 gL_dove_X3_dove rfl rfl rfl (by decide +kernel) ⟨Nat.le_of_ble_eq_true rfl, Nat.le_of_ble_eq_true rfl⟩) gO_m rfl (Nat.le_of_ble_eq_true rfl) dL_dove_3 ?_
  refine G.istn3 C dL_dove_6 (by omega) rfl ?_
  refine G.goto C 20 dL_dove_7 (by decide) ?_
  refine G.ildn3 C dL_dove_20 ?_
  exact G.iretH C (by omega) (by omega) hlk hrt dL_dove_21 (by rfl) (by exact fun _ h => h)
set_option maxRecDepth 100000 in
set_option maxHeartbeats 4000000 in
theorem k_L_dove_t1 (l : Launch) {E : gEn} {σ : gSt} {π : Nat → Nat} {o : Int64} (hst : l.stackTraces = false) {c0 c1 c2 c9 : cSt} {x y : Int32} (hx : cEx c0 x = false) : CtH l yL_dove wsL_dove ({ frames := 8, cells := 1, slots := 6, locals := 170 } : Room) E [.ref (E.2.1 9 0), .int x, .int y] (gT σ c0 c1 c2 c9) π o ((-31)) (gT σ c0 c1 c2 c9) π o := by
  refine CtH.of (cc := cL_dove) (own := RL) (maxL := 5) (ret := (some .int)) [some (.ref (E.2.1 9 0)), some (.int x), some (.int y), none, none] (by decide) rfl rfl (Nat.le_of_ble_eq_true rfl) rfl ?_
  intro p e s m args below meth cd C hX hY htab hrt hlk
  refine G.aldn0 C dL_dove_0 ?_
  refine G.ildn1 C dL_dove_1 ?_
  refine G.ildn2 C dL_dove_2 ?_
  refine G.xcatchV2 C hX hY [] ⟨0, 7, 10, 15⟩ [⟨0, 7, 15, 17⟩] htab (fun z hz => by cases hz) (by decide) (by decide) (by decide +kernel : Cond.classLink RL 15 "java/lang/IndexOutOfBoundsException" ∈ wsL_dove) (by decide) (k_X3_dove_t1 l hst hx) (cwV 2 C.1.2.2.2.2 gL_dove_X3_dove rfl rfl rfl (by decide +kernel) ⟨Nat.le_of_ble_eq_true rfl, Nat.le_of_ble_eq_true rfl⟩) gO_m rfl (Nat.le_of_ble_eq_true rfl) dL_dove_3 ⟨by decide, by decide⟩ (fun q9 C => ?_)
  refine G.ast4 C dL_dove_10 (by omega) rfl ?_
  refine G.bipush C (-31) dL_dove_12 (by decide) ?_
  exact G.iretH C (by omega) (by omega) hlk hrt dL_dove_14 (by rfl) (by exact fun _ h => h)
set_option maxRecDepth 100000 in
set_option maxHeartbeats 4000000 in
theorem k_L_dove_t2 (l : Launch) {E : gEn} {σ : gSt} {π : Nat → Nat} {o : Int64} (hst : l.stackTraces = false) {c0 c1 c2 c9 : cSt} {x y : Int32} (hx : cEx c0 x = true) (hy : ¬ (¬ y < 0 ∧ y < 8)) : CtH l yL_dove wsL_dove ({ frames := 8, cells := 1, slots := 6, locals := 170 } : Room) E [.ref (E.2.1 9 0), .int x, .int y] (gT σ c0 c1 c2 c9) π o ((-32)) (gT σ c0 c1 c2 c9) π o := by
  refine CtH.of (cc := cL_dove) (own := RL) (maxL := 5) (ret := (some .int)) [some (.ref (E.2.1 9 0)), some (.int x), some (.int y), none, none] (by decide) rfl rfl (Nat.le_of_ble_eq_true rfl) rfl ?_
  intro p e s m args below meth cd C hX hY htab hrt hlk
  refine G.aldn0 C dL_dove_0 ?_
  refine G.ildn1 C dL_dove_1 ?_
  refine G.ildn2 C dL_dove_2 ?_
  refine G.xcatchV2 C hX hY [⟨0, 7, 10, 15⟩] ⟨0, 7, 15, 17⟩ [] htab (fun z hz => by obtain rfl := List.mem_singleton.mp hz; exact ⟨by decide, "java/lang/IndexOutOfBoundsException", (by decide +kernel : Cond.classLink RL 15 "java/lang/IndexOutOfBoundsException" ∈ wsL_dove), by decide⟩) (by decide) (by decide) (by decide +kernel : Cond.classLink RL 17 "java/lang/IllegalArgumentException" ∈ wsL_dove) (by decide) (k_X3_dove_t2 l hst hx hy) (cwV 2 C.1.2.2.2.2 gL_dove_X3_dove rfl rfl rfl (by decide +kernel) ⟨Nat.le_of_ble_eq_true rfl, Nat.le_of_ble_eq_true rfl⟩) gO_m rfl (Nat.le_of_ble_eq_true rfl) dL_dove_3 ⟨by decide, by decide⟩ (fun q9 C => ?_)
  refine G.ast4 C dL_dove_15 (by omega) rfl ?_
  refine G.bipush C (-32) dL_dove_17 (by decide) ?_
  exact G.iretH C (by omega) (by omega) hlk hrt dL_dove_19 (by rfl) (by exact fun _ h => h)
set_option maxRecDepth 100000 in
set_option maxHeartbeats 4000000 in
theorem k_L_hole (l : Launch) {E : gEn} {σ : gSt} {π : Nat → Nat} {o : Int64} {c0 c1 c2 c9 : cSt} {x y : Int32} (hx : hHole x = true) (hy0 : ¬ y < 0) (hy3 : y < 3) : CtH l yL_hole wsL_hole ({ frames := 8, cells := 1, slots := 6, locals := 170 } : Room) E [.ref (E.2.1 9 0), .int x, .int y] (gT σ c0 c1 c2 c9) π o ((c0 (11 + ix y) (ix x))) (gT σ c0 c1 c2 c9) π o := by
  refine CtH.of (cc := cL_hole) (own := RL) (maxL := 5) (ret := (some .int)) [some (.ref (E.2.1 9 0)), some (.int x), some (.int y), none, none] (by decide) rfl rfl (Nat.le_of_ble_eq_true rfl) rfl ?_
  intro p e s m args below meth cd C hX hY htab hrt hlk
  refine G.aldn0 C dL_hole_0 ?_
  refine G.ildn1 C dL_hole_1 ?_
  refine G.ildn2 C dL_hole_2 ?_
  refine G.callVI2 C (k_X3_hole l hx hy0 hy3) (cwV 2 C.1.2.2.2.2 gL_hole_X3_hole rfl rfl rfl (by decide +kernel) ⟨Nat.le_of_ble_eq_true rfl, Nat.le_of_ble_eq_true rfl⟩) gO_m rfl (Nat.le_of_ble_eq_true rfl) dL_hole_3 ?_
  refine G.istn3 C dL_hole_6 (by omega) rfl ?_
  refine G.goto C 20 dL_hole_7 (by decide) ?_
  refine G.ildn3 C dL_hole_20 ?_
  exact G.iretH C (by omega) (by omega) hlk hrt dL_hole_21 (by rfl) (by exact fun _ h => h)
set_option maxRecDepth 100000 in
set_option maxHeartbeats 4000000 in
theorem k_L_hole_t1 (l : Launch) {E : gEn} {σ : gSt} {π : Nat → Nat} {o : Int64} (hst : l.stackTraces = false) {c0 c1 c2 c9 : cSt} {x y : Int32} (hx : hHole x = false) : CtH l yL_hole wsL_hole ({ frames := 8, cells := 1, slots := 6, locals := 170 } : Room) E [.ref (E.2.1 9 0), .int x, .int y] (gT σ c0 c1 c2 c9) π o ((-31)) (gT σ c0 c1 c2 c9) π o := by
  refine CtH.of (cc := cL_hole) (own := RL) (maxL := 5) (ret := (some .int)) [some (.ref (E.2.1 9 0)), some (.int x), some (.int y), none, none] (by decide) rfl rfl (Nat.le_of_ble_eq_true rfl) rfl ?_
  intro p e s m args below meth cd C hX hY htab hrt hlk
  refine G.aldn0 C dL_hole_0 ?_
  refine G.ildn1 C dL_hole_1 ?_
  refine G.ildn2 C dL_hole_2 ?_
  refine G.xcatchV2 C hX hY [] ⟨0, 7, 10, 15⟩ [⟨0, 7, 15, 17⟩] htab (fun z hz => by cases hz) (by decide) (by decide) (by decide +kernel : Cond.classLink RL 15 "java/lang/IndexOutOfBoundsException" ∈ wsL_hole) (by decide) (k_X3_hole_t1 l hst hx) (cwV 2 C.1.2.2.2.2 gL_hole_X3_hole rfl rfl rfl (by decide +kernel) ⟨Nat.le_of_ble_eq_true rfl, Nat.le_of_ble_eq_true rfl⟩) gO_m rfl (Nat.le_of_ble_eq_true rfl) dL_hole_3 ⟨by decide, by decide⟩ (fun q9 C => ?_)
  refine G.ast4 C dL_hole_10 (by omega) rfl ?_
  refine G.bipush C (-31) dL_hole_12 (by decide) ?_
  exact G.iretH C (by omega) (by omega) hlk hrt dL_hole_14 (by rfl) (by exact fun _ h => h)
set_option maxRecDepth 100000 in
set_option maxHeartbeats 4000000 in
theorem k_L_hole_t2 (l : Launch) {E : gEn} {σ : gSt} {π : Nat → Nat} {o : Int64} (hst : l.stackTraces = false) {c0 c1 c2 c9 : cSt} {x y : Int32} (hx : hHole x = true) (hy : ¬ (¬ y < 0 ∧ y < 3)) : CtH l yL_hole wsL_hole ({ frames := 8, cells := 1, slots := 6, locals := 170 } : Room) E [.ref (E.2.1 9 0), .int x, .int y] (gT σ c0 c1 c2 c9) π o ((-32)) (gT σ c0 c1 c2 c9) π o := by
  refine CtH.of (cc := cL_hole) (own := RL) (maxL := 5) (ret := (some .int)) [some (.ref (E.2.1 9 0)), some (.int x), some (.int y), none, none] (by decide) rfl rfl (Nat.le_of_ble_eq_true rfl) rfl ?_
  intro p e s m args below meth cd C hX hY htab hrt hlk
  refine G.aldn0 C dL_hole_0 ?_
  refine G.ildn1 C dL_hole_1 ?_
  refine G.ildn2 C dL_hole_2 ?_
  refine G.xcatchV2 C hX hY [⟨0, 7, 10, 15⟩] ⟨0, 7, 15, 17⟩ [] htab (fun z hz => by obtain rfl := List.mem_singleton.mp hz; exact ⟨by decide, "java/lang/IndexOutOfBoundsException", (by decide +kernel : Cond.classLink RL 15 "java/lang/IndexOutOfBoundsException" ∈ wsL_hole), by decide⟩) (by decide) (by decide) (by decide +kernel : Cond.classLink RL 17 "java/lang/IllegalArgumentException" ∈ wsL_hole) (by decide) (k_X3_hole_t2 l hst hx hy) (cwV 2 C.1.2.2.2.2 gL_hole_X3_hole rfl rfl rfl (by decide +kernel) ⟨Nat.le_of_ble_eq_true rfl, Nat.le_of_ble_eq_true rfl⟩) gO_m rfl (Nat.le_of_ble_eq_true rfl) dL_hole_3 ⟨by decide, by decide⟩ (fun q9 C => ?_)
  refine G.ast4 C dL_hole_15 (by omega) rfl ?_
  refine G.bipush C (-32) dL_hole_17 (by decide) ?_
  exact G.iretH C (by omega) (by omega) hlk hrt dL_hole_19 (by rfl) (by exact fun _ h => h)
set_option maxRecDepth 100000 in
set_option maxHeartbeats 4000000 in
theorem k_L_step (l : Launch) {E : gEn} {σ : gSt} {π : Nat → Nat} {o : Int64} {c0 c1 c2 c9 : cSt} {x y : Int32} (hx0 : ¬ x < 0) (hy0 : ¬ y < 0) (hy1 : y ≤ 1) {n0 : Nat} (hn0 : c0 17 2 = nI n0) (h25 : n0 ≤ 25) : CtH l yL_step wsL_step ({ frames := 8, cells := 1, slots := 6, locals := 170 } : Room) E [.ref (E.2.1 9 0), .int x, .int y] (gT σ c0 c1 c2 c9) π o ((if c0 17 2 ≤ x then -1 else if y = 0 then c0 18 (ix x) else c0 19 (ix x))) (gT σ c0 c1 c2 c9) π o := by
  refine CtH.of (cc := cL_step) (own := RL) (maxL := 5) (ret := (some .int)) [some (.ref (E.2.1 9 0)), some (.int x), some (.int y), none, none] (by decide) rfl rfl (Nat.le_of_ble_eq_true rfl) rfl ?_
  intro p e s m args below meth cd C hX hY htab hrt hlk
  refine G.aldn0 C dL_step_0 ?_
  refine G.ildn1 C dL_step_1 ?_
  refine G.ildn2 C dL_step_2 ?_
  refine G.callVI2 C (k_X3_step l hx0 hy0 hy1 hn0 h25) (cwV 2 C.1.2.2.2.2 gL_step_X3_step rfl rfl rfl (by decide +kernel) ⟨Nat.le_of_ble_eq_true rfl, Nat.le_of_ble_eq_true rfl⟩) gO_m rfl (Nat.le_of_ble_eq_true rfl) dL_step_3 ?_
  refine G.istn3 C dL_step_6 (by omega) rfl ?_
  refine G.goto C 15 dL_step_7 (by decide) ?_
  refine G.ildn3 C dL_step_15 ?_
  exact G.iretH C (by omega) (by omega) hlk hrt dL_step_16 (by rfl) (by exact fun _ h => h)
set_option maxRecDepth 100000 in
set_option maxHeartbeats 4000000 in
theorem k_L_step_t (l : Launch) {E : gEn} {σ : gSt} {π : Nat → Nat} {o : Int64} (hst : l.stackTraces = false) {c0 c1 c2 c9 : cSt} {x y : Int32} (hx : ¬ (¬ x < 0 ∧ ¬ y < 0 ∧ y ≤ 1)) : CtH l yL_step wsL_step ({ frames := 8, cells := 1, slots := 6, locals := 170 } : Room) E [.ref (E.2.1 9 0), .int x, .int y] (gT σ c0 c1 c2 c9) π o ((-32)) (gT σ c0 c1 c2 c9) π o := by
  refine CtH.of (cc := cL_step) (own := RL) (maxL := 5) (ret := (some .int)) [some (.ref (E.2.1 9 0)), some (.int x), some (.int y), none, none] (by decide) rfl rfl (Nat.le_of_ble_eq_true rfl) rfl ?_
  intro p e s m args below meth cd C hX hY htab hrt hlk
  refine G.aldn0 C dL_step_0 ?_
  refine G.ildn1 C dL_step_1 ?_
  refine G.ildn2 C dL_step_2 ?_
  refine G.xcatchV2 C hX hY [] ⟨0, 7, 10, 17⟩ [] htab (fun z hz => by cases hz) (by decide) (by decide) (by decide +kernel : Cond.classLink RL 17 "java/lang/IllegalArgumentException" ∈ wsL_step) (by decide) (k_X3_step_t l hst hx) (cwV 2 C.1.2.2.2.2 gL_step_X3_step rfl rfl rfl (by decide +kernel) ⟨Nat.le_of_ble_eq_true rfl, Nat.le_of_ble_eq_true rfl⟩) gO_m rfl (Nat.le_of_ble_eq_true rfl) dL_step_3 ⟨by decide, by decide⟩ (fun q9 C => ?_)
  refine G.ast4 C dL_step_10 (by omega) rfl ?_
  refine G.bipush C (-32) dL_step_12 (by decide) ?_
  exact G.iretH C (by omega) (by omega) hlk hrt dL_step_14 (by rfl) (by exact fun _ h => h)
set_option maxRecDepth 100000 in
set_option maxHeartbeats 4000000 in
theorem k_L_whyNot (l : Launch) {E : gEn} {σ : gSt} {π : Nat → Nat} {o : Int64} {c0 c1 c2 c9 : cSt} {x t : Int32} (hx : cEx c0 x = true) (ht0 : ¬ t < 0) (ht1 : t ≤ 1439) : CtH l yL_whyNot wsL_whyNot ({ frames := 8, cells := 1, slots := 6, locals := 170 } : Room) E [.ref (E.2.1 9 0), .int x, .int t] (gT σ c0 c1 c2 c9) π o ((cWhyHome c0 x t)) (gT σ c0 c1 c2 c9) π o := by
  refine CtH.of (cc := cL_whyNot) (own := RL) (maxL := 5) (ret := (some .int)) [some (.ref (E.2.1 9 0)), some (.int x), some (.int t), none, none] (by decide) rfl rfl (Nat.le_of_ble_eq_true rfl) rfl ?_
  intro p e s m args below meth cd C hX hY htab hrt hlk
  refine G.aldn0 C dL_whyNot_0 ?_
  refine G.ildn1 C dL_whyNot_1 ?_
  refine G.ildn2 C dL_whyNot_2 ?_
  refine G.callVI2 C (k_X3_whyNot l hx ht0 ht1) (cwV 2 C.1.2.2.2.2 gL_whyNot_X3_whyNot rfl rfl rfl (by decide +kernel) ⟨Nat.le_of_ble_eq_true rfl, Nat.le_of_ble_eq_true rfl⟩) gO_m rfl (Nat.le_of_ble_eq_true rfl) dL_whyNot_3 ?_
  refine G.istn3 C dL_whyNot_6 (by omega) rfl ?_
  refine G.goto C 20 dL_whyNot_7 (by decide) ?_
  refine G.ildn3 C dL_whyNot_20 ?_
  exact G.iretH C (by omega) (by omega) hlk hrt dL_whyNot_21 (by rfl) (by exact fun _ h => h)
set_option maxRecDepth 100000 in
set_option maxHeartbeats 4000000 in
theorem k_L_whyNot_t1 (l : Launch) {E : gEn} {σ : gSt} {π : Nat → Nat} {o : Int64} (hst : l.stackTraces = false) {c0 c1 c2 c9 : cSt} {x t : Int32} (hx : cEx c0 x = false) : CtH l yL_whyNot wsL_whyNot ({ frames := 8, cells := 1, slots := 6, locals := 170 } : Room) E [.ref (E.2.1 9 0), .int x, .int t] (gT σ c0 c1 c2 c9) π o ((-31)) (gT σ c0 c1 c2 c9) π o := by
  refine CtH.of (cc := cL_whyNot) (own := RL) (maxL := 5) (ret := (some .int)) [some (.ref (E.2.1 9 0)), some (.int x), some (.int t), none, none] (by decide) rfl rfl (Nat.le_of_ble_eq_true rfl) rfl ?_
  intro p e s m args below meth cd C hX hY htab hrt hlk
  refine G.aldn0 C dL_whyNot_0 ?_
  refine G.ildn1 C dL_whyNot_1 ?_
  refine G.ildn2 C dL_whyNot_2 ?_
  refine G.xcatchV2 C hX hY [] ⟨0, 7, 10, 15⟩ [⟨0, 7, 15, 17⟩] htab (fun z hz => by cases hz) (by decide) (by decide) (by decide +kernel : Cond.classLink RL 15 "java/lang/IndexOutOfBoundsException" ∈ wsL_whyNot) (by decide) (k_X3_whyNot_t1 l hst hx) (cwV 2 C.1.2.2.2.2 gL_whyNot_X3_whyNot rfl rfl rfl (by decide +kernel) ⟨Nat.le_of_ble_eq_true rfl, Nat.le_of_ble_eq_true rfl⟩) gO_m rfl (Nat.le_of_ble_eq_true rfl) dL_whyNot_3 ⟨by decide, by decide⟩ (fun q9 C => ?_)
  refine G.ast4 C dL_whyNot_10 (by omega) rfl ?_
  refine G.bipush C (-31) dL_whyNot_12 (by decide) ?_
  exact G.iretH C (by omega) (by omega) hlk hrt dL_whyNot_14 (by rfl) (by exact fun _ h => h)
set_option maxRecDepth 100000 in
set_option maxHeartbeats 4000000 in
theorem k_L_whyNot_t2 (l : Launch) {E : gEn} {σ : gSt} {π : Nat → Nat} {o : Int64} (hst : l.stackTraces = false) {c0 c1 c2 c9 : cSt} {x t : Int32} (hx : cEx c0 x = true) (ht : ¬ (¬ t < 0 ∧ t ≤ 1439)) : CtH l yL_whyNot wsL_whyNot ({ frames := 8, cells := 1, slots := 6, locals := 170 } : Room) E [.ref (E.2.1 9 0), .int x, .int t] (gT σ c0 c1 c2 c9) π o ((-32)) (gT σ c0 c1 c2 c9) π o := by
  refine CtH.of (cc := cL_whyNot) (own := RL) (maxL := 5) (ret := (some .int)) [some (.ref (E.2.1 9 0)), some (.int x), some (.int t), none, none] (by decide) rfl rfl (Nat.le_of_ble_eq_true rfl) rfl ?_
  intro p e s m args below meth cd C hX hY htab hrt hlk
  refine G.aldn0 C dL_whyNot_0 ?_
  refine G.ildn1 C dL_whyNot_1 ?_
  refine G.ildn2 C dL_whyNot_2 ?_
  refine G.xcatchV2 C hX hY [⟨0, 7, 10, 15⟩] ⟨0, 7, 15, 17⟩ [] htab (fun z hz => by obtain rfl := List.mem_singleton.mp hz; exact ⟨by decide, "java/lang/IndexOutOfBoundsException", (by decide +kernel : Cond.classLink RL 15 "java/lang/IndexOutOfBoundsException" ∈ wsL_whyNot), by decide⟩) (by decide) (by decide) (by decide +kernel : Cond.classLink RL 17 "java/lang/IllegalArgumentException" ∈ wsL_whyNot) (by decide) (k_X3_whyNot_t2 l hst hx ht) (cwV 2 C.1.2.2.2.2 gL_whyNot_X3_whyNot rfl rfl rfl (by decide +kernel) ⟨Nat.le_of_ble_eq_true rfl, Nat.le_of_ble_eq_true rfl⟩) gO_m rfl (Nat.le_of_ble_eq_true rfl) dL_whyNot_3 ⟨by decide, by decide⟩ (fun q9 C => ?_)
  refine G.ast4 C dL_whyNot_15 (by omega) rfl ?_
  refine G.bipush C (-32) dL_whyNot_17 (by decide) ?_
  exact G.iretH C (by omega) (by omega) hlk hrt dL_whyNot_19 (by rfl) (by exact fun _ h => h)
set_option maxRecDepth 100000 in
set_option maxHeartbeats 4000000 in
theorem k_L_ifHome (l : Launch) {E : gEn} {σ : gSt} {π : Nat → Nat} {o : Int64} {c0 c1 c2 c9 : cSt} {x t w : Int32} (hx : cEx c0 x = true) (ht0 : ¬ t < 0) (ht1 : t ≤ 1439) (hw0 : ¬ w < 0) (hw2 : w ≤ 2) : CtH l yL_ifHome wsL_ifHome ({ frames := 8, cells := 1, slots := 6, locals := 181 } : Room) E [.ref (E.2.1 9 0), .int x, .int t, .int w] (gT σ c0 c1 c2 c9) π o ((if (tTry c0 c1 x t).1 = true then tTN c0 (tTry c0 c1 x t).2 x w else -1)) (gT σ c0 (tTry c0 c1 x t).2 c2 c9) π o := by
  refine CtH.of (cc := cL_ifHome) (own := RL) (maxL := 6) (ret := (some .int)) [some (.ref (E.2.1 9 0)), some (.int x), some (.int t), some (.int w), none, none] (by decide) rfl rfl (Nat.le_of_ble_eq_true rfl) rfl ?_
  intro p e s m args below meth cd C hX hY htab hrt hlk
  refine G.aldn0 C dL_ifHome_0 ?_
  refine G.ildn1 C dL_ifHome_1 ?_
  refine G.ildn2 C dL_ifHome_2 ?_
  refine G.ildn3 C dL_ifHome_3 ?_
  refine G.callVI3 C (k_X3_ifHome l hx ht0 ht1 hw0 hw2) (cwV 3 C.1.2.2.2.2 gL_ifHome_X3_ifHome rfl rfl rfl (by decide +kernel) ⟨Nat.le_of_ble_eq_true rfl, Nat.le_of_ble_eq_true rfl⟩) gO_m rfl (Nat.le_of_ble_eq_true rfl) dL_ifHome_4 ?_
  refine G.ist4 C dL_ifHome_7 (by omega) rfl ?_
  refine G.goto C 22 dL_ifHome_9 (by decide) ?_
  refine G.ild4 C dL_ifHome_22 ?_
  exact G.iretH C (by omega) (by omega) hlk hrt dL_ifHome_24 (by rfl) (by exact fun _ h => h)
set_option maxRecDepth 100000 in
set_option maxHeartbeats 4000000 in
theorem k_L_ifHome_t1 (l : Launch) {E : gEn} {σ : gSt} {π : Nat → Nat} {o : Int64} (hst : l.stackTraces = false) {c0 c1 c2 c9 : cSt} {x t w : Int32} (hx : cEx c0 x = false) : CtH l yL_ifHome wsL_ifHome ({ frames := 8, cells := 1, slots := 6, locals := 181 } : Room) E [.ref (E.2.1 9 0), .int x, .int t, .int w] (gT σ c0 c1 c2 c9) π o ((-31)) (gT σ c0 c1 c2 c9) π o := by
  refine CtH.of (cc := cL_ifHome) (own := RL) (maxL := 6) (ret := (some .int)) [some (.ref (E.2.1 9 0)), some (.int x), some (.int t), some (.int w), none, none] (by decide) rfl rfl (Nat.le_of_ble_eq_true rfl) rfl ?_
  intro p e s m args below meth cd C hX hY htab hrt hlk
  refine G.aldn0 C dL_ifHome_0 ?_
  refine G.ildn1 C dL_ifHome_1 ?_
  refine G.ildn2 C dL_ifHome_2 ?_
  refine G.ildn3 C dL_ifHome_3 ?_
  refine G.xcatchV3 C hX hY [] ⟨0, 9, 12, 15⟩ [⟨0, 9, 17, 17⟩] htab (fun z hz => by cases hz) (by decide) (by decide) (by decide +kernel : Cond.classLink RL 15 "java/lang/IndexOutOfBoundsException" ∈ wsL_ifHome) (by decide) (k_X3_ifHome_t1 l hst hx) (cwV 3 C.1.2.2.2.2 gL_ifHome_X3_ifHome rfl rfl rfl (by decide +kernel) ⟨Nat.le_of_ble_eq_true rfl, Nat.le_of_ble_eq_true rfl⟩) gO_m rfl (Nat.le_of_ble_eq_true rfl) dL_ifHome_4 ⟨by decide, by decide⟩ (fun q9 C => ?_)
  refine G.ast5 C dL_ifHome_12 (by omega) rfl ?_
  refine G.bipush C (-31) dL_ifHome_14 (by decide) ?_
  exact G.iretH C (by omega) (by omega) hlk hrt dL_ifHome_16 (by rfl) (by exact fun _ h => h)
set_option maxRecDepth 100000 in
set_option maxHeartbeats 4000000 in
theorem k_L_ifHome_t2 (l : Launch) {E : gEn} {σ : gSt} {π : Nat → Nat} {o : Int64} (hst : l.stackTraces = false) {c0 c1 c2 c9 : cSt} {x t w : Int32} (hx : cEx c0 x = true) (ht : ¬ (¬ t < 0 ∧ t ≤ 1439)) : CtH l yL_ifHome wsL_ifHome ({ frames := 8, cells := 1, slots := 6, locals := 181 } : Room) E [.ref (E.2.1 9 0), .int x, .int t, .int w] (gT σ c0 c1 c2 c9) π o ((-32)) (gT σ c0 c1 c2 c9) π o := by
  refine CtH.of (cc := cL_ifHome) (own := RL) (maxL := 6) (ret := (some .int)) [some (.ref (E.2.1 9 0)), some (.int x), some (.int t), some (.int w), none, none] (by decide) rfl rfl (Nat.le_of_ble_eq_true rfl) rfl ?_
  intro p e s m args below meth cd C hX hY htab hrt hlk
  refine G.aldn0 C dL_ifHome_0 ?_
  refine G.ildn1 C dL_ifHome_1 ?_
  refine G.ildn2 C dL_ifHome_2 ?_
  refine G.ildn3 C dL_ifHome_3 ?_
  refine G.xcatchV3 C hX hY [⟨0, 9, 12, 15⟩] ⟨0, 9, 17, 17⟩ [] htab (fun z hz => by obtain rfl := List.mem_singleton.mp hz; exact ⟨by decide, "java/lang/IndexOutOfBoundsException", (by decide +kernel : Cond.classLink RL 15 "java/lang/IndexOutOfBoundsException" ∈ wsL_ifHome), by decide⟩) (by decide) (by decide) (by decide +kernel : Cond.classLink RL 17 "java/lang/IllegalArgumentException" ∈ wsL_ifHome) (by decide) (k_X3_ifHome_t2 l hst hx ht) (cwV 3 C.1.2.2.2.2 gL_ifHome_X3_ifHome rfl rfl rfl (by decide +kernel) ⟨Nat.le_of_ble_eq_true rfl, Nat.le_of_ble_eq_true rfl⟩) gO_m rfl (Nat.le_of_ble_eq_true rfl) dL_ifHome_4 ⟨by decide, by decide⟩ (fun q9 C => ?_)
  refine G.ast5 C dL_ifHome_17 (by omega) rfl ?_
  refine G.bipush C (-32) dL_ifHome_19 (by decide) ?_
  exact G.iretH C (by omega) (by omega) hlk hrt dL_ifHome_21 (by rfl) (by exact fun _ h => h)
set_option maxRecDepth 100000 in
set_option maxHeartbeats 4000000 in
theorem k_L_ifHome_t3 (l : Launch) {E : gEn} {σ : gSt} {π : Nat → Nat} {o : Int64} (hst : l.stackTraces = false) {c0 c1 c2 c9 : cSt} {x t w : Int32} (hx : cEx c0 x = true) (ht0 : ¬ t < 0) (ht1 : t ≤ 1439) (hw : ¬ (¬ w < 0 ∧ w ≤ 2)) : CtH l yL_ifHome wsL_ifHome ({ frames := 8, cells := 1, slots := 6, locals := 181 } : Room) E [.ref (E.2.1 9 0), .int x, .int t, .int w] (gT σ c0 c1 c2 c9) π o ((-32)) (gT σ c0 c1 c2 c9) π o := by
  refine CtH.of (cc := cL_ifHome) (own := RL) (maxL := 6) (ret := (some .int)) [some (.ref (E.2.1 9 0)), some (.int x), some (.int t), some (.int w), none, none] (by decide) rfl rfl (Nat.le_of_ble_eq_true rfl) rfl ?_
  intro p e s m args below meth cd C hX hY htab hrt hlk
  refine G.aldn0 C dL_ifHome_0 ?_
  refine G.ildn1 C dL_ifHome_1 ?_
  refine G.ildn2 C dL_ifHome_2 ?_
  refine G.ildn3 C dL_ifHome_3 ?_
  refine G.xcatchV3 C hX hY [⟨0, 9, 12, 15⟩] ⟨0, 9, 17, 17⟩ [] htab (fun z hz => by obtain rfl := List.mem_singleton.mp hz; exact ⟨by decide, "java/lang/IndexOutOfBoundsException", (by decide +kernel : Cond.classLink RL 15 "java/lang/IndexOutOfBoundsException" ∈ wsL_ifHome), by decide⟩) (by decide) (by decide) (by decide +kernel : Cond.classLink RL 17 "java/lang/IllegalArgumentException" ∈ wsL_ifHome) (by decide) (k_X3_ifHome_t3 l hst hx ht0 ht1 hw) (cwV 3 C.1.2.2.2.2 gL_ifHome_X3_ifHome rfl rfl rfl (by decide +kernel) ⟨Nat.le_of_ble_eq_true rfl, Nat.le_of_ble_eq_true rfl⟩) gO_m rfl (Nat.le_of_ble_eq_true rfl) dL_ifHome_4 ⟨by decide, by decide⟩ (fun q9 C => ?_)
  refine G.ast5 C dL_ifHome_17 (by omega) rfl ?_
  refine G.bipush C (-32) dL_ifHome_19 (by decide) ?_
  exact G.iretH C (by omega) (by omega) hlk hrt dL_ifHome_21 (by rfl) (by exact fun _ h => h)
