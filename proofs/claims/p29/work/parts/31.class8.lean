set_option maxRecDepth 100000 in
set_option maxHeartbeats 4000000 in
theorem k_X3_buy_t1 (l : Launch) {E : gEn} {σ : gSt} {π : Nat → Nat} {o : Int64} (hst : l.stackTraces = false) {c0 c1 c2 c9 : cSt} {x y : Int32} (hx : hHole x = false) : CtX l yX3_buy wsX3_buy ({ frames := 7, cells := 1, slots := 6, locals := 130 } : Room) E [.ref (E.2.1 9 0), .int x, .int y] (gT σ c0 c1 c2 c9) π o "java/lang/IndexOutOfBoundsException" (gT σ c0 c1 c2 c9) π o := by
  refine CtX.of (cc := cX3_buy) (own := RX3) (maxL := 3) (ret := (some .int)) [some (.ref (E.2.1 9 0)), some (.int x), some (.int y)] (by decide) rfl rfl (Nat.le_of_ble_eq_true rfl) rfl ?_
  intro p e s m args below meth cd C hX hnt hlk
  have hinX0 : ∀ w ∈ wsX00, w ∈ wsX3_buy := by decide +kernel
  have hinX2 : ∀ w ∈ wsX20, w ∈ wsX3_buy := by decide +kernel
  have hinX3 : ∀ w ∈ wsX30, w ∈ wsX3_buy := by decide +kernel
  refine G.ildn1 C dX3_buy_0 ?_
  exact G.xcallS1 C hX hlk hnt (k_X3_needHole_t l hst hx) (va_cwS 1 C.1.2.2.2.2 gX3_buy_X3_needHole rfl rfl rfl (by decide +kernel) ⟨Nat.le_of_ble_eq_true rfl, Nat.le_of_ble_eq_true rfl⟩) (Nat.le_of_ble_eq_true rfl) dX3_buy_1 ⟨by decide, by decide⟩
set_option maxRecDepth 100000 in
set_option maxHeartbeats 4000000 in
theorem k_X3_buy_t2 (l : Launch) {E : gEn} {σ : gSt} {π : Nat → Nat} {o : Int64} (hst : l.stackTraces = false) {c0 c1 c2 c9 : cSt} {x y : Int32} (hx : hHole x = true) (hy : ¬ (¬ y < 1 ∧ y ≤ 9)) : CtX l yX3_buy wsX3_buy ({ frames := 7, cells := 1, slots := 6, locals := 130 } : Room) E [.ref (E.2.1 9 0), .int x, .int y] (gT σ c0 c1 c2 c9) π o "java/lang/IllegalArgumentException" (gT σ c0 c1 c2 c9) π o := by
  refine CtX.of (cc := cX3_buy) (own := RX3) (maxL := 3) (ret := (some .int)) [some (.ref (E.2.1 9 0)), some (.int x), some (.int y)] (by decide) rfl rfl (Nat.le_of_ble_eq_true rfl) rfl ?_
  intro p e s m args below meth cd C hX hnt hlk
  have hinX0 : ∀ w ∈ wsX00, w ∈ wsX3_buy := by decide +kernel
  have hinX2 : ∀ w ∈ wsX20, w ∈ wsX3_buy := by decide +kernel
  have hinX3 : ∀ w ∈ wsX30, w ∈ wsX3_buy := by decide +kernel
  refine G.ildn1 C dX3_buy_0 ?_
  refine G.callSV1 C (k_X3_needHole l (by assumption)) (va_cwS 1 C.1.2.2.2.2 gX3_buy_X3_needHole rfl rfl rfl (by decide +kernel) ⟨Nat.le_of_ble_eq_true rfl, Nat.le_of_ble_eq_true rfl⟩) (Nat.le_of_ble_eq_true rfl) dX3_buy_1 ?_
  refine G.ildn2 C dX3_buy_4 ?_
  refine G.iconst C 1 dX3_buy_5 (by decide) ?_
  refine G.icmp_lt C 15 dX3_buy_6 (by decide) (fun h6 => ?_) (fun h6 => ?_)
  · exact G.throwS C hX hst hlk hnt (text := "strength is not 1 to 9") ["java/lang/RuntimeException", "java/lang/Exception"] (by decide +kernel) (by decide +kernel) (by decide) (by decide +kernel) (by decide +kernel) dX3_buy_15 dX3_buy_18 dX3_buy_19 dX3_buy_21 dX3_buy_24 ⟨by decide, by decide, by decide, by decide⟩
  · refine G.ildn2 C dX3_buy_9 ?_
    refine G.bipush C 9 dX3_buy_10 (by decide) ?_
    refine G.icmp_le C 25 dX3_buy_12 (by decide) (fun h12 => absurd h12 (fun q => hy ⟨h6, q⟩)) (fun h12 => ?_)
    exact G.throwS C hX hst hlk hnt (text := "strength is not 1 to 9") ["java/lang/RuntimeException", "java/lang/Exception"] (by decide +kernel) (by decide +kernel) (by decide) (by decide +kernel) (by decide +kernel) dX3_buy_15 dX3_buy_18 dX3_buy_19 dX3_buy_21 dX3_buy_24 ⟨by decide, by decide, by decide, by decide⟩
set_option maxRecDepth 100000 in
set_option maxHeartbeats 4000000 in
theorem k_X3_buy_t3 (l : Launch) {E : gEn} {σ : gSt} {π : Nat → Nat} {o : Int64} (hst : l.stackTraces = false) {c0 c1 c2 c9 : cSt} {x y : Int32} (hx : hHole x = true) (hy1 : ¬ y < 1) (hy9 : y ≤ 9) (hw : ¬ cWhyBuy c0 x = 0) : CtX l yX3_buy wsX3_buy ({ frames := 7, cells := 1, slots := 6, locals := 130 } : Room) E [.ref (E.2.1 9 0), .int x, .int y] (gT σ c0 c1 c2 c9) π o "java/lang/IllegalStateException" (gT σ c0 c1 c2 c9) π o := by
  refine CtX.of (cc := cX3_buy) (own := RX3) (maxL := 3) (ret := (some .int)) [some (.ref (E.2.1 9 0)), some (.int x), some (.int y)] (by decide) rfl rfl (Nat.le_of_ble_eq_true rfl) rfl ?_
  intro p e s m args below meth cd C hX hnt hlk
  have hinX0 : ∀ w ∈ wsX00, w ∈ wsX3_buy := by decide +kernel
  have hinX2 : ∀ w ∈ wsX20, w ∈ wsX3_buy := by decide +kernel
  have hinX3 : ∀ w ∈ wsX30, w ∈ wsX3_buy := by decide +kernel
  refine G.ildn1 C dX3_buy_0 ?_
  refine G.callSV1 C (k_X3_needHole l (by assumption)) (va_cwS 1 C.1.2.2.2.2 gX3_buy_X3_needHole rfl rfl rfl (by decide +kernel) ⟨Nat.le_of_ble_eq_true rfl, Nat.le_of_ble_eq_true rfl⟩) (Nat.le_of_ble_eq_true rfl) dX3_buy_1 ?_
  refine G.ildn2 C dX3_buy_4 ?_
  refine G.iconst C 1 dX3_buy_5 (by decide) ?_
  refine G.icmp_lt C 15 dX3_buy_6 (by decide) (fun h6 => absurd h6 (hy1)) (fun h6 => ?_)
  refine G.ildn2 C dX3_buy_9 ?_
  refine G.bipush C 9 dX3_buy_10 (by decide) ?_
  refine G.icmp_le C 25 dX3_buy_12 (by decide) (fun h12 => ?_) (fun h12 => absurd (hy9) h12)
  refine G.aldn0 C dX3_buy_25 ?_
  refine G.getMT C hinX3 0 (by decide) rfl (C.1.2.2.2.2 (.fieldLink RX3 10 RX3 "now" "LLateDoves$Cote;") (by decide +kernel)) rfl dX3_buy_26 ?_
  refine G.ildn1 C dX3_buy_29 ?_
  refine G.callVI1 C (T0I (k_X0_reasonNotToBuy l (by omega) (hHole_in hx))) (cwV 1 C.1.2.2.2.2 gX3_buy_X0_reasonNotToBuy rfl rfl rfl (by decide +kernel) ⟨Nat.le_of_ble_eq_true rfl, Nat.le_of_ble_eq_true rfl⟩) (gO_c (by omega)) rfl (Nat.le_of_ble_eq_true rfl) dX3_buy_30 ?_
  refine G.if_eq C 46 dX3_buy_33 (by decide) (fun h33 => absurd h33 (hw)) (fun h33 => ?_)
  exact G.throwS C hX hst hlk hnt (text := "the dove cannot be bought") ["java/lang/RuntimeException", "java/lang/Exception"] (by decide +kernel) (by decide +kernel) (by decide) (by decide +kernel) (by decide +kernel) dX3_buy_36 dX3_buy_39 dX3_buy_40 dX3_buy_42 dX3_buy_45 ⟨by decide, by decide, by decide, by decide⟩
set_option maxRecDepth 100000 in
set_option maxHeartbeats 4000000 in
theorem k_X3_sell_t (l : Launch) {E : gEn} {σ : gSt} {π : Nat → Nat} {o : Int64} (hst : l.stackTraces = false) {c0 c1 c2 c9 : cSt} {x : Int32} (hx : cEx c0 x = false) : CtX l yX3_sell wsX3_sell ({ frames := 7, cells := 1, slots := 6, locals := 130 } : Room) E [.ref (E.2.1 9 0), .int x] (gT σ c0 c1 c2 c9) π o "java/lang/IndexOutOfBoundsException" (gT σ c0 c1 c2 c9) π o := by
  refine CtX.of (cc := cX3_sell) (own := RX3) (maxL := 2) (ret := (some .int)) [some (.ref (E.2.1 9 0)), some (.int x)] (by decide) rfl rfl (Nat.le_of_ble_eq_true rfl) rfl ?_
  intro p e s m args below meth cd C hX hnt hlk
  have hinX0 : ∀ w ∈ wsX00, w ∈ wsX3_sell := by decide +kernel
  have hinX2 : ∀ w ∈ wsX20, w ∈ wsX3_sell := by decide +kernel
  have hinX3 : ∀ w ∈ wsX30, w ∈ wsX3_sell := by decide +kernel
  refine G.aldn0 C dX3_sell_0 ?_
  refine G.ildn1 C dX3_sell_1 ?_
  exact G.xcallV1 C hX hlk hnt (k_X3_needDove_t l hst hx) (cwV 1 C.1.2.2.2.2 gX3_sell_X3_needDove rfl rfl rfl (by decide +kernel) ⟨Nat.le_of_ble_eq_true rfl, Nat.le_of_ble_eq_true rfl⟩) gO_m rfl (Nat.le_of_ble_eq_true rfl) dX3_sell_2 ⟨by decide, by decide⟩
set_option maxRecDepth 100000 in
set_option maxHeartbeats 4000000 in
theorem k_X3_mate_t1 (l : Launch) {E : gEn} {σ : gSt} {π : Nat → Nat} {o : Int64} (hst : l.stackTraces = false) {c0 c1 c2 c9 : cSt} {x y : Int32} (hx : cEx c0 x = false) : CtX l yX3_mate wsX3_mate ({ frames := 7, cells := 1, slots := 6, locals := 130 } : Room) E [.ref (E.2.1 9 0), .int x, .int y] (gT σ c0 c1 c2 c9) π o "java/lang/IndexOutOfBoundsException" (gT σ c0 c1 c2 c9) π o := by
  refine CtX.of (cc := cX3_mate) (own := RX3) (maxL := 3) (ret := (some .int)) [some (.ref (E.2.1 9 0)), some (.int x), some (.int y)] (by decide) rfl rfl (Nat.le_of_ble_eq_true rfl) rfl ?_
  intro p e s m args below meth cd C hX hnt hlk
  have hinX0 : ∀ w ∈ wsX00, w ∈ wsX3_mate := by decide +kernel
  have hinX2 : ∀ w ∈ wsX20, w ∈ wsX3_mate := by decide +kernel
  have hinX3 : ∀ w ∈ wsX30, w ∈ wsX3_mate := by decide +kernel
  refine G.aldn0 C dX3_mate_0 ?_
  refine G.ildn1 C dX3_mate_1 ?_
  exact G.xcallV1 C hX hlk hnt (k_X3_needDove_t l hst hx) (cwV 1 C.1.2.2.2.2 gX3_mate_X3_needDove rfl rfl rfl (by decide +kernel) ⟨Nat.le_of_ble_eq_true rfl, Nat.le_of_ble_eq_true rfl⟩) gO_m rfl (Nat.le_of_ble_eq_true rfl) dX3_mate_2 ⟨by decide, by decide⟩
set_option maxRecDepth 100000 in
set_option maxHeartbeats 4000000 in
theorem k_X3_mate_t2 (l : Launch) {E : gEn} {σ : gSt} {π : Nat → Nat} {o : Int64} (hst : l.stackTraces = false) {c0 c1 c2 c9 : cSt} {x y : Int32} (hx : cEx c0 x = true) (hy : cEx c0 y = false) : CtX l yX3_mate wsX3_mate ({ frames := 7, cells := 1, slots := 6, locals := 130 } : Room) E [.ref (E.2.1 9 0), .int x, .int y] (gT σ c0 c1 c2 c9) π o "java/lang/IndexOutOfBoundsException" (gT σ c0 c1 c2 c9) π o := by
  refine CtX.of (cc := cX3_mate) (own := RX3) (maxL := 3) (ret := (some .int)) [some (.ref (E.2.1 9 0)), some (.int x), some (.int y)] (by decide) rfl rfl (Nat.le_of_ble_eq_true rfl) rfl ?_
  intro p e s m args below meth cd C hX hnt hlk
  have hinX0 : ∀ w ∈ wsX00, w ∈ wsX3_mate := by decide +kernel
  have hinX2 : ∀ w ∈ wsX20, w ∈ wsX3_mate := by decide +kernel
  have hinX3 : ∀ w ∈ wsX30, w ∈ wsX3_mate := by decide +kernel
  refine G.aldn0 C dX3_mate_0 ?_
  refine G.ildn1 C dX3_mate_1 ?_
  refine G.callVV1 C (k_X3_needDove l (by assumption)) (cwV 1 C.1.2.2.2.2 gX3_mate_X3_needDove rfl rfl rfl (by decide +kernel) ⟨Nat.le_of_ble_eq_true rfl, Nat.le_of_ble_eq_true rfl⟩) gO_m rfl (Nat.le_of_ble_eq_true rfl) dX3_mate_2 ?_
  refine G.aldn0 C dX3_mate_5 ?_
  refine G.ildn2 C dX3_mate_6 ?_
  exact G.xcallV1 C hX hlk hnt (k_X3_needDove_t l hst hy) (cwV 1 C.1.2.2.2.2 gX3_mate_X3_needDove rfl rfl rfl (by decide +kernel) ⟨Nat.le_of_ble_eq_true rfl, Nat.le_of_ble_eq_true rfl⟩) gO_m rfl (Nat.le_of_ble_eq_true rfl) dX3_mate_7 ⟨by decide, by decide⟩
set_option maxRecDepth 100000 in
set_option maxHeartbeats 4000000 in
theorem k_X3_mate_t3 (l : Launch) {E : gEn} {σ : gSt} {π : Nat → Nat} {o : Int64} (hst : l.stackTraces = false) {c0 c1 c2 c9 : cSt} {x y : Int32} (hx : cEx c0 x = true) (hy : cEx c0 y = true) (hw : ¬ cWhyPair c0 x y = 0) : CtX l yX3_mate wsX3_mate ({ frames := 7, cells := 1, slots := 6, locals := 130 } : Room) E [.ref (E.2.1 9 0), .int x, .int y] (gT σ c0 c1 c2 c9) π o "java/lang/IllegalStateException" (gT σ c0 c1 c2 c9) π o := by
  refine CtX.of (cc := cX3_mate) (own := RX3) (maxL := 3) (ret := (some .int)) [some (.ref (E.2.1 9 0)), some (.int x), some (.int y)] (by decide) rfl rfl (Nat.le_of_ble_eq_true rfl) rfl ?_
  intro p e s m args below meth cd C hX hnt hlk
  have hinX0 : ∀ w ∈ wsX00, w ∈ wsX3_mate := by decide +kernel
  have hinX2 : ∀ w ∈ wsX20, w ∈ wsX3_mate := by decide +kernel
  have hinX3 : ∀ w ∈ wsX30, w ∈ wsX3_mate := by decide +kernel
  refine G.aldn0 C dX3_mate_0 ?_
  refine G.ildn1 C dX3_mate_1 ?_
  refine G.callVV1 C (k_X3_needDove l (by assumption)) (cwV 1 C.1.2.2.2.2 gX3_mate_X3_needDove rfl rfl rfl (by decide +kernel) ⟨Nat.le_of_ble_eq_true rfl, Nat.le_of_ble_eq_true rfl⟩) gO_m rfl (Nat.le_of_ble_eq_true rfl) dX3_mate_2 ?_
  refine G.aldn0 C dX3_mate_5 ?_
  refine G.ildn2 C dX3_mate_6 ?_
  refine G.callVV1 C (k_X3_needDove l (by assumption)) (cwV 1 C.1.2.2.2.2 gX3_mate_X3_needDove rfl rfl rfl (by decide +kernel) ⟨Nat.le_of_ble_eq_true rfl, Nat.le_of_ble_eq_true rfl⟩) gO_m rfl (Nat.le_of_ble_eq_true rfl) dX3_mate_7 ?_
  refine G.aldn0 C dX3_mate_10 ?_
  refine G.getMT C hinX3 0 (by decide) rfl (C.1.2.2.2.2 (.fieldLink RX3 10 RX3 "now" "LLateDoves$Cote;") (by decide +kernel)) rfl dX3_mate_11 ?_
  refine G.ildn1 C dX3_mate_14 ?_
  refine G.ildn2 C dX3_mate_15 ?_
  refine G.callVI2 C (T0I (k_X0_reasonNotToPair l (by omega) (cEx_in hx) (cEx_in hy))) (cwV 2 C.1.2.2.2.2 gX3_mate_X0_reasonNotToPair rfl rfl rfl (by decide +kernel) ⟨Nat.le_of_ble_eq_true rfl, Nat.le_of_ble_eq_true rfl⟩) (gO_c (by omega)) rfl (Nat.le_of_ble_eq_true rfl) dX3_mate_16 ?_
  refine G.if_eq C 32 dX3_mate_19 (by decide) (fun h19 => absurd h19 (hw)) (fun h19 => ?_)
  exact G.throwS C hX hst hlk hnt (text := "the two cannot be mates") ["java/lang/RuntimeException", "java/lang/Exception"] (by decide +kernel) (by decide +kernel) (by decide) (by decide +kernel) (by decide +kernel) dX3_mate_22 dX3_mate_25 dX3_mate_26 dX3_mate_28 dX3_mate_31 ⟨by decide, by decide, by decide, by decide⟩
set_option maxRecDepth 100000 in
set_option maxHeartbeats 4000000 in
theorem k_X3_shut_t1 (l : Launch) {E : gEn} {σ : gSt} {π : Nat → Nat} {o : Int64} (hst : l.stackTraces = false) {c0 c1 c2 c9 : cSt} {x : Int32} (hx : hHole x = false) : CtX l yX3_shut wsX3_shut ({ frames := 7, cells := 1, slots := 6, locals := 130 } : Room) E [.ref (E.2.1 9 0), .int x] (gT σ c0 c1 c2 c9) π o "java/lang/IndexOutOfBoundsException" (gT σ c0 c1 c2 c9) π o := by
  refine CtX.of (cc := cX3_shut) (own := RX3) (maxL := 2) (ret := (some .int)) [some (.ref (E.2.1 9 0)), some (.int x)] (by decide) rfl rfl (Nat.le_of_ble_eq_true rfl) rfl ?_
  intro p e s m args below meth cd C hX hnt hlk
  have hinX0 : ∀ w ∈ wsX00, w ∈ wsX3_shut := by decide +kernel
  have hinX2 : ∀ w ∈ wsX20, w ∈ wsX3_shut := by decide +kernel
  have hinX3 : ∀ w ∈ wsX30, w ∈ wsX3_shut := by decide +kernel
  refine G.ildn1 C dX3_shut_0 ?_
  exact G.xcallS1 C hX hlk hnt (k_X3_needHole_t l hst hx) (va_cwS 1 C.1.2.2.2.2 gX3_shut_X3_needHole rfl rfl rfl (by decide +kernel) ⟨Nat.le_of_ble_eq_true rfl, Nat.le_of_ble_eq_true rfl⟩) (Nat.le_of_ble_eq_true rfl) dX3_shut_1 ⟨by decide, by decide⟩
set_option maxRecDepth 100000 in
set_option maxHeartbeats 4000000 in
theorem k_X3_shut_t2 (l : Launch) {E : gEn} {σ : gSt} {π : Nat → Nat} {o : Int64} (hst : l.stackTraces = false) {c0 c1 c2 c9 : cSt} {x : Int32} (hx : hHole x = true) (hw : ¬ cWhyShut c0 x = 0) : CtX l yX3_shut wsX3_shut ({ frames := 7, cells := 1, slots := 6, locals := 130 } : Room) E [.ref (E.2.1 9 0), .int x] (gT σ c0 c1 c2 c9) π o "java/lang/IllegalStateException" (gT σ c0 c1 c2 c9) π o := by
  refine CtX.of (cc := cX3_shut) (own := RX3) (maxL := 2) (ret := (some .int)) [some (.ref (E.2.1 9 0)), some (.int x)] (by decide) rfl rfl (Nat.le_of_ble_eq_true rfl) rfl ?_
  intro p e s m args below meth cd C hX hnt hlk
  have hinX0 : ∀ w ∈ wsX00, w ∈ wsX3_shut := by decide +kernel
  have hinX2 : ∀ w ∈ wsX20, w ∈ wsX3_shut := by decide +kernel
  have hinX3 : ∀ w ∈ wsX30, w ∈ wsX3_shut := by decide +kernel
  refine G.ildn1 C dX3_shut_0 ?_
  refine G.callSV1 C (k_X3_needHole l (by assumption)) (va_cwS 1 C.1.2.2.2.2 gX3_shut_X3_needHole rfl rfl rfl (by decide +kernel) ⟨Nat.le_of_ble_eq_true rfl, Nat.le_of_ble_eq_true rfl⟩) (Nat.le_of_ble_eq_true rfl) dX3_shut_1 ?_
  refine G.aldn0 C dX3_shut_4 ?_
  refine G.getMT C hinX3 0 (by decide) rfl (C.1.2.2.2.2 (.fieldLink RX3 10 RX3 "now" "LLateDoves$Cote;") (by decide +kernel)) rfl dX3_shut_5 ?_
  refine G.ildn1 C dX3_shut_8 ?_
  refine G.callVI1 C (T0I (k_X0_reasonNotToShut l (by omega) (hHole_in hx))) (cwV 1 C.1.2.2.2.2 gX3_shut_X0_reasonNotToShut rfl rfl rfl (by decide +kernel) ⟨Nat.le_of_ble_eq_true rfl, Nat.le_of_ble_eq_true rfl⟩) (gO_c (by omega)) rfl (Nat.le_of_ble_eq_true rfl) dX3_shut_9 ?_
  refine G.if_eq C 25 dX3_shut_12 (by decide) (fun h12 => absurd h12 (hw)) (fun h12 => ?_)
  exact G.throwS C hX hst hlk hnt (text := "the hole cannot be shut") ["java/lang/RuntimeException", "java/lang/Exception"] (by decide +kernel) (by decide +kernel) (by decide) (by decide +kernel) (by decide +kernel) dX3_shut_15 dX3_shut_18 dX3_shut_19 dX3_shut_21 dX3_shut_24 ⟨by decide, by decide, by decide, by decide⟩
set_option maxRecDepth 100000 in
set_option maxHeartbeats 4000000 in
theorem k_X3_open_t (l : Launch) {E : gEn} {σ : gSt} {π : Nat → Nat} {o : Int64} (hst : l.stackTraces = false) {c0 c1 c2 c9 : cSt} {x : Int32} (hx : hHole x = false) : CtX l yX3_open wsX3_open ({ frames := 7, cells := 1, slots := 6, locals := 130 } : Room) E [.ref (E.2.1 9 0), .int x] (gT σ c0 c1 c2 c9) π o "java/lang/IndexOutOfBoundsException" (gT σ c0 c1 c2 c9) π o := by
  refine CtX.of (cc := cX3_open) (own := RX3) (maxL := 2) (ret := (some .int)) [some (.ref (E.2.1 9 0)), some (.int x)] (by decide) rfl rfl (Nat.le_of_ble_eq_true rfl) rfl ?_
  intro p e s m args below meth cd C hX hnt hlk
  have hinX0 : ∀ w ∈ wsX00, w ∈ wsX3_open := by decide +kernel
  have hinX2 : ∀ w ∈ wsX20, w ∈ wsX3_open := by decide +kernel
  have hinX3 : ∀ w ∈ wsX30, w ∈ wsX3_open := by decide +kernel
  refine G.ildn1 C dX3_open_0 ?_
  exact G.xcallS1 C hX hlk hnt (k_X3_needHole_t l hst hx) (va_cwS 1 C.1.2.2.2.2 gX3_open_X3_needHole rfl rfl rfl (by decide +kernel) ⟨Nat.le_of_ble_eq_true rfl, Nat.le_of_ble_eq_true rfl⟩) (Nat.le_of_ble_eq_true rfl) dX3_open_1 ⟨by decide, by decide⟩
set_option maxRecDepth 100000 in
set_option maxHeartbeats 4000000 in
theorem k_X3_set_t1 (l : Launch) {E : gEn} {σ : gSt} {π : Nat → Nat} {o : Int64} (hst : l.stackTraces = false) {c0 c1 c2 c9 : cSt} {x y : Int32} (hx : ¬ (¬ x < 0 ∧ x < 2)) : CtX l yX3_set wsX3_set ({ frames := 7, cells := 1, slots := 6, locals := 130 } : Room) E [.ref (E.2.1 9 0), .int x, .int y] (gT σ c0 c1 c2 c9) π o "java/lang/IndexOutOfBoundsException" (gT σ c0 c1 c2 c9) π o := by
  refine CtX.of (cc := cX3_set) (own := RX3) (maxL := 5) (ret := (some .int)) [some (.ref (E.2.1 9 0)), some (.int x), some (.int y), none, none] (by decide) rfl rfl (Nat.le_of_ble_eq_true rfl) rfl ?_
  intro p e s m args below meth cd C hX hnt hlk
  have hinX0 : ∀ w ∈ wsX00, w ∈ wsX3_set := by decide +kernel
  have hinX2 : ∀ w ∈ wsX20, w ∈ wsX3_set := by decide +kernel
  have hinX3 : ∀ w ∈ wsX30, w ∈ wsX3_set := by decide +kernel
  refine G.ildn1 C dX3_set_0 ?_
  refine G.if_lt C 9 dX3_set_1 (by decide) (fun h1 => ?_) (fun h1 => ?_)
  · exact G.throwS C hX hst hlk hnt (text := "no such setting") ["java/lang/RuntimeException", "java/lang/Exception"] (by decide +kernel) (by decide +kernel) (by decide) (by decide +kernel) (by decide +kernel) dX3_set_9 dX3_set_12 dX3_set_13 dX3_set_15 dX3_set_18 ⟨by decide, by decide, by decide, by decide⟩
  · refine G.ildn1 C dX3_set_4 ?_
    refine G.iconst C 2 dX3_set_5 (by decide) ?_
    refine G.icmp_lt C 19 dX3_set_6 (by decide) (fun h6 => absurd h6 (fun q => hx ⟨h1, q⟩)) (fun h6 => ?_)
    exact G.throwS C hX hst hlk hnt (text := "no such setting") ["java/lang/RuntimeException", "java/lang/Exception"] (by decide +kernel) (by decide +kernel) (by decide) (by decide +kernel) (by decide +kernel) dX3_set_9 dX3_set_12 dX3_set_13 dX3_set_15 dX3_set_18 ⟨by decide, by decide, by decide, by decide⟩
set_option maxRecDepth 100000 in
set_option maxHeartbeats 4000000 in
theorem k_X3_set_t2 (l : Launch) {E : gEn} {σ : gSt} {π : Nat → Nat} {o : Int64} (hst : l.stackTraces = false) {c0 c1 c2 c9 : cSt} {x y : Int32} (hx0 : ¬ x < 0) (hx2 : x < 2) (hy : ¬ (¬ y < 0 ∧ y ≤ if x = 0 then 1439 else 24)) : CtX l yX3_set wsX3_set ({ frames := 7, cells := 1, slots := 6, locals := 130 } : Room) E [.ref (E.2.1 9 0), .int x, .int y] (gT σ c0 c1 c2 c9) π o "java/lang/IllegalArgumentException" (gT σ c0 c1 c2 c9) π o := by
  refine CtX.of (cc := cX3_set) (own := RX3) (maxL := 5) (ret := (some .int)) [some (.ref (E.2.1 9 0)), some (.int x), some (.int y), none, none] (by decide) rfl rfl (Nat.le_of_ble_eq_true rfl) rfl ?_
  intro p e s m args below meth cd C hX hnt hlk
  have hinX0 : ∀ w ∈ wsX00, w ∈ wsX3_set := by decide +kernel
  have hinX2 : ∀ w ∈ wsX20, w ∈ wsX3_set := by decide +kernel
  have hinX3 : ∀ w ∈ wsX30, w ∈ wsX3_set := by decide +kernel
  refine G.ildn1 C dX3_set_0 ?_
  refine G.if_lt C 9 dX3_set_1 (by decide) (fun h1 => absurd h1 (hx0)) (fun h1 => ?_)
  refine G.ildn1 C dX3_set_4 ?_
  refine G.iconst C 2 dX3_set_5 (by decide) ?_
  refine G.icmp_lt C 19 dX3_set_6 (by decide) (fun h6 => ?_) (fun h6 => absurd (hx2) h6)
  refine G.ildn1 C dX3_set_19 ?_
  refine G.if_ne C 29 dX3_set_20 (by decide) (fun h20 => ?_) (fun h20 => ?_)
  · refine G.bipush C 24 dX3_set_29 (by decide) ?_
    refine G.istn3 C dX3_set_31 (by omega) rfl ?_
    refine G.ildn2 C dX3_set_32 ?_
    refine G.if_lt C 41 dX3_set_33 (by decide) (fun h33 => ?_) (fun h33 => ?_)
    · exact G.throwS C hX hst hlk hnt (text := "value is out of range") ["java/lang/RuntimeException", "java/lang/Exception"] (by decide +kernel) (by decide +kernel) (by decide) (by decide +kernel) (by decide +kernel) dX3_set_41 dX3_set_44 dX3_set_45 dX3_set_47 dX3_set_50 ⟨by decide, by decide, by decide, by decide⟩
    · refine G.ildn2 C dX3_set_36 ?_
      refine G.ildn3 C dX3_set_37 ?_
      refine G.icmp_le C 51 dX3_set_38 (by decide) (fun h38 => absurd h38 (fun q => hy ⟨h33, by first | (rw [if_pos h20]; exact q) | (rw [if_neg h20]; exact q)⟩)) (fun h38 => ?_)
      exact G.throwS C hX hst hlk hnt (text := "value is out of range") ["java/lang/RuntimeException", "java/lang/Exception"] (by decide +kernel) (by decide +kernel) (by decide) (by decide +kernel) (by decide +kernel) dX3_set_41 dX3_set_44 dX3_set_45 dX3_set_47 dX3_set_50 ⟨by decide, by decide, by decide, by decide⟩
  · refine G.sipush C 1439 dX3_set_23 (by decide) ?_
    refine G.goto C 31 dX3_set_26 (by decide) ?_
    refine G.istn3 C dX3_set_31 (by omega) rfl ?_
    refine G.ildn2 C dX3_set_32 ?_
    refine G.if_lt C 41 dX3_set_33 (by decide) (fun h33 => ?_) (fun h33 => ?_)
    · exact G.throwS C hX hst hlk hnt (text := "value is out of range") ["java/lang/RuntimeException", "java/lang/Exception"] (by decide +kernel) (by decide +kernel) (by decide) (by decide +kernel) (by decide +kernel) dX3_set_41 dX3_set_44 dX3_set_45 dX3_set_47 dX3_set_50 ⟨by decide, by decide, by decide, by decide⟩
    · refine G.ildn2 C dX3_set_36 ?_
      refine G.ildn3 C dX3_set_37 ?_
      refine G.icmp_le C 51 dX3_set_38 (by decide) (fun h38 => absurd h38 (fun q => hy ⟨h33, by first | (rw [if_pos h20]; exact q) | (rw [if_neg h20]; exact q)⟩)) (fun h38 => ?_)
      exact G.throwS C hX hst hlk hnt (text := "value is out of range") ["java/lang/RuntimeException", "java/lang/Exception"] (by decide +kernel) (by decide +kernel) (by decide) (by decide +kernel) (by decide +kernel) dX3_set_41 dX3_set_44 dX3_set_45 dX3_set_47 dX3_set_50 ⟨by decide, by decide, by decide, by decide⟩
set_option maxRecDepth 100000 in
set_option maxHeartbeats 4000000 in
theorem k_X3_home_t1 (l : Launch) {E : gEn} {σ : gSt} {π : Nat → Nat} {o : Int64} (hst : l.stackTraces = false) {c0 c1 c2 c9 : cSt} {x t : Int32} (hx : cEx c0 x = false) : CtX l yX3_home wsX3_home ({ frames := 7, cells := 1, slots := 6, locals := 130 } : Room) E [.ref (E.2.1 9 0), .int x, .int t] (gT σ c0 c1 c2 c9) π o "java/lang/IndexOutOfBoundsException" (gT σ c0 c1 c2 c9) π o := by
  refine CtX.of (cc := cX3_home) (own := RX3) (maxL := 3) (ret := (some .int)) [some (.ref (E.2.1 9 0)), some (.int x), some (.int t)] (by decide) rfl rfl (Nat.le_of_ble_eq_true rfl) rfl ?_
  intro p e s m args below meth cd C hX hnt hlk
  have hinX0 : ∀ w ∈ wsX00, w ∈ wsX3_home := by decide +kernel
  have hinX2 : ∀ w ∈ wsX20, w ∈ wsX3_home := by decide +kernel
  have hinX3 : ∀ w ∈ wsX30, w ∈ wsX3_home := by decide +kernel
  refine G.aldn0 C dX3_home_0 ?_
  refine G.ildn1 C dX3_home_1 ?_
  exact G.xcallV1 C hX hlk hnt (k_X3_needDove_t l hst hx) (cwV 1 C.1.2.2.2.2 gX3_home_X3_needDove rfl rfl rfl (by decide +kernel) ⟨Nat.le_of_ble_eq_true rfl, Nat.le_of_ble_eq_true rfl⟩) gO_m rfl (Nat.le_of_ble_eq_true rfl) dX3_home_2 ⟨by decide, by decide⟩
set_option maxRecDepth 100000 in
set_option maxHeartbeats 4000000 in
theorem k_X3_home_t2 (l : Launch) {E : gEn} {σ : gSt} {π : Nat → Nat} {o : Int64} (hst : l.stackTraces = false) {c0 c1 c2 c9 : cSt} {x t : Int32} (hx : cEx c0 x = true) (ht : ¬ (¬ t < 0 ∧ t ≤ 1439)) : CtX l yX3_home wsX3_home ({ frames := 7, cells := 1, slots := 6, locals := 130 } : Room) E [.ref (E.2.1 9 0), .int x, .int t] (gT σ c0 c1 c2 c9) π o "java/lang/IllegalArgumentException" (gT σ c0 c1 c2 c9) π o := by
  refine CtX.of (cc := cX3_home) (own := RX3) (maxL := 3) (ret := (some .int)) [some (.ref (E.2.1 9 0)), some (.int x), some (.int t)] (by decide) rfl rfl (Nat.le_of_ble_eq_true rfl) rfl ?_
  intro p e s m args below meth cd C hX hnt hlk
  have hinX0 : ∀ w ∈ wsX00, w ∈ wsX3_home := by decide +kernel
  have hinX2 : ∀ w ∈ wsX20, w ∈ wsX3_home := by decide +kernel
  have hinX3 : ∀ w ∈ wsX30, w ∈ wsX3_home := by decide +kernel
  refine G.aldn0 C dX3_home_0 ?_
  refine G.ildn1 C dX3_home_1 ?_
  refine G.callVV1 C (k_X3_needDove l (by assumption)) (cwV 1 C.1.2.2.2.2 gX3_home_X3_needDove rfl rfl rfl (by decide +kernel) ⟨Nat.le_of_ble_eq_true rfl, Nat.le_of_ble_eq_true rfl⟩) gO_m rfl (Nat.le_of_ble_eq_true rfl) dX3_home_2 ?_
  refine G.ildn2 C dX3_home_5 ?_
  exact G.xcallS1 C hX hlk hnt (k_X3_needTime_t l hst ht) (va_cwS 1 C.1.2.2.2.2 gX3_home_X3_needTime rfl rfl rfl (by decide +kernel) ⟨Nat.le_of_ble_eq_true rfl, Nat.le_of_ble_eq_true rfl⟩) (Nat.le_of_ble_eq_true rfl) dX3_home_6 ⟨by decide, by decide⟩
set_option maxRecDepth 100000 in
set_option maxHeartbeats 4000000 in
theorem k_X3_home_t3 (l : Launch) {E : gEn} {σ : gSt} {π : Nat → Nat} {o : Int64} (hst : l.stackTraces = false) {c0 c1 c2 c9 : cSt} {x t : Int32} (hx : cEx c0 x = true) (ht0 : ¬ t < 0) (ht1 : t ≤ 1439) (hw : ¬ cWhyHome c0 x t = 0) : CtX l yX3_home wsX3_home ({ frames := 7, cells := 1, slots := 6, locals := 130 } : Room) E [.ref (E.2.1 9 0), .int x, .int t] (gT σ c0 c1 c2 c9) π o "java/lang/IllegalStateException" (gT σ c0 c1 c2 c9) π o := by
  refine CtX.of (cc := cX3_home) (own := RX3) (maxL := 3) (ret := (some .int)) [some (.ref (E.2.1 9 0)), some (.int x), some (.int t)] (by decide) rfl rfl (Nat.le_of_ble_eq_true rfl) rfl ?_
  intro p e s m args below meth cd C hX hnt hlk
  have hinX0 : ∀ w ∈ wsX00, w ∈ wsX3_home := by decide +kernel
  have hinX2 : ∀ w ∈ wsX20, w ∈ wsX3_home := by decide +kernel
  have hinX3 : ∀ w ∈ wsX30, w ∈ wsX3_home := by decide +kernel
  refine G.aldn0 C dX3_home_0 ?_
  refine G.ildn1 C dX3_home_1 ?_
  refine G.callVV1 C (k_X3_needDove l (by assumption)) (cwV 1 C.1.2.2.2.2 gX3_home_X3_needDove rfl rfl rfl (by decide +kernel) ⟨Nat.le_of_ble_eq_true rfl, Nat.le_of_ble_eq_true rfl⟩) gO_m rfl (Nat.le_of_ble_eq_true rfl) dX3_home_2 ?_
  refine G.ildn2 C dX3_home_5 ?_
  refine G.callSV1 C (k_X3_needTime l ht0 ht1) (va_cwS 1 C.1.2.2.2.2 gX3_home_X3_needTime rfl rfl rfl (by decide +kernel) ⟨Nat.le_of_ble_eq_true rfl, Nat.le_of_ble_eq_true rfl⟩) (Nat.le_of_ble_eq_true rfl) dX3_home_6 ?_
  refine G.aldn0 C dX3_home_9 ?_
  refine G.getMT C hinX3 0 (by decide) rfl (C.1.2.2.2.2 (.fieldLink RX3 10 RX3 "now" "LLateDoves$Cote;") (by decide +kernel)) rfl dX3_home_10 ?_
  refine G.ildn1 C dX3_home_13 ?_
  refine G.ildn2 C dX3_home_14 ?_
  refine G.callVI2 C (T0I (k_X0_reasonNotHome l (by omega) (cEx_in hx))) (cwV 2 C.1.2.2.2.2 gX3_home_X0_reasonNotHome rfl rfl rfl (by decide +kernel) ⟨Nat.le_of_ble_eq_true rfl, Nat.le_of_ble_eq_true rfl⟩) (gO_c (by omega)) rfl (Nat.le_of_ble_eq_true rfl) dX3_home_15 ?_
  refine G.if_eq C 31 dX3_home_18 (by decide) (fun h18 => absurd h18 (hw)) (fun h18 => ?_)
  exact G.throwS C hX hst hlk hnt (text := "the dove cannot come home") ["java/lang/RuntimeException", "java/lang/Exception"] (by decide +kernel) (by decide +kernel) (by decide) (by decide +kernel) (by decide +kernel) dX3_home_21 dX3_home_24 dX3_home_25 dX3_home_27 dX3_home_30 ⟨by decide, by decide, by decide, by decide⟩
set_option maxRecDepth 100000 in
set_option maxHeartbeats 4000000 in
theorem k_X3_undo_t (l : Launch) {E : gEn} {σ : gSt} {π : Nat → Nat} {o : Int64} (hst : l.stackTraces = false) {c0 c1 c2 c9 : cSt} (hs : c9 0 5 = 0) : CtX l yX3_undo wsX3_undo ({ frames := 7, cells := 1, slots := 6, locals := 130 } : Room) E [.ref (E.2.1 9 0)] (gT σ c0 c1 c2 c9) π o "java/lang/IllegalStateException" (gT σ c0 c1 c2 c9) π o := by
  refine CtX.of (cc := cX3_undo) (own := RX3) (maxL := 1) (ret := (some .int)) [some (.ref (E.2.1 9 0))] (by decide) rfl rfl (Nat.le_of_ble_eq_true rfl) rfl ?_
  intro p e s m args below meth cd C hX hnt hlk
  have hinX0 : ∀ w ∈ wsX00, w ∈ wsX3_undo := by decide +kernel
  have hinX2 : ∀ w ∈ wsX20, w ∈ wsX3_undo := by decide +kernel
  have hinX3 : ∀ w ∈ wsX30, w ∈ wsX3_undo := by decide +kernel
  refine G.aldn0 C dX3_undo_0 ?_
  refine G.getMT C hinX3 5 (by decide) rfl (C.1.2.2.2.2 (.fieldLink RX3 30 RX3 "savedCount" "I") (by decide +kernel)) rfl dX3_undo_1 ?_
  refine G.topI (0) hs ?_
  refine G.if_gt C 17 dX3_undo_4 (by decide) (fun h4 => absurd h4 (by decide)) (fun h4 => ?_)
  exact G.throwS C hX hst hlk hnt (text := "there is no saved state") ["java/lang/RuntimeException", "java/lang/Exception"] (by decide +kernel) (by decide +kernel) (by decide) (by decide +kernel) (by decide +kernel) dX3_undo_7 dX3_undo_10 dX3_undo_11 dX3_undo_13 dX3_undo_16 ⟨by decide, by decide, by decide, by decide⟩
set_option maxRecDepth 100000 in
set_option maxHeartbeats 4000000 in
theorem k_X3_restore_t (l : Launch) {E : gEn} {σ : gSt} {π : Nat → Nat} {o : Int64} (hst : l.stackTraces = false) {c0 c1 c2 c9 : cSt} (hk : c9 0 3 = 0) : CtX l yX3_restore wsX3_restore ({ frames := 7, cells := 1, slots := 6, locals := 130 } : Room) E [.ref (E.2.1 9 0)] (gT σ c0 c1 c2 c9) π o "java/lang/IllegalStateException" (gT σ c0 c1 c2 c9) π o := by
  refine CtX.of (cc := cX3_restore) (own := RX3) (maxL := 1) (ret := (some .int)) [some (.ref (E.2.1 9 0))] (by decide) rfl rfl (Nat.le_of_ble_eq_true rfl) rfl ?_
  intro p e s m args below meth cd C hX hnt hlk
  have hinX0 : ∀ w ∈ wsX00, w ∈ wsX3_restore := by decide +kernel
  have hinX2 : ∀ w ∈ wsX20, w ∈ wsX3_restore := by decide +kernel
  have hinX3 : ∀ w ∈ wsX30, w ∈ wsX3_restore := by decide +kernel
  refine G.aldn0 C dX3_restore_0 ?_
  refine G.getMT C hinX3 3 (by decide) rfl (C.1.2.2.2.2 (.fieldLink RX3 22 RX3 "hasSnapshot" "Z") (by decide +kernel)) rfl dX3_restore_1 ?_
  refine G.if_ne C 17 dX3_restore_4 (by decide) (fun h4 => absurd h4 (fun q => q hk)) (fun h4 => ?_)
  exact G.throwS C hX hst hlk hnt (text := "there is no snapshot") ["java/lang/RuntimeException", "java/lang/Exception"] (by decide +kernel) (by decide +kernel) (by decide) (by decide +kernel) (by decide +kernel) dX3_restore_7 dX3_restore_10 dX3_restore_11 dX3_restore_13 dX3_restore_16 ⟨by decide, by decide, by decide, by decide⟩
set_option maxRecDepth 100000 in
set_option maxHeartbeats 4000000 in
theorem k_X3_dove_t1 (l : Launch) {E : gEn} {σ : gSt} {π : Nat → Nat} {o : Int64} (hst : l.stackTraces = false) {c0 c1 c2 c9 : cSt} {x y : Int32} (hx : cEx c0 x = false) : CtX l yX3_dove wsX3_dove ({ frames := 7, cells := 1, slots := 6, locals := 130 } : Room) E [.ref (E.2.1 9 0), .int x, .int y] (gT σ c0 c1 c2 c9) π o "java/lang/IndexOutOfBoundsException" (gT σ c0 c1 c2 c9) π o := by
  refine CtX.of (cc := cX3_dove) (own := RX3) (maxL := 3) (ret := (some .int)) [some (.ref (E.2.1 9 0)), some (.int x), some (.int y)] (by decide) rfl rfl (Nat.le_of_ble_eq_true rfl) rfl ?_
  intro p e s m args below meth cd C hX hnt hlk
  have hinX0 : ∀ w ∈ wsX00, w ∈ wsX3_dove := by decide +kernel
  have hinX3 : ∀ w ∈ wsX30, w ∈ wsX3_dove := by decide +kernel
  refine G.aldn0 C dX3_dove_0 ?_
  refine G.ildn1 C dX3_dove_1 ?_
  exact G.xcallV1 C hX hlk hnt (k_X3_needDove_t l hst hx) (cwV 1 C.1.2.2.2.2 gX3_dove_X3_needDove rfl rfl rfl (by decide +kernel) ⟨Nat.le_of_ble_eq_true rfl, Nat.le_of_ble_eq_true rfl⟩) gO_m rfl (Nat.le_of_ble_eq_true rfl) dX3_dove_2 ⟨by decide, by decide⟩
set_option maxRecDepth 100000 in
set_option maxHeartbeats 4000000 in
theorem k_X3_dove_t2 (l : Launch) {E : gEn} {σ : gSt} {π : Nat → Nat} {o : Int64} (hst : l.stackTraces = false) {c0 c1 c2 c9 : cSt} {x y : Int32} (hx : cEx c0 x = true) (hy : ¬ (¬ y < 0 ∧ y < 8)) : CtX l yX3_dove wsX3_dove ({ frames := 7, cells := 1, slots := 6, locals := 130 } : Room) E [.ref (E.2.1 9 0), .int x, .int y] (gT σ c0 c1 c2 c9) π o "java/lang/IllegalArgumentException" (gT σ c0 c1 c2 c9) π o := by
  refine CtX.of (cc := cX3_dove) (own := RX3) (maxL := 3) (ret := (some .int)) [some (.ref (E.2.1 9 0)), some (.int x), some (.int y)] (by decide) rfl rfl (Nat.le_of_ble_eq_true rfl) rfl ?_
  intro p e s m args below meth cd C hX hnt hlk
  have hinX0 : ∀ w ∈ wsX00, w ∈ wsX3_dove := by decide +kernel
  have hinX3 : ∀ w ∈ wsX30, w ∈ wsX3_dove := by decide +kernel
  refine G.aldn0 C dX3_dove_0 ?_
  refine G.ildn1 C dX3_dove_1 ?_
  refine G.callVV1 C (k_X3_needDove l (by assumption)) (cwV 1 C.1.2.2.2.2 gX3_dove_X3_needDove rfl rfl rfl (by decide +kernel) ⟨Nat.le_of_ble_eq_true rfl, Nat.le_of_ble_eq_true rfl⟩) gO_m rfl (Nat.le_of_ble_eq_true rfl) dX3_dove_2 ?_
  refine G.ildn2 C dX3_dove_5 ?_
  refine G.if_lt C 15 dX3_dove_6 (by decide) (fun h6 => ?_) (fun h6 => ?_)
  · exact G.throwS C hX hst hlk hnt (text := "what is not 0 to 7") ["java/lang/RuntimeException", "java/lang/Exception"] (by decide +kernel) (by decide +kernel) (by decide) (by decide +kernel) (by decide +kernel) dX3_dove_15 dX3_dove_18 dX3_dove_19 dX3_dove_21 dX3_dove_24 ⟨by decide, by decide, by decide, by decide⟩
  · refine G.ildn2 C dX3_dove_9 ?_
    refine G.bipush C 8 dX3_dove_10 (by decide) ?_
    refine G.icmp_lt C 25 dX3_dove_12 (by decide) (fun h12 => absurd h12 (fun q => hy ⟨h6, q⟩)) (fun h12 => ?_)
    exact G.throwS C hX hst hlk hnt (text := "what is not 0 to 7") ["java/lang/RuntimeException", "java/lang/Exception"] (by decide +kernel) (by decide +kernel) (by decide) (by decide +kernel) (by decide +kernel) dX3_dove_15 dX3_dove_18 dX3_dove_19 dX3_dove_21 dX3_dove_24 ⟨by decide, by decide, by decide, by decide⟩
set_option maxRecDepth 100000 in
set_option maxHeartbeats 4000000 in
theorem k_X3_hole_t1 (l : Launch) {E : gEn} {σ : gSt} {π : Nat → Nat} {o : Int64} (hst : l.stackTraces = false) {c0 c1 c2 c9 : cSt} {x y : Int32} (hx : hHole x = false) : CtX l yX3_hole wsX3_hole ({ frames := 7, cells := 1, slots := 6, locals := 130 } : Room) E [.ref (E.2.1 9 0), .int x, .int y] (gT σ c0 c1 c2 c9) π o "java/lang/IndexOutOfBoundsException" (gT σ c0 c1 c2 c9) π o := by
  refine CtX.of (cc := cX3_hole) (own := RX3) (maxL := 3) (ret := (some .int)) [some (.ref (E.2.1 9 0)), some (.int x), some (.int y)] (by decide) rfl rfl (Nat.le_of_ble_eq_true rfl) rfl ?_
  intro p e s m args below meth cd C hX hnt hlk
  have hinX0 : ∀ w ∈ wsX00, w ∈ wsX3_hole := by decide +kernel
  have hinX3 : ∀ w ∈ wsX30, w ∈ wsX3_hole := by decide +kernel
  refine G.ildn1 C dX3_hole_0 ?_
  exact G.xcallS1 C hX hlk hnt (k_X3_needHole_t l hst hx) (va_cwS 1 C.1.2.2.2.2 gX3_hole_X3_needHole rfl rfl rfl (by decide +kernel) ⟨Nat.le_of_ble_eq_true rfl, Nat.le_of_ble_eq_true rfl⟩) (Nat.le_of_ble_eq_true rfl) dX3_hole_1 ⟨by decide, by decide⟩
set_option maxRecDepth 100000 in
set_option maxHeartbeats 4000000 in
theorem k_X3_hole_t2 (l : Launch) {E : gEn} {σ : gSt} {π : Nat → Nat} {o : Int64} (hst : l.stackTraces = false) {c0 c1 c2 c9 : cSt} {x y : Int32} (hx : hHole x = true) (hy : ¬ (¬ y < 0 ∧ y < 3)) : CtX l yX3_hole wsX3_hole ({ frames := 7, cells := 1, slots := 6, locals := 130 } : Room) E [.ref (E.2.1 9 0), .int x, .int y] (gT σ c0 c1 c2 c9) π o "java/lang/IllegalArgumentException" (gT σ c0 c1 c2 c9) π o := by
  refine CtX.of (cc := cX3_hole) (own := RX3) (maxL := 3) (ret := (some .int)) [some (.ref (E.2.1 9 0)), some (.int x), some (.int y)] (by decide) rfl rfl (Nat.le_of_ble_eq_true rfl) rfl ?_
  intro p e s m args below meth cd C hX hnt hlk
  have hinX0 : ∀ w ∈ wsX00, w ∈ wsX3_hole := by decide +kernel
  have hinX3 : ∀ w ∈ wsX30, w ∈ wsX3_hole := by decide +kernel
  refine G.ildn1 C dX3_hole_0 ?_
  refine G.callSV1 C (k_X3_needHole l (by assumption)) (va_cwS 1 C.1.2.2.2.2 gX3_hole_X3_needHole rfl rfl rfl (by decide +kernel) ⟨Nat.le_of_ble_eq_true rfl, Nat.le_of_ble_eq_true rfl⟩) (Nat.le_of_ble_eq_true rfl) dX3_hole_1 ?_
  refine G.ildn2 C dX3_hole_4 ?_
  refine G.if_lt C 13 dX3_hole_5 (by decide) (fun h5 => ?_) (fun h5 => ?_)
  · exact G.throwS C hX hst hlk hnt (text := "what is not 0 to 2") ["java/lang/RuntimeException", "java/lang/Exception"] (by decide +kernel) (by decide +kernel) (by decide) (by decide +kernel) (by decide +kernel) dX3_hole_13 dX3_hole_16 dX3_hole_17 dX3_hole_19 dX3_hole_22 ⟨by decide, by decide, by decide, by decide⟩
  · refine G.ildn2 C dX3_hole_8 ?_
    refine G.iconst C 3 dX3_hole_9 (by decide) ?_
    refine G.icmp_lt C 23 dX3_hole_10 (by decide) (fun h10 => absurd h10 (fun q => hy ⟨h5, q⟩)) (fun h10 => ?_)
    exact G.throwS C hX hst hlk hnt (text := "what is not 0 to 2") ["java/lang/RuntimeException", "java/lang/Exception"] (by decide +kernel) (by decide +kernel) (by decide) (by decide +kernel) (by decide +kernel) dX3_hole_13 dX3_hole_16 dX3_hole_17 dX3_hole_19 dX3_hole_22 ⟨by decide, by decide, by decide, by decide⟩
set_option maxRecDepth 100000 in
set_option maxHeartbeats 4000000 in
theorem k_X3_count_t (l : Launch) {E : gEn} {σ : gSt} {π : Nat → Nat} {o : Int64} (hst : l.stackTraces = false) {c0 c1 c2 c9 : cSt} {x : Int32} (hx : ¬ (¬ x < 0 ∧ x < 18)) : CtX l yX3_count wsX3_count ({ frames := 7, cells := 1, slots := 6, locals := 130 } : Room) E [.ref (E.2.1 9 0), .int x] (gT σ c0 c1 c2 c9) π o "java/lang/IllegalArgumentException" (gT σ c0 c1 c2 c9) π o := by
  refine CtX.of (cc := cX3_count) (own := RX3) (maxL := 2) (ret := (some .int)) [some (.ref (E.2.1 9 0)), some (.int x)] (by decide) rfl rfl (Nat.le_of_ble_eq_true rfl) rfl ?_
  intro p e s m args below meth cd C hX hnt hlk
  have hinX0 : ∀ w ∈ wsX00, w ∈ wsX3_count := by decide +kernel
  have hinX3 : ∀ w ∈ wsX30, w ∈ wsX3_count := by decide +kernel
  refine G.ildn1 C dX3_count_0 ?_
  refine G.if_lt C 10 dX3_count_1 (by decide) (fun h1 => ?_) (fun h1 => ?_)
  · exact G.throwS C hX hst hlk hnt (text := "what is not 0 to 17") ["java/lang/RuntimeException", "java/lang/Exception"] (by decide +kernel) (by decide +kernel) (by decide) (by decide +kernel) (by decide +kernel) dX3_count_10 dX3_count_13 dX3_count_14 dX3_count_16 dX3_count_19 ⟨by decide, by decide, by decide, by decide⟩
  · refine G.ildn1 C dX3_count_4 ?_
    refine G.bipush C 18 dX3_count_5 (by decide) ?_
    refine G.icmp_lt C 20 dX3_count_7 (by decide) (fun h7 => absurd h7 (fun q => hx ⟨h1, q⟩)) (fun h7 => ?_)
    exact G.throwS C hX hst hlk hnt (text := "what is not 0 to 17") ["java/lang/RuntimeException", "java/lang/Exception"] (by decide +kernel) (by decide +kernel) (by decide) (by decide +kernel) (by decide +kernel) dX3_count_10 dX3_count_13 dX3_count_14 dX3_count_16 dX3_count_19 ⟨by decide, by decide, by decide, by decide⟩
set_option maxRecDepth 100000 in
set_option maxHeartbeats 4000000 in
theorem k_X3_step_t (l : Launch) {E : gEn} {σ : gSt} {π : Nat → Nat} {o : Int64} (hst : l.stackTraces = false) {c0 c1 c2 c9 : cSt} {x y : Int32} (hx : ¬ (¬ x < 0 ∧ ¬ y < 0 ∧ y ≤ 1)) : CtX l yX3_step wsX3_step ({ frames := 7, cells := 1, slots := 6, locals := 130 } : Room) E [.ref (E.2.1 9 0), .int x, .int y] (gT σ c0 c1 c2 c9) π o "java/lang/IllegalArgumentException" (gT σ c0 c1 c2 c9) π o := by
  refine CtX.of (cc := cX3_step) (own := RX3) (maxL := 3) (ret := (some .int)) [some (.ref (E.2.1 9 0)), some (.int x), some (.int y)] (by decide) rfl rfl (Nat.le_of_ble_eq_true rfl) rfl ?_
  intro p e s m args below meth cd C hX hnt hlk
  have hinX0 : ∀ w ∈ wsX00, w ∈ wsX3_step := by decide +kernel
  have hinX2 : ∀ w ∈ wsX20, w ∈ wsX3_step := by decide +kernel
  have hinX3 : ∀ w ∈ wsX30, w ∈ wsX3_step := by decide +kernel
  refine G.ildn1 C dX3_step_0 ?_
  refine G.if_lt C 13 dX3_step_1 (by decide) (fun h1 => ?_) (fun h1 => ?_)
  · exact G.throwS C hX hst hlk hnt (text := "step is below 0, or what is neither 0 nor 1") ["java/lang/RuntimeException", "java/lang/Exception"] (by decide +kernel) (by decide +kernel) (by decide) (by decide +kernel) (by decide +kernel) dX3_step_13 dX3_step_16 dX3_step_17 dX3_step_19 dX3_step_22 ⟨by decide, by decide, by decide, by decide⟩
  · refine G.ildn2 C dX3_step_4 ?_
    refine G.if_lt C 13 dX3_step_5 (by decide) (fun h5 => ?_) (fun h5 => ?_)
    · exact G.throwS C hX hst hlk hnt (text := "step is below 0, or what is neither 0 nor 1") ["java/lang/RuntimeException", "java/lang/Exception"] (by decide +kernel) (by decide +kernel) (by decide) (by decide +kernel) (by decide +kernel) dX3_step_13 dX3_step_16 dX3_step_17 dX3_step_19 dX3_step_22 ⟨by decide, by decide, by decide, by decide⟩
    · refine G.ildn2 C dX3_step_8 ?_
      refine G.iconst C 1 dX3_step_9 (by decide) ?_
      refine G.icmp_le C 23 dX3_step_10 (by decide) (fun h10 => absurd h10 (fun q => hx ⟨h1, h5, q⟩)) (fun h10 => ?_)
      exact G.throwS C hX hst hlk hnt (text := "step is below 0, or what is neither 0 nor 1") ["java/lang/RuntimeException", "java/lang/Exception"] (by decide +kernel) (by decide +kernel) (by decide) (by decide +kernel) (by decide +kernel) dX3_step_13 dX3_step_16 dX3_step_17 dX3_step_19 dX3_step_22 ⟨by decide, by decide, by decide, by decide⟩
set_option maxRecDepth 100000 in
set_option maxHeartbeats 4000000 in
theorem k_X3_whyNot_t1 (l : Launch) {E : gEn} {σ : gSt} {π : Nat → Nat} {o : Int64} (hst : l.stackTraces = false) {c0 c1 c2 c9 : cSt} {x t : Int32} (hx : cEx c0 x = false) : CtX l yX3_whyNot wsX3_whyNot ({ frames := 7, cells := 1, slots := 6, locals := 130 } : Room) E [.ref (E.2.1 9 0), .int x, .int t] (gT σ c0 c1 c2 c9) π o "java/lang/IndexOutOfBoundsException" (gT σ c0 c1 c2 c9) π o := by
  refine CtX.of (cc := cX3_whyNot) (own := RX3) (maxL := 3) (ret := (some .int)) [some (.ref (E.2.1 9 0)), some (.int x), some (.int t)] (by decide) rfl rfl (Nat.le_of_ble_eq_true rfl) rfl ?_
  intro p e s m args below meth cd C hX hnt hlk
  have hinX0 : ∀ w ∈ wsX00, w ∈ wsX3_whyNot := by decide +kernel
  have hinX3 : ∀ w ∈ wsX30, w ∈ wsX3_whyNot := by decide +kernel
  refine G.aldn0 C dX3_whyNot_0 ?_
  refine G.ildn1 C dX3_whyNot_1 ?_
  exact G.xcallV1 C hX hlk hnt (k_X3_needDove_t l hst hx) (cwV 1 C.1.2.2.2.2 gX3_whyNot_X3_needDove rfl rfl rfl (by decide +kernel) ⟨Nat.le_of_ble_eq_true rfl, Nat.le_of_ble_eq_true rfl⟩) gO_m rfl (Nat.le_of_ble_eq_true rfl) dX3_whyNot_2 ⟨by decide, by decide⟩
set_option maxRecDepth 100000 in
set_option maxHeartbeats 4000000 in
theorem k_X3_whyNot_t2 (l : Launch) {E : gEn} {σ : gSt} {π : Nat → Nat} {o : Int64} (hst : l.stackTraces = false) {c0 c1 c2 c9 : cSt} {x t : Int32} (hx : cEx c0 x = true) (ht : ¬ (¬ t < 0 ∧ t ≤ 1439)) : CtX l yX3_whyNot wsX3_whyNot ({ frames := 7, cells := 1, slots := 6, locals := 130 } : Room) E [.ref (E.2.1 9 0), .int x, .int t] (gT σ c0 c1 c2 c9) π o "java/lang/IllegalArgumentException" (gT σ c0 c1 c2 c9) π o := by
  refine CtX.of (cc := cX3_whyNot) (own := RX3) (maxL := 3) (ret := (some .int)) [some (.ref (E.2.1 9 0)), some (.int x), some (.int t)] (by decide) rfl rfl (Nat.le_of_ble_eq_true rfl) rfl ?_
  intro p e s m args below meth cd C hX hnt hlk
  have hinX0 : ∀ w ∈ wsX00, w ∈ wsX3_whyNot := by decide +kernel
  have hinX3 : ∀ w ∈ wsX30, w ∈ wsX3_whyNot := by decide +kernel
  refine G.aldn0 C dX3_whyNot_0 ?_
  refine G.ildn1 C dX3_whyNot_1 ?_
  refine G.callVV1 C (k_X3_needDove l (by assumption)) (cwV 1 C.1.2.2.2.2 gX3_whyNot_X3_needDove rfl rfl rfl (by decide +kernel) ⟨Nat.le_of_ble_eq_true rfl, Nat.le_of_ble_eq_true rfl⟩) gO_m rfl (Nat.le_of_ble_eq_true rfl) dX3_whyNot_2 ?_
  refine G.ildn2 C dX3_whyNot_5 ?_
  exact G.xcallS1 C hX hlk hnt (k_X3_needTime_t l hst ht) (va_cwS 1 C.1.2.2.2.2 gX3_whyNot_X3_needTime rfl rfl rfl (by decide +kernel) ⟨Nat.le_of_ble_eq_true rfl, Nat.le_of_ble_eq_true rfl⟩) (Nat.le_of_ble_eq_true rfl) dX3_whyNot_6 ⟨by decide, by decide⟩
set_option maxRecDepth 100000 in
set_option maxHeartbeats 4000000 in
theorem k_X3_ifHome_t1 (l : Launch) {E : gEn} {σ : gSt} {π : Nat → Nat} {o : Int64} (hst : l.stackTraces = false) {c0 c1 c2 c9 : cSt} {x t w : Int32} (hx : cEx c0 x = false) : CtX l yX3_ifHome wsX3_ifHome ({ frames := 7, cells := 1, slots := 6, locals := 141 } : Room) E [.ref (E.2.1 9 0), .int x, .int t, .int w] (gT σ c0 c1 c2 c9) π o "java/lang/IndexOutOfBoundsException" (gT σ c0 c1 c2 c9) π o := by
  refine CtX.of (cc := cX3_ifHome) (own := RX3) (maxL := 4) (ret := (some .int)) [some (.ref (E.2.1 9 0)), some (.int x), some (.int t), some (.int w)] (by decide) rfl rfl (Nat.le_of_ble_eq_true rfl) rfl ?_
  intro p e s m args below meth cd C hX hnt hlk
  have hinX0 : ∀ w ∈ wsX00, w ∈ wsX3_ifHome := by decide +kernel
  have hinX2 : ∀ w ∈ wsX20, w ∈ wsX3_ifHome := by decide +kernel
  have hinX3 : ∀ w ∈ wsX30, w ∈ wsX3_ifHome := by decide +kernel
  refine G.aldn0 C dX3_ifHome_0 ?_
  refine G.ildn1 C dX3_ifHome_1 ?_
  exact G.xcallV1 C hX hlk hnt (k_X3_needDove_t l hst hx) (cwV 1 C.1.2.2.2.2 gX3_ifHome_X3_needDove rfl rfl rfl (by decide +kernel) ⟨Nat.le_of_ble_eq_true rfl, Nat.le_of_ble_eq_true rfl⟩) gO_m rfl (Nat.le_of_ble_eq_true rfl) dX3_ifHome_2 ⟨by decide, by decide⟩
set_option maxRecDepth 100000 in
set_option maxHeartbeats 4000000 in
theorem k_X3_ifHome_t2 (l : Launch) {E : gEn} {σ : gSt} {π : Nat → Nat} {o : Int64} (hst : l.stackTraces = false) {c0 c1 c2 c9 : cSt} {x t w : Int32} (hx : cEx c0 x = true) (ht : ¬ (¬ t < 0 ∧ t ≤ 1439)) : CtX l yX3_ifHome wsX3_ifHome ({ frames := 7, cells := 1, slots := 6, locals := 141 } : Room) E [.ref (E.2.1 9 0), .int x, .int t, .int w] (gT σ c0 c1 c2 c9) π o "java/lang/IllegalArgumentException" (gT σ c0 c1 c2 c9) π o := by
  refine CtX.of (cc := cX3_ifHome) (own := RX3) (maxL := 4) (ret := (some .int)) [some (.ref (E.2.1 9 0)), some (.int x), some (.int t), some (.int w)] (by decide) rfl rfl (Nat.le_of_ble_eq_true rfl) rfl ?_
  intro p e s m args below meth cd C hX hnt hlk
  have hinX0 : ∀ w ∈ wsX00, w ∈ wsX3_ifHome := by decide +kernel
  have hinX2 : ∀ w ∈ wsX20, w ∈ wsX3_ifHome := by decide +kernel
  have hinX3 : ∀ w ∈ wsX30, w ∈ wsX3_ifHome := by decide +kernel
  refine G.aldn0 C dX3_ifHome_0 ?_
  refine G.ildn1 C dX3_ifHome_1 ?_
  refine G.callVV1 C (k_X3_needDove l (by assumption)) (cwV 1 C.1.2.2.2.2 gX3_ifHome_X3_needDove rfl rfl rfl (by decide +kernel) ⟨Nat.le_of_ble_eq_true rfl, Nat.le_of_ble_eq_true rfl⟩) gO_m rfl (Nat.le_of_ble_eq_true rfl) dX3_ifHome_2 ?_
  refine G.ildn2 C dX3_ifHome_5 ?_
  exact G.xcallS1 C hX hlk hnt (k_X3_needTime_t l hst ht) (va_cwS 1 C.1.2.2.2.2 gX3_ifHome_X3_needTime rfl rfl rfl (by decide +kernel) ⟨Nat.le_of_ble_eq_true rfl, Nat.le_of_ble_eq_true rfl⟩) (Nat.le_of_ble_eq_true rfl) dX3_ifHome_6 ⟨by decide, by decide⟩
set_option maxRecDepth 100000 in
set_option maxHeartbeats 4000000 in
theorem k_X3_ifHome_t3 (l : Launch) {E : gEn} {σ : gSt} {π : Nat → Nat} {o : Int64} (hst : l.stackTraces = false) {c0 c1 c2 c9 : cSt} {x t w : Int32} (hx : cEx c0 x = true) (ht0 : ¬ t < 0) (ht1 : t ≤ 1439) (hw : ¬ (¬ w < 0 ∧ w ≤ 2)) : CtX l yX3_ifHome wsX3_ifHome ({ frames := 7, cells := 1, slots := 6, locals := 141 } : Room) E [.ref (E.2.1 9 0), .int x, .int t, .int w] (gT σ c0 c1 c2 c9) π o "java/lang/IllegalArgumentException" (gT σ c0 c1 c2 c9) π o := by
  refine CtX.of (cc := cX3_ifHome) (own := RX3) (maxL := 4) (ret := (some .int)) [some (.ref (E.2.1 9 0)), some (.int x), some (.int t), some (.int w)] (by decide) rfl rfl (Nat.le_of_ble_eq_true rfl) rfl ?_
  intro p e s m args below meth cd C hX hnt hlk
  have hinX0 : ∀ w ∈ wsX00, w ∈ wsX3_ifHome := by decide +kernel
  have hinX2 : ∀ w ∈ wsX20, w ∈ wsX3_ifHome := by decide +kernel
  have hinX3 : ∀ w ∈ wsX30, w ∈ wsX3_ifHome := by decide +kernel
  refine G.aldn0 C dX3_ifHome_0 ?_
  refine G.ildn1 C dX3_ifHome_1 ?_
  refine G.callVV1 C (k_X3_needDove l (by assumption)) (cwV 1 C.1.2.2.2.2 gX3_ifHome_X3_needDove rfl rfl rfl (by decide +kernel) ⟨Nat.le_of_ble_eq_true rfl, Nat.le_of_ble_eq_true rfl⟩) gO_m rfl (Nat.le_of_ble_eq_true rfl) dX3_ifHome_2 ?_
  refine G.ildn2 C dX3_ifHome_5 ?_
  refine G.callSV1 C (k_X3_needTime l ht0 ht1) (va_cwS 1 C.1.2.2.2.2 gX3_ifHome_X3_needTime rfl rfl rfl (by decide +kernel) ⟨Nat.le_of_ble_eq_true rfl, Nat.le_of_ble_eq_true rfl⟩) (Nat.le_of_ble_eq_true rfl) dX3_ifHome_6 ?_
  refine G.ildn3 C dX3_ifHome_9 ?_
  refine G.if_lt C 18 dX3_ifHome_10 (by decide) (fun h10 => ?_) (fun h10 => ?_)
  · exact G.throwS C hX hst hlk hnt (text := "what is not 0 to 2") ["java/lang/RuntimeException", "java/lang/Exception"] (by decide +kernel) (by decide +kernel) (by decide) (by decide +kernel) (by decide +kernel) dX3_ifHome_18 dX3_ifHome_21 dX3_ifHome_22 dX3_ifHome_24 dX3_ifHome_27 ⟨by decide, by decide, by decide, by decide⟩
  · refine G.ildn3 C dX3_ifHome_13 ?_
    refine G.iconst C 2 dX3_ifHome_14 (by decide) ?_
    refine G.icmp_le C 28 dX3_ifHome_15 (by decide) (fun h15 => absurd h15 (fun q => hw ⟨h10, q⟩)) (fun h15 => ?_)
    exact G.throwS C hX hst hlk hnt (text := "what is not 0 to 2") ["java/lang/RuntimeException", "java/lang/Exception"] (by decide +kernel) (by decide +kernel) (by decide) (by decide +kernel) (by decide +kernel) dX3_ifHome_18 dX3_ifHome_21 dX3_ifHome_22 dX3_ifHome_24 dX3_ifHome_27 ⟨by decide, by decide, by decide, by decide⟩
