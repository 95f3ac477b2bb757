/-! the public methods where they answer -/
theorem vin_of {x : Int32} {n : Nat} (h0 : ¬ x < 0) (h : x < nI n) (hn : n < 2 ^ 31) : vp_in x n := by
  obtain ⟨j, hj, rfl⟩ := nI_of h0
  rw [nI_ltI hj hn] at h
  exact vp_in_nI h hn
set_option maxRecDepth 100000 in
set_option maxHeartbeats 4000000 in
theorem k_X3_needHole (l : Launch) {E : gEn} {σ : gSt} {π : Nat → Nat} {o : Int64} {x : Int32} (hx : hHole x = true) : CtV l yX3_needHole wsX3_needHole ({ frames := 1, cells := 0, slots := 0, locals := 20 } : Room) E [.int x] σ π o  σ π o := by
  refine CtV.of (cc := cX3_needHole) (own := RX3) (maxL := 1) (ret := none) [some (.int x)] (by decide) rfl rfl (Nat.le_of_ble_eq_true rfl) rfl ?_
  intro p e s m args below meth cd C hrt hlk
  refine G.ildn0 C dX3_needHole_0 ?_
  refine G.callSI1 C (k_X3_isHole l) (va_cwS 1 C.1.2.2.2.2 gX3_needHole_X3_isHole rfl rfl rfl (by decide +kernel) ⟨Nat.le_of_ble_eq_true rfl, Nat.le_of_ble_eq_true rfl⟩) (Nat.le_of_ble_eq_true rfl) dX3_needHole_1 ?_
  refine G.if_neB C 18 dX3_needHole_4 (by decide) (fun h4 => ?_) (fun h4 => absurd h4 (by rw [hx]; decide))
  exact G.vret C hlk hrt dX3_needHole_18 (by exact fun _ h => h)
set_option maxRecDepth 100000 in
set_option maxHeartbeats 4000000 in
theorem k_X3_needTime (l : Launch) {E : gEn} {σ : gSt} {π : Nat → Nat} {o : Int64} {t : Int32} (ht0 : ¬ t < 0) (ht1 : t ≤ 1439) : CtV l yX3_needTime wsX3_needTime ({ frames := 0, cells := 0, slots := 0, locals := 0 } : Room) E [.int t] σ π o  σ π o := by
  refine CtV.of (cc := cX3_needTime) (own := RX3) (maxL := 1) (ret := none) [some (.int t)] (by decide) rfl rfl (Nat.le_of_ble_eq_true rfl) rfl ?_
  intro p e s m args below meth cd C hrt hlk
  refine G.ildn0 C dX3_needTime_0 ?_
  refine G.if_lt C 11 dX3_needTime_1 (by decide) (fun h1 => absurd h1 (ht0)) (fun h1 => ?_)
  refine G.ildn0 C dX3_needTime_4 ?_
  refine G.sipush C 1439 dX3_needTime_5 (by decide) ?_
  refine G.icmp_le C 22 dX3_needTime_8 (by decide) (fun h8 => ?_) (fun h8 => absurd (ht1) h8)
  exact G.vret C hlk hrt dX3_needTime_22 (by exact fun _ h => h)
set_option maxRecDepth 100000 in
set_option maxHeartbeats 4000000 in
theorem k_X3_needDove (l : Launch) {E : gEn} {σ : gSt} {π : Nat → Nat} {o : Int64} {c0 c1 c2 c9 : cSt} {x : Int32} (hx : cEx c0 x = true) : CtV l yX3_needDove wsX3_needDove ({ frames := 1, cells := 0, slots := 0, locals := 21 } : Room) E [.ref (E.2.1 9 0), .int x] (gT σ c0 c1 c2 c9) π o  (gT σ c0 c1 c2 c9) π o := by
  refine CtV.of (cc := cX3_needDove) (own := RX3) (maxL := 2) (ret := none) [some (.ref (E.2.1 9 0)), some (.int x)] (by decide) rfl rfl (Nat.le_of_ble_eq_true rfl) rfl ?_
  intro p e s m args below meth cd C hrt hlk
  have hinX0 : ∀ w ∈ wsX00, w ∈ wsX3_needDove := by decide +kernel
  have hinX3 : ∀ w ∈ wsX30, w ∈ wsX3_needDove := by decide +kernel
  refine G.aldn0 C dX3_needDove_0 ?_
  refine G.getMT C hinX3 0 (by decide) rfl (C.1.2.2.2.2 (.fieldLink RX3 10 RX3 "now" "LLateDoves$Cote;") (by decide +kernel)) rfl dX3_needDove_1 ?_
  refine G.ildn1 C dX3_needDove_4 ?_
  refine G.callVI1 C (T0I (k_X0_exists l (by omega))) (cwV 1 C.1.2.2.2.2 gX3_needDove_X0_exists rfl rfl rfl (by decide +kernel) ⟨Nat.le_of_ble_eq_true rfl, Nat.le_of_ble_eq_true rfl⟩) (gO_c (by omega)) rfl (Nat.le_of_ble_eq_true rfl) dX3_needDove_5 ?_
  refine G.if_neB C 22 dX3_needDove_8 (by decide) (fun h8 => ?_) (fun h8 => absurd h8 (by rw [hx]; decide))
  exact G.vret C hlk hrt dX3_needDove_22 (by exact fun _ h => h)
set_option maxRecDepth 100000 in
set_option maxHeartbeats 4000000 in
theorem k_X3_buy (l : Launch) {E : gEn} {σ : gSt} {π : Nat → Nat} {o : Int64} {c0 c1 c2 c9 : cSt} {x y : Int32} (hx : hHole x = true) (hy1 : ¬ y < 1) (hy9 : y ≤ 9) (hw : cWhyBuy c0 x = 0) {sv : Nat} (hs : c9 0 5 = nI sv) (hle : sv ≤ 6) (hπ : ∀ k, k < 6 → 3 ≤ π k ∧ π k < 9) : CtI l yX3_buy wsX3_buy ({ frames := 4, cells := 0, slots := 0, locals := 83 } : Room) E [.ref (E.2.1 9 0), .int x, .int y] (gT σ c0 c1 c2 c9) π o ((cAdd c0 x y).1) (gT (svS σ π sv c0) (cAdd c0 x y).2 c1 c2 (sv9 c9 sv)) (svP π sv) o := by
  refine CtI.of (cc := cX3_buy) (own := RX3) (maxL := 3) (ret := (some .int)) [some (.ref (E.2.1 9 0)), some (.int x), some (.int y)] (by decide) rfl rfl (Nat.le_of_ble_eq_true rfl) rfl ?_
  intro p e s m args below meth cd C hrt hlk
  have hinX0 : ∀ w ∈ wsX00, w ∈ wsX3_buy := by decide +kernel
  have hinX2 : ∀ w ∈ wsX20, w ∈ wsX3_buy := by decide +kernel
  have hinX3 : ∀ w ∈ wsX30, w ∈ wsX3_buy := by decide +kernel
  refine G.ildn1 C dX3_buy_0 ?_
  refine G.callSV1 C (k_X3_needHole l (by assumption)) (va_cwS 1 C.1.2.2.2.2 gX3_buy_X3_needHole rfl rfl rfl (by decide +kernel) ⟨Nat.le_of_ble_eq_true rfl, Nat.le_of_ble_eq_true rfl⟩) (Nat.le_of_ble_eq_true rfl) dX3_buy_1 ?_
  refine G.ildn2 C dX3_buy_4 ?_
  refine G.iconst C 1 dX3_buy_5 (by decide) ?_
  refine G.icmp_lt C 15 dX3_buy_6 (by decide) (fun h6 => absurd h6 (hy1)) (fun h6 => ?_)
  refine G.ildn2 C dX3_buy_9 ?_
  refine G.bipush C 9 dX3_buy_10 (by decide) ?_
  refine G.icmp_le C 25 dX3_buy_12 (by decide) (fun h12 => ?_) (fun h12 => absurd (hy9) h12)
  refine G.aldn0 C dX3_buy_25 ?_
  refine G.getMT C hinX3 0 (by decide) rfl (C.1.2.2.2.2 (.fieldLink RX3 10 RX3 "now" "LLateDoves$Cote;") (by decide +kernel)) rfl dX3_buy_26 ?_
  refine G.ildn1 C dX3_buy_29 ?_
  refine G.callVI1 C (T0I (k_X0_reasonNotToBuy l (by omega) (hHole_in hx))) (cwV 1 C.1.2.2.2.2 gX3_buy_X0_reasonNotToBuy rfl rfl rfl (by decide +kernel) ⟨Nat.le_of_ble_eq_true rfl, Nat.le_of_ble_eq_true rfl⟩) (gO_c (by omega)) rfl (Nat.le_of_ble_eq_true rfl) dX3_buy_30 ?_
  refine G.if_eq C 46 dX3_buy_33 (by decide) (fun h33 => ?_) (fun h33 => absurd (hw) h33)
  refine G.aldn0 C dX3_buy_46 ?_
  refine G.callVV0 C (k_X3_save l hs hle hπ) (cwV 0 C.1.2.2.2.2 gX3_buy_X3_save rfl rfl rfl (by decide +kernel) ⟨Nat.le_of_ble_eq_true rfl, Nat.le_of_ble_eq_true rfl⟩) gO_m rfl (Nat.le_of_ble_eq_true rfl) dX3_buy_47 ?_
  refine G.aldn0 C dX3_buy_50 ?_
  refine G.getMT C hinX3 0 (by decide) rfl (C.1.2.2.2.2 (.fieldLink RX3 10 RX3 "now" "LLateDoves$Cote;") (by decide +kernel)) rfl dX3_buy_51 ?_
  refine G.ildn1 C dX3_buy_54 ?_
  refine G.ildn2 C dX3_buy_55 ?_
  refine G.callVI2 C (T0I (k_X0_addDove l (by omega) (hHole_in hx))) (cwV 2 C.1.2.2.2.2 gX3_buy_X0_addDove rfl rfl rfl (by decide +kernel) ⟨Nat.le_of_ble_eq_true rfl, Nat.le_of_ble_eq_true rfl⟩) (gO_c (by omega)) rfl (Nat.le_of_ble_eq_true rfl) dX3_buy_56 ?_
  exact G.iret C hlk hrt dX3_buy_59 (by rfl) (by exact fun _ h => h)
set_option maxRecDepth 100000 in
set_option maxHeartbeats 4000000 in
theorem k_X3_sell (l : Launch) {E : gEn} {σ : gSt} {π : Nat → Nat} {o : Int64} {c0 c1 c2 c9 : cSt} {x : Int32} (hx : cEx c0 x = true) {sv : Nat} (hs : c9 0 5 = nI sv) (hle : sv ≤ 6) (hπ : ∀ k, k < 6 → 3 ≤ π k ∧ π k < 9) : CtI l yX3_sell wsX3_sell ({ frames := 4, cells := 0, slots := 0, locals := 83 } : Room) E [.ref (E.2.1 9 0), .int x] (gT σ c0 c1 c2 c9) π o (c0 4 (ix x)) (gT (svS σ π sv c0) (cRem c0 x) c1 c2 (sv9 c9 sv)) (svP π sv) o := by
  refine CtI.of (cc := cX3_sell) (own := RX3) (maxL := 2) (ret := (some .int)) [some (.ref (E.2.1 9 0)), some (.int x)] (by decide) rfl rfl (Nat.le_of_ble_eq_true rfl) rfl ?_
  intro p e s m args below meth cd C hrt hlk
  have hinX0 : ∀ w ∈ wsX00, w ∈ wsX3_sell := by decide +kernel
  have hinX2 : ∀ w ∈ wsX20, w ∈ wsX3_sell := by decide +kernel
  have hinX3 : ∀ w ∈ wsX30, w ∈ wsX3_sell := by decide +kernel
  refine G.aldn0 C dX3_sell_0 ?_
  refine G.ildn1 C dX3_sell_1 ?_
  refine G.callVV1 C (k_X3_needDove l (by assumption)) (cwV 1 C.1.2.2.2.2 gX3_sell_X3_needDove rfl rfl rfl (by decide +kernel) ⟨Nat.le_of_ble_eq_true rfl, Nat.le_of_ble_eq_true rfl⟩) gO_m rfl (Nat.le_of_ble_eq_true rfl) dX3_sell_2 ?_
  refine G.aldn0 C dX3_sell_5 ?_
  refine G.callVV0 C (k_X3_save l hs hle hπ) (cwV 0 C.1.2.2.2.2 gX3_sell_X3_save rfl rfl rfl (by decide +kernel) ⟨Nat.le_of_ble_eq_true rfl, Nat.le_of_ble_eq_true rfl⟩) gO_m rfl (Nat.le_of_ble_eq_true rfl) dX3_sell_6 ?_
  refine G.aldn0 C dX3_sell_9 ?_
  refine G.getMT C hinX3 0 (by decide) rfl (C.1.2.2.2.2 (.fieldLink RX3 10 RX3 "now" "LLateDoves$Cote;") (by decide +kernel)) rfl dX3_sell_10 ?_
  refine G.ildn1 C dX3_sell_13 ?_
  refine G.callVI1 C (T0I (k_X0_removeDove l (by omega) (cEx_in hx))) (cwV 1 C.1.2.2.2.2 gX3_sell_X0_removeDove rfl rfl rfl (by decide +kernel) ⟨Nat.le_of_ble_eq_true rfl, Nat.le_of_ble_eq_true rfl⟩) (gO_c (by omega)) rfl (Nat.le_of_ble_eq_true rfl) dX3_sell_14 ?_
  exact G.iret C hlk hrt dX3_sell_17 (by rfl) (by exact fun _ h => h)
set_option maxRecDepth 100000 in
set_option maxHeartbeats 4000000 in
theorem k_X3_mate (l : Launch) {E : gEn} {σ : gSt} {π : Nat → Nat} {o : Int64} {c0 c1 c2 c9 : cSt} {x y : Int32} (hx : cEx c0 x = true) (hy : cEx c0 y = true) (hw : cWhyPair c0 x y = 0) {sv : Nat} (hs : c9 0 5 = nI sv) (hle : sv ≤ 6) (hπ : ∀ k, k < 6 → 3 ≤ π k ∧ π k < 9) : CtI l yX3_mate wsX3_mate ({ frames := 4, cells := 0, slots := 0, locals := 83 } : Room) E [.ref (E.2.1 9 0), .int x, .int y] (gT σ c0 c1 c2 c9) π o (cPairs (cPair c0 x y)) (gT (svS σ π sv c0) (cPair c0 x y) c1 c2 (sv9 c9 sv)) (svP π sv) o := by
  refine CtI.of (cc := cX3_mate) (own := RX3) (maxL := 3) (ret := (some .int)) [some (.ref (E.2.1 9 0)), some (.int x), some (.int y)] (by decide) rfl rfl (Nat.le_of_ble_eq_true rfl) rfl ?_
  intro p e s m args below meth cd C hrt hlk
  have hinX0 : ∀ w ∈ wsX00, w ∈ wsX3_mate := by decide +kernel
  have hinX2 : ∀ w ∈ wsX20, w ∈ wsX3_mate := by decide +kernel
  have hinX3 : ∀ w ∈ wsX30, w ∈ wsX3_mate := by decide +kernel
  refine G.aldn0 C dX3_mate_0 ?_
  refine G.ildn1 C dX3_mate_1 ?_
  refine G.callVV1 C (k_X3_needDove l (by assumption)) (cwV 1 C.1.2.2.2.2 gX3_mate_X3_needDove rfl rfl rfl (by decide +kernel) ⟨Nat.le_of_ble_eq_true rfl, Nat.le_of_ble_eq_true rfl⟩) gO_m rfl (Nat.le_of_ble_eq_true rfl) dX3_mate_2 ?_
  refine G.aldn0 C dX3_mate_5 ?_
  refine G.ildn2 C dX3_mate_6 ?_
  refine G.callVV1 C (k_X3_needDove l (by assumption)) (cwV 1 C.1.2.2.2.2 gX3_mate_X3_needDove rfl rfl rfl (by decide +kernel) ⟨Nat.le_of_ble_eq_true rfl, Nat.le_of_ble_eq_true rfl⟩) gO_m rfl (Nat.le_of_ble_eq_true rfl) dX3_mate_7 ?_
  refine G.aldn0 C dX3_mate_10 ?_
  refine G.getMT C hinX3 0 (by decide) rfl (C.1.2.2.2.2 (.fieldLink RX3 10 RX3 "now" "LLateDoves$Cote;") (by decide +kernel)) rfl dX3_mate_11 ?_
  refine G.ildn1 C dX3_mate_14 ?_
  refine G.ildn2 C dX3_mate_15 ?_
  refine G.callVI2 C (T0I (k_X0_reasonNotToPair l (by omega) (cEx_in hx) (cEx_in hy))) (cwV 2 C.1.2.2.2.2 gX3_mate_X0_reasonNotToPair rfl rfl rfl (by decide +kernel) ⟨Nat.le_of_ble_eq_true rfl, Nat.le_of_ble_eq_true rfl⟩) (gO_c (by omega)) rfl (Nat.le_of_ble_eq_true rfl) dX3_mate_16 ?_
  refine G.if_eq C 32 dX3_mate_19 (by decide) (fun h19 => ?_) (fun h19 => absurd (hw) h19)
  refine G.aldn0 C dX3_mate_32 ?_
  refine G.callVV0 C (k_X3_save l hs hle hπ) (cwV 0 C.1.2.2.2.2 gX3_mate_X3_save rfl rfl rfl (by decide +kernel) ⟨Nat.le_of_ble_eq_true rfl, Nat.le_of_ble_eq_true rfl⟩) gO_m rfl (Nat.le_of_ble_eq_true rfl) dX3_mate_33 ?_
  refine G.aldn0 C dX3_mate_36 ?_
  refine G.getMT C hinX3 0 (by decide) rfl (C.1.2.2.2.2 (.fieldLink RX3 10 RX3 "now" "LLateDoves$Cote;") (by decide +kernel)) rfl dX3_mate_37 ?_
  refine G.ildn1 C dX3_mate_40 ?_
  refine G.ildn2 C dX3_mate_41 ?_
  refine G.callVV2 C (T0V (k_X0_pair l (by omega) (cEx_in hx) (cEx_in hy))) (cwV 2 C.1.2.2.2.2 gX3_mate_X0_pair rfl rfl rfl (by decide +kernel) ⟨Nat.le_of_ble_eq_true rfl, Nat.le_of_ble_eq_true rfl⟩) (gO_c (by omega)) rfl (Nat.le_of_ble_eq_true rfl) dX3_mate_42 ?_
  refine G.aldn0 C dX3_mate_45 ?_
  refine G.getMT C hinX3 0 (by decide) rfl (C.1.2.2.2.2 (.fieldLink RX3 10 RX3 "now" "LLateDoves$Cote;") (by decide +kernel)) rfl dX3_mate_46 ?_
  refine G.callVI0 C (T0I (k_X0_pairs l (by omega))) (cwV 0 C.1.2.2.2.2 gX3_mate_X0_pairs rfl rfl rfl (by decide +kernel) ⟨Nat.le_of_ble_eq_true rfl, Nat.le_of_ble_eq_true rfl⟩) (gO_c (by omega)) rfl (Nat.le_of_ble_eq_true rfl) dX3_mate_49 ?_
  exact G.iret C hlk hrt dX3_mate_52 (by rfl) (by exact fun _ h => h)
set_option maxRecDepth 100000 in
set_option maxHeartbeats 4000000 in
theorem k_X3_shut (l : Launch) {E : gEn} {σ : gSt} {π : Nat → Nat} {o : Int64} {c0 c1 c2 c9 : cSt} {x : Int32} (hx : hHole x = true) (hw : cWhyShut c0 x = 0) {sv : Nat} (hs : c9 0 5 = nI sv) (hle : sv ≤ 6) (hπ : ∀ k, k < 6 → 3 ≤ π k ∧ π k < 9) : CtI l yX3_shut wsX3_shut ({ frames := 4, cells := 0, slots := 0, locals := 83 } : Room) E [.ref (E.2.1 9 0), .int x] (gT σ c0 c1 c2 c9) π o (cOpens (cW c0 13 (ix x) 0)) (gT (svS σ π sv c0) (cW c0 13 (ix x) 0) c1 c2 (sv9 c9 sv)) (svP π sv) o := by
  refine CtI.of (cc := cX3_shut) (own := RX3) (maxL := 2) (ret := (some .int)) [some (.ref (E.2.1 9 0)), some (.int x)] (by decide) rfl rfl (Nat.le_of_ble_eq_true rfl) rfl ?_
  intro p e s m args below meth cd C hrt hlk
  have hinX0 : ∀ w ∈ wsX00, w ∈ wsX3_shut := by decide +kernel
  have hinX2 : ∀ w ∈ wsX20, w ∈ wsX3_shut := by decide +kernel
  have hinX3 : ∀ w ∈ wsX30, w ∈ wsX3_shut := by decide +kernel
  refine G.ildn1 C dX3_shut_0 ?_
  refine G.callSV1 C (k_X3_needHole l (by assumption)) (va_cwS 1 C.1.2.2.2.2 gX3_shut_X3_needHole rfl rfl rfl (by decide +kernel) ⟨Nat.le_of_ble_eq_true rfl, Nat.le_of_ble_eq_true rfl⟩) (Nat.le_of_ble_eq_true rfl) dX3_shut_1 ?_
  refine G.aldn0 C dX3_shut_4 ?_
  refine G.getMT C hinX3 0 (by decide) rfl (C.1.2.2.2.2 (.fieldLink RX3 10 RX3 "now" "LLateDoves$Cote;") (by decide +kernel)) rfl dX3_shut_5 ?_
  refine G.ildn1 C dX3_shut_8 ?_
  refine G.callVI1 C (T0I (k_X0_reasonNotToShut l (by omega) (hHole_in hx))) (cwV 1 C.1.2.2.2.2 gX3_shut_X0_reasonNotToShut rfl rfl rfl (by decide +kernel) ⟨Nat.le_of_ble_eq_true rfl, Nat.le_of_ble_eq_true rfl⟩) (gO_c (by omega)) rfl (Nat.le_of_ble_eq_true rfl) dX3_shut_9 ?_
  refine G.if_eq C 25 dX3_shut_12 (by decide) (fun h12 => ?_) (fun h12 => absurd (hw) h12)
  refine G.aldn0 C dX3_shut_25 ?_
  refine G.callVV0 C (k_X3_save l hs hle hπ) (cwV 0 C.1.2.2.2.2 gX3_shut_X3_save rfl rfl rfl (by decide +kernel) ⟨Nat.le_of_ble_eq_true rfl, Nat.le_of_ble_eq_true rfl⟩) gO_m rfl (Nat.le_of_ble_eq_true rfl) dX3_shut_26 ?_
  refine G.aldn0 C dX3_shut_29 ?_
  refine G.getMT C hinX3 0 (by decide) rfl (C.1.2.2.2.2 (.fieldLink RX3 10 RX3 "now" "LLateDoves$Cote;") (by decide +kernel)) rfl dX3_shut_30 ?_
  refine G.ildn1 C dX3_shut_33 ?_
  refine G.iconst C 0 dX3_shut_34 (by decide) ?_
  refine G.callVV2 C (T0V (k_X0_setOpen l (by omega) (hHole_in hx))) (cwV 2 C.1.2.2.2.2 gX3_shut_X0_setOpen rfl rfl rfl (by decide +kernel) ⟨Nat.le_of_ble_eq_true rfl, Nat.le_of_ble_eq_true rfl⟩) (gO_c (by omega)) rfl (Nat.le_of_ble_eq_true rfl) dX3_shut_35 ?_
  refine G.aldn0 C dX3_shut_38 ?_
  refine G.getMT C hinX3 0 (by decide) rfl (C.1.2.2.2.2 (.fieldLink RX3 10 RX3 "now" "LLateDoves$Cote;") (by decide +kernel)) rfl dX3_shut_39 ?_
  refine G.callVI0 C (T0I (k_X0_openHoles l (by omega))) (cwV 0 C.1.2.2.2.2 gX3_shut_X0_openHoles rfl rfl rfl (by decide +kernel) ⟨Nat.le_of_ble_eq_true rfl, Nat.le_of_ble_eq_true rfl⟩) (gO_c (by omega)) rfl (Nat.le_of_ble_eq_true rfl) dX3_shut_42 ?_
  exact G.iret C hlk hrt dX3_shut_45 (by rfl) (by exact fun _ h => h)
set_option maxRecDepth 100000 in
set_option maxHeartbeats 4000000 in
theorem k_X3_open (l : Launch) {E : gEn} {σ : gSt} {π : Nat → Nat} {o : Int64} {c0 c1 c2 c9 : cSt} {x : Int32} (hx : hHole x = true) {sv : Nat} (hs : c9 0 5 = nI sv) (hle : sv ≤ 6) (hπ : ∀ k, k < 6 → 3 ≤ π k ∧ π k < 9) : CtI l yX3_open wsX3_open ({ frames := 4, cells := 0, slots := 0, locals := 83 } : Room) E [.ref (E.2.1 9 0), .int x] (gT σ c0 c1 c2 c9) π o (cOpens (cW c0 13 (ix x) 1)) (gT (svS σ π sv c0) (cW c0 13 (ix x) 1) c1 c2 (sv9 c9 sv)) (svP π sv) o := by
  refine CtI.of (cc := cX3_open) (own := RX3) (maxL := 2) (ret := (some .int)) [some (.ref (E.2.1 9 0)), some (.int x)] (by decide) rfl rfl (Nat.le_of_ble_eq_true rfl) rfl ?_
  intro p e s m args below meth cd C hrt hlk
  have hinX0 : ∀ w ∈ wsX00, w ∈ wsX3_open := by decide +kernel
  have hinX2 : ∀ w ∈ wsX20, w ∈ wsX3_open := by decide +kernel
  have hinX3 : ∀ w ∈ wsX30, w ∈ wsX3_open := by decide +kernel
  refine G.ildn1 C dX3_open_0 ?_
  refine G.callSV1 C (k_X3_needHole l (by assumption)) (va_cwS 1 C.1.2.2.2.2 gX3_open_X3_needHole rfl rfl rfl (by decide +kernel) ⟨Nat.le_of_ble_eq_true rfl, Nat.le_of_ble_eq_true rfl⟩) (Nat.le_of_ble_eq_true rfl) dX3_open_1 ?_
  refine G.aldn0 C dX3_open_4 ?_
  refine G.callVV0 C (k_X3_save l hs hle hπ) (cwV 0 C.1.2.2.2.2 gX3_open_X3_save rfl rfl rfl (by decide +kernel) ⟨Nat.le_of_ble_eq_true rfl, Nat.le_of_ble_eq_true rfl⟩) gO_m rfl (Nat.le_of_ble_eq_true rfl) dX3_open_5 ?_
  refine G.aldn0 C dX3_open_8 ?_
  refine G.getMT C hinX3 0 (by decide) rfl (C.1.2.2.2.2 (.fieldLink RX3 10 RX3 "now" "LLateDoves$Cote;") (by decide +kernel)) rfl dX3_open_9 ?_
  refine G.ildn1 C dX3_open_12 ?_
  refine G.iconst C 1 dX3_open_13 (by decide) ?_
  refine G.callVV2 C (T0V (k_X0_setOpen l (by omega) (hHole_in hx))) (cwV 2 C.1.2.2.2.2 gX3_open_X0_setOpen rfl rfl rfl (by decide +kernel) ⟨Nat.le_of_ble_eq_true rfl, Nat.le_of_ble_eq_true rfl⟩) (gO_c (by omega)) rfl (Nat.le_of_ble_eq_true rfl) dX3_open_14 ?_
  refine G.aldn0 C dX3_open_17 ?_
  refine G.getMT C hinX3 0 (by decide) rfl (C.1.2.2.2.2 (.fieldLink RX3 10 RX3 "now" "LLateDoves$Cote;") (by decide +kernel)) rfl dX3_open_18 ?_
  refine G.callVI0 C (T0I (k_X0_openHoles l (by omega))) (cwV 0 C.1.2.2.2.2 gX3_open_X0_openHoles rfl rfl rfl (by decide +kernel) ⟨Nat.le_of_ble_eq_true rfl, Nat.le_of_ble_eq_true rfl⟩) (gO_c (by omega)) rfl (Nat.le_of_ble_eq_true rfl) dX3_open_21 ?_
  exact G.iret C hlk hrt dX3_open_24 (by rfl) (by exact fun _ h => h)
set_option maxRecDepth 100000 in
set_option maxHeartbeats 4000000 in
theorem k_X3_set (l : Launch) {E : gEn} {σ : gSt} {π : Nat → Nat} {o : Int64} {c0 c1 c2 c9 : cSt} {x y : Int32} (hx0 : ¬ x < 0) (hx2 : x < 2) (hy0 : ¬ y < 0) (hy : y ≤ if x = 0 then 1439 else 24) {sv : Nat} (hs : c9 0 5 = nI sv) (hle : sv ≤ 6) (hπ : ∀ k, k < 6 → 3 ≤ π k ∧ π k < 9) : CtI l yX3_set wsX3_set ({ frames := 4, cells := 0, slots := 0, locals := 83 } : Room) E [.ref (E.2.1 9 0), .int x, .int y] (gT σ c0 c1 c2 c9) π o (c0 14 (ix x)) (gT (svS σ π sv c0) (cW c0 14 (ix x) y) c1 c2 (sv9 c9 sv)) (svP π sv) o := by
  refine CtI.of (cc := cX3_set) (own := RX3) (maxL := 5) (ret := (some .int)) [some (.ref (E.2.1 9 0)), some (.int x), some (.int y), none, none] (by decide) rfl rfl (Nat.le_of_ble_eq_true rfl) rfl ?_
  intro p e s m args below meth cd C hrt hlk
  have hinX0 : ∀ w ∈ wsX00, w ∈ wsX3_set := by decide +kernel
  have hinX2 : ∀ w ∈ wsX20, w ∈ wsX3_set := by decide +kernel
  have hinX3 : ∀ w ∈ wsX30, w ∈ wsX3_set := by decide +kernel
  refine G.ildn1 C dX3_set_0 ?_
  refine G.if_lt C 9 dX3_set_1 (by decide) (fun h1 => absurd h1 (hx0)) (fun h1 => ?_)
  refine G.ildn1 C dX3_set_4 ?_
  refine G.iconst C 2 dX3_set_5 (by decide) ?_
  refine G.icmp_lt C 19 dX3_set_6 (by decide) (fun h6 => ?_) (fun h6 => absurd (hx2) h6)
  refine G.ildn1 C dX3_set_19 ?_
  refine G.if_ne C 29 dX3_set_20 (by decide) (fun h20 => ?_) (fun h20 => ?_)
  · refine G.bipush C 24 dX3_set_29 (by decide) ?_
    refine G.istn3 C dX3_set_31 (by omega) rfl ?_
    refine G.ildn2 C dX3_set_32 ?_
    refine G.if_lt C 41 dX3_set_33 (by decide) (fun h33 => absurd h33 (hy0)) (fun h33 => ?_)
    refine G.ildn2 C dX3_set_36 ?_
    refine G.ildn3 C dX3_set_37 ?_
    refine G.icmp_le C 51 dX3_set_38 (by decide) (fun h38 => ?_) (fun h38 => absurd ((by first | (rw [if_pos h20] at hy; exact hy) | (rw [if_neg h20] at hy; exact hy))) h38)
    refine G.aldn0 C dX3_set_51 ?_
    refine G.callVV0 C (k_X3_save l hs hle hπ) (cwV 0 C.1.2.2.2.2 gX3_set_X3_save rfl rfl rfl (by decide +kernel) ⟨Nat.le_of_ble_eq_true rfl, Nat.le_of_ble_eq_true rfl⟩) gO_m rfl (Nat.le_of_ble_eq_true rfl) dX3_set_52 ?_
    refine G.aldn0 C dX3_set_55 ?_
    refine G.getMT C hinX3 0 (by decide) rfl (C.1.2.2.2.2 (.fieldLink RX3 10 RX3 "now" "LLateDoves$Cote;") (by decide +kernel)) rfl dX3_set_56 ?_
    refine G.getCT0N C hinX0 2 (by decide) rfl (by simp [gNst, TX0, TX1, TX2]) rfl dX3_set_59 ?_
    refine G.ildn1 C dX3_set_62 ?_
    refine G.ialdT0 C (n := 2) (j := 14) (d0 := _) (gN_c (by omega) rfl) (gV_c (by omega) (by omega)) (vin_of (n := 2) hx0 hx2 (by omega)) rfl dX3_set_63 ?_
    refine G.ist4 C dX3_set_64 (by omega) rfl ?_
    refine G.aldn0 C dX3_set_66 ?_
    refine G.getMT C hinX3 0 (by decide) rfl (C.1.2.2.2.2 (.fieldLink RX3 10 RX3 "now" "LLateDoves$Cote;") (by decide +kernel)) rfl dX3_set_67 ?_
    refine G.getCT0N C hinX0 2 (by decide) rfl (by simp [gNst, TX0, TX1, TX2]) rfl dX3_set_70 ?_
    refine G.ildn1 C dX3_set_73 ?_
    refine G.ildn2 C dX3_set_74 ?_
    refine G.iastT0 C (n := 2) (j := 14) (d0 := _) (gN_c (by omega) rfl) (gV_c (by omega) (by omega)) (vin_of (n := 2) hx0 hx2 (by omega)) rfl dX3_set_75 ?_
    refine G.ild4 C dX3_set_76 ?_
    exact G.iret C hlk hrt dX3_set_78 (by rfl) (by exact fun _ h => h)
  · refine G.sipush C 1439 dX3_set_23 (by decide) ?_
    refine G.goto C 31 dX3_set_26 (by decide) ?_
    refine G.istn3 C dX3_set_31 (by omega) rfl ?_
    refine G.ildn2 C dX3_set_32 ?_
    refine G.if_lt C 41 dX3_set_33 (by decide) (fun h33 => absurd h33 (hy0)) (fun h33 => ?_)
    refine G.ildn2 C dX3_set_36 ?_
    refine G.ildn3 C dX3_set_37 ?_
    refine G.icmp_le C 51 dX3_set_38 (by decide) (fun h38 => ?_) (fun h38 => absurd ((by first | (rw [if_pos h20] at hy; exact hy) | (rw [if_neg h20] at hy; exact hy))) h38)
    refine G.aldn0 C dX3_set_51 ?_
    refine G.callVV0 C (k_X3_save l hs hle hπ) (cwV 0 C.1.2.2.2.2 gX3_set_X3_save rfl rfl rfl (by decide +kernel) ⟨Nat.le_of_ble_eq_true rfl, Nat.le_of_ble_eq_true rfl⟩) gO_m rfl (Nat.le_of_ble_eq_true rfl) dX3_set_52 ?_
    refine G.aldn0 C dX3_set_55 ?_
    refine G.getMT C hinX3 0 (by decide) rfl (C.1.2.2.2.2 (.fieldLink RX3 10 RX3 "now" "LLateDoves$Cote;") (by decide +kernel)) rfl dX3_set_56 ?_
    refine G.getCT0N C hinX0 2 (by decide) rfl (by simp [gNst, TX0, TX1, TX2]) rfl dX3_set_59 ?_
    refine G.ildn1 C dX3_set_62 ?_
    refine G.ialdT0 C (n := 2) (j := 14) (d0 := _) (gN_c (by omega) rfl) (gV_c (by omega) (by omega)) (vin_of (n := 2) hx0 hx2 (by omega)) rfl dX3_set_63 ?_
    refine G.ist4 C dX3_set_64 (by omega) rfl ?_
    refine G.aldn0 C dX3_set_66 ?_
    refine G.getMT C hinX3 0 (by decide) rfl (C.1.2.2.2.2 (.fieldLink RX3 10 RX3 "now" "LLateDoves$Cote;") (by decide +kernel)) rfl dX3_set_67 ?_
    refine G.getCT0N C hinX0 2 (by decide) rfl (by simp [gNst, TX0, TX1, TX2]) rfl dX3_set_70 ?_
    refine G.ildn1 C dX3_set_73 ?_
    refine G.ildn2 C dX3_set_74 ?_
    refine G.iastT0 C (n := 2) (j := 14) (d0 := _) (gN_c (by omega) rfl) (gV_c (by omega) (by omega)) (vin_of (n := 2) hx0 hx2 (by omega)) rfl dX3_set_75 ?_
    refine G.ild4 C dX3_set_76 ?_
    exact G.iret C hlk hrt dX3_set_78 (by rfl) (by exact fun _ h => h)
set_option maxRecDepth 100000 in
set_option maxHeartbeats 4000000 in
theorem k_X3_home (l : Launch) {E : gEn} {σ : gSt} {π : Nat → Nat} {o : Int64} {c0 c1 c2 c9 : cSt} {x t : Int32} (hx : cEx c0 x = true) (ht0 : ¬ t < 0) (ht1 : t ≤ 1439) (hw : cWhyHome c0 x t = 0) {sv : Nat} (hs : c9 0 5 = nI sv) (hle : sv ≤ 6) (hπ : ∀ k, k < 6 → 3 ≤ π k ∧ π k < 9) : CtI l yX3_home wsX3_home ({ frames := 5, cells := 0, slots := 0, locals := 119 } : Room) E [.ref (E.2.1 9 0), .int x, .int t] (gT σ c0 c1 c2 c9) π o (cComeR c0 x t) (gT (svS σ π sv c0) (cCome c0 x t) c1 c2 (sv9 c9 sv)) (svP π sv) o := by
  refine CtI.of (cc := cX3_home) (own := RX3) (maxL := 3) (ret := (some .int)) [some (.ref (E.2.1 9 0)), some (.int x), some (.int t)] (by decide) rfl rfl (Nat.le_of_ble_eq_true rfl) rfl ?_
  intro p e s m args below meth cd C hrt hlk
  have hinX0 : ∀ w ∈ wsX00, w ∈ wsX3_home := by decide +kernel
  have hinX2 : ∀ w ∈ wsX20, w ∈ wsX3_home := by decide +kernel
  have hinX3 : ∀ w ∈ wsX30, w ∈ wsX3_home := by decide +kernel
  refine G.aldn0 C dX3_home_0 ?_
  refine G.ildn1 C dX3_home_1 ?_
  refine G.callVV1 C (k_X3_needDove l (by assumption)) (cwV 1 C.1.2.2.2.2 gX3_home_X3_needDove rfl rfl rfl (by decide +kernel) ⟨Nat.le_of_ble_eq_true rfl, Nat.le_of_ble_eq_true rfl⟩) gO_m rfl (Nat.le_of_ble_eq_true rfl) dX3_home_2 ?_
  refine G.ildn2 C dX3_home_5 ?_
  refine G.callSV1 C (k_X3_needTime l ht0 ht1) (va_cwS 1 C.1.2.2.2.2 gX3_home_X3_needTime rfl rfl rfl (by decide +kernel) ⟨Nat.le_of_ble_eq_true rfl, Nat.le_of_ble_eq_true rfl⟩) (Nat.le_of_ble_eq_true rfl) dX3_home_6 ?_
  refine G.aldn0 C dX3_home_9 ?_
  refine G.getMT C hinX3 0 (by decide) rfl (C.1.2.2.2.2 (.fieldLink RX3 10 RX3 "now" "LLateDoves$Cote;") (by decide +kernel)) rfl dX3_home_10 ?_
  refine G.ildn1 C dX3_home_13 ?_
  refine G.ildn2 C dX3_home_14 ?_
  refine G.callVI2 C (T0I (k_X0_reasonNotHome l (by omega) (cEx_in hx))) (cwV 2 C.1.2.2.2.2 gX3_home_X0_reasonNotHome rfl rfl rfl (by decide +kernel) ⟨Nat.le_of_ble_eq_true rfl, Nat.le_of_ble_eq_true rfl⟩) (gO_c (by omega)) rfl (Nat.le_of_ble_eq_true rfl) dX3_home_15 ?_
  refine G.if_eq C 31 dX3_home_18 (by decide) (fun h18 => ?_) (fun h18 => absurd (hw) h18)
  refine G.aldn0 C dX3_home_31 ?_
  refine G.callVV0 C (k_X3_save l hs hle hπ) (cwV 0 C.1.2.2.2.2 gX3_home_X3_save rfl rfl rfl (by decide +kernel) ⟨Nat.le_of_ble_eq_true rfl, Nat.le_of_ble_eq_true rfl⟩) gO_m rfl (Nat.le_of_ble_eq_true rfl) dX3_home_32 ?_
  refine G.aldn0 C dX3_home_35 ?_
  refine G.getMT C hinX3 0 (by decide) rfl (C.1.2.2.2.2 (.fieldLink RX3 10 RX3 "now" "LLateDoves$Cote;") (by decide +kernel)) rfl dX3_home_36 ?_
  refine G.ildn1 C dX3_home_39 ?_
  refine G.ildn2 C dX3_home_40 ?_
  refine G.callVI2 C (T0I (k_X0_comeHome l (by omega) (cEx_in hx))) (cwV 2 C.1.2.2.2.2 gX3_home_X0_comeHome rfl rfl rfl (by decide +kernel) ⟨Nat.le_of_ble_eq_true rfl, Nat.le_of_ble_eq_true rfl⟩) (gO_c (by omega)) rfl (Nat.le_of_ble_eq_true rfl) dX3_home_41 ?_
  exact G.iret C hlk hrt dX3_home_44 (by rfl) (by exact fun _ h => h)
set_option maxRecDepth 100000 in
set_option maxHeartbeats 4000000 in
theorem k_X3_dawn (l : Launch) {E : gEn} {σ : gSt} {π : Nat → Nat} {o : Int64} {c0 c1 c2 c9 : cSt} {sv : Nat} (hs : c9 0 5 = nI sv) (hle : sv ≤ 6) (hπ : ∀ k, k < 6 → 3 ≤ π k ∧ π k < 9) : CtI l yX3_dawn wsX3_dawn ({ frames := 4, cells := 0, slots := 0, locals := 83 } : Room) E [.ref (E.2.1 9 0)] (gT σ c0 c1 c2 c9) π o (cNightR c0) (gT (svS σ π sv c0) (cNight c0) c1 c2 (sv9 c9 sv)) (svP π sv) o := by
  refine CtI.of (cc := cX3_dawn) (own := RX3) (maxL := 1) (ret := (some .int)) [some (.ref (E.2.1 9 0))] (by decide) rfl rfl (Nat.le_of_ble_eq_true rfl) rfl ?_
  intro p e s m args below meth cd C hrt hlk
  have hinX0 : ∀ w ∈ wsX00, w ∈ wsX3_dawn := by decide +kernel
  have hinX2 : ∀ w ∈ wsX20, w ∈ wsX3_dawn := by decide +kernel
  have hinX3 : ∀ w ∈ wsX30, w ∈ wsX3_dawn := by decide +kernel
  refine G.aldn0 C dX3_dawn_0 ?_
  refine G.callVV0 C (k_X3_save l hs hle hπ) (cwV 0 C.1.2.2.2.2 gX3_dawn_X3_save rfl rfl rfl (by decide +kernel) ⟨Nat.le_of_ble_eq_true rfl, Nat.le_of_ble_eq_true rfl⟩) gO_m rfl (Nat.le_of_ble_eq_true rfl) dX3_dawn_1 ?_
  refine G.aldn0 C dX3_dawn_4 ?_
  refine G.getMT C hinX3 0 (by decide) rfl (C.1.2.2.2.2 (.fieldLink RX3 10 RX3 "now" "LLateDoves$Cote;") (by decide +kernel)) rfl dX3_dawn_5 ?_
  refine G.callVI0 C (T0I (k_X0_endNight l (by omega))) (cwV 0 C.1.2.2.2.2 gX3_dawn_X0_endNight rfl rfl rfl (by decide +kernel) ⟨Nat.le_of_ble_eq_true rfl, Nat.le_of_ble_eq_true rfl⟩) (gO_c (by omega)) rfl (Nat.le_of_ble_eq_true rfl) dX3_dawn_8 ?_
  exact G.iret C hlk hrt dX3_dawn_11 (by rfl) (by exact fun _ h => h)
set_option maxRecDepth 100000 in
set_option maxHeartbeats 4000000 in
theorem k_X3_undo (l : Launch) {E : gEn} {σ : gSt} {π : Nat → Nat} {o : Int64} {c0 c1 c2 c9 : cSt} {sv : Nat} (hs : c9 0 5 = nI (sv + 1)) (hle : sv < 6) (hπ : ∀ k, k < 6 → 3 ≤ π k ∧ π k < 9) : CtI l yX3_undo wsX3_undo ({ frames := 3, cells := 0, slots := 0, locals := 61 } : Room) E [.ref (E.2.1 9 0)] (gT σ c0 c1 c2 c9) π o (nI sv) (gT σ (σ (π sv)) c1 c2 (cW c9 0 5 (nI sv))) π o := by
  refine CtI.of (cc := cX3_undo) (own := RX3) (maxL := 1) (ret := (some .int)) [some (.ref (E.2.1 9 0))] (by decide) rfl rfl (Nat.le_of_ble_eq_true rfl) rfl ?_
  intro p e s m args below meth cd C hrt hlk
  have hinX0 : ∀ w ∈ wsX00, w ∈ wsX3_undo := by decide +kernel
  have hinX2 : ∀ w ∈ wsX20, w ∈ wsX3_undo := by decide +kernel
  have hinX3 : ∀ w ∈ wsX30, w ∈ wsX3_undo := by decide +kernel
  refine G.aldn0 C dX3_undo_0 ?_
  refine G.getMT C hinX3 5 (by decide) rfl (C.1.2.2.2.2 (.fieldLink RX3 30 RX3 "savedCount" "I") (by decide +kernel)) rfl dX3_undo_1 ?_
  refine G.topI (nI (sv + 1)) hs ?_
  refine G.if_gt C 17 dX3_undo_4 (by decide) (fun h4 => ?_) (fun h4 => absurd ((nI_lt (a := 0) (b := sv + 1) (by omega) (by omega))) h4)
  refine G.aldn0 C dX3_undo_17 ?_
  refine G.dup C dX3_undo_18 rfl ?_
  refine G.getMT C hinX3 5 (by decide) rfl (C.1.2.2.2.2 (.fieldLink RX3 30 RX3 "savedCount" "I") (by decide +kernel)) rfl dX3_undo_19 ?_
  refine G.topI (nI (sv + 1)) hs ?_
  refine G.iconst C 1 dX3_undo_22 (by decide) ?_
  refine G.isub C dX3_undo_23 ?_
  refine G.topI (nI sv) (nI_pred sv) ?_
  refine G.putMT (ty := .int) C hinX3 5 (by decide) rfl (C.1.2.2.2.2 (.fieldLink RX3 30 RX3 "savedCount" "I") (by decide +kernel)) rfl rfl rfl rfl pfX3_5 dX3_undo_24 ?_
  refine G.aldn0 C dX3_undo_27 ?_
  refine G.getMT C hinX3 0 (by decide) rfl (C.1.2.2.2.2 (.fieldLink RX3 10 RX3 "now" "LLateDoves$Cote;") (by decide +kernel)) rfl dX3_undo_28 ?_
  refine G.aldn0 C dX3_undo_31 ?_
  refine G.getMT C hinX3 4 (by decide) rfl (C.1.2.2.2.2 (.fieldLink RX3 26 RX3 "saved" "[LLateDoves$Cote;") (by decide +kernel)) rfl dX3_undo_32 ?_
  refine G.aldn0 C dX3_undo_35 ?_
  refine G.getMT C hinX3 5 (by decide) rfl (C.1.2.2.2.2 (.fieldLink RX3 30 RX3 "savedCount" "I") (by decide +kernel)) rfl dX3_undo_36 ?_
  refine G.aaldS C (sv) (vp_in_nI (by omega) (by omega)) (ix_nI (by omega)) dX3_undo_39 ?_
  refine G.callVV1 C (k_cpU l (hπ sv (by omega)).1 (hπ sv (by omega)).2) (cwV 1 C.1.2.2.2.2 gX3_undo_X0_copyFrom rfl rfl rfl (by decide +kernel) ⟨Nat.le_of_ble_eq_true rfl, Nat.le_of_ble_eq_true rfl⟩) (gO_c (by omega)) rfl (Nat.le_of_ble_eq_true rfl) dX3_undo_40 ?_
  refine G.aldn0 C dX3_undo_43 ?_
  refine G.getMT C hinX3 5 (by decide) rfl (C.1.2.2.2.2 (.fieldLink RX3 30 RX3 "savedCount" "I") (by decide +kernel)) rfl dX3_undo_44 ?_
  exact G.iret C hlk hrt dX3_undo_47 (by rfl) (by exact fun _ h => h)
set_option maxRecDepth 100000 in
set_option maxHeartbeats 4000000 in
theorem k_X3_restore (l : Launch) {E : gEn} {σ : gSt} {π : Nat → Nat} {o : Int64} {c0 c1 c2 c9 : cSt} (hk : ¬ c9 0 3 = 0) {sv : Nat} (hs : c9 0 5 = nI sv) (hle : sv ≤ 6) (hπ : ∀ k, k < 6 → 3 ≤ π k ∧ π k < 9) : CtI l yX3_restore wsX3_restore ({ frames := 4, cells := 0, slots := 0, locals := 83 } : Room) E [.ref (E.2.1 9 0)] (gT σ c0 c1 c2 c9) π o (c2 0 6) (gT (svS σ π sv c0) c2 c1 c2 (sv9 c9 sv)) (svP π sv) o := by
  refine CtI.of (cc := cX3_restore) (own := RX3) (maxL := 1) (ret := (some .int)) [some (.ref (E.2.1 9 0))] (by decide) rfl rfl (Nat.le_of_ble_eq_true rfl) rfl ?_
  intro p e s m args below meth cd C hrt hlk
  have hinX0 : ∀ w ∈ wsX00, w ∈ wsX3_restore := by decide +kernel
  have hinX2 : ∀ w ∈ wsX20, w ∈ wsX3_restore := by decide +kernel
  have hinX3 : ∀ w ∈ wsX30, w ∈ wsX3_restore := by decide +kernel
  refine G.aldn0 C dX3_restore_0 ?_
  refine G.getMT C hinX3 3 (by decide) rfl (C.1.2.2.2.2 (.fieldLink RX3 22 RX3 "hasSnapshot" "Z") (by decide +kernel)) rfl dX3_restore_1 ?_
  refine G.if_ne C 17 dX3_restore_4 (by decide) (fun h4 => ?_) (fun h4 => absurd h4 (hk))
  refine G.aldn0 C dX3_restore_17 ?_
  refine G.callVV0 C (k_X3_save l hs hle hπ) (cwV 0 C.1.2.2.2.2 gX3_restore_X3_save rfl rfl rfl (by decide +kernel) ⟨Nat.le_of_ble_eq_true rfl, Nat.le_of_ble_eq_true rfl⟩) gO_m rfl (Nat.le_of_ble_eq_true rfl) dX3_restore_18 ?_
  refine G.aldn0 C dX3_restore_21 ?_
  refine G.getMT C hinX3 0 (by decide) rfl (C.1.2.2.2.2 (.fieldLink RX3 10 RX3 "now" "LLateDoves$Cote;") (by decide +kernel)) rfl dX3_restore_22 ?_
  refine G.aldn0 C dX3_restore_25 ?_
  refine G.getMT C hinX3 2 (by decide) rfl (C.1.2.2.2.2 (.fieldLink RX3 19 RX3 "snapshot" "LLateDoves$Cote;") (by decide +kernel)) rfl dX3_restore_26 ?_
  refine G.callVV1 C (T0V (d := c2) (k_X0_copyFrom l (by omega) (by omega) (by decide))) (cwV 1 C.1.2.2.2.2 gX3_restore_X0_copyFrom rfl rfl rfl (by decide +kernel) ⟨Nat.le_of_ble_eq_true rfl, Nat.le_of_ble_eq_true rfl⟩) (gO_c (by omega)) rfl (Nat.le_of_ble_eq_true rfl) dX3_restore_29 ?_
  refine G.aldn0 C dX3_restore_32 ?_
  refine G.getMT C hinX3 0 (by decide) rfl (C.1.2.2.2.2 (.fieldLink RX3 10 RX3 "now" "LLateDoves$Cote;") (by decide +kernel)) rfl dX3_restore_33 ?_
  refine G.getCT0N C hinX0 6 (by decide) rfl (by simp [gNst, TX0, TX1, TX2]) rfl dX3_restore_36 ?_
  exact G.iret C hlk hrt dX3_restore_39 (by rfl) (by exact fun _ h => h)
theorem gN_8 {y : Int32} (h : vp_in y 8) : gN 0 (2 + ix y) = some 16 := by
  obtain ⟨j, hj, rfl⟩ := vp_in_of h (by omega)
  rw [ix_nI (by omega)]
  exact gN_row (by omega) hj
theorem gN_3 {y : Int32} (h : vp_in y 3) : gN 0 (11 + ix y) = some 24 := by
  obtain ⟨j, hj, rfl⟩ := vp_in_of h (by omega)
  rw [ix_nI (by omega)]
  have : j = 0 ∨ j = 1 ∨ j = 2 := by omega
  rcases this with rfl | rfl | rfl <;> rfl
theorem ix_lt {y : Int32} {n : Nat} (h : vp_in y n) (hn : n < 2 ^ 31) : ix y < n := by
  obtain ⟨j, hj, rfl⟩ := vp_in_of h hn
  rw [ix_nI (by omega)]
  exact hj
set_option maxRecDepth 100000 in
set_option maxHeartbeats 4000000 in
theorem k_X3_dove (l : Launch) {E : gEn} {σ : gSt} {π : Nat → Nat} {o : Int64} {c0 c1 c2 c9 : cSt} {x y : Int32} (hx : cEx c0 x = true) (hy0 : ¬ y < 0) (hy8 : y < 8) : CtI l yX3_dove wsX3_dove ({ frames := 2, cells := 0, slots := 0, locals := 42 } : Room) E [.ref (E.2.1 9 0), .int x, .int y] (gT σ c0 c1 c2 c9) π o (c0 (2 + ix y) (ix x)) (gT σ c0 c1 c2 c9) π o := by
  refine CtI.of (cc := cX3_dove) (own := RX3) (maxL := 3) (ret := (some .int)) [some (.ref (E.2.1 9 0)), some (.int x), some (.int y)] (by decide) rfl rfl (Nat.le_of_ble_eq_true rfl) rfl ?_
  intro p e s m args below meth cd C hrt hlk
  have hinX0 : ∀ w ∈ wsX00, w ∈ wsX3_dove := by decide +kernel
  have hinX3 : ∀ w ∈ wsX30, w ∈ wsX3_dove := by decide +kernel
  refine G.aldn0 C dX3_dove_0 ?_
  refine G.ildn1 C dX3_dove_1 ?_
  refine G.callVV1 C (k_X3_needDove l (by assumption)) (cwV 1 C.1.2.2.2.2 gX3_dove_X3_needDove rfl rfl rfl (by decide +kernel) ⟨Nat.le_of_ble_eq_true rfl, Nat.le_of_ble_eq_true rfl⟩) gO_m rfl (Nat.le_of_ble_eq_true rfl) dX3_dove_2 ?_
  refine G.ildn2 C dX3_dove_5 ?_
  refine G.if_lt C 15 dX3_dove_6 (by decide) (fun h6 => absurd h6 (hy0)) (fun h6 => ?_)
  refine G.ildn2 C dX3_dove_9 ?_
  refine G.bipush C 8 dX3_dove_10 (by decide) ?_
  refine G.icmp_lt C 25 dX3_dove_12 (by decide) (fun h12 => ?_) (fun h12 => absurd (hy8) h12)
  refine G.aldn0 C dX3_dove_25 ?_
  refine G.getMT C hinX3 0 (by decide) rfl (C.1.2.2.2.2 (.fieldLink RX3 10 RX3 "now" "LLateDoves$Cote;") (by decide +kernel)) rfl dX3_dove_26 ?_
  refine G.getCT0N C hinX0 0 (by decide) rfl (by simp [gNst, TX0, TX1, TX2]) rfl dX3_dove_29 ?_
  refine G.ildn2 C dX3_dove_32 ?_
  refine G.aaldD C (by omega) (2 + ix y) (vin_of (n := 8) hy0 hy8 (by omega)) rfl dX3_dove_33 ?_
  refine G.ildn1 C dX3_dove_34 ?_
  refine G.ialdT0 C (n := 16) (j := 2 + ix y) (d0 := _) (gN_8 (vin_of (n := 8) hy0 hy8 (by omega))) (gV_c (by omega) (by have := ix_lt (vin_of (n := 8) hy0 hy8 (by omega)) (by omega); omega)) (cEx_in hx) rfl dX3_dove_35 ?_
  exact G.iret C hlk hrt dX3_dove_36 (by rfl) (by exact fun _ h => h)
set_option maxRecDepth 100000 in
set_option maxHeartbeats 4000000 in
theorem k_X3_hole (l : Launch) {E : gEn} {σ : gSt} {π : Nat → Nat} {o : Int64} {c0 c1 c2 c9 : cSt} {x y : Int32} (hx : hHole x = true) (hy0 : ¬ y < 0) (hy3 : y < 3) : CtI l yX3_hole wsX3_hole ({ frames := 2, cells := 0, slots := 0, locals := 40 } : Room) E [.ref (E.2.1 9 0), .int x, .int y] (gT σ c0 c1 c2 c9) π o (c0 (11 + ix y) (ix x)) (gT σ c0 c1 c2 c9) π o := by
  refine CtI.of (cc := cX3_hole) (own := RX3) (maxL := 3) (ret := (some .int)) [some (.ref (E.2.1 9 0)), some (.int x), some (.int y)] (by decide) rfl rfl (Nat.le_of_ble_eq_true rfl) rfl ?_
  intro p e s m args below meth cd C hrt hlk
  have hinX0 : ∀ w ∈ wsX00, w ∈ wsX3_hole := by decide +kernel
  have hinX3 : ∀ w ∈ wsX30, w ∈ wsX3_hole := by decide +kernel
  refine G.ildn1 C dX3_hole_0 ?_
  refine G.callSV1 C (k_X3_needHole l (by assumption)) (va_cwS 1 C.1.2.2.2.2 gX3_hole_X3_needHole rfl rfl rfl (by decide +kernel) ⟨Nat.le_of_ble_eq_true rfl, Nat.le_of_ble_eq_true rfl⟩) (Nat.le_of_ble_eq_true rfl) dX3_hole_1 ?_
  refine G.ildn2 C dX3_hole_4 ?_
  refine G.if_lt C 13 dX3_hole_5 (by decide) (fun h5 => absurd h5 (hy0)) (fun h5 => ?_)
  refine G.ildn2 C dX3_hole_8 ?_
  refine G.iconst C 3 dX3_hole_9 (by decide) ?_
  refine G.icmp_lt C 23 dX3_hole_10 (by decide) (fun h10 => ?_) (fun h10 => absurd (hy3) h10)
  refine G.aldn0 C dX3_hole_23 ?_
  refine G.getMT C hinX3 0 (by decide) rfl (C.1.2.2.2.2 (.fieldLink RX3 10 RX3 "now" "LLateDoves$Cote;") (by decide +kernel)) rfl dX3_hole_24 ?_
  refine G.getCT0N C hinX0 1 (by decide) rfl (by simp [gNst, TX0, TX1, TX2]) rfl dX3_hole_27 ?_
  refine G.ildn2 C dX3_hole_30 ?_
  refine G.aaldH C (by omega) (11 + ix y) (vin_of (n := 3) hy0 hy3 (by omega)) rfl dX3_hole_31 ?_
  refine G.ildn1 C dX3_hole_32 ?_
  refine G.ialdT0 C (n := 24) (j := 11 + ix y) (d0 := _) (gN_3 (vin_of (n := 3) hy0 hy3 (by omega))) (gV_c (by omega) (by have := ix_lt (vin_of (n := 3) hy0 hy3 (by omega)) (by omega); omega)) (hHole_in hx) rfl dX3_hole_33 ?_
  exact G.iret C hlk hrt dX3_hole_34 (by rfl) (by exact fun _ h => h)
set_option maxRecDepth 100000 in
set_option maxHeartbeats 4000000 in
theorem k_X3_count (l : Launch) {E : gEn} {σ : gSt} {π : Nat → Nat} {o : Int64} {c0 c1 c2 c9 : cSt} {x : Int32} (hx0 : ¬ x < 0) (hx : x < 18) : CtI l yX3_count wsX3_count ({ frames := 4, cells := 0, slots := 0, locals := 85 } : Room) E [.ref (E.2.1 9 0), .int x] (gT σ c0 c1 c2 c9) π o (if x = 17 then c9 0 5 else cNum c0 x) (gT σ c0 c1 c2 c9) π o := by
  refine CtI.of (cc := cX3_count) (own := RX3) (maxL := 2) (ret := (some .int)) [some (.ref (E.2.1 9 0)), some (.int x)] (by decide) rfl rfl (Nat.le_of_ble_eq_true rfl) rfl ?_
  intro p e s m args below meth cd C hrt hlk
  have hinX0 : ∀ w ∈ wsX00, w ∈ wsX3_count := by decide +kernel
  have hinX3 : ∀ w ∈ wsX30, w ∈ wsX3_count := by decide +kernel
  refine G.ildn1 C dX3_count_0 ?_
  refine G.if_lt C 10 dX3_count_1 (by decide) (fun h1 => absurd h1 (hx0)) (fun h1 => ?_)
  refine G.ildn1 C dX3_count_4 ?_
  refine G.bipush C 18 dX3_count_5 (by decide) ?_
  refine G.icmp_lt C 20 dX3_count_7 (by decide) (fun h7 => ?_) (fun h7 => absurd (hx) h7)
  refine G.ildn1 C dX3_count_20 ?_
  refine G.bipush C 17 dX3_count_21 (by decide) ?_
  refine G.icmp_ne C 33 dX3_count_23 (by decide) (fun h23 => ?_) (fun h23 => ?_)
  · refine G.aldn0 C dX3_count_33 ?_
    refine G.getMT C hinX3 0 (by decide) rfl (C.1.2.2.2.2 (.fieldLink RX3 10 RX3 "now" "LLateDoves$Cote;") (by decide +kernel)) rfl dX3_count_34 ?_
    refine G.ildn1 C dX3_count_37 ?_
    refine G.callVI1 C (T0I (k_X0_numberOf l (by omega))) (cwV 1 C.1.2.2.2.2 gX3_count_X0_numberOf rfl rfl rfl (by decide +kernel) ⟨Nat.le_of_ble_eq_true rfl, Nat.le_of_ble_eq_true rfl⟩) (gO_c (by omega)) rfl (Nat.le_of_ble_eq_true rfl) dX3_count_38 ?_
    exact G.iret C hlk hrt dX3_count_41 (by rw [if_neg h23]) (by exact fun _ h => h)
  · refine G.aldn0 C dX3_count_26 ?_
    refine G.getMT C hinX3 5 (by decide) rfl (C.1.2.2.2.2 (.fieldLink RX3 30 RX3 "savedCount" "I") (by decide +kernel)) rfl dX3_count_27 ?_
    refine G.goto C 41 dX3_count_30 (by decide) ?_
    exact G.iret C hlk hrt dX3_count_41 (by rw [if_pos h23]) (by exact fun _ h => h)
theorem stx_in {x a : Int32} {n0 : Nat} (hx0 : ¬ x < 0) (hn0 : a = nI n0) (h25 : n0 ≤ 25) (h : x < a) : vp_in x 25 := by
  obtain ⟨j, hj, rfl⟩ := nI_of hx0
  rw [hn0, nI_ltI hj (by omega)] at h
  exact vp_in_nI (by omega) (by omega)
set_option maxRecDepth 100000 in
set_option maxHeartbeats 4000000 in
theorem k_X3_step (l : Launch) {E : gEn} {σ : gSt} {π : Nat → Nat} {o : Int64} {c0 c1 c2 c9 : cSt} {x y : Int32} (hx0 : ¬ x < 0) (hy0 : ¬ y < 0) (hy1 : y ≤ 1) {n0 : Nat} (hn0 : c0 17 2 = nI n0) (h25 : n0 ≤ 25) : CtI l yX3_step wsX3_step ({ frames := 0, cells := 0, slots := 0, locals := 0 } : Room) E [.ref (E.2.1 9 0), .int x, .int y] (gT σ c0 c1 c2 c9) π o (if c0 17 2 ≤ x then -1 else if y = 0 then c0 18 (ix x) else c0 19 (ix x)) (gT σ c0 c1 c2 c9) π o := by
  refine CtI.of (cc := cX3_step) (own := RX3) (maxL := 3) (ret := (some .int)) [some (.ref (E.2.1 9 0)), some (.int x), some (.int y)] (by decide) rfl rfl (Nat.le_of_ble_eq_true rfl) rfl ?_
  intro p e s m args below meth cd C hrt hlk
  have hinX0 : ∀ w ∈ wsX00, w ∈ wsX3_step := by decide +kernel
  have hinX2 : ∀ w ∈ wsX20, w ∈ wsX3_step := by decide +kernel
  have hinX3 : ∀ w ∈ wsX30, w ∈ wsX3_step := by decide +kernel
  refine G.ildn1 C dX3_step_0 ?_
  refine G.if_lt C 13 dX3_step_1 (by decide) (fun h1 => absurd h1 (hx0)) (fun h1 => ?_)
  refine G.ildn2 C dX3_step_4 ?_
  refine G.if_lt C 13 dX3_step_5 (by decide) (fun h5 => absurd h5 (hy0)) (fun h5 => ?_)
  refine G.ildn2 C dX3_step_8 ?_
  refine G.iconst C 1 dX3_step_9 (by decide) ?_
  refine G.icmp_le C 23 dX3_step_10 (by decide) (fun h10 => ?_) (fun h10 => absurd (hy1) h10)
  refine G.ildn1 C dX3_step_23 ?_
  refine G.aldn0 C dX3_step_24 ?_
  refine G.getMT C hinX3 0 (by decide) rfl (C.1.2.2.2.2 (.fieldLink RX3 10 RX3 "now" "LLateDoves$Cote;") (by decide +kernel)) rfl dX3_step_25 ?_
  refine G.getCT0N C hinX0 5 (by decide) rfl (by simp [gNst, TX0, TX1, TX2]) rfl dX3_step_28 ?_
  refine G.getWT0N C hinX2 2 (by decide) rfl (by simp [gNst, TX0, TX1, TX2]) rfl dX3_step_31 ?_
  refine G.icmp_lt C 39 dX3_step_34 (by decide) (fun h34 => ?_) (fun h34 => ?_)
  · refine G.ildn2 C dX3_step_39 ?_
    refine G.if_ne C 58 dX3_step_40 (by decide) (fun h40 => ?_) (fun h40 => ?_)
    · refine G.aldn0 C dX3_step_58 ?_
      refine G.getMT C hinX3 0 (by decide) rfl (C.1.2.2.2.2 (.fieldLink RX3 10 RX3 "now" "LLateDoves$Cote;") (by decide +kernel)) rfl dX3_step_59 ?_
      refine G.getCT0N C hinX0 5 (by decide) rfl (by simp [gNst, TX0, TX1, TX2]) rfl dX3_step_62 ?_
      refine G.getWT0N C hinX2 1 (by decide) rfl (by simp [gNst, TX0, TX1, TX2]) rfl dX3_step_65 ?_
      refine G.ildn1 C dX3_step_68 ?_
      refine G.ialdT0 C (n := 25) (j := 19) (d0 := _) (gN_c (by omega) rfl) (gV_c (by omega) (by omega)) (stx_in hx0 hn0 h25 h34) rfl dX3_step_69 ?_
      exact G.iret C hlk hrt dX3_step_70 (by rw [if_neg (by rw [Int32.not_le]; exact h34)]; first | (rw [if_pos h40]) | (rw [if_neg h40])) (by exact fun _ h => h)
    · refine G.aldn0 C dX3_step_43 ?_
      refine G.getMT C hinX3 0 (by decide) rfl (C.1.2.2.2.2 (.fieldLink RX3 10 RX3 "now" "LLateDoves$Cote;") (by decide +kernel)) rfl dX3_step_44 ?_
      refine G.getCT0N C hinX0 5 (by decide) rfl (by simp [gNst, TX0, TX1, TX2]) rfl dX3_step_47 ?_
      refine G.getWT0N C hinX2 0 (by decide) rfl (by simp [gNst, TX0, TX1, TX2]) rfl dX3_step_50 ?_
      refine G.ildn1 C dX3_step_53 ?_
      refine G.ialdT0 C (n := 25) (j := 18) (d0 := _) (gN_c (by omega) rfl) (gV_c (by omega) (by omega)) (stx_in hx0 hn0 h25 h34) rfl dX3_step_54 ?_
      refine G.goto C 70 dX3_step_55 (by decide) ?_
      exact G.iret C hlk hrt dX3_step_70 (by rw [if_neg (by rw [Int32.not_le]; exact h34)]; first | (rw [if_pos h40]) | (rw [if_neg h40])) (by exact fun _ h => h)
  · refine G.iconst C (-1) dX3_step_37 (by decide) ?_
    exact G.iret C hlk hrt dX3_step_38 (by rw [if_pos (by rw [Int32.not_lt] at h34; exact h34)]) (by exact fun _ h => h)
set_option maxRecDepth 100000 in
set_option maxHeartbeats 4000000 in
theorem k_X3_whyNot (l : Launch) {E : gEn} {σ : gSt} {π : Nat → Nat} {o : Int64} {c0 c1 c2 c9 : cSt} {x t : Int32} (hx : cEx c0 x = true) (ht0 : ¬ t < 0) (ht1 : t ≤ 1439) : CtI l yX3_whyNot wsX3_whyNot ({ frames := 2, cells := 0, slots := 0, locals := 42 } : Room) E [.ref (E.2.1 9 0), .int x, .int t] (gT σ c0 c1 c2 c9) π o (cWhyHome c0 x t) (gT σ c0 c1 c2 c9) π o := by
  refine CtI.of (cc := cX3_whyNot) (own := RX3) (maxL := 3) (ret := (some .int)) [some (.ref (E.2.1 9 0)), some (.int x), some (.int t)] (by decide) rfl rfl (Nat.le_of_ble_eq_true rfl) rfl ?_
  intro p e s m args below meth cd C hrt hlk
  have hinX0 : ∀ w ∈ wsX00, w ∈ wsX3_whyNot := by decide +kernel
  have hinX3 : ∀ w ∈ wsX30, w ∈ wsX3_whyNot := by decide +kernel
  refine G.aldn0 C dX3_whyNot_0 ?_
  refine G.ildn1 C dX3_whyNot_1 ?_
  refine G.callVV1 C (k_X3_needDove l (by assumption)) (cwV 1 C.1.2.2.2.2 gX3_whyNot_X3_needDove rfl rfl rfl (by decide +kernel) ⟨Nat.le_of_ble_eq_true rfl, Nat.le_of_ble_eq_true rfl⟩) gO_m rfl (Nat.le_of_ble_eq_true rfl) dX3_whyNot_2 ?_
  refine G.ildn2 C dX3_whyNot_5 ?_
  refine G.callSV1 C (k_X3_needTime l ht0 ht1) (va_cwS 1 C.1.2.2.2.2 gX3_whyNot_X3_needTime rfl rfl rfl (by decide +kernel) ⟨Nat.le_of_ble_eq_true rfl, Nat.le_of_ble_eq_true rfl⟩) (Nat.le_of_ble_eq_true rfl) dX3_whyNot_6 ?_
  refine G.aldn0 C dX3_whyNot_9 ?_
  refine G.getMT C hinX3 0 (by decide) rfl (C.1.2.2.2.2 (.fieldLink RX3 10 RX3 "now" "LLateDoves$Cote;") (by decide +kernel)) rfl dX3_whyNot_10 ?_
  refine G.ildn1 C dX3_whyNot_13 ?_
  refine G.ildn2 C dX3_whyNot_14 ?_
  refine G.callVI2 C (T0I (k_X0_reasonNotHome l (by omega) (cEx_in hx))) (cwV 2 C.1.2.2.2.2 gX3_whyNot_X0_reasonNotHome rfl rfl rfl (by decide +kernel) ⟨Nat.le_of_ble_eq_true rfl, Nat.le_of_ble_eq_true rfl⟩) (gO_c (by omega)) rfl (Nat.le_of_ble_eq_true rfl) dX3_whyNot_15 ?_
  exact G.iret C hlk hrt dX3_whyNot_18 (by rfl) (by exact fun _ h => h)
set_option maxRecDepth 100000 in
set_option maxHeartbeats 4000000 in
theorem k_X3_ifHome (l : Launch) {E : gEn} {σ : gSt} {π : Nat → Nat} {o : Int64} {c0 c1 c2 c9 : cSt} {x t w : Int32} (hx : cEx c0 x = true) (ht0 : ¬ t < 0) (ht1 : t ≤ 1439) (hw0 : ¬ w < 0) (hw2 : w ≤ 2) : CtI l yX3_ifHome wsX3_ifHome ({ frames := 6, cells := 0, slots := 0, locals := 141 } : Room) E [.ref (E.2.1 9 0), .int x, .int t, .int w] (gT σ c0 c1 c2 c9) π o (if (tTry c0 c1 x t).1 = true then tTN c0 (tTry c0 c1 x t).2 x w else -1) (gT σ c0 (tTry c0 c1 x t).2 c2 c9) π o := by
  refine CtI.of (cc := cX3_ifHome) (own := RX3) (maxL := 4) (ret := (some .int)) [some (.ref (E.2.1 9 0)), some (.int x), some (.int t), some (.int w)] (by decide) rfl rfl (Nat.le_of_ble_eq_true rfl) rfl ?_
  intro p e s m args below meth cd C hrt hlk
  have hinX0 : ∀ w ∈ wsX00, w ∈ wsX3_ifHome := by decide +kernel
  have hinX2 : ∀ w ∈ wsX20, w ∈ wsX3_ifHome := by decide +kernel
  have hinX3 : ∀ w ∈ wsX30, w ∈ wsX3_ifHome := by decide +kernel
  refine G.aldn0 C dX3_ifHome_0 ?_
  refine G.ildn1 C dX3_ifHome_1 ?_
  refine G.callVV1 C (k_X3_needDove l (by assumption)) (cwV 1 C.1.2.2.2.2 gX3_ifHome_X3_needDove rfl rfl rfl (by decide +kernel) ⟨Nat.le_of_ble_eq_true rfl, Nat.le_of_ble_eq_true rfl⟩) gO_m rfl (Nat.le_of_ble_eq_true rfl) dX3_ifHome_2 ?_
  refine G.ildn2 C dX3_ifHome_5 ?_
  refine G.callSV1 C (k_X3_needTime l ht0 ht1) (va_cwS 1 C.1.2.2.2.2 gX3_ifHome_X3_needTime rfl rfl rfl (by decide +kernel) ⟨Nat.le_of_ble_eq_true rfl, Nat.le_of_ble_eq_true rfl⟩) (Nat.le_of_ble_eq_true rfl) dX3_ifHome_6 ?_
  refine G.ildn3 C dX3_ifHome_9 ?_
  refine G.if_lt C 18 dX3_ifHome_10 (by decide) (fun h10 => absurd h10 (hw0)) (fun h10 => ?_)
  refine G.ildn3 C dX3_ifHome_13 ?_
  refine G.iconst C 2 dX3_ifHome_14 (by decide) ?_
  refine G.icmp_le C 28 dX3_ifHome_15 (by decide) (fun h15 => ?_) (fun h15 => absurd (hw2) h15)
  refine G.aldn0 C dX3_ifHome_28 ?_
  refine G.ildn1 C dX3_ifHome_29 ?_
  refine G.ildn2 C dX3_ifHome_30 ?_
  refine G.callVI2 C (k_X3_tryHome l (cEx_in hx)) (cwV 2 C.1.2.2.2.2 gX3_ifHome_X3_tryHome rfl rfl rfl (by decide +kernel) ⟨Nat.le_of_ble_eq_true rfl, Nat.le_of_ble_eq_true rfl⟩) gO_m rfl (Nat.le_of_ble_eq_true rfl) dX3_ifHome_31 ?_
  refine G.if_eqB C 46 dX3_ifHome_34 (by decide) (fun h34 => ?_) (fun h34 => ?_)
  · refine G.iconst C (-1) dX3_ifHome_46 (by decide) ?_
    exact G.iret C hlk hrt dX3_ifHome_47 (by rw [if_neg (by rw [h34]; decide)]) (by exact fun _ h => h)
  · refine G.aldn0 C dX3_ifHome_37 ?_
    refine G.ildn1 C dX3_ifHome_38 ?_
    refine G.ildn3 C dX3_ifHome_39 ?_
    refine G.callVI2 C (k_X3_trialNumber l (cEx_in hx)) (cwV 2 C.1.2.2.2.2 gX3_ifHome_X3_trialNumber rfl rfl rfl (by decide +kernel) ⟨Nat.le_of_ble_eq_true rfl, Nat.le_of_ble_eq_true rfl⟩) gO_m rfl (Nat.le_of_ble_eq_true rfl) dX3_ifHome_40 ?_
    refine G.goto C 47 dX3_ifHome_43 (by decide) ?_
    exact G.iret C hlk hrt dX3_ifHome_47 (by rw [if_pos h34]) (by exact fun _ h => h)
theorem sv9_7 {c9 : cSt} {sv : Nat} : sv9 c9 sv 0 7 = c9 0 7 := by
  unfold sv9
  split <;> simp [cW]
