/-! the law's isSo -/
set_option maxRecDepth 100000 in
set_option maxHeartbeats 8000000 in
theorem k_L_isSo (l : Launch) (hst : l.stackTraces = false) {E : gEn} {σ : gSt} {π : Nat → Nat} {o : Int64} {c0 c1 c2 c9 v : cSt} {P : gSt → (Nat → Nat) → Prop} (hSo : lSo c0 v) (hend : P (gL σ c0 c1 c2 c9 v) π) : CtP l yL_isSo wsL_isSo ({ frames := 9, cells := 16, slots := 96, locals := 194 } : Room) E [.ref (E.2.1 9 0), .ref (E.2.1 10 0), .ref (E.2.1 10 1), .ref (E.2.1 10 2), .ref (E.2.1 10 3)] (gL σ c0 c1 c2 c9 v) π o P 16 96 := by
  refine CtP.of (cc := cL_isSo) (own := RL) (maxL := 12) (ret := (some .boolean)) [some (.ref (E.2.1 9 0)), some (.ref (E.2.1 10 0)), some (.ref (E.2.1 10 1)), some (.ref (E.2.1 10 2)), some (.ref (E.2.1 10 3)), none, none, none, none, none, none, none] (by decide) rfl rfl (Nat.le_of_ble_eq_true rfl) rfl ?_
  intro p e s m args below meth cd C hZ hrt hlk
  have hl : 10 ≤ 10 := Nat.le_refl 10
  have hv : ∀ j, j < 4 → gV E 10 j := fun j hj => gV_d hj
  obtain ⟨hF1, hF2, hF3, ⟨n0, hn0, hn, hn2, hF4⟩, hF5, hF6, hF7, hF8, hF9⟩ := hSo
  refine G.iconst C 0 dL_isSo_0 (by decide) ?_
  refine G.ist5 C dL_isSo_1 (by omega) rfl ?_
  refine G.iconst C 0 dL_isSo_3 (by decide) ?_
  refine G.ist6 C dL_isSo_4 (by omega) rfl ?_
  refine G.iconst C 0 dL_isSo_6 (by decide) ?_
  refine G.ist7 C dL_isSo_7 (by omega) rfl ?_
  refine G.iconst C 0 dL_isSo_9 (by decide) ?_
  refine G.ist8 C dL_isSo_10 (by omega) rfl ?_
  refine G.iconst C (-1) dL_isSo_12 (by decide) ?_
  refine G.ist9 C dL_isSo_13 (by omega) rfl ?_
  refine G.iconst C 0 dL_isSo_15 (by decide) ?_
  refine G.ist10 C dL_isSo_16 (by omega) rfl ?_
  have L18 : ∀ (n k : Nat), k + n = 16 → G p l e ({ frames := 9, cells := 16, slots := 96, locals := 194 } : Room) s m args below meth cd 12 (k) (6 * k) (gA E) (gQP below args s E o P 16 96) E (gL σ c0 c1 c2 c9 v) π o 18 [some (.ref (E.2.1 9 0)), some (.ref (E.2.1 10 0)), some (.ref (E.2.1 10 1)), some (.ref (E.2.1 10 2)), some (.ref (E.2.1 10 3)), some (.int (nI (cnt (fun q => lIs v q) k))), some (.int (nI (cnt (fun q => lPrs v q) k))), some (.int (nI (cnt (fun q => lOwn v q) k))), some (.int 0), some (.int (-1)), some (.int (nI k)), none] [] := by
    intro n
    induction n with
    | zero =>
      intro k hk
      obtain rfl : 16 = k := by omega
      have C := C.wide (cl' := 16) (sl' := 6 * 16) (by show _ ≤ (16 : Nat); omega) (by show _ ≤ (96 : Nat); omega)
      refine G.ild10 C dL_isSo_18 ?_
      refine G.bipush C 16 dL_isSo_20 (by decide) ?_
      refine G.icmp_ge C 166 dL_isSo_22 (by decide) (fun _ => ?_) (fun h => absurd (nI_le (a := 16) (b := 16) (by omega) (by decide)) h)
      refine G.bipush C 23 dL_isSo_166 (by decide) ?_
      refine G.ist10 C dL_isSo_168 (by omega) rfl ?_
      have L170 : ∀ (n k9 : Nat), k9 + n = 24 → G p l e ({ frames := 9, cells := 16, slots := 96, locals := 194 } : Room) s m args below meth cd 12 16 96 (gA E) (gQP below args s E o P 16 96) E (gL σ c0 c1 c2 c9 v) π o 170 [some (.ref (E.2.1 9 0)), some (.ref (E.2.1 10 0)), some (.ref (E.2.1 10 1)), some (.ref (E.2.1 10 2)), some (.ref (E.2.1 10 3)), some (.int (nI (cnt (fun q => lIs v q) 16))), some (.int (nI (cnt (fun q => lPrs v q) 16))), some (.int (nI (cnt (fun q => lOwn v q) 16))), some (.int (nI (lOpK v k9))), some (.int (lFrD v k9)), some (.int (nI n - 1)), none] [] := by
        intro n
        induction n with
        | zero =>
          intro k9 hk
          obtain rfl : 24 = k9 := by omega
          have C := C.wide (cl' := 16) (sl' := 96) (by show _ ≤ (16 : Nat); omega) (by show _ ≤ (96 : Nat); omega)
          refine G.ild10 C dL_isSo_170 ?_
          refine G.if_lt C 273 dL_isSo_172 (by decide) (fun _ => ?_) (fun h => absurd (by decide) h)
          refine G.iconst C 0 dL_isSo_273 (by decide) ?_
          refine G.ist10 C dL_isSo_274 (by omega) rfl ?_
          have L276 : ∀ (n k : Nat), k + n = n0 → G p l e ({ frames := 9, cells := 16, slots := 96, locals := 194 } : Room) s m args below meth cd 12 16 96 (gA E) (gQP below args s E o P 16 96) E (gL σ c0 c1 c2 c9 v) π o 276 [some (.ref (E.2.1 9 0)), some (.ref (E.2.1 10 0)), some (.ref (E.2.1 10 1)), some (.ref (E.2.1 10 2)), some (.ref (E.2.1 10 3)), some (.int (nI (cnt (fun q => lIs v q) 16))), some (.int (nI (cnt (fun q => lPrs v q) 16))), some (.int (nI (cnt (fun q => lOwn v q) 16))), some (.int (nI (lOpK v 24))), some (.int (lFrD v 24)), some (.int (nI k)), none] [] := by
            intro n
            induction n with
            | zero =>
              intro k hk
              obtain rfl : n0 = k := by omega
              have C := C.wide (cl' := 16) (sl' := 96) (by show _ ≤ (16 : Nat); omega) (by show _ ≤ (96 : Nat); omega)
              refine G.ild10 C dL_isSo_276 ?_
              refine G.aldn1 C dL_isSo_278 ?_
              refine G.bipush C 12 dL_isSo_279 (by decide) ?_
              refine G.ialdL C (n := 13) (j := 0) (d0 := 12) (gN_l hl rfl) (hv _ (by omega)) (by unfold vp_in; decide) (by decide) dL_isSo_281 ?_
              refine G.topI (nI n0) hn ?_
              refine G.icmp_ge C 329 dL_isSo_282 (by decide) (fun _ => ?_) (fun h => absurd (nI_le (a := n0) (b := n0) (by omega) (by omega)) h)
              refine G.iconst C 0 dL_isSo_329 (by decide) ?_
              refine G.ist10 C dL_isSo_330 (by omega) rfl ?_
              have L332 : ∀ (n k : Nat), k + n = 4 → G p l e ({ frames := 9, cells := 16, slots := 96, locals := 194 } : Room) s m args below meth cd 12 16 96 (gA E) (gQP below args s E o P 16 96) E (gL σ c0 c1 c2 c9 v) π o 332 [some (.ref (E.2.1 9 0)), some (.ref (E.2.1 10 0)), some (.ref (E.2.1 10 1)), some (.ref (E.2.1 10 2)), some (.ref (E.2.1 10 3)), some (.int (nI (cnt (fun q => lIs v q) 16))), some (.int (nI (cnt (fun q => lPrs v q) 16))), some (.int (nI (cnt (fun q => lOwn v q) 16))), some (.int (nI (lOpK v 24))), some (.int (lFrD v 24)), some (.int (nI k)), none] [] := by
                intro n
                induction n with
                | zero =>
                  intro k hk
                  obtain rfl : 4 = k := by omega
                  have C := C.wide (cl' := 16) (sl' := 96) (by show _ ≤ (16 : Nat); omega) (by show _ ≤ (96 : Nat); omega)
                  refine G.ild10 C dL_isSo_332 ?_
                  refine G.iconst C 4 dL_isSo_334 (by decide) ?_
                  refine G.icmp_ge C 365 dL_isSo_335 (by decide) (fun _ => ?_) (fun h => absurd (nI_le (a := 4) (b := 4) (by omega) (by decide)) h)
                  refine G.aldn1 C dL_isSo_365 ?_
                  refine G.aldn2 C dL_isSo_366 ?_
                  refine G.iconst C 0 dL_isSo_367 (by decide) ?_
                  refine G.bipush C 23 dL_isSo_368 (by decide) ?_
                  refine G.callSI4 C (TLI (k_L_many l hl hv)) (va_cwS 4 C.1.2.2.2.2 gL_isSo_L_many rfl rfl rfl (by decide +kernel) ⟨Nat.le_of_ble_eq_true rfl, Nat.le_of_ble_eq_true rfl⟩) (Nat.le_of_ble_eq_true rfl) dL_isSo_370 ?_
                  refine G.ist10 C dL_isSo_373 (by omega) rfl ?_
                  refine G.aldn0 C dL_isSo_375 ?_
                  refine G.aldn1 C dL_isSo_376 ?_
                  refine G.bipush C 12 dL_isSo_377 (by decide) ?_
                  refine G.ialdL C (n := 13) (j := 0) (d0 := 12) (gN_l hl rfl) (hv _ (by omega)) (by unfold vp_in; decide) (by decide) dL_isSo_379 ?_
                  refine G.topI (nI n0) hn ?_
                  refine G.iconst C 0 dL_isSo_380 (by decide) ?_
                  refine G.callVI2 C (k_X3_step l (nI_pos (by omega)) (by decide) (by decide) hn2 hn0) (cwV 2 C.1.2.2.2.2 gL_isSo_X3_step rfl rfl rfl (by decide +kernel) ⟨Nat.le_of_ble_eq_true rfl, Nat.le_of_ble_eq_true rfl⟩) gO_m rfl (Nat.le_of_ble_eq_true rfl) dL_isSo_381 ?_
                  refine G.topI (-1) (if_pos (by rw [hn2]; exact nI_le (Nat.le_refl _) (by omega))) ?_
                  refine G.iconst C (-1) dL_isSo_384 (by decide) ?_
                  refine G.icmp_ne C 549 dL_isSo_385 (by decide) (fun h => absurd rfl h) (fun _ => ?_)
                  refine G.aldn0 C dL_isSo_388 ?_
                  refine G.iconst C 0 dL_isSo_389 (by decide) ?_
                  refine G.callVI1 C (k_X3_count l (by decide) (by decide)) (cwV 1 C.1.2.2.2.2 gL_isSo_X3_count rfl rfl rfl (by decide +kernel) ⟨Nat.le_of_ble_eq_true rfl, Nat.le_of_ble_eq_true rfl⟩) gO_m rfl (Nat.le_of_ble_eq_true rfl) dL_isSo_390 ?_
                  refine G.topI (cNum c0 0) (if_neg (by decide)) ?_
                  refine G.aldn1 C dL_isSo_393 ?_
                  refine G.iconst C 3 dL_isSo_394 (by decide) ?_
                  refine G.ialdL C (n := 13) (j := 0) (d0 := 3) (gN_l hl rfl) (hv _ (by omega)) (by unfold vp_in; decide) (by decide) dL_isSo_395 ?_
                  refine G.icmp_ne C 549 dL_isSo_396 (by decide) (fun h396 => absurd h396 (fun q => q (hF6.1))) (fun h396 => ?_)
                  refine G.aldn0 C dL_isSo_399 ?_
                  refine G.iconst C 1 dL_isSo_400 (by decide) ?_
                  refine G.callVI1 C (k_X3_count l (by decide) (by decide)) (cwV 1 C.1.2.2.2.2 gL_isSo_X3_count rfl rfl rfl (by decide +kernel) ⟨Nat.le_of_ble_eq_true rfl, Nat.le_of_ble_eq_true rfl⟩) gO_m rfl (Nat.le_of_ble_eq_true rfl) dL_isSo_401 ?_
                  refine G.topI (cNum c0 1) (if_neg (by decide)) ?_
                  refine G.aldn1 C dL_isSo_404 ?_
                  refine G.iconst C 2 dL_isSo_405 (by decide) ?_
                  refine G.ialdL C (n := 13) (j := 0) (d0 := 2) (gN_l hl rfl) (hv _ (by omega)) (by unfold vp_in; decide) (by decide) dL_isSo_406 ?_
                  refine G.icmp_ne C 549 dL_isSo_407 (by decide) (fun h407 => absurd h407 (fun q => q (hF6.2.1))) (fun h407 => ?_)
                  refine G.aldn0 C dL_isSo_410 ?_
                  refine G.iconst C 2 dL_isSo_411 (by decide) ?_
                  refine G.callVI1 C (k_X3_count l (by decide) (by decide)) (cwV 1 C.1.2.2.2.2 gL_isSo_X3_count rfl rfl rfl (by decide +kernel) ⟨Nat.le_of_ble_eq_true rfl, Nat.le_of_ble_eq_true rfl⟩) gO_m rfl (Nat.le_of_ble_eq_true rfl) dL_isSo_412 ?_
                  refine G.topI (cNum c0 2) (if_neg (by decide)) ?_
                  refine G.ild5 C dL_isSo_415 ?_
                  refine G.icmp_ne C 549 dL_isSo_417 (by decide) (fun h417 => absurd h417 (fun q => q (hF6.2.2.1))) (fun h417 => ?_)
                  refine G.aldn0 C dL_isSo_420 ?_
                  refine G.iconst C 3 dL_isSo_421 (by decide) ?_
                  refine G.callVI1 C (k_X3_count l (by decide) (by decide)) (cwV 1 C.1.2.2.2.2 gL_isSo_X3_count rfl rfl rfl (by decide +kernel) ⟨Nat.le_of_ble_eq_true rfl, Nat.le_of_ble_eq_true rfl⟩) gO_m rfl (Nat.le_of_ble_eq_true rfl) dL_isSo_422 ?_
                  refine G.topI (cNum c0 3) (if_neg (by decide)) ?_
                  refine G.ild10 C dL_isSo_425 ?_
                  refine G.icmp_ne C 549 dL_isSo_427 (by decide) (fun h427 => absurd h427 (fun q => q (hF6.2.2.2.1))) (fun h427 => ?_)
                  refine G.aldn0 C dL_isSo_430 ?_
                  refine G.iconst C 4 dL_isSo_431 (by decide) ?_
                  refine G.callVI1 C (k_X3_count l (by decide) (by decide)) (cwV 1 C.1.2.2.2.2 gL_isSo_X3_count rfl rfl rfl (by decide +kernel) ⟨Nat.le_of_ble_eq_true rfl, Nat.le_of_ble_eq_true rfl⟩) gO_m rfl (Nat.le_of_ble_eq_true rfl) dL_isSo_432 ?_
                  refine G.topI (cNum c0 4) (if_neg (by decide)) ?_
                  refine G.ild10 C dL_isSo_435 ?_
                  refine G.icmp_ne C 549 dL_isSo_437 (by decide) (fun h437 => absurd h437 (fun q => q (hF6.2.2.2.2.1))) (fun h437 => ?_)
                  refine G.aldn0 C dL_isSo_440 ?_
                  refine G.iconst C 5 dL_isSo_441 (by decide) ?_
                  refine G.callVI1 C (k_X3_count l (by decide) (by decide)) (cwV 1 C.1.2.2.2.2 gL_isSo_X3_count rfl rfl rfl (by decide +kernel) ⟨Nat.le_of_ble_eq_true rfl, Nat.le_of_ble_eq_true rfl⟩) gO_m rfl (Nat.le_of_ble_eq_true rfl) dL_isSo_442 ?_
                  refine G.topI (cNum c0 5) (if_neg (by decide)) ?_
                  refine G.aldn1 C dL_isSo_445 ?_
                  refine G.aldn2 C dL_isSo_446 ?_
                  refine G.bipush C 24 dL_isSo_447 (by decide) ?_
                  refine G.bipush C 24 dL_isSo_449 (by decide) ?_
                  refine G.callSI4 C (TLI (k_L_many l hl hv)) (va_cwS 4 C.1.2.2.2.2 gL_isSo_L_many rfl rfl rfl (by decide +kernel) ⟨Nat.le_of_ble_eq_true rfl, Nat.le_of_ble_eq_true rfl⟩) (Nat.le_of_ble_eq_true rfl) dL_isSo_451 ?_
                  refine G.icmp_ne C 549 dL_isSo_454 (by decide) (fun h454 => absurd h454 (fun q => q (hF6.2.2.2.2.2.1))) (fun h454 => ?_)
                  refine G.aldn0 C dL_isSo_457 ?_
                  refine G.bipush C 6 dL_isSo_458 (by decide) ?_
                  refine G.callVI1 C (k_X3_count l (by decide) (by decide)) (cwV 1 C.1.2.2.2.2 gL_isSo_X3_count rfl rfl rfl (by decide +kernel) ⟨Nat.le_of_ble_eq_true rfl, Nat.le_of_ble_eq_true rfl⟩) gO_m rfl (Nat.le_of_ble_eq_true rfl) dL_isSo_460 ?_
                  refine G.topI (cNum c0 6) (if_neg (by decide)) ?_
                  refine G.aldn1 C dL_isSo_463 ?_
                  refine G.aldn2 C dL_isSo_464 ?_
                  refine G.iconst C (-1) dL_isSo_465 (by decide) ?_
                  refine G.iconst C (-1) dL_isSo_466 (by decide) ?_
                  refine G.callSI4 C (TLI (k_L_many l hl hv)) (va_cwS 4 C.1.2.2.2.2 gL_isSo_L_many rfl rfl rfl (by decide +kernel) ⟨Nat.le_of_ble_eq_true rfl, Nat.le_of_ble_eq_true rfl⟩) (Nat.le_of_ble_eq_true rfl) dL_isSo_467 ?_
                  refine G.icmp_ne C 549 dL_isSo_470 (by decide) (fun h470 => absurd h470 (fun q => q (hF6.2.2.2.2.2.2))) (fun h470 => ?_)
                  refine G.aldn0 C dL_isSo_473 ?_
                  refine G.bipush C 7 dL_isSo_474 (by decide) ?_
                  refine G.callVI1 C (k_X3_count l (by decide) (by decide)) (cwV 1 C.1.2.2.2.2 gL_isSo_X3_count rfl rfl rfl (by decide +kernel) ⟨Nat.le_of_ble_eq_true rfl, Nat.le_of_ble_eq_true rfl⟩) gO_m rfl (Nat.le_of_ble_eq_true rfl) dL_isSo_476 ?_
                  refine G.topI (cNum c0 7) (if_neg (by decide)) ?_
                  refine G.ild8 C dL_isSo_479 ?_
                  refine G.icmp_ne C 549 dL_isSo_481 (by decide) (fun h481 => absurd h481 (fun q => q (hF7.1))) (fun h481 => ?_)
                  refine G.aldn0 C dL_isSo_484 ?_
                  refine G.bipush C 8 dL_isSo_485 (by decide) ?_
                  refine G.callVI1 C (k_X3_count l (by decide) (by decide)) (cwV 1 C.1.2.2.2.2 gL_isSo_X3_count rfl rfl rfl (by decide +kernel) ⟨Nat.le_of_ble_eq_true rfl, Nat.le_of_ble_eq_true rfl⟩) gO_m rfl (Nat.le_of_ble_eq_true rfl) dL_isSo_487 ?_
                  refine G.topI (cNum c0 8) (if_neg (by decide)) ?_
                  refine G.ild6 C dL_isSo_490 ?_
                  refine G.icmp_ne C 549 dL_isSo_492 (by decide) (fun h492 => absurd h492 (fun q => q (hF7.2.1))) (fun h492 => ?_)
                  refine G.aldn0 C dL_isSo_495 ?_
                  refine G.bipush C 9 dL_isSo_496 (by decide) ?_
                  refine G.callVI1 C (k_X3_count l (by decide) (by decide)) (cwV 1 C.1.2.2.2.2 gL_isSo_X3_count rfl rfl rfl (by decide +kernel) ⟨Nat.le_of_ble_eq_true rfl, Nat.le_of_ble_eq_true rfl⟩) gO_m rfl (Nat.le_of_ble_eq_true rfl) dL_isSo_498 ?_
                  refine G.topI (cNum c0 9) (if_neg (by decide)) ?_
                  refine G.aldn1 C dL_isSo_501 ?_
                  refine G.bipush C 6 dL_isSo_502 (by decide) ?_
                  refine G.ialdL C (n := 13) (j := 0) (d0 := 6) (gN_l hl rfl) (hv _ (by omega)) (by unfold vp_in; decide) (by decide) dL_isSo_504 ?_
                  refine G.icmp_ne C 549 dL_isSo_505 (by decide) (fun h505 => absurd h505 (fun q => q (hF7.2.2.1))) (fun h505 => ?_)
                  refine G.aldn0 C dL_isSo_508 ?_
                  refine G.bipush C 10 dL_isSo_509 (by decide) ?_
                  refine G.callVI1 C (k_X3_count l (by decide) (by decide)) (cwV 1 C.1.2.2.2.2 gL_isSo_X3_count rfl rfl rfl (by decide +kernel) ⟨Nat.le_of_ble_eq_true rfl, Nat.le_of_ble_eq_true rfl⟩) gO_m rfl (Nat.le_of_ble_eq_true rfl) dL_isSo_511 ?_
                  refine G.topI (cNum c0 10) (if_neg (by decide)) ?_
                  refine G.aldn1 C dL_isSo_514 ?_
                  refine G.bipush C 7 dL_isSo_515 (by decide) ?_
                  refine G.ialdL C (n := 13) (j := 0) (d0 := 7) (gN_l hl rfl) (hv _ (by omega)) (by unfold vp_in; decide) (by decide) dL_isSo_517 ?_
                  refine G.icmp_ne C 549 dL_isSo_518 (by decide) (fun h518 => absurd h518 (fun q => q (hF7.2.2.2.1))) (fun h518 => ?_)
                  refine G.aldn0 C dL_isSo_521 ?_
                  refine G.bipush C 15 dL_isSo_522 (by decide) ?_
                  refine G.callVI1 C (k_X3_count l (by decide) (by decide)) (cwV 1 C.1.2.2.2.2 gL_isSo_X3_count rfl rfl rfl (by decide +kernel) ⟨Nat.le_of_ble_eq_true rfl, Nat.le_of_ble_eq_true rfl⟩) gO_m rfl (Nat.le_of_ble_eq_true rfl) dL_isSo_524 ?_
                  refine G.topI (cNum c0 15) (if_neg (by decide)) ?_
                  refine G.aldn1 C dL_isSo_527 ?_
                  refine G.iconst C 4 dL_isSo_528 (by decide) ?_
                  refine G.ialdL C (n := 13) (j := 0) (d0 := 4) (gN_l hl rfl) (hv _ (by omega)) (by unfold vp_in; decide) (by decide) dL_isSo_529 ?_
                  refine G.icmp_ne C 549 dL_isSo_530 (by decide) (fun h530 => absurd h530 (fun q => q (hF7.2.2.2.2.1))) (fun h530 => ?_)
                  refine G.aldn0 C dL_isSo_533 ?_
                  refine G.bipush C 16 dL_isSo_534 (by decide) ?_
                  refine G.callVI1 C (k_X3_count l (by decide) (by decide)) (cwV 1 C.1.2.2.2.2 gL_isSo_X3_count rfl rfl rfl (by decide +kernel) ⟨Nat.le_of_ble_eq_true rfl, Nat.le_of_ble_eq_true rfl⟩) gO_m rfl (Nat.le_of_ble_eq_true rfl) dL_isSo_536 ?_
                  refine G.topI (cNum c0 16) (if_neg (by decide)) ?_
                  refine G.aldn1 C dL_isSo_539 ?_
                  refine G.iconst C 5 dL_isSo_540 (by decide) ?_
                  refine G.ialdL C (n := 13) (j := 0) (d0 := 5) (gN_l hl rfl) (hv _ (by omega)) (by unfold vp_in; decide) (by decide) dL_isSo_541 ?_
                  refine G.icmp_ne C 549 dL_isSo_542 (by decide) (fun h542 => absurd h542 (fun q => q (hF7.2.2.2.2.2))) (fun h542 => ?_)
                  refine G.iconst C 1 dL_isSo_545 (by decide) ?_
                  refine G.goto C 550 dL_isSo_546 (by decide) ?_
                  refine G.ist11 C dL_isSo_550 (by omega) rfl ?_
                  refine G.ild11 C dL_isSo_552 ?_
                  refine G.if_eq C 594 dL_isSo_554 (by decide) (fun h => absurd h (by decide)) (fun _ => ?_)
                  refine G.aldn0 C dL_isSo_557 ?_
                  refine G.callVI0 C (k_X3_freeHole l) (cwV 0 C.1.2.2.2.2 gL_isSo_X3_freeHole rfl rfl rfl (by decide +kernel) ⟨Nat.le_of_ble_eq_true rfl, Nat.le_of_ble_eq_true rfl⟩) gO_m rfl (Nat.le_of_ble_eq_true rfl) dL_isSo_558 ?_
                  refine G.ild9 C dL_isSo_561 ?_
                  refine G.icmp_ne C 594 dL_isSo_563 (by decide) (fun h563 => absurd h563 (fun q => q (hF8))) (fun h563 => ?_)
                  refine G.aldn0 C dL_isSo_566 ?_
                  refine G.callVD0 C (k_X3_homeShare l) (cwV 0 C.1.2.2.2.2 gL_isSo_X3_homeShare rfl rfl rfl (by decide +kernel) ⟨Nat.le_of_ble_eq_true rfl, Nat.le_of_ble_eq_true rfl⟩) gO_m rfl (Nat.le_of_ble_eq_true rfl) dL_isSo_567 ?_
                  refine G.ild5 C dL_isSo_570 ?_
                  refine G.if_ne C 579 dL_isSo_572 (by decide) (fun h572 => ?_) (fun h572 => ?_)
                  · refine G.ild7 C dL_isSo_579 ?_
                    refine G.i2d C dL_isSo_581 ?_
                    refine G.ild5 C dL_isSo_582 ?_
                    refine G.i2d C dL_isSo_584 ?_
                    refine G.ddiv C dL_isSo_585 (shr_all _ (Nat.lt_succ_of_le (cnt_le _ 16)) _ (Nat.lt_succ_of_le (cnt_le _ 16)) (fun q => h572 (by rw [q]; rfl))).1 ?_
                    refine G.dcmp C dL_isSo_586 ?_
                    refine G.topI (0) (by rw [hF9, lShr, if_neg h572]; exact (shr_all _ (Nat.lt_succ_of_le (cnt_le _ 16)) _ (Nat.lt_succ_of_le (cnt_le _ 16)) (fun q => h572 (by rw [q]; rfl))).2) ?_
                    refine G.if_ne C 594 dL_isSo_587 (by decide) (fun h => absurd rfl h) (fun _ => ?_)
                    refine G.iconst C 1 dL_isSo_590 (by decide) ?_
                    refine G.goto C 595 dL_isSo_591 (by decide) ?_
                    exact G.pret C (by omega) (by omega) hlk hrt dL_isSo_595 rfl hend
                  · refine G.dconst1 C dL_isSo_575 ?_
                    refine G.goto C 586 dL_isSo_576 (by decide) ?_
                    refine G.dcmp C dL_isSo_586 ?_
                    refine G.topI (0) (by rw [hF9, lShr, if_pos h572]; decide +kernel) ?_
                    refine G.if_ne C 594 dL_isSo_587 (by decide) (fun h => absurd rfl h) (fun _ => ?_)
                    refine G.iconst C 1 dL_isSo_590 (by decide) ?_
                    refine G.goto C 595 dL_isSo_591 (by decide) ?_
                    exact G.pret C (by omega) (by omega) hlk hrt dL_isSo_595 rfl hend
                | succ n ih =>
                  intro k hk
                  have C := C.wide (cl' := 16) (sl' := 96) (by show _ ≤ (16 : Nat); omega) (by show _ ≤ (96 : Nat); omega)
                  have hk2 : k < 4 := by omega
                  refine G.ild10 C dL_isSo_332 ?_
                  refine G.iconst C 4 dL_isSo_334 (by decide) ?_
                  refine G.icmp_ge C 365 dL_isSo_335 (by decide) (fun h => absurd h (nI_ge (b := 4) hk2 (by decide))) (fun _ => ?_)
                  refine G.aldn0 C dL_isSo_338 ?_
                  refine G.bipush C 11 dL_isSo_339 (by decide) ?_
                  refine G.ild10 C dL_isSo_341 ?_
                  refine G.iadd C dL_isSo_343 ?_
                  refine G.topI (nI (11 + k)) (nI_add _ _) ?_
                  refine G.callVI1 C (k_X3_count l (nI_pos (by omega)) (nI_lt (b := 18) (by omega) (by omega))) (cwV 1 C.1.2.2.2.2 gL_isSo_X3_count rfl rfl rfl (by decide +kernel) ⟨Nat.le_of_ble_eq_true rfl, Nat.le_of_ble_eq_true rfl⟩) gO_m rfl (Nat.le_of_ble_eq_true rfl) dL_isSo_344 ?_
                  refine G.topI (cNum c0 (nI (11 + k))) (if_neg (by rw [show (17 : Int32) = nI 17 from rfl, nI_eq (by omega) (by omega)]; omega)) ?_
                  refine G.aldn1 C dL_isSo_347 ?_
                  refine G.bipush C 8 dL_isSo_348 (by decide) ?_
                  refine G.ild10 C dL_isSo_350 ?_
                  refine G.iadd C dL_isSo_352 ?_
                  refine G.topI (nI (8 + k)) (nI_add _ _) ?_
                  refine G.ialdL C (n := 13) (j := 0) (d0 := (8 + k)) (gN_l hl rfl) (hv _ (by omega)) (by first | assumption | exact vp_in_nI (by omega) (by omega) | (unfold vp_in; decide)) (ix_nI (by omega)) dL_isSo_353 ?_
                  refine G.icmp_eq C 359 dL_isSo_354 (by decide) (fun h354 => ?_) (fun h354 => absurd (hF5 k (by omega)) h354)
                  refine G.iincN10 C dL_isSo_359 (by omega) rfl ?_
                  refine G.goto C 332 dL_isSo_362 (by decide) ?_
                  refine G.wide (cl' := 16) (sl' := 96) (by omega) (by omega) ?_
                  exact G.back (ih (k + 1) (by omega) ) rfl ⟨(by first | rfl | simp), (by first | rfl | simp), (by first | rfl | simp), (by first | rfl | simp), (by first | rfl | simp), (by first | rfl | simp), (by first | rfl | simp), (by first | rfl | simp), (by first | rfl | simp), (by first | rfl | simp), (by first | rfl | simp), trivial⟩
              refine G.wide (cl' := 16) (sl' := 96) (by omega) (by omega) ?_
              exact G.back (L332 4 0 (Nat.zero_add _) ) rfl ⟨(by first | rfl | simp), (by first | rfl | simp), (by first | rfl | simp), (by first | rfl | simp), (by first | rfl | simp), (by first | rfl | simp), (by first | rfl | simp), (by first | rfl | simp), (by first | rfl | simp), (by first | rfl | simp), (by first | rfl | simp), trivial⟩
            | succ n ih =>
              intro k hk
              have C := C.wide (cl' := 16) (sl' := 96) (by show _ ≤ (16 : Nat); omega) (by show _ ≤ (96 : Nat); omega)
              have hk2 : k < n0 := by omega
              refine G.ild10 C dL_isSo_276 ?_
              refine G.aldn1 C dL_isSo_278 ?_
              refine G.bipush C 12 dL_isSo_279 (by decide) ?_
              refine G.ialdL C (n := 13) (j := 0) (d0 := 12) (gN_l hl rfl) (hv _ (by omega)) (by unfold vp_in; decide) (by decide) dL_isSo_281 ?_
              refine G.topI (nI n0) hn ?_
              refine G.icmp_ge C 329 dL_isSo_282 (by decide) (fun h => absurd h (nI_ge (b := n0) hk2 (by omega))) (fun _ => ?_)
              refine G.aldn0 C dL_isSo_285 ?_
              refine G.ild10 C dL_isSo_286 ?_
              refine G.iconst C 0 dL_isSo_288 (by decide) ?_
              refine G.callVI2 C (k_X3_step l (nI_pos (by omega)) (by decide) (by decide) hn2 hn0) (cwV 2 C.1.2.2.2.2 gL_isSo_X3_step rfl rfl rfl (by decide +kernel) ⟨Nat.le_of_ble_eq_true rfl, Nat.le_of_ble_eq_true rfl⟩) gO_m rfl (Nat.le_of_ble_eq_true rfl) dL_isSo_289 ?_
              refine G.topI (c0 18 k) (by rw [if_neg (by rw [hn2]; exact nI_ge (by omega) (by omega)), if_pos rfl, ix_nI (by omega)]) ?_
              refine G.ald4 C dL_isSo_292 ?_
              refine G.ild10 C dL_isSo_294 ?_
              refine G.ialdL C (n := 26) (j := 3) (d0 := k) (gN_l hl rfl) (hv _ (by omega)) (by first | assumption | exact vp_in_nI (by omega) (by omega) | (unfold vp_in; decide)) (ix_nI (by omega)) dL_isSo_296 ?_
              refine G.bipush C 32 dL_isSo_297 (by decide) ?_
              refine G.idiv C dL_isSo_299 (by decide) ?_
              refine G.icmp_ne C 321 dL_isSo_300 (by decide) (fun h300 => absurd h300 (fun q => q ((hF4 k (by omega)).1))) (fun h300 => ?_)
              refine G.aldn0 C dL_isSo_303 ?_
              refine G.ild10 C dL_isSo_304 ?_
              refine G.iconst C 1 dL_isSo_306 (by decide) ?_
              refine G.callVI2 C (k_X3_step l (nI_pos (by omega)) (by decide) (by decide) hn2 hn0) (cwV 2 C.1.2.2.2.2 gL_isSo_X3_step rfl rfl rfl (by decide +kernel) ⟨Nat.le_of_ble_eq_true rfl, Nat.le_of_ble_eq_true rfl⟩) gO_m rfl (Nat.le_of_ble_eq_true rfl) dL_isSo_307 ?_
              refine G.topI (c0 19 k) (by rw [if_neg (by rw [hn2]; exact nI_ge (by omega) (by omega)), if_neg (by decide), ix_nI (by omega)]) ?_
              refine G.ald4 C dL_isSo_310 ?_
              refine G.ild10 C dL_isSo_312 ?_
              refine G.ialdL C (n := 26) (j := 3) (d0 := k) (gN_l hl rfl) (hv _ (by omega)) (by first | assumption | exact vp_in_nI (by omega) (by omega) | (unfold vp_in; decide)) (ix_nI (by omega)) dL_isSo_314 ?_
              refine G.bipush C 32 dL_isSo_315 (by decide) ?_
              refine G.irem C dL_isSo_317 (by decide) ?_
              refine G.icmp_eq C 323 dL_isSo_318 (by decide) (fun h318 => ?_) (fun h318 => absurd ((hF4 k (by omega)).2) h318)
              refine G.iincN10 C dL_isSo_323 (by omega) rfl ?_
              refine G.goto C 276 dL_isSo_326 (by decide) ?_
              refine G.wide (cl' := 16) (sl' := 96) (by omega) (by omega) ?_
              exact G.back (ih (k + 1) (by omega) ) rfl ⟨(by first | rfl | simp), (by first | rfl | simp), (by first | rfl | simp), (by first | rfl | simp), (by first | rfl | simp), (by first | rfl | simp), (by first | rfl | simp), (by first | rfl | simp), (by first | rfl | simp), (by first | rfl | simp), (by first | rfl | simp), trivial⟩
          refine G.wide (cl' := 16) (sl' := 96) (by omega) (by omega) ?_
          exact G.back (L276 n0 0 (Nat.zero_add _) ) rfl ⟨(by first | rfl | simp), (by first | rfl | simp), (by first | rfl | simp), (by first | rfl | simp), (by first | rfl | simp), (by first | rfl | simp), (by first | rfl | simp), (by first | rfl | simp), (by first | rfl | simp), (by first | rfl | simp), (by first | rfl | simp), trivial⟩
        | succ n ih =>
          intro k9 hk
          have C := C.wide (cl' := 16) (sl' := 96) (by show _ ≤ (16 : Nat); omega) (by show _ ≤ (96 : Nat); omega)
          have hk2 : k9 < 24 := by omega
          rw [nI_pred]
          refine G.ild10 C dL_isSo_170 ?_
          refine G.if_lt C 273 dL_isSo_172 (by decide) (fun h => absurd h (nI_pos (by omega))) (fun _ => ?_)
          refine G.iconst C 1 dL_isSo_175 (by decide) ?_
          refine G.aldn1 C dL_isSo_176 ?_
          refine G.iconst C 1 dL_isSo_177 (by decide) ?_
          refine G.ialdL C (n := 13) (j := 0) (d0 := 1) (gN_l hl rfl) (hv _ (by omega)) (by unfold vp_in; decide) (by decide) dL_isSo_178 ?_
          refine G.ild10 C dL_isSo_179 ?_
          refine G.ishr C dL_isSo_181 ?_
          refine G.iconst C 1 dL_isSo_182 (by decide) ?_
          refine G.iand C dL_isSo_183 ?_
          refine G.topI (bI (lBit (v 0 1) n)) (lBit_sh (by omega)) ?_
          refine G.isub C dL_isSo_184 ?_
          refine G.topI (bI (!(lBit (v 0 1) n))) (bI_sub _) ?_
          refine G.ist11 C dL_isSo_185 (by omega) rfl ?_
          refine G.aldn0 C dL_isSo_187 ?_
          refine G.ild10 C dL_isSo_188 ?_
          refine G.iconst C 0 dL_isSo_190 (by decide) ?_
          refine G.callVI2 C (k_X3_hole l ((hHole_nI (by omega)).mpr (by omega)) (by decide) (by decide)) (cwV 2 C.1.2.2.2.2 gL_isSo_X3_hole rfl rfl rfl (by decide +kernel) ⟨Nat.le_of_ble_eq_true rfl, Nat.le_of_ble_eq_true rfl⟩) gO_m rfl (Nat.le_of_ble_eq_true rfl) dL_isSo_191 ?_
          refine G.topI (c0 11 n) (by rw [ix_nI (by omega)]; rfl) ?_
          refine G.aldn1 C dL_isSo_194 ?_
          refine G.aldn2 C dL_isSo_195 ?_
          refine G.ild10 C dL_isSo_196 ?_
          refine G.callSI3 C (TLI (k_L_sits l hl hv)) (va_cwS 3 C.1.2.2.2.2 gL_isSo_L_sits rfl rfl rfl (by decide +kernel) ⟨Nat.le_of_ble_eq_true rfl, Nat.le_of_ble_eq_true rfl⟩) (Nat.le_of_ble_eq_true rfl) dL_isSo_198 ?_
          refine G.icmp_ne C 233 dL_isSo_201 (by decide) (fun h201 => absurd h201 (fun q => q ((hF3 n (by omega)).1))) (fun h201 => ?_)
          refine G.aldn0 C dL_isSo_204 ?_
          refine G.ild10 C dL_isSo_205 ?_
          refine G.iconst C 1 dL_isSo_207 (by decide) ?_
          refine G.callVI2 C (k_X3_hole l ((hHole_nI (by omega)).mpr (by omega)) (by decide) (by decide)) (cwV 2 C.1.2.2.2.2 gL_isSo_X3_hole rfl rfl rfl (by decide +kernel) ⟨Nat.le_of_ble_eq_true rfl, Nat.le_of_ble_eq_true rfl⟩) gO_m rfl (Nat.le_of_ble_eq_true rfl) dL_isSo_208 ?_
          refine G.topI (c0 12 n) (by rw [ix_nI (by omega)]; rfl) ?_
          refine G.aldn1 C dL_isSo_211 ?_
          refine G.aldn2 C dL_isSo_212 ?_
          refine G.ild10 C dL_isSo_213 ?_
          refine G.callSI3 C (TLI (k_L_owner l hl hv)) (va_cwS 3 C.1.2.2.2.2 gL_isSo_L_owner rfl rfl rfl (by decide +kernel) ⟨Nat.le_of_ble_eq_true rfl, Nat.le_of_ble_eq_true rfl⟩) (Nat.le_of_ble_eq_true rfl) dL_isSo_215 ?_
          refine G.icmp_ne C 233 dL_isSo_218 (by decide) (fun h218 => absurd h218 (fun q => q ((hF3 n (by omega)).2.1))) (fun h218 => ?_)
          refine G.aldn0 C dL_isSo_221 ?_
          refine G.ild10 C dL_isSo_222 ?_
          refine G.iconst C 2 dL_isSo_224 (by decide) ?_
          refine G.callVI2 C (k_X3_hole l ((hHole_nI (by omega)).mpr (by omega)) (by decide) (by decide)) (cwV 2 C.1.2.2.2.2 gL_isSo_X3_hole rfl rfl rfl (by decide +kernel) ⟨Nat.le_of_ble_eq_true rfl, Nat.le_of_ble_eq_true rfl⟩) gO_m rfl (Nat.le_of_ble_eq_true rfl) dL_isSo_225 ?_
          refine G.topI (c0 13 n) (by rw [ix_nI (by omega)]; rfl) ?_
          refine G.ild11 C dL_isSo_228 ?_
          refine G.icmp_eq C 235 dL_isSo_230 (by decide) (fun h230 => ?_) (fun h230 => absurd ((hF3 n (by omega)).2.2) h230)
          refine G.ild8 C dL_isSo_235 ?_
          refine G.ild11 C dL_isSo_237 ?_
          refine G.iadd C dL_isSo_239 ?_
          refine G.topI (nI (lOpK v (k9 + 1))) (lOp_s hk) ?_
          refine G.ist8 C dL_isSo_240 (by omega) rfl ?_
          refine G.ild11 C dL_isSo_242 ?_
          refine G.iconst C 1 dL_isSo_244 (by decide) ?_
          refine G.icmp_ne C 263 dL_isSo_245 (by decide) (fun h245 => ?_) (fun h245 => ?_)
          · refine G.ild9 C dL_isSo_263 ?_
            refine G.ist9 C dL_isSo_265 (by omega) rfl ?_
            refine G.iinc10 C _ dL_isSo_267 (by omega) rfl rfl ?_
            refine G.goto C 170 dL_isSo_270 (by decide) ?_
            refine G.wide (cl' := 16) (sl' := 96) (by omega) (by omega) ?_
            exact G.back (ih (k9 + 1) (by omega) ) rfl ⟨(by first | with_reducible rfl | (rw [lFr_s hk, if_neg (bnotn h245)]; done) | (rw [lFr_s hk, if_pos (bnot1 h245), if_neg (Int32.not_lt.mpr h255)]; done) | (rw [lFr_s hk, if_pos (bnot1 h245), if_pos (Int32.not_le.mp h255)]; done) | exact congrArg (fun z => some (Value.int z)) (nI_dec n)), (by first | with_reducible rfl | (rw [lFr_s hk, if_neg (bnotn h245)]; done) | (rw [lFr_s hk, if_pos (bnot1 h245), if_neg (Int32.not_lt.mpr h255)]; done) | (rw [lFr_s hk, if_pos (bnot1 h245), if_pos (Int32.not_le.mp h255)]; done) | exact congrArg (fun z => some (Value.int z)) (nI_dec n)), (by first | with_reducible rfl | (rw [lFr_s hk, if_neg (bnotn h245)]; done) | (rw [lFr_s hk, if_pos (bnot1 h245), if_neg (Int32.not_lt.mpr h255)]; done) | (rw [lFr_s hk, if_pos (bnot1 h245), if_pos (Int32.not_le.mp h255)]; done) | exact congrArg (fun z => some (Value.int z)) (nI_dec n)), (by first | with_reducible rfl | (rw [lFr_s hk, if_neg (bnotn h245)]; done) | (rw [lFr_s hk, if_pos (bnot1 h245), if_neg (Int32.not_lt.mpr h255)]; done) | (rw [lFr_s hk, if_pos (bnot1 h245), if_pos (Int32.not_le.mp h255)]; done) | exact congrArg (fun z => some (Value.int z)) (nI_dec n)), (by first | with_reducible rfl | (rw [lFr_s hk, if_neg (bnotn h245)]; done) | (rw [lFr_s hk, if_pos (bnot1 h245), if_neg (Int32.not_lt.mpr h255)]; done) | (rw [lFr_s hk, if_pos (bnot1 h245), if_pos (Int32.not_le.mp h255)]; done) | exact congrArg (fun z => some (Value.int z)) (nI_dec n)), (by first | with_reducible rfl | (rw [lFr_s hk, if_neg (bnotn h245)]; done) | (rw [lFr_s hk, if_pos (bnot1 h245), if_neg (Int32.not_lt.mpr h255)]; done) | (rw [lFr_s hk, if_pos (bnot1 h245), if_pos (Int32.not_le.mp h255)]; done) | exact congrArg (fun z => some (Value.int z)) (nI_dec n)), (by first | with_reducible rfl | (rw [lFr_s hk, if_neg (bnotn h245)]; done) | (rw [lFr_s hk, if_pos (bnot1 h245), if_neg (Int32.not_lt.mpr h255)]; done) | (rw [lFr_s hk, if_pos (bnot1 h245), if_pos (Int32.not_le.mp h255)]; done) | exact congrArg (fun z => some (Value.int z)) (nI_dec n)), (by first | with_reducible rfl | (rw [lFr_s hk, if_neg (bnotn h245)]; done) | (rw [lFr_s hk, if_pos (bnot1 h245), if_neg (Int32.not_lt.mpr h255)]; done) | (rw [lFr_s hk, if_pos (bnot1 h245), if_pos (Int32.not_le.mp h255)]; done) | exact congrArg (fun z => some (Value.int z)) (nI_dec n)), (by first | with_reducible rfl | (rw [lFr_s hk, if_neg (bnotn h245)]; done) | (rw [lFr_s hk, if_pos (bnot1 h245), if_neg (Int32.not_lt.mpr h255)]; done) | (rw [lFr_s hk, if_pos (bnot1 h245), if_pos (Int32.not_le.mp h255)]; done) | exact congrArg (fun z => some (Value.int z)) (nI_dec n)), (by first | with_reducible rfl | (rw [lFr_s hk, if_neg (bnotn h245)]; done) | (rw [lFr_s hk, if_pos (bnot1 h245), if_neg (Int32.not_lt.mpr h255)]; done) | (rw [lFr_s hk, if_pos (bnot1 h245), if_pos (Int32.not_le.mp h255)]; done) | exact congrArg (fun z => some (Value.int z)) (nI_dec n)), (by first | with_reducible rfl | (rw [lFr_s hk, if_neg (bnotn h245)]; done) | (rw [lFr_s hk, if_pos (bnot1 h245), if_neg (Int32.not_lt.mpr h255)]; done) | (rw [lFr_s hk, if_pos (bnot1 h245), if_pos (Int32.not_le.mp h255)]; done) | exact congrArg (fun z => some (Value.int z)) (nI_dec n)), trivial⟩
          · refine G.aldn1 C dL_isSo_248 ?_
            refine G.aldn2 C dL_isSo_249 ?_
            refine G.ild10 C dL_isSo_250 ?_
            refine G.callSI3 C (TLI (k_L_owner l hl hv)) (va_cwS 3 C.1.2.2.2.2 gL_isSo_L_owner rfl rfl rfl (by decide +kernel) ⟨Nat.le_of_ble_eq_true rfl, Nat.le_of_ble_eq_true rfl⟩) (Nat.le_of_ble_eq_true rfl) dL_isSo_252 ?_
            refine G.if_ge C 263 dL_isSo_255 (by decide) (fun h255 => ?_) (fun h255 => ?_)
            · refine G.ild9 C dL_isSo_263 ?_
              refine G.ist9 C dL_isSo_265 (by omega) rfl ?_
              refine G.iinc10 C _ dL_isSo_267 (by omega) rfl rfl ?_
              refine G.goto C 170 dL_isSo_270 (by decide) ?_
              refine G.wide (cl' := 16) (sl' := 96) (by omega) (by omega) ?_
              exact G.back (ih (k9 + 1) (by omega) ) rfl ⟨(by first | with_reducible rfl | (rw [lFr_s hk, if_neg (bnotn h245)]; done) | (rw [lFr_s hk, if_pos (bnot1 h245), if_neg (Int32.not_lt.mpr h255)]; done) | (rw [lFr_s hk, if_pos (bnot1 h245), if_pos (Int32.not_le.mp h255)]; done) | exact congrArg (fun z => some (Value.int z)) (nI_dec n)), (by first | with_reducible rfl | (rw [lFr_s hk, if_neg (bnotn h245)]; done) | (rw [lFr_s hk, if_pos (bnot1 h245), if_neg (Int32.not_lt.mpr h255)]; done) | (rw [lFr_s hk, if_pos (bnot1 h245), if_pos (Int32.not_le.mp h255)]; done) | exact congrArg (fun z => some (Value.int z)) (nI_dec n)), (by first | with_reducible rfl | (rw [lFr_s hk, if_neg (bnotn h245)]; done) | (rw [lFr_s hk, if_pos (bnot1 h245), if_neg (Int32.not_lt.mpr h255)]; done) | (rw [lFr_s hk, if_pos (bnot1 h245), if_pos (Int32.not_le.mp h255)]; done) | exact congrArg (fun z => some (Value.int z)) (nI_dec n)), (by first | with_reducible rfl | (rw [lFr_s hk, if_neg (bnotn h245)]; done) | (rw [lFr_s hk, if_pos (bnot1 h245), if_neg (Int32.not_lt.mpr h255)]; done) | (rw [lFr_s hk, if_pos (bnot1 h245), if_pos (Int32.not_le.mp h255)]; done) | exact congrArg (fun z => some (Value.int z)) (nI_dec n)), (by first | with_reducible rfl | (rw [lFr_s hk, if_neg (bnotn h245)]; done) | (rw [lFr_s hk, if_pos (bnot1 h245), if_neg (Int32.not_lt.mpr h255)]; done) | (rw [lFr_s hk, if_pos (bnot1 h245), if_pos (Int32.not_le.mp h255)]; done) | exact congrArg (fun z => some (Value.int z)) (nI_dec n)), (by first | with_reducible rfl | (rw [lFr_s hk, if_neg (bnotn h245)]; done) | (rw [lFr_s hk, if_pos (bnot1 h245), if_neg (Int32.not_lt.mpr h255)]; done) | (rw [lFr_s hk, if_pos (bnot1 h245), if_pos (Int32.not_le.mp h255)]; done) | exact congrArg (fun z => some (Value.int z)) (nI_dec n)), (by first | with_reducible rfl | (rw [lFr_s hk, if_neg (bnotn h245)]; done) | (rw [lFr_s hk, if_pos (bnot1 h245), if_neg (Int32.not_lt.mpr h255)]; done) | (rw [lFr_s hk, if_pos (bnot1 h245), if_pos (Int32.not_le.mp h255)]; done) | exact congrArg (fun z => some (Value.int z)) (nI_dec n)), (by first | with_reducible rfl | (rw [lFr_s hk, if_neg (bnotn h245)]; done) | (rw [lFr_s hk, if_pos (bnot1 h245), if_neg (Int32.not_lt.mpr h255)]; done) | (rw [lFr_s hk, if_pos (bnot1 h245), if_pos (Int32.not_le.mp h255)]; done) | exact congrArg (fun z => some (Value.int z)) (nI_dec n)), (by first | with_reducible rfl | (rw [lFr_s hk, if_neg (bnotn h245)]; done) | (rw [lFr_s hk, if_pos (bnot1 h245), if_neg (Int32.not_lt.mpr h255)]; done) | (rw [lFr_s hk, if_pos (bnot1 h245), if_pos (Int32.not_le.mp h255)]; done) | exact congrArg (fun z => some (Value.int z)) (nI_dec n)), (by first | with_reducible rfl | (rw [lFr_s hk, if_neg (bnotn h245)]; done) | (rw [lFr_s hk, if_pos (bnot1 h245), if_neg (Int32.not_lt.mpr h255)]; done) | (rw [lFr_s hk, if_pos (bnot1 h245), if_pos (Int32.not_le.mp h255)]; done) | exact congrArg (fun z => some (Value.int z)) (nI_dec n)), (by first | with_reducible rfl | (rw [lFr_s hk, if_neg (bnotn h245)]; done) | (rw [lFr_s hk, if_pos (bnot1 h245), if_neg (Int32.not_lt.mpr h255)]; done) | (rw [lFr_s hk, if_pos (bnot1 h245), if_pos (Int32.not_le.mp h255)]; done) | exact congrArg (fun z => some (Value.int z)) (nI_dec n)), trivial⟩
            · refine G.ild10 C dL_isSo_258 ?_
              refine G.goto C 265 dL_isSo_260 (by decide) ?_
              refine G.ist9 C dL_isSo_265 (by omega) rfl ?_
              refine G.iinc10 C _ dL_isSo_267 (by omega) rfl rfl ?_
              refine G.goto C 170 dL_isSo_270 (by decide) ?_
              refine G.wide (cl' := 16) (sl' := 96) (by omega) (by omega) ?_
              exact G.back (ih (k9 + 1) (by omega) ) rfl ⟨(by first | with_reducible rfl | (rw [lFr_s hk, if_neg (bnotn h245)]; done) | (rw [lFr_s hk, if_pos (bnot1 h245), if_neg (Int32.not_lt.mpr h255)]; done) | (rw [lFr_s hk, if_pos (bnot1 h245), if_pos (Int32.not_le.mp h255)]; done) | exact congrArg (fun z => some (Value.int z)) (nI_dec n)), (by first | with_reducible rfl | (rw [lFr_s hk, if_neg (bnotn h245)]; done) | (rw [lFr_s hk, if_pos (bnot1 h245), if_neg (Int32.not_lt.mpr h255)]; done) | (rw [lFr_s hk, if_pos (bnot1 h245), if_pos (Int32.not_le.mp h255)]; done) | exact congrArg (fun z => some (Value.int z)) (nI_dec n)), (by first | with_reducible rfl | (rw [lFr_s hk, if_neg (bnotn h245)]; done) | (rw [lFr_s hk, if_pos (bnot1 h245), if_neg (Int32.not_lt.mpr h255)]; done) | (rw [lFr_s hk, if_pos (bnot1 h245), if_pos (Int32.not_le.mp h255)]; done) | exact congrArg (fun z => some (Value.int z)) (nI_dec n)), (by first | with_reducible rfl | (rw [lFr_s hk, if_neg (bnotn h245)]; done) | (rw [lFr_s hk, if_pos (bnot1 h245), if_neg (Int32.not_lt.mpr h255)]; done) | (rw [lFr_s hk, if_pos (bnot1 h245), if_pos (Int32.not_le.mp h255)]; done) | exact congrArg (fun z => some (Value.int z)) (nI_dec n)), (by first | with_reducible rfl | (rw [lFr_s hk, if_neg (bnotn h245)]; done) | (rw [lFr_s hk, if_pos (bnot1 h245), if_neg (Int32.not_lt.mpr h255)]; done) | (rw [lFr_s hk, if_pos (bnot1 h245), if_pos (Int32.not_le.mp h255)]; done) | exact congrArg (fun z => some (Value.int z)) (nI_dec n)), (by first | with_reducible rfl | (rw [lFr_s hk, if_neg (bnotn h245)]; done) | (rw [lFr_s hk, if_pos (bnot1 h245), if_neg (Int32.not_lt.mpr h255)]; done) | (rw [lFr_s hk, if_pos (bnot1 h245), if_pos (Int32.not_le.mp h255)]; done) | exact congrArg (fun z => some (Value.int z)) (nI_dec n)), (by first | with_reducible rfl | (rw [lFr_s hk, if_neg (bnotn h245)]; done) | (rw [lFr_s hk, if_pos (bnot1 h245), if_neg (Int32.not_lt.mpr h255)]; done) | (rw [lFr_s hk, if_pos (bnot1 h245), if_pos (Int32.not_le.mp h255)]; done) | exact congrArg (fun z => some (Value.int z)) (nI_dec n)), (by first | with_reducible rfl | (rw [lFr_s hk, if_neg (bnotn h245)]; done) | (rw [lFr_s hk, if_pos (bnot1 h245), if_neg (Int32.not_lt.mpr h255)]; done) | (rw [lFr_s hk, if_pos (bnot1 h245), if_pos (Int32.not_le.mp h255)]; done) | exact congrArg (fun z => some (Value.int z)) (nI_dec n)), (by first | with_reducible rfl | (rw [lFr_s hk, if_neg (bnotn h245)]; done) | (rw [lFr_s hk, if_pos (bnot1 h245), if_neg (Int32.not_lt.mpr h255)]; done) | (rw [lFr_s hk, if_pos (bnot1 h245), if_pos (Int32.not_le.mp h255)]; done) | exact congrArg (fun z => some (Value.int z)) (nI_dec n)), (by first | with_reducible rfl | (rw [lFr_s hk, if_neg (bnotn h245)]; done) | (rw [lFr_s hk, if_pos (bnot1 h245), if_neg (Int32.not_lt.mpr h255)]; done) | (rw [lFr_s hk, if_pos (bnot1 h245), if_pos (Int32.not_le.mp h255)]; done) | exact congrArg (fun z => some (Value.int z)) (nI_dec n)), (by first | with_reducible rfl | (rw [lFr_s hk, if_neg (bnotn h245)]; done) | (rw [lFr_s hk, if_pos (bnot1 h245), if_neg (Int32.not_lt.mpr h255)]; done) | (rw [lFr_s hk, if_pos (bnot1 h245), if_pos (Int32.not_le.mp h255)]; done) | exact congrArg (fun z => some (Value.int z)) (nI_dec n)), trivial⟩
      refine G.wide (cl' := 16) (sl' := 96) (by omega) (by omega) ?_
      exact G.back (L170 24 0 (Nat.zero_add _) ) rfl ⟨(by first | with_reducible rfl | rfl), (by first | with_reducible rfl | rfl), (by first | with_reducible rfl | rfl), (by first | with_reducible rfl | rfl), (by first | with_reducible rfl | rfl), (by first | with_reducible rfl | rfl), (by first | with_reducible rfl | rfl), (by first | with_reducible rfl | rfl), (by first | with_reducible rfl | rfl), (by first | with_reducible rfl | rfl), (by first | with_reducible rfl | rfl), trivial⟩
    | succ n ih =>
      intro k hk
      have C := C.wide (cl' := k) (sl' := 6 * k) (by show _ ≤ (16 : Nat); omega) (by show _ ≤ (96 : Nat); omega)
      have hk2 : k < 16 := by omega
      refine G.ild10 C dL_isSo_18 ?_
      refine G.bipush C 16 dL_isSo_20 (by decide) ?_
      refine G.icmp_ge C 166 dL_isSo_22 (by decide) (fun h => absurd h (nI_ge (b := 16) hk2 (by decide))) (fun _ => ?_)
      refine G.aldn1 C dL_isSo_25 ?_
      refine G.ild10 C dL_isSo_26 ?_
      refine G.callSI2 C (TLI (k_L_is l hl hv (by omega))) (va_cwS 2 C.1.2.2.2.2 gL_isSo_L_is rfl rfl rfl (by decide +kernel) ⟨Nat.le_of_ble_eq_true rfl, Nat.le_of_ble_eq_true rfl⟩) (Nat.le_of_ble_eq_true rfl) dL_isSo_28 ?_
      refine G.if_neB C 48 dL_isSo_31 (by decide) (fun h31 => ?_) (fun h31 => ?_)
      · refine G.iconst C 0 dL_isSo_48 (by decide) ?_
        refine G.ist11 C dL_isSo_49 (by omega) rfl ?_
        have L51 : ∀ (n y : Nat), y + n = 4 → G p l e ({ frames := 9, cells := 16, slots := 96, locals := 194 } : Room) s m args below meth cd 12 (k) (6 * k) (gA E) (gQP below args s E o P 16 96) E (gL σ c0 c1 c2 c9 v) π o 51 [some (.ref (E.2.1 9 0)), some (.ref (E.2.1 10 0)), some (.ref (E.2.1 10 1)), some (.ref (E.2.1 10 2)), some (.ref (E.2.1 10 3)), some (.int (nI (cnt (fun q => lIs v q) k))), some (.int (nI (cnt (fun q => lPrs v q) k))), some (.int (nI (cnt (fun q => lOwn v q) k))), some (.int 0), some (.int (-1)), some (.int (nI k)), some (.int (nI y))] [] := by
          intro n
          induction n with
          | zero =>
            intro y hk
            obtain rfl : 4 = y := by omega
            have C := C.wide (cl' := k) (sl' := 6 * k) (by show _ ≤ (16 : Nat); omega) (by show _ ≤ (96 : Nat); omega)
            refine G.ild11 C dL_isSo_51 ?_
            refine G.iconst C 4 dL_isSo_53 (by decide) ?_
            refine G.icmp_ge C 107 dL_isSo_54 (by decide) (fun _ => ?_) (fun h => absurd (nI_le (a := 4) (b := 4) (by omega) (by decide)) h)
            refine G.iincN5 C dL_isSo_107 (by omega) rfl ?_
            refine G.ild6 C dL_isSo_110 ?_
            refine G.aldn2 C dL_isSo_112 ?_
            refine G.iconst C 4 dL_isSo_113 (by decide) ?_
            refine G.ild10 C dL_isSo_114 ?_
            refine G.imul C dL_isSo_116 ?_
            refine G.topI (nI (4 * k)) (pk_mul _ _) ?_
            refine G.iconst C 3 dL_isSo_117 (by decide) ?_
            refine G.iadd C dL_isSo_118 ?_
            refine G.topI (nI ((4 * k) + 3)) (nI_add _ _) ?_
            refine G.ialdL C (n := 64) (j := 1) (d0 := ((4 * k) + 3)) (gN_l hl rfl) (hv _ (by omega)) (by first | assumption | exact vp_in_nI (by omega) (by omega) | (unfold vp_in; decide)) (ix_nI (by omega)) dL_isSo_119 ?_
            refine G.ild10 C dL_isSo_120 ?_
            refine G.icmp_le C 129 dL_isSo_122 (by decide) (fun h122 => ?_) (fun h122 => ?_)
            · refine G.iconst C 0 dL_isSo_129 (by decide) ?_
              refine G.iadd C dL_isSo_130 ?_
              refine G.topI (nI ((cnt (fun q => lPrs v q) k) + 0)) (nI_add _ _) ?_
              refine G.ist6 C dL_isSo_131 (by omega) rfl ?_
              refine G.ild7 C dL_isSo_133 ?_
              refine G.aldn2 C dL_isSo_135 ?_
              refine G.iconst C 4 dL_isSo_136 (by decide) ?_
              refine G.ild10 C dL_isSo_137 ?_
              refine G.imul C dL_isSo_139 ?_
              refine G.topI (nI (4 * k)) (pk_mul _ _) ?_
              refine G.ialdL C (n := 64) (j := 1) (d0 := (4 * k)) (gN_l hl rfl) (hv _ (by omega)) (by first | assumption | exact vp_in_nI (by omega) (by omega) | (unfold vp_in; decide)) (ix_nI (by omega)) dL_isSo_140 ?_
              refine G.aldn2 C dL_isSo_141 ?_
              refine G.iconst C 4 dL_isSo_142 (by decide) ?_
              refine G.ild10 C dL_isSo_143 ?_
              refine G.imul C dL_isSo_145 ?_
              refine G.topI (nI (4 * k)) (pk_mul _ _) ?_
              refine G.iconst C 2 dL_isSo_146 (by decide) ?_
              refine G.iadd C dL_isSo_147 ?_
              refine G.topI (nI ((4 * k) + 2)) (nI_add _ _) ?_
              refine G.ialdL C (n := 64) (j := 1) (d0 := ((4 * k) + 2)) (gN_l hl rfl) (hv _ (by omega)) (by first | assumption | exact vp_in_nI (by omega) (by omega) | (unfold vp_in; decide)) (ix_nI (by omega)) dL_isSo_148 ?_
              refine G.icmp_ne C 156 dL_isSo_149 (by decide) (fun h149 => ?_) (fun h149 => ?_)
              · refine G.iconst C 0 dL_isSo_156 (by decide) ?_
                refine G.iadd C dL_isSo_157 ?_
                refine G.topI (nI ((cnt (fun q => lOwn v q) k) + 0)) (nI_add _ _) ?_
                refine G.ist7 C dL_isSo_158 (by omega) rfl ?_
                refine G.iincN10 C dL_isSo_160 (by omega) rfl ?_
                refine G.goto C 18 dL_isSo_163 (by decide) ?_
                refine G.wide (cl' := (k + 1)) (sl' := 6 * (k + 1)) (by omega) (by omega) ?_
                exact G.back (ih (k + 1) (by omega) ) rfl ⟨(by first | with_reducible rfl | (exact congrArg (fun z => some (Value.int (nI z))) (cnt_t (P := fun q => lIs v q) h31)) | (exact congrArg (fun z => some (Value.int (nI z))) (cnt_f (P := fun q => lIs v q) h31)) | (exact congrArg (fun z => some (Value.int (nI z))) (cnt_t (P := fun q => lPrs v q) (prs_t h31 h122))) | (exact congrArg (fun z => some (Value.int (nI z))) (cnt_f (P := fun q => lPrs v q) (prs_f h122))) | (exact congrArg (fun z => some (Value.int (nI z))) (cnt_f (P := fun q => lPrs v q) (prs_0 h31))) | (exact congrArg (fun z => some (Value.int (nI z))) (cnt_t (P := fun q => lOwn v q) (own_t h31 h149))) | (exact congrArg (fun z => some (Value.int (nI z))) (cnt_f (P := fun q => lOwn v q) (own_f h149))) | (exact congrArg (fun z => some (Value.int (nI z))) (cnt_f (P := fun q => lOwn v q) (own_0 h31))) | (exact congrArg (fun z => some (Value.int z)) (nI_s1 _))), (by first | with_reducible rfl | (exact congrArg (fun z => some (Value.int (nI z))) (cnt_t (P := fun q => lIs v q) h31)) | (exact congrArg (fun z => some (Value.int (nI z))) (cnt_f (P := fun q => lIs v q) h31)) | (exact congrArg (fun z => some (Value.int (nI z))) (cnt_t (P := fun q => lPrs v q) (prs_t h31 h122))) | (exact congrArg (fun z => some (Value.int (nI z))) (cnt_f (P := fun q => lPrs v q) (prs_f h122))) | (exact congrArg (fun z => some (Value.int (nI z))) (cnt_f (P := fun q => lPrs v q) (prs_0 h31))) | (exact congrArg (fun z => some (Value.int (nI z))) (cnt_t (P := fun q => lOwn v q) (own_t h31 h149))) | (exact congrArg (fun z => some (Value.int (nI z))) (cnt_f (P := fun q => lOwn v q) (own_f h149))) | (exact congrArg (fun z => some (Value.int (nI z))) (cnt_f (P := fun q => lOwn v q) (own_0 h31))) | (exact congrArg (fun z => some (Value.int z)) (nI_s1 _))), (by first | with_reducible rfl | (exact congrArg (fun z => some (Value.int (nI z))) (cnt_t (P := fun q => lIs v q) h31)) | (exact congrArg (fun z => some (Value.int (nI z))) (cnt_f (P := fun q => lIs v q) h31)) | (exact congrArg (fun z => some (Value.int (nI z))) (cnt_t (P := fun q => lPrs v q) (prs_t h31 h122))) | (exact congrArg (fun z => some (Value.int (nI z))) (cnt_f (P := fun q => lPrs v q) (prs_f h122))) | (exact congrArg (fun z => some (Value.int (nI z))) (cnt_f (P := fun q => lPrs v q) (prs_0 h31))) | (exact congrArg (fun z => some (Value.int (nI z))) (cnt_t (P := fun q => lOwn v q) (own_t h31 h149))) | (exact congrArg (fun z => some (Value.int (nI z))) (cnt_f (P := fun q => lOwn v q) (own_f h149))) | (exact congrArg (fun z => some (Value.int (nI z))) (cnt_f (P := fun q => lOwn v q) (own_0 h31))) | (exact congrArg (fun z => some (Value.int z)) (nI_s1 _))), (by first | with_reducible rfl | (exact congrArg (fun z => some (Value.int (nI z))) (cnt_t (P := fun q => lIs v q) h31)) | (exact congrArg (fun z => some (Value.int (nI z))) (cnt_f (P := fun q => lIs v q) h31)) | (exact congrArg (fun z => some (Value.int (nI z))) (cnt_t (P := fun q => lPrs v q) (prs_t h31 h122))) | (exact congrArg (fun z => some (Value.int (nI z))) (cnt_f (P := fun q => lPrs v q) (prs_f h122))) | (exact congrArg (fun z => some (Value.int (nI z))) (cnt_f (P := fun q => lPrs v q) (prs_0 h31))) | (exact congrArg (fun z => some (Value.int (nI z))) (cnt_t (P := fun q => lOwn v q) (own_t h31 h149))) | (exact congrArg (fun z => some (Value.int (nI z))) (cnt_f (P := fun q => lOwn v q) (own_f h149))) | (exact congrArg (fun z => some (Value.int (nI z))) (cnt_f (P := fun q => lOwn v q) (own_0 h31))) | (exact congrArg (fun z => some (Value.int z)) (nI_s1 _))), (by first | with_reducible rfl | (exact congrArg (fun z => some (Value.int (nI z))) (cnt_t (P := fun q => lIs v q) h31)) | (exact congrArg (fun z => some (Value.int (nI z))) (cnt_f (P := fun q => lIs v q) h31)) | (exact congrArg (fun z => some (Value.int (nI z))) (cnt_t (P := fun q => lPrs v q) (prs_t h31 h122))) | (exact congrArg (fun z => some (Value.int (nI z))) (cnt_f (P := fun q => lPrs v q) (prs_f h122))) | (exact congrArg (fun z => some (Value.int (nI z))) (cnt_f (P := fun q => lPrs v q) (prs_0 h31))) | (exact congrArg (fun z => some (Value.int (nI z))) (cnt_t (P := fun q => lOwn v q) (own_t h31 h149))) | (exact congrArg (fun z => some (Value.int (nI z))) (cnt_f (P := fun q => lOwn v q) (own_f h149))) | (exact congrArg (fun z => some (Value.int (nI z))) (cnt_f (P := fun q => lOwn v q) (own_0 h31))) | (exact congrArg (fun z => some (Value.int z)) (nI_s1 _))), (by first | with_reducible rfl | (exact congrArg (fun z => some (Value.int (nI z))) (cnt_t (P := fun q => lIs v q) h31)) | (exact congrArg (fun z => some (Value.int (nI z))) (cnt_f (P := fun q => lIs v q) h31)) | (exact congrArg (fun z => some (Value.int (nI z))) (cnt_t (P := fun q => lPrs v q) (prs_t h31 h122))) | (exact congrArg (fun z => some (Value.int (nI z))) (cnt_f (P := fun q => lPrs v q) (prs_f h122))) | (exact congrArg (fun z => some (Value.int (nI z))) (cnt_f (P := fun q => lPrs v q) (prs_0 h31))) | (exact congrArg (fun z => some (Value.int (nI z))) (cnt_t (P := fun q => lOwn v q) (own_t h31 h149))) | (exact congrArg (fun z => some (Value.int (nI z))) (cnt_f (P := fun q => lOwn v q) (own_f h149))) | (exact congrArg (fun z => some (Value.int (nI z))) (cnt_f (P := fun q => lOwn v q) (own_0 h31))) | (exact congrArg (fun z => some (Value.int z)) (nI_s1 _))), (by first | with_reducible rfl | (exact congrArg (fun z => some (Value.int (nI z))) (cnt_t (P := fun q => lIs v q) h31)) | (exact congrArg (fun z => some (Value.int (nI z))) (cnt_f (P := fun q => lIs v q) h31)) | (exact congrArg (fun z => some (Value.int (nI z))) (cnt_t (P := fun q => lPrs v q) (prs_t h31 h122))) | (exact congrArg (fun z => some (Value.int (nI z))) (cnt_f (P := fun q => lPrs v q) (prs_f h122))) | (exact congrArg (fun z => some (Value.int (nI z))) (cnt_f (P := fun q => lPrs v q) (prs_0 h31))) | (exact congrArg (fun z => some (Value.int (nI z))) (cnt_t (P := fun q => lOwn v q) (own_t h31 h149))) | (exact congrArg (fun z => some (Value.int (nI z))) (cnt_f (P := fun q => lOwn v q) (own_f h149))) | (exact congrArg (fun z => some (Value.int (nI z))) (cnt_f (P := fun q => lOwn v q) (own_0 h31))) | (exact congrArg (fun z => some (Value.int z)) (nI_s1 _))), (by first | with_reducible rfl | (exact congrArg (fun z => some (Value.int (nI z))) (cnt_t (P := fun q => lIs v q) h31)) | (exact congrArg (fun z => some (Value.int (nI z))) (cnt_f (P := fun q => lIs v q) h31)) | (exact congrArg (fun z => some (Value.int (nI z))) (cnt_t (P := fun q => lPrs v q) (prs_t h31 h122))) | (exact congrArg (fun z => some (Value.int (nI z))) (cnt_f (P := fun q => lPrs v q) (prs_f h122))) | (exact congrArg (fun z => some (Value.int (nI z))) (cnt_f (P := fun q => lPrs v q) (prs_0 h31))) | (exact congrArg (fun z => some (Value.int (nI z))) (cnt_t (P := fun q => lOwn v q) (own_t h31 h149))) | (exact congrArg (fun z => some (Value.int (nI z))) (cnt_f (P := fun q => lOwn v q) (own_f h149))) | (exact congrArg (fun z => some (Value.int (nI z))) (cnt_f (P := fun q => lOwn v q) (own_0 h31))) | (exact congrArg (fun z => some (Value.int z)) (nI_s1 _))), (by first | with_reducible rfl | (exact congrArg (fun z => some (Value.int (nI z))) (cnt_t (P := fun q => lIs v q) h31)) | (exact congrArg (fun z => some (Value.int (nI z))) (cnt_f (P := fun q => lIs v q) h31)) | (exact congrArg (fun z => some (Value.int (nI z))) (cnt_t (P := fun q => lPrs v q) (prs_t h31 h122))) | (exact congrArg (fun z => some (Value.int (nI z))) (cnt_f (P := fun q => lPrs v q) (prs_f h122))) | (exact congrArg (fun z => some (Value.int (nI z))) (cnt_f (P := fun q => lPrs v q) (prs_0 h31))) | (exact congrArg (fun z => some (Value.int (nI z))) (cnt_t (P := fun q => lOwn v q) (own_t h31 h149))) | (exact congrArg (fun z => some (Value.int (nI z))) (cnt_f (P := fun q => lOwn v q) (own_f h149))) | (exact congrArg (fun z => some (Value.int (nI z))) (cnt_f (P := fun q => lOwn v q) (own_0 h31))) | (exact congrArg (fun z => some (Value.int z)) (nI_s1 _))), (by first | with_reducible rfl | (exact congrArg (fun z => some (Value.int (nI z))) (cnt_t (P := fun q => lIs v q) h31)) | (exact congrArg (fun z => some (Value.int (nI z))) (cnt_f (P := fun q => lIs v q) h31)) | (exact congrArg (fun z => some (Value.int (nI z))) (cnt_t (P := fun q => lPrs v q) (prs_t h31 h122))) | (exact congrArg (fun z => some (Value.int (nI z))) (cnt_f (P := fun q => lPrs v q) (prs_f h122))) | (exact congrArg (fun z => some (Value.int (nI z))) (cnt_f (P := fun q => lPrs v q) (prs_0 h31))) | (exact congrArg (fun z => some (Value.int (nI z))) (cnt_t (P := fun q => lOwn v q) (own_t h31 h149))) | (exact congrArg (fun z => some (Value.int (nI z))) (cnt_f (P := fun q => lOwn v q) (own_f h149))) | (exact congrArg (fun z => some (Value.int (nI z))) (cnt_f (P := fun q => lOwn v q) (own_0 h31))) | (exact congrArg (fun z => some (Value.int z)) (nI_s1 _))), (by first | with_reducible rfl | (exact congrArg (fun z => some (Value.int (nI z))) (cnt_t (P := fun q => lIs v q) h31)) | (exact congrArg (fun z => some (Value.int (nI z))) (cnt_f (P := fun q => lIs v q) h31)) | (exact congrArg (fun z => some (Value.int (nI z))) (cnt_t (P := fun q => lPrs v q) (prs_t h31 h122))) | (exact congrArg (fun z => some (Value.int (nI z))) (cnt_f (P := fun q => lPrs v q) (prs_f h122))) | (exact congrArg (fun z => some (Value.int (nI z))) (cnt_f (P := fun q => lPrs v q) (prs_0 h31))) | (exact congrArg (fun z => some (Value.int (nI z))) (cnt_t (P := fun q => lOwn v q) (own_t h31 h149))) | (exact congrArg (fun z => some (Value.int (nI z))) (cnt_f (P := fun q => lOwn v q) (own_f h149))) | (exact congrArg (fun z => some (Value.int (nI z))) (cnt_f (P := fun q => lOwn v q) (own_0 h31))) | (exact congrArg (fun z => some (Value.int z)) (nI_s1 _))), trivial⟩
              · refine G.iconst C 1 dL_isSo_152 (by decide) ?_
                refine G.goto C 157 dL_isSo_153 (by decide) ?_
                refine G.iadd C dL_isSo_157 ?_
                refine G.topI (nI ((cnt (fun q => lOwn v q) k) + 1)) (nI_add _ _) ?_
                refine G.ist7 C dL_isSo_158 (by omega) rfl ?_
                refine G.iincN10 C dL_isSo_160 (by omega) rfl ?_
                refine G.goto C 18 dL_isSo_163 (by decide) ?_
                refine G.wide (cl' := (k + 1)) (sl' := 6 * (k + 1)) (by omega) (by omega) ?_
                exact G.back (ih (k + 1) (by omega) ) rfl ⟨(by first | with_reducible rfl | (exact congrArg (fun z => some (Value.int (nI z))) (cnt_t (P := fun q => lIs v q) h31)) | (exact congrArg (fun z => some (Value.int (nI z))) (cnt_f (P := fun q => lIs v q) h31)) | (exact congrArg (fun z => some (Value.int (nI z))) (cnt_t (P := fun q => lPrs v q) (prs_t h31 h122))) | (exact congrArg (fun z => some (Value.int (nI z))) (cnt_f (P := fun q => lPrs v q) (prs_f h122))) | (exact congrArg (fun z => some (Value.int (nI z))) (cnt_f (P := fun q => lPrs v q) (prs_0 h31))) | (exact congrArg (fun z => some (Value.int (nI z))) (cnt_t (P := fun q => lOwn v q) (own_t h31 h149))) | (exact congrArg (fun z => some (Value.int (nI z))) (cnt_f (P := fun q => lOwn v q) (own_f h149))) | (exact congrArg (fun z => some (Value.int (nI z))) (cnt_f (P := fun q => lOwn v q) (own_0 h31))) | (exact congrArg (fun z => some (Value.int z)) (nI_s1 _))), (by first | with_reducible rfl | (exact congrArg (fun z => some (Value.int (nI z))) (cnt_t (P := fun q => lIs v q) h31)) | (exact congrArg (fun z => some (Value.int (nI z))) (cnt_f (P := fun q => lIs v q) h31)) | (exact congrArg (fun z => some (Value.int (nI z))) (cnt_t (P := fun q => lPrs v q) (prs_t h31 h122))) | (exact congrArg (fun z => some (Value.int (nI z))) (cnt_f (P := fun q => lPrs v q) (prs_f h122))) | (exact congrArg (fun z => some (Value.int (nI z))) (cnt_f (P := fun q => lPrs v q) (prs_0 h31))) | (exact congrArg (fun z => some (Value.int (nI z))) (cnt_t (P := fun q => lOwn v q) (own_t h31 h149))) | (exact congrArg (fun z => some (Value.int (nI z))) (cnt_f (P := fun q => lOwn v q) (own_f h149))) | (exact congrArg (fun z => some (Value.int (nI z))) (cnt_f (P := fun q => lOwn v q) (own_0 h31))) | (exact congrArg (fun z => some (Value.int z)) (nI_s1 _))), (by first | with_reducible rfl | (exact congrArg (fun z => some (Value.int (nI z))) (cnt_t (P := fun q => lIs v q) h31)) | (exact congrArg (fun z => some (Value.int (nI z))) (cnt_f (P := fun q => lIs v q) h31)) | (exact congrArg (fun z => some (Value.int (nI z))) (cnt_t (P := fun q => lPrs v q) (prs_t h31 h122))) | (exact congrArg (fun z => some (Value.int (nI z))) (cnt_f (P := fun q => lPrs v q) (prs_f h122))) | (exact congrArg (fun z => some (Value.int (nI z))) (cnt_f (P := fun q => lPrs v q) (prs_0 h31))) | (exact congrArg (fun z => some (Value.int (nI z))) (cnt_t (P := fun q => lOwn v q) (own_t h31 h149))) | (exact congrArg (fun z => some (Value.int (nI z))) (cnt_f (P := fun q => lOwn v q) (own_f h149))) | (exact congrArg (fun z => some (Value.int (nI z))) (cnt_f (P := fun q => lOwn v q) (own_0 h31))) | (exact congrArg (fun z => some (Value.int z)) (nI_s1 _))), (by first | with_reducible rfl | (exact congrArg (fun z => some (Value.int (nI z))) (cnt_t (P := fun q => lIs v q) h31)) | (exact congrArg (fun z => some (Value.int (nI z))) (cnt_f (P := fun q => lIs v q) h31)) | (exact congrArg (fun z => some (Value.int (nI z))) (cnt_t (P := fun q => lPrs v q) (prs_t h31 h122))) | (exact congrArg (fun z => some (Value.int (nI z))) (cnt_f (P := fun q => lPrs v q) (prs_f h122))) | (exact congrArg (fun z => some (Value.int (nI z))) (cnt_f (P := fun q => lPrs v q) (prs_0 h31))) | (exact congrArg (fun z => some (Value.int (nI z))) (cnt_t (P := fun q => lOwn v q) (own_t h31 h149))) | (exact congrArg (fun z => some (Value.int (nI z))) (cnt_f (P := fun q => lOwn v q) (own_f h149))) | (exact congrArg (fun z => some (Value.int (nI z))) (cnt_f (P := fun q => lOwn v q) (own_0 h31))) | (exact congrArg (fun z => some (Value.int z)) (nI_s1 _))), (by first | with_reducible rfl | (exact congrArg (fun z => some (Value.int (nI z))) (cnt_t (P := fun q => lIs v q) h31)) | (exact congrArg (fun z => some (Value.int (nI z))) (cnt_f (P := fun q => lIs v q) h31)) | (exact congrArg (fun z => some (Value.int (nI z))) (cnt_t (P := fun q => lPrs v q) (prs_t h31 h122))) | (exact congrArg (fun z => some (Value.int (nI z))) (cnt_f (P := fun q => lPrs v q) (prs_f h122))) | (exact congrArg (fun z => some (Value.int (nI z))) (cnt_f (P := fun q => lPrs v q) (prs_0 h31))) | (exact congrArg (fun z => some (Value.int (nI z))) (cnt_t (P := fun q => lOwn v q) (own_t h31 h149))) | (exact congrArg (fun z => some (Value.int (nI z))) (cnt_f (P := fun q => lOwn v q) (own_f h149))) | (exact congrArg (fun z => some (Value.int (nI z))) (cnt_f (P := fun q => lOwn v q) (own_0 h31))) | (exact congrArg (fun z => some (Value.int z)) (nI_s1 _))), (by first | with_reducible rfl | (exact congrArg (fun z => some (Value.int (nI z))) (cnt_t (P := fun q => lIs v q) h31)) | (exact congrArg (fun z => some (Value.int (nI z))) (cnt_f (P := fun q => lIs v q) h31)) | (exact congrArg (fun z => some (Value.int (nI z))) (cnt_t (P := fun q => lPrs v q) (prs_t h31 h122))) | (exact congrArg (fun z => some (Value.int (nI z))) (cnt_f (P := fun q => lPrs v q) (prs_f h122))) | (exact congrArg (fun z => some (Value.int (nI z))) (cnt_f (P := fun q => lPrs v q) (prs_0 h31))) | (exact congrArg (fun z => some (Value.int (nI z))) (cnt_t (P := fun q => lOwn v q) (own_t h31 h149))) | (exact congrArg (fun z => some (Value.int (nI z))) (cnt_f (P := fun q => lOwn v q) (own_f h149))) | (exact congrArg (fun z => some (Value.int (nI z))) (cnt_f (P := fun q => lOwn v q) (own_0 h31))) | (exact congrArg (fun z => some (Value.int z)) (nI_s1 _))), (by first | with_reducible rfl | (exact congrArg (fun z => some (Value.int (nI z))) (cnt_t (P := fun q => lIs v q) h31)) | (exact congrArg (fun z => some (Value.int (nI z))) (cnt_f (P := fun q => lIs v q) h31)) | (exact congrArg (fun z => some (Value.int (nI z))) (cnt_t (P := fun q => lPrs v q) (prs_t h31 h122))) | (exact congrArg (fun z => some (Value.int (nI z))) (cnt_f (P := fun q => lPrs v q) (prs_f h122))) | (exact congrArg (fun z => some (Value.int (nI z))) (cnt_f (P := fun q => lPrs v q) (prs_0 h31))) | (exact congrArg (fun z => some (Value.int (nI z))) (cnt_t (P := fun q => lOwn v q) (own_t h31 h149))) | (exact congrArg (fun z => some (Value.int (nI z))) (cnt_f (P := fun q => lOwn v q) (own_f h149))) | (exact congrArg (fun z => some (Value.int (nI z))) (cnt_f (P := fun q => lOwn v q) (own_0 h31))) | (exact congrArg (fun z => some (Value.int z)) (nI_s1 _))), (by first | with_reducible rfl | (exact congrArg (fun z => some (Value.int (nI z))) (cnt_t (P := fun q => lIs v q) h31)) | (exact congrArg (fun z => some (Value.int (nI z))) (cnt_f (P := fun q => lIs v q) h31)) | (exact congrArg (fun z => some (Value.int (nI z))) (cnt_t (P := fun q => lPrs v q) (prs_t h31 h122))) | (exact congrArg (fun z => some (Value.int (nI z))) (cnt_f (P := fun q => lPrs v q) (prs_f h122))) | (exact congrArg (fun z => some (Value.int (nI z))) (cnt_f (P := fun q => lPrs v q) (prs_0 h31))) | (exact congrArg (fun z => some (Value.int (nI z))) (cnt_t (P := fun q => lOwn v q) (own_t h31 h149))) | (exact congrArg (fun z => some (Value.int (nI z))) (cnt_f (P := fun q => lOwn v q) (own_f h149))) | (exact congrArg (fun z => some (Value.int (nI z))) (cnt_f (P := fun q => lOwn v q) (own_0 h31))) | (exact congrArg (fun z => some (Value.int z)) (nI_s1 _))), (by first | with_reducible rfl | (exact congrArg (fun z => some (Value.int (nI z))) (cnt_t (P := fun q => lIs v q) h31)) | (exact congrArg (fun z => some (Value.int (nI z))) (cnt_f (P := fun q => lIs v q) h31)) | (exact congrArg (fun z => some (Value.int (nI z))) (cnt_t (P := fun q => lPrs v q) (prs_t h31 h122))) | (exact congrArg (fun z => some (Value.int (nI z))) (cnt_f (P := fun q => lPrs v q) (prs_f h122))) | (exact congrArg (fun z => some (Value.int (nI z))) (cnt_f (P := fun q => lPrs v q) (prs_0 h31))) | (exact congrArg (fun z => some (Value.int (nI z))) (cnt_t (P := fun q => lOwn v q) (own_t h31 h149))) | (exact congrArg (fun z => some (Value.int (nI z))) (cnt_f (P := fun q => lOwn v q) (own_f h149))) | (exact congrArg (fun z => some (Value.int (nI z))) (cnt_f (P := fun q => lOwn v q) (own_0 h31))) | (exact congrArg (fun z => some (Value.int z)) (nI_s1 _))), (by first | with_reducible rfl | (exact congrArg (fun z => some (Value.int (nI z))) (cnt_t (P := fun q => lIs v q) h31)) | (exact congrArg (fun z => some (Value.int (nI z))) (cnt_f (P := fun q => lIs v q) h31)) | (exact congrArg (fun z => some (Value.int (nI z))) (cnt_t (P := fun q => lPrs v q) (prs_t h31 h122))) | (exact congrArg (fun z => some (Value.int (nI z))) (cnt_f (P := fun q => lPrs v q) (prs_f h122))) | (exact congrArg (fun z => some (Value.int (nI z))) (cnt_f (P := fun q => lPrs v q) (prs_0 h31))) | (exact congrArg (fun z => some (Value.int (nI z))) (cnt_t (P := fun q => lOwn v q) (own_t h31 h149))) | (exact congrArg (fun z => some (Value.int (nI z))) (cnt_f (P := fun q => lOwn v q) (own_f h149))) | (exact congrArg (fun z => some (Value.int (nI z))) (cnt_f (P := fun q => lOwn v q) (own_0 h31))) | (exact congrArg (fun z => some (Value.int z)) (nI_s1 _))), (by first | with_reducible rfl | (exact congrArg (fun z => some (Value.int (nI z))) (cnt_t (P := fun q => lIs v q) h31)) | (exact congrArg (fun z => some (Value.int (nI z))) (cnt_f (P := fun q => lIs v q) h31)) | (exact congrArg (fun z => some (Value.int (nI z))) (cnt_t (P := fun q => lPrs v q) (prs_t h31 h122))) | (exact congrArg (fun z => some (Value.int (nI z))) (cnt_f (P := fun q => lPrs v q) (prs_f h122))) | (exact congrArg (fun z => some (Value.int (nI z))) (cnt_f (P := fun q => lPrs v q) (prs_0 h31))) | (exact congrArg (fun z => some (Value.int (nI z))) (cnt_t (P := fun q => lOwn v q) (own_t h31 h149))) | (exact congrArg (fun z => some (Value.int (nI z))) (cnt_f (P := fun q => lOwn v q) (own_f h149))) | (exact congrArg (fun z => some (Value.int (nI z))) (cnt_f (P := fun q => lOwn v q) (own_0 h31))) | (exact congrArg (fun z => some (Value.int z)) (nI_s1 _))), trivial⟩
            · refine G.iconst C 1 dL_isSo_125 (by decide) ?_
              refine G.goto C 130 dL_isSo_126 (by decide) ?_
              refine G.iadd C dL_isSo_130 ?_
              refine G.topI (nI ((cnt (fun q => lPrs v q) k) + 1)) (nI_add _ _) ?_
              refine G.ist6 C dL_isSo_131 (by omega) rfl ?_
              refine G.ild7 C dL_isSo_133 ?_
              refine G.aldn2 C dL_isSo_135 ?_
              refine G.iconst C 4 dL_isSo_136 (by decide) ?_
              refine G.ild10 C dL_isSo_137 ?_
              refine G.imul C dL_isSo_139 ?_
              refine G.topI (nI (4 * k)) (pk_mul _ _) ?_
              refine G.ialdL C (n := 64) (j := 1) (d0 := (4 * k)) (gN_l hl rfl) (hv _ (by omega)) (by first | assumption | exact vp_in_nI (by omega) (by omega) | (unfold vp_in; decide)) (ix_nI (by omega)) dL_isSo_140 ?_
              refine G.aldn2 C dL_isSo_141 ?_
              refine G.iconst C 4 dL_isSo_142 (by decide) ?_
              refine G.ild10 C dL_isSo_143 ?_
              refine G.imul C dL_isSo_145 ?_
              refine G.topI (nI (4 * k)) (pk_mul _ _) ?_
              refine G.iconst C 2 dL_isSo_146 (by decide) ?_
              refine G.iadd C dL_isSo_147 ?_
              refine G.topI (nI ((4 * k) + 2)) (nI_add _ _) ?_
              refine G.ialdL C (n := 64) (j := 1) (d0 := ((4 * k) + 2)) (gN_l hl rfl) (hv _ (by omega)) (by first | assumption | exact vp_in_nI (by omega) (by omega) | (unfold vp_in; decide)) (ix_nI (by omega)) dL_isSo_148 ?_
              refine G.icmp_ne C 156 dL_isSo_149 (by decide) (fun h149 => ?_) (fun h149 => ?_)
              · refine G.iconst C 0 dL_isSo_156 (by decide) ?_
                refine G.iadd C dL_isSo_157 ?_
                refine G.topI (nI ((cnt (fun q => lOwn v q) k) + 0)) (nI_add _ _) ?_
                refine G.ist7 C dL_isSo_158 (by omega) rfl ?_
                refine G.iincN10 C dL_isSo_160 (by omega) rfl ?_
                refine G.goto C 18 dL_isSo_163 (by decide) ?_
                refine G.wide (cl' := (k + 1)) (sl' := 6 * (k + 1)) (by omega) (by omega) ?_
                exact G.back (ih (k + 1) (by omega) ) rfl ⟨(by first | with_reducible rfl | (exact congrArg (fun z => some (Value.int (nI z))) (cnt_t (P := fun q => lIs v q) h31)) | (exact congrArg (fun z => some (Value.int (nI z))) (cnt_f (P := fun q => lIs v q) h31)) | (exact congrArg (fun z => some (Value.int (nI z))) (cnt_t (P := fun q => lPrs v q) (prs_t h31 h122))) | (exact congrArg (fun z => some (Value.int (nI z))) (cnt_f (P := fun q => lPrs v q) (prs_f h122))) | (exact congrArg (fun z => some (Value.int (nI z))) (cnt_f (P := fun q => lPrs v q) (prs_0 h31))) | (exact congrArg (fun z => some (Value.int (nI z))) (cnt_t (P := fun q => lOwn v q) (own_t h31 h149))) | (exact congrArg (fun z => some (Value.int (nI z))) (cnt_f (P := fun q => lOwn v q) (own_f h149))) | (exact congrArg (fun z => some (Value.int (nI z))) (cnt_f (P := fun q => lOwn v q) (own_0 h31))) | (exact congrArg (fun z => some (Value.int z)) (nI_s1 _))), (by first | with_reducible rfl | (exact congrArg (fun z => some (Value.int (nI z))) (cnt_t (P := fun q => lIs v q) h31)) | (exact congrArg (fun z => some (Value.int (nI z))) (cnt_f (P := fun q => lIs v q) h31)) | (exact congrArg (fun z => some (Value.int (nI z))) (cnt_t (P := fun q => lPrs v q) (prs_t h31 h122))) | (exact congrArg (fun z => some (Value.int (nI z))) (cnt_f (P := fun q => lPrs v q) (prs_f h122))) | (exact congrArg (fun z => some (Value.int (nI z))) (cnt_f (P := fun q => lPrs v q) (prs_0 h31))) | (exact congrArg (fun z => some (Value.int (nI z))) (cnt_t (P := fun q => lOwn v q) (own_t h31 h149))) | (exact congrArg (fun z => some (Value.int (nI z))) (cnt_f (P := fun q => lOwn v q) (own_f h149))) | (exact congrArg (fun z => some (Value.int (nI z))) (cnt_f (P := fun q => lOwn v q) (own_0 h31))) | (exact congrArg (fun z => some (Value.int z)) (nI_s1 _))), (by first | with_reducible rfl | (exact congrArg (fun z => some (Value.int (nI z))) (cnt_t (P := fun q => lIs v q) h31)) | (exact congrArg (fun z => some (Value.int (nI z))) (cnt_f (P := fun q => lIs v q) h31)) | (exact congrArg (fun z => some (Value.int (nI z))) (cnt_t (P := fun q => lPrs v q) (prs_t h31 h122))) | (exact congrArg (fun z => some (Value.int (nI z))) (cnt_f (P := fun q => lPrs v q) (prs_f h122))) | (exact congrArg (fun z => some (Value.int (nI z))) (cnt_f (P := fun q => lPrs v q) (prs_0 h31))) | (exact congrArg (fun z => some (Value.int (nI z))) (cnt_t (P := fun q => lOwn v q) (own_t h31 h149))) | (exact congrArg (fun z => some (Value.int (nI z))) (cnt_f (P := fun q => lOwn v q) (own_f h149))) | (exact congrArg (fun z => some (Value.int (nI z))) (cnt_f (P := fun q => lOwn v q) (own_0 h31))) | (exact congrArg (fun z => some (Value.int z)) (nI_s1 _))), (by first | with_reducible rfl | (exact congrArg (fun z => some (Value.int (nI z))) (cnt_t (P := fun q => lIs v q) h31)) | (exact congrArg (fun z => some (Value.int (nI z))) (cnt_f (P := fun q => lIs v q) h31)) | (exact congrArg (fun z => some (Value.int (nI z))) (cnt_t (P := fun q => lPrs v q) (prs_t h31 h122))) | (exact congrArg (fun z => some (Value.int (nI z))) (cnt_f (P := fun q => lPrs v q) (prs_f h122))) | (exact congrArg (fun z => some (Value.int (nI z))) (cnt_f (P := fun q => lPrs v q) (prs_0 h31))) | (exact congrArg (fun z => some (Value.int (nI z))) (cnt_t (P := fun q => lOwn v q) (own_t h31 h149))) | (exact congrArg (fun z => some (Value.int (nI z))) (cnt_f (P := fun q => lOwn v q) (own_f h149))) | (exact congrArg (fun z => some (Value.int (nI z))) (cnt_f (P := fun q => lOwn v q) (own_0 h31))) | (exact congrArg (fun z => some (Value.int z)) (nI_s1 _))), (by first | with_reducible rfl | (exact congrArg (fun z => some (Value.int (nI z))) (cnt_t (P := fun q => lIs v q) h31)) | (exact congrArg (fun z => some (Value.int (nI z))) (cnt_f (P := fun q => lIs v q) h31)) | (exact congrArg (fun z => some (Value.int (nI z))) (cnt_t (P := fun q => lPrs v q) (prs_t h31 h122))) | (exact congrArg (fun z => some (Value.int (nI z))) (cnt_f (P := fun q => lPrs v q) (prs_f h122))) | (exact congrArg (fun z => some (Value.int (nI z))) (cnt_f (P := fun q => lPrs v q) (prs_0 h31))) | (exact congrArg (fun z => some (Value.int (nI z))) (cnt_t (P := fun q => lOwn v q) (own_t h31 h149))) | (exact congrArg (fun z => some (Value.int (nI z))) (cnt_f (P := fun q => lOwn v q) (own_f h149))) | (exact congrArg (fun z => some (Value.int (nI z))) (cnt_f (P := fun q => lOwn v q) (own_0 h31))) | (exact congrArg (fun z => some (Value.int z)) (nI_s1 _))), (by first | with_reducible rfl | (exact congrArg (fun z => some (Value.int (nI z))) (cnt_t (P := fun q => lIs v q) h31)) | (exact congrArg (fun z => some (Value.int (nI z))) (cnt_f (P := fun q => lIs v q) h31)) | (exact congrArg (fun z => some (Value.int (nI z))) (cnt_t (P := fun q => lPrs v q) (prs_t h31 h122))) | (exact congrArg (fun z => some (Value.int (nI z))) (cnt_f (P := fun q => lPrs v q) (prs_f h122))) | (exact congrArg (fun z => some (Value.int (nI z))) (cnt_f (P := fun q => lPrs v q) (prs_0 h31))) | (exact congrArg (fun z => some (Value.int (nI z))) (cnt_t (P := fun q => lOwn v q) (own_t h31 h149))) | (exact congrArg (fun z => some (Value.int (nI z))) (cnt_f (P := fun q => lOwn v q) (own_f h149))) | (exact congrArg (fun z => some (Value.int (nI z))) (cnt_f (P := fun q => lOwn v q) (own_0 h31))) | (exact congrArg (fun z => some (Value.int z)) (nI_s1 _))), (by first | with_reducible rfl | (exact congrArg (fun z => some (Value.int (nI z))) (cnt_t (P := fun q => lIs v q) h31)) | (exact congrArg (fun z => some (Value.int (nI z))) (cnt_f (P := fun q => lIs v q) h31)) | (exact congrArg (fun z => some (Value.int (nI z))) (cnt_t (P := fun q => lPrs v q) (prs_t h31 h122))) | (exact congrArg (fun z => some (Value.int (nI z))) (cnt_f (P := fun q => lPrs v q) (prs_f h122))) | (exact congrArg (fun z => some (Value.int (nI z))) (cnt_f (P := fun q => lPrs v q) (prs_0 h31))) | (exact congrArg (fun z => some (Value.int (nI z))) (cnt_t (P := fun q => lOwn v q) (own_t h31 h149))) | (exact congrArg (fun z => some (Value.int (nI z))) (cnt_f (P := fun q => lOwn v q) (own_f h149))) | (exact congrArg (fun z => some (Value.int (nI z))) (cnt_f (P := fun q => lOwn v q) (own_0 h31))) | (exact congrArg (fun z => some (Value.int z)) (nI_s1 _))), (by first | with_reducible rfl | (exact congrArg (fun z => some (Value.int (nI z))) (cnt_t (P := fun q => lIs v q) h31)) | (exact congrArg (fun z => some (Value.int (nI z))) (cnt_f (P := fun q => lIs v q) h31)) | (exact congrArg (fun z => some (Value.int (nI z))) (cnt_t (P := fun q => lPrs v q) (prs_t h31 h122))) | (exact congrArg (fun z => some (Value.int (nI z))) (cnt_f (P := fun q => lPrs v q) (prs_f h122))) | (exact congrArg (fun z => some (Value.int (nI z))) (cnt_f (P := fun q => lPrs v q) (prs_0 h31))) | (exact congrArg (fun z => some (Value.int (nI z))) (cnt_t (P := fun q => lOwn v q) (own_t h31 h149))) | (exact congrArg (fun z => some (Value.int (nI z))) (cnt_f (P := fun q => lOwn v q) (own_f h149))) | (exact congrArg (fun z => some (Value.int (nI z))) (cnt_f (P := fun q => lOwn v q) (own_0 h31))) | (exact congrArg (fun z => some (Value.int z)) (nI_s1 _))), (by first | with_reducible rfl | (exact congrArg (fun z => some (Value.int (nI z))) (cnt_t (P := fun q => lIs v q) h31)) | (exact congrArg (fun z => some (Value.int (nI z))) (cnt_f (P := fun q => lIs v q) h31)) | (exact congrArg (fun z => some (Value.int (nI z))) (cnt_t (P := fun q => lPrs v q) (prs_t h31 h122))) | (exact congrArg (fun z => some (Value.int (nI z))) (cnt_f (P := fun q => lPrs v q) (prs_f h122))) | (exact congrArg (fun z => some (Value.int (nI z))) (cnt_f (P := fun q => lPrs v q) (prs_0 h31))) | (exact congrArg (fun z => some (Value.int (nI z))) (cnt_t (P := fun q => lOwn v q) (own_t h31 h149))) | (exact congrArg (fun z => some (Value.int (nI z))) (cnt_f (P := fun q => lOwn v q) (own_f h149))) | (exact congrArg (fun z => some (Value.int (nI z))) (cnt_f (P := fun q => lOwn v q) (own_0 h31))) | (exact congrArg (fun z => some (Value.int z)) (nI_s1 _))), (by first | with_reducible rfl | (exact congrArg (fun z => some (Value.int (nI z))) (cnt_t (P := fun q => lIs v q) h31)) | (exact congrArg (fun z => some (Value.int (nI z))) (cnt_f (P := fun q => lIs v q) h31)) | (exact congrArg (fun z => some (Value.int (nI z))) (cnt_t (P := fun q => lPrs v q) (prs_t h31 h122))) | (exact congrArg (fun z => some (Value.int (nI z))) (cnt_f (P := fun q => lPrs v q) (prs_f h122))) | (exact congrArg (fun z => some (Value.int (nI z))) (cnt_f (P := fun q => lPrs v q) (prs_0 h31))) | (exact congrArg (fun z => some (Value.int (nI z))) (cnt_t (P := fun q => lOwn v q) (own_t h31 h149))) | (exact congrArg (fun z => some (Value.int (nI z))) (cnt_f (P := fun q => lOwn v q) (own_f h149))) | (exact congrArg (fun z => some (Value.int (nI z))) (cnt_f (P := fun q => lOwn v q) (own_0 h31))) | (exact congrArg (fun z => some (Value.int z)) (nI_s1 _))), (by first | with_reducible rfl | (exact congrArg (fun z => some (Value.int (nI z))) (cnt_t (P := fun q => lIs v q) h31)) | (exact congrArg (fun z => some (Value.int (nI z))) (cnt_f (P := fun q => lIs v q) h31)) | (exact congrArg (fun z => some (Value.int (nI z))) (cnt_t (P := fun q => lPrs v q) (prs_t h31 h122))) | (exact congrArg (fun z => some (Value.int (nI z))) (cnt_f (P := fun q => lPrs v q) (prs_f h122))) | (exact congrArg (fun z => some (Value.int (nI z))) (cnt_f (P := fun q => lPrs v q) (prs_0 h31))) | (exact congrArg (fun z => some (Value.int (nI z))) (cnt_t (P := fun q => lOwn v q) (own_t h31 h149))) | (exact congrArg (fun z => some (Value.int (nI z))) (cnt_f (P := fun q => lOwn v q) (own_f h149))) | (exact congrArg (fun z => some (Value.int (nI z))) (cnt_f (P := fun q => lOwn v q) (own_0 h31))) | (exact congrArg (fun z => some (Value.int z)) (nI_s1 _))), trivial⟩
              · refine G.iconst C 1 dL_isSo_152 (by decide) ?_
                refine G.goto C 157 dL_isSo_153 (by decide) ?_
                refine G.iadd C dL_isSo_157 ?_
                refine G.topI (nI ((cnt (fun q => lOwn v q) k) + 1)) (nI_add _ _) ?_
                refine G.ist7 C dL_isSo_158 (by omega) rfl ?_
                refine G.iincN10 C dL_isSo_160 (by omega) rfl ?_
                refine G.goto C 18 dL_isSo_163 (by decide) ?_
                refine G.wide (cl' := (k + 1)) (sl' := 6 * (k + 1)) (by omega) (by omega) ?_
                exact G.back (ih (k + 1) (by omega) ) rfl ⟨(by first | with_reducible rfl | (exact congrArg (fun z => some (Value.int (nI z))) (cnt_t (P := fun q => lIs v q) h31)) | (exact congrArg (fun z => some (Value.int (nI z))) (cnt_f (P := fun q => lIs v q) h31)) | (exact congrArg (fun z => some (Value.int (nI z))) (cnt_t (P := fun q => lPrs v q) (prs_t h31 h122))) | (exact congrArg (fun z => some (Value.int (nI z))) (cnt_f (P := fun q => lPrs v q) (prs_f h122))) | (exact congrArg (fun z => some (Value.int (nI z))) (cnt_f (P := fun q => lPrs v q) (prs_0 h31))) | (exact congrArg (fun z => some (Value.int (nI z))) (cnt_t (P := fun q => lOwn v q) (own_t h31 h149))) | (exact congrArg (fun z => some (Value.int (nI z))) (cnt_f (P := fun q => lOwn v q) (own_f h149))) | (exact congrArg (fun z => some (Value.int (nI z))) (cnt_f (P := fun q => lOwn v q) (own_0 h31))) | (exact congrArg (fun z => some (Value.int z)) (nI_s1 _))), (by first | with_reducible rfl | (exact congrArg (fun z => some (Value.int (nI z))) (cnt_t (P := fun q => lIs v q) h31)) | (exact congrArg (fun z => some (Value.int (nI z))) (cnt_f (P := fun q => lIs v q) h31)) | (exact congrArg (fun z => some (Value.int (nI z))) (cnt_t (P := fun q => lPrs v q) (prs_t h31 h122))) | (exact congrArg (fun z => some (Value.int (nI z))) (cnt_f (P := fun q => lPrs v q) (prs_f h122))) | (exact congrArg (fun z => some (Value.int (nI z))) (cnt_f (P := fun q => lPrs v q) (prs_0 h31))) | (exact congrArg (fun z => some (Value.int (nI z))) (cnt_t (P := fun q => lOwn v q) (own_t h31 h149))) | (exact congrArg (fun z => some (Value.int (nI z))) (cnt_f (P := fun q => lOwn v q) (own_f h149))) | (exact congrArg (fun z => some (Value.int (nI z))) (cnt_f (P := fun q => lOwn v q) (own_0 h31))) | (exact congrArg (fun z => some (Value.int z)) (nI_s1 _))), (by first | with_reducible rfl | (exact congrArg (fun z => some (Value.int (nI z))) (cnt_t (P := fun q => lIs v q) h31)) | (exact congrArg (fun z => some (Value.int (nI z))) (cnt_f (P := fun q => lIs v q) h31)) | (exact congrArg (fun z => some (Value.int (nI z))) (cnt_t (P := fun q => lPrs v q) (prs_t h31 h122))) | (exact congrArg (fun z => some (Value.int (nI z))) (cnt_f (P := fun q => lPrs v q) (prs_f h122))) | (exact congrArg (fun z => some (Value.int (nI z))) (cnt_f (P := fun q => lPrs v q) (prs_0 h31))) | (exact congrArg (fun z => some (Value.int (nI z))) (cnt_t (P := fun q => lOwn v q) (own_t h31 h149))) | (exact congrArg (fun z => some (Value.int (nI z))) (cnt_f (P := fun q => lOwn v q) (own_f h149))) | (exact congrArg (fun z => some (Value.int (nI z))) (cnt_f (P := fun q => lOwn v q) (own_0 h31))) | (exact congrArg (fun z => some (Value.int z)) (nI_s1 _))), (by first | with_reducible rfl | (exact congrArg (fun z => some (Value.int (nI z))) (cnt_t (P := fun q => lIs v q) h31)) | (exact congrArg (fun z => some (Value.int (nI z))) (cnt_f (P := fun q => lIs v q) h31)) | (exact congrArg (fun z => some (Value.int (nI z))) (cnt_t (P := fun q => lPrs v q) (prs_t h31 h122))) | (exact congrArg (fun z => some (Value.int (nI z))) (cnt_f (P := fun q => lPrs v q) (prs_f h122))) | (exact congrArg (fun z => some (Value.int (nI z))) (cnt_f (P := fun q => lPrs v q) (prs_0 h31))) | (exact congrArg (fun z => some (Value.int (nI z))) (cnt_t (P := fun q => lOwn v q) (own_t h31 h149))) | (exact congrArg (fun z => some (Value.int (nI z))) (cnt_f (P := fun q => lOwn v q) (own_f h149))) | (exact congrArg (fun z => some (Value.int (nI z))) (cnt_f (P := fun q => lOwn v q) (own_0 h31))) | (exact congrArg (fun z => some (Value.int z)) (nI_s1 _))), (by first | with_reducible rfl | (exact congrArg (fun z => some (Value.int (nI z))) (cnt_t (P := fun q => lIs v q) h31)) | (exact congrArg (fun z => some (Value.int (nI z))) (cnt_f (P := fun q => lIs v q) h31)) | (exact congrArg (fun z => some (Value.int (nI z))) (cnt_t (P := fun q => lPrs v q) (prs_t h31 h122))) | (exact congrArg (fun z => some (Value.int (nI z))) (cnt_f (P := fun q => lPrs v q) (prs_f h122))) | (exact congrArg (fun z => some (Value.int (nI z))) (cnt_f (P := fun q => lPrs v q) (prs_0 h31))) | (exact congrArg (fun z => some (Value.int (nI z))) (cnt_t (P := fun q => lOwn v q) (own_t h31 h149))) | (exact congrArg (fun z => some (Value.int (nI z))) (cnt_f (P := fun q => lOwn v q) (own_f h149))) | (exact congrArg (fun z => some (Value.int (nI z))) (cnt_f (P := fun q => lOwn v q) (own_0 h31))) | (exact congrArg (fun z => some (Value.int z)) (nI_s1 _))), (by first | with_reducible rfl | (exact congrArg (fun z => some (Value.int (nI z))) (cnt_t (P := fun q => lIs v q) h31)) | (exact congrArg (fun z => some (Value.int (nI z))) (cnt_f (P := fun q => lIs v q) h31)) | (exact congrArg (fun z => some (Value.int (nI z))) (cnt_t (P := fun q => lPrs v q) (prs_t h31 h122))) | (exact congrArg (fun z => some (Value.int (nI z))) (cnt_f (P := fun q => lPrs v q) (prs_f h122))) | (exact congrArg (fun z => some (Value.int (nI z))) (cnt_f (P := fun q => lPrs v q) (prs_0 h31))) | (exact congrArg (fun z => some (Value.int (nI z))) (cnt_t (P := fun q => lOwn v q) (own_t h31 h149))) | (exact congrArg (fun z => some (Value.int (nI z))) (cnt_f (P := fun q => lOwn v q) (own_f h149))) | (exact congrArg (fun z => some (Value.int (nI z))) (cnt_f (P := fun q => lOwn v q) (own_0 h31))) | (exact congrArg (fun z => some (Value.int z)) (nI_s1 _))), (by first | with_reducible rfl | (exact congrArg (fun z => some (Value.int (nI z))) (cnt_t (P := fun q => lIs v q) h31)) | (exact congrArg (fun z => some (Value.int (nI z))) (cnt_f (P := fun q => lIs v q) h31)) | (exact congrArg (fun z => some (Value.int (nI z))) (cnt_t (P := fun q => lPrs v q) (prs_t h31 h122))) | (exact congrArg (fun z => some (Value.int (nI z))) (cnt_f (P := fun q => lPrs v q) (prs_f h122))) | (exact congrArg (fun z => some (Value.int (nI z))) (cnt_f (P := fun q => lPrs v q) (prs_0 h31))) | (exact congrArg (fun z => some (Value.int (nI z))) (cnt_t (P := fun q => lOwn v q) (own_t h31 h149))) | (exact congrArg (fun z => some (Value.int (nI z))) (cnt_f (P := fun q => lOwn v q) (own_f h149))) | (exact congrArg (fun z => some (Value.int (nI z))) (cnt_f (P := fun q => lOwn v q) (own_0 h31))) | (exact congrArg (fun z => some (Value.int z)) (nI_s1 _))), (by first | with_reducible rfl | (exact congrArg (fun z => some (Value.int (nI z))) (cnt_t (P := fun q => lIs v q) h31)) | (exact congrArg (fun z => some (Value.int (nI z))) (cnt_f (P := fun q => lIs v q) h31)) | (exact congrArg (fun z => some (Value.int (nI z))) (cnt_t (P := fun q => lPrs v q) (prs_t h31 h122))) | (exact congrArg (fun z => some (Value.int (nI z))) (cnt_f (P := fun q => lPrs v q) (prs_f h122))) | (exact congrArg (fun z => some (Value.int (nI z))) (cnt_f (P := fun q => lPrs v q) (prs_0 h31))) | (exact congrArg (fun z => some (Value.int (nI z))) (cnt_t (P := fun q => lOwn v q) (own_t h31 h149))) | (exact congrArg (fun z => some (Value.int (nI z))) (cnt_f (P := fun q => lOwn v q) (own_f h149))) | (exact congrArg (fun z => some (Value.int (nI z))) (cnt_f (P := fun q => lOwn v q) (own_0 h31))) | (exact congrArg (fun z => some (Value.int z)) (nI_s1 _))), (by first | with_reducible rfl | (exact congrArg (fun z => some (Value.int (nI z))) (cnt_t (P := fun q => lIs v q) h31)) | (exact congrArg (fun z => some (Value.int (nI z))) (cnt_f (P := fun q => lIs v q) h31)) | (exact congrArg (fun z => some (Value.int (nI z))) (cnt_t (P := fun q => lPrs v q) (prs_t h31 h122))) | (exact congrArg (fun z => some (Value.int (nI z))) (cnt_f (P := fun q => lPrs v q) (prs_f h122))) | (exact congrArg (fun z => some (Value.int (nI z))) (cnt_f (P := fun q => lPrs v q) (prs_0 h31))) | (exact congrArg (fun z => some (Value.int (nI z))) (cnt_t (P := fun q => lOwn v q) (own_t h31 h149))) | (exact congrArg (fun z => some (Value.int (nI z))) (cnt_f (P := fun q => lOwn v q) (own_f h149))) | (exact congrArg (fun z => some (Value.int (nI z))) (cnt_f (P := fun q => lOwn v q) (own_0 h31))) | (exact congrArg (fun z => some (Value.int z)) (nI_s1 _))), (by first | with_reducible rfl | (exact congrArg (fun z => some (Value.int (nI z))) (cnt_t (P := fun q => lIs v q) h31)) | (exact congrArg (fun z => some (Value.int (nI z))) (cnt_f (P := fun q => lIs v q) h31)) | (exact congrArg (fun z => some (Value.int (nI z))) (cnt_t (P := fun q => lPrs v q) (prs_t h31 h122))) | (exact congrArg (fun z => some (Value.int (nI z))) (cnt_f (P := fun q => lPrs v q) (prs_f h122))) | (exact congrArg (fun z => some (Value.int (nI z))) (cnt_f (P := fun q => lPrs v q) (prs_0 h31))) | (exact congrArg (fun z => some (Value.int (nI z))) (cnt_t (P := fun q => lOwn v q) (own_t h31 h149))) | (exact congrArg (fun z => some (Value.int (nI z))) (cnt_f (P := fun q => lOwn v q) (own_f h149))) | (exact congrArg (fun z => some (Value.int (nI z))) (cnt_f (P := fun q => lOwn v q) (own_0 h31))) | (exact congrArg (fun z => some (Value.int z)) (nI_s1 _))), (by first | with_reducible rfl | (exact congrArg (fun z => some (Value.int (nI z))) (cnt_t (P := fun q => lIs v q) h31)) | (exact congrArg (fun z => some (Value.int (nI z))) (cnt_f (P := fun q => lIs v q) h31)) | (exact congrArg (fun z => some (Value.int (nI z))) (cnt_t (P := fun q => lPrs v q) (prs_t h31 h122))) | (exact congrArg (fun z => some (Value.int (nI z))) (cnt_f (P := fun q => lPrs v q) (prs_f h122))) | (exact congrArg (fun z => some (Value.int (nI z))) (cnt_f (P := fun q => lPrs v q) (prs_0 h31))) | (exact congrArg (fun z => some (Value.int (nI z))) (cnt_t (P := fun q => lOwn v q) (own_t h31 h149))) | (exact congrArg (fun z => some (Value.int (nI z))) (cnt_f (P := fun q => lOwn v q) (own_f h149))) | (exact congrArg (fun z => some (Value.int (nI z))) (cnt_f (P := fun q => lOwn v q) (own_0 h31))) | (exact congrArg (fun z => some (Value.int z)) (nI_s1 _))), trivial⟩
          | succ n ih =>
            intro y hk
            have C := C.wide (cl' := k) (sl' := 6 * k) (by show _ ≤ (16 : Nat); omega) (by show _ ≤ (96 : Nat); omega)
            have hk2 : y < 4 := by omega
            refine G.ild11 C dL_isSo_51 ?_
            refine G.iconst C 4 dL_isSo_53 (by decide) ?_
            refine G.icmp_ge C 107 dL_isSo_54 (by decide) (fun h => absurd h (nI_ge (b := 4) hk2 (by decide))) (fun _ => ?_)
            refine G.aldn0 C dL_isSo_57 ?_
            refine G.ild10 C dL_isSo_58 ?_
            refine G.ild11 C dL_isSo_60 ?_
            refine G.callVI2 C (k_X3_dove l (by rw [← hF1 k (by omega)]; exact h31) (nI_pos (by omega)) (nI_lt (b := 8) (by omega) (by omega))) (cwV 2 C.1.2.2.2.2 gL_isSo_X3_dove rfl rfl rfl (by decide +kernel) ⟨Nat.le_of_ble_eq_true rfl, Nat.le_of_ble_eq_true rfl⟩) gO_m rfl (Nat.le_of_ble_eq_true rfl) dL_isSo_62 ?_
            refine G.topI (c0 (2 + y) k) (by rw [ix_nI (by omega), ix_nI (by omega)]) ?_
            refine G.aldn2 C dL_isSo_65 ?_
            refine G.iconst C 4 dL_isSo_66 (by decide) ?_
            refine G.ild10 C dL_isSo_67 ?_
            refine G.imul C dL_isSo_69 ?_
            refine G.topI (nI (4 * k)) (pk_mul _ _) ?_
            refine G.ild11 C dL_isSo_70 ?_
            refine G.iadd C dL_isSo_72 ?_
            refine G.topI (nI ((4 * k) + y)) (nI_add _ _) ?_
            refine G.ialdL C (n := 64) (j := 1) (d0 := ((4 * k) + y)) (gN_l hl rfl) (hv _ (by omega)) (by first | assumption | exact vp_in_nI (by omega) (by omega) | (unfold vp_in; decide)) (ix_nI (by omega)) dL_isSo_73 ?_
            refine G.icmp_ne C 99 dL_isSo_74 (by decide) (fun h74 => absurd h74 (fun q => q ((hF2 k (by omega) h31 y (by omega)).1))) (fun h74 => ?_)
            refine G.aldn0 C dL_isSo_77 ?_
            refine G.ild10 C dL_isSo_78 ?_
            refine G.iconst C 4 dL_isSo_80 (by decide) ?_
            refine G.ild11 C dL_isSo_81 ?_
            refine G.iadd C dL_isSo_83 ?_
            refine G.topI (nI (4 + y)) (nI_add _ _) ?_
            refine G.callVI2 C (k_X3_dove l (by rw [← hF1 k (by omega)]; exact h31) (nI_pos (by omega)) (nI_lt (b := 8) (by omega) (by omega))) (cwV 2 C.1.2.2.2.2 gL_isSo_X3_dove rfl rfl rfl (by decide +kernel) ⟨Nat.le_of_ble_eq_true rfl, Nat.le_of_ble_eq_true rfl⟩) gO_m rfl (Nat.le_of_ble_eq_true rfl) dL_isSo_84 ?_
            refine G.topI (c0 (2 + (4 + y)) k) (by rw [ix_nI (by omega), ix_nI (by omega)]) ?_
            refine G.aldn3 C dL_isSo_87 ?_
            refine G.iconst C 4 dL_isSo_88 (by decide) ?_
            refine G.ild10 C dL_isSo_89 ?_
            refine G.imul C dL_isSo_91 ?_
            refine G.topI (nI (4 * k)) (pk_mul _ _) ?_
            refine G.ild11 C dL_isSo_92 ?_
            refine G.iadd C dL_isSo_94 ?_
            refine G.topI (nI ((4 * k) + y)) (nI_add _ _) ?_
            refine G.ialdL C (n := 64) (j := 2) (d0 := ((4 * k) + y)) (gN_l hl rfl) (hv _ (by omega)) (by first | assumption | exact vp_in_nI (by omega) (by omega) | (unfold vp_in; decide)) (ix_nI (by omega)) dL_isSo_95 ?_
            refine G.icmp_eq C 101 dL_isSo_96 (by decide) (fun h96 => ?_) (fun h96 => absurd ((hF2 k (by omega) h31 y (by omega)).2) h96)
            refine G.iincN11 C dL_isSo_101 (by omega) rfl ?_
            refine G.goto C 51 dL_isSo_104 (by decide) ?_
            refine G.wide (cl' := k) (sl' := 6 * k) (by omega) (by omega) ?_
            exact G.back (ih (y + 1) (by omega) ) rfl ⟨(by first | rfl | simp), (by first | rfl | simp), (by first | rfl | simp), (by first | rfl | simp), (by first | rfl | simp), (by first | rfl | simp), (by first | rfl | simp), (by first | rfl | simp), (by first | rfl | simp), (by first | rfl | simp), (by first | rfl | simp), (by first | rfl | simp), trivial⟩
        refine G.wide (cl' := k) (sl' := 6 * k) (by omega) (by omega) ?_
        exact G.back (L51 4 0 (Nat.zero_add _) ) rfl ⟨(by first | rfl | simp), (by first | rfl | simp), (by first | rfl | simp), (by first | rfl | simp), (by first | rfl | simp), (by first | rfl | simp), (by first | rfl | simp), (by first | rfl | simp), (by first | rfl | simp), (by first | rfl | simp), (by first | rfl | simp), (by first | rfl | simp), trivial⟩
      · refine G.aldn0 C dL_isSo_34 ?_
        refine G.ild10 C dL_isSo_35 ?_
        refine G.iconst C 0 dL_isSo_37 (by decide) ?_
        refine G.callH3 C hZ (k_L_dove_t1 l hst (by rw [← hF1 k (by omega)]; exact h31)) (vx_cwSW 3 C.1.2.2.2.2 gL_isSo_L_dove rfl rfl rfl (by decide +kernel) ⟨(Nat.le_of_ble_eq_true rfl), (Nat.le_of_ble_eq_true rfl)⟩) (Nat.le_of_ble_eq_true rfl) dL_isSo_38 ⟨by show _ ≤ (16 : Nat); omega, by show _ ≤ (96 : Nat); omega⟩ (fun C => ?_)
        refine G.topI ((-31)) rfl ?_
        refine G.bipush C (-31) dL_isSo_41 (by decide) ?_
        refine G.icmp_eq C 160 dL_isSo_43 (by decide) (fun _ => ?_) (fun h => absurd (by decide) h)
        refine G.iincN10 C dL_isSo_160 (by omega) rfl ?_
        refine G.goto C 18 dL_isSo_163 (by decide) ?_
        refine G.wide (cl' := (k + 1)) (sl' := 6 * (k + 1)) (by omega) (by omega) ?_
        exact G.back (ih (k + 1) (by omega) ) rfl ⟨(by first | with_reducible rfl | (exact congrArg (fun z => some (Value.int (nI z))) (cnt_t (P := fun q => lIs v q) h31)) | (exact congrArg (fun z => some (Value.int (nI z))) (cnt_f (P := fun q => lIs v q) h31)) | (exact congrArg (fun z => some (Value.int (nI z))) (cnt_t (P := fun q => lPrs v q) (prs_t h31 h122))) | (exact congrArg (fun z => some (Value.int (nI z))) (cnt_f (P := fun q => lPrs v q) (prs_f h122))) | (exact congrArg (fun z => some (Value.int (nI z))) (cnt_f (P := fun q => lPrs v q) (prs_0 h31))) | (exact congrArg (fun z => some (Value.int (nI z))) (cnt_t (P := fun q => lOwn v q) (own_t h31 h149))) | (exact congrArg (fun z => some (Value.int (nI z))) (cnt_f (P := fun q => lOwn v q) (own_f h149))) | (exact congrArg (fun z => some (Value.int (nI z))) (cnt_f (P := fun q => lOwn v q) (own_0 h31))) | (exact congrArg (fun z => some (Value.int z)) (nI_s1 _))), (by first | with_reducible rfl | (exact congrArg (fun z => some (Value.int (nI z))) (cnt_t (P := fun q => lIs v q) h31)) | (exact congrArg (fun z => some (Value.int (nI z))) (cnt_f (P := fun q => lIs v q) h31)) | (exact congrArg (fun z => some (Value.int (nI z))) (cnt_t (P := fun q => lPrs v q) (prs_t h31 h122))) | (exact congrArg (fun z => some (Value.int (nI z))) (cnt_f (P := fun q => lPrs v q) (prs_f h122))) | (exact congrArg (fun z => some (Value.int (nI z))) (cnt_f (P := fun q => lPrs v q) (prs_0 h31))) | (exact congrArg (fun z => some (Value.int (nI z))) (cnt_t (P := fun q => lOwn v q) (own_t h31 h149))) | (exact congrArg (fun z => some (Value.int (nI z))) (cnt_f (P := fun q => lOwn v q) (own_f h149))) | (exact congrArg (fun z => some (Value.int (nI z))) (cnt_f (P := fun q => lOwn v q) (own_0 h31))) | (exact congrArg (fun z => some (Value.int z)) (nI_s1 _))), (by first | with_reducible rfl | (exact congrArg (fun z => some (Value.int (nI z))) (cnt_t (P := fun q => lIs v q) h31)) | (exact congrArg (fun z => some (Value.int (nI z))) (cnt_f (P := fun q => lIs v q) h31)) | (exact congrArg (fun z => some (Value.int (nI z))) (cnt_t (P := fun q => lPrs v q) (prs_t h31 h122))) | (exact congrArg (fun z => some (Value.int (nI z))) (cnt_f (P := fun q => lPrs v q) (prs_f h122))) | (exact congrArg (fun z => some (Value.int (nI z))) (cnt_f (P := fun q => lPrs v q) (prs_0 h31))) | (exact congrArg (fun z => some (Value.int (nI z))) (cnt_t (P := fun q => lOwn v q) (own_t h31 h149))) | (exact congrArg (fun z => some (Value.int (nI z))) (cnt_f (P := fun q => lOwn v q) (own_f h149))) | (exact congrArg (fun z => some (Value.int (nI z))) (cnt_f (P := fun q => lOwn v q) (own_0 h31))) | (exact congrArg (fun z => some (Value.int z)) (nI_s1 _))), (by first | with_reducible rfl | (exact congrArg (fun z => some (Value.int (nI z))) (cnt_t (P := fun q => lIs v q) h31)) | (exact congrArg (fun z => some (Value.int (nI z))) (cnt_f (P := fun q => lIs v q) h31)) | (exact congrArg (fun z => some (Value.int (nI z))) (cnt_t (P := fun q => lPrs v q) (prs_t h31 h122))) | (exact congrArg (fun z => some (Value.int (nI z))) (cnt_f (P := fun q => lPrs v q) (prs_f h122))) | (exact congrArg (fun z => some (Value.int (nI z))) (cnt_f (P := fun q => lPrs v q) (prs_0 h31))) | (exact congrArg (fun z => some (Value.int (nI z))) (cnt_t (P := fun q => lOwn v q) (own_t h31 h149))) | (exact congrArg (fun z => some (Value.int (nI z))) (cnt_f (P := fun q => lOwn v q) (own_f h149))) | (exact congrArg (fun z => some (Value.int (nI z))) (cnt_f (P := fun q => lOwn v q) (own_0 h31))) | (exact congrArg (fun z => some (Value.int z)) (nI_s1 _))), (by first | with_reducible rfl | (exact congrArg (fun z => some (Value.int (nI z))) (cnt_t (P := fun q => lIs v q) h31)) | (exact congrArg (fun z => some (Value.int (nI z))) (cnt_f (P := fun q => lIs v q) h31)) | (exact congrArg (fun z => some (Value.int (nI z))) (cnt_t (P := fun q => lPrs v q) (prs_t h31 h122))) | (exact congrArg (fun z => some (Value.int (nI z))) (cnt_f (P := fun q => lPrs v q) (prs_f h122))) | (exact congrArg (fun z => some (Value.int (nI z))) (cnt_f (P := fun q => lPrs v q) (prs_0 h31))) | (exact congrArg (fun z => some (Value.int (nI z))) (cnt_t (P := fun q => lOwn v q) (own_t h31 h149))) | (exact congrArg (fun z => some (Value.int (nI z))) (cnt_f (P := fun q => lOwn v q) (own_f h149))) | (exact congrArg (fun z => some (Value.int (nI z))) (cnt_f (P := fun q => lOwn v q) (own_0 h31))) | (exact congrArg (fun z => some (Value.int z)) (nI_s1 _))), (by first | with_reducible rfl | (exact congrArg (fun z => some (Value.int (nI z))) (cnt_t (P := fun q => lIs v q) h31)) | (exact congrArg (fun z => some (Value.int (nI z))) (cnt_f (P := fun q => lIs v q) h31)) | (exact congrArg (fun z => some (Value.int (nI z))) (cnt_t (P := fun q => lPrs v q) (prs_t h31 h122))) | (exact congrArg (fun z => some (Value.int (nI z))) (cnt_f (P := fun q => lPrs v q) (prs_f h122))) | (exact congrArg (fun z => some (Value.int (nI z))) (cnt_f (P := fun q => lPrs v q) (prs_0 h31))) | (exact congrArg (fun z => some (Value.int (nI z))) (cnt_t (P := fun q => lOwn v q) (own_t h31 h149))) | (exact congrArg (fun z => some (Value.int (nI z))) (cnt_f (P := fun q => lOwn v q) (own_f h149))) | (exact congrArg (fun z => some (Value.int (nI z))) (cnt_f (P := fun q => lOwn v q) (own_0 h31))) | (exact congrArg (fun z => some (Value.int z)) (nI_s1 _))), (by first | with_reducible rfl | (exact congrArg (fun z => some (Value.int (nI z))) (cnt_t (P := fun q => lIs v q) h31)) | (exact congrArg (fun z => some (Value.int (nI z))) (cnt_f (P := fun q => lIs v q) h31)) | (exact congrArg (fun z => some (Value.int (nI z))) (cnt_t (P := fun q => lPrs v q) (prs_t h31 h122))) | (exact congrArg (fun z => some (Value.int (nI z))) (cnt_f (P := fun q => lPrs v q) (prs_f h122))) | (exact congrArg (fun z => some (Value.int (nI z))) (cnt_f (P := fun q => lPrs v q) (prs_0 h31))) | (exact congrArg (fun z => some (Value.int (nI z))) (cnt_t (P := fun q => lOwn v q) (own_t h31 h149))) | (exact congrArg (fun z => some (Value.int (nI z))) (cnt_f (P := fun q => lOwn v q) (own_f h149))) | (exact congrArg (fun z => some (Value.int (nI z))) (cnt_f (P := fun q => lOwn v q) (own_0 h31))) | (exact congrArg (fun z => some (Value.int z)) (nI_s1 _))), (by first | with_reducible rfl | (exact congrArg (fun z => some (Value.int (nI z))) (cnt_t (P := fun q => lIs v q) h31)) | (exact congrArg (fun z => some (Value.int (nI z))) (cnt_f (P := fun q => lIs v q) h31)) | (exact congrArg (fun z => some (Value.int (nI z))) (cnt_t (P := fun q => lPrs v q) (prs_t h31 h122))) | (exact congrArg (fun z => some (Value.int (nI z))) (cnt_f (P := fun q => lPrs v q) (prs_f h122))) | (exact congrArg (fun z => some (Value.int (nI z))) (cnt_f (P := fun q => lPrs v q) (prs_0 h31))) | (exact congrArg (fun z => some (Value.int (nI z))) (cnt_t (P := fun q => lOwn v q) (own_t h31 h149))) | (exact congrArg (fun z => some (Value.int (nI z))) (cnt_f (P := fun q => lOwn v q) (own_f h149))) | (exact congrArg (fun z => some (Value.int (nI z))) (cnt_f (P := fun q => lOwn v q) (own_0 h31))) | (exact congrArg (fun z => some (Value.int z)) (nI_s1 _))), (by first | with_reducible rfl | (exact congrArg (fun z => some (Value.int (nI z))) (cnt_t (P := fun q => lIs v q) h31)) | (exact congrArg (fun z => some (Value.int (nI z))) (cnt_f (P := fun q => lIs v q) h31)) | (exact congrArg (fun z => some (Value.int (nI z))) (cnt_t (P := fun q => lPrs v q) (prs_t h31 h122))) | (exact congrArg (fun z => some (Value.int (nI z))) (cnt_f (P := fun q => lPrs v q) (prs_f h122))) | (exact congrArg (fun z => some (Value.int (nI z))) (cnt_f (P := fun q => lPrs v q) (prs_0 h31))) | (exact congrArg (fun z => some (Value.int (nI z))) (cnt_t (P := fun q => lOwn v q) (own_t h31 h149))) | (exact congrArg (fun z => some (Value.int (nI z))) (cnt_f (P := fun q => lOwn v q) (own_f h149))) | (exact congrArg (fun z => some (Value.int (nI z))) (cnt_f (P := fun q => lOwn v q) (own_0 h31))) | (exact congrArg (fun z => some (Value.int z)) (nI_s1 _))), (by first | with_reducible rfl | (exact congrArg (fun z => some (Value.int (nI z))) (cnt_t (P := fun q => lIs v q) h31)) | (exact congrArg (fun z => some (Value.int (nI z))) (cnt_f (P := fun q => lIs v q) h31)) | (exact congrArg (fun z => some (Value.int (nI z))) (cnt_t (P := fun q => lPrs v q) (prs_t h31 h122))) | (exact congrArg (fun z => some (Value.int (nI z))) (cnt_f (P := fun q => lPrs v q) (prs_f h122))) | (exact congrArg (fun z => some (Value.int (nI z))) (cnt_f (P := fun q => lPrs v q) (prs_0 h31))) | (exact congrArg (fun z => some (Value.int (nI z))) (cnt_t (P := fun q => lOwn v q) (own_t h31 h149))) | (exact congrArg (fun z => some (Value.int (nI z))) (cnt_f (P := fun q => lOwn v q) (own_f h149))) | (exact congrArg (fun z => some (Value.int (nI z))) (cnt_f (P := fun q => lOwn v q) (own_0 h31))) | (exact congrArg (fun z => some (Value.int z)) (nI_s1 _))), (by first | with_reducible rfl | (exact congrArg (fun z => some (Value.int (nI z))) (cnt_t (P := fun q => lIs v q) h31)) | (exact congrArg (fun z => some (Value.int (nI z))) (cnt_f (P := fun q => lIs v q) h31)) | (exact congrArg (fun z => some (Value.int (nI z))) (cnt_t (P := fun q => lPrs v q) (prs_t h31 h122))) | (exact congrArg (fun z => some (Value.int (nI z))) (cnt_f (P := fun q => lPrs v q) (prs_f h122))) | (exact congrArg (fun z => some (Value.int (nI z))) (cnt_f (P := fun q => lPrs v q) (prs_0 h31))) | (exact congrArg (fun z => some (Value.int (nI z))) (cnt_t (P := fun q => lOwn v q) (own_t h31 h149))) | (exact congrArg (fun z => some (Value.int (nI z))) (cnt_f (P := fun q => lOwn v q) (own_f h149))) | (exact congrArg (fun z => some (Value.int (nI z))) (cnt_f (P := fun q => lOwn v q) (own_0 h31))) | (exact congrArg (fun z => some (Value.int z)) (nI_s1 _))), trivial⟩
  refine G.wide (cl' := 0) (sl' := 6 * 0) (by omega) (by omega) ?_
  exact G.back (L18 16 0 (Nat.zero_add _) ) rfl ⟨(by first | with_reducible rfl | rfl), (by first | with_reducible rfl | rfl), (by first | with_reducible rfl | rfl), (by first | with_reducible rfl | rfl), (by first | with_reducible rfl | rfl), (by first | with_reducible rfl | rfl), (by first | with_reducible rfl | rfl), (by first | with_reducible rfl | rfl), (by first | with_reducible rfl | rfl), (by first | with_reducible rfl | rfl), (by first | with_reducible rfl | rfl), trivial⟩
