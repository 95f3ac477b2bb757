/-! the law's copy, isAhead -/
set_option maxRecDepth 100000 in
set_option maxHeartbeats 4000000 in
theorem k_L_copy0 (l : Launch) {E : gEn} {σ : gSt} {π : Nat → Nat} {o : Int64} {c0 c1 c2 c9 v w : cSt} (hv : ∀ j, j < 4 → gV E 10 j) (hv2 : ∀ j, j < 4 → gV E 11 j) : CtV l yL_copy wsL_copy ({ frames := 0, cells := 0, slots := 0, locals := 0 } : Room) E [.ref (E.2.1 10 0), .ref (E.2.1 11 0)] (gM σ c0 c1 c2 c9 v w) π o  (gM σ c0 c1 c2 c9 v (lC0 v w)) π o := by
  refine CtV.of (cc := cL_copy) (own := RL) (maxL := 3) (ret := none) [some (.ref (E.2.1 10 0)), some (.ref (E.2.1 11 0)), none] (by decide) rfl rfl (Nat.le_of_ble_eq_true rfl) rfl ?_
  intro p e s m args below meth cd C hrt hlk
  have hl : 10 ≤ 10 := Nat.le_refl 10
  have hl2 : 10 ≤ 11 := by omega
  refine G.iconst C 0 dL_copy_0 (by decide) ?_
  refine G.istn2 C dL_copy_1 (by omega) rfl ?_
  have L2 : ∀ (n k : Nat), k + n = 13 → G p l e ({ frames := 0, cells := 0, slots := 0, locals := 0 } : Room) s m args below meth cd 3 0 0 (gA E) (gQV below args s E (gM σ c0 c1 c2 c9 v (lC0 v w)) π o) E (gM σ c0 c1 c2 c9 v (cCp w (lCp (v 0) (w 0) k) 0)) π o 2 [some (.ref (E.2.1 10 0)), some (.ref (E.2.1 11 0)), some (.int (nI k))] [] := by
    intro n
    induction n with
    | zero =>
      intro k hk
      obtain rfl : 13 = k := by omega
      refine G.ildn2 C dL_copy_2 ?_
      refine G.aldn0 C dL_copy_3 ?_
      refine G.alen C (n := 13) (gN_l hl rfl) (hv _ (by omega)) dL_copy_4 ?_
      refine G.icmp_ge C 20 dL_copy_5 (by decide) (fun _ => ?_) (fun h => absurd (nI_le (a := 13) (b := 13) (by omega) (by decide)) h)
      exact G.vret C hlk hrt dL_copy_20 (by exact fun _ h => h)
    | succ n ih =>
      intro k hk
      have hk2 : k < 13 := by omega
      refine G.ildn2 C dL_copy_2 ?_
      refine G.aldn0 C dL_copy_3 ?_
      refine G.alen C (n := 13) (gN_l hl rfl) (hv _ (by omega)) dL_copy_4 ?_
      refine G.icmp_ge C 20 dL_copy_5 (by decide) (fun h => absurd h (nI_ge (b := 13) hk2 (by decide))) (fun _ => ?_)
      refine G.aldn1 C dL_copy_8 ?_
      refine G.ildn2 C dL_copy_9 ?_
      refine G.aldn0 C dL_copy_10 ?_
      refine G.ildn2 C dL_copy_11 ?_
      refine G.ialdL C (n := 13) (j := 0) (d0 := k) (gN_l hl rfl) (hv _ (by omega)) (by first | assumption | exact vp_in_nI (by omega) (by omega) | (unfold vp_in; decide)) (ix_nI (by omega)) dL_copy_12 ?_
      refine G.iastM C (n := 13) (j := 0) (d0 := k) (gN_l hl2 rfl) (hv2 _ (by omega)) (by first | assumption | exact vp_in_nI (by omega) (by omega) | (unfold vp_in; decide)) (ix_nI (by omega)) dL_copy_13 ?_
      refine G.iincN2 C dL_copy_14 (by omega) rfl ?_
      refine G.goto C 2 dL_copy_17 (by decide) ?_
      exact G.back (ih (k + 1) (by omega) ) (by rw [lCp_s]) ⟨(by first | rfl | simp), (by first | rfl | simp), (by first | rfl | simp), trivial⟩
  exact G.back (L2 13 0 (Nat.zero_add _) ) (by rw [lCp_0, cCp_same]) ⟨(by first | rfl | simp), (by first | rfl | simp), (by first | rfl | simp), trivial⟩
set_option maxRecDepth 100000 in
set_option maxHeartbeats 4000000 in
theorem k_L_copy1 (l : Launch) {E : gEn} {σ : gSt} {π : Nat → Nat} {o : Int64} {c0 c1 c2 c9 v w : cSt} (hv : ∀ j, j < 4 → gV E 10 j) (hv2 : ∀ j, j < 4 → gV E 11 j) : CtV l yL_copy wsL_copy ({ frames := 0, cells := 0, slots := 0, locals := 0 } : Room) E [.ref (E.2.1 10 1), .ref (E.2.1 11 1)] (gM σ c0 c1 c2 c9 v w) π o  (gM σ c0 c1 c2 c9 v (lC1 v w)) π o := by
  refine CtV.of (cc := cL_copy) (own := RL) (maxL := 3) (ret := none) [some (.ref (E.2.1 10 1)), some (.ref (E.2.1 11 1)), none] (by decide) rfl rfl (Nat.le_of_ble_eq_true rfl) rfl ?_
  intro p e s m args below meth cd C hrt hlk
  have hl : 10 ≤ 10 := Nat.le_refl 10
  have hl2 : 10 ≤ 11 := by omega
  refine G.iconst C 0 dL_copy_0 (by decide) ?_
  refine G.istn2 C dL_copy_1 (by omega) rfl ?_
  have L2 : ∀ (n k : Nat), k + n = 64 → G p l e ({ frames := 0, cells := 0, slots := 0, locals := 0 } : Room) s m args below meth cd 3 0 0 (gA E) (gQV below args s E (gM σ c0 c1 c2 c9 v (lC1 v w)) π o) E (gM σ c0 c1 c2 c9 v (cCp w (lCp (v 1) (w 1) k) 1)) π o 2 [some (.ref (E.2.1 10 1)), some (.ref (E.2.1 11 1)), some (.int (nI k))] [] := by
    intro n
    induction n with
    | zero =>
      intro k hk
      obtain rfl : 64 = k := by omega
      refine G.ildn2 C dL_copy_2 ?_
      refine G.aldn0 C dL_copy_3 ?_
      refine G.alen C (n := 64) (gN_l hl rfl) (hv _ (by omega)) dL_copy_4 ?_
      refine G.icmp_ge C 20 dL_copy_5 (by decide) (fun _ => ?_) (fun h => absurd (nI_le (a := 64) (b := 64) (by omega) (by decide)) h)
      exact G.vret C hlk hrt dL_copy_20 (by exact fun _ h => h)
    | succ n ih =>
      intro k hk
      have hk2 : k < 64 := by omega
      refine G.ildn2 C dL_copy_2 ?_
      refine G.aldn0 C dL_copy_3 ?_
      refine G.alen C (n := 64) (gN_l hl rfl) (hv _ (by omega)) dL_copy_4 ?_
      refine G.icmp_ge C 20 dL_copy_5 (by decide) (fun h => absurd h (nI_ge (b := 64) hk2 (by decide))) (fun _ => ?_)
      refine G.aldn1 C dL_copy_8 ?_
      refine G.ildn2 C dL_copy_9 ?_
      refine G.aldn0 C dL_copy_10 ?_
      refine G.ildn2 C dL_copy_11 ?_
      refine G.ialdL C (n := 64) (j := 1) (d0 := k) (gN_l hl rfl) (hv _ (by omega)) (by first | assumption | exact vp_in_nI (by omega) (by omega) | (unfold vp_in; decide)) (ix_nI (by omega)) dL_copy_12 ?_
      refine G.iastM C (n := 64) (j := 1) (d0 := k) (gN_l hl2 rfl) (hv2 _ (by omega)) (by first | assumption | exact vp_in_nI (by omega) (by omega) | (unfold vp_in; decide)) (ix_nI (by omega)) dL_copy_13 ?_
      refine G.iincN2 C dL_copy_14 (by omega) rfl ?_
      refine G.goto C 2 dL_copy_17 (by decide) ?_
      exact G.back (ih (k + 1) (by omega) ) (by rw [lCp_s]) ⟨(by first | rfl | simp), (by first | rfl | simp), (by first | rfl | simp), trivial⟩
  exact G.back (L2 64 0 (Nat.zero_add _) ) (by rw [lCp_0, cCp_same]) ⟨(by first | rfl | simp), (by first | rfl | simp), (by first | rfl | simp), trivial⟩
set_option maxRecDepth 100000 in
set_option maxHeartbeats 4000000 in
theorem k_L_copy2 (l : Launch) {E : gEn} {σ : gSt} {π : Nat → Nat} {o : Int64} {c0 c1 c2 c9 v w : cSt} (hv : ∀ j, j < 4 → gV E 10 j) (hv2 : ∀ j, j < 4 → gV E 11 j) : CtV l yL_copy wsL_copy ({ frames := 0, cells := 0, slots := 0, locals := 0 } : Room) E [.ref (E.2.1 10 2), .ref (E.2.1 11 2)] (gM σ c0 c1 c2 c9 v w) π o  (gM σ c0 c1 c2 c9 v (lC2 v w)) π o := by
  refine CtV.of (cc := cL_copy) (own := RL) (maxL := 3) (ret := none) [some (.ref (E.2.1 10 2)), some (.ref (E.2.1 11 2)), none] (by decide) rfl rfl (Nat.le_of_ble_eq_true rfl) rfl ?_
  intro p e s m args below meth cd C hrt hlk
  have hl : 10 ≤ 10 := Nat.le_refl 10
  have hl2 : 10 ≤ 11 := by omega
  refine G.iconst C 0 dL_copy_0 (by decide) ?_
  refine G.istn2 C dL_copy_1 (by omega) rfl ?_
  have L2 : ∀ (n k : Nat), k + n = 64 → G p l e ({ frames := 0, cells := 0, slots := 0, locals := 0 } : Room) s m args below meth cd 3 0 0 (gA E) (gQV below args s E (gM σ c0 c1 c2 c9 v (lC2 v w)) π o) E (gM σ c0 c1 c2 c9 v (cCp w (lCp (v 2) (w 2) k) 2)) π o 2 [some (.ref (E.2.1 10 2)), some (.ref (E.2.1 11 2)), some (.int (nI k))] [] := by
    intro n
    induction n with
    | zero =>
      intro k hk
      obtain rfl : 64 = k := by omega
      refine G.ildn2 C dL_copy_2 ?_
      refine G.aldn0 C dL_copy_3 ?_
      refine G.alen C (n := 64) (gN_l hl rfl) (hv _ (by omega)) dL_copy_4 ?_
      refine G.icmp_ge C 20 dL_copy_5 (by decide) (fun _ => ?_) (fun h => absurd (nI_le (a := 64) (b := 64) (by omega) (by decide)) h)
      exact G.vret C hlk hrt dL_copy_20 (by exact fun _ h => h)
    | succ n ih =>
      intro k hk
      have hk2 : k < 64 := by omega
      refine G.ildn2 C dL_copy_2 ?_
      refine G.aldn0 C dL_copy_3 ?_
      refine G.alen C (n := 64) (gN_l hl rfl) (hv _ (by omega)) dL_copy_4 ?_
      refine G.icmp_ge C 20 dL_copy_5 (by decide) (fun h => absurd h (nI_ge (b := 64) hk2 (by decide))) (fun _ => ?_)
      refine G.aldn1 C dL_copy_8 ?_
      refine G.ildn2 C dL_copy_9 ?_
      refine G.aldn0 C dL_copy_10 ?_
      refine G.ildn2 C dL_copy_11 ?_
      refine G.ialdL C (n := 64) (j := 2) (d0 := k) (gN_l hl rfl) (hv _ (by omega)) (by first | assumption | exact vp_in_nI (by omega) (by omega) | (unfold vp_in; decide)) (ix_nI (by omega)) dL_copy_12 ?_
      refine G.iastM C (n := 64) (j := 2) (d0 := k) (gN_l hl2 rfl) (hv2 _ (by omega)) (by first | assumption | exact vp_in_nI (by omega) (by omega) | (unfold vp_in; decide)) (ix_nI (by omega)) dL_copy_13 ?_
      refine G.iincN2 C dL_copy_14 (by omega) rfl ?_
      refine G.goto C 2 dL_copy_17 (by decide) ?_
      exact G.back (ih (k + 1) (by omega) ) (by rw [lCp_s]) ⟨(by first | rfl | simp), (by first | rfl | simp), (by first | rfl | simp), trivial⟩
  exact G.back (L2 64 0 (Nat.zero_add _) ) (by rw [lCp_0, cCp_same]) ⟨(by first | rfl | simp), (by first | rfl | simp), (by first | rfl | simp), trivial⟩
set_option maxRecDepth 100000 in
set_option maxHeartbeats 8000000 in
theorem k_L_isAhead_24 (l : Launch) (hst : l.stackTraces = false) {E : gEn} (hE : E.2.2.2.2.2 = true) {σ : gSt} {π : Nat → Nat} {o : Int64} {c0 c1 c2 c9 v w : cSt} {t : Int32} {P : gSt → (Nat → Nat) → Prop} (ht0 : ¬ t < 0) (ht1 : t ≤ 1439) (hA : lAh c0 v t) (hend : ∀ c1 w, P (gM σ c0 c1 c2 c9 v w) π) {p : Program} {e : Env} {s : State} {m : MethodId} {args : Array Value} {below : List Frame} {meth : Method} {cd : Code} (C : gCx p s m cd cL_isAhead 13 RL wsL_isAhead args E (gA E) ({ frames := 9, cells := 36, slots := 359, locals := 206 } : Room) 4 167) (hZ : gZ E (gA E) s) (hrt : meth.sig.returnType = (some .boolean)) (hlk : meth.locks = false) : G p l e ({ frames := 9, cells := 36, slots := 359, locals := 206 } : Room) s m args below meth cd 13 4 167 (gA E) (gQP below args s E o P 36 359) E (gM σ c0 c1 c2 c9 v w) π o 24 [some (.ref (E.2.1 9 0)), some (.ref (E.2.1 10 0)), some (.ref (E.2.1 10 1)), some (.ref (E.2.1 10 2)), some (.int t), some (.ref (E.2.1 11 0)), some (.ref (E.2.1 11 1)), some (.ref (E.2.1 11 2)), some (.ref (E.2.1 11 3)), none, none, none, none] [] := by
  have hl : 10 ≤ 10 := Nat.le_refl 10
  have hv : ∀ j, j < 4 → gV E 10 j := fun j hj => gV_d hj
  have hl2 : 10 ≤ 11 := by omega
  have hv2 : ∀ j, j < 4 → gV E 11 j := fun j hj => gV_e hE hj
  obtain ⟨hF1, hF2, hF3, hF4, hF5⟩ := hA
  refine G.iconst C 0 dL_isAhead_24 (by decide) ?_
  refine G.ist9 C dL_isAhead_25 (by omega) rfl ?_
  have L27 : ∀ (n k : Nat), k + n = 16 → ∀ (c1 w : cSt), G p l e ({ frames := 9, cells := 36, slots := 359, locals := 206 } : Room) s m args below meth cd 13 (4 + 2 * k) (167 + 12 * k) (gA E) (gQP below args s E o P 36 359) E (gM σ c0 c1 c2 c9 v w) π o 27 [some (.ref (E.2.1 9 0)), some (.ref (E.2.1 10 0)), some (.ref (E.2.1 10 1)), some (.ref (E.2.1 10 2)), some (.int t), some (.ref (E.2.1 11 0)), some (.ref (E.2.1 11 1)), some (.ref (E.2.1 11 2)), some (.ref (E.2.1 11 3)), some (.int (nI k)), none, none, none] [] := by
    intro n
    induction n with
    | zero =>
      intro k hk c1 w
      obtain rfl : 16 = k := by omega
      have C := C.wide (cl' := 4 + 2 * 16) (sl' := 167 + 12 * 16) (by show _ ≤ (36 : Nat); omega) (by show _ ≤ (359 : Nat); omega)
      refine G.ild9 C dL_isAhead_27 ?_
      refine G.bipush C 16 dL_isAhead_29 (by decide) ?_
      refine G.icmp_ge C 268 dL_isAhead_31 (by decide) (fun _ => ?_) (fun h => absurd (nI_le (a := 16) (b := 16) (by omega) (by decide)) h)
      refine G.iconst C 0 dL_isAhead_268 (by decide) ?_
      refine G.ist9 C dL_isAhead_269 (by omega) rfl ?_
      refine G.iconst C 0 dL_isAhead_271 (by decide) ?_
      refine G.ist10 C dL_isAhead_272 (by omega) rfl ?_
      refine G.ild10 C dL_isAhead_274 ?_
      refine G.iconst C 2 dL_isAhead_276 (by decide) ?_
      refine G.icmp_ge C 415 dL_isAhead_277 (by decide) (fun h => absurd h (by decide)) (fun _ => ?_)
      refine G.aldn1 C dL_isAhead_280 ?_
      refine G.ald5 C dL_isAhead_281 ?_
      refine G.callSV2 C (k_L_copy0 l hv hv2) (va_cwS 2 C.1.2.2.2.2 gL_isAhead_L_copy rfl rfl rfl (by decide +kernel) ⟨Nat.le_of_ble_eq_true rfl, Nat.le_of_ble_eq_true rfl⟩) (Nat.le_of_ble_eq_true rfl) dL_isAhead_283 ?_
      refine G.aldn2 C dL_isAhead_286 ?_
      refine G.ald6 C dL_isAhead_287 ?_
      refine G.callSV2 C (k_L_copy1 l hv hv2) (va_cwS 2 C.1.2.2.2.2 gL_isAhead_L_copy rfl rfl rfl (by decide +kernel) ⟨Nat.le_of_ble_eq_true rfl, Nat.le_of_ble_eq_true rfl⟩) (Nat.le_of_ble_eq_true rfl) dL_isAhead_289 ?_
      refine G.aldn3 C dL_isAhead_292 ?_
      refine G.ald7 C dL_isAhead_293 ?_
      refine G.callSV2 C (k_L_copy2 l hv hv2) (va_cwS 2 C.1.2.2.2.2 gL_isAhead_L_copy rfl rfl rfl (by decide +kernel) ⟨Nat.le_of_ble_eq_true rfl, Nat.le_of_ble_eq_true rfl⟩) (Nat.le_of_ble_eq_true rfl) dL_isAhead_295 ?_
      generalize hw1 : lC2 v (lC1 v (lC0 v w)) = w1
      have hq0 : wEq v w1 := hw1 ▸ wEq_C
      refine G.iconst C 0 dL_isAhead_298 (by decide) ?_
      refine G.ist11 C dL_isAhead_299 (by omega) rfl ?_
      have L301 : ∀ (n k : Nat), k + n = 16 → ∀ (c1 : cSt), G p l e ({ frames := 9, cells := 36, slots := 359, locals := 206 } : Room) s m args below meth cd 13 36 359 (gA E) (gQP below args s E o P 36 359) E (gM σ c0 c1 c2 c9 v (lAllC v w1 1439 k)) π o 301 [some (.ref (E.2.1 9 0)), some (.ref (E.2.1 10 0)), some (.ref (E.2.1 10 1)), some (.ref (E.2.1 10 2)), some (.int t), some (.ref (E.2.1 11 0)), some (.ref (E.2.1 11 1)), some (.ref (E.2.1 11 2)), some (.ref (E.2.1 11 3)), some (.int 0), some (.int 0), some (.int (nI k)), none] [] := by
        intro n
        induction n with
        | zero =>
          intro k hk c1
          obtain rfl : 16 = k := by omega
          have C := C.wide (cl' := 36) (sl' := 359) (by show _ ≤ (36 : Nat); omega) (by show _ ≤ (359 : Nat); omega)
          refine G.ild11 C dL_isAhead_301 ?_
          refine G.bipush C 16 dL_isAhead_303 (by decide) ?_
          refine G.icmp_ge C 362 dL_isAhead_305 (by decide) (fun _ => ?_) (fun h => absurd (nI_le (a := 16) (b := 16) (by omega) (by decide)) h)
          refine G.ild10 C dL_isAhead_362 ?_
          refine G.iconst C 1 dL_isAhead_364 (by decide) ?_
          refine G.icmp_ne C 397 dL_isAhead_365 (by decide) (fun _ => ?_) (fun h => absurd h (by decide))
          refine G.ald5 C dL_isAhead_397 ?_
          refine G.ald6 C dL_isAhead_399 ?_
          refine G.iconst C 0 dL_isAhead_401 (by decide) ?_
          refine G.bipush C 23 dL_isAhead_402 (by decide) ?_
          refine G.callSI4 C (TMI (k_L_many l hl2 hv2)) (va_cwS 4 C.1.2.2.2.2 gL_isAhead_L_many rfl rfl rfl (by decide +kernel) ⟨Nat.le_of_ble_eq_true rfl, Nat.le_of_ble_eq_true rfl⟩) (Nat.le_of_ble_eq_true rfl) dL_isAhead_404 ?_
          refine G.ist9 C dL_isAhead_407 (by omega) rfl ?_
          refine G.iinc10 C 1 dL_isAhead_409 (by omega) rfl (by decide) ?_
          refine G.goto C 274 dL_isAhead_412 (by decide) ?_
          refine G.ild10 C dL_isAhead_274 ?_
          refine G.iconst C 2 dL_isAhead_276 (by decide) ?_
          refine G.icmp_ge C 415 dL_isAhead_277 (by decide) (fun h => absurd h (by decide)) (fun _ => ?_)
          refine G.aldn1 C dL_isAhead_280 ?_
          refine G.ald5 C dL_isAhead_281 ?_
          refine G.callSV2 C (k_L_copy0 l hv hv2) (va_cwS 2 C.1.2.2.2.2 gL_isAhead_L_copy rfl rfl rfl (by decide +kernel) ⟨Nat.le_of_ble_eq_true rfl, Nat.le_of_ble_eq_true rfl⟩) (Nat.le_of_ble_eq_true rfl) dL_isAhead_283 ?_
          refine G.aldn2 C dL_isAhead_286 ?_
          refine G.ald6 C dL_isAhead_287 ?_
          refine G.callSV2 C (k_L_copy1 l hv hv2) (va_cwS 2 C.1.2.2.2.2 gL_isAhead_L_copy rfl rfl rfl (by decide +kernel) ⟨Nat.le_of_ble_eq_true rfl, Nat.le_of_ble_eq_true rfl⟩) (Nat.le_of_ble_eq_true rfl) dL_isAhead_289 ?_
          refine G.aldn3 C dL_isAhead_292 ?_
          refine G.ald7 C dL_isAhead_293 ?_
          refine G.callSV2 C (k_L_copy2 l hv hv2) (va_cwS 2 C.1.2.2.2.2 gL_isAhead_L_copy rfl rfl rfl (by decide +kernel) ⟨Nat.le_of_ble_eq_true rfl, Nat.le_of_ble_eq_true rfl⟩) (Nat.le_of_ble_eq_true rfl) dL_isAhead_295 ?_
          generalize hw2 : lC2 v (lC1 v (lC0 v (lAllC v w1 1439 16))) = w2
          have hq1 : wEq v w2 := hw2 ▸ wEq_C
          refine G.iconst C 0 dL_isAhead_298 (by decide) ?_
          refine G.ist11 C dL_isAhead_299 (by omega) rfl ?_
          have L301 : ∀ (n k : Nat), k + n = 16 → ∀ (c1 : cSt), G p l e ({ frames := 9, cells := 36, slots := 359, locals := 206 } : Room) s m args below meth cd 13 36 359 (gA E) (gQP below args s E o P 36 359) E (gM σ c0 c1 c2 c9 v (lAllC v w2 (v 0 2) k)) π o 301 [some (.ref (E.2.1 9 0)), some (.ref (E.2.1 10 0)), some (.ref (E.2.1 10 1)), some (.ref (E.2.1 10 2)), some (.int t), some (.ref (E.2.1 11 0)), some (.ref (E.2.1 11 1)), some (.ref (E.2.1 11 2)), some (.ref (E.2.1 11 3)), some (.int (lMany (lAllC v w1 1439 16) 0 23)), some (.int 1), some (.int (nI k)), none] [] := by
            intro n
            induction n with
            | zero =>
              intro k hk c1
              obtain rfl : 16 = k := by omega
              have C := C.wide (cl' := 36) (sl' := 359) (by show _ ≤ (36 : Nat); omega) (by show _ ≤ (359 : Nat); omega)
              refine G.ild11 C dL_isAhead_301 ?_
              refine G.bipush C 16 dL_isAhead_303 (by decide) ?_
              refine G.icmp_ge C 362 dL_isAhead_305 (by decide) (fun _ => ?_) (fun h => absurd (nI_le (a := 16) (b := 16) (by omega) (by decide)) h)
              refine G.ild10 C dL_isAhead_362 ?_
              refine G.iconst C 1 dL_isAhead_364 (by decide) ?_
              refine G.icmp_ne C 397 dL_isAhead_365 (by decide) (fun h => absurd rfl h) (fun _ => ?_)
              refine G.aldn0 C dL_isAhead_368 ?_
              refine G.callVI0 C (k_X3_lateIsAsGood l) (cwV 0 C.1.2.2.2.2 gL_isAhead_X3_lateIsAsGood rfl rfl rfl (by decide +kernel) ⟨Nat.le_of_ble_eq_true rfl, Nat.le_of_ble_eq_true rfl⟩) gO_m rfl (Nat.le_of_ble_eq_true rfl) dL_isAhead_369 ?_
              refine G.topI (tGood c0) rfl ?_
              refine G.ild9 C dL_isAhead_372 ?_
              refine G.ald5 C dL_isAhead_374 ?_
              refine G.ald6 C dL_isAhead_376 ?_
              refine G.iconst C 0 dL_isAhead_378 (by decide) ?_
              refine G.bipush C 23 dL_isAhead_379 (by decide) ?_
              refine G.callSI4 C (TMI (k_L_many l hl2 hv2)) (va_cwS 4 C.1.2.2.2.2 gL_isAhead_L_many rfl rfl rfl (by decide +kernel) ⟨Nat.le_of_ble_eq_true rfl, Nat.le_of_ble_eq_true rfl⟩) (Nat.le_of_ble_eq_true rfl) dL_isAhead_381 ?_
              refine G.icmp_ge C 391 dL_isAhead_384 (by decide) (fun h384 => ?_) (fun h384 => ?_)
              · refine G.iconst C 1 dL_isAhead_391 (by decide) ?_
                refine G.icmp_eq C 397 dL_isAhead_392 (by decide) (fun h392 => ?_) (fun h392 => absurd ((by rw [hF5 _ _ hq0 hq1, if_pos h384])) h392)
                refine G.ald5 C dL_isAhead_397 ?_
                refine G.ald6 C dL_isAhead_399 ?_
                refine G.iconst C 0 dL_isAhead_401 (by decide) ?_
                refine G.bipush C 23 dL_isAhead_402 (by decide) ?_
                refine G.callSI4 C (TMI (k_L_many l hl2 hv2)) (va_cwS 4 C.1.2.2.2.2 gL_isAhead_L_many rfl rfl rfl (by decide +kernel) ⟨Nat.le_of_ble_eq_true rfl, Nat.le_of_ble_eq_true rfl⟩) (Nat.le_of_ble_eq_true rfl) dL_isAhead_404 ?_
                refine G.ist9 C dL_isAhead_407 (by omega) rfl ?_
                refine G.iinc10 C 2 dL_isAhead_409 (by omega) rfl (by decide) ?_
                refine G.goto C 274 dL_isAhead_412 (by decide) ?_
                refine G.ild10 C dL_isAhead_274 ?_
                refine G.iconst C 2 dL_isAhead_276 (by decide) ?_
                refine G.icmp_ge C 415 dL_isAhead_277 (by decide) (fun _ => ?_) (fun h => absurd (by decide) h)
                refine G.iconst C 1 dL_isAhead_415 (by decide) ?_
                exact G.pret C (by omega) (by omega) hlk hrt dL_isAhead_416 rfl (hend _ _)
              · refine G.iconst C 0 dL_isAhead_387 (by decide) ?_
                refine G.goto C 392 dL_isAhead_388 (by decide) ?_
                refine G.icmp_eq C 397 dL_isAhead_392 (by decide) (fun h392 => ?_) (fun h392 => absurd ((by rw [hF5 _ _ hq0 hq1, if_neg h384])) h392)
                refine G.ald5 C dL_isAhead_397 ?_
                refine G.ald6 C dL_isAhead_399 ?_
                refine G.iconst C 0 dL_isAhead_401 (by decide) ?_
                refine G.bipush C 23 dL_isAhead_402 (by decide) ?_
                refine G.callSI4 C (TMI (k_L_many l hl2 hv2)) (va_cwS 4 C.1.2.2.2.2 gL_isAhead_L_many rfl rfl rfl (by decide +kernel) ⟨Nat.le_of_ble_eq_true rfl, Nat.le_of_ble_eq_true rfl⟩) (Nat.le_of_ble_eq_true rfl) dL_isAhead_404 ?_
                refine G.ist9 C dL_isAhead_407 (by omega) rfl ?_
                refine G.iinc10 C 2 dL_isAhead_409 (by omega) rfl (by decide) ?_
                refine G.goto C 274 dL_isAhead_412 (by decide) ?_
                refine G.ild10 C dL_isAhead_274 ?_
                refine G.iconst C 2 dL_isAhead_276 (by decide) ?_
                refine G.icmp_ge C 415 dL_isAhead_277 (by decide) (fun _ => ?_) (fun h => absurd (by decide) h)
                refine G.iconst C 1 dL_isAhead_415 (by decide) ?_
                exact G.pret C (by omega) (by omega) hlk hrt dL_isAhead_416 rfl (hend _ _)
            | succ n ih =>
              intro k hk c1
              have C := C.wide (cl' := 36) (sl' := 359) (by show _ ≤ (36 : Nat); omega) (by show _ ≤ (359 : Nat); omega)
              have hk2 : k < 16 := by omega
              refine G.ild11 C dL_isAhead_301 ?_
              refine G.bipush C 16 dL_isAhead_303 (by decide) ?_
              refine G.icmp_ge C 362 dL_isAhead_305 (by decide) (fun h => absurd h (nI_ge (b := 16) hk2 (by decide))) (fun _ => ?_)
              refine G.aldn1 C dL_isAhead_308 ?_
              refine G.ild11 C dL_isAhead_309 ?_
              refine G.callSI2 C (TLI (k_L_is l hl hv (by omega))) (va_cwS 2 C.1.2.2.2.2 gL_isAhead_L_is rfl rfl rfl (by decide +kernel) ⟨Nat.le_of_ble_eq_true rfl, Nat.le_of_ble_eq_true rfl⟩) (Nat.le_of_ble_eq_true rfl) dL_isAhead_311 ?_
              refine G.if_eqB C 356 dL_isAhead_314 (by decide) (fun h314 => ?_) (fun h314 => ?_)
              · refine G.iincN11 C dL_isAhead_356 (by omega) rfl ?_
                refine G.goto C 301 dL_isAhead_359 (by decide) ?_
                refine G.wide (cl' := 36) (sl' := 359) (by omega) (by omega) ?_
                exact G.back (ih (k + 1) (by omega) _) (by first | rfl | (rw [lAllC, if_pos h314, if_neg h325]; done) | (rw [lAllC, if_neg (by rw [h314]; decide)]; done) | (rw [lAllC, if_pos h314, if_pos h325]; done)) ⟨(by first | rfl | simp), (by first | rfl | simp), (by first | rfl | simp), (by first | rfl | simp), (by first | rfl | simp), (by first | rfl | simp), (by first | rfl | simp), (by first | rfl | simp), (by first | rfl | simp), (by first | rfl | simp), (by first | rfl | simp), (by first | rfl | simp), trivial⟩
              · refine G.aldn2 C dL_isAhead_317 ?_
                refine G.iconst C 4 dL_isAhead_318 (by decide) ?_
                refine G.ild11 C dL_isAhead_319 ?_
                refine G.imul C dL_isAhead_321 ?_
                refine G.topI (nI (4 * k)) (pk_mul _ _) ?_
                refine G.iconst C 2 dL_isAhead_322 (by decide) ?_
                refine G.iadd C dL_isAhead_323 ?_
                refine G.topI (nI ((4 * k) + 2)) (nI_add _ _) ?_
                refine G.ialdL C (n := 64) (j := 1) (d0 := ((4 * k) + 2)) (gN_l hl rfl) (hv _ (by omega)) (by first | assumption | exact vp_in_nI (by omega) (by omega) | (unfold vp_in; decide)) (ix_nI (by omega)) dL_isAhead_324 ?_
                refine G.if_ge C 356 dL_isAhead_325 (by decide) (fun h325 => ?_) (fun h325 => ?_)
                · refine G.iincN11 C dL_isAhead_356 (by omega) rfl ?_
                  refine G.goto C 301 dL_isAhead_359 (by decide) ?_
                  refine G.wide (cl' := 36) (sl' := 359) (by omega) (by omega) ?_
                  exact G.back (ih (k + 1) (by omega) _) (by first | rfl | (rw [lAllC, if_pos h314, if_neg h325]; done) | (rw [lAllC, if_neg (by rw [h314]; decide)]; done) | (rw [lAllC, if_pos h314, if_pos h325]; done)) ⟨(by first | rfl | simp), (by first | rfl | simp), (by first | rfl | simp), (by first | rfl | simp), (by first | rfl | simp), (by first | rfl | simp), (by first | rfl | simp), (by first | rfl | simp), (by first | rfl | simp), (by first | rfl | simp), (by first | rfl | simp), (by first | rfl | simp), trivial⟩
                · obtain ⟨w0, mo, ew, hw0, hmo, em, hp⟩ := hF4 (v 0 2) (Or.inr rfl) _ hq1 k (by omega) h314 (Int32.not_le.mp h325)
                  refine G.ald5 C dL_isAhead_328 ?_
                  refine G.ald6 C dL_isAhead_330 ?_
                  refine G.ald7 C dL_isAhead_332 ?_
                  refine G.ald8 C dL_isAhead_334 ?_
                  refine G.ild11 C dL_isAhead_336 ?_
                  refine G.ild10 C dL_isAhead_338 ?_
                  refine G.if_ne C 349 dL_isAhead_340 (by decide) (fun _ => ?_) (fun h => absurd h (by decide))
                  refine G.aldn1 C dL_isAhead_349 ?_
                  refine G.iconst C 2 dL_isAhead_350 (by decide) ?_
                  refine G.ialdL C (n := 13) (j := 0) (d0 := 2) (gN_l hl rfl) (hv _ (by omega)) (by unfold vp_in; decide) (by decide) dL_isAhead_351 ?_
                  refine G.callSI6 C (TMI (k_L_comes l hl2 hv2 (by omega) ew hw0 hmo em hp)) (va_cwS 6 C.1.2.2.2.2 gL_isAhead_L_comes rfl rfl rfl (by decide +kernel) ⟨Nat.le_of_ble_eq_true rfl, Nat.le_of_ble_eq_true rfl⟩) (Nat.le_of_ble_eq_true rfl) dL_isAhead_352 ?_
                  refine G.pop C dL_isAhead_355 rfl ?_
                  refine G.iincN11 C dL_isAhead_356 (by omega) rfl ?_
                  refine G.goto C 301 dL_isAhead_359 (by decide) ?_
                  refine G.wide (cl' := 36) (sl' := 359) (by omega) (by omega) ?_
                  exact G.back (ih (k + 1) (by omega) _) (by first | rfl | (rw [lAllC, if_pos h314, if_neg h325]; done) | (rw [lAllC, if_neg (by rw [h314]; decide)]; done) | (rw [lAllC, if_pos h314, if_pos h325]; done)) ⟨(by first | rfl | simp), (by first | rfl | simp), (by first | rfl | simp), (by first | rfl | simp), (by first | rfl | simp), (by first | rfl | simp), (by first | rfl | simp), (by first | rfl | simp), (by first | rfl | simp), (by first | rfl | simp), (by first | rfl | simp), (by first | rfl | simp), trivial⟩
          refine G.wide (cl' := 36) (sl' := 359) (by omega) (by omega) ?_
          exact G.back (L301 16 0 (Nat.zero_add _) _) rfl ⟨(by first | rfl | simp), (by first | rfl | simp), (by first | rfl | simp), (by first | rfl | simp), (by first | rfl | simp), (by first | rfl | simp), (by first | rfl | simp), (by first | rfl | simp), (by first | rfl | simp), (by first | rfl | simp), (by first | rfl | simp), (by first | rfl | simp), trivial⟩
        | succ n ih =>
          intro k hk c1
          have C := C.wide (cl' := 36) (sl' := 359) (by show _ ≤ (36 : Nat); omega) (by show _ ≤ (359 : Nat); omega)
          have hk2 : k < 16 := by omega
          refine G.ild11 C dL_isAhead_301 ?_
          refine G.bipush C 16 dL_isAhead_303 (by decide) ?_
          refine G.icmp_ge C 362 dL_isAhead_305 (by decide) (fun h => absurd h (nI_ge (b := 16) hk2 (by decide))) (fun _ => ?_)
          refine G.aldn1 C dL_isAhead_308 ?_
          refine G.ild11 C dL_isAhead_309 ?_
          refine G.callSI2 C (TLI (k_L_is l hl hv (by omega))) (va_cwS 2 C.1.2.2.2.2 gL_isAhead_L_is rfl rfl rfl (by decide +kernel) ⟨Nat.le_of_ble_eq_true rfl, Nat.le_of_ble_eq_true rfl⟩) (Nat.le_of_ble_eq_true rfl) dL_isAhead_311 ?_
          refine G.if_eqB C 356 dL_isAhead_314 (by decide) (fun h314 => ?_) (fun h314 => ?_)
          · refine G.iincN11 C dL_isAhead_356 (by omega) rfl ?_
            refine G.goto C 301 dL_isAhead_359 (by decide) ?_
            refine G.wide (cl' := 36) (sl' := 359) (by omega) (by omega) ?_
            exact G.back (ih (k + 1) (by omega) _) (by first | rfl | (rw [lAllC, if_pos h314, if_neg h325]; done) | (rw [lAllC, if_neg (by rw [h314]; decide)]; done) | (rw [lAllC, if_pos h314, if_pos h325]; done)) ⟨(by first | rfl | simp), (by first | rfl | simp), (by first | rfl | simp), (by first | rfl | simp), (by first | rfl | simp), (by first | rfl | simp), (by first | rfl | simp), (by first | rfl | simp), (by first | rfl | simp), (by first | rfl | simp), (by first | rfl | simp), (by first | rfl | simp), trivial⟩
          · refine G.aldn2 C dL_isAhead_317 ?_
            refine G.iconst C 4 dL_isAhead_318 (by decide) ?_
            refine G.ild11 C dL_isAhead_319 ?_
            refine G.imul C dL_isAhead_321 ?_
            refine G.topI (nI (4 * k)) (pk_mul _ _) ?_
            refine G.iconst C 2 dL_isAhead_322 (by decide) ?_
            refine G.iadd C dL_isAhead_323 ?_
            refine G.topI (nI ((4 * k) + 2)) (nI_add _ _) ?_
            refine G.ialdL C (n := 64) (j := 1) (d0 := ((4 * k) + 2)) (gN_l hl rfl) (hv _ (by omega)) (by first | assumption | exact vp_in_nI (by omega) (by omega) | (unfold vp_in; decide)) (ix_nI (by omega)) dL_isAhead_324 ?_
            refine G.if_ge C 356 dL_isAhead_325 (by decide) (fun h325 => ?_) (fun h325 => ?_)
            · refine G.iincN11 C dL_isAhead_356 (by omega) rfl ?_
              refine G.goto C 301 dL_isAhead_359 (by decide) ?_
              refine G.wide (cl' := 36) (sl' := 359) (by omega) (by omega) ?_
              exact G.back (ih (k + 1) (by omega) _) (by first | rfl | (rw [lAllC, if_pos h314, if_neg h325]; done) | (rw [lAllC, if_neg (by rw [h314]; decide)]; done) | (rw [lAllC, if_pos h314, if_pos h325]; done)) ⟨(by first | rfl | simp), (by first | rfl | simp), (by first | rfl | simp), (by first | rfl | simp), (by first | rfl | simp), (by first | rfl | simp), (by first | rfl | simp), (by first | rfl | simp), (by first | rfl | simp), (by first | rfl | simp), (by first | rfl | simp), (by first | rfl | simp), trivial⟩
            · obtain ⟨w0, mo, ew, hw0, hmo, em, hp⟩ := hF4 1439 (Or.inl rfl) _ hq0 k (by omega) h314 (Int32.not_le.mp h325)
              refine G.ald5 C dL_isAhead_328 ?_
              refine G.ald6 C dL_isAhead_330 ?_
              refine G.ald7 C dL_isAhead_332 ?_
              refine G.ald8 C dL_isAhead_334 ?_
              refine G.ild11 C dL_isAhead_336 ?_
              refine G.ild10 C dL_isAhead_338 ?_
              refine G.if_ne C 349 dL_isAhead_340 (by decide) (fun h => absurd rfl h) (fun _ => ?_)
              refine G.sipush C 1439 dL_isAhead_343 (by decide) ?_
              refine G.goto C 352 dL_isAhead_346 (by decide) ?_
              refine G.callSI6 C (TMI (k_L_comes l hl2 hv2 (by omega) ew hw0 hmo em hp)) (va_cwS 6 C.1.2.2.2.2 gL_isAhead_L_comes rfl rfl rfl (by decide +kernel) ⟨Nat.le_of_ble_eq_true rfl, Nat.le_of_ble_eq_true rfl⟩) (Nat.le_of_ble_eq_true rfl) dL_isAhead_352 ?_
              refine G.pop C dL_isAhead_355 rfl ?_
              refine G.iincN11 C dL_isAhead_356 (by omega) rfl ?_
              refine G.goto C 301 dL_isAhead_359 (by decide) ?_
              refine G.wide (cl' := 36) (sl' := 359) (by omega) (by omega) ?_
              exact G.back (ih (k + 1) (by omega) _) (by first | rfl | (rw [lAllC, if_pos h314, if_neg h325]; done) | (rw [lAllC, if_neg (by rw [h314]; decide)]; done) | (rw [lAllC, if_pos h314, if_pos h325]; done)) ⟨(by first | rfl | simp), (by first | rfl | simp), (by first | rfl | simp), (by first | rfl | simp), (by first | rfl | simp), (by first | rfl | simp), (by first | rfl | simp), (by first | rfl | simp), (by first | rfl | simp), (by first | rfl | simp), (by first | rfl | simp), (by first | rfl | simp), trivial⟩
      refine G.wide (cl' := 36) (sl' := 359) (by omega) (by omega) ?_
      exact G.back (L301 16 0 (Nat.zero_add _) _) rfl ⟨(by first | rfl | simp), (by first | rfl | simp), (by first | rfl | simp), (by first | rfl | simp), (by first | rfl | simp), (by first | rfl | simp), (by first | rfl | simp), (by first | rfl | simp), (by first | rfl | simp), (by first | rfl | simp), (by first | rfl | simp), (by first | rfl | simp), trivial⟩
    | succ n ih =>
      intro k hk c1 w
      have C := C.wide (cl' := 4 + 2 * k) (sl' := 167 + 12 * k) (by show _ ≤ (36 : Nat); omega) (by show _ ≤ (359 : Nat); omega)
      have hk2 : k < 16 := by omega
      refine G.ild9 C dL_isAhead_27 ?_
      refine G.bipush C 16 dL_isAhead_29 (by decide) ?_
      refine G.icmp_ge C 268 dL_isAhead_31 (by decide) (fun h => absurd h (nI_ge (b := 16) hk2 (by decide))) (fun _ => ?_)
      refine G.aldn1 C dL_isAhead_34 ?_
      refine G.ild9 C dL_isAhead_35 ?_
      refine G.callSI2 C (TLI (k_L_is l hl hv (by omega))) (va_cwS 2 C.1.2.2.2.2 gL_isAhead_L_is rfl rfl rfl (by decide +kernel) ⟨Nat.le_of_ble_eq_true rfl, Nat.le_of_ble_eq_true rfl⟩) (Nat.le_of_ble_eq_true rfl) dL_isAhead_37 ?_
      refine G.if_neB C 72 dL_isAhead_40 (by decide) (fun h40 => ?_) (fun h40 => ?_)
      · refine G.aldn2 C dL_isAhead_72 ?_
        refine G.iconst C 4 dL_isAhead_73 (by decide) ?_
        refine G.ild9 C dL_isAhead_74 ?_
        refine G.imul C dL_isAhead_76 ?_
        refine G.topI (nI (4 * k)) (pk_mul _ _) ?_
        refine G.iconst C 2 dL_isAhead_77 (by decide) ?_
        refine G.iadd C dL_isAhead_78 ?_
        refine G.topI (nI ((4 * k) + 2)) (nI_add _ _) ?_
        refine G.ialdL C (n := 64) (j := 1) (d0 := ((4 * k) + 2)) (gN_l hl rfl) (hv _ (by omega)) (by first | assumption | exact vp_in_nI (by omega) (by omega) | (unfold vp_in; decide)) (ix_nI (by omega)) dL_isAhead_79 ?_
        refine G.if_lt C 87 dL_isAhead_80 (by decide) (fun h80 => ?_) (fun h80 => ?_)
        · refine G.ild4 C dL_isAhead_87 ?_
          refine G.aldn1 C dL_isAhead_89 ?_
          refine G.iconst C 2 dL_isAhead_90 (by decide) ?_
          refine G.ialdL C (n := 13) (j := 0) (d0 := 2) (gN_l hl rfl) (hv _ (by omega)) (by unfold vp_in; decide) (by decide) dL_isAhead_91 ?_
          refine G.icmp_ge C 99 dL_isAhead_92 (by decide) (fun h92 => ?_) (fun h92 => ?_)
          · refine G.iconst C 0 dL_isAhead_99 (by decide) ?_
            refine G.ist10 C dL_isAhead_100 (by omega) rfl ?_
            refine G.aldn1 C dL_isAhead_102 ?_
            refine G.ald5 C dL_isAhead_103 ?_
            refine G.callSV2 C (k_L_copy0 l hv hv2) (va_cwS 2 C.1.2.2.2.2 gL_isAhead_L_copy rfl rfl rfl (by decide +kernel) ⟨Nat.le_of_ble_eq_true rfl, Nat.le_of_ble_eq_true rfl⟩) (Nat.le_of_ble_eq_true rfl) dL_isAhead_105 ?_
            refine G.aldn2 C dL_isAhead_108 ?_
            refine G.ald6 C dL_isAhead_109 ?_
            refine G.callSV2 C (k_L_copy1 l hv hv2) (va_cwS 2 C.1.2.2.2.2 gL_isAhead_L_copy rfl rfl rfl (by decide +kernel) ⟨Nat.le_of_ble_eq_true rfl, Nat.le_of_ble_eq_true rfl⟩) (Nat.le_of_ble_eq_true rfl) dL_isAhead_111 ?_
            refine G.aldn3 C dL_isAhead_114 ?_
            refine G.ald7 C dL_isAhead_115 ?_
            refine G.callSV2 C (k_L_copy2 l hv hv2) (va_cwS 2 C.1.2.2.2.2 gL_isAhead_L_copy rfl rfl rfl (by decide +kernel) ⟨Nat.le_of_ble_eq_true rfl, Nat.le_of_ble_eq_true rfl⟩) (Nat.le_of_ble_eq_true rfl) dL_isAhead_117 ?_
            refine G.ild10 C dL_isAhead_120 ?_
            refine G.if_ne C 143 dL_isAhead_122 (by decide) (fun h => absurd rfl h) (fun _ => ?_)
            obtain ⟨⟨w0, mo, ew, hw0, hmo, em, hp⟩, a0, a1, a2⟩ := hF3 k (by omega) h40 h80 h92 _ (wEq_C (v := v) (w := w))
            refine G.ald5 C dL_isAhead_125 ?_
            refine G.ald6 C dL_isAhead_127 ?_
            refine G.ald7 C dL_isAhead_129 ?_
            refine G.ald8 C dL_isAhead_131 ?_
            refine G.ild9 C dL_isAhead_133 ?_
            refine G.ild4 C dL_isAhead_135 ?_
            refine G.callSI6 C (TMI (k_L_comes l hl2 hv2 (by omega) ew hw0 hmo em hp)) (va_cwS 6 C.1.2.2.2.2 gL_isAhead_L_comes rfl rfl rfl (by decide +kernel) ⟨Nat.le_of_ble_eq_true rfl, Nat.le_of_ble_eq_true rfl⟩) (Nat.le_of_ble_eq_true rfl) dL_isAhead_137 ?_
            refine G.goto C 144 dL_isAhead_140 (by decide) ?_
            refine G.ist11 C dL_isAhead_144 (by omega) rfl ?_
            refine G.iconst C (-1) dL_isAhead_146 (by decide) ?_
            refine G.ist12 C dL_isAhead_147 (by omega) rfl ?_
            have hwhy : cWhyHome c0 (nI k) t = 0 := by rw [hF2 k (by omega) h40, if_pos (by first | exact h80 | exact Int32.not_le.mp h80), if_pos h92]
            refine G.aldn0 C dL_isAhead_149 ?_
            refine G.ild9 C dL_isAhead_150 ?_
            refine G.ild4 C dL_isAhead_152 ?_
            refine G.callVI2 C (k_X3_whyNot l (by rw [← hF1 k (by omega)]; exact h40) ht0 ht1) (cwV 2 C.1.2.2.2.2 gL_isAhead_X3_whyNot rfl rfl rfl (by decide +kernel) ⟨Nat.le_of_ble_eq_true rfl, Nat.le_of_ble_eq_true rfl⟩) gO_m rfl (Nat.le_of_ble_eq_true rfl) dL_isAhead_154 ?_
            refine G.topI (0) hwhy ?_
            refine G.ild10 C dL_isAhead_157 ?_
            refine G.icmp_ne C 260 dL_isAhead_159 (by decide) (fun h => absurd rfl h) (fun _ => ?_)
            refine G.aldn0 C dL_isAhead_162 ?_
            refine G.ild9 C dL_isAhead_163 ?_
            refine G.ild4 C dL_isAhead_165 ?_
            refine G.iconst C 0 dL_isAhead_167 (by decide) ?_
            refine G.callVI3 C (k_X3_ifHome l (by rw [← hF1 k (by omega)]; exact h40) ht0 ht1 (by decide) (by decide)) (cwV 3 C.1.2.2.2.2 gL_isAhead_X3_ifHome rfl rfl rfl (by decide +kernel) ⟨Nat.le_of_ble_eq_true rfl, Nat.le_of_ble_eq_true rfl⟩) gO_m rfl (Nat.le_of_ble_eq_true rfl) dL_isAhead_168 ?_
            refine G.topI (tTN c0 (cCome c0 (nI k) t) (nI k) 0) (by rw [if_pos (by rw [tTry, if_pos hwhy]), tTry, if_pos hwhy]) ?_
            refine G.ild10 C dL_isAhead_171 ?_
            refine G.if_le C 181 dL_isAhead_173 (by decide) (fun _ => ?_) (fun h => absurd (by decide) h)
            refine G.ald6 C dL_isAhead_181 ?_
            refine G.iconst C 4 dL_isAhead_183 (by decide) ?_
            refine G.ild9 C dL_isAhead_184 ?_
            refine G.imul C dL_isAhead_186 ?_
            refine G.topI (nI (4 * k)) (pk_mul _ _) ?_
            refine G.iconst C 2 dL_isAhead_187 (by decide) ?_
            refine G.iadd C dL_isAhead_188 ?_
            refine G.topI (nI ((4 * k) + 2)) (nI_add _ _) ?_
            refine G.ialdM C (n := 64) (j := 1) (d0 := ((4 * k) + 2)) (gN_l hl2 rfl) (hv2 _ (by omega)) (by first | assumption | exact vp_in_nI (by omega) (by omega) | (unfold vp_in; decide)) (ix_nI (by omega)) dL_isAhead_189 ?_
            refine G.icmp_ne C 260 dL_isAhead_190 (by decide) (fun h190 => absurd h190 (fun q => q (a0))) (fun h190 => ?_)
            refine G.aldn0 C dL_isAhead_193 ?_
            refine G.ild9 C dL_isAhead_194 ?_
            refine G.ild4 C dL_isAhead_196 ?_
            refine G.iconst C 1 dL_isAhead_198 (by decide) ?_
            refine G.callVI3 C (k_X3_ifHome l (by rw [← hF1 k (by omega)]; exact h40) ht0 ht1 (by decide) (by decide)) (cwV 3 C.1.2.2.2.2 gL_isAhead_X3_ifHome rfl rfl rfl (by decide +kernel) ⟨Nat.le_of_ble_eq_true rfl, Nat.le_of_ble_eq_true rfl⟩) gO_m rfl (Nat.le_of_ble_eq_true rfl) dL_isAhead_199 ?_
            refine G.topI (tTN c0 (cCome c0 (nI k) t) (nI k) 1) (by rw [if_pos (by rw [tTry, if_pos hwhy]), tTry, if_pos hwhy]) ?_
            refine G.ild10 C dL_isAhead_202 ?_
            refine G.if_le C 212 dL_isAhead_204 (by decide) (fun _ => ?_) (fun h => absurd (by decide) h)
            refine G.ild11 C dL_isAhead_212 ?_
            refine G.icmp_ne C 260 dL_isAhead_214 (by decide) (fun h214 => absurd h214 (fun q => q (a1))) (fun h214 => ?_)
            refine G.aldn0 C dL_isAhead_217 ?_
            refine G.ild9 C dL_isAhead_218 ?_
            refine G.ild4 C dL_isAhead_220 ?_
            refine G.iconst C 2 dL_isAhead_222 (by decide) ?_
            refine G.callVI3 C (k_X3_ifHome l (by rw [← hF1 k (by omega)]; exact h40) ht0 ht1 (by decide) (by decide)) (cwV 3 C.1.2.2.2.2 gL_isAhead_X3_ifHome rfl rfl rfl (by decide +kernel) ⟨Nat.le_of_ble_eq_true rfl, Nat.le_of_ble_eq_true rfl⟩) gO_m rfl (Nat.le_of_ble_eq_true rfl) dL_isAhead_223 ?_
            refine G.topI (tTN c0 (cCome c0 (nI k) t) (nI k) 2) (by rw [if_pos (by rw [tTry, if_pos hwhy]), tTry, if_pos hwhy]) ?_
            refine G.ild10 C dL_isAhead_226 ?_
            refine G.if_le C 236 dL_isAhead_228 (by decide) (fun _ => ?_) (fun h => absurd (by decide) h)
            refine G.ald5 C dL_isAhead_236 ?_
            refine G.ald6 C dL_isAhead_238 ?_
            refine G.bipush C 24 dL_isAhead_240 (by decide) ?_
            refine G.bipush C 24 dL_isAhead_242 (by decide) ?_
            refine G.callSI4 C (TMI (k_L_many l hl2 hv2)) (va_cwS 4 C.1.2.2.2.2 gL_isAhead_L_many rfl rfl rfl (by decide +kernel) ⟨Nat.le_of_ble_eq_true rfl, Nat.le_of_ble_eq_true rfl⟩) (Nat.le_of_ble_eq_true rfl) dL_isAhead_244 ?_
            refine G.aldn1 C dL_isAhead_247 ?_
            refine G.aldn2 C dL_isAhead_248 ?_
            refine G.bipush C 24 dL_isAhead_249 (by decide) ?_
            refine G.bipush C 24 dL_isAhead_251 (by decide) ?_
            refine G.callSI4 C (TLI (k_L_many l hl hv)) (va_cwS 4 C.1.2.2.2.2 gL_isAhead_L_many rfl rfl rfl (by decide +kernel) ⟨Nat.le_of_ble_eq_true rfl, Nat.le_of_ble_eq_true rfl⟩) (Nat.le_of_ble_eq_true rfl) dL_isAhead_253 ?_
            refine G.isub C dL_isAhead_256 ?_
            refine G.icmp_eq C 262 dL_isAhead_257 (by decide) (fun h257 => ?_) (fun h257 => absurd (a2) h257)
            refine G.iincN9 C dL_isAhead_262 (by omega) rfl ?_
            refine G.goto C 27 dL_isAhead_265 (by decide) ?_
            refine G.wide (cl' := 4 + 2 * (k + 1)) (sl' := 167 + 12 * (k + 1)) (by omega) (by omega) ?_
            exact G.back (ih (k + 1) (by omega) _ _) rfl ⟨(by first | rfl | simp), (by first | rfl | simp), (by first | rfl | simp), (by first | rfl | simp), (by first | rfl | simp), (by first | rfl | simp), (by first | rfl | simp), (by first | rfl | simp), (by first | rfl | simp), (by first | rfl | simp), trivial⟩
          · refine G.iconst C 2 dL_isAhead_95 (by decide) ?_
            refine G.goto C 100 dL_isAhead_96 (by decide) ?_
            refine G.ist10 C dL_isAhead_100 (by omega) rfl ?_
            refine G.aldn1 C dL_isAhead_102 ?_
            refine G.ald5 C dL_isAhead_103 ?_
            refine G.callSV2 C (k_L_copy0 l hv hv2) (va_cwS 2 C.1.2.2.2.2 gL_isAhead_L_copy rfl rfl rfl (by decide +kernel) ⟨Nat.le_of_ble_eq_true rfl, Nat.le_of_ble_eq_true rfl⟩) (Nat.le_of_ble_eq_true rfl) dL_isAhead_105 ?_
            refine G.aldn2 C dL_isAhead_108 ?_
            refine G.ald6 C dL_isAhead_109 ?_
            refine G.callSV2 C (k_L_copy1 l hv hv2) (va_cwS 2 C.1.2.2.2.2 gL_isAhead_L_copy rfl rfl rfl (by decide +kernel) ⟨Nat.le_of_ble_eq_true rfl, Nat.le_of_ble_eq_true rfl⟩) (Nat.le_of_ble_eq_true rfl) dL_isAhead_111 ?_
            refine G.aldn3 C dL_isAhead_114 ?_
            refine G.ald7 C dL_isAhead_115 ?_
            refine G.callSV2 C (k_L_copy2 l hv hv2) (va_cwS 2 C.1.2.2.2.2 gL_isAhead_L_copy rfl rfl rfl (by decide +kernel) ⟨Nat.le_of_ble_eq_true rfl, Nat.le_of_ble_eq_true rfl⟩) (Nat.le_of_ble_eq_true rfl) dL_isAhead_117 ?_
            refine G.ild10 C dL_isAhead_120 ?_
            refine G.if_ne C 143 dL_isAhead_122 (by decide) (fun _ => ?_) (fun h => absurd h (by decide))
            refine G.iconst C 0 dL_isAhead_143 (by decide) ?_
            refine G.ist11 C dL_isAhead_144 (by omega) rfl ?_
            refine G.iconst C (-1) dL_isAhead_146 (by decide) ?_
            refine G.ist12 C dL_isAhead_147 (by omega) rfl ?_
            have hwhy : cWhyHome c0 (nI k) t = 2 := by rw [hF2 k (by omega) h40, if_pos h80, if_neg h92]
            refine G.aldn0 C dL_isAhead_149 ?_
            refine G.ild9 C dL_isAhead_150 ?_
            refine G.ild4 C dL_isAhead_152 ?_
            refine G.callVI2 C (k_X3_whyNot l (by rw [← hF1 k (by omega)]; exact h40) ht0 ht1) (cwV 2 C.1.2.2.2.2 gL_isAhead_X3_whyNot rfl rfl rfl (by decide +kernel) ⟨Nat.le_of_ble_eq_true rfl, Nat.le_of_ble_eq_true rfl⟩) gO_m rfl (Nat.le_of_ble_eq_true rfl) dL_isAhead_154 ?_
            refine G.topI (2) hwhy ?_
            refine G.ild10 C dL_isAhead_157 ?_
            refine G.icmp_ne C 260 dL_isAhead_159 (by decide) (fun h => absurd rfl h) (fun _ => ?_)
            refine G.aldn0 C dL_isAhead_162 ?_
            refine G.ild9 C dL_isAhead_163 ?_
            refine G.ild4 C dL_isAhead_165 ?_
            refine G.iconst C 0 dL_isAhead_167 (by decide) ?_
            refine G.callVI3 C (k_X3_ifHome l (by rw [← hF1 k (by omega)]; exact h40) ht0 ht1 (by decide) (by decide)) (cwV 3 C.1.2.2.2.2 gL_isAhead_X3_ifHome rfl rfl rfl (by decide +kernel) ⟨Nat.le_of_ble_eq_true rfl, Nat.le_of_ble_eq_true rfl⟩) gO_m rfl (Nat.le_of_ble_eq_true rfl) dL_isAhead_168 ?_
            refine G.topI (-1) (if_neg (by rw [tTry, if_neg (by rw [hwhy]; decide)]; exact Bool.false_ne_true)) ?_
            refine G.ild10 C dL_isAhead_171 ?_
            refine G.if_le C 181 dL_isAhead_173 (by decide) (fun h => absurd h (by decide)) (fun _ => ?_)
            refine G.ild12 C dL_isAhead_176 ?_
            refine G.goto C 190 dL_isAhead_178 (by decide) ?_
            refine G.icmp_ne C 260 dL_isAhead_190 (by decide) (fun h => absurd rfl h) (fun _ => ?_)
            refine G.aldn0 C dL_isAhead_193 ?_
            refine G.ild9 C dL_isAhead_194 ?_
            refine G.ild4 C dL_isAhead_196 ?_
            refine G.iconst C 1 dL_isAhead_198 (by decide) ?_
            refine G.callVI3 C (k_X3_ifHome l (by rw [← hF1 k (by omega)]; exact h40) ht0 ht1 (by decide) (by decide)) (cwV 3 C.1.2.2.2.2 gL_isAhead_X3_ifHome rfl rfl rfl (by decide +kernel) ⟨Nat.le_of_ble_eq_true rfl, Nat.le_of_ble_eq_true rfl⟩) gO_m rfl (Nat.le_of_ble_eq_true rfl) dL_isAhead_199 ?_
            refine G.topI (-1) (if_neg (by rw [tTry, if_neg (by rw [hwhy]; decide)]; exact Bool.false_ne_true)) ?_
            refine G.ild10 C dL_isAhead_202 ?_
            refine G.if_le C 212 dL_isAhead_204 (by decide) (fun h => absurd h (by decide)) (fun _ => ?_)
            refine G.ild12 C dL_isAhead_207 ?_
            refine G.goto C 214 dL_isAhead_209 (by decide) ?_
            refine G.icmp_ne C 260 dL_isAhead_214 (by decide) (fun h => absurd rfl h) (fun _ => ?_)
            refine G.aldn0 C dL_isAhead_217 ?_
            refine G.ild9 C dL_isAhead_218 ?_
            refine G.ild4 C dL_isAhead_220 ?_
            refine G.iconst C 2 dL_isAhead_222 (by decide) ?_
            refine G.callVI3 C (k_X3_ifHome l (by rw [← hF1 k (by omega)]; exact h40) ht0 ht1 (by decide) (by decide)) (cwV 3 C.1.2.2.2.2 gL_isAhead_X3_ifHome rfl rfl rfl (by decide +kernel) ⟨Nat.le_of_ble_eq_true rfl, Nat.le_of_ble_eq_true rfl⟩) gO_m rfl (Nat.le_of_ble_eq_true rfl) dL_isAhead_223 ?_
            refine G.topI (-1) (if_neg (by rw [tTry, if_neg (by rw [hwhy]; decide)]; exact Bool.false_ne_true)) ?_
            refine G.ild10 C dL_isAhead_226 ?_
            refine G.if_le C 236 dL_isAhead_228 (by decide) (fun h => absurd h (by decide)) (fun _ => ?_)
            refine G.ild12 C dL_isAhead_231 ?_
            refine G.goto C 257 dL_isAhead_233 (by decide) ?_
            refine G.icmp_eq C 262 dL_isAhead_257 (by decide) (fun _ => ?_) (fun h => absurd (by decide) h)
            refine G.iincN9 C dL_isAhead_262 (by omega) rfl ?_
            refine G.goto C 27 dL_isAhead_265 (by decide) ?_
            refine G.wide (cl' := 4 + 2 * (k + 1)) (sl' := 167 + 12 * (k + 1)) (by omega) (by omega) ?_
            exact G.back (ih (k + 1) (by omega) _ _) rfl ⟨(by first | rfl | simp), (by first | rfl | simp), (by first | rfl | simp), (by first | rfl | simp), (by first | rfl | simp), (by first | rfl | simp), (by first | rfl | simp), (by first | rfl | simp), (by first | rfl | simp), (by first | rfl | simp), trivial⟩
        · refine G.iconst C 1 dL_isAhead_83 (by decide) ?_
          refine G.goto C 100 dL_isAhead_84 (by decide) ?_
          refine G.ist10 C dL_isAhead_100 (by omega) rfl ?_
          refine G.aldn1 C dL_isAhead_102 ?_
          refine G.ald5 C dL_isAhead_103 ?_
          refine G.callSV2 C (k_L_copy0 l hv hv2) (va_cwS 2 C.1.2.2.2.2 gL_isAhead_L_copy rfl rfl rfl (by decide +kernel) ⟨Nat.le_of_ble_eq_true rfl, Nat.le_of_ble_eq_true rfl⟩) (Nat.le_of_ble_eq_true rfl) dL_isAhead_105 ?_
          refine G.aldn2 C dL_isAhead_108 ?_
          refine G.ald6 C dL_isAhead_109 ?_
          refine G.callSV2 C (k_L_copy1 l hv hv2) (va_cwS 2 C.1.2.2.2.2 gL_isAhead_L_copy rfl rfl rfl (by decide +kernel) ⟨Nat.le_of_ble_eq_true rfl, Nat.le_of_ble_eq_true rfl⟩) (Nat.le_of_ble_eq_true rfl) dL_isAhead_111 ?_
          refine G.aldn3 C dL_isAhead_114 ?_
          refine G.ald7 C dL_isAhead_115 ?_
          refine G.callSV2 C (k_L_copy2 l hv hv2) (va_cwS 2 C.1.2.2.2.2 gL_isAhead_L_copy rfl rfl rfl (by decide +kernel) ⟨Nat.le_of_ble_eq_true rfl, Nat.le_of_ble_eq_true rfl⟩) (Nat.le_of_ble_eq_true rfl) dL_isAhead_117 ?_
          refine G.ild10 C dL_isAhead_120 ?_
          refine G.if_ne C 143 dL_isAhead_122 (by decide) (fun _ => ?_) (fun h => absurd h (by decide))
          refine G.iconst C 0 dL_isAhead_143 (by decide) ?_
          refine G.ist11 C dL_isAhead_144 (by omega) rfl ?_
          refine G.iconst C (-1) dL_isAhead_146 (by decide) ?_
          refine G.ist12 C dL_isAhead_147 (by omega) rfl ?_
          have hwhy : cWhyHome c0 (nI k) t = 1 := by rw [hF2 k (by omega) h40, if_neg h80]
          refine G.aldn0 C dL_isAhead_149 ?_
          refine G.ild9 C dL_isAhead_150 ?_
          refine G.ild4 C dL_isAhead_152 ?_
          refine G.callVI2 C (k_X3_whyNot l (by rw [← hF1 k (by omega)]; exact h40) ht0 ht1) (cwV 2 C.1.2.2.2.2 gL_isAhead_X3_whyNot rfl rfl rfl (by decide +kernel) ⟨Nat.le_of_ble_eq_true rfl, Nat.le_of_ble_eq_true rfl⟩) gO_m rfl (Nat.le_of_ble_eq_true rfl) dL_isAhead_154 ?_
          refine G.topI (1) hwhy ?_
          refine G.ild10 C dL_isAhead_157 ?_
          refine G.icmp_ne C 260 dL_isAhead_159 (by decide) (fun h => absurd rfl h) (fun _ => ?_)
          refine G.aldn0 C dL_isAhead_162 ?_
          refine G.ild9 C dL_isAhead_163 ?_
          refine G.ild4 C dL_isAhead_165 ?_
          refine G.iconst C 0 dL_isAhead_167 (by decide) ?_
          refine G.callVI3 C (k_X3_ifHome l (by rw [← hF1 k (by omega)]; exact h40) ht0 ht1 (by decide) (by decide)) (cwV 3 C.1.2.2.2.2 gL_isAhead_X3_ifHome rfl rfl rfl (by decide +kernel) ⟨Nat.le_of_ble_eq_true rfl, Nat.le_of_ble_eq_true rfl⟩) gO_m rfl (Nat.le_of_ble_eq_true rfl) dL_isAhead_168 ?_
          refine G.topI (-1) (if_neg (by rw [tTry, if_neg (by rw [hwhy]; decide)]; exact Bool.false_ne_true)) ?_
          refine G.ild10 C dL_isAhead_171 ?_
          refine G.if_le C 181 dL_isAhead_173 (by decide) (fun h => absurd h (by decide)) (fun _ => ?_)
          refine G.ild12 C dL_isAhead_176 ?_
          refine G.goto C 190 dL_isAhead_178 (by decide) ?_
          refine G.icmp_ne C 260 dL_isAhead_190 (by decide) (fun h => absurd rfl h) (fun _ => ?_)
          refine G.aldn0 C dL_isAhead_193 ?_
          refine G.ild9 C dL_isAhead_194 ?_
          refine G.ild4 C dL_isAhead_196 ?_
          refine G.iconst C 1 dL_isAhead_198 (by decide) ?_
          refine G.callVI3 C (k_X3_ifHome l (by rw [← hF1 k (by omega)]; exact h40) ht0 ht1 (by decide) (by decide)) (cwV 3 C.1.2.2.2.2 gL_isAhead_X3_ifHome rfl rfl rfl (by decide +kernel) ⟨Nat.le_of_ble_eq_true rfl, Nat.le_of_ble_eq_true rfl⟩) gO_m rfl (Nat.le_of_ble_eq_true rfl) dL_isAhead_199 ?_
          refine G.topI (-1) (if_neg (by rw [tTry, if_neg (by rw [hwhy]; decide)]; exact Bool.false_ne_true)) ?_
          refine G.ild10 C dL_isAhead_202 ?_
          refine G.if_le C 212 dL_isAhead_204 (by decide) (fun h => absurd h (by decide)) (fun _ => ?_)
          refine G.ild12 C dL_isAhead_207 ?_
          refine G.goto C 214 dL_isAhead_209 (by decide) ?_
          refine G.icmp_ne C 260 dL_isAhead_214 (by decide) (fun h => absurd rfl h) (fun _ => ?_)
          refine G.aldn0 C dL_isAhead_217 ?_
          refine G.ild9 C dL_isAhead_218 ?_
          refine G.ild4 C dL_isAhead_220 ?_
          refine G.iconst C 2 dL_isAhead_222 (by decide) ?_
          refine G.callVI3 C (k_X3_ifHome l (by rw [← hF1 k (by omega)]; exact h40) ht0 ht1 (by decide) (by decide)) (cwV 3 C.1.2.2.2.2 gL_isAhead_X3_ifHome rfl rfl rfl (by decide +kernel) ⟨Nat.le_of_ble_eq_true rfl, Nat.le_of_ble_eq_true rfl⟩) gO_m rfl (Nat.le_of_ble_eq_true rfl) dL_isAhead_223 ?_
          refine G.topI (-1) (if_neg (by rw [tTry, if_neg (by rw [hwhy]; decide)]; exact Bool.false_ne_true)) ?_
          refine G.ild10 C dL_isAhead_226 ?_
          refine G.if_le C 236 dL_isAhead_228 (by decide) (fun h => absurd h (by decide)) (fun _ => ?_)
          refine G.ild12 C dL_isAhead_231 ?_
          refine G.goto C 257 dL_isAhead_233 (by decide) ?_
          refine G.icmp_eq C 262 dL_isAhead_257 (by decide) (fun _ => ?_) (fun h => absurd (by decide) h)
          refine G.iincN9 C dL_isAhead_262 (by omega) rfl ?_
          refine G.goto C 27 dL_isAhead_265 (by decide) ?_
          refine G.wide (cl' := 4 + 2 * (k + 1)) (sl' := 167 + 12 * (k + 1)) (by omega) (by omega) ?_
          exact G.back (ih (k + 1) (by omega) _ _) rfl ⟨(by first | rfl | simp), (by first | rfl | simp), (by first | rfl | simp), (by first | rfl | simp), (by first | rfl | simp), (by first | rfl | simp), (by first | rfl | simp), (by first | rfl | simp), (by first | rfl | simp), (by first | rfl | simp), trivial⟩
      · refine G.aldn0 C dL_isAhead_43 ?_
        refine G.ild9 C dL_isAhead_44 ?_
        refine G.sipush C 1440 dL_isAhead_46 (by decide) ?_
        refine G.callH3 C hZ (k_L_whyNot_t1 l hst (by rw [← hF1 k (by omega)]; exact h40)) (vx_cwSW 3 C.1.2.2.2.2 gL_isAhead_L_whyNot rfl rfl rfl (by decide +kernel) ⟨(Nat.le_of_ble_eq_true rfl), (Nat.le_of_ble_eq_true rfl)⟩) (Nat.le_of_ble_eq_true rfl) dL_isAhead_49 ⟨by show _ ≤ (36 : Nat); omega, by show _ ≤ (359 : Nat); omega⟩ (fun C => ?_)
        refine G.topI ((-31)) rfl ?_
        refine G.bipush C (-31) dL_isAhead_52 (by decide) ?_
        refine G.icmp_ne C 70 dL_isAhead_54 (by decide) (fun h => absurd rfl h) (fun _ => ?_)
        refine G.aldn0 C dL_isAhead_57 ?_
        refine G.ild9 C dL_isAhead_58 ?_
        refine G.iconst C 0 dL_isAhead_60 (by decide) ?_
        refine G.iconst C 3 dL_isAhead_61 (by decide) ?_
        refine G.callH4 C hZ (k_L_ifHome_t1 l hst (by rw [← hF1 k (by omega)]; exact h40)) (vx_cwSW 4 C.1.2.2.2.2 gL_isAhead_L_ifHome rfl rfl rfl (by decide +kernel) ⟨(Nat.le_of_ble_eq_true rfl), (Nat.le_of_ble_eq_true rfl)⟩) (Nat.le_of_ble_eq_true rfl) dL_isAhead_62 ⟨by show _ ≤ (36 : Nat); omega, by show _ ≤ (359 : Nat); omega⟩ (fun C => ?_)
        refine G.topI ((-31)) rfl ?_
        refine G.bipush C (-31) dL_isAhead_65 (by decide) ?_
        refine G.icmp_eq C 262 dL_isAhead_67 (by decide) (fun _ => ?_) (fun h => absurd (by decide) h)
        refine G.iincN9 C dL_isAhead_262 (by omega) rfl ?_
        refine G.goto C 27 dL_isAhead_265 (by decide) ?_
        refine G.wide (cl' := 4 + 2 * (k + 1)) (sl' := 167 + 12 * (k + 1)) (by omega) (by omega) ?_
        exact G.back (ih (k + 1) (by omega) _ _) rfl ⟨(by first | rfl | simp), (by first | rfl | simp), (by first | rfl | simp), (by first | rfl | simp), (by first | rfl | simp), (by first | rfl | simp), (by first | rfl | simp), (by first | rfl | simp), (by first | rfl | simp), (by first | rfl | simp), trivial⟩
  refine G.wide (cl' := 4 + 2 * 0) (sl' := 167 + 12 * 0) (by omega) (by omega) ?_
  exact G.back (L27 16 0 (Nat.zero_add _) _ _) rfl ⟨(by first | rfl | simp), (by first | rfl | simp), (by first | rfl | simp), (by first | rfl | simp), (by first | rfl | simp), (by first | rfl | simp), (by first | rfl | simp), (by first | rfl | simp), (by first | rfl | simp), (by first | rfl | simp), trivial⟩
