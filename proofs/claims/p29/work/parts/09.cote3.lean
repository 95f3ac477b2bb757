set_option maxRecDepth 100000 in
set_option maxHeartbeats 4000000 in
theorem k_X0_addDove (l : Launch) {E : gEn} {σ : gSt} {π : Nat → Nat} {o : Int64} {i : Nat} (hi : i < 9) {c : Nat → Nat → Int32} {x y : Int32} (hx : vp_in x 24) : CtI l yX0_addDove wsX0_addDove ({ frames := 1, cells := 0, slots := 0, locals := 21 } : Room) E [.ref (E.2.1 i 0), .int x, .int y] (gU σ i c) π o ((cAdd c x y).1) (gU σ i ((cAdd c x y).2)) π o := by
  refine CtI.of (cc := cX0_addDove) (own := RX0) (maxL := 4) (ret := (some .int)) [some (.ref (E.2.1 i 0)), some (.int x), some (.int y), none] (by decide) rfl rfl (Nat.le_of_ble_eq_true rfl) rfl ?_
  intro p e s m args below meth cd C hrt hlk
  have hinX0 : ∀ w ∈ wsX00, w ∈ wsX0_addDove := by decide +kernel
  refine G.iconst C 0 dX0_addDove_0 (by decide) ?_
  refine G.istn3 C dX0_addDove_1 (by omega) rfl ?_
  have L2 : ∀ (n k : Nat), k + n = 16 → cFirstF c 16 0 = cFirstF c n k → G p l e ({ frames := 1, cells := 0, slots := 0, locals := 21 } : Room) s m args below meth cd 4 0 0 (gA E) (gQI below args s ((cAdd c x y).1) E (gU σ i ((cAdd c x y).2)) π o) E (gU σ i c) π o 2 [some (.ref (E.2.1 i 0)), some (.int x), some (.int y), some (.int (nI k))] [] := by
    intro n
    induction n with
    | zero =>
      intro k hk  hq0
      obtain rfl : 16 = k := by omega
      refine G.ildn3 C dX0_addDove_2 ?_
      refine G.bipush C 16 dX0_addDove_3 (by decide) ?_
      refine G.icmp_ge C 51 dX0_addDove_5 (by decide) (fun _ => ?_) (fun h => absurd (nI_le (a := 16) (b := 16) (by omega) (by decide)) h)
      refine G.iconst C (-1) dX0_addDove_51 (by decide) ?_
      exact G.iret C hlk hrt dX0_addDove_52 (by rw [cAdd_n (by rw [hq0]; rfl)]) (by intro H h; rw [cAdd_n (by rw [hq0]; rfl)]; exact h)
    | succ n ih =>
      intro k hk  hq0
      have hk2 : k < 16 := by omega
      refine G.ildn3 C dX0_addDove_2 ?_
      refine G.bipush C 16 dX0_addDove_3 (by decide) ?_
      refine G.icmp_ge C 51 dX0_addDove_5 (by decide) (fun h => absurd h (nI_ge (b := 16) hk2 (by decide))) (fun _ => ?_)
      refine G.aldn0 C dX0_addDove_8 ?_
      refine G.ildn3 C dX0_addDove_9 ?_
      refine G.callVI1 C (k_X0_exists l hi) (cwV 1 C.1.2.2.2.2 gX0_addDove_X0_exists rfl rfl rfl (by decide +kernel) ⟨Nat.le_of_ble_eq_true rfl, Nat.le_of_ble_eq_true rfl⟩) (gO_c hi) rfl (Nat.le_of_ble_eq_true rfl) dX0_addDove_10 ?_
      refine G.if_neB C 45 dX0_addDove_13 (by decide) (fun h13 => ?_) (fun h13 => ?_)
      · refine G.iincN3 C dX0_addDove_45 (by omega) rfl ?_
        refine G.goto C 2 dX0_addDove_48 (by decide) ?_
        exact G.back (ih (k + 1) (by omega) (by rw [hq0]; simp [cFirstF, *])) rfl ⟨(by first | rfl | simp), (by first | rfl | simp), (by first | rfl | simp), (by first | rfl | simp), trivial⟩
      · refine G.aldn0 C dX0_addDove_16 ?_
        refine G.getC C hi hinX0 0 (by decide) rfl (C.1.2.2.2.2 (.fieldLink RX0 11 RX0 "doves" "[[I") (by decide +kernel)) rfl dX0_addDove_17 ?_
        refine G.iconst C 0 dX0_addDove_20 (by decide) ?_
        refine G.aaldD C hi 2 (by unfold vp_in; decide) (by decide) dX0_addDove_21 ?_
        refine G.ildn3 C dX0_addDove_22 ?_
        refine G.ildn1 C dX0_addDove_23 ?_
        refine G.iastU C (n := 16) (j := 2) (d0 := k) (gN_c hi rfl) (gV_c hi (by omega)) (by first | assumption | exact vp_in_nI (by omega) (by omega) | (unfold vp_in; decide)) (ix_nI (by omega)) dX0_addDove_24 ?_
        refine G.aldn0 C dX0_addDove_25 ?_
        refine G.getC C hi hinX0 0 (by decide) rfl (C.1.2.2.2.2 (.fieldLink RX0 11 RX0 "doves" "[[I") (by decide +kernel)) rfl dX0_addDove_26 ?_
        refine G.iconst C 1 dX0_addDove_29 (by decide) ?_
        refine G.aaldD C hi 3 (by unfold vp_in; decide) (by decide) dX0_addDove_30 ?_
        refine G.ildn3 C dX0_addDove_31 ?_
        refine G.ildn2 C dX0_addDove_32 ?_
        refine G.iastU C (n := 16) (j := 3) (d0 := k) (gN_c hi rfl) (gV_c hi (by omega)) (by first | assumption | exact vp_in_nI (by omega) (by omega) | (unfold vp_in; decide)) (ix_nI (by omega)) dX0_addDove_33 ?_
        refine G.aldn0 C dX0_addDove_34 ?_
        refine G.getC C hi hinX0 1 (by decide) rfl (C.1.2.2.2.2 (.fieldLink RX0 16 RX0 "holes" "[[I") (by decide +kernel)) rfl dX0_addDove_35 ?_
        refine G.iconst C 1 dX0_addDove_38 (by decide) ?_
        refine G.aaldH C hi 12 (by unfold vp_in; decide) (by decide) dX0_addDove_39 ?_
        refine G.ildn1 C dX0_addDove_40 ?_
        refine G.ildn3 C dX0_addDove_41 ?_
        refine G.iastU C (n := 24) (j := 12) (d0 := _) (gN_c hi rfl) (gV_c hi (by omega)) (by first | assumption | exact vp_in_nI (by omega) (by omega) | (unfold vp_in; decide)) rfl dX0_addDove_42 ?_
        refine G.ildn3 C dX0_addDove_43 ?_
        exact G.iret C hlk hrt dX0_addDove_44 (by rw [cAdd_k (k := k) (by rw [hq0]; simp [cFirstF, *])]) (by intro H h; rw [cAdd_k (k := k) (by rw [hq0]; simp [cFirstF, *])]; exact h)
  exact G.back (L2 16 0 (Nat.zero_add _) rfl) rfl ⟨(by first | rfl | simp), (by first | rfl | simp), (by first | rfl | simp), (by first | rfl | simp), trivial⟩
set_option maxRecDepth 100000 in
set_option maxHeartbeats 4000000 in
theorem k_X0_removeDove_79 (l : Launch) {E : gEn} {σ : gSt} {π : Nat → Nat} {o : Int64} {i : Nat} (hi : i < 9) {c c5 : cSt} {x pl : Int32} (hx : vp_in x 16) (h5 : c5 = cRem1 c x) {p : Program} {e : Env} {s : State} {m : MethodId} {args : Array Value} {below : List Frame} {meth : Method} {cd : Code} (C : gCx p s m cd cX0_removeDove 6 RX0 wsX0_removeDove args E (gA E) ({ frames := 1, cells := 0, slots := 0, locals := 21 } : Room) 0 0) (hrt : meth.sig.returnType = (some .int)) (hlk : meth.locks = false) : G p l e ({ frames := 1, cells := 0, slots := 0, locals := 21 } : Room) s m args below meth cd 6 0 0 (gA E) (gQI below args s (pl) E (gU σ i c5) π o) E (gU σ i c) π o 79 [some (.ref (E.2.1 i 0)), some (.int x), none, some (.int pl), none, none] [] := by
  have hinX0 : ∀ w ∈ wsX00, w ∈ wsX0_removeDove := by decide +kernel
  refine G.iconst C 0 dX0_removeDove_79 (by decide) ?_
  refine G.ist5 C dX0_removeDove_80 (by omega) rfl ?_
  have L82 : ∀ (n k : Nat), k + n = 8 → G p l e ({ frames := 1, cells := 0, slots := 0, locals := 21 } : Room) s m args below meth cd 6 0 0 (gA E) (gQI below args s (pl) E (gU σ i c5) π o) E (gU σ i (cZero c (ix x) k)) π o 82 [some (.ref (E.2.1 i 0)), some (.int x), none, some (.int pl), none, some (.int (nI k))] [] := by
    intro n
    induction n with
    | zero =>
      intro k hk
      obtain rfl : 8 = k := by omega
      refine G.ild5 C dX0_removeDove_82 ?_
      refine G.bipush C 8 dX0_removeDove_84 (by decide) ?_
      refine G.icmp_ge C 105 dX0_removeDove_86 (by decide) (fun _ => ?_) (fun h => absurd (nI_le (a := 8) (b := 8) (by omega) (by decide)) h)
      refine G.aldn0 C dX0_removeDove_105 ?_
      refine G.getC C hi hinX0 0 (by decide) rfl (C.1.2.2.2.2 (.fieldLink RX0 11 RX0 "doves" "[[I") (by decide +kernel)) rfl dX0_removeDove_106 ?_
      refine G.iconst C 0 dX0_removeDove_109 (by decide) ?_
      refine G.aaldD C hi 2 (by unfold vp_in; decide) (by decide) dX0_removeDove_110 ?_
      refine G.ildn1 C dX0_removeDove_111 ?_
      refine G.iconst C (-1) dX0_removeDove_112 (by decide) ?_
      refine G.iastU C (n := 16) (j := 2) (d0 := _) (gN_c hi rfl) (gV_c hi (by omega)) (by first | assumption | exact vp_in_nI (by omega) (by omega) | (unfold vp_in; decide)) rfl dX0_removeDove_113 ?_
      refine G.aldn0 C dX0_removeDove_114 ?_
      refine G.getC C hi hinX0 0 (by decide) rfl (C.1.2.2.2.2 (.fieldLink RX0 11 RX0 "doves" "[[I") (by decide +kernel)) rfl dX0_removeDove_115 ?_
      refine G.iconst C 2 dX0_removeDove_118 (by decide) ?_
      refine G.aaldD C hi 4 (by unfold vp_in; decide) (by decide) dX0_removeDove_119 ?_
      refine G.ildn1 C dX0_removeDove_120 ?_
      refine G.iconst C (-1) dX0_removeDove_121 (by decide) ?_
      refine G.iastU C (n := 16) (j := 4) (d0 := _) (gN_c hi rfl) (gV_c hi (by omega)) (by first | assumption | exact vp_in_nI (by omega) (by omega) | (unfold vp_in; decide)) rfl dX0_removeDove_122 ?_
      refine G.aldn0 C dX0_removeDove_123 ?_
      refine G.getC C hi hinX0 0 (by decide) rfl (C.1.2.2.2.2 (.fieldLink RX0 11 RX0 "doves" "[[I") (by decide +kernel)) rfl dX0_removeDove_124 ?_
      refine G.iconst C 3 dX0_removeDove_127 (by decide) ?_
      refine G.aaldD C hi 5 (by unfold vp_in; decide) (by decide) dX0_removeDove_128 ?_
      refine G.ildn1 C dX0_removeDove_129 ?_
      refine G.iconst C (-1) dX0_removeDove_130 (by decide) ?_
      refine G.iastU C (n := 16) (j := 5) (d0 := _) (gN_c hi rfl) (gV_c hi (by omega)) (by first | assumption | exact vp_in_nI (by omega) (by omega) | (unfold vp_in; decide)) rfl dX0_removeDove_131 ?_
      refine G.ildn3 C dX0_removeDove_132 ?_
      exact G.iret C hlk hrt dX0_removeDove_133 (by rfl) (by intro H h; rw [h5]; exact h)
    | succ n ih =>
      intro k hk
      have hk2 : k < 8 := by omega
      refine G.ild5 C dX0_removeDove_82 ?_
      refine G.bipush C 8 dX0_removeDove_84 (by decide) ?_
      refine G.icmp_ge C 105 dX0_removeDove_86 (by decide) (fun h => absurd h (nI_ge (b := 8) hk2 (by decide))) (fun _ => ?_)
      refine G.aldn0 C dX0_removeDove_89 ?_
      refine G.getC C hi hinX0 0 (by decide) rfl (C.1.2.2.2.2 (.fieldLink RX0 11 RX0 "doves" "[[I") (by decide +kernel)) rfl dX0_removeDove_90 ?_
      refine G.ild5 C dX0_removeDove_93 ?_
      refine G.aaldD C hi (2 + k) (by first | assumption | exact vp_in_nI (by omega) (by omega) | (unfold vp_in; decide)) (by rw [ix_nI (by omega)]) dX0_removeDove_95 ?_
      refine G.ildn1 C dX0_removeDove_96 ?_
      refine G.iconst C 0 dX0_removeDove_97 (by decide) ?_
      refine G.iastU C (n := 16) (j := 2 + k) (d0 := _) (gN_row hi hk2) (gV_c hi (by omega)) (by first | assumption | exact vp_in_nI (by omega) (by omega) | (unfold vp_in; decide)) rfl dX0_removeDove_98 ?_
      refine G.iincN5 C dX0_removeDove_99 (by omega) rfl ?_
      refine G.goto C 82 dX0_removeDove_102 (by decide) ?_
      exact G.back (ih (k + 1) (by omega) ) rfl ⟨(by first | rfl | simp), (by first | rfl | simp), (by first | rfl | simp), (by first | rfl | simp), trivial⟩
  exact G.back (L82 8 0 (Nat.zero_add _) ) rfl ⟨(by first | rfl | simp), (by first | rfl | simp), (by first | rfl | simp), (by first | rfl | simp), trivial⟩
set_option maxRecDepth 100000 in
set_option maxHeartbeats 4000000 in
theorem k_X0_removeDove (l : Launch) {E : gEn} {σ : gSt} {π : Nat → Nat} {o : Int64} {i : Nat} (hi : i < 9) {c : Nat → Nat → Int32} {x : Int32} (hx : vp_in x 16) : CtI l yX0_removeDove wsX0_removeDove ({ frames := 1, cells := 0, slots := 0, locals := 21 } : Room) E [.ref (E.2.1 i 0), .int x] (gU σ i c) π o (c 4 (ix x)) (gU σ i (cRem c x)) π o := by
  refine CtI.of (cc := cX0_removeDove) (own := RX0) (maxL := 6) (ret := (some .int)) [some (.ref (E.2.1 i 0)), some (.int x), none, none, none, none] (by decide) rfl rfl (Nat.le_of_ble_eq_true rfl) rfl ?_
  intro p e s m args below meth cd C hrt hlk
  have hinX0 : ∀ w ∈ wsX00, w ∈ wsX0_removeDove := by decide +kernel
  refine G.aldn0 C dX0_removeDove_0 ?_
  refine G.getC C hi hinX0 0 (by decide) rfl (C.1.2.2.2.2 (.fieldLink RX0 11 RX0 "doves" "[[I") (by decide +kernel)) rfl dX0_removeDove_1 ?_
  refine G.iconst C 0 dX0_removeDove_4 (by decide) ?_
  refine G.aaldD C hi 2 (by unfold vp_in; decide) (by decide) dX0_removeDove_5 ?_
  refine G.ildn1 C dX0_removeDove_6 ?_
  refine G.ialdU C (n := 16) (j := 2) (d0 := _) (gN_c hi rfl) (gV_c hi (by omega)) (by first | assumption | exact vp_in_nI (by omega) (by omega) | (unfold vp_in; decide)) rfl dX0_removeDove_7 ?_
  refine G.istn2 C dX0_removeDove_8 (by omega) rfl ?_
  refine G.aldn0 C dX0_removeDove_9 ?_
  refine G.getC C hi hinX0 0 (by decide) rfl (C.1.2.2.2.2 (.fieldLink RX0 11 RX0 "doves" "[[I") (by decide +kernel)) rfl dX0_removeDove_10 ?_
  refine G.iconst C 2 dX0_removeDove_13 (by decide) ?_
  refine G.aaldD C hi 4 (by unfold vp_in; decide) (by decide) dX0_removeDove_14 ?_
  refine G.ildn1 C dX0_removeDove_15 ?_
  refine G.ialdU C (n := 16) (j := 4) (d0 := _) (gN_c hi rfl) (gV_c hi (by omega)) (by first | assumption | exact vp_in_nI (by omega) (by omega) | (unfold vp_in; decide)) rfl dX0_removeDove_16 ?_
  refine G.istn3 C dX0_removeDove_17 (by omega) rfl ?_
  refine G.aldn0 C dX0_removeDove_18 ?_
  refine G.getC C hi hinX0 0 (by decide) rfl (C.1.2.2.2.2 (.fieldLink RX0 11 RX0 "doves" "[[I") (by decide +kernel)) rfl dX0_removeDove_19 ?_
  refine G.iconst C 3 dX0_removeDove_22 (by decide) ?_
  refine G.aaldD C hi 5 (by unfold vp_in; decide) (by decide) dX0_removeDove_23 ?_
  refine G.ildn1 C dX0_removeDove_24 ?_
  refine G.ialdU C (n := 16) (j := 5) (d0 := _) (gN_c hi rfl) (gV_c hi (by omega)) (by first | assumption | exact vp_in_nI (by omega) (by omega) | (unfold vp_in; decide)) rfl dX0_removeDove_25 ?_
  refine G.ist4 C dX0_removeDove_26 (by omega) rfl ?_
  refine G.ildn2 C dX0_removeDove_28 ?_
  refine G.callSNI1 C (k_X3_isHole l) ⟨va_cnB 1 C.1.2.2.2.2 gX0_removeDove_X3_isHole_n59 rfl rfl rfl (va_Nw_isHole C.2.1) (C.1.2.2.2.2 (.initialized RX3) (by decide +kernel)) (by decide +kernel) ⟨Nat.le_of_ble_eq_true rfl, Nat.le_of_ble_eq_true rfl⟩, (C.1.2.2.2.2 (.static yX3_isHole) (by decide +kernel)), trivial⟩ (Nat.le_of_ble_eq_true rfl) dX0_removeDove_29 ?_
  refine G.if_eqB C 44 dX0_removeDove_32 (by decide) (fun h32 => ?_) (fun h32 => ?_)
  · refine G.ildn3 C dX0_removeDove_44 ?_
    refine G.callSNI1 C (k_X3_isHole l) ⟨va_cnB 1 C.1.2.2.2.2 gX0_removeDove_X3_isHole_n59 rfl rfl rfl (va_Nw_isHole C.2.1) (C.1.2.2.2.2 (.initialized RX3) (by decide +kernel)) (by decide +kernel) ⟨Nat.le_of_ble_eq_true rfl, Nat.le_of_ble_eq_true rfl⟩, (C.1.2.2.2.2 (.static yX3_isHole) (by decide +kernel)), trivial⟩ (Nat.le_of_ble_eq_true rfl) dX0_removeDove_45 ?_
    refine G.if_eqB C 60 dX0_removeDove_48 (by decide) (fun h48 => ?_) (fun h48 => ?_)
    · refine G.aldn0 C dX0_removeDove_60 ?_
      refine G.ild4 C dX0_removeDove_61 ?_
      refine G.callVI1 C (k_X0_exists l hi) (cwV 1 C.1.2.2.2.2 gX0_removeDove_X0_exists rfl rfl rfl (by decide +kernel) ⟨Nat.le_of_ble_eq_true rfl, Nat.le_of_ble_eq_true rfl⟩) (gO_c hi) rfl (Nat.le_of_ble_eq_true rfl) dX0_removeDove_63 ?_
      refine G.if_eqB C 79 dX0_removeDove_66 (by decide) (fun h66 => ?_) (fun h66 => ?_)
      · refine G.less (gSub_ok [some (.ref (E.2.1 i 0)), some (.int x), none, some (.int (c 4 (ix x))), none, none] _ ⟨rfl, rfl, rfl, trivial⟩) ?_
        refine G.cast (σ' := gU σ i (cRemC c x)) (k_X0_removeDove_79 l hi hx rfl C hrt hlk) (by simp [cRemC, cRemB, cRemA, *]) rfl rfl rfl rfl
      · refine G.aldn0 C dX0_removeDove_69 ?_
        refine G.getC C hi hinX0 0 (by decide) rfl (C.1.2.2.2.2 (.fieldLink RX0 11 RX0 "doves" "[[I") (by decide +kernel)) rfl dX0_removeDove_70 ?_
        refine G.iconst C 3 dX0_removeDove_73 (by decide) ?_
        refine G.aaldD C hi 5 (by unfold vp_in; decide) (by decide) dX0_removeDove_74 ?_
        refine G.ild4 C dX0_removeDove_75 ?_
        refine G.iconst C (-1) dX0_removeDove_77 (by decide) ?_
        refine G.iastU C (n := 16) (j := 5) (d0 := _) (gN_c hi rfl) (gV_c hi (by omega)) (cEx_in h66) rfl dX0_removeDove_78 ?_
        refine G.less (gSub_ok [some (.ref (E.2.1 i 0)), some (.int x), none, some (.int (c 4 (ix x))), none, none] _ ⟨rfl, rfl, rfl, trivial⟩) ?_
        refine G.cast (σ' := gU σ i (cRemC c x)) (k_X0_removeDove_79 l hi hx rfl C hrt hlk) (by simp [cRemC, cRemB, cRemA, *]) rfl rfl rfl rfl
    · refine G.aldn0 C dX0_removeDove_51 ?_
      refine G.getC C hi hinX0 1 (by decide) rfl (C.1.2.2.2.2 (.fieldLink RX0 16 RX0 "holes" "[[I") (by decide +kernel)) rfl dX0_removeDove_52 ?_
      refine G.iconst C 0 dX0_removeDove_55 (by decide) ?_
      refine G.aaldH C hi 11 (by unfold vp_in; decide) (by decide) dX0_removeDove_56 ?_
      refine G.ildn3 C dX0_removeDove_57 ?_
      refine G.iconst C (-1) dX0_removeDove_58 (by decide) ?_
      refine G.iastU C (n := 24) (j := 11) (d0 := _) (gN_c hi rfl) (gV_c hi (by omega)) (hHole_in h48) rfl dX0_removeDove_59 ?_
      refine G.aldn0 C dX0_removeDove_60 ?_
      refine G.ild4 C dX0_removeDove_61 ?_
      refine G.callVI1 C (k_X0_exists l hi) (cwV 1 C.1.2.2.2.2 gX0_removeDove_X0_exists rfl rfl rfl (by decide +kernel) ⟨Nat.le_of_ble_eq_true rfl, Nat.le_of_ble_eq_true rfl⟩) (gO_c hi) rfl (Nat.le_of_ble_eq_true rfl) dX0_removeDove_63 ?_
      refine G.if_eqB C 79 dX0_removeDove_66 (by decide) (fun h66 => ?_) (fun h66 => ?_)
      · refine G.less (gSub_ok [some (.ref (E.2.1 i 0)), some (.int x), none, some (.int (c 4 (ix x))), none, none] _ ⟨rfl, rfl, rfl, trivial⟩) ?_
        refine G.cast (σ' := gU σ i (cRemC c x)) (k_X0_removeDove_79 l hi hx rfl C hrt hlk) (by simp [cRemC, cRemB, cRemA, *]) rfl rfl rfl rfl
      · refine G.aldn0 C dX0_removeDove_69 ?_
        refine G.getC C hi hinX0 0 (by decide) rfl (C.1.2.2.2.2 (.fieldLink RX0 11 RX0 "doves" "[[I") (by decide +kernel)) rfl dX0_removeDove_70 ?_
        refine G.iconst C 3 dX0_removeDove_73 (by decide) ?_
        refine G.aaldD C hi 5 (by unfold vp_in; decide) (by decide) dX0_removeDove_74 ?_
        refine G.ild4 C dX0_removeDove_75 ?_
        refine G.iconst C (-1) dX0_removeDove_77 (by decide) ?_
        refine G.iastU C (n := 16) (j := 5) (d0 := _) (gN_c hi rfl) (gV_c hi (by omega)) (cEx_in h66) rfl dX0_removeDove_78 ?_
        refine G.less (gSub_ok [some (.ref (E.2.1 i 0)), some (.int x), none, some (.int (c 4 (ix x))), none, none] _ ⟨rfl, rfl, rfl, trivial⟩) ?_
        refine G.cast (σ' := gU σ i (cRemC c x)) (k_X0_removeDove_79 l hi hx rfl C hrt hlk) (by simp [cRemC, cRemB, cRemA, *]) rfl rfl rfl rfl
  · refine G.aldn0 C dX0_removeDove_35 ?_
    refine G.getC C hi hinX0 1 (by decide) rfl (C.1.2.2.2.2 (.fieldLink RX0 16 RX0 "holes" "[[I") (by decide +kernel)) rfl dX0_removeDove_36 ?_
    refine G.iconst C 1 dX0_removeDove_39 (by decide) ?_
    refine G.aaldH C hi 12 (by unfold vp_in; decide) (by decide) dX0_removeDove_40 ?_
    refine G.ildn2 C dX0_removeDove_41 ?_
    refine G.iconst C (-1) dX0_removeDove_42 (by decide) ?_
    refine G.iastU C (n := 24) (j := 12) (d0 := _) (gN_c hi rfl) (gV_c hi (by omega)) (hHole_in h32) rfl dX0_removeDove_43 ?_
    refine G.ildn3 C dX0_removeDove_44 ?_
    refine G.callSNI1 C (k_X3_isHole l) ⟨va_cnB 1 C.1.2.2.2.2 gX0_removeDove_X3_isHole_n59 rfl rfl rfl (va_Nw_isHole C.2.1) (C.1.2.2.2.2 (.initialized RX3) (by decide +kernel)) (by decide +kernel) ⟨Nat.le_of_ble_eq_true rfl, Nat.le_of_ble_eq_true rfl⟩, (C.1.2.2.2.2 (.static yX3_isHole) (by decide +kernel)), trivial⟩ (Nat.le_of_ble_eq_true rfl) dX0_removeDove_45 ?_
    refine G.if_eqB C 60 dX0_removeDove_48 (by decide) (fun h48 => ?_) (fun h48 => ?_)
    · refine G.aldn0 C dX0_removeDove_60 ?_
      refine G.ild4 C dX0_removeDove_61 ?_
      refine G.callVI1 C (k_X0_exists l hi) (cwV 1 C.1.2.2.2.2 gX0_removeDove_X0_exists rfl rfl rfl (by decide +kernel) ⟨Nat.le_of_ble_eq_true rfl, Nat.le_of_ble_eq_true rfl⟩) (gO_c hi) rfl (Nat.le_of_ble_eq_true rfl) dX0_removeDove_63 ?_
      refine G.if_eqB C 79 dX0_removeDove_66 (by decide) (fun h66 => ?_) (fun h66 => ?_)
      · refine G.less (gSub_ok [some (.ref (E.2.1 i 0)), some (.int x), none, some (.int (c 4 (ix x))), none, none] _ ⟨rfl, rfl, rfl, trivial⟩) ?_
        refine G.cast (σ' := gU σ i (cRemC c x)) (k_X0_removeDove_79 l hi hx rfl C hrt hlk) (by simp [cRemC, cRemB, cRemA, *]) rfl rfl rfl rfl
      · refine G.aldn0 C dX0_removeDove_69 ?_
        refine G.getC C hi hinX0 0 (by decide) rfl (C.1.2.2.2.2 (.fieldLink RX0 11 RX0 "doves" "[[I") (by decide +kernel)) rfl dX0_removeDove_70 ?_
        refine G.iconst C 3 dX0_removeDove_73 (by decide) ?_
        refine G.aaldD C hi 5 (by unfold vp_in; decide) (by decide) dX0_removeDove_74 ?_
        refine G.ild4 C dX0_removeDove_75 ?_
        refine G.iconst C (-1) dX0_removeDove_77 (by decide) ?_
        refine G.iastU C (n := 16) (j := 5) (d0 := _) (gN_c hi rfl) (gV_c hi (by omega)) (cEx_in h66) rfl dX0_removeDove_78 ?_
        refine G.less (gSub_ok [some (.ref (E.2.1 i 0)), some (.int x), none, some (.int (c 4 (ix x))), none, none] _ ⟨rfl, rfl, rfl, trivial⟩) ?_
        refine G.cast (σ' := gU σ i (cRemC c x)) (k_X0_removeDove_79 l hi hx rfl C hrt hlk) (by simp [cRemC, cRemB, cRemA, *]) rfl rfl rfl rfl
    · refine G.aldn0 C dX0_removeDove_51 ?_
      refine G.getC C hi hinX0 1 (by decide) rfl (C.1.2.2.2.2 (.fieldLink RX0 16 RX0 "holes" "[[I") (by decide +kernel)) rfl dX0_removeDove_52 ?_
      refine G.iconst C 0 dX0_removeDove_55 (by decide) ?_
      refine G.aaldH C hi 11 (by unfold vp_in; decide) (by decide) dX0_removeDove_56 ?_
      refine G.ildn3 C dX0_removeDove_57 ?_
      refine G.iconst C (-1) dX0_removeDove_58 (by decide) ?_
      refine G.iastU C (n := 24) (j := 11) (d0 := _) (gN_c hi rfl) (gV_c hi (by omega)) (hHole_in h48) rfl dX0_removeDove_59 ?_
      refine G.aldn0 C dX0_removeDove_60 ?_
      refine G.ild4 C dX0_removeDove_61 ?_
      refine G.callVI1 C (k_X0_exists l hi) (cwV 1 C.1.2.2.2.2 gX0_removeDove_X0_exists rfl rfl rfl (by decide +kernel) ⟨Nat.le_of_ble_eq_true rfl, Nat.le_of_ble_eq_true rfl⟩) (gO_c hi) rfl (Nat.le_of_ble_eq_true rfl) dX0_removeDove_63 ?_
      refine G.if_eqB C 79 dX0_removeDove_66 (by decide) (fun h66 => ?_) (fun h66 => ?_)
      · refine G.less (gSub_ok [some (.ref (E.2.1 i 0)), some (.int x), none, some (.int (c 4 (ix x))), none, none] _ ⟨rfl, rfl, rfl, trivial⟩) ?_
        refine G.cast (σ' := gU σ i (cRemC c x)) (k_X0_removeDove_79 l hi hx rfl C hrt hlk) (by simp [cRemC, cRemB, cRemA, *]) rfl rfl rfl rfl
      · refine G.aldn0 C dX0_removeDove_69 ?_
        refine G.getC C hi hinX0 0 (by decide) rfl (C.1.2.2.2.2 (.fieldLink RX0 11 RX0 "doves" "[[I") (by decide +kernel)) rfl dX0_removeDove_70 ?_
        refine G.iconst C 3 dX0_removeDove_73 (by decide) ?_
        refine G.aaldD C hi 5 (by unfold vp_in; decide) (by decide) dX0_removeDove_74 ?_
        refine G.ild4 C dX0_removeDove_75 ?_
        refine G.iconst C (-1) dX0_removeDove_77 (by decide) ?_
        refine G.iastU C (n := 16) (j := 5) (d0 := _) (gN_c hi rfl) (gV_c hi (by omega)) (cEx_in h66) rfl dX0_removeDove_78 ?_
        refine G.less (gSub_ok [some (.ref (E.2.1 i 0)), some (.int x), none, some (.int (c 4 (ix x))), none, none] _ ⟨rfl, rfl, rfl, trivial⟩) ?_
        refine G.cast (σ' := gU σ i (cRemC c x)) (k_X0_removeDove_79 l hi hx rfl C hrt hlk) (by simp [cRemC, cRemB, cRemA, *]) rfl rfl rfl rfl
set_option maxRecDepth 100000 in
set_option maxHeartbeats 4000000 in
theorem k_X0_pair (l : Launch) {E : gEn} {σ : gSt} {π : Nat → Nat} {o : Int64} {i : Nat} (hi : i < 9) {c : Nat → Nat → Int32} {x y : Int32} (hx : vp_in x 16) (hy : vp_in y 16) : CtV l yX0_pair wsX0_pair ({ frames := 0, cells := 0, slots := 0, locals := 0 } : Room) E [.ref (E.2.1 i 0), .int x, .int y] (gU σ i c) π o  (gU σ i (cPair c x y)) π o := by
  refine CtV.of (cc := cX0_pair) (own := RX0) (maxL := 3) (ret := none) [some (.ref (E.2.1 i 0)), some (.int x), some (.int y)] (by decide) rfl rfl (Nat.le_of_ble_eq_true rfl) rfl ?_
  intro p e s m args below meth cd C hrt hlk
  have hinX0 : ∀ w ∈ wsX00, w ∈ wsX0_pair := by decide +kernel
  refine G.aldn0 C dX0_pair_0 ?_
  refine G.getC C hi hinX0 0 (by decide) rfl (C.1.2.2.2.2 (.fieldLink RX0 11 RX0 "doves" "[[I") (by decide +kernel)) rfl dX0_pair_1 ?_
  refine G.iconst C 3 dX0_pair_4 (by decide) ?_
  refine G.aaldD C hi 5 (by unfold vp_in; decide) (by decide) dX0_pair_5 ?_
  refine G.ildn1 C dX0_pair_6 ?_
  refine G.ildn2 C dX0_pair_7 ?_
  refine G.iastU C (n := 16) (j := 5) (d0 := _) (gN_c hi rfl) (gV_c hi (by omega)) (by first | assumption | exact vp_in_nI (by omega) (by omega) | (unfold vp_in; decide)) rfl dX0_pair_8 ?_
  refine G.aldn0 C dX0_pair_9 ?_
  refine G.getC C hi hinX0 0 (by decide) rfl (C.1.2.2.2.2 (.fieldLink RX0 11 RX0 "doves" "[[I") (by decide +kernel)) rfl dX0_pair_10 ?_
  refine G.iconst C 3 dX0_pair_13 (by decide) ?_
  refine G.aaldD C hi 5 (by unfold vp_in; decide) (by decide) dX0_pair_14 ?_
  refine G.ildn2 C dX0_pair_15 ?_
  refine G.ildn1 C dX0_pair_16 ?_
  refine G.iastU C (n := 16) (j := 5) (d0 := _) (gN_c hi rfl) (gV_c hi (by omega)) (by first | assumption | exact vp_in_nI (by omega) (by omega) | (unfold vp_in; decide)) rfl dX0_pair_17 ?_
  exact G.vret C hlk hrt dX0_pair_18 (by exact fun _ h => h)
def cSetO (c : cSt) (x y : Int32) : cSt := if hHole x = true then cW c 13 (ix x) y else c
set_option maxRecDepth 100000 in
set_option maxHeartbeats 4000000 in
theorem k_X0_setOpenG (l : Launch) {E : gEn} {σ : gSt} {π : Nat → Nat} {o : Int64} {i : Nat} (hi : i < 9) {c : Nat → Nat → Int32} {x y : Int32} : CtV l yX0_setOpen wsX0_setOpen ({ frames := 1, cells := 0, slots := 0, locals := 20 } : Room) E [.ref (E.2.1 i 0), .int x, .int y] (gU σ i c) π o  (gU σ i (cSetO c x y)) π o := by
  refine CtV.of (cc := cX0_setOpen) (own := RX0) (maxL := 3) (ret := none) [some (.ref (E.2.1 i 0)), some (.int x), some (.int y)] (by decide) rfl rfl (Nat.le_of_ble_eq_true rfl) rfl ?_
  intro p e s m args below meth cd C hrt hlk
  have hinX0 : ∀ w ∈ wsX00, w ∈ wsX0_setOpen := by decide +kernel
  refine G.ildn1 C dX0_setOpen_0 ?_
  refine G.callSNI1 C (k_X3_isHole l) ⟨va_cnB 1 C.1.2.2.2.2 gX0_setOpen_X3_isHole_n59 rfl rfl rfl (va_Nw_isHole C.2.1) (C.1.2.2.2.2 (.initialized RX3) (by decide +kernel)) (by decide +kernel) ⟨Nat.le_of_ble_eq_true rfl, Nat.le_of_ble_eq_true rfl⟩, (C.1.2.2.2.2 (.static yX3_isHole) (by decide +kernel)), trivial⟩ (Nat.le_of_ble_eq_true rfl) dX0_setOpen_1 ?_
  refine G.if_eqB C 16 dX0_setOpen_4 (by decide) (fun h4 => ?_) (fun h4 => ?_)
  · exact G.vret C hlk hrt dX0_setOpen_16 (by intro H h; rw [cSetO, if_neg (by rw [h4]; decide)]; exact h)
  · refine G.aldn0 C dX0_setOpen_7 ?_
    refine G.getC C hi hinX0 1 (by decide) rfl (C.1.2.2.2.2 (.fieldLink RX0 16 RX0 "holes" "[[I") (by decide +kernel)) rfl dX0_setOpen_8 ?_
    refine G.iconst C 2 dX0_setOpen_11 (by decide) ?_
    refine G.aaldH C hi 13 (by unfold vp_in; decide) (by decide) dX0_setOpen_12 ?_
    refine G.ildn1 C dX0_setOpen_13 ?_
    refine G.ildn2 C dX0_setOpen_14 ?_
    refine G.iastU C (n := 24) (j := 13) (d0 := _) (gN_c hi rfl) (gV_c hi (by omega)) (hHole_in h4) rfl dX0_setOpen_15 ?_
    exact G.vret C hlk hrt dX0_setOpen_16 (by intro H h; rw [cSetO, if_pos h4]; exact h)
theorem k_X0_setOpen (l : Launch) {E : gEn} {σ : gSt} {π : Nat → Nat} {o : Int64} {i : Nat} (hi : i < 9) {c : Nat → Nat → Int32} {x y : Int32} (hx : vp_in x 24) : CtV l yX0_setOpen wsX0_setOpen ({ frames := 1, cells := 0, slots := 0, locals := 20 } : Room) E [.ref (E.2.1 i 0), .int x, .int y] (gU σ i c) π o (gU σ i (cW c 13 (ix x) y)) π o := by
  have h := k_X0_setOpenG l (E := E) (σ := σ) (π := π) (o := o) hi (c := c) (x := x) (y := y)
  rwa [cSetO, if_pos (hHole_of hx)] at h

set_option maxRecDepth 100000 in
set_option maxHeartbeats 4000000 in
theorem k_X0_countAtDawn (l : Launch) {E : gEn} {σ : gSt} {π : Nat → Nat} {o : Int64} {i : Nat} (hi : i < 9) {c : Nat → Nat → Int32} {x : Int32} (hx : vp_in x 16) : CtV l yX0_countAtDawn wsX0_countAtDawn ({ frames := 0, cells := 0, slots := 0, locals := 0 } : Room) E [.ref (E.2.1 i 0), .int x] (gU σ i c) π o  (gU σ i (cDw c x)) π o := by
  refine CtV.of (cc := cX0_countAtDawn) (own := RX0) (maxL := 3) (ret := none) [some (.ref (E.2.1 i 0)), some (.int x), none] (by decide) rfl rfl (Nat.le_of_ble_eq_true rfl) rfl ?_
  intro p e s m args below meth cd C hrt hlk
  have hinX0 : ∀ w ∈ wsX00, w ∈ wsX0_countAtDawn := by decide +kernel
  refine G.aldn0 C dX0_countAtDawn_0 ?_
  refine G.getC C hi hinX0 0 (by decide) rfl (C.1.2.2.2.2 (.fieldLink RX0 11 RX0 "doves" "[[I") (by decide +kernel)) rfl dX0_countAtDawn_1 ?_
  refine G.iconst C 2 dX0_countAtDawn_4 (by decide) ?_
  refine G.aaldD C hi 4 (by unfold vp_in; decide) (by decide) dX0_countAtDawn_5 ?_
  refine G.ildn1 C dX0_countAtDawn_6 ?_
  refine G.ialdU C (n := 16) (j := 4) (d0 := _) (gN_c hi rfl) (gV_c hi (by omega)) (by first | assumption | exact vp_in_nI (by omega) (by omega) | (unfold vp_in; decide)) rfl dX0_countAtDawn_7 ?_
  refine G.istn2 C dX0_countAtDawn_8 (by omega) rfl ?_
  refine G.ildn2 C dX0_countAtDawn_9 ?_
  refine G.iconst C (-1) dX0_countAtDawn_10 (by decide) ?_
  refine G.icmp_ne C 40 dX0_countAtDawn_11 (by decide) (fun h11 => ?_) (fun h11 => ?_)
  · refine G.ildn2 C dX0_countAtDawn_40 ?_
    refine G.bipush C 24 dX0_countAtDawn_41 (by decide) ?_
    refine G.icmp_ne C 59 dX0_countAtDawn_43 (by decide) (fun h43 => ?_) (fun h43 => ?_)
    · refine G.ildn2 C dX0_countAtDawn_59 ?_
      refine G.aldn0 C dX0_countAtDawn_60 ?_
      refine G.getC C hi hinX0 0 (by decide) rfl (C.1.2.2.2.2 (.fieldLink RX0 11 RX0 "doves" "[[I") (by decide +kernel)) rfl dX0_countAtDawn_61 ?_
      refine G.iconst C 0 dX0_countAtDawn_64 (by decide) ?_
      refine G.aaldD C hi 2 (by unfold vp_in; decide) (by decide) dX0_countAtDawn_65 ?_
      refine G.ildn1 C dX0_countAtDawn_66 ?_
      refine G.ialdU C (n := 16) (j := 2) (d0 := _) (gN_c hi rfl) (gV_c hi (by omega)) (by first | assumption | exact vp_in_nI (by omega) (by omega) | (unfold vp_in; decide)) rfl dX0_countAtDawn_67 ?_
      refine G.icmp_ne C 97 dX0_countAtDawn_68 (by decide) (fun h68 => ?_) (fun h68 => ?_)
      · refine G.aldn0 C dX0_countAtDawn_97 ?_
        refine G.getC C hi hinX0 3 (by decide) rfl (C.1.2.2.2.2 (.fieldLink RX0 23 RX0 "atDawn" "[I") (by decide +kernel)) rfl dX0_countAtDawn_98 ?_
        refine G.iconst C 1 dX0_countAtDawn_101 (by decide) ?_
        refine G.dup2 C dX0_countAtDawn_102 rfl rfl ?_
        refine G.ialdU C (n := 4) (j := 15) (d0 := 1) (gN_c hi rfl) (gV_c hi (by omega)) (by unfold vp_in; decide) (by decide) dX0_countAtDawn_103 ?_
        refine G.iconst C 1 dX0_countAtDawn_104 (by decide) ?_
        refine G.iadd C dX0_countAtDawn_105 ?_
        refine G.iastU C (n := 4) (j := 15) (d0 := 1) (gN_c hi rfl) (gV_c hi (by omega)) (by unfold vp_in; decide) (by decide) dX0_countAtDawn_106 ?_
        exact G.vret C hlk hrt dX0_countAtDawn_107 (by intro H h; first | (rw [cDw, if_pos h11]; exact h) | (rw [cDw, if_neg h11, if_pos h43]; exact h) | (rw [cDw, if_neg h11, if_neg h43, if_pos h68]; exact h) | (rw [cDw, if_neg h11, if_neg h43, if_neg h68]; exact h))
      · refine G.aldn0 C dX0_countAtDawn_71 ?_
        refine G.getC C hi hinX0 3 (by decide) rfl (C.1.2.2.2.2 (.fieldLink RX0 23 RX0 "atDawn" "[I") (by decide +kernel)) rfl dX0_countAtDawn_72 ?_
        refine G.iconst C 0 dX0_countAtDawn_75 (by decide) ?_
        refine G.dup2 C dX0_countAtDawn_76 rfl rfl ?_
        refine G.ialdU C (n := 4) (j := 15) (d0 := 0) (gN_c hi rfl) (gV_c hi (by omega)) (by unfold vp_in; decide) (by decide) dX0_countAtDawn_77 ?_
        refine G.iconst C 1 dX0_countAtDawn_78 (by decide) ?_
        refine G.iadd C dX0_countAtDawn_79 ?_
        refine G.iastU C (n := 4) (j := 15) (d0 := 0) (gN_c hi rfl) (gV_c hi (by omega)) (by unfold vp_in; decide) (by decide) dX0_countAtDawn_80 ?_
        refine G.aldn0 C dX0_countAtDawn_81 ?_
        refine G.getC C hi hinX0 0 (by decide) rfl (C.1.2.2.2.2 (.fieldLink RX0 11 RX0 "doves" "[[I") (by decide +kernel)) rfl dX0_countAtDawn_82 ?_
        refine G.bipush C 7 dX0_countAtDawn_85 (by decide) ?_
        refine G.aaldD C hi 9 (by unfold vp_in; decide) (by decide) dX0_countAtDawn_87 ?_
        refine G.ildn1 C dX0_countAtDawn_88 ?_
        refine G.dup2 C dX0_countAtDawn_89 rfl rfl ?_
        refine G.ialdU C (n := 16) (j := 9) (d0 := _) (gN_c hi rfl) (gV_c hi (by omega)) (by first | assumption | exact vp_in_nI (by omega) (by omega) | (unfold vp_in; decide)) rfl dX0_countAtDawn_90 ?_
        refine G.topI (c 9 (ix x)) rfl ?_
        refine G.iconst C 1 dX0_countAtDawn_91 (by decide) ?_
        refine G.iadd C dX0_countAtDawn_92 ?_
        refine G.iastU C (n := 16) (j := 9) (d0 := _) (gN_c hi rfl) (gV_c hi (by omega)) (by first | assumption | exact vp_in_nI (by omega) (by omega) | (unfold vp_in; decide)) rfl dX0_countAtDawn_93 ?_
        refine G.goto C 107 dX0_countAtDawn_94 (by decide) ?_
        exact G.vret C hlk hrt dX0_countAtDawn_107 (by intro H h; first | (rw [cDw, if_pos h11]; exact h) | (rw [cDw, if_neg h11, if_pos h43]; exact h) | (rw [cDw, if_neg h11, if_neg h43, if_pos h68]; exact h) | (rw [cDw, if_neg h11, if_neg h43, if_neg h68]; exact h))
    · refine G.aldn0 C dX0_countAtDawn_46 ?_
      refine G.getC C hi hinX0 3 (by decide) rfl (C.1.2.2.2.2 (.fieldLink RX0 23 RX0 "atDawn" "[I") (by decide +kernel)) rfl dX0_countAtDawn_47 ?_
      refine G.iconst C 2 dX0_countAtDawn_50 (by decide) ?_
      refine G.dup2 C dX0_countAtDawn_51 rfl rfl ?_
      refine G.ialdU C (n := 4) (j := 15) (d0 := 2) (gN_c hi rfl) (gV_c hi (by omega)) (by unfold vp_in; decide) (by decide) dX0_countAtDawn_52 ?_
      refine G.iconst C 1 dX0_countAtDawn_53 (by decide) ?_
      refine G.iadd C dX0_countAtDawn_54 ?_
      refine G.iastU C (n := 4) (j := 15) (d0 := 2) (gN_c hi rfl) (gV_c hi (by omega)) (by unfold vp_in; decide) (by decide) dX0_countAtDawn_55 ?_
      refine G.goto C 107 dX0_countAtDawn_56 (by decide) ?_
      exact G.vret C hlk hrt dX0_countAtDawn_107 (by intro H h; first | (rw [cDw, if_pos h11]; exact h) | (rw [cDw, if_neg h11, if_pos h43]; exact h) | (rw [cDw, if_neg h11, if_neg h43, if_pos h68]; exact h) | (rw [cDw, if_neg h11, if_neg h43, if_neg h68]; exact h))
  · refine G.aldn0 C dX0_countAtDawn_14 ?_
    refine G.getC C hi hinX0 3 (by decide) rfl (C.1.2.2.2.2 (.fieldLink RX0 23 RX0 "atDawn" "[I") (by decide +kernel)) rfl dX0_countAtDawn_15 ?_
    refine G.iconst C 3 dX0_countAtDawn_18 (by decide) ?_
    refine G.dup2 C dX0_countAtDawn_19 rfl rfl ?_
    refine G.ialdU C (n := 4) (j := 15) (d0 := 3) (gN_c hi rfl) (gV_c hi (by omega)) (by unfold vp_in; decide) (by decide) dX0_countAtDawn_20 ?_
    refine G.topI (c 15 3) rfl ?_
    refine G.iconst C 1 dX0_countAtDawn_21 (by decide) ?_
    refine G.iadd C dX0_countAtDawn_22 ?_
    refine G.iastU C (n := 4) (j := 15) (d0 := 3) (gN_c hi rfl) (gV_c hi (by omega)) (by unfold vp_in; decide) (by decide) dX0_countAtDawn_23 ?_
    refine G.aldn0 C dX0_countAtDawn_24 ?_
    refine G.getC C hi hinX0 0 (by decide) rfl (C.1.2.2.2.2 (.fieldLink RX0 11 RX0 "doves" "[[I") (by decide +kernel)) rfl dX0_countAtDawn_25 ?_
    refine G.bipush C 6 dX0_countAtDawn_28 (by decide) ?_
    refine G.aaldD C hi 8 (by unfold vp_in; decide) (by decide) dX0_countAtDawn_30 ?_
    refine G.ildn1 C dX0_countAtDawn_31 ?_
    refine G.dup2 C dX0_countAtDawn_32 rfl rfl ?_
    refine G.ialdU C (n := 16) (j := 8) (d0 := _) (gN_c hi rfl) (gV_c hi (by omega)) (by first | assumption | exact vp_in_nI (by omega) (by omega) | (unfold vp_in; decide)) rfl dX0_countAtDawn_33 ?_
    refine G.topI (c 8 (ix x)) rfl ?_
    refine G.iconst C 1 dX0_countAtDawn_34 (by decide) ?_
    refine G.iadd C dX0_countAtDawn_35 ?_
    refine G.iastU C (n := 16) (j := 8) (d0 := _) (gN_c hi rfl) (gV_c hi (by omega)) (by first | assumption | exact vp_in_nI (by omega) (by omega) | (unfold vp_in; decide)) rfl dX0_countAtDawn_36 ?_
    refine G.goto C 107 dX0_countAtDawn_37 (by decide) ?_
    exact G.vret C hlk hrt dX0_countAtDawn_107 (by intro H h; first | (rw [cDw, if_pos h11]; exact h) | (rw [cDw, if_neg h11, if_pos h43]; exact h) | (rw [cDw, if_neg h11, if_neg h43, if_pos h68]; exact h) | (rw [cDw, if_neg h11, if_neg h43, if_neg h68]; exact h))
set_option maxRecDepth 100000 in
set_option maxHeartbeats 4000000 in
theorem k_X0_endNight (l : Launch) {E : gEn} {σ : gSt} {π : Nat → Nat} {o : Int64} {i : Nat} (hi : i < 9) {c : Nat → Nat → Int32} : CtI l yX0_endNight wsX0_endNight ({ frames := 1, cells := 0, slots := 0, locals := 22 } : Room) E [.ref (E.2.1 i 0)] (gU σ i c) π o (cNightR c) (gU σ i (cNight c)) π o := by
  refine CtI.of (cc := cX0_endNight) (own := RX0) (maxL := 2) (ret := (some .int)) [some (.ref (E.2.1 i 0)), none] (by decide) rfl rfl (Nat.le_of_ble_eq_true rfl) rfl ?_
  intro p e s m args below meth cd C hrt hlk
  have hinX0 : ∀ w ∈ wsX00, w ∈ wsX0_endNight := by decide +kernel
  refine G.iconst C 0 dX0_endNight_0 (by decide) ?_
  refine G.istn1 C dX0_endNight_1 (by omega) rfl ?_
  have L2 : ∀ (n k : Nat), k + n = 4 → G p l e ({ frames := 1, cells := 0, slots := 0, locals := 22 } : Room) s m args below meth cd 2 0 0 (gA E) (gQI below args s (cNightR c) E (gU σ i (cNight c)) π o) E (gU σ i (cN1 c k)) π o 2 [some (.ref (E.2.1 i 0)), some (.int (nI k))] [] := by
    intro n
    induction n with
    | zero =>
      intro k hk
      obtain rfl : 4 = k := by omega
      refine G.ildn1 C dX0_endNight_2 ?_
      refine G.iconst C 4 dX0_endNight_3 (by decide) ?_
      refine G.icmp_ge C 20 dX0_endNight_4 (by decide) (fun _ => ?_) (fun h => absurd (nI_le (a := 4) (b := 4) (by omega) (by decide)) h)
      refine G.iconst C 0 dX0_endNight_20 (by decide) ?_
      refine G.istn1 C dX0_endNight_21 (by omega) rfl ?_
      have L22 : ∀ (n k : Nat), k + n = 16 → G p l e ({ frames := 1, cells := 0, slots := 0, locals := 22 } : Room) s m args below meth cd 2 0 0 (gA E) (gQI below args s (cNightR c) E (gU σ i (cNight c)) π o) E (gU σ i (cN2 (cN1 c 4) k)) π o 22 [some (.ref (E.2.1 i 0)), some (.int (nI k))] [] := by
        intro n
        induction n with
        | zero =>
          intro k hk
          obtain rfl : 16 = k := by omega
          refine G.ildn1 C dX0_endNight_22 ?_
          refine G.bipush C 16 dX0_endNight_23 (by decide) ?_
          refine G.icmp_ge C 56 dX0_endNight_25 (by decide) (fun _ => ?_) (fun h => absurd (nI_le (a := 16) (b := 16) (by omega) (by decide)) h)
          refine G.iconst C 0 dX0_endNight_56 (by decide) ?_
          refine G.istn1 C dX0_endNight_57 (by omega) rfl ?_
          have L58 : ∀ (n k : Nat), k + n = 24 → G p l e ({ frames := 1, cells := 0, slots := 0, locals := 22 } : Room) s m args below meth cd 2 0 0 (gA E) (gQI below args s (cNightR c) E (gU σ i (cNight c)) π o) E (gU σ i (cN3 (cN2 (cN1 c 4) 16) k)) π o 58 [some (.ref (E.2.1 i 0)), some (.int (nI k))] [] := by
            intro n
            induction n with
            | zero =>
              intro k hk
              obtain rfl : 24 = k := by omega
              refine G.ildn1 C dX0_endNight_58 ?_
              refine G.bipush C 24 dX0_endNight_59 (by decide) ?_
              refine G.icmp_ge C 79 dX0_endNight_61 (by decide) (fun _ => ?_) (fun h => absurd (nI_le (a := 24) (b := 24) (by omega) (by decide)) h)
              refine G.aldn0 C dX0_endNight_79 ?_
              refine G.dup C dX0_endNight_80 rfl ?_
              refine G.getC C hi hinX0 6 (by decide) rfl (C.1.2.2.2.2 (.fieldLink RX0 46 RX0 "day" "I") (by decide +kernel)) rfl dX0_endNight_81 ?_
              refine G.iconst C 1 dX0_endNight_84 (by decide) ?_
              refine G.iadd C dX0_endNight_85 ?_
              refine G.putC (ty := .int) C hi hinX0 6 (by decide) rfl (C.1.2.2.2.2 (.fieldLink RX0 46 RX0 "day" "I") (by decide +kernel)) rfl rfl rfl rfl pfX0_6 dX0_endNight_86 ?_
              refine G.aldn0 C dX0_endNight_89 ?_
              refine G.iconst C 0 dX0_endNight_90 (by decide) ?_
              refine G.putC (ty := .int) C hi hinX0 7 (by decide) rfl (C.1.2.2.2.2 (.fieldLink RX0 50 RX0 "time" "I") (by decide +kernel)) rfl rfl rfl rfl pfX0_7 dX0_endNight_91 ?_
              refine G.aldn0 C dX0_endNight_94 ?_
              refine G.getC C hi hinX0 3 (by decide) rfl (C.1.2.2.2.2 (.fieldLink RX0 23 RX0 "atDawn" "[I") (by decide +kernel)) rfl dX0_endNight_95 ?_
              refine G.iconst C 0 dX0_endNight_98 (by decide) ?_
              refine G.ialdU C (n := 4) (j := 15) (d0 := 0) (gN_c hi rfl) (gV_c hi (by omega)) (by unfold vp_in; decide) (by decide) dX0_endNight_99 ?_
              refine G.aldn0 C dX0_endNight_100 ?_
              refine G.getC C hi hinX0 3 (by decide) rfl (C.1.2.2.2.2 (.fieldLink RX0 23 RX0 "atDawn" "[I") (by decide +kernel)) rfl dX0_endNight_101 ?_
              refine G.iconst C 1 dX0_endNight_104 (by decide) ?_
              refine G.ialdU C (n := 4) (j := 15) (d0 := 1) (gN_c hi rfl) (gV_c hi (by omega)) (by unfold vp_in; decide) (by decide) dX0_endNight_105 ?_
              refine G.iadd C dX0_endNight_106 ?_
              exact G.iret C hlk hrt dX0_endNight_107 (by unfold cNightR cNight cNightL; rfl) (by intro H h; unfold cNight cNightL; exact h)
            | succ n ih =>
              intro k hk
              have hk2 : k < 24 := by omega
              refine G.ildn1 C dX0_endNight_58 ?_
              refine G.bipush C 24 dX0_endNight_59 (by decide) ?_
              refine G.icmp_ge C 79 dX0_endNight_61 (by decide) (fun h => absurd h (nI_ge (b := 24) hk2 (by decide))) (fun _ => ?_)
              refine G.aldn0 C dX0_endNight_64 ?_
              refine G.getC C hi hinX0 1 (by decide) rfl (C.1.2.2.2.2 (.fieldLink RX0 16 RX0 "holes" "[[I") (by decide +kernel)) rfl dX0_endNight_65 ?_
              refine G.iconst C 0 dX0_endNight_68 (by decide) ?_
              refine G.aaldH C hi 11 (by unfold vp_in; decide) (by decide) dX0_endNight_69 ?_
              refine G.ildn1 C dX0_endNight_70 ?_
              refine G.iconst C (-1) dX0_endNight_71 (by decide) ?_
              refine G.iastU C (n := 24) (j := 11) (d0 := k) (gN_c hi rfl) (gV_c hi (by omega)) (vp_in_nI (by omega) (by omega)) (ix_nI (by omega)) dX0_endNight_72 ?_
              refine G.iincN1 C dX0_endNight_73 (by omega) rfl ?_
              refine G.goto C 58 dX0_endNight_76 (by decide) ?_
              exact G.back (ih (k + 1) (by omega) ) rfl ⟨(by first | rfl | simp), (by first | rfl | simp), trivial⟩
          exact G.back (L58 24 0 (Nat.zero_add _) ) rfl ⟨(by first | rfl | simp), (by first | rfl | simp), trivial⟩
        | succ n ih =>
          intro k hk
          have hk2 : k < 16 := by omega
          refine G.ildn1 C dX0_endNight_22 ?_
          refine G.bipush C 16 dX0_endNight_23 (by decide) ?_
          refine G.icmp_ge C 56 dX0_endNight_25 (by decide) (fun h => absurd h (nI_ge (b := 16) hk2 (by decide))) (fun _ => ?_)
          refine G.aldn0 C dX0_endNight_28 ?_
          refine G.ildn1 C dX0_endNight_29 ?_
          refine G.callVI1 C (k_X0_exists l hi) (cwV 1 C.1.2.2.2.2 gX0_endNight_X0_exists rfl rfl rfl (by decide +kernel) ⟨Nat.le_of_ble_eq_true rfl, Nat.le_of_ble_eq_true rfl⟩) (gO_c hi) rfl (Nat.le_of_ble_eq_true rfl) dX0_endNight_30 ?_
          refine G.if_eqB C 50 dX0_endNight_33 (by decide) (fun h33 => ?_) (fun h33 => ?_)
          · refine G.iincN1 C dX0_endNight_50 (by omega) rfl ?_
            refine G.goto C 22 dX0_endNight_53 (by decide) ?_
            exact G.back (ih (k + 1) (by omega) ) (by simp [cN2, *]) ⟨(by first | rfl | simp), (by first | rfl | simp), trivial⟩
          · refine G.aldn0 C dX0_endNight_36 ?_
            refine G.ildn1 C dX0_endNight_37 ?_
            refine G.callVV1 C (k_X0_countAtDawn l hi (vp_in_nI (by omega) (by omega))) (cwV 1 C.1.2.2.2.2 gX0_endNight_X0_countAtDawn rfl rfl rfl (by decide +kernel) ⟨Nat.le_of_ble_eq_true rfl, Nat.le_of_ble_eq_true rfl⟩) (gO_c hi) rfl (Nat.le_of_ble_eq_true rfl) dX0_endNight_38 ?_
            refine G.aldn0 C dX0_endNight_41 ?_
            refine G.getC C hi hinX0 0 (by decide) rfl (C.1.2.2.2.2 (.fieldLink RX0 11 RX0 "doves" "[[I") (by decide +kernel)) rfl dX0_endNight_42 ?_
            refine G.iconst C 2 dX0_endNight_45 (by decide) ?_
            refine G.aaldD C hi 4 (by unfold vp_in; decide) (by decide) dX0_endNight_46 ?_
            refine G.ildn1 C dX0_endNight_47 ?_
            refine G.iconst C (-1) dX0_endNight_48 (by decide) ?_
            refine G.iastU C (n := 16) (j := 4) (d0 := k) (gN_c hi rfl) (gV_c hi (by omega)) (vp_in_nI (by omega) (by omega)) (ix_nI (by omega)) dX0_endNight_49 ?_
            refine G.iincN1 C dX0_endNight_50 (by omega) rfl ?_
            refine G.goto C 22 dX0_endNight_53 (by decide) ?_
            exact G.back (ih (k + 1) (by omega) ) (by simp [cN2, *]) ⟨(by first | rfl | simp), (by first | rfl | simp), trivial⟩
      exact G.back (L22 16 0 (Nat.zero_add _) ) rfl ⟨(by first | rfl | simp), (by first | rfl | simp), trivial⟩
    | succ n ih =>
      intro k hk
      have hk2 : k < 4 := by omega
      refine G.ildn1 C dX0_endNight_2 ?_
      refine G.iconst C 4 dX0_endNight_3 (by decide) ?_
      refine G.icmp_ge C 20 dX0_endNight_4 (by decide) (fun h => absurd h (nI_ge (b := 4) hk2 (by decide))) (fun _ => ?_)
      refine G.aldn0 C dX0_endNight_7 ?_
      refine G.getC C hi hinX0 3 (by decide) rfl (C.1.2.2.2.2 (.fieldLink RX0 23 RX0 "atDawn" "[I") (by decide +kernel)) rfl dX0_endNight_8 ?_
      refine G.ildn1 C dX0_endNight_11 ?_
      refine G.iconst C 0 dX0_endNight_12 (by decide) ?_
      refine G.iastU C (n := 4) (j := 15) (d0 := k) (gN_c hi rfl) (gV_c hi (by omega)) (vp_in_nI (by omega) (by omega)) (ix_nI (by omega)) dX0_endNight_13 ?_
      refine G.iincN1 C dX0_endNight_14 (by omega) rfl ?_
      refine G.goto C 2 dX0_endNight_17 (by decide) ?_
      exact G.back (ih (k + 1) (by omega) ) rfl ⟨(by first | rfl | simp), (by first | rfl | simp), trivial⟩
  exact G.back (L2 4 0 (Nat.zero_add _) ) rfl ⟨(by first | rfl | simp), (by first | rfl | simp), trivial⟩
set_option maxRecDepth 100000 in
set_option maxHeartbeats 4000000 in
theorem k_X0_numberOf (l : Launch) {E : gEn} {σ : gSt} {π : Nat → Nat} {o : Int64} {i : Nat} (hi : i < 9) {c : Nat → Nat → Int32} {x : Int32} : CtI l yX0_numberOf wsX0_numberOf ({ frames := 3, cells := 0, slots := 0, locals := 64 } : Room) E [.ref (E.2.1 i 0), .int x] (gU σ i c) π o (cNum c x) (gU σ i c) π o := by
  refine CtI.of (cc := cX0_numberOf) (own := RX0) (maxL := 2) (ret := (some .int)) [some (.ref (E.2.1 i 0)), some (.int x)] (by decide) rfl rfl (Nat.le_of_ble_eq_true rfl) rfl ?_
  intro p e s m args below meth cd C hrt hlk
  have hinX0 : ∀ w ∈ wsX00, w ∈ wsX0_numberOf := by decide +kernel
  refine G.ildn1 C dX0_numberOf_0 ?_
  by_cases h1_0 : x = 0
  · refine G.tabIn C 80 dX0_numberOf_1 (off := 79) (by rw [h1_0]; decide) (by rw [h1_0]; decide) (by rw [h1_0]; rfl) (by decide) ?_
    refine G.aldn0 C dX0_numberOf_80 ?_
    refine G.getC C hi hinX0 6 (by decide) rfl (C.1.2.2.2.2 (.fieldLink RX0 46 RX0 "day" "I") (by decide +kernel)) rfl dX0_numberOf_81 ?_
    exact G.iret C hlk hrt dX0_numberOf_84 (by simp [cNum, *]) (by exact fun _ h => h)
  by_cases h1_1 : x = 1
  · refine G.tabIn C 85 dX0_numberOf_1 (off := 84) (by rw [h1_1]; decide) (by rw [h1_1]; decide) (by rw [h1_1]; rfl) (by decide) ?_
    refine G.aldn0 C dX0_numberOf_85 ?_
    refine G.getC C hi hinX0 7 (by decide) rfl (C.1.2.2.2.2 (.fieldLink RX0 50 RX0 "time" "I") (by decide +kernel)) rfl dX0_numberOf_86 ?_
    exact G.iret C hlk hrt dX0_numberOf_89 (by simp [cNum, *]) (by exact fun _ h => h)
  by_cases h1_2 : x = 2
  · refine G.tabIn C 90 dX0_numberOf_1 (off := 89) (by rw [h1_2]; decide) (by rw [h1_2]; decide) (by rw [h1_2]; rfl) (by decide) ?_
    refine G.aldn0 C dX0_numberOf_90 ?_
    refine G.callVI0 C (k_X0_doveCount l hi) (cwV 0 C.1.2.2.2.2 gX0_numberOf_X0_doveCount rfl rfl rfl (by decide +kernel) ⟨Nat.le_of_ble_eq_true rfl, Nat.le_of_ble_eq_true rfl⟩) (gO_c hi) rfl (Nat.le_of_ble_eq_true rfl) dX0_numberOf_91 ?_
    exact G.iret C hlk hrt dX0_numberOf_94 (by simp [cNum, *]) (by exact fun _ h => h)
  by_cases h1_3 : x = 3
  · refine G.tabIn C 95 dX0_numberOf_1 (off := 94) (by rw [h1_3]; decide) (by rw [h1_3]; decide) (by rw [h1_3]; rfl) (by decide) ?_
    refine G.aldn0 C dX0_numberOf_95 ?_
    refine G.callVI0 C (k_X0_sittingByDoves l hi) (cwV 0 C.1.2.2.2.2 gX0_numberOf_X0_sittingByDoves rfl rfl rfl (by decide +kernel) ⟨Nat.le_of_ble_eq_true rfl, Nat.le_of_ble_eq_true rfl⟩) (gO_c hi) rfl (Nat.le_of_ble_eq_true rfl) dX0_numberOf_96 ?_
    exact G.iret C hlk hrt dX0_numberOf_99 (by simp [cNum, *]) (by exact fun _ h => h)
  by_cases h1_4 : x = 4
  · refine G.tabIn C 100 dX0_numberOf_1 (off := 99) (by rw [h1_4]; decide) (by rw [h1_4]; decide) (by rw [h1_4]; rfl) (by decide) ?_
    refine G.aldn0 C dX0_numberOf_100 ?_
    refine G.callVI0 C (k_X0_sittingByHoles l hi) (cwV 0 C.1.2.2.2.2 gX0_numberOf_X0_sittingByHoles rfl rfl rfl (by decide +kernel) ⟨Nat.le_of_ble_eq_true rfl, Nat.le_of_ble_eq_true rfl⟩) (gO_c hi) rfl (Nat.le_of_ble_eq_true rfl) dX0_numberOf_101 ?_
    exact G.iret C hlk hrt dX0_numberOf_104 (by simp [cNum, *]) (by exact fun _ h => h)
  by_cases h1_5 : x = 5
  · refine G.tabIn C 105 dX0_numberOf_1 (off := 104) (by rw [h1_5]; decide) (by rw [h1_5]; decide) (by rw [h1_5]; rfl) (by decide) ?_
    refine G.aldn0 C dX0_numberOf_105 ?_
    refine G.bipush C 24 dX0_numberOf_106 (by decide) ?_
    refine G.callVI1 C (k_X0_placedAt l hi) (cwV 1 C.1.2.2.2.2 gX0_numberOf_X0_placedAt rfl rfl rfl (by decide +kernel) ⟨Nat.le_of_ble_eq_true rfl, Nat.le_of_ble_eq_true rfl⟩) (gO_c hi) rfl (Nat.le_of_ble_eq_true rfl) dX0_numberOf_108 ?_
    exact G.iret C hlk hrt dX0_numberOf_111 (by simp [cNum, *]) (by exact fun _ h => h)
  by_cases h1_6 : x = 6
  · refine G.tabIn C 112 dX0_numberOf_1 (off := 111) (by rw [h1_6]; decide) (by rw [h1_6]; decide) (by rw [h1_6]; rfl) (by decide) ?_
    refine G.aldn0 C dX0_numberOf_112 ?_
    refine G.iconst C (-1) dX0_numberOf_113 (by decide) ?_
    refine G.callVI1 C (k_X0_placedAt l hi) (cwV 1 C.1.2.2.2.2 gX0_numberOf_X0_placedAt rfl rfl rfl (by decide +kernel) ⟨Nat.le_of_ble_eq_true rfl, Nat.le_of_ble_eq_true rfl⟩) (gO_c hi) rfl (Nat.le_of_ble_eq_true rfl) dX0_numberOf_114 ?_
    exact G.iret C hlk hrt dX0_numberOf_117 (by simp [cNum, *]) (by exact fun _ h => h)
  by_cases h1_7 : x = 7
  · refine G.tabIn C 118 dX0_numberOf_1 (off := 117) (by rw [h1_7]; decide) (by rw [h1_7]; decide) (by rw [h1_7]; rfl) (by decide) ?_
    refine G.aldn0 C dX0_numberOf_118 ?_
    refine G.callVI0 C (k_X0_openHoles l hi) (cwV 0 C.1.2.2.2.2 gX0_numberOf_X0_openHoles rfl rfl rfl (by decide +kernel) ⟨Nat.le_of_ble_eq_true rfl, Nat.le_of_ble_eq_true rfl⟩) (gO_c hi) rfl (Nat.le_of_ble_eq_true rfl) dX0_numberOf_119 ?_
    exact G.iret C hlk hrt dX0_numberOf_122 (by simp [cNum, *]) (by exact fun _ h => h)
  by_cases h1_8 : x = 8
  · refine G.tabIn C 123 dX0_numberOf_1 (off := 122) (by rw [h1_8]; decide) (by rw [h1_8]; decide) (by rw [h1_8]; rfl) (by decide) ?_
    refine G.aldn0 C dX0_numberOf_123 ?_
    refine G.callVI0 C (k_X0_pairs l hi) (cwV 0 C.1.2.2.2.2 gX0_numberOf_X0_pairs rfl rfl rfl (by decide +kernel) ⟨Nat.le_of_ble_eq_true rfl, Nat.le_of_ble_eq_true rfl⟩) (gO_c hi) rfl (Nat.le_of_ble_eq_true rfl) dX0_numberOf_124 ?_
    exact G.iret C hlk hrt dX0_numberOf_127 (by simp [cNum, *]) (by exact fun _ h => h)
  by_cases h1_9 : x = 9
  · refine G.tabIn C 128 dX0_numberOf_1 (off := 127) (by rw [h1_9]; decide) (by rw [h1_9]; decide) (by rw [h1_9]; rfl) (by decide) ?_
    refine G.aldn0 C dX0_numberOf_128 ?_
    refine G.getC C hi hinX0 8 (by decide) rfl (C.1.2.2.2.2 (.fieldLink RX0 53 RX0 "shifts" "I") (by decide +kernel)) rfl dX0_numberOf_129 ?_
    exact G.iret C hlk hrt dX0_numberOf_132 (by simp [cNum, *]) (by exact fun _ h => h)
  by_cases h1_10 : x = 10
  · refine G.tabIn C 133 dX0_numberOf_1 (off := 132) (by rw [h1_10]; decide) (by rw [h1_10]; decide) (by rw [h1_10]; rfl) (by decide) ?_
    refine G.aldn0 C dX0_numberOf_133 ?_
    refine G.getC C hi hinX0 9 (by decide) rfl (C.1.2.2.2.2 (.fieldLink RX0 56 RX0 "quarrels" "I") (by decide +kernel)) rfl dX0_numberOf_134 ?_
    exact G.iret C hlk hrt dX0_numberOf_137 (by simp [cNum, *]) (by exact fun _ h => h)
  by_cases h1_11 : x = 11
  · refine G.tabIn C 138 dX0_numberOf_1 (off := 137) (by rw [h1_11]; decide) (by rw [h1_11]; decide) (by rw [h1_11]; rfl) (by decide) ?_
    refine G.aldn0 C dX0_numberOf_138 ?_
    refine G.getC C hi hinX0 3 (by decide) rfl (C.1.2.2.2.2 (.fieldLink RX0 23 RX0 "atDawn" "[I") (by decide +kernel)) rfl dX0_numberOf_139 ?_
    refine G.iconst C 0 dX0_numberOf_142 (by decide) ?_
    refine G.ialdU C (n := 4) (j := 15) (d0 := 0) (gN_c hi rfl) (gV_c hi (by omega)) (by unfold vp_in; decide) (by decide) dX0_numberOf_143 ?_
    exact G.iret C hlk hrt dX0_numberOf_144 (by simp [cNum, *]) (by exact fun _ h => h)
  by_cases h1_12 : x = 12
  · refine G.tabIn C 145 dX0_numberOf_1 (off := 144) (by rw [h1_12]; decide) (by rw [h1_12]; decide) (by rw [h1_12]; rfl) (by decide) ?_
    refine G.aldn0 C dX0_numberOf_145 ?_
    refine G.getC C hi hinX0 3 (by decide) rfl (C.1.2.2.2.2 (.fieldLink RX0 23 RX0 "atDawn" "[I") (by decide +kernel)) rfl dX0_numberOf_146 ?_
    refine G.iconst C 1 dX0_numberOf_149 (by decide) ?_
    refine G.ialdU C (n := 4) (j := 15) (d0 := 1) (gN_c hi rfl) (gV_c hi (by omega)) (by unfold vp_in; decide) (by decide) dX0_numberOf_150 ?_
    exact G.iret C hlk hrt dX0_numberOf_151 (by simp [cNum, *]) (by exact fun _ h => h)
  by_cases h1_13 : x = 13
  · refine G.tabIn C 152 dX0_numberOf_1 (off := 151) (by rw [h1_13]; decide) (by rw [h1_13]; decide) (by rw [h1_13]; rfl) (by decide) ?_
    refine G.aldn0 C dX0_numberOf_152 ?_
    refine G.getC C hi hinX0 3 (by decide) rfl (C.1.2.2.2.2 (.fieldLink RX0 23 RX0 "atDawn" "[I") (by decide +kernel)) rfl dX0_numberOf_153 ?_
    refine G.iconst C 2 dX0_numberOf_156 (by decide) ?_
    refine G.ialdU C (n := 4) (j := 15) (d0 := 2) (gN_c hi rfl) (gV_c hi (by omega)) (by unfold vp_in; decide) (by decide) dX0_numberOf_157 ?_
    exact G.iret C hlk hrt dX0_numberOf_158 (by simp [cNum, *]) (by exact fun _ h => h)
  by_cases h1_14 : x = 14
  · refine G.tabIn C 159 dX0_numberOf_1 (off := 158) (by rw [h1_14]; decide) (by rw [h1_14]; decide) (by rw [h1_14]; rfl) (by decide) ?_
    refine G.aldn0 C dX0_numberOf_159 ?_
    refine G.getC C hi hinX0 3 (by decide) rfl (C.1.2.2.2.2 (.fieldLink RX0 23 RX0 "atDawn" "[I") (by decide +kernel)) rfl dX0_numberOf_160 ?_
    refine G.iconst C 3 dX0_numberOf_163 (by decide) ?_
    refine G.ialdU C (n := 4) (j := 15) (d0 := 3) (gN_c hi rfl) (gV_c hi (by omega)) (by unfold vp_in; decide) (by decide) dX0_numberOf_164 ?_
    exact G.iret C hlk hrt dX0_numberOf_165 (by simp [cNum, *]) (by exact fun _ h => h)
  by_cases h1_15 : x = 15
  · refine G.tabIn C 166 dX0_numberOf_1 (off := 165) (by rw [h1_15]; decide) (by rw [h1_15]; decide) (by rw [h1_15]; rfl) (by decide) ?_
    refine G.aldn0 C dX0_numberOf_166 ?_
    refine G.getC C hi hinX0 2 (by decide) rfl (C.1.2.2.2.2 (.fieldLink RX0 19 RX0 "settings" "[I") (by decide +kernel)) rfl dX0_numberOf_167 ?_
    refine G.iconst C 0 dX0_numberOf_170 (by decide) ?_
    refine G.ialdU C (n := 2) (j := 14) (d0 := 0) (gN_c hi rfl) (gV_c hi (by omega)) (by unfold vp_in; decide) (by decide) dX0_numberOf_171 ?_
    exact G.iret C hlk hrt dX0_numberOf_172 (by simp [cNum, *]) (by exact fun _ h => h)
  refine G.tabOut C 173 dX0_numberOf_1 (by simp only [← Int32.toInt_inj] at h1_0 h1_1 h1_2 h1_3 h1_4 h1_5 h1_6 h1_7 h1_8 h1_9 h1_10 h1_11 h1_12 h1_13 h1_14 h1_15; simp at h1_0 h1_1 h1_2 h1_3 h1_4 h1_5 h1_6 h1_7 h1_8 h1_9 h1_10 h1_11 h1_12 h1_13 h1_14 h1_15; omega) (by decide) ?_
  refine G.aldn0 C dX0_numberOf_173 ?_
  refine G.getC C hi hinX0 2 (by decide) rfl (C.1.2.2.2.2 (.fieldLink RX0 19 RX0 "settings" "[I") (by decide +kernel)) rfl dX0_numberOf_174 ?_
  refine G.iconst C 1 dX0_numberOf_177 (by decide) ?_
  refine G.ialdU C (n := 2) (j := 14) (d0 := 1) (gN_c hi rfl) (gV_c hi (by omega)) (by unfold vp_in; decide) (by decide) dX0_numberOf_178 ?_
  exact G.iret C hlk hrt dX0_numberOf_179 (by simp [cNum, *]) (by exact fun _ h => h)
