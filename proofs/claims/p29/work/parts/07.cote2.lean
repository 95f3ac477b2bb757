/-! the cote's changes -/
def cSz (c : Nat → Nat → Int32) : Prop := ∃ z : Nat, z ≤ 25 ∧ c 17 2 = nI z
theorem cSz_in {c : Nat → Nat → Int32} (h : cSz c) (h6 : ¬ 24 < c 17 2) : vp_in (c 17 2) 25 := by
  obtain ⟨z, hz, e⟩ := h
  rw [e] at h6 ⊢
  refine vp_in_nI ?_ (by omega)
  rcases Nat.lt_or_ge z 25 with q | q
  · exact q
  · exact absurd (nI_lt (a := 24) (by omega) (by omega)) h6
theorem cW_ne {c : Nat → Nat → Int32} {j d j' d' : Nat} {v : Int32} (h : j' ≠ j) : cW c j d v j' d' = c j' d' := by simp [cW, h]
theorem cSz_W {c : Nat → Nat → Int32} {j d : Nat} {v : Int32} (h : 17 ≠ j) (hz : cSz c) : cSz (cW c j d v) := by
  obtain ⟨z, h1, e⟩ := hz
  exact ⟨z, h1, by rw [cW_ne h]; exact e⟩
theorem cSz_0 {c : Nat → Nat → Int32} : cSz (cW c 17 2 0) := ⟨0, by omega, by simp [cW, nI_0]⟩
def cNote (c : Nat → Nat → Int32) (x y : Int32) : Nat → Nat → Int32 := if 24 < c 17 2 then c else cW (cW (cW c 18 (ix (c 17 2)) x) 19 (ix (c 17 2)) y) 17 2 (c 17 2 + 1)
theorem cSz_note {c : Nat → Nat → Int32} {x y : Int32} (h : cSz c) : cSz (cNote c x y) := by
  unfold cNote
  split
  · exact h
  · rename_i h6
    obtain ⟨z, hz, e⟩ := h
    have h5 : z < 25 := by
      rcases Nat.lt_or_ge z 25 with q | q
      · exact q
      · exact absurd (by rw [e]; exact nI_lt (a := 24) (by omega) (by omega)) h6
    exact ⟨z + 1, by omega, by simp only [cW, if_true]; rw [e]; exact nI_1 z⟩
def cSit (c : Nat → Nat → Int32) (x y : Int32) : Nat → Nat → Int32 := cNote (if hHole y = true then cW (cW c 4 (ix x) y) 11 (ix y) x else cW c 4 (ix x) y) x y
theorem cSz_sit {c : Nat → Nat → Int32} {x y : Int32} (h : cSz c) : cSz (cSit c x y) := by
  unfold cSit
  split
  · exact cSz_note (cSz_W (by decide) (cSz_W (by decide) h))
  · exact cSz_note (cSz_W (by decide) h)
/-- before the sit: the shift is counted, the one there is out -/
def cShift0 (c : Nat → Nat → Int32) (x y : Int32) : Nat → Nat → Int32 :=
  if c 5 (ix y) = c 11 (ix x) then cW (cW (cW c 0 8 (c 0 8 + 1)) 7 (ix (c 11 (ix x))) (c 7 (ix (c 11 (ix x))) + 1)) 4 (ix (c 11 (ix x))) (-1)
  else cW (cW (cW (cW c 0 8 (c 0 8 + 1)) 0 9 (c 0 9 + 1)) 7 (ix (c 11 (ix x))) (c 7 (ix (c 11 (ix x))) + 1)) 4 (ix (c 11 (ix x))) (-1)
def cShift (c : Nat → Nat → Int32) (x y : Int32) : Nat → Nat → Int32 := cSit (cShift0 c x y) y x
theorem cSz_shift0 {c : Nat → Nat → Int32} {x y : Int32} (h : cSz c) : cSz (cShift0 c x y) := by
  unfold cShift0
  split
  · exact cSz_W (by decide) (cSz_W (by decide) (cSz_W (by decide) h))
  · exact cSz_W (by decide) (cSz_W (by decide) (cSz_W (by decide) (cSz_W (by decide) h)))
theorem cSz_shift {c : Nat → Nat → Int32} {x y : Int32} (h : cSz c) : cSz (cShift c x y) := cSz_sit (cSz_shift0 h)
abbrev cSt : Type := Nat → Nat → Int32
def cEnter (c : cSt) (x : Int32) (b : Bool) : Int32 × cSt :=
  if cEx c (c 11 (ix (c 2 (ix x)))) = true then
    (if b = true then (c 11 (ix (c 2 (ix x))), cShift c (c 2 (ix x)) x) else (-1, cSit (cW c 4 (ix (c 11 (ix (c 2 (ix x))))) 24) x (c 2 (ix x))))
  else (-1, cSit c x (c 2 (ix x)))
theorem cSz_enter {c : cSt} {x : Int32} {b : Bool} (h : cSz c) : cSz (cEnter c x b).2 := by
  unfold cEnter
  split
  · split
    · exact cSz_shift h
    · exact cSz_sit (cSz_W (by decide) h)
  · exact cSz_sit h
/-- the hole k places behind a dove's own, around -/
def cHk (c : cSt) (x k : Int32) : Int32 := (c 2 (ix x) + k) - (c 2 (ix x) + k) / 24 * 24
def cFreeL (c : cSt) (x : Int32) : Nat → Nat → Int32
  | 0, _ => -1
  | n + 1, k => if cFree c (cHk c x (nI k)) = true then cHk c x (nI k) else cFreeL c x n (k + 1)
def cMP (c : cSt) (x : Int32) : Int32 := if cEx c (c 5 (ix x)) = true then c 4 (ix (c 5 (ix x))) else -1
def cFirst (c : cSt) (x : Int32) : Int32 :=
  if hHole (cMP c x) = true then
    (if cFree c (cMP c x - 1) = true then cMP c x - 1 else if cFree c (cMP c x + 1) = true then cMP c x + 1 else cFreeL c x 24 0)
  else cFreeL c x 24 0
def cSettle (c : cSt) (x : Int32) (b : Bool) : Int32 × cSt :=
  if cFirst c x = -1 then
    (if b = true ∧ cOpen c (cHk c x 1) = true ∧ cEx c (c 11 (ix (cHk c x 1))) = true ∧ ¬ c 3 (ix x) ≤ c 3 (ix (c 11 (ix (cHk c x 1)))) then (c 11 (ix (cHk c x 1)), cShift c (cHk c x 1) x)
     else (-1, cSit c x 24))
  else (-1, cSit c x (cFirst c x))
theorem cSz_settle {c : cSt} {x : Int32} {b : Bool} (h : cSz c) : cSz (cSettle c x b).2 := by
  unfold cSettle
  split
  · split
    · exact cSz_shift h
    · exact cSz_sit h
  · exact cSz_sit h
def cRun (most : Int32) : Nat → cSt → Int32 → cSt
  | 0, c, _ => c
  | n + 1, c, y => if cEx c y = true then cRun most n (cSettle c y (decide (¬ most ≤ c 0 8))).2 (cSettle c y (decide (¬ most ≤ c 0 8))).1 else c
/-- ahead of the loop -/
def cCome0 (c : cSt) (x t : Int32) : Int32 × cSt :=
  if t ≤ c 14 0 then
    (if cOpen (cW (cW c 0 7 t) 17 2 0) (c 2 (ix x)) = true then cEnter (cW (cW c 0 7 t) 17 2 0) x (decide (¬ c 0 8 + c 14 1 ≤ c 0 8)) else (x, cW (cW c 0 7 t) 17 2 0))
  else (x, cW (cW (cW c 0 7 t) 17 2 0) 6 (ix x) (c 6 (ix x) + 1))
theorem cSz_come0 {c : cSt} {x t : Int32} : cSz (cCome0 c x t).2 := by
  unfold cCome0
  split
  · split
    · exact cSz_enter cSz_0
    · exact cSz_0
  · exact cSz_W (by decide) cSz_0
def cCome (c : cSt) (x t : Int32) : cSt := cRun (c 0 8 + c 14 1) 25 (cCome0 c x t).2 (cCome0 c x t).1
def cComeR (c : cSt) (x t : Int32) : Int32 := cCome c x t 0 8 - c 0 8
theorem ilt_n {x y : Int32} (h : ¬ y ≤ x) : x < y := by
  rw [Int32.le_iff_toInt_le] at h
  rw [Int32.lt_iff_toInt_lt]
  omega
theorem ile_n {x y : Int32} (h : y ≤ x) : ¬ x < y := by
  rw [Int32.le_iff_toInt_le] at h
  rw [Int32.lt_iff_toInt_lt]
  omega
set_option maxRecDepth 100000 in
set_option maxHeartbeats 4000000 in
theorem k_X2_note (l : Launch) {E : gEn} {σ : gSt} {π : Nat → Nat} {o : Int64} {i : Nat} (hi : i < 9) {c : cSt} {x y : Int32} (hz : cSz c) : CtV l yX2_note wsX2_note ({ frames := 0, cells := 0, slots := 0, locals := 0 } : Room) E [.ref (E.2.1 i 17), .int x, .int y] (gU σ i c) π o  (gU σ i (cNote c x y)) π o := by
  refine CtV.of (cc := cX2_note) (own := RX2) (maxL := 3) (ret := none) [some (.ref (E.2.1 i 17)), some (.int x), some (.int y)] (by decide) rfl rfl (Nat.le_of_ble_eq_true rfl) rfl ?_
  intro p e s m args below meth cd C hrt hlk
  have hinX2 : ∀ w ∈ wsX20, w ∈ wsX2_note := by decide +kernel
  refine G.aldn0 C dX2_note_0 ?_
  refine G.getW C hi hinX2 2 (by decide) rfl (C.1.2.2.2.2 (.fieldLink RX2 18 RX2 "size" "I") (by decide +kernel)) rfl dX2_note_1 ?_
  refine G.bipush C 24 dX2_note_4 (by decide) ?_
  refine G.icmp_gt C 39 dX2_note_6 (by decide) (fun h6 => ?_) (fun h6 => ?_)
  · exact G.vret C hlk hrt dX2_note_39 (by intro H h; simpa [cNote, *] using h)
  · refine G.aldn0 C dX2_note_9 ?_
    refine G.getW C hi hinX2 0 (by decide) rfl (C.1.2.2.2.2 (.fieldLink RX2 9 RX2 "who" "[I") (by decide +kernel)) rfl dX2_note_10 ?_
    refine G.aldn0 C dX2_note_13 ?_
    refine G.getW C hi hinX2 2 (by decide) rfl (C.1.2.2.2.2 (.fieldLink RX2 18 RX2 "size" "I") (by decide +kernel)) rfl dX2_note_14 ?_
    refine G.ildn1 C dX2_note_17 ?_
    refine G.iastU C (n := 25) (j := 18) (d0 := _) (gN_c hi rfl) (gV_c hi (by omega)) (cSz_in hz h6) rfl dX2_note_18 ?_
    refine G.aldn0 C dX2_note_19 ?_
    refine G.getW C hi hinX2 1 (by decide) rfl (C.1.2.2.2.2 (.fieldLink RX2 15 RX2 "where" "[I") (by decide +kernel)) rfl dX2_note_20 ?_
    refine G.aldn0 C dX2_note_23 ?_
    refine G.getW C hi hinX2 2 (by decide) rfl (C.1.2.2.2.2 (.fieldLink RX2 18 RX2 "size" "I") (by decide +kernel)) rfl dX2_note_24 ?_
    refine G.topI (c 17 2) rfl ?_
    refine G.ildn2 C dX2_note_27 ?_
    refine G.iastU C (n := 25) (j := 19) (d0 := _) (gN_c hi rfl) (gV_c hi (by omega)) (cSz_in hz h6) rfl dX2_note_28 ?_
    refine G.aldn0 C dX2_note_29 ?_
    refine G.dup C dX2_note_30 rfl ?_
    refine G.getW C hi hinX2 2 (by decide) rfl (C.1.2.2.2.2 (.fieldLink RX2 18 RX2 "size" "I") (by decide +kernel)) rfl dX2_note_31 ?_
    refine G.topI (c 17 2) rfl ?_
    refine G.iconst C 1 dX2_note_34 (by decide) ?_
    refine G.iadd C dX2_note_35 ?_
    refine G.putW (ty := .int) C hi hinX2 2 (by decide) rfl (C.1.2.2.2.2 (.fieldLink RX2 18 RX2 "size" "I") (by decide +kernel)) rfl rfl rfl rfl pfX2_2 dX2_note_36 ?_
    exact G.vret C hlk hrt dX2_note_39 (by intro H h; simpa [cNote, *] using h)
set_option maxRecDepth 100000 in
set_option maxHeartbeats 4000000 in
theorem k_X0_sit (l : Launch) {E : gEn} {σ : gSt} {π : Nat → Nat} {o : Int64} {i : Nat} (hi : i < 9) {c : Nat → Nat → Int32} {x y : Int32} (hx : vp_in x 16) (hz : cSz c) : CtV l yX0_sit wsX0_sit ({ frames := 1, cells := 0, slots := 0, locals := 22 } : Room) E [.ref (E.2.1 i 0), .int x, .int y] (gU σ i c) π o  (gU σ i (cSit c x y)) π o := by
  refine CtV.of (cc := cX0_sit) (own := RX0) (maxL := 3) (ret := none) [some (.ref (E.2.1 i 0)), some (.int x), some (.int y)] (by decide) rfl rfl (Nat.le_of_ble_eq_true rfl) rfl ?_
  intro p e s m args below meth cd C hrt hlk
  have hinX0 : ∀ w ∈ wsX00, w ∈ wsX0_sit := by decide +kernel
  have hinX2 : ∀ w ∈ wsX20, w ∈ wsX0_sit := by decide +kernel
  refine G.aldn0 C dX0_sit_0 ?_
  refine G.getC C hi hinX0 0 (by decide) rfl (C.1.2.2.2.2 (.fieldLink RX0 11 RX0 "doves" "[[I") (by decide +kernel)) rfl dX0_sit_1 ?_
  refine G.iconst C 2 dX0_sit_4 (by decide) ?_
  refine G.aaldD C hi 4 (by unfold vp_in; decide) (by decide) dX0_sit_5 ?_
  refine G.ildn1 C dX0_sit_6 ?_
  refine G.ildn2 C dX0_sit_7 ?_
  refine G.iastU C (n := 16) (j := 4) (d0 := _) (gN_c hi rfl) (gV_c hi (by omega)) (by first | assumption | exact vp_in_nI (by omega) (by omega) | (unfold vp_in; decide)) rfl dX0_sit_8 ?_
  refine G.ildn2 C dX0_sit_9 ?_
  refine G.callSNI1 C (k_X3_isHole l) ⟨va_cnB 1 C.1.2.2.2.2 gX0_sit_X3_isHole_n59 rfl rfl rfl (va_Nw_isHole C.2.1) (C.1.2.2.2.2 (.initialized RX3) (by decide +kernel)) (by decide +kernel) ⟨Nat.le_of_ble_eq_true rfl, Nat.le_of_ble_eq_true rfl⟩, (C.1.2.2.2.2 (.static yX3_isHole) (by decide +kernel)), trivial⟩ (Nat.le_of_ble_eq_true rfl) dX0_sit_10 ?_
  refine G.if_eqB C 25 dX0_sit_13 (by decide) (fun h13 => ?_) (fun h13 => ?_)
  · refine G.aldn0 C dX0_sit_25 ?_
    refine G.getC C hi hinX0 5 (by decide) rfl (C.1.2.2.2.2 (.fieldLink RX0 32 RX0 "way" "LLateDoves$Way;") (by decide +kernel)) rfl dX0_sit_26 ?_
    refine G.ildn1 C dX0_sit_29 ?_
    refine G.ildn2 C dX0_sit_30 ?_
    refine G.callVV2 C (k_X2_note l hi (by first | exact cSz_W (by decide) (cSz_W (by decide) hz) | exact cSz_W (by decide) hz)) (cwV 2 C.1.2.2.2.2 gX0_sit_X2_note rfl rfl rfl (by decide +kernel) ⟨Nat.le_of_ble_eq_true rfl, Nat.le_of_ble_eq_true rfl⟩) (gO_w hi) rfl (Nat.le_of_ble_eq_true rfl) dX0_sit_31 ?_
    exact G.vret C hlk hrt dX0_sit_34 (by intro H h; simpa [cSit, *] using h)
  · refine G.aldn0 C dX0_sit_16 ?_
    refine G.getC C hi hinX0 1 (by decide) rfl (C.1.2.2.2.2 (.fieldLink RX0 16 RX0 "holes" "[[I") (by decide +kernel)) rfl dX0_sit_17 ?_
    refine G.iconst C 0 dX0_sit_20 (by decide) ?_
    refine G.aaldH C hi 11 (by unfold vp_in; decide) (by decide) dX0_sit_21 ?_
    refine G.ildn2 C dX0_sit_22 ?_
    refine G.ildn1 C dX0_sit_23 ?_
    refine G.iastU C (n := 24) (j := 11) (d0 := _) (gN_c hi rfl) (gV_c hi (by omega)) (hHole_in h13) rfl dX0_sit_24 ?_
    refine G.aldn0 C dX0_sit_25 ?_
    refine G.getC C hi hinX0 5 (by decide) rfl (C.1.2.2.2.2 (.fieldLink RX0 32 RX0 "way" "LLateDoves$Way;") (by decide +kernel)) rfl dX0_sit_26 ?_
    refine G.ildn1 C dX0_sit_29 ?_
    refine G.ildn2 C dX0_sit_30 ?_
    refine G.callVV2 C (k_X2_note l hi (by first | exact cSz_W (by decide) (cSz_W (by decide) hz) | exact cSz_W (by decide) hz)) (cwV 2 C.1.2.2.2.2 gX0_sit_X2_note rfl rfl rfl (by decide +kernel) ⟨Nat.le_of_ble_eq_true rfl, Nat.le_of_ble_eq_true rfl⟩) (gO_w hi) rfl (Nat.le_of_ble_eq_true rfl) dX0_sit_31 ?_
    exact G.vret C hlk hrt dX0_sit_34 (by intro H h; simpa [cSit, *] using h)
set_option maxRecDepth 100000 in
set_option maxHeartbeats 4000000 in
theorem k_X0_shiftFrom (l : Launch) {E : gEn} {σ : gSt} {π : Nat → Nat} {o : Int64} {i : Nat} (hi : i < 9) {c : Nat → Nat → Int32} {x y : Int32} (hx : vp_in x 24) (hy : vp_in y 16) (ht : vp_in (c 11 (ix x)) 16) (hz : cSz c) : CtI l yX0_shiftFrom wsX0_shiftFrom ({ frames := 2, cells := 0, slots := 0, locals := 44 } : Room) E [.ref (E.2.1 i 0), .int x, .int y] (gU σ i c) π o (c 11 (ix x)) (gU σ i (cShift c x y)) π o := by
  refine CtI.of (cc := cX0_shiftFrom) (own := RX0) (maxL := 4) (ret := (some .int)) [some (.ref (E.2.1 i 0)), some (.int x), some (.int y), none] (by decide) rfl rfl (Nat.le_of_ble_eq_true rfl) rfl ?_
  intro p e s m args below meth cd C hrt hlk
  have hinX0 : ∀ w ∈ wsX00, w ∈ wsX0_shiftFrom := by decide +kernel
  have hinX2 : ∀ w ∈ wsX20, w ∈ wsX0_shiftFrom := by decide +kernel
  refine G.aldn0 C dX0_shiftFrom_0 ?_
  refine G.getC C hi hinX0 1 (by decide) rfl (C.1.2.2.2.2 (.fieldLink RX0 16 RX0 "holes" "[[I") (by decide +kernel)) rfl dX0_shiftFrom_1 ?_
  refine G.iconst C 0 dX0_shiftFrom_4 (by decide) ?_
  refine G.aaldH C hi 11 (by unfold vp_in; decide) (by decide) dX0_shiftFrom_5 ?_
  refine G.ildn1 C dX0_shiftFrom_6 ?_
  refine G.ialdU C (n := 24) (j := 11) (d0 := _) (gN_c hi rfl) (gV_c hi (by omega)) (by first | assumption | exact vp_in_nI (by omega) (by omega) | (unfold vp_in; decide)) rfl dX0_shiftFrom_7 ?_
  refine G.istn3 C dX0_shiftFrom_8 (by omega) rfl ?_
  refine G.aldn0 C dX0_shiftFrom_9 ?_
  refine G.dup C dX0_shiftFrom_10 rfl ?_
  refine G.getC C hi hinX0 8 (by decide) rfl (C.1.2.2.2.2 (.fieldLink RX0 53 RX0 "shifts" "I") (by decide +kernel)) rfl dX0_shiftFrom_11 ?_
  refine G.iconst C 1 dX0_shiftFrom_14 (by decide) ?_
  refine G.iadd C dX0_shiftFrom_15 ?_
  refine G.putC (ty := .int) C hi hinX0 8 (by decide) rfl (C.1.2.2.2.2 (.fieldLink RX0 53 RX0 "shifts" "I") (by decide +kernel)) rfl rfl rfl rfl pfX0_8 dX0_shiftFrom_16 ?_
  refine G.aldn0 C dX0_shiftFrom_19 ?_
  refine G.getC C hi hinX0 0 (by decide) rfl (C.1.2.2.2.2 (.fieldLink RX0 11 RX0 "doves" "[[I") (by decide +kernel)) rfl dX0_shiftFrom_20 ?_
  refine G.iconst C 3 dX0_shiftFrom_23 (by decide) ?_
  refine G.aaldD C hi 5 (by unfold vp_in; decide) (by decide) dX0_shiftFrom_24 ?_
  refine G.ildn2 C dX0_shiftFrom_25 ?_
  refine G.ialdU C (n := 16) (j := 5) (d0 := _) (gN_c hi rfl) (gV_c hi (by omega)) (by first | assumption | exact vp_in_nI (by omega) (by omega) | (unfold vp_in; decide)) rfl dX0_shiftFrom_26 ?_
  refine G.topI (c 5 (ix y)) rfl ?_
  refine G.ildn3 C dX0_shiftFrom_27 ?_
  refine G.icmp_eq C 41 dX0_shiftFrom_28 (by decide) (fun h28 => ?_) (fun h28 => ?_)
  · refine G.aldn0 C dX0_shiftFrom_41 ?_
    refine G.getC C hi hinX0 0 (by decide) rfl (C.1.2.2.2.2 (.fieldLink RX0 11 RX0 "doves" "[[I") (by decide +kernel)) rfl dX0_shiftFrom_42 ?_
    refine G.iconst C 5 dX0_shiftFrom_45 (by decide) ?_
    refine G.aaldD C hi 7 (by unfold vp_in; decide) (by decide) dX0_shiftFrom_46 ?_
    refine G.ildn3 C dX0_shiftFrom_47 ?_
    refine G.dup2 C dX0_shiftFrom_48 rfl rfl ?_
    refine G.ialdU C (n := 16) (j := 7) (d0 := _) (gN_c hi rfl) (gV_c hi (by omega)) (by first | assumption | exact vp_in_nI (by omega) (by omega) | (unfold vp_in; decide)) rfl dX0_shiftFrom_49 ?_
    refine G.topI (c 7 (ix (c 11 (ix x)))) rfl ?_
    refine G.iconst C 1 dX0_shiftFrom_50 (by decide) ?_
    refine G.iadd C dX0_shiftFrom_51 ?_
    refine G.iastU C (n := 16) (j := 7) (d0 := _) (gN_c hi rfl) (gV_c hi (by omega)) (by first | assumption | exact vp_in_nI (by omega) (by omega) | (unfold vp_in; decide)) rfl dX0_shiftFrom_52 ?_
    refine G.aldn0 C dX0_shiftFrom_53 ?_
    refine G.getC C hi hinX0 0 (by decide) rfl (C.1.2.2.2.2 (.fieldLink RX0 11 RX0 "doves" "[[I") (by decide +kernel)) rfl dX0_shiftFrom_54 ?_
    refine G.iconst C 2 dX0_shiftFrom_57 (by decide) ?_
    refine G.aaldD C hi 4 (by unfold vp_in; decide) (by decide) dX0_shiftFrom_58 ?_
    refine G.ildn3 C dX0_shiftFrom_59 ?_
    refine G.iconst C (-1) dX0_shiftFrom_60 (by decide) ?_
    refine G.iastU C (n := 16) (j := 4) (d0 := _) (gN_c hi rfl) (gV_c hi (by omega)) (by first | assumption | exact vp_in_nI (by omega) (by omega) | (unfold vp_in; decide)) rfl dX0_shiftFrom_61 ?_
    refine G.aldn0 C dX0_shiftFrom_62 ?_
    refine G.ildn2 C dX0_shiftFrom_63 ?_
    refine G.ildn1 C dX0_shiftFrom_64 ?_
    refine G.callVV2 C (k_X0_sit l hi hy (by first | exact cSz_W (by decide) (cSz_W (by decide) (cSz_W (by decide) (cSz_W (by decide) hz))) | exact cSz_W (by decide) (cSz_W (by decide) (cSz_W (by decide) hz)))) (cwV 2 C.1.2.2.2.2 gX0_shiftFrom_X0_sit rfl rfl rfl (by decide +kernel) ⟨Nat.le_of_ble_eq_true rfl, Nat.le_of_ble_eq_true rfl⟩) (gO_c hi) rfl (Nat.le_of_ble_eq_true rfl) dX0_shiftFrom_65 ?_
    refine G.ildn3 C dX0_shiftFrom_68 ?_
    exact G.iret C hlk hrt dX0_shiftFrom_69 (by rfl) (by intro H h; simpa [cShift, cShift0, *] using h)
  · refine G.aldn0 C dX0_shiftFrom_31 ?_
    refine G.dup C dX0_shiftFrom_32 rfl ?_
    refine G.getC C hi hinX0 9 (by decide) rfl (C.1.2.2.2.2 (.fieldLink RX0 56 RX0 "quarrels" "I") (by decide +kernel)) rfl dX0_shiftFrom_33 ?_
    refine G.topI (c 0 9) rfl ?_
    refine G.iconst C 1 dX0_shiftFrom_36 (by decide) ?_
    refine G.iadd C dX0_shiftFrom_37 ?_
    refine G.putC (ty := .int) C hi hinX0 9 (by decide) rfl (C.1.2.2.2.2 (.fieldLink RX0 56 RX0 "quarrels" "I") (by decide +kernel)) rfl rfl rfl rfl pfX0_9 dX0_shiftFrom_38 ?_
    refine G.aldn0 C dX0_shiftFrom_41 ?_
    refine G.getC C hi hinX0 0 (by decide) rfl (C.1.2.2.2.2 (.fieldLink RX0 11 RX0 "doves" "[[I") (by decide +kernel)) rfl dX0_shiftFrom_42 ?_
    refine G.iconst C 5 dX0_shiftFrom_45 (by decide) ?_
    refine G.aaldD C hi 7 (by unfold vp_in; decide) (by decide) dX0_shiftFrom_46 ?_
    refine G.ildn3 C dX0_shiftFrom_47 ?_
    refine G.dup2 C dX0_shiftFrom_48 rfl rfl ?_
    refine G.ialdU C (n := 16) (j := 7) (d0 := _) (gN_c hi rfl) (gV_c hi (by omega)) (by first | assumption | exact vp_in_nI (by omega) (by omega) | (unfold vp_in; decide)) rfl dX0_shiftFrom_49 ?_
    refine G.topI (c 7 (ix (c 11 (ix x)))) rfl ?_
    refine G.iconst C 1 dX0_shiftFrom_50 (by decide) ?_
    refine G.iadd C dX0_shiftFrom_51 ?_
    refine G.iastU C (n := 16) (j := 7) (d0 := _) (gN_c hi rfl) (gV_c hi (by omega)) (by first | assumption | exact vp_in_nI (by omega) (by omega) | (unfold vp_in; decide)) rfl dX0_shiftFrom_52 ?_
    refine G.aldn0 C dX0_shiftFrom_53 ?_
    refine G.getC C hi hinX0 0 (by decide) rfl (C.1.2.2.2.2 (.fieldLink RX0 11 RX0 "doves" "[[I") (by decide +kernel)) rfl dX0_shiftFrom_54 ?_
    refine G.iconst C 2 dX0_shiftFrom_57 (by decide) ?_
    refine G.aaldD C hi 4 (by unfold vp_in; decide) (by decide) dX0_shiftFrom_58 ?_
    refine G.ildn3 C dX0_shiftFrom_59 ?_
    refine G.iconst C (-1) dX0_shiftFrom_60 (by decide) ?_
    refine G.iastU C (n := 16) (j := 4) (d0 := _) (gN_c hi rfl) (gV_c hi (by omega)) (by first | assumption | exact vp_in_nI (by omega) (by omega) | (unfold vp_in; decide)) rfl dX0_shiftFrom_61 ?_
    refine G.aldn0 C dX0_shiftFrom_62 ?_
    refine G.ildn2 C dX0_shiftFrom_63 ?_
    refine G.ildn1 C dX0_shiftFrom_64 ?_
    refine G.callVV2 C (k_X0_sit l hi hy (by first | exact cSz_W (by decide) (cSz_W (by decide) (cSz_W (by decide) (cSz_W (by decide) hz))) | exact cSz_W (by decide) (cSz_W (by decide) (cSz_W (by decide) hz)))) (cwV 2 C.1.2.2.2.2 gX0_shiftFrom_X0_sit rfl rfl rfl (by decide +kernel) ⟨Nat.le_of_ble_eq_true rfl, Nat.le_of_ble_eq_true rfl⟩) (gO_c hi) rfl (Nat.le_of_ble_eq_true rfl) dX0_shiftFrom_65 ?_
    refine G.ildn3 C dX0_shiftFrom_68 ?_
    exact G.iret C hlk hrt dX0_shiftFrom_69 (by rfl) (by intro H h; simpa [cShift, cShift0, *] using h)
set_option maxRecDepth 100000 in
set_option maxHeartbeats 4000000 in
theorem k_X0_enterOwnHole (l : Launch) {E : gEn} {σ : gSt} {π : Nat → Nat} {o : Int64} {i : Nat} (hi : i < 9) {c : Nat → Nat → Int32} {x : Int32} {b : Bool} (hx : vp_in x 16) (ho : vp_in (c 2 (ix x)) 24) (hz : cSz c) : CtI l yX0_enterOwnHole wsX0_enterOwnHole ({ frames := 3, cells := 0, slots := 0, locals := 67 } : Room) E [.ref (E.2.1 i 0), .int x, .int (bI b)] (gU σ i c) π o ((cEnter c x b).1) (gU σ i ((cEnter c x b).2)) π o := by
  refine CtI.of (cc := cX0_enterOwnHole) (own := RX0) (maxL := 5) (ret := (some .int)) [some (.ref (E.2.1 i 0)), some (.int x), some (.int (bI b)), none, none] (by decide) rfl rfl (Nat.le_of_ble_eq_true rfl) rfl ?_
  intro p e s m args below meth cd C hrt hlk
  have hinX0 : ∀ w ∈ wsX00, w ∈ wsX0_enterOwnHole := by decide +kernel
  have hinX2 : ∀ w ∈ wsX20, w ∈ wsX0_enterOwnHole := by decide +kernel
  refine G.aldn0 C dX0_enterOwnHole_0 ?_
  refine G.getC C hi hinX0 0 (by decide) rfl (C.1.2.2.2.2 (.fieldLink RX0 11 RX0 "doves" "[[I") (by decide +kernel)) rfl dX0_enterOwnHole_1 ?_
  refine G.iconst C 0 dX0_enterOwnHole_4 (by decide) ?_
  refine G.aaldD C hi 2 (by unfold vp_in; decide) (by decide) dX0_enterOwnHole_5 ?_
  refine G.ildn1 C dX0_enterOwnHole_6 ?_
  refine G.ialdU C (n := 16) (j := 2) (d0 := _) (gN_c hi rfl) (gV_c hi (by omega)) (by first | assumption | exact vp_in_nI (by omega) (by omega) | (unfold vp_in; decide)) rfl dX0_enterOwnHole_7 ?_
  refine G.istn3 C dX0_enterOwnHole_8 (by omega) rfl ?_
  refine G.aldn0 C dX0_enterOwnHole_9 ?_
  refine G.getC C hi hinX0 1 (by decide) rfl (C.1.2.2.2.2 (.fieldLink RX0 16 RX0 "holes" "[[I") (by decide +kernel)) rfl dX0_enterOwnHole_10 ?_
  refine G.iconst C 0 dX0_enterOwnHole_13 (by decide) ?_
  refine G.aaldH C hi 11 (by unfold vp_in; decide) (by decide) dX0_enterOwnHole_14 ?_
  refine G.ildn3 C dX0_enterOwnHole_15 ?_
  refine G.ialdU C (n := 24) (j := 11) (d0 := _) (gN_c hi rfl) (gV_c hi (by omega)) (by first | assumption | exact vp_in_nI (by omega) (by omega) | (unfold vp_in; decide)) rfl dX0_enterOwnHole_16 ?_
  refine G.ist4 C dX0_enterOwnHole_17 (by omega) rfl ?_
  refine G.aldn0 C dX0_enterOwnHole_19 ?_
  refine G.ild4 C dX0_enterOwnHole_20 ?_
  refine G.callVI1 C (k_X0_exists l hi) (cwV 1 C.1.2.2.2.2 gX0_enterOwnHole_X0_exists rfl rfl rfl (by decide +kernel) ⟨Nat.le_of_ble_eq_true rfl, Nat.le_of_ble_eq_true rfl⟩) (gO_c hi) rfl (Nat.le_of_ble_eq_true rfl) dX0_enterOwnHole_22 ?_
  refine G.if_eqB C 50 dX0_enterOwnHole_25 (by decide) (fun h25 => ?_) (fun h25 => ?_)
  · refine G.aldn0 C dX0_enterOwnHole_50 ?_
    refine G.ildn1 C dX0_enterOwnHole_51 ?_
    refine G.ildn3 C dX0_enterOwnHole_52 ?_
    refine G.callVV2 C (k_X0_sit l hi hx (by first | exact cSz_W (by decide) hz | exact hz)) (cwV 2 C.1.2.2.2.2 gX0_enterOwnHole_X0_sit rfl rfl rfl (by decide +kernel) ⟨Nat.le_of_ble_eq_true rfl, Nat.le_of_ble_eq_true rfl⟩) (gO_c hi) rfl (Nat.le_of_ble_eq_true rfl) dX0_enterOwnHole_53 ?_
    refine G.iconst C (-1) dX0_enterOwnHole_56 (by decide) ?_
    exact G.iret C hlk hrt dX0_enterOwnHole_57 (by simp [cEnter, *]) (by intro H h; simpa [cEnter, *] using h)
  · refine G.ildn2 C dX0_enterOwnHole_28 ?_
    refine G.if_eqB C 39 dX0_enterOwnHole_29 (by decide) (fun h29 => ?_) (fun h29 => ?_)
    · refine G.aldn0 C dX0_enterOwnHole_39 ?_
      refine G.getC C hi hinX0 0 (by decide) rfl (C.1.2.2.2.2 (.fieldLink RX0 11 RX0 "doves" "[[I") (by decide +kernel)) rfl dX0_enterOwnHole_40 ?_
      refine G.iconst C 2 dX0_enterOwnHole_43 (by decide) ?_
      refine G.aaldD C hi 4 (by unfold vp_in; decide) (by decide) dX0_enterOwnHole_44 ?_
      refine G.ild4 C dX0_enterOwnHole_45 ?_
      refine G.bipush C 24 dX0_enterOwnHole_47 (by decide) ?_
      refine G.iastU C (n := 16) (j := 4) (d0 := _) (gN_c hi rfl) (gV_c hi (by omega)) (cEx_in h25) rfl dX0_enterOwnHole_49 ?_
      refine G.aldn0 C dX0_enterOwnHole_50 ?_
      refine G.ildn1 C dX0_enterOwnHole_51 ?_
      refine G.ildn3 C dX0_enterOwnHole_52 ?_
      refine G.callVV2 C (k_X0_sit l hi hx (by first | exact cSz_W (by decide) hz | exact hz)) (cwV 2 C.1.2.2.2.2 gX0_enterOwnHole_X0_sit rfl rfl rfl (by decide +kernel) ⟨Nat.le_of_ble_eq_true rfl, Nat.le_of_ble_eq_true rfl⟩) (gO_c hi) rfl (Nat.le_of_ble_eq_true rfl) dX0_enterOwnHole_53 ?_
      refine G.iconst C (-1) dX0_enterOwnHole_56 (by decide) ?_
      exact G.iret C hlk hrt dX0_enterOwnHole_57 (by simp [cEnter, *]) (by intro H h; simpa [cEnter, *] using h)
    · refine G.aldn0 C dX0_enterOwnHole_32 ?_
      refine G.ildn3 C dX0_enterOwnHole_33 ?_
      refine G.ildn1 C dX0_enterOwnHole_34 ?_
      refine G.callVI2 C (k_X0_shiftFrom l hi ho hx (cEx_in h25) hz) (cwV 2 C.1.2.2.2.2 gX0_enterOwnHole_X0_shiftFrom rfl rfl rfl (by decide +kernel) ⟨Nat.le_of_ble_eq_true rfl, Nat.le_of_ble_eq_true rfl⟩) (gO_c hi) rfl (Nat.le_of_ble_eq_true rfl) dX0_enterOwnHole_35 ?_
      exact G.iret C hlk hrt dX0_enterOwnHole_38 (by simp [cEnter, *]) (by intro H h; simpa [cEnter, *] using h)
set_option maxRecDepth 100000 in
set_option maxHeartbeats 4000000 in
theorem k_X0_firstFreeFor_65 (l : Launch) {E : gEn} {σ : gSt} {π : Nat → Nat} {o : Int64} {i : Nat} (hi : i < 9) {c : cSt} {x r : Int32} (hx : vp_in x 16) (hr : r = cFreeL c x 24 0) {p : Program} {e : Env} {s : State} {m : MethodId} {args : Array Value} {below : List Frame} {meth : Method} {cd : Code} (C : gCx p s m cd cX0_firstFreeFor 6 RX0 wsX0_firstFreeFor args E (gA E) ({ frames := 2, cells := 0, slots := 0, locals := 41 } : Room) 0 0) (hrt : meth.sig.returnType = (some .int)) (hlk : meth.locks = false) : G p l e ({ frames := 2, cells := 0, slots := 0, locals := 41 } : Room) s m args below meth cd 6 0 0 (gA E) (gQI below args s (r) E (gU σ i c) π o) E (gU σ i c) π o 65 [some (.ref (E.2.1 i 0)), some (.int x), none, none, none, none] [] := by
  have hinX0 : ∀ w ∈ wsX00, w ∈ wsX0_firstFreeFor := by decide +kernel
  refine G.iconst C 0 dX0_firstFreeFor_65 (by decide) ?_
  refine G.ist4 C dX0_firstFreeFor_66 (by omega) rfl ?_
  have L68 : ∀ (n k : Nat), k + n = 24 → cFreeL c x 24 0 = cFreeL c x n k → G p l e ({ frames := 2, cells := 0, slots := 0, locals := 41 } : Room) s m args below meth cd 6 0 0 (gA E) (gQI below args s (r) E (gU σ i c) π o) E (gU σ i c) π o 68 [some (.ref (E.2.1 i 0)), some (.int x), none, none, some (.int (nI k)), none] [] := by
    intro n
    induction n with
    | zero =>
      intro k hk  hq0
      obtain rfl : 24 = k := by omega
      refine G.ild4 C dX0_firstFreeFor_68 ?_
      refine G.bipush C 24 dX0_firstFreeFor_70 (by decide) ?_
      refine G.icmp_ge C 109 dX0_firstFreeFor_72 (by decide) (fun _ => ?_) (fun h => absurd (nI_le (a := 24) (b := 24) (by omega) (by decide)) h)
      refine G.iconst C (-1) dX0_firstFreeFor_109 (by decide) ?_
      exact G.iret C hlk hrt dX0_firstFreeFor_110 (by rw [hr, hq0]; rfl) (by exact fun _ h => h)
    | succ n ih =>
      intro k hk  hq0
      have hk2 : k < 24 := by omega
      refine G.ild4 C dX0_firstFreeFor_68 ?_
      refine G.bipush C 24 dX0_firstFreeFor_70 (by decide) ?_
      refine G.icmp_ge C 109 dX0_firstFreeFor_72 (by decide) (fun h => absurd h (nI_ge (b := 24) hk2 (by decide))) (fun _ => ?_)
      refine G.aldn0 C dX0_firstFreeFor_75 ?_
      refine G.getC C hi hinX0 0 (by decide) rfl (C.1.2.2.2.2 (.fieldLink RX0 11 RX0 "doves" "[[I") (by decide +kernel)) rfl dX0_firstFreeFor_76 ?_
      refine G.iconst C 0 dX0_firstFreeFor_79 (by decide) ?_
      refine G.aaldD C hi 2 (by unfold vp_in; decide) (by decide) dX0_firstFreeFor_80 ?_
      refine G.ildn1 C dX0_firstFreeFor_81 ?_
      refine G.ialdU C (n := 16) (j := 2) (d0 := _) (gN_c hi rfl) (gV_c hi (by omega)) (by first | assumption | exact vp_in_nI (by omega) (by omega) | (unfold vp_in; decide)) rfl dX0_firstFreeFor_82 ?_
      refine G.ild4 C dX0_firstFreeFor_83 ?_
      refine G.iadd C dX0_firstFreeFor_85 ?_
      refine G.bipush C 24 dX0_firstFreeFor_86 (by decide) ?_
      refine G.irem C dX0_firstFreeFor_88 (by decide) ?_
      refine G.topI (cHk c x (nI k)) rfl ?_
      refine G.ist5 C dX0_firstFreeFor_89 (by omega) rfl ?_
      refine G.aldn0 C dX0_firstFreeFor_91 ?_
      refine G.ild5 C dX0_firstFreeFor_92 ?_
      refine G.callVI1 C (k_X0_isFree l hi) (cwV 1 C.1.2.2.2.2 gX0_firstFreeFor_X0_isFree rfl rfl rfl (by decide +kernel) ⟨Nat.le_of_ble_eq_true rfl, Nat.le_of_ble_eq_true rfl⟩) (gO_c hi) rfl (Nat.le_of_ble_eq_true rfl) dX0_firstFreeFor_94 ?_
      refine G.if_eqB C 103 dX0_firstFreeFor_97 (by decide) (fun h97 => ?_) (fun h97 => ?_)
      · refine G.iincN4 C dX0_firstFreeFor_103 (by omega) rfl ?_
        refine G.goto C 68 dX0_firstFreeFor_106 (by decide) ?_
        exact G.back (ih (k + 1) (by omega) (by rw [hq0]; simp [cFreeL, *])) rfl ⟨(by first | rfl | simp), (by first | rfl | simp), (by first | rfl | simp), trivial⟩
      · refine G.ild5 C dX0_firstFreeFor_100 ?_
        exact G.iret C hlk hrt dX0_firstFreeFor_102 (by rw [hr, hq0]; simp [cFreeL, *]) (by exact fun _ h => h)
  exact G.back (L68 24 0 (Nat.zero_add _) rfl) rfl ⟨(by first | rfl | simp), (by first | rfl | simp), (by first | rfl | simp), trivial⟩
set_option maxRecDepth 100000 in
set_option maxHeartbeats 4000000 in
theorem k_X0_firstFreeFor (l : Launch) {E : gEn} {σ : gSt} {π : Nat → Nat} {o : Int64} {i : Nat} (hi : i < 9) {c : Nat → Nat → Int32} {x : Int32} (hx : vp_in x 16) : CtI l yX0_firstFreeFor wsX0_firstFreeFor ({ frames := 2, cells := 0, slots := 0, locals := 41 } : Room) E [.ref (E.2.1 i 0), .int x] (gU σ i c) π o (cFirst c x) (gU σ i c) π o := by
  refine CtI.of (cc := cX0_firstFreeFor) (own := RX0) (maxL := 6) (ret := (some .int)) [some (.ref (E.2.1 i 0)), some (.int x), none, none, none, none] (by decide) rfl rfl (Nat.le_of_ble_eq_true rfl) rfl ?_
  intro p e s m args below meth cd C hrt hlk
  have hinX0 : ∀ w ∈ wsX00, w ∈ wsX0_firstFreeFor := by decide +kernel
  refine G.aldn0 C dX0_firstFreeFor_0 ?_
  refine G.getC C hi hinX0 0 (by decide) rfl (C.1.2.2.2.2 (.fieldLink RX0 11 RX0 "doves" "[[I") (by decide +kernel)) rfl dX0_firstFreeFor_1 ?_
  refine G.iconst C 3 dX0_firstFreeFor_4 (by decide) ?_
  refine G.aaldD C hi 5 (by unfold vp_in; decide) (by decide) dX0_firstFreeFor_5 ?_
  refine G.ildn1 C dX0_firstFreeFor_6 ?_
  refine G.ialdU C (n := 16) (j := 5) (d0 := _) (gN_c hi rfl) (gV_c hi (by omega)) (by first | assumption | exact vp_in_nI (by omega) (by omega) | (unfold vp_in; decide)) rfl dX0_firstFreeFor_7 ?_
  refine G.istn2 C dX0_firstFreeFor_8 (by omega) rfl ?_
  refine G.aldn0 C dX0_firstFreeFor_9 ?_
  refine G.ildn2 C dX0_firstFreeFor_10 ?_
  refine G.callVI1 C (k_X0_exists l hi) (cwV 1 C.1.2.2.2.2 gX0_firstFreeFor_X0_exists rfl rfl rfl (by decide +kernel) ⟨Nat.le_of_ble_eq_true rfl, Nat.le_of_ble_eq_true rfl⟩) (gO_c hi) rfl (Nat.le_of_ble_eq_true rfl) dX0_firstFreeFor_11 ?_
  refine G.if_eqB C 28 dX0_firstFreeFor_14 (by decide) (fun h14 => ?_) (fun h14 => ?_)
  · refine G.iconst C (-1) dX0_firstFreeFor_28 (by decide) ?_
    refine G.istn3 C dX0_firstFreeFor_29 (by omega) rfl ?_
    refine G.ildn3 C dX0_firstFreeFor_30 ?_
    refine G.callSNI1 C (k_X3_isHole l) ⟨va_cnB 1 C.1.2.2.2.2 gX0_firstFreeFor_X3_isHole_n59 rfl rfl rfl (va_Nw_isHole C.2.1) (C.1.2.2.2.2 (.initialized RX3) (by decide +kernel)) (by decide +kernel) ⟨Nat.le_of_ble_eq_true rfl, Nat.le_of_ble_eq_true rfl⟩, (C.1.2.2.2.2 (.static yX3_isHole) (by decide +kernel)), trivial⟩ (Nat.le_of_ble_eq_true rfl) dX0_firstFreeFor_31 ?_
    refine G.if_eqB C 65 dX0_firstFreeFor_34 (by decide) (fun h34 => ?_) (fun h34 => ?_)
    · refine G.less (gSub_ok [some (.ref (E.2.1 i 0)), some (.int x), none, none, none, none] _ ⟨rfl, rfl, trivial⟩) ?_
      exact k_X0_firstFreeFor_65 l hi hx (by first | (exfalso; revert h34; decide) | simp [cFirst, cMP, *]) C hrt hlk
    · refine G.aldn0 C dX0_firstFreeFor_37 ?_
      refine G.ildn3 C dX0_firstFreeFor_38 ?_
      refine G.iconst C 1 dX0_firstFreeFor_39 (by decide) ?_
      refine G.isub C dX0_firstFreeFor_40 ?_
      refine G.callVI1 C (k_X0_isFree l hi) (cwV 1 C.1.2.2.2.2 gX0_firstFreeFor_X0_isFree rfl rfl rfl (by decide +kernel) ⟨Nat.le_of_ble_eq_true rfl, Nat.le_of_ble_eq_true rfl⟩) (gO_c hi) rfl (Nat.le_of_ble_eq_true rfl) dX0_firstFreeFor_41 ?_
      refine G.if_eqB C 51 dX0_firstFreeFor_44 (by decide) (fun h44 => ?_) (fun h44 => ?_)
      · refine G.aldn0 C dX0_firstFreeFor_51 ?_
        refine G.ildn3 C dX0_firstFreeFor_52 ?_
        refine G.iconst C 1 dX0_firstFreeFor_53 (by decide) ?_
        refine G.iadd C dX0_firstFreeFor_54 ?_
        refine G.callVI1 C (k_X0_isFree l hi) (cwV 1 C.1.2.2.2.2 gX0_firstFreeFor_X0_isFree rfl rfl rfl (by decide +kernel) ⟨Nat.le_of_ble_eq_true rfl, Nat.le_of_ble_eq_true rfl⟩) (gO_c hi) rfl (Nat.le_of_ble_eq_true rfl) dX0_firstFreeFor_55 ?_
        refine G.if_eqB C 65 dX0_firstFreeFor_58 (by decide) (fun h58 => ?_) (fun h58 => ?_)
        · refine G.less (gSub_ok [some (.ref (E.2.1 i 0)), some (.int x), none, none, none, none] _ ⟨rfl, rfl, trivial⟩) ?_
          exact k_X0_firstFreeFor_65 l hi hx (by first | (exfalso; revert h34; decide) | simp [cFirst, cMP, *]) C hrt hlk
        · refine G.ildn3 C dX0_firstFreeFor_61 ?_
          refine G.iconst C 1 dX0_firstFreeFor_62 (by decide) ?_
          refine G.iadd C dX0_firstFreeFor_63 ?_
          exact G.iret C hlk hrt dX0_firstFreeFor_64 (by first | (exfalso; revert h34; decide) | simp [cFirst, cMP, *]) (by exact fun _ h => h)
      · refine G.ildn3 C dX0_firstFreeFor_47 ?_
        refine G.iconst C 1 dX0_firstFreeFor_48 (by decide) ?_
        refine G.isub C dX0_firstFreeFor_49 ?_
        exact G.iret C hlk hrt dX0_firstFreeFor_50 (by first | (exfalso; revert h34; decide) | simp [cFirst, cMP, *]) (by exact fun _ h => h)
  · refine G.aldn0 C dX0_firstFreeFor_17 ?_
    refine G.getC C hi hinX0 0 (by decide) rfl (C.1.2.2.2.2 (.fieldLink RX0 11 RX0 "doves" "[[I") (by decide +kernel)) rfl dX0_firstFreeFor_18 ?_
    refine G.iconst C 2 dX0_firstFreeFor_21 (by decide) ?_
    refine G.aaldD C hi 4 (by unfold vp_in; decide) (by decide) dX0_firstFreeFor_22 ?_
    refine G.ildn2 C dX0_firstFreeFor_23 ?_
    refine G.ialdU C (n := 16) (j := 4) (d0 := _) (gN_c hi rfl) (gV_c hi (by omega)) (cEx_in h14) rfl dX0_firstFreeFor_24 ?_
    refine G.goto C 29 dX0_firstFreeFor_25 (by decide) ?_
    refine G.istn3 C dX0_firstFreeFor_29 (by omega) rfl ?_
    refine G.ildn3 C dX0_firstFreeFor_30 ?_
    refine G.callSNI1 C (k_X3_isHole l) ⟨va_cnB 1 C.1.2.2.2.2 gX0_firstFreeFor_X3_isHole_n59 rfl rfl rfl (va_Nw_isHole C.2.1) (C.1.2.2.2.2 (.initialized RX3) (by decide +kernel)) (by decide +kernel) ⟨Nat.le_of_ble_eq_true rfl, Nat.le_of_ble_eq_true rfl⟩, (C.1.2.2.2.2 (.static yX3_isHole) (by decide +kernel)), trivial⟩ (Nat.le_of_ble_eq_true rfl) dX0_firstFreeFor_31 ?_
    refine G.if_eqB C 65 dX0_firstFreeFor_34 (by decide) (fun h34 => ?_) (fun h34 => ?_)
    · refine G.less (gSub_ok [some (.ref (E.2.1 i 0)), some (.int x), none, none, none, none] _ ⟨rfl, rfl, trivial⟩) ?_
      exact k_X0_firstFreeFor_65 l hi hx (by first | (exfalso; revert h34; decide) | simp [cFirst, cMP, *]) C hrt hlk
    · refine G.aldn0 C dX0_firstFreeFor_37 ?_
      refine G.ildn3 C dX0_firstFreeFor_38 ?_
      refine G.iconst C 1 dX0_firstFreeFor_39 (by decide) ?_
      refine G.isub C dX0_firstFreeFor_40 ?_
      refine G.callVI1 C (k_X0_isFree l hi) (cwV 1 C.1.2.2.2.2 gX0_firstFreeFor_X0_isFree rfl rfl rfl (by decide +kernel) ⟨Nat.le_of_ble_eq_true rfl, Nat.le_of_ble_eq_true rfl⟩) (gO_c hi) rfl (Nat.le_of_ble_eq_true rfl) dX0_firstFreeFor_41 ?_
      refine G.if_eqB C 51 dX0_firstFreeFor_44 (by decide) (fun h44 => ?_) (fun h44 => ?_)
      · refine G.aldn0 C dX0_firstFreeFor_51 ?_
        refine G.ildn3 C dX0_firstFreeFor_52 ?_
        refine G.iconst C 1 dX0_firstFreeFor_53 (by decide) ?_
        refine G.iadd C dX0_firstFreeFor_54 ?_
        refine G.callVI1 C (k_X0_isFree l hi) (cwV 1 C.1.2.2.2.2 gX0_firstFreeFor_X0_isFree rfl rfl rfl (by decide +kernel) ⟨Nat.le_of_ble_eq_true rfl, Nat.le_of_ble_eq_true rfl⟩) (gO_c hi) rfl (Nat.le_of_ble_eq_true rfl) dX0_firstFreeFor_55 ?_
        refine G.if_eqB C 65 dX0_firstFreeFor_58 (by decide) (fun h58 => ?_) (fun h58 => ?_)
        · refine G.less (gSub_ok [some (.ref (E.2.1 i 0)), some (.int x), none, none, none, none] _ ⟨rfl, rfl, trivial⟩) ?_
          exact k_X0_firstFreeFor_65 l hi hx (by first | (exfalso; revert h34; decide) | simp [cFirst, cMP, *]) C hrt hlk
        · refine G.ildn3 C dX0_firstFreeFor_61 ?_
          refine G.iconst C 1 dX0_firstFreeFor_62 (by decide) ?_
          refine G.iadd C dX0_firstFreeFor_63 ?_
          exact G.iret C hlk hrt dX0_firstFreeFor_64 (by first | (exfalso; revert h34; decide) | simp [cFirst, cMP, *]) (by exact fun _ h => h)
      · refine G.ildn3 C dX0_firstFreeFor_47 ?_
        refine G.iconst C 1 dX0_firstFreeFor_48 (by decide) ?_
        refine G.isub C dX0_firstFreeFor_49 ?_
        exact G.iret C hlk hrt dX0_firstFreeFor_50 (by first | (exfalso; revert h34; decide) | simp [cFirst, cMP, *]) (by exact fun _ h => h)
set_option maxRecDepth 100000 in
set_option maxHeartbeats 4000000 in
theorem k_X0_settle (l : Launch) {E : gEn} {σ : gSt} {π : Nat → Nat} {o : Int64} {i : Nat} (hi : i < 9) {c : Nat → Nat → Int32} {x : Int32} {b : Bool} (hx : vp_in x 16) (hz : cSz c) : CtI l yX0_settle wsX0_settle ({ frames := 3, cells := 0, slots := 0, locals := 67 } : Room) E [.ref (E.2.1 i 0), .int x, .int (bI b)] (gU σ i c) π o ((cSettle c x b).1) (gU σ i ((cSettle c x b).2)) π o := by
  refine CtI.of (cc := cX0_settle) (own := RX0) (maxL := 6) (ret := (some .int)) [some (.ref (E.2.1 i 0)), some (.int x), some (.int (bI b)), none, none, none] (by decide) rfl rfl (Nat.le_of_ble_eq_true rfl) rfl ?_
  intro p e s m args below meth cd C hrt hlk
  have hinX0 : ∀ w ∈ wsX00, w ∈ wsX0_settle := by decide +kernel
  have hinX2 : ∀ w ∈ wsX20, w ∈ wsX0_settle := by decide +kernel
  refine G.aldn0 C dX0_settle_0 ?_
  refine G.ildn1 C dX0_settle_1 ?_
  refine G.callVI1 C (k_X0_firstFreeFor l hi (by assumption)) (cwV 1 C.1.2.2.2.2 gX0_settle_X0_firstFreeFor rfl rfl rfl (by decide +kernel) ⟨Nat.le_of_ble_eq_true rfl, Nat.le_of_ble_eq_true rfl⟩) (gO_c hi) rfl (Nat.le_of_ble_eq_true rfl) dX0_settle_2 ?_
  refine G.istn3 C dX0_settle_5 (by omega) rfl ?_
  refine G.ildn3 C dX0_settle_6 ?_
  refine G.iconst C (-1) dX0_settle_7 (by decide) ?_
  refine G.icmp_eq C 19 dX0_settle_8 (by decide) (fun h8 => ?_) (fun h8 => ?_)
  · refine G.aldn0 C dX0_settle_19 ?_
    refine G.getC C hi hinX0 0 (by decide) rfl (C.1.2.2.2.2 (.fieldLink RX0 11 RX0 "doves" "[[I") (by decide +kernel)) rfl dX0_settle_20 ?_
    refine G.iconst C 0 dX0_settle_23 (by decide) ?_
    refine G.aaldD C hi 2 (by unfold vp_in; decide) (by decide) dX0_settle_24 ?_
    refine G.ildn1 C dX0_settle_25 ?_
    refine G.ialdU C (n := 16) (j := 2) (d0 := _) (gN_c hi rfl) (gV_c hi (by omega)) (by first | assumption | exact vp_in_nI (by omega) (by omega) | (unfold vp_in; decide)) rfl dX0_settle_26 ?_
    refine G.iconst C 1 dX0_settle_27 (by decide) ?_
    refine G.iadd C dX0_settle_28 ?_
    refine G.bipush C 24 dX0_settle_29 (by decide) ?_
    refine G.irem C dX0_settle_31 (by decide) ?_
    refine G.topI (cHk c x 1) rfl ?_
    refine G.ist4 C dX0_settle_32 (by omega) rfl ?_
    refine G.ildn2 C dX0_settle_34 ?_
    refine G.if_eqB C 95 dX0_settle_35 (by decide) (fun h35 => ?_) (fun h35 => ?_)
    · refine G.aldn0 C dX0_settle_95 ?_
      refine G.ildn1 C dX0_settle_96 ?_
      refine G.bipush C 24 dX0_settle_97 (by decide) ?_
      refine G.callVV2 C (k_X0_sit l hi hx hz) (cwV 2 C.1.2.2.2.2 gX0_settle_X0_sit rfl rfl rfl (by decide +kernel) ⟨Nat.le_of_ble_eq_true rfl, Nat.le_of_ble_eq_true rfl⟩) (gO_c hi) rfl (Nat.le_of_ble_eq_true rfl) dX0_settle_99 ?_
      refine G.iconst C (-1) dX0_settle_102 (by decide) ?_
      exact G.iret C hlk hrt dX0_settle_103 (by simp [cSettle, *]) (by intro H h; simpa [cSettle, *] using h)
    · refine G.aldn0 C dX0_settle_38 ?_
      refine G.ild4 C dX0_settle_39 ?_
      refine G.callVI1 C (k_X0_isOpen l hi) (cwV 1 C.1.2.2.2.2 gX0_settle_X0_isOpen rfl rfl rfl (by decide +kernel) ⟨Nat.le_of_ble_eq_true rfl, Nat.le_of_ble_eq_true rfl⟩) (gO_c hi) rfl (Nat.le_of_ble_eq_true rfl) dX0_settle_41 ?_
      refine G.if_eqB C 95 dX0_settle_44 (by decide) (fun h44 => ?_) (fun h44 => ?_)
      · refine G.aldn0 C dX0_settle_95 ?_
        refine G.ildn1 C dX0_settle_96 ?_
        refine G.bipush C 24 dX0_settle_97 (by decide) ?_
        refine G.callVV2 C (k_X0_sit l hi hx hz) (cwV 2 C.1.2.2.2.2 gX0_settle_X0_sit rfl rfl rfl (by decide +kernel) ⟨Nat.le_of_ble_eq_true rfl, Nat.le_of_ble_eq_true rfl⟩) (gO_c hi) rfl (Nat.le_of_ble_eq_true rfl) dX0_settle_99 ?_
        refine G.iconst C (-1) dX0_settle_102 (by decide) ?_
        exact G.iret C hlk hrt dX0_settle_103 (by simp [cSettle, *]) (by intro H h; simpa [cSettle, *] using h)
      · refine G.aldn0 C dX0_settle_47 ?_
        refine G.getC C hi hinX0 1 (by decide) rfl (C.1.2.2.2.2 (.fieldLink RX0 16 RX0 "holes" "[[I") (by decide +kernel)) rfl dX0_settle_48 ?_
        refine G.iconst C 0 dX0_settle_51 (by decide) ?_
        refine G.aaldH C hi 11 (by unfold vp_in; decide) (by decide) dX0_settle_52 ?_
        refine G.ild4 C dX0_settle_53 ?_
        refine G.ialdU C (n := 24) (j := 11) (d0 := _) (gN_c hi rfl) (gV_c hi (by omega)) (cOpen_in h44) rfl dX0_settle_55 ?_
        refine G.ist5 C dX0_settle_56 (by omega) rfl ?_
        refine G.aldn0 C dX0_settle_58 ?_
        refine G.ild5 C dX0_settle_59 ?_
        refine G.callVI1 C (k_X0_exists l hi) (cwV 1 C.1.2.2.2.2 gX0_settle_X0_exists rfl rfl rfl (by decide +kernel) ⟨Nat.le_of_ble_eq_true rfl, Nat.le_of_ble_eq_true rfl⟩) (gO_c hi) rfl (Nat.le_of_ble_eq_true rfl) dX0_settle_61 ?_
        refine G.if_eqB C 95 dX0_settle_64 (by decide) (fun h64 => ?_) (fun h64 => ?_)
        · refine G.aldn0 C dX0_settle_95 ?_
          refine G.ildn1 C dX0_settle_96 ?_
          refine G.bipush C 24 dX0_settle_97 (by decide) ?_
          refine G.callVV2 C (k_X0_sit l hi hx hz) (cwV 2 C.1.2.2.2.2 gX0_settle_X0_sit rfl rfl rfl (by decide +kernel) ⟨Nat.le_of_ble_eq_true rfl, Nat.le_of_ble_eq_true rfl⟩) (gO_c hi) rfl (Nat.le_of_ble_eq_true rfl) dX0_settle_99 ?_
          refine G.iconst C (-1) dX0_settle_102 (by decide) ?_
          exact G.iret C hlk hrt dX0_settle_103 (by simp [cSettle, *]) (by intro H h; simpa [cSettle, *] using h)
        · refine G.aldn0 C dX0_settle_67 ?_
          refine G.getC C hi hinX0 0 (by decide) rfl (C.1.2.2.2.2 (.fieldLink RX0 11 RX0 "doves" "[[I") (by decide +kernel)) rfl dX0_settle_68 ?_
          refine G.iconst C 1 dX0_settle_71 (by decide) ?_
          refine G.aaldD C hi 3 (by unfold vp_in; decide) (by decide) dX0_settle_72 ?_
          refine G.ild5 C dX0_settle_73 ?_
          refine G.ialdU C (n := 16) (j := 3) (d0 := _) (gN_c hi rfl) (gV_c hi (by omega)) (cEx_in h64) rfl dX0_settle_75 ?_
          refine G.aldn0 C dX0_settle_76 ?_
          refine G.getC C hi hinX0 0 (by decide) rfl (C.1.2.2.2.2 (.fieldLink RX0 11 RX0 "doves" "[[I") (by decide +kernel)) rfl dX0_settle_77 ?_
          refine G.iconst C 1 dX0_settle_80 (by decide) ?_
          refine G.aaldD C hi 3 (by unfold vp_in; decide) (by decide) dX0_settle_81 ?_
          refine G.ildn1 C dX0_settle_82 ?_
          refine G.ialdU C (n := 16) (j := 3) (d0 := _) (gN_c hi rfl) (gV_c hi (by omega)) (by first | assumption | exact vp_in_nI (by omega) (by omega) | (unfold vp_in; decide)) rfl dX0_settle_83 ?_
          refine G.icmp_ge C 95 dX0_settle_84 (by decide) (fun h84 => ?_) (fun h84 => ?_)
          · refine G.aldn0 C dX0_settle_95 ?_
            refine G.ildn1 C dX0_settle_96 ?_
            refine G.bipush C 24 dX0_settle_97 (by decide) ?_
            refine G.callVV2 C (k_X0_sit l hi hx hz) (cwV 2 C.1.2.2.2.2 gX0_settle_X0_sit rfl rfl rfl (by decide +kernel) ⟨Nat.le_of_ble_eq_true rfl, Nat.le_of_ble_eq_true rfl⟩) (gO_c hi) rfl (Nat.le_of_ble_eq_true rfl) dX0_settle_99 ?_
            refine G.iconst C (-1) dX0_settle_102 (by decide) ?_
            exact G.iret C hlk hrt dX0_settle_103 (by simp [cSettle, *]) (by intro H h; simpa [cSettle, *] using h)
          · refine G.aldn0 C dX0_settle_87 ?_
            refine G.ild4 C dX0_settle_88 ?_
            refine G.ildn1 C dX0_settle_90 ?_
            refine G.callVI2 C (k_X0_shiftFrom l hi (cOpen_in h44) hx (cEx_in h64) hz) (cwV 2 C.1.2.2.2.2 gX0_settle_X0_shiftFrom rfl rfl rfl (by decide +kernel) ⟨Nat.le_of_ble_eq_true rfl, Nat.le_of_ble_eq_true rfl⟩) (gO_c hi) rfl (Nat.le_of_ble_eq_true rfl) dX0_settle_91 ?_
            exact G.iret C hlk hrt dX0_settle_94 (by simp [cSettle, *]) (by intro H h; simpa [cSettle, *] using h)
  · refine G.aldn0 C dX0_settle_11 ?_
    refine G.ildn1 C dX0_settle_12 ?_
    refine G.ildn3 C dX0_settle_13 ?_
    refine G.callVV2 C (k_X0_sit l hi hx hz) (cwV 2 C.1.2.2.2.2 gX0_settle_X0_sit rfl rfl rfl (by decide +kernel) ⟨Nat.le_of_ble_eq_true rfl, Nat.le_of_ble_eq_true rfl⟩) (gO_c hi) rfl (Nat.le_of_ble_eq_true rfl) dX0_settle_14 ?_
    refine G.iconst C (-1) dX0_settle_17 (by decide) ?_
    exact G.iret C hlk hrt dX0_settle_18 (by simp [cSettle, *]) (by intro H h; simpa [cSettle, *] using h)
set_option maxRecDepth 100000 in
set_option maxHeartbeats 4000000 in
theorem k_X0_comeHome_109 (l : Launch) {E : gEn} {σ : gSt} {π : Nat → Nat} {o : Int64} {i : Nat} (hi : i < 9) {c1 c3 : cSt} {x t sh mo y r : Int32} (hz : cSz c1) (h3 : c3 = cRun mo 25 c1 y) (hr : r = c3 0 8 - sh) {p : Program} {e : Env} {s : State} {m : MethodId} {args : Array Value} {below : List Frame} {meth : Method} {cd : Code} (C : gCx p s m cd cX0_comeHome 8 RX0 wsX0_comeHome args E (gA E) ({ frames := 4, cells := 0, slots := 0, locals := 92 } : Room) 0 0) (hrt : meth.sig.returnType = (some .int)) (hlk : meth.locks = false) : G p l e ({ frames := 4, cells := 0, slots := 0, locals := 92 } : Room) s m args below meth cd 8 0 0 (gA E) (gQI below args s (r) E (gU σ i c3) π o) E (gU σ i c1) π o 109 [some (.ref (E.2.1 i 0)), some (.int x), some (.int t), some (.int sh), some (.int mo), none, some (.int y), none] [] := by
  have hinX0 : ∀ w ∈ wsX00, w ∈ wsX0_comeHome := by decide +kernel
  have hinX2 : ∀ w ∈ wsX20, w ∈ wsX0_comeHome := by decide +kernel
  refine G.iconst C 0 dX0_comeHome_109 (by decide) ?_
  refine G.ist7 C dX0_comeHome_110 (by omega) rfl ?_
  have L112 : ∀ (n k : Nat), k + n = 25 → ∀ (c2 : cSt) (y2 : Int32), cSz c2 → cRun mo 25 c1 y = cRun mo n c2 y2 → G p l e ({ frames := 4, cells := 0, slots := 0, locals := 92 } : Room) s m args below meth cd 8 0 0 (gA E) (gQI below args s (r) E (gU σ i c3) π o) E (gU σ i c2) π o 112 [some (.ref (E.2.1 i 0)), some (.int x), some (.int t), some (.int sh), some (.int mo), none, some (.int y2), some (.int (nI k))] [] := by
    intro n
    induction n with
    | zero =>
      intro k hk c2 y2 hq0 hq1
      obtain rfl : 25 = k := by omega
      refine G.ild7 C dX0_comeHome_112 ?_
      refine G.bipush C 24 dX0_comeHome_114 (by decide) ?_
      refine G.icmp_gt C 156 dX0_comeHome_116 (by decide) (fun _ => ?_) (fun h => absurd (nI_lt (a := 24) (b := 25) (by omega) (by decide)) h)
      refine G.aldn0 C dX0_comeHome_156 ?_
      refine G.getC C hi hinX0 8 (by decide) rfl (C.1.2.2.2.2 (.fieldLink RX0 53 RX0 "shifts" "I") (by decide +kernel)) rfl dX0_comeHome_157 ?_
      refine G.ildn3 C dX0_comeHome_160 ?_
      refine G.isub C dX0_comeHome_161 ?_
      exact G.iret C hlk hrt dX0_comeHome_162 (by rw [hr, h3, hq1]; first | rfl | simp [cRun, *]) (by intro H h; rw [h3, hq1]; first | exact h | simpa [cRun, *] using h)
    | succ n ih =>
      intro k hk c2 y2 hq0 hq1
      have hk2 : k < 25 := by omega
      refine G.ild7 C dX0_comeHome_112 ?_
      refine G.bipush C 24 dX0_comeHome_114 (by decide) ?_
      refine G.icmp_gt C 156 dX0_comeHome_116 (by decide) (fun h => absurd h (nI_nlt (a := 24) (by omega) (by decide))) (fun _ => ?_)
      refine G.aldn0 C dX0_comeHome_119 ?_
      refine G.ild6 C dX0_comeHome_120 ?_
      refine G.callVI1 C (k_X0_exists l hi) (cwV 1 C.1.2.2.2.2 gX0_comeHome_X0_exists rfl rfl rfl (by decide +kernel) ⟨Nat.le_of_ble_eq_true rfl, Nat.le_of_ble_eq_true rfl⟩) (gO_c hi) rfl (Nat.le_of_ble_eq_true rfl) dX0_comeHome_122 ?_
      refine G.if_eqB C 156 dX0_comeHome_125 (by decide) (fun h125 => ?_) (fun h125 => ?_)
      · refine G.aldn0 C dX0_comeHome_156 ?_
        refine G.getC C hi hinX0 8 (by decide) rfl (C.1.2.2.2.2 (.fieldLink RX0 53 RX0 "shifts" "I") (by decide +kernel)) rfl dX0_comeHome_157 ?_
        refine G.ildn3 C dX0_comeHome_160 ?_
        refine G.isub C dX0_comeHome_161 ?_
        exact G.iret C hlk hrt dX0_comeHome_162 (by rw [hr, h3, hq1]; first | rfl | simp [cRun, *]) (by intro H h; rw [h3, hq1]; first | exact h | simpa [cRun, *] using h)
      · refine G.aldn0 C dX0_comeHome_128 ?_
        refine G.ild6 C dX0_comeHome_129 ?_
        refine G.aldn0 C dX0_comeHome_131 ?_
        refine G.getC C hi hinX0 8 (by decide) rfl (C.1.2.2.2.2 (.fieldLink RX0 53 RX0 "shifts" "I") (by decide +kernel)) rfl dX0_comeHome_132 ?_
        refine G.ild4 C dX0_comeHome_135 ?_
        refine G.icmp_ge C 144 dX0_comeHome_137 (by decide) (fun h137 => ?_) (fun h137 => ?_)
        · refine G.iconst C 0 dX0_comeHome_144 (by decide) ?_
          refine G.callVI2 C (k_X0_settle l hi (b := false) (cEx_in h125) hq0) (cwV 2 C.1.2.2.2.2 gX0_comeHome_X0_settle rfl rfl rfl (by decide +kernel) ⟨Nat.le_of_ble_eq_true rfl, Nat.le_of_ble_eq_true rfl⟩) (gO_c hi) rfl (Nat.le_of_ble_eq_true rfl) dX0_comeHome_145 ?_
          refine G.ist6 C dX0_comeHome_148 (by omega) rfl ?_
          refine G.iincN7 C dX0_comeHome_150 (by omega) rfl ?_
          refine G.goto C 112 dX0_comeHome_153 (by decide) ?_
          exact G.back (ih (k + 1) (by omega) (cSettle c2 y2 (decide (¬ mo ≤ c2 0 8))).2 (cSettle c2 y2 (decide (¬ mo ≤ c2 0 8))).1 (cSz_settle hq0) (by rw [hq1]; simp only [cRun, h125, if_true])) (by simp [h137]) ⟨(by first | rfl | simp [h137]), (by first | rfl | simp [h137]), (by first | rfl | simp [h137]), (by first | rfl | simp [h137]), (by first | rfl | simp [h137]), (by first | rfl | simp [h137]), (by first | rfl | simp [h137]), trivial⟩
        · refine G.iconst C 1 dX0_comeHome_140 (by decide) ?_
          refine G.goto C 145 dX0_comeHome_141 (by decide) ?_
          refine G.callVI2 C (k_X0_settle l hi (b := true) (cEx_in h125) hq0) (cwV 2 C.1.2.2.2.2 gX0_comeHome_X0_settle rfl rfl rfl (by decide +kernel) ⟨Nat.le_of_ble_eq_true rfl, Nat.le_of_ble_eq_true rfl⟩) (gO_c hi) rfl (Nat.le_of_ble_eq_true rfl) dX0_comeHome_145 ?_
          refine G.ist6 C dX0_comeHome_148 (by omega) rfl ?_
          refine G.iincN7 C dX0_comeHome_150 (by omega) rfl ?_
          refine G.goto C 112 dX0_comeHome_153 (by decide) ?_
          exact G.back (ih (k + 1) (by omega) (cSettle c2 y2 (decide (¬ mo ≤ c2 0 8))).2 (cSettle c2 y2 (decide (¬ mo ≤ c2 0 8))).1 (cSz_settle hq0) (by rw [hq1]; simp only [cRun, h125, if_true])) (by simp [h137]) ⟨(by first | rfl | simp [h137]), (by first | rfl | simp [h137]), (by first | rfl | simp [h137]), (by first | rfl | simp [h137]), (by first | rfl | simp [h137]), (by first | rfl | simp [h137]), (by first | rfl | simp [h137]), trivial⟩
  exact G.back (L112 25 0 (Nat.zero_add _) c1 y hz rfl) rfl ⟨(by first | rfl | simp), (by first | rfl | simp), (by first | rfl | simp), (by first | rfl | simp), (by first | rfl | simp), (by first | rfl | simp), (by first | rfl | simp), trivial⟩
set_option maxRecDepth 100000 in
set_option maxHeartbeats 4000000 in
theorem k_X0_comeHome (l : Launch) {E : gEn} {σ : gSt} {π : Nat → Nat} {o : Int64} {i : Nat} (hi : i < 9) {c : Nat → Nat → Int32} {x t : Int32} (hx : vp_in x 16) : CtI l yX0_comeHome wsX0_comeHome ({ frames := 4, cells := 0, slots := 0, locals := 92 } : Room) E [.ref (E.2.1 i 0), .int x, .int t] (gU σ i c) π o (cComeR c x t) (gU σ i (cCome c x t)) π o := by
  refine CtI.of (cc := cX0_comeHome) (own := RX0) (maxL := 8) (ret := (some .int)) [some (.ref (E.2.1 i 0)), some (.int x), some (.int t), none, none, none, none, none] (by decide) rfl rfl (Nat.le_of_ble_eq_true rfl) rfl ?_
  intro p e s m args below meth cd C hrt hlk
  have hinX0 : ∀ w ∈ wsX00, w ∈ wsX0_comeHome := by decide +kernel
  have hinX2 : ∀ w ∈ wsX20, w ∈ wsX0_comeHome := by decide +kernel
  refine G.aldn0 C dX0_comeHome_0 ?_
  refine G.ildn2 C dX0_comeHome_1 ?_
  refine G.putC (ty := .int) C hi hinX0 7 (by decide) rfl (C.1.2.2.2.2 (.fieldLink RX0 50 RX0 "time" "I") (by decide +kernel)) rfl rfl rfl rfl pfX0_7 dX0_comeHome_2 ?_
  refine G.aldn0 C dX0_comeHome_5 ?_
  refine G.getC C hi hinX0 5 (by decide) rfl (C.1.2.2.2.2 (.fieldLink RX0 32 RX0 "way" "LLateDoves$Way;") (by decide +kernel)) rfl dX0_comeHome_6 ?_
  refine G.iconst C 0 dX0_comeHome_9 (by decide) ?_
  refine G.putWN (ty := .int) C hi hinX2 2 (by decide) rfl (by simp [gNst, TX2]) rfl rfl rfl rfl pfX2_2 dX0_comeHome_10 ?_
  refine G.aldn0 C dX0_comeHome_13 ?_
  refine G.getC C hi hinX0 8 (by decide) rfl (C.1.2.2.2.2 (.fieldLink RX0 53 RX0 "shifts" "I") (by decide +kernel)) rfl dX0_comeHome_14 ?_
  refine G.topI (c 0 8) rfl ?_
  refine G.istn3 C dX0_comeHome_17 (by omega) rfl ?_
  refine G.aldn0 C dX0_comeHome_18 ?_
  refine G.getC C hi hinX0 8 (by decide) rfl (C.1.2.2.2.2 (.fieldLink RX0 53 RX0 "shifts" "I") (by decide +kernel)) rfl dX0_comeHome_19 ?_
  refine G.topI (c 0 8) rfl ?_
  refine G.aldn0 C dX0_comeHome_22 ?_
  refine G.getC C hi hinX0 2 (by decide) rfl (C.1.2.2.2.2 (.fieldLink RX0 19 RX0 "settings" "[I") (by decide +kernel)) rfl dX0_comeHome_23 ?_
  refine G.iconst C 1 dX0_comeHome_26 (by decide) ?_
  refine G.ialdU C (n := 2) (j := 14) (d0 := 1) (gN_c hi rfl) (gV_c hi (by omega)) (by unfold vp_in; decide) (by decide) dX0_comeHome_27 ?_
  refine G.topI (c 14 1) rfl ?_
  refine G.iadd C dX0_comeHome_28 ?_
  refine G.ist4 C dX0_comeHome_29 (by omega) rfl ?_
  refine G.ildn2 C dX0_comeHome_31 ?_
  refine G.aldn0 C dX0_comeHome_32 ?_
  refine G.getC C hi hinX0 2 (by decide) rfl (C.1.2.2.2.2 (.fieldLink RX0 19 RX0 "settings" "[I") (by decide +kernel)) rfl dX0_comeHome_33 ?_
  refine G.iconst C 0 dX0_comeHome_36 (by decide) ?_
  refine G.ialdU C (n := 2) (j := 14) (d0 := 0) (gN_c hi rfl) (gV_c hi (by omega)) (by unfold vp_in; decide) (by decide) dX0_comeHome_37 ?_
  refine G.topI (c 14 0) rfl ?_
  refine G.icmp_le C 45 dX0_comeHome_38 (by decide) (fun h38 => ?_) (fun h38 => ?_)
  · refine G.iconst C 0 dX0_comeHome_45 (by decide) ?_
    refine G.ist5 C dX0_comeHome_46 (by omega) rfl ?_
    refine G.ild5 C dX0_comeHome_48 ?_
    refine G.if_eq C 65 dX0_comeHome_50 (by decide) (fun _ => ?_) (fun h => absurd (by decide) h)
    refine G.ildn1 C dX0_comeHome_65 ?_
    refine G.ist6 C dX0_comeHome_66 (by omega) rfl ?_
    refine G.ild5 C dX0_comeHome_68 ?_
    refine G.if_ne C 109 dX0_comeHome_70 (by decide) (fun h => absurd rfl h) (fun _ => ?_)
    refine G.aldn0 C dX0_comeHome_73 ?_
    refine G.aldn0 C dX0_comeHome_74 ?_
    refine G.getC C hi hinX0 0 (by decide) rfl (C.1.2.2.2.2 (.fieldLink RX0 11 RX0 "doves" "[[I") (by decide +kernel)) rfl dX0_comeHome_75 ?_
    refine G.iconst C 0 dX0_comeHome_78 (by decide) ?_
    refine G.aaldD C hi 2 (by unfold vp_in; decide) (by decide) dX0_comeHome_79 ?_
    refine G.ildn1 C dX0_comeHome_80 ?_
    refine G.ialdU C (n := 16) (j := 2) (d0 := _) (gN_c hi rfl) (gV_c hi (by omega)) (by first | assumption | exact vp_in_nI (by omega) (by omega) | (unfold vp_in; decide)) rfl dX0_comeHome_81 ?_
    refine G.topI (c 2 (ix x)) rfl ?_
    refine G.callVI1 C (k_X0_isOpen l hi) (cwV 1 C.1.2.2.2.2 gX0_comeHome_X0_isOpen rfl rfl rfl (by decide +kernel) ⟨Nat.le_of_ble_eq_true rfl, Nat.le_of_ble_eq_true rfl⟩) (gO_c hi) rfl (Nat.le_of_ble_eq_true rfl) dX0_comeHome_82 ?_
    refine G.if_eqB C 109 dX0_comeHome_85 (by decide) (fun h85 => ?_) (fun h85 => ?_)
    · refine G.less (gSub_ok [some (.ref (E.2.1 i 0)), some (.int x), some (.int t), some (.int (c 0 8)), some (.int (c 0 8 + c 14 1)), none, some (.int (cCome0 c x t).1), none] _ ⟨rfl, rfl, rfl, rfl, rfl, by simp [cCome0, *], trivial⟩) ?_
      refine G.cast (σ' := gU σ i (cCome0 c x t).2) (k_X0_comeHome_109 l hi (c3 := cCome c x t) cSz_come0 rfl rfl C hrt hlk) (by simp [cCome0, *]) rfl rfl rfl rfl
    · refine G.aldn0 C dX0_comeHome_88 ?_
      refine G.ildn1 C dX0_comeHome_89 ?_
      refine G.aldn0 C dX0_comeHome_90 ?_
      refine G.getC C hi hinX0 8 (by decide) rfl (C.1.2.2.2.2 (.fieldLink RX0 53 RX0 "shifts" "I") (by decide +kernel)) rfl dX0_comeHome_91 ?_
      refine G.topI (c 0 8) rfl ?_
      refine G.ild4 C dX0_comeHome_94 ?_
      refine G.icmp_ge C 103 dX0_comeHome_96 (by decide) (fun h96 => ?_) (fun h96 => ?_)
      · refine G.iconst C 0 dX0_comeHome_103 (by decide) ?_
        refine G.callVI2 C (k_X0_enterOwnHole l hi (b := false) hx (cOpen_in h85) cSz_0) (cwV 2 C.1.2.2.2.2 gX0_comeHome_X0_enterOwnHole rfl rfl rfl (by decide +kernel) ⟨Nat.le_of_ble_eq_true rfl, Nat.le_of_ble_eq_true rfl⟩) (gO_c hi) rfl (Nat.le_of_ble_eq_true rfl) dX0_comeHome_104 ?_
        refine G.ist6 C dX0_comeHome_107 (by omega) rfl ?_
        refine G.less (gSub_ok [some (.ref (E.2.1 i 0)), some (.int x), some (.int t), some (.int (c 0 8)), some (.int (c 0 8 + c 14 1)), none, some (.int (cCome0 c x t).1), none] _ ⟨rfl, rfl, rfl, rfl, rfl, by simp [cCome0, *], trivial⟩) ?_
        refine G.cast (σ' := gU σ i (cCome0 c x t).2) (k_X0_comeHome_109 l hi (c3 := cCome c x t) cSz_come0 rfl rfl C hrt hlk) (by simp [cCome0, *]) rfl rfl rfl rfl
      · refine G.iconst C 1 dX0_comeHome_99 (by decide) ?_
        refine G.goto C 104 dX0_comeHome_100 (by decide) ?_
        refine G.callVI2 C (k_X0_enterOwnHole l hi (b := true) hx (cOpen_in h85) cSz_0) (cwV 2 C.1.2.2.2.2 gX0_comeHome_X0_enterOwnHole rfl rfl rfl (by decide +kernel) ⟨Nat.le_of_ble_eq_true rfl, Nat.le_of_ble_eq_true rfl⟩) (gO_c hi) rfl (Nat.le_of_ble_eq_true rfl) dX0_comeHome_104 ?_
        refine G.ist6 C dX0_comeHome_107 (by omega) rfl ?_
        refine G.less (gSub_ok [some (.ref (E.2.1 i 0)), some (.int x), some (.int t), some (.int (c 0 8)), some (.int (c 0 8 + c 14 1)), none, some (.int (cCome0 c x t).1), none] _ ⟨rfl, rfl, rfl, rfl, rfl, by simp [cCome0, *], trivial⟩) ?_
        refine G.cast (σ' := gU σ i (cCome0 c x t).2) (k_X0_comeHome_109 l hi (c3 := cCome c x t) cSz_come0 rfl rfl C hrt hlk) (by simp [cCome0, *]) rfl rfl rfl rfl
  · refine G.iconst C 1 dX0_comeHome_41 (by decide) ?_
    refine G.goto C 46 dX0_comeHome_42 (by decide) ?_
    refine G.ist5 C dX0_comeHome_46 (by omega) rfl ?_
    refine G.ild5 C dX0_comeHome_48 ?_
    refine G.if_eq C 65 dX0_comeHome_50 (by decide) (fun h => absurd h (by decide)) (fun _ => ?_)
    refine G.aldn0 C dX0_comeHome_53 ?_
    refine G.getC C hi hinX0 0 (by decide) rfl (C.1.2.2.2.2 (.fieldLink RX0 11 RX0 "doves" "[[I") (by decide +kernel)) rfl dX0_comeHome_54 ?_
    refine G.iconst C 4 dX0_comeHome_57 (by decide) ?_
    refine G.aaldD C hi 6 (by unfold vp_in; decide) (by decide) dX0_comeHome_58 ?_
    refine G.ildn1 C dX0_comeHome_59 ?_
    refine G.dup2 C dX0_comeHome_60 rfl rfl ?_
    refine G.ialdU C (n := 16) (j := 6) (d0 := _) (gN_c hi rfl) (gV_c hi (by omega)) (by first | assumption | exact vp_in_nI (by omega) (by omega) | (unfold vp_in; decide)) rfl dX0_comeHome_61 ?_
    refine G.topI (c 6 (ix x)) rfl ?_
    refine G.iconst C 1 dX0_comeHome_62 (by decide) ?_
    refine G.iadd C dX0_comeHome_63 ?_
    refine G.iastU C (n := 16) (j := 6) (d0 := _) (gN_c hi rfl) (gV_c hi (by omega)) (by first | assumption | exact vp_in_nI (by omega) (by omega) | (unfold vp_in; decide)) rfl dX0_comeHome_64 ?_
    refine G.ildn1 C dX0_comeHome_65 ?_
    refine G.ist6 C dX0_comeHome_66 (by omega) rfl ?_
    refine G.ild5 C dX0_comeHome_68 ?_
    refine G.if_ne C 109 dX0_comeHome_70 (by decide) (fun _ => ?_) (fun h => absurd h (by decide))
    refine G.less (gSub_ok [some (.ref (E.2.1 i 0)), some (.int x), some (.int t), some (.int (c 0 8)), some (.int (c 0 8 + c 14 1)), none, some (.int (cCome0 c x t).1), none] _ ⟨rfl, rfl, rfl, rfl, rfl, by simp [cCome0, *], trivial⟩) ?_
    refine G.cast (σ' := gU σ i (cCome0 c x t).2) (k_X0_comeHome_109 l hi (c3 := cCome c x t) cSz_come0 rfl rfl C hrt hlk) (by simp [cCome0, *]) rfl rfl rfl rfl
