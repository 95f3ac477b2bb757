/-! the reader -/
def rBegin (c : cSt) : cSt := cW (cW (cW (cW c 3 0 0) 3 1 0) 3 2 (-1)) 3 3 (-1)
def rSign (c : cSt) : Int32 := if c 3 1 = 98 then 33 else if c 3 1 = 104 then 64 else if c 3 1 = 109 then 43 else -1
def rDone (c : cSt) : Bool := if c 3 0 = 1 then (if c 3 2 = -1 then false else if rSign c = -1 then true else false) else if c 3 0 = 3 then true else if c 3 0 = 2 then (if c 3 3 = -1 then false else true) else false
def rGrown (x y : Int32) : Int32 := if x = -1 then y else if x = 0 then -1 else x * 10 + y
def rHi1 (c : cSt) : Int32 := if c 3 1 = 104 then 15 else if c 3 1 = 109 then 15 else 23
def rLo2 (c : cSt) : Int32 := if c 3 1 = 98 then 1 else 0
def rHi2 (c : cSt) : Int32 := if c 3 1 = 98 then 9 else if c 3 1 = 104 then 1439 else 15
def rLetter (c : cSt) (x : Int32) : Bool × cSt := if x = 94 then (true, cW (cW c 3 0 3) 3 1 x) else if x = 98 then (true, cW (cW c 3 0 1) 3 1 x) else if x = 104 then (true, cW (cW c 3 0 1) 3 1 x) else if x = 109 then (true, cW (cW c 3 0 1) 3 1 x) else if x = 111 then (true, cW (cW c 3 0 1) 3 1 x) else if x = 120 then (true, cW (cW c 3 0 1) 3 1 x) else (false, c)
def rEnd (c : cSt) : Bool × cSt := if rDone c = true then (true, rBegin c) else (false, c)
def rSignT (c : cSt) (x : Int32) : Bool × cSt := if c 3 0 = 1 then (if c 3 2 = -1 then (false, c) else if x = rSign c then (true, cW c 3 0 2) else (false, c)) else (false, c)
def rDigit (c : cSt) (x : Int32) : Bool × cSt :=
  if c 3 0 = 1 then (if rGrown (c 3 2) x = -1 then (false, c) else if rGrown (c 3 2) x ≤ rHi1 c then (true, cW c 3 2 (rGrown (c 3 2) x)) else (false, c))
  else if c 3 0 = 2 then (if rGrown (c 3 3) x < rLo2 c then (false, c) else if rGrown (c 3 3) x ≤ rHi2 c then (true, cW c 3 3 (rGrown (c 3 3) x)) else (false, c))
  else (false, c)
def rTake (c : cSt) (x : Int32) : Bool × cSt := if c 3 0 = 0 then rLetter c x else if x = 59 then rEnd c else if x < 48 then rSignT c x else if 57 < x then rSignT c x else rDigit c (x - 48)
set_option maxRecDepth 100000 in
set_option maxHeartbeats 4000000 in
theorem k_X1_begin (l : Launch) {E : gEn} {σ : gSt} {π : Nat → Nat} {o : Int64} {c : cSt} : CtV l yX1_begin wsX1_begin ({ frames := 0, cells := 0, slots := 0, locals := 0 } : Room) E [.ref (E.2.1 9 3)] (gU σ 9 c) π o  (gU σ 9 (rBegin c)) π o := by
  refine CtV.of (cc := cX1_begin) (own := RX1) (maxL := 1) (ret := none) [some (.ref (E.2.1 9 3))] (by decide) rfl rfl (Nat.le_of_ble_eq_true rfl) rfl ?_
  intro p e s m args below meth cd C hrt hlk
  have hinX1 : ∀ w ∈ wsX10, w ∈ wsX1_begin := by decide +kernel
  refine G.aldn0 C dX1_begin_0 ?_
  refine G.iconst C 0 dX1_begin_1 (by decide) ?_
  refine G.putR (ty := .int) C hinX1 0 (by decide) rfl (C.1.2.2.2.2 (.fieldLink RX1 11 RX1 "stage" "I") (by decide +kernel)) rfl rfl rfl rfl pfX1_0 dX1_begin_2 ?_
  refine G.aldn0 C dX1_begin_5 ?_
  refine G.iconst C 0 dX1_begin_6 (by decide) ?_
  refine G.putR (ty := .int) C hinX1 1 (by decide) rfl (C.1.2.2.2.2 (.fieldLink RX1 15 RX1 "kind" "I") (by decide +kernel)) rfl rfl rfl rfl pfX1_1 dX1_begin_7 ?_
  refine G.aldn0 C dX1_begin_10 ?_
  refine G.iconst C (-1) dX1_begin_11 (by decide) ?_
  refine G.putR (ty := .int) C hinX1 2 (by decide) rfl (C.1.2.2.2.2 (.fieldLink RX1 18 RX1 "first" "I") (by decide +kernel)) rfl rfl rfl rfl pfX1_2 dX1_begin_12 ?_
  refine G.aldn0 C dX1_begin_15 ?_
  refine G.iconst C (-1) dX1_begin_16 (by decide) ?_
  refine G.putR (ty := .int) C hinX1 3 (by decide) rfl (C.1.2.2.2.2 (.fieldLink RX1 21 RX1 "second" "I") (by decide +kernel)) rfl rfl rfl rfl pfX1_3 dX1_begin_17 ?_
  exact G.vret C hlk hrt dX1_begin_20 (by exact fun _ h => h)
set_option maxRecDepth 100000 in
set_option maxHeartbeats 4000000 in
theorem k_X1_signBehindFirst (l : Launch) {E : gEn} {σ : gSt} {π : Nat → Nat} {o : Int64} {c : cSt} : CtI l yX1_signBehindFirst wsX1_signBehindFirst ({ frames := 0, cells := 0, slots := 0, locals := 0 } : Room) E [.ref (E.2.1 9 3)] (gU σ 9 c) π o (rSign c) (gU σ 9 c) π o := by
  refine CtI.of (cc := cX1_signBehindFirst) (own := RX1) (maxL := 1) (ret := (some .int)) [some (.ref (E.2.1 9 3))] (by decide) rfl rfl (Nat.le_of_ble_eq_true rfl) rfl ?_
  intro p e s m args below meth cd C hrt hlk
  have hinX1 : ∀ w ∈ wsX10, w ∈ wsX1_signBehindFirst := by decide +kernel
  refine G.aldn0 C dX1_signBehindFirst_0 ?_
  refine G.getR C hinX1 1 (by decide) rfl (C.1.2.2.2.2 (.fieldLink RX1 15 RX1 "kind" "I") (by decide +kernel)) rfl dX1_signBehindFirst_1 ?_
  have hp4 : True := trivial
  by_cases h4_98 : c 3 1 = 98
  · refine G.lookup C 43 dX1_signBehindFirst_4 (by decide) (off := 39) (by rw [h4_98]; decide) (by decide) ?_
    refine G.bipush C 33 dX1_signBehindFirst_43 (by decide) ?_
    exact G.iret C hlk hrt dX1_signBehindFirst_45 (by simp [rSign, *]) (by exact fun _ h => h)
  by_cases h4_104 : c 3 1 = 104
  · refine G.lookup C 40 dX1_signBehindFirst_4 (by decide) (off := 36) (by rw [h4_104]; decide) (by decide) ?_
    refine G.bipush C 64 dX1_signBehindFirst_40 (by decide) ?_
    exact G.iret C hlk hrt dX1_signBehindFirst_42 (by simp [rSign, *]) (by exact fun _ h => h)
  by_cases h4_109 : c 3 1 = 109
  · refine G.lookup C 46 dX1_signBehindFirst_4 (by decide) (off := 42) (by rw [h4_109]; decide) (by decide) ?_
    refine G.bipush C 43 dX1_signBehindFirst_46 (by decide) ?_
    exact G.iret C hlk hrt dX1_signBehindFirst_48 (by simp [rSign, *]) (by exact fun _ h => h)
  refine G.lookup C 49 dX1_signBehindFirst_4 (by decide) (off := 45) ((lv_osw h4_98 (by decide)).trans ((lv_osw h4_104 (by decide)).trans ((lv_osw h4_109 (by decide)).trans rfl))) (by decide) ?_
  refine G.iconst C (-1) dX1_signBehindFirst_49 (by decide) ?_
  exact G.iret C hlk hrt dX1_signBehindFirst_50 (by simp [rSign, *]) (by exact fun _ h => h)
set_option maxRecDepth 100000 in
set_option maxHeartbeats 4000000 in
theorem k_X1_isComplete (l : Launch) {E : gEn} {σ : gSt} {π : Nat → Nat} {o : Int64} {c : cSt} : CtI l yX1_isComplete wsX1_isComplete ({ frames := 1, cells := 0, slots := 0, locals := 20 } : Room) E [.ref (E.2.1 9 3)] (gU σ 9 c) π o (bI (rDone c)) (gU σ 9 c) π o := by
  refine CtI.of (cc := cX1_isComplete) (own := RX1) (maxL := 1) (ret := (some .boolean)) [some (.ref (E.2.1 9 3))] (by decide) rfl rfl (Nat.le_of_ble_eq_true rfl) rfl ?_
  intro p e s m args below meth cd C hrt hlk
  have hinX1 : ∀ w ∈ wsX10, w ∈ wsX1_isComplete := by decide +kernel
  refine G.aldn0 C dX1_isComplete_0 ?_
  refine G.getR C hinX1 0 (by decide) rfl (C.1.2.2.2.2 (.fieldLink RX1 11 RX1 "stage" "I") (by decide +kernel)) rfl dX1_isComplete_1 ?_
  refine G.iconst C 1 dX1_isComplete_4 (by decide) ?_
  refine G.icmp_ne C 30 dX1_isComplete_5 (by decide) (fun h5 => ?_) (fun h5 => ?_)
  · refine G.aldn0 C dX1_isComplete_30 ?_
    refine G.getR C hinX1 0 (by decide) rfl (C.1.2.2.2.2 (.fieldLink RX1 11 RX1 "stage" "I") (by decide +kernel)) rfl dX1_isComplete_31 ?_
    refine G.iconst C 3 dX1_isComplete_34 (by decide) ?_
    refine G.icmp_eq C 54 dX1_isComplete_35 (by decide) (fun h35 => ?_) (fun h35 => ?_)
    · refine G.iconst C 1 dX1_isComplete_54 (by decide) ?_
      refine G.goto C 59 dX1_isComplete_55 (by decide) ?_
      exact G.zret C hlk hrt dX1_isComplete_59 (by simp [rDone, *, bI]) (by exact fun _ h => h)
    · refine G.aldn0 C dX1_isComplete_38 ?_
      refine G.getR C hinX1 0 (by decide) rfl (C.1.2.2.2.2 (.fieldLink RX1 11 RX1 "stage" "I") (by decide +kernel)) rfl dX1_isComplete_39 ?_
      refine G.iconst C 2 dX1_isComplete_42 (by decide) ?_
      refine G.icmp_ne C 58 dX1_isComplete_43 (by decide) (fun h43 => ?_) (fun h43 => ?_)
      · refine G.iconst C 0 dX1_isComplete_58 (by decide) ?_
        exact G.zret C hlk hrt dX1_isComplete_59 (by simp [rDone, *, bI]) (by exact fun _ h => h)
      · refine G.aldn0 C dX1_isComplete_46 ?_
        refine G.getR C hinX1 3 (by decide) rfl (C.1.2.2.2.2 (.fieldLink RX1 21 RX1 "second" "I") (by decide +kernel)) rfl dX1_isComplete_47 ?_
        refine G.iconst C (-1) dX1_isComplete_50 (by decide) ?_
        refine G.icmp_eq C 58 dX1_isComplete_51 (by decide) (fun h51 => ?_) (fun h51 => ?_)
        · refine G.iconst C 0 dX1_isComplete_58 (by decide) ?_
          exact G.zret C hlk hrt dX1_isComplete_59 (by simp [rDone, *, bI]) (by exact fun _ h => h)
        · refine G.iconst C 1 dX1_isComplete_54 (by decide) ?_
          refine G.goto C 59 dX1_isComplete_55 (by decide) ?_
          exact G.zret C hlk hrt dX1_isComplete_59 (by simp [rDone, *, bI]) (by exact fun _ h => h)
  · refine G.aldn0 C dX1_isComplete_8 ?_
    refine G.getR C hinX1 2 (by decide) rfl (C.1.2.2.2.2 (.fieldLink RX1 18 RX1 "first" "I") (by decide +kernel)) rfl dX1_isComplete_9 ?_
    refine G.iconst C (-1) dX1_isComplete_12 (by decide) ?_
    refine G.icmp_eq C 28 dX1_isComplete_13 (by decide) (fun h13 => ?_) (fun h13 => ?_)
    · refine G.iconst C 0 dX1_isComplete_28 (by decide) ?_
      exact G.zret C hlk hrt dX1_isComplete_29 (by simp [rDone, *, bI]) (by exact fun _ h => h)
    · refine G.aldn0 C dX1_isComplete_16 ?_
      refine G.callVI0 C (k_X1_signBehindFirst l) (cwV 0 C.1.2.2.2.2 gX1_isComplete_X1_signBehindFirst rfl rfl rfl (by decide +kernel) ⟨Nat.le_of_ble_eq_true rfl, Nat.le_of_ble_eq_true rfl⟩) gO_r rfl (Nat.le_of_ble_eq_true rfl) dX1_isComplete_17 ?_
      refine G.iconst C (-1) dX1_isComplete_20 (by decide) ?_
      refine G.icmp_ne C 28 dX1_isComplete_21 (by decide) (fun h21 => ?_) (fun h21 => ?_)
      · refine G.iconst C 0 dX1_isComplete_28 (by decide) ?_
        exact G.zret C hlk hrt dX1_isComplete_29 (by simp [rDone, *, bI]) (by exact fun _ h => h)
      · refine G.iconst C 1 dX1_isComplete_24 (by decide) ?_
        refine G.goto C 29 dX1_isComplete_25 (by decide) ?_
        exact G.zret C hlk hrt dX1_isComplete_29 (by simp [rDone, *, bI]) (by exact fun _ h => h)
set_option maxRecDepth 100000 in
set_option maxHeartbeats 4000000 in
theorem k_X1_grown (l : Launch) {E : gEn} {σ : gSt} {π : Nat → Nat} {o : Int64} {x y : Int32} : CtI l yX1_grown wsX1_grown ({ frames := 0, cells := 0, slots := 0, locals := 0 } : Room) E [.int x, .int y] σ π o (rGrown x y) σ π o := by
  refine CtI.of (cc := cX1_grown) (own := RX1) (maxL := 2) (ret := (some .int)) [some (.int x), some (.int y)] (by decide) rfl rfl (Nat.le_of_ble_eq_true rfl) rfl ?_
  intro p e s m args below meth cd C hrt hlk
  refine G.ildn0 C dX1_grown_0 ?_
  refine G.iconst C (-1) dX1_grown_1 (by decide) ?_
  refine G.icmp_ne C 7 dX1_grown_2 (by decide) (fun h2 => ?_) (fun h2 => ?_)
  · refine G.ildn0 C dX1_grown_7 ?_
    refine G.if_ne C 15 dX1_grown_8 (by decide) (fun h8 => ?_) (fun h8 => ?_)
    · refine G.ildn0 C dX1_grown_15 ?_
      refine G.bipush C 10 dX1_grown_16 (by decide) ?_
      refine G.imul C dX1_grown_18 ?_
      refine G.ildn1 C dX1_grown_19 ?_
      refine G.iadd C dX1_grown_20 ?_
      exact G.iret C hlk hrt dX1_grown_21 (by simp [rGrown, *]) (by exact fun _ h => h)
    · refine G.iconst C (-1) dX1_grown_11 (by decide) ?_
      refine G.goto C 21 dX1_grown_12 (by decide) ?_
      exact G.iret C hlk hrt dX1_grown_21 (by simp [rGrown, *]) (by exact fun _ h => h)
  · refine G.ildn1 C dX1_grown_5 ?_
    exact G.iret C hlk hrt dX1_grown_6 (by simp [rGrown, *]) (by exact fun _ h => h)
set_option maxRecDepth 100000 in
set_option maxHeartbeats 4000000 in
theorem k_X1_highestFirst (l : Launch) {E : gEn} {σ : gSt} {π : Nat → Nat} {o : Int64} {c : cSt} : CtI l yX1_highestFirst wsX1_highestFirst ({ frames := 0, cells := 0, slots := 0, locals := 0 } : Room) E [.ref (E.2.1 9 3)] (gU σ 9 c) π o (rHi1 c) (gU σ 9 c) π o := by
  refine CtI.of (cc := cX1_highestFirst) (own := RX1) (maxL := 1) (ret := (some .int)) [some (.ref (E.2.1 9 3))] (by decide) rfl rfl (Nat.le_of_ble_eq_true rfl) rfl ?_
  intro p e s m args below meth cd C hrt hlk
  have hinX1 : ∀ w ∈ wsX10, w ∈ wsX1_highestFirst := by decide +kernel
  refine G.aldn0 C dX1_highestFirst_0 ?_
  refine G.getR C hinX1 1 (by decide) rfl (C.1.2.2.2.2 (.fieldLink RX1 15 RX1 "kind" "I") (by decide +kernel)) rfl dX1_highestFirst_1 ?_
  refine G.bipush C 104 dX1_highestFirst_4 (by decide) ?_
  refine G.icmp_eq C 18 dX1_highestFirst_6 (by decide) (fun h6 => ?_) (fun h6 => ?_)
  · refine G.bipush C 15 dX1_highestFirst_18 (by decide) ?_
    refine G.goto C 25 dX1_highestFirst_20 (by decide) ?_
    exact G.iret C hlk hrt dX1_highestFirst_25 (by simp [rHi1, *]) (by exact fun _ h => h)
  · refine G.aldn0 C dX1_highestFirst_9 ?_
    refine G.getR C hinX1 1 (by decide) rfl (C.1.2.2.2.2 (.fieldLink RX1 15 RX1 "kind" "I") (by decide +kernel)) rfl dX1_highestFirst_10 ?_
    refine G.bipush C 109 dX1_highestFirst_13 (by decide) ?_
    refine G.icmp_ne C 23 dX1_highestFirst_15 (by decide) (fun h15 => ?_) (fun h15 => ?_)
    · refine G.bipush C 23 dX1_highestFirst_23 (by decide) ?_
      exact G.iret C hlk hrt dX1_highestFirst_25 (by simp [rHi1, *]) (by exact fun _ h => h)
    · refine G.bipush C 15 dX1_highestFirst_18 (by decide) ?_
      refine G.goto C 25 dX1_highestFirst_20 (by decide) ?_
      exact G.iret C hlk hrt dX1_highestFirst_25 (by simp [rHi1, *]) (by exact fun _ h => h)
set_option maxRecDepth 100000 in
set_option maxHeartbeats 4000000 in
theorem k_X1_lowestSecond (l : Launch) {E : gEn} {σ : gSt} {π : Nat → Nat} {o : Int64} {c : cSt} : CtI l yX1_lowestSecond wsX1_lowestSecond ({ frames := 0, cells := 0, slots := 0, locals := 0 } : Room) E [.ref (E.2.1 9 3)] (gU σ 9 c) π o (rLo2 c) (gU σ 9 c) π o := by
  refine CtI.of (cc := cX1_lowestSecond) (own := RX1) (maxL := 1) (ret := (some .int)) [some (.ref (E.2.1 9 3))] (by decide) rfl rfl (Nat.le_of_ble_eq_true rfl) rfl ?_
  intro p e s m args below meth cd C hrt hlk
  have hinX1 : ∀ w ∈ wsX10, w ∈ wsX1_lowestSecond := by decide +kernel
  refine G.aldn0 C dX1_lowestSecond_0 ?_
  refine G.getR C hinX1 1 (by decide) rfl (C.1.2.2.2.2 (.fieldLink RX1 15 RX1 "kind" "I") (by decide +kernel)) rfl dX1_lowestSecond_1 ?_
  refine G.bipush C 98 dX1_lowestSecond_4 (by decide) ?_
  refine G.icmp_ne C 13 dX1_lowestSecond_6 (by decide) (fun h6 => ?_) (fun h6 => ?_)
  · refine G.iconst C 0 dX1_lowestSecond_13 (by decide) ?_
    exact G.iret C hlk hrt dX1_lowestSecond_14 (by simp [rLo2, *]) (by exact fun _ h => h)
  · refine G.iconst C 1 dX1_lowestSecond_9 (by decide) ?_
    refine G.goto C 14 dX1_lowestSecond_10 (by decide) ?_
    exact G.iret C hlk hrt dX1_lowestSecond_14 (by simp [rLo2, *]) (by exact fun _ h => h)
set_option maxRecDepth 100000 in
set_option maxHeartbeats 4000000 in
theorem k_X1_highestSecond (l : Launch) {E : gEn} {σ : gSt} {π : Nat → Nat} {o : Int64} {c : cSt} : CtI l yX1_highestSecond wsX1_highestSecond ({ frames := 0, cells := 0, slots := 0, locals := 0 } : Room) E [.ref (E.2.1 9 3)] (gU σ 9 c) π o (rHi2 c) (gU σ 9 c) π o := by
  refine CtI.of (cc := cX1_highestSecond) (own := RX1) (maxL := 1) (ret := (some .int)) [some (.ref (E.2.1 9 3))] (by decide) rfl rfl (Nat.le_of_ble_eq_true rfl) rfl ?_
  intro p e s m args below meth cd C hrt hlk
  have hinX1 : ∀ w ∈ wsX10, w ∈ wsX1_highestSecond := by decide +kernel
  refine G.aldn0 C dX1_highestSecond_0 ?_
  refine G.getR C hinX1 1 (by decide) rfl (C.1.2.2.2.2 (.fieldLink RX1 15 RX1 "kind" "I") (by decide +kernel)) rfl dX1_highestSecond_1 ?_
  have hp4 : True := trivial
  by_cases h4_98 : c 3 1 = 98
  · refine G.lookup C 36 dX1_highestSecond_4 (by decide) (off := 32) (by rw [h4_98]; decide) (by decide) ?_
    refine G.bipush C 9 dX1_highestSecond_36 (by decide) ?_
    exact G.iret C hlk hrt dX1_highestSecond_38 (by simp [rHi2, *]) (by exact fun _ h => h)
  by_cases h4_104 : c 3 1 = 104
  · refine G.lookup C 32 dX1_highestSecond_4 (by decide) (off := 28) (by rw [h4_104]; decide) (by decide) ?_
    refine G.sipush C 1439 dX1_highestSecond_32 (by decide) ?_
    exact G.iret C hlk hrt dX1_highestSecond_35 (by simp [rHi2, *]) (by exact fun _ h => h)
  refine G.lookup C 39 dX1_highestSecond_4 (by decide) (off := 35) ((lv_osw h4_98 (by decide)).trans ((lv_osw h4_104 (by decide)).trans rfl)) (by decide) ?_
  refine G.bipush C 15 dX1_highestSecond_39 (by decide) ?_
  exact G.iret C hlk hrt dX1_highestSecond_41 (by simp [rHi2, *]) (by exact fun _ h => h)
set_option maxRecDepth 100000 in
set_option maxHeartbeats 4000000 in
theorem k_X1_takeLetter (l : Launch) {E : gEn} {σ : gSt} {π : Nat → Nat} {o : Int64} {c : cSt} {x : Int32} : CtI l yX1_takeLetter wsX1_takeLetter ({ frames := 0, cells := 0, slots := 0, locals := 0 } : Room) E [.ref (E.2.1 9 3), .int x] (gU σ 9 c) π o (bI (rLetter c x).1) (gU σ 9 ((rLetter c x).2)) π o := by
  refine CtI.of (cc := cX1_takeLetter) (own := RX1) (maxL := 2) (ret := (some .boolean)) [some (.ref (E.2.1 9 3)), some (.int x)] (by decide) rfl rfl (Nat.le_of_ble_eq_true rfl) rfl ?_
  intro p e s m args below meth cd C hrt hlk
  have hinX1 : ∀ w ∈ wsX10, w ∈ wsX1_takeLetter := by decide +kernel
  refine G.ildn1 C dX1_takeLetter_0 ?_
  have hp1 : True := trivial
  by_cases h1_94 : x = 94
  · refine G.lookup C 68 dX1_takeLetter_1 (by decide) (off := 67) (by rw [h1_94]; decide) (by decide) ?_
    refine G.aldn0 C dX1_takeLetter_68 ?_
    refine G.iconst C 3 dX1_takeLetter_69 (by decide) ?_
    refine G.putR (ty := .int) C hinX1 0 (by decide) rfl (C.1.2.2.2.2 (.fieldLink RX1 11 RX1 "stage" "I") (by decide +kernel)) rfl rfl rfl rfl pfX1_0 dX1_takeLetter_70 ?_
    refine G.goto C 78 dX1_takeLetter_73 (by decide) ?_
    refine G.aldn0 C dX1_takeLetter_78 ?_
    refine G.ildn1 C dX1_takeLetter_79 ?_
    refine G.putR (ty := .int) C hinX1 1 (by decide) rfl (C.1.2.2.2.2 (.fieldLink RX1 15 RX1 "kind" "I") (by decide +kernel)) rfl rfl rfl rfl pfX1_1 dX1_takeLetter_80 ?_
    refine G.iconst C 1 dX1_takeLetter_83 (by decide) ?_
    exact G.zret C hlk hrt dX1_takeLetter_84 (by simp [rLetter, *, bI]) (by intro H h; simpa [rLetter, *] using h)
  by_cases h1_98 : x = 98
  · refine G.lookup C 60 dX1_takeLetter_1 (by decide) (off := 59) (by rw [h1_98]; decide) (by decide) ?_
    refine G.aldn0 C dX1_takeLetter_60 ?_
    refine G.iconst C 1 dX1_takeLetter_61 (by decide) ?_
    refine G.putR (ty := .int) C hinX1 0 (by decide) rfl (C.1.2.2.2.2 (.fieldLink RX1 11 RX1 "stage" "I") (by decide +kernel)) rfl rfl rfl rfl pfX1_0 dX1_takeLetter_62 ?_
    refine G.goto C 78 dX1_takeLetter_65 (by decide) ?_
    refine G.aldn0 C dX1_takeLetter_78 ?_
    refine G.ildn1 C dX1_takeLetter_79 ?_
    refine G.putR (ty := .int) C hinX1 1 (by decide) rfl (C.1.2.2.2.2 (.fieldLink RX1 15 RX1 "kind" "I") (by decide +kernel)) rfl rfl rfl rfl pfX1_1 dX1_takeLetter_80 ?_
    refine G.iconst C 1 dX1_takeLetter_83 (by decide) ?_
    exact G.zret C hlk hrt dX1_takeLetter_84 (by simp [rLetter, *, bI]) (by intro H h; simpa [rLetter, *] using h)
  by_cases h1_104 : x = 104
  · refine G.lookup C 60 dX1_takeLetter_1 (by decide) (off := 59) (by rw [h1_104]; decide) (by decide) ?_
    refine G.aldn0 C dX1_takeLetter_60 ?_
    refine G.iconst C 1 dX1_takeLetter_61 (by decide) ?_
    refine G.putR (ty := .int) C hinX1 0 (by decide) rfl (C.1.2.2.2.2 (.fieldLink RX1 11 RX1 "stage" "I") (by decide +kernel)) rfl rfl rfl rfl pfX1_0 dX1_takeLetter_62 ?_
    refine G.goto C 78 dX1_takeLetter_65 (by decide) ?_
    refine G.aldn0 C dX1_takeLetter_78 ?_
    refine G.ildn1 C dX1_takeLetter_79 ?_
    refine G.putR (ty := .int) C hinX1 1 (by decide) rfl (C.1.2.2.2.2 (.fieldLink RX1 15 RX1 "kind" "I") (by decide +kernel)) rfl rfl rfl rfl pfX1_1 dX1_takeLetter_80 ?_
    refine G.iconst C 1 dX1_takeLetter_83 (by decide) ?_
    exact G.zret C hlk hrt dX1_takeLetter_84 (by simp [rLetter, *, bI]) (by intro H h; simpa [rLetter, *] using h)
  by_cases h1_109 : x = 109
  · refine G.lookup C 60 dX1_takeLetter_1 (by decide) (off := 59) (by rw [h1_109]; decide) (by decide) ?_
    refine G.aldn0 C dX1_takeLetter_60 ?_
    refine G.iconst C 1 dX1_takeLetter_61 (by decide) ?_
    refine G.putR (ty := .int) C hinX1 0 (by decide) rfl (C.1.2.2.2.2 (.fieldLink RX1 11 RX1 "stage" "I") (by decide +kernel)) rfl rfl rfl rfl pfX1_0 dX1_takeLetter_62 ?_
    refine G.goto C 78 dX1_takeLetter_65 (by decide) ?_
    refine G.aldn0 C dX1_takeLetter_78 ?_
    refine G.ildn1 C dX1_takeLetter_79 ?_
    refine G.putR (ty := .int) C hinX1 1 (by decide) rfl (C.1.2.2.2.2 (.fieldLink RX1 15 RX1 "kind" "I") (by decide +kernel)) rfl rfl rfl rfl pfX1_1 dX1_takeLetter_80 ?_
    refine G.iconst C 1 dX1_takeLetter_83 (by decide) ?_
    exact G.zret C hlk hrt dX1_takeLetter_84 (by simp [rLetter, *, bI]) (by intro H h; simpa [rLetter, *] using h)
  by_cases h1_111 : x = 111
  · refine G.lookup C 60 dX1_takeLetter_1 (by decide) (off := 59) (by rw [h1_111]; decide) (by decide) ?_
    refine G.aldn0 C dX1_takeLetter_60 ?_
    refine G.iconst C 1 dX1_takeLetter_61 (by decide) ?_
    refine G.putR (ty := .int) C hinX1 0 (by decide) rfl (C.1.2.2.2.2 (.fieldLink RX1 11 RX1 "stage" "I") (by decide +kernel)) rfl rfl rfl rfl pfX1_0 dX1_takeLetter_62 ?_
    refine G.goto C 78 dX1_takeLetter_65 (by decide) ?_
    refine G.aldn0 C dX1_takeLetter_78 ?_
    refine G.ildn1 C dX1_takeLetter_79 ?_
    refine G.putR (ty := .int) C hinX1 1 (by decide) rfl (C.1.2.2.2.2 (.fieldLink RX1 15 RX1 "kind" "I") (by decide +kernel)) rfl rfl rfl rfl pfX1_1 dX1_takeLetter_80 ?_
    refine G.iconst C 1 dX1_takeLetter_83 (by decide) ?_
    exact G.zret C hlk hrt dX1_takeLetter_84 (by simp [rLetter, *, bI]) (by intro H h; simpa [rLetter, *] using h)
  by_cases h1_120 : x = 120
  · refine G.lookup C 60 dX1_takeLetter_1 (by decide) (off := 59) (by rw [h1_120]; decide) (by decide) ?_
    refine G.aldn0 C dX1_takeLetter_60 ?_
    refine G.iconst C 1 dX1_takeLetter_61 (by decide) ?_
    refine G.putR (ty := .int) C hinX1 0 (by decide) rfl (C.1.2.2.2.2 (.fieldLink RX1 11 RX1 "stage" "I") (by decide +kernel)) rfl rfl rfl rfl pfX1_0 dX1_takeLetter_62 ?_
    refine G.goto C 78 dX1_takeLetter_65 (by decide) ?_
    refine G.aldn0 C dX1_takeLetter_78 ?_
    refine G.ildn1 C dX1_takeLetter_79 ?_
    refine G.putR (ty := .int) C hinX1 1 (by decide) rfl (C.1.2.2.2.2 (.fieldLink RX1 15 RX1 "kind" "I") (by decide +kernel)) rfl rfl rfl rfl pfX1_1 dX1_takeLetter_80 ?_
    refine G.iconst C 1 dX1_takeLetter_83 (by decide) ?_
    exact G.zret C hlk hrt dX1_takeLetter_84 (by simp [rLetter, *, bI]) (by intro H h; simpa [rLetter, *] using h)
  refine G.lookup C 76 dX1_takeLetter_1 (by decide) (off := 75) ((lv_osw h1_94 (by decide)).trans ((lv_osw h1_98 (by decide)).trans ((lv_osw h1_104 (by decide)).trans ((lv_osw h1_109 (by decide)).trans ((lv_osw h1_111 (by decide)).trans ((lv_osw h1_120 (by decide)).trans rfl)))))) (by decide) ?_
  refine G.iconst C 0 dX1_takeLetter_76 (by decide) ?_
  exact G.zret C hlk hrt dX1_takeLetter_77 (by simp [rLetter, *, bI]) (by intro H h; simpa [rLetter, *] using h)
set_option maxRecDepth 100000 in
set_option maxHeartbeats 4000000 in
theorem k_X1_takeEnd (l : Launch) {E : gEn} {σ : gSt} {π : Nat → Nat} {o : Int64} {c : cSt} : CtI l yX1_takeEnd wsX1_takeEnd ({ frames := 2, cells := 0, slots := 0, locals := 40 } : Room) E [.ref (E.2.1 9 3)] (gU σ 9 c) π o (bI (rEnd c).1) (gU σ 9 ((rEnd c).2)) π o := by
  refine CtI.of (cc := cX1_takeEnd) (own := RX1) (maxL := 1) (ret := (some .boolean)) [some (.ref (E.2.1 9 3))] (by decide) rfl rfl (Nat.le_of_ble_eq_true rfl) rfl ?_
  intro p e s m args below meth cd C hrt hlk
  have hinX1 : ∀ w ∈ wsX10, w ∈ wsX1_takeEnd := by decide +kernel
  refine G.aldn0 C dX1_takeEnd_0 ?_
  refine G.callVI0 C (k_X1_isComplete l) (cwV 0 C.1.2.2.2.2 gX1_takeEnd_X1_isComplete rfl rfl rfl (by decide +kernel) ⟨Nat.le_of_ble_eq_true rfl, Nat.le_of_ble_eq_true rfl⟩) gO_r rfl (Nat.le_of_ble_eq_true rfl) dX1_takeEnd_1 ?_
  refine G.if_neB C 9 dX1_takeEnd_4 (by decide) (fun h4 => ?_) (fun h4 => ?_)
  · refine G.aldn0 C dX1_takeEnd_9 ?_
    refine G.callVV0 C (k_X1_begin l) (cwV 0 C.1.2.2.2.2 gX1_takeEnd_X1_begin rfl rfl rfl (by decide +kernel) ⟨Nat.le_of_ble_eq_true rfl, Nat.le_of_ble_eq_true rfl⟩) gO_r rfl (Nat.le_of_ble_eq_true rfl) dX1_takeEnd_10 ?_
    refine G.iconst C 1 dX1_takeEnd_13 (by decide) ?_
    exact G.zret C hlk hrt dX1_takeEnd_14 (by simp [rEnd, *, bI]) (by intro H h; simpa [rEnd, *] using h)
  · refine G.iconst C 0 dX1_takeEnd_7 (by decide) ?_
    exact G.zret C hlk hrt dX1_takeEnd_8 (by simp [rEnd, *, bI]) (by intro H h; simpa [rEnd, *] using h)
set_option maxRecDepth 100000 in
set_option maxHeartbeats 4000000 in
theorem k_X1_takeSign (l : Launch) {E : gEn} {σ : gSt} {π : Nat → Nat} {o : Int64} {c : cSt} {x : Int32} : CtI l yX1_takeSign wsX1_takeSign ({ frames := 1, cells := 0, slots := 0, locals := 20 } : Room) E [.ref (E.2.1 9 3), .int x] (gU σ 9 c) π o (bI (rSignT c x).1) (gU σ 9 ((rSignT c x).2)) π o := by
  refine CtI.of (cc := cX1_takeSign) (own := RX1) (maxL := 2) (ret := (some .boolean)) [some (.ref (E.2.1 9 3)), some (.int x)] (by decide) rfl rfl (Nat.le_of_ble_eq_true rfl) rfl ?_
  intro p e s m args below meth cd C hrt hlk
  have hinX1 : ∀ w ∈ wsX10, w ∈ wsX1_takeSign := by decide +kernel
  refine G.aldn0 C dX1_takeSign_0 ?_
  refine G.getR C hinX1 0 (by decide) rfl (C.1.2.2.2.2 (.fieldLink RX1 11 RX1 "stage" "I") (by decide +kernel)) rfl dX1_takeSign_1 ?_
  refine G.iconst C 1 dX1_takeSign_4 (by decide) ?_
  refine G.icmp_ne C 24 dX1_takeSign_5 (by decide) (fun h5 => ?_) (fun h5 => ?_)
  · refine G.iconst C 0 dX1_takeSign_24 (by decide) ?_
    exact G.zret C hlk hrt dX1_takeSign_25 (by simp [rSignT, *, bI]) (by intro H h; simpa [rSignT, *] using h)
  · refine G.aldn0 C dX1_takeSign_8 ?_
    refine G.getR C hinX1 2 (by decide) rfl (C.1.2.2.2.2 (.fieldLink RX1 18 RX1 "first" "I") (by decide +kernel)) rfl dX1_takeSign_9 ?_
    refine G.iconst C (-1) dX1_takeSign_12 (by decide) ?_
    refine G.icmp_eq C 24 dX1_takeSign_13 (by decide) (fun h13 => ?_) (fun h13 => ?_)
    · refine G.iconst C 0 dX1_takeSign_24 (by decide) ?_
      exact G.zret C hlk hrt dX1_takeSign_25 (by simp [rSignT, *, bI]) (by intro H h; simpa [rSignT, *] using h)
    · refine G.ildn1 C dX1_takeSign_16 ?_
      refine G.aldn0 C dX1_takeSign_17 ?_
      refine G.callVI0 C (k_X1_signBehindFirst l) (cwV 0 C.1.2.2.2.2 gX1_takeSign_X1_signBehindFirst rfl rfl rfl (by decide +kernel) ⟨Nat.le_of_ble_eq_true rfl, Nat.le_of_ble_eq_true rfl⟩) gO_r rfl (Nat.le_of_ble_eq_true rfl) dX1_takeSign_18 ?_
      refine G.icmp_eq C 26 dX1_takeSign_21 (by decide) (fun h21 => ?_) (fun h21 => ?_)
      · refine G.aldn0 C dX1_takeSign_26 ?_
        refine G.iconst C 2 dX1_takeSign_27 (by decide) ?_
        refine G.putR (ty := .int) C hinX1 0 (by decide) rfl (C.1.2.2.2.2 (.fieldLink RX1 11 RX1 "stage" "I") (by decide +kernel)) rfl rfl rfl rfl pfX1_0 dX1_takeSign_28 ?_
        refine G.iconst C 1 dX1_takeSign_31 (by decide) ?_
        exact G.zret C hlk hrt dX1_takeSign_32 (by simp [rSignT, *, bI]) (by intro H h; simpa [rSignT, *] using h)
      · refine G.iconst C 0 dX1_takeSign_24 (by decide) ?_
        exact G.zret C hlk hrt dX1_takeSign_25 (by simp [rSignT, *, bI]) (by intro H h; simpa [rSignT, *] using h)
set_option maxRecDepth 100000 in
set_option maxHeartbeats 4000000 in
theorem k_X1_takeDigit (l : Launch) {E : gEn} {σ : gSt} {π : Nat → Nat} {o : Int64} {c : cSt} {x : Int32} : CtI l yX1_takeDigit wsX1_takeDigit ({ frames := 1, cells := 0, slots := 0, locals := 21 } : Room) E [.ref (E.2.1 9 3), .int x] (gU σ 9 c) π o (bI (rDigit c x).1) (gU σ 9 ((rDigit c x).2)) π o := by
  refine CtI.of (cc := cX1_takeDigit) (own := RX1) (maxL := 3) (ret := (some .boolean)) [some (.ref (E.2.1 9 3)), some (.int x), none] (by decide) rfl rfl (Nat.le_of_ble_eq_true rfl) rfl ?_
  intro p e s m args below meth cd C hrt hlk
  have hinX1 : ∀ w ∈ wsX10, w ∈ wsX1_takeDigit := by decide +kernel
  refine G.aldn0 C dX1_takeDigit_0 ?_
  refine G.getR C hinX1 0 (by decide) rfl (C.1.2.2.2.2 (.fieldLink RX1 11 RX1 "stage" "I") (by decide +kernel)) rfl dX1_takeDigit_1 ?_
  refine G.iconst C 1 dX1_takeDigit_4 (by decide) ?_
  refine G.icmp_ne C 39 dX1_takeDigit_5 (by decide) (fun h5 => ?_) (fun h5 => ?_)
  · refine G.aldn0 C dX1_takeDigit_39 ?_
    refine G.getR C hinX1 0 (by decide) rfl (C.1.2.2.2.2 (.fieldLink RX1 11 RX1 "stage" "I") (by decide +kernel)) rfl dX1_takeDigit_40 ?_
    refine G.iconst C 2 dX1_takeDigit_43 (by decide) ?_
    refine G.icmp_ne C 81 dX1_takeDigit_44 (by decide) (fun h44 => ?_) (fun h44 => ?_)
    · refine G.iconst C 0 dX1_takeDigit_81 (by decide) ?_
      exact G.zret C hlk hrt dX1_takeDigit_82 (by simp [rDigit, *, bI]) (by intro H h; simpa [rDigit, *] using h)
    · refine G.aldn0 C dX1_takeDigit_47 ?_
      refine G.getR C hinX1 3 (by decide) rfl (C.1.2.2.2.2 (.fieldLink RX1 21 RX1 "second" "I") (by decide +kernel)) rfl dX1_takeDigit_48 ?_
      refine G.ildn1 C dX1_takeDigit_51 ?_
      refine G.callSI2 C (k_X1_grown l) (va_cwS 2 C.1.2.2.2.2 gX1_takeDigit_X1_grown rfl rfl rfl (by decide +kernel) ⟨Nat.le_of_ble_eq_true rfl, Nat.le_of_ble_eq_true rfl⟩) (Nat.le_of_ble_eq_true rfl) dX1_takeDigit_52 ?_
      refine G.istn2 C dX1_takeDigit_55 (by omega) rfl ?_
      refine G.ildn2 C dX1_takeDigit_56 ?_
      refine G.aldn0 C dX1_takeDigit_57 ?_
      refine G.callVI0 C (k_X1_lowestSecond l) (cwV 0 C.1.2.2.2.2 gX1_takeDigit_X1_lowestSecond rfl rfl rfl (by decide +kernel) ⟨Nat.le_of_ble_eq_true rfl, Nat.le_of_ble_eq_true rfl⟩) gO_r rfl (Nat.le_of_ble_eq_true rfl) dX1_takeDigit_58 ?_
      refine G.icmp_lt C 72 dX1_takeDigit_61 (by decide) (fun h61 => ?_) (fun h61 => ?_)
      · refine G.iconst C 0 dX1_takeDigit_72 (by decide) ?_
        exact G.zret C hlk hrt dX1_takeDigit_73 (by simp [rDigit, *, bI]) (by intro H h; simpa [rDigit, *] using h)
      · refine G.ildn2 C dX1_takeDigit_64 ?_
        refine G.aldn0 C dX1_takeDigit_65 ?_
        refine G.callVI0 C (k_X1_highestSecond l) (cwV 0 C.1.2.2.2.2 gX1_takeDigit_X1_highestSecond rfl rfl rfl (by decide +kernel) ⟨Nat.le_of_ble_eq_true rfl, Nat.le_of_ble_eq_true rfl⟩) gO_r rfl (Nat.le_of_ble_eq_true rfl) dX1_takeDigit_66 ?_
        refine G.icmp_le C 74 dX1_takeDigit_69 (by decide) (fun h69 => ?_) (fun h69 => ?_)
        · refine G.aldn0 C dX1_takeDigit_74 ?_
          refine G.ildn2 C dX1_takeDigit_75 ?_
          refine G.putR (ty := .int) C hinX1 3 (by decide) rfl (C.1.2.2.2.2 (.fieldLink RX1 21 RX1 "second" "I") (by decide +kernel)) rfl rfl rfl rfl pfX1_3 dX1_takeDigit_76 ?_
          refine G.iconst C 1 dX1_takeDigit_79 (by decide) ?_
          exact G.zret C hlk hrt dX1_takeDigit_80 (by simp [rDigit, *, bI]) (by intro H h; simpa [rDigit, *] using h)
        · refine G.iconst C 0 dX1_takeDigit_72 (by decide) ?_
          exact G.zret C hlk hrt dX1_takeDigit_73 (by simp [rDigit, *, bI]) (by intro H h; simpa [rDigit, *] using h)
  · refine G.aldn0 C dX1_takeDigit_8 ?_
    refine G.getR C hinX1 2 (by decide) rfl (C.1.2.2.2.2 (.fieldLink RX1 18 RX1 "first" "I") (by decide +kernel)) rfl dX1_takeDigit_9 ?_
    refine G.ildn1 C dX1_takeDigit_12 ?_
    refine G.callSI2 C (k_X1_grown l) (va_cwS 2 C.1.2.2.2.2 gX1_takeDigit_X1_grown rfl rfl rfl (by decide +kernel) ⟨Nat.le_of_ble_eq_true rfl, Nat.le_of_ble_eq_true rfl⟩) (Nat.le_of_ble_eq_true rfl) dX1_takeDigit_13 ?_
    refine G.istn2 C dX1_takeDigit_16 (by omega) rfl ?_
    refine G.ildn2 C dX1_takeDigit_17 ?_
    refine G.iconst C (-1) dX1_takeDigit_18 (by decide) ?_
    refine G.icmp_eq C 30 dX1_takeDigit_19 (by decide) (fun h19 => ?_) (fun h19 => ?_)
    · refine G.iconst C 0 dX1_takeDigit_30 (by decide) ?_
      exact G.zret C hlk hrt dX1_takeDigit_31 (by simp [rDigit, *, bI]) (by intro H h; simpa [rDigit, *] using h)
    · refine G.ildn2 C dX1_takeDigit_22 ?_
      refine G.aldn0 C dX1_takeDigit_23 ?_
      refine G.callVI0 C (k_X1_highestFirst l) (cwV 0 C.1.2.2.2.2 gX1_takeDigit_X1_highestFirst rfl rfl rfl (by decide +kernel) ⟨Nat.le_of_ble_eq_true rfl, Nat.le_of_ble_eq_true rfl⟩) gO_r rfl (Nat.le_of_ble_eq_true rfl) dX1_takeDigit_24 ?_
      refine G.icmp_le C 32 dX1_takeDigit_27 (by decide) (fun h27 => ?_) (fun h27 => ?_)
      · refine G.aldn0 C dX1_takeDigit_32 ?_
        refine G.ildn2 C dX1_takeDigit_33 ?_
        refine G.putR (ty := .int) C hinX1 2 (by decide) rfl (C.1.2.2.2.2 (.fieldLink RX1 18 RX1 "first" "I") (by decide +kernel)) rfl rfl rfl rfl pfX1_2 dX1_takeDigit_34 ?_
        refine G.iconst C 1 dX1_takeDigit_37 (by decide) ?_
        exact G.zret C hlk hrt dX1_takeDigit_38 (by simp [rDigit, *, bI]) (by intro H h; simpa [rDigit, *] using h)
      · refine G.iconst C 0 dX1_takeDigit_30 (by decide) ?_
        exact G.zret C hlk hrt dX1_takeDigit_31 (by simp [rDigit, *, bI]) (by intro H h; simpa [rDigit, *] using h)
set_option maxRecDepth 100000 in
set_option maxHeartbeats 4000000 in
theorem k_X1_take (l : Launch) {E : gEn} {σ : gSt} {π : Nat → Nat} {o : Int64} {c : cSt} {x : Int32} : CtI l yX1_take wsX1_take ({ frames := 3, cells := 0, slots := 0, locals := 60 } : Room) E [.ref (E.2.1 9 3), .int x] (gU σ 9 c) π o (bI (rTake c x).1) (gU σ 9 ((rTake c x).2)) π o := by
  refine CtI.of (cc := cX1_take) (own := RX1) (maxL := 2) (ret := (some .boolean)) [some (.ref (E.2.1 9 3)), some (.int x)] (by decide) rfl rfl (Nat.le_of_ble_eq_true rfl) rfl ?_
  intro p e s m args below meth cd C hrt hlk
  have hinX1 : ∀ w ∈ wsX10, w ∈ wsX1_take := by decide +kernel
  refine G.aldn0 C dX1_take_0 ?_
  refine G.getR C hinX1 0 (by decide) rfl (C.1.2.2.2.2 (.fieldLink RX1 11 RX1 "stage" "I") (by decide +kernel)) rfl dX1_take_1 ?_
  refine G.if_ne C 13 dX1_take_4 (by decide) (fun h4 => ?_) (fun h4 => ?_)
  · refine G.ildn1 C dX1_take_13 ?_
    refine G.bipush C 59 dX1_take_14 (by decide) ?_
    refine G.icmp_ne C 24 dX1_take_16 (by decide) (fun h16 => ?_) (fun h16 => ?_)
    · refine G.ildn1 C dX1_take_24 ?_
      refine G.bipush C 48 dX1_take_25 (by decide) ?_
      refine G.icmp_lt C 45 dX1_take_27 (by decide) (fun h27 => ?_) (fun h27 => ?_)
      · refine G.aldn0 C dX1_take_45 ?_
        refine G.ildn1 C dX1_take_46 ?_
        refine G.callVI1 C (k_X1_takeSign l) (cwV 1 C.1.2.2.2.2 gX1_take_X1_takeSign rfl rfl rfl (by decide +kernel) ⟨Nat.le_of_ble_eq_true rfl, Nat.le_of_ble_eq_true rfl⟩) gO_r rfl (Nat.le_of_ble_eq_true rfl) dX1_take_47 ?_
        exact G.zret C hlk hrt dX1_take_50 (by simp [rTake, *, bI]) (by intro H h; simpa [rTake, *] using h)
      · refine G.ildn1 C dX1_take_30 ?_
        refine G.bipush C 57 dX1_take_31 (by decide) ?_
        refine G.icmp_gt C 45 dX1_take_33 (by decide) (fun h33 => ?_) (fun h33 => ?_)
        · refine G.aldn0 C dX1_take_45 ?_
          refine G.ildn1 C dX1_take_46 ?_
          refine G.callVI1 C (k_X1_takeSign l) (cwV 1 C.1.2.2.2.2 gX1_take_X1_takeSign rfl rfl rfl (by decide +kernel) ⟨Nat.le_of_ble_eq_true rfl, Nat.le_of_ble_eq_true rfl⟩) gO_r rfl (Nat.le_of_ble_eq_true rfl) dX1_take_47 ?_
          exact G.zret C hlk hrt dX1_take_50 (by simp [rTake, *, bI]) (by intro H h; simpa [rTake, *] using h)
        · refine G.aldn0 C dX1_take_36 ?_
          refine G.ildn1 C dX1_take_37 ?_
          refine G.bipush C 48 dX1_take_38 (by decide) ?_
          refine G.isub C dX1_take_40 ?_
          refine G.callVI1 C (k_X1_takeDigit l) (cwV 1 C.1.2.2.2.2 gX1_take_X1_takeDigit rfl rfl rfl (by decide +kernel) ⟨Nat.le_of_ble_eq_true rfl, Nat.le_of_ble_eq_true rfl⟩) gO_r rfl (Nat.le_of_ble_eq_true rfl) dX1_take_41 ?_
          exact G.zret C hlk hrt dX1_take_44 (by simp [rTake, *, bI]) (by intro H h; simpa [rTake, *] using h)
    · refine G.aldn0 C dX1_take_19 ?_
      refine G.callVI0 C (k_X1_takeEnd l) (cwV 0 C.1.2.2.2.2 gX1_take_X1_takeEnd rfl rfl rfl (by decide +kernel) ⟨Nat.le_of_ble_eq_true rfl, Nat.le_of_ble_eq_true rfl⟩) gO_r rfl (Nat.le_of_ble_eq_true rfl) dX1_take_20 ?_
      exact G.zret C hlk hrt dX1_take_23 (by simp [rTake, *, bI]) (by intro H h; simpa [rTake, *] using h)
  · refine G.aldn0 C dX1_take_7 ?_
    refine G.ildn1 C dX1_take_8 ?_
    refine G.callVI1 C (k_X1_takeLetter l) (cwV 1 C.1.2.2.2.2 gX1_take_X1_takeLetter rfl rfl rfl (by decide +kernel) ⟨Nat.le_of_ble_eq_true rfl, Nat.le_of_ble_eq_true rfl⟩) gO_r rfl (Nat.le_of_ble_eq_true rfl) dX1_take_9 ?_
    exact G.zret C hlk hrt dX1_take_12 (by simp [rTake, *, bI]) (by intro H h; simpa [rTake, *] using h)
