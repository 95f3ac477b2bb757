/-! the cote's own functions: what its methods answer and leave, in terms of its contents c (place, index) -/
def cnt (P : Nat → Bool) : Nat → Nat
  | 0 => 0
  | k + 1 => if P k = true then cnt P k + 1 else cnt P k
theorem cnt_le (P : Nat → Bool) : ∀ n, cnt P n ≤ n
  | 0 => Nat.le_refl 0
  | n + 1 => by
    have := cnt_le P n
    unfold cnt
    split <;> omega
def hHole (x : Int32) : Bool := if x < 0 then false else if 24 ≤ x then false else true
def cEx (c : Nat → Nat → Int32) (x : Int32) : Bool := if x < 0 then false else if 16 ≤ x then false else if c 2 (ix x) = -1 then false else true
def cOpen (c : Nat → Nat → Int32) (x : Int32) : Bool := if hHole x = false then false else if c 13 (ix x) = 1 then true else false
def cFree (c : Nat → Nat → Int32) (x : Int32) : Bool := if cOpen c x = false then false else if c 11 (ix x) = -1 then true else false
def cDoves (c : Nat → Nat → Int32) : Int32 := nI (cnt (fun k => cEx c (nI k)) 16)
def cAt (c : Nat → Nat → Int32) (x : Int32) : Int32 := nI (cnt (fun k => cEx c (nI k) && decide (c 4 k = x)) 16)
def cHome (c : Nat → Nat → Int32) : Int32 := nI (cnt (fun k => cEx c (nI k) && decide (c 4 k = c 2 k)) 16)
def cPairs (c : Nat → Nat → Int32) : Int32 := nI (cnt (fun k => cEx c (nI k) && decide (¬ c 5 k = -1)) 16) / 2
def cSitH (c : Nat → Nat → Int32) : Int32 := nI (cnt (fun k => decide (¬ c 11 k = -1)) 24)
def cOpens (c : Nat → Nat → Int32) : Int32 := nI (cnt (fun k => cOpen c (nI k)) 24)
def cSitD (c : Nat → Nat → Int32) : Int32 := cDoves c - cAt c 24 - cAt c (-1)
def cWhyHome (c : Nat → Nat → Int32) (x t : Int32) : Int32 := if c 4 (ix x) = -1 then (if c 0 7 ≤ t then 0 else 2) else 1
def cWhyShut (c : Nat → Nat → Int32) (x : Int32) : Int32 := if c 11 (ix x) = -1 then (if cOpen c x = false then 4 else 0) else 3
def cWhyBuy (c : Nat → Nat → Int32) (x : Int32) : Int32 := if 16 ≤ cDoves c then 5 else if c 12 (ix x) = -1 then (if cOpen c x = false then 7 else 0) else 6
def cWhyPair (c : Nat → Nat → Int32) (x y : Int32) : Int32 := if x = y then 8 else if c 5 (ix x) = -1 then (if c 5 (ix y) = -1 then 0 else 9) else 9
theorem hHole_in {x : Int32} (h : hHole x = true) : vp_in x 24 := by
  unfold hHole at h
  split at h
  · cases h
  · split at h
    · cases h
    · rename_i h1 h2
      rw [vp_in_iff]
      rw [Int32.lt_iff_toInt_lt] at h1
      rw [Int32.le_iff_toInt_le] at h2
      have e0 : (0 : Int32).toInt = 0 := by decide
      have e24 : (24 : Int32).toInt = 24 := by decide
      omega
theorem hHole_of {x : Int32} (h : vp_in x 24) : hHole x = true := by
  rw [vp_in_iff] at h
  have e0 : (0 : Int32).toInt = 0 := by decide
  have e24 : (24 : Int32).toInt = 24 := by decide
  unfold hHole
  rw [if_neg (by rw [Int32.lt_iff_toInt_lt]; omega), if_neg (by rw [Int32.le_iff_toInt_le]; omega)]
theorem i16_in {x : Int32} (h1 : ¬ x < 0) (h2 : ¬ 16 ≤ x) : vp_in x 16 := by
  rw [vp_in_iff]
  rw [Int32.lt_iff_toInt_lt] at h1
  rw [Int32.le_iff_toInt_le] at h2
  have e0 : (0 : Int32).toInt = 0 := by decide
  have e16 : (16 : Int32).toInt = 16 := by decide
  omega
theorem cOpen_in {c : Nat → Nat → Int32} {x : Int32} (h : cOpen c x = true) : vp_in x 24 := by
  unfold cOpen at h
  split at h
  · cases h
  · rename_i h1
    exact hHole_in (by simpa using h1)
theorem cEx_in {c : Nat → Nat → Int32} {x : Int32} (h : cEx c x = true) : vp_in x 16 := by
  unfold cEx at h
  split at h
  · cases h
  · split at h
    · cases h
    · rename_i h1 h2
      exact i16_in h1 h2
set_option maxRecDepth 100000 in
set_option maxHeartbeats 4000000 in
theorem k_X3_isHole (l : Launch) {E : gEn} {σ : gSt} {π : Nat → Nat} {o : Int64} {x : Int32} : CtI l yX3_isHole wsX3_isHole ({ frames := 0, cells := 0, slots := 0, locals := 0 } : Room) E [.int x] σ π o (bI (hHole x)) σ π o := by
  refine CtI.of (cc := cX3_isHole) (own := RX3) (maxL := 1) (ret := (some .boolean)) [some (.int x)] (by decide) rfl rfl (Nat.le_of_ble_eq_true rfl) rfl ?_
  intro p e s m args below meth cd C hrt hlk
  refine G.ildn0 C dX3_isHole_0 ?_
  refine G.if_lt C 14 dX3_isHole_1 (by decide) (fun h1 => ?_) (fun h1 => ?_)
  · refine G.iconst C 0 dX3_isHole_14 (by decide) ?_
    exact G.zret C hlk hrt dX3_isHole_15 (by simp [hHole, *, bI]) (by exact fun _ h => h)
  · refine G.ildn0 C dX3_isHole_4 ?_
    refine G.bipush C 24 dX3_isHole_5 (by decide) ?_
    refine G.icmp_ge C 14 dX3_isHole_7 (by decide) (fun h7 => ?_) (fun h7 => ?_)
    · refine G.iconst C 0 dX3_isHole_14 (by decide) ?_
      exact G.zret C hlk hrt dX3_isHole_15 (by simp [hHole, *, bI]) (by exact fun _ h => h)
    · refine G.iconst C 1 dX3_isHole_10 (by decide) ?_
      refine G.goto C 15 dX3_isHole_11 (by decide) ?_
      exact G.zret C hlk hrt dX3_isHole_15 (by simp [hHole, *, bI]) (by exact fun _ h => h)
set_option maxRecDepth 100000 in
set_option maxHeartbeats 4000000 in
theorem k_X0_exists (l : Launch) {E : gEn} {σ : gSt} {π : Nat → Nat} {o : Int64} {i : Nat} (hi : i < 9) {c : Nat → Nat → Int32} {x : Int32} : CtI l yX0_exists wsX0_exists ({ frames := 0, cells := 0, slots := 0, locals := 0 } : Room) E [.ref (E.2.1 i 0), .int x] (gU σ i c) π o (bI (cEx c x)) (gU σ i c) π o := by
  refine CtI.of (cc := cX0_exists) (own := RX0) (maxL := 2) (ret := (some .boolean)) [some (.ref (E.2.1 i 0)), some (.int x)] (by decide) rfl rfl (Nat.le_of_ble_eq_true rfl) rfl ?_
  intro p e s m args below meth cd C hrt hlk
  have hinX0 : ∀ w ∈ wsX00, w ∈ wsX0_exists := by decide +kernel
  refine G.ildn1 C dX0_exists_0 ?_
  refine G.if_lt C 26 dX0_exists_1 (by decide) (fun h1 => ?_) (fun h1 => ?_)
  · refine G.iconst C 0 dX0_exists_26 (by decide) ?_
    exact G.zret C hlk hrt dX0_exists_27 (by simp [cEx, *, bI]) (by exact fun _ h => h)
  · refine G.ildn1 C dX0_exists_4 ?_
    refine G.bipush C 16 dX0_exists_5 (by decide) ?_
    refine G.icmp_ge C 26 dX0_exists_7 (by decide) (fun h7 => ?_) (fun h7 => ?_)
    · refine G.iconst C 0 dX0_exists_26 (by decide) ?_
      exact G.zret C hlk hrt dX0_exists_27 (by simp [cEx, *, bI]) (by exact fun _ h => h)
    · refine G.aldn0 C dX0_exists_10 ?_
      refine G.getC C hi hinX0 0 (by decide) rfl (C.1.2.2.2.2 (.fieldLink RX0 11 RX0 "doves" "[[I") (by decide +kernel)) rfl dX0_exists_11 ?_
      refine G.iconst C 0 dX0_exists_14 (by decide) ?_
      refine G.aaldD C hi 2 (by unfold vp_in; decide) (by decide) dX0_exists_15 ?_
      refine G.ildn1 C dX0_exists_16 ?_
      refine G.ialdU C (n := 16) (j := 2) (d0 := _) (gN_c hi rfl) (gV_c hi (by omega)) (i16_in h1 h7) rfl dX0_exists_17 ?_
      refine G.iconst C (-1) dX0_exists_18 (by decide) ?_
      refine G.icmp_eq C 26 dX0_exists_19 (by decide) (fun h19 => ?_) (fun h19 => ?_)
      · refine G.iconst C 0 dX0_exists_26 (by decide) ?_
        exact G.zret C hlk hrt dX0_exists_27 (by simp [cEx, *, bI]) (by exact fun _ h => h)
      · refine G.iconst C 1 dX0_exists_22 (by decide) ?_
        refine G.goto C 27 dX0_exists_23 (by decide) ?_
        exact G.zret C hlk hrt dX0_exists_27 (by simp [cEx, *, bI]) (by exact fun _ h => h)
set_option maxRecDepth 100000 in
set_option maxHeartbeats 4000000 in
theorem k_X0_isOpen (l : Launch) {E : gEn} {σ : gSt} {π : Nat → Nat} {o : Int64} {i : Nat} (hi : i < 9) {c : Nat → Nat → Int32} {x : Int32} : CtI l yX0_isOpen wsX0_isOpen ({ frames := 1, cells := 0, slots := 0, locals := 20 } : Room) E [.ref (E.2.1 i 0), .int x] (gU σ i c) π o (bI (cOpen c x)) (gU σ i c) π o := by
  refine CtI.of (cc := cX0_isOpen) (own := RX0) (maxL := 2) (ret := (some .boolean)) [some (.ref (E.2.1 i 0)), some (.int x)] (by decide) rfl rfl (Nat.le_of_ble_eq_true rfl) rfl ?_
  intro p e s m args below meth cd C hrt hlk
  have hinX0 : ∀ w ∈ wsX00, w ∈ wsX0_isOpen := by decide +kernel
  refine G.ildn1 C dX0_isOpen_0 ?_
  refine G.callSNI1 C (k_X3_isHole l) ⟨va_cnB 1 C.1.2.2.2.2 gX0_isOpen_X3_isHole_n59 rfl rfl rfl (va_Nw_isHole C.2.1) (C.1.2.2.2.2 (.initialized RX3) (by decide +kernel)) (by decide +kernel) ⟨Nat.le_of_ble_eq_true rfl, Nat.le_of_ble_eq_true rfl⟩, (C.1.2.2.2.2 (.static yX3_isHole) (by decide +kernel)), trivial⟩ (Nat.le_of_ble_eq_true rfl) dX0_isOpen_1 ?_
  refine G.if_eqB C 23 dX0_isOpen_4 (by decide) (fun h4 => ?_) (fun h4 => ?_)
  · refine G.iconst C 0 dX0_isOpen_23 (by decide) ?_
    exact G.zret C hlk hrt dX0_isOpen_24 (by simp [cOpen, *, bI]) (by exact fun _ h => h)
  · refine G.aldn0 C dX0_isOpen_7 ?_
    refine G.getC C hi hinX0 1 (by decide) rfl (C.1.2.2.2.2 (.fieldLink RX0 16 RX0 "holes" "[[I") (by decide +kernel)) rfl dX0_isOpen_8 ?_
    refine G.iconst C 2 dX0_isOpen_11 (by decide) ?_
    refine G.aaldH C hi 13 (by unfold vp_in; decide) (by decide) dX0_isOpen_12 ?_
    refine G.ildn1 C dX0_isOpen_13 ?_
    refine G.ialdU C (n := 24) (j := 13) (d0 := _) (gN_c hi rfl) (gV_c hi (by omega)) (hHole_in h4) rfl dX0_isOpen_14 ?_
    refine G.iconst C 1 dX0_isOpen_15 (by decide) ?_
    refine G.icmp_ne C 23 dX0_isOpen_16 (by decide) (fun h16 => ?_) (fun h16 => ?_)
    · refine G.iconst C 0 dX0_isOpen_23 (by decide) ?_
      exact G.zret C hlk hrt dX0_isOpen_24 (by simp [cOpen, *, bI]) (by exact fun _ h => h)
    · refine G.iconst C 1 dX0_isOpen_19 (by decide) ?_
      refine G.goto C 24 dX0_isOpen_20 (by decide) ?_
      exact G.zret C hlk hrt dX0_isOpen_24 (by simp [cOpen, *, bI]) (by exact fun _ h => h)
set_option maxRecDepth 100000 in
set_option maxHeartbeats 4000000 in
theorem k_X0_isFree (l : Launch) {E : gEn} {σ : gSt} {π : Nat → Nat} {o : Int64} {i : Nat} (hi : i < 9) {c : Nat → Nat → Int32} {x : Int32} : CtI l yX0_isFree wsX0_isFree ({ frames := 1, cells := 0, slots := 0, locals := 20 } : Room) E [.ref (E.2.1 i 0), .int x] (gU σ i c) π o (bI (cFree c x)) (gU σ i c) π o := by
  refine CtI.of (cc := cX0_isFree) (own := RX0) (maxL := 2) (ret := (some .boolean)) [some (.ref (E.2.1 i 0)), some (.int x)] (by decide) rfl rfl (Nat.le_of_ble_eq_true rfl) rfl ?_
  intro p e s m args below meth cd C hrt hlk
  have hinX0 : ∀ w ∈ wsX00, w ∈ wsX0_isFree := by decide +kernel
  refine G.ildn1 C dX0_isFree_0 ?_
  refine G.callSNI1 C (k_X3_isHole l) ⟨va_cnB 1 C.1.2.2.2.2 gX0_isFree_X3_isHole_n59 rfl rfl rfl (va_Nw_isHole C.2.1) (C.1.2.2.2.2 (.initialized RX3) (by decide +kernel)) (by decide +kernel) ⟨Nat.le_of_ble_eq_true rfl, Nat.le_of_ble_eq_true rfl⟩, (C.1.2.2.2.2 (.static yX3_isHole) (by decide +kernel)), trivial⟩ (Nat.le_of_ble_eq_true rfl) dX0_isFree_1 ?_
  refine G.if_eqB C 35 dX0_isFree_4 (by decide) (fun h4 => ?_) (fun h4 => ?_)
  · refine G.iconst C 0 dX0_isFree_35 (by decide) ?_
    exact G.zret C hlk hrt dX0_isFree_36 (by simp [cFree, cOpen, *, bI]) (by exact fun _ h => h)
  · refine G.aldn0 C dX0_isFree_7 ?_
    refine G.getC C hi hinX0 1 (by decide) rfl (C.1.2.2.2.2 (.fieldLink RX0 16 RX0 "holes" "[[I") (by decide +kernel)) rfl dX0_isFree_8 ?_
    refine G.iconst C 2 dX0_isFree_11 (by decide) ?_
    refine G.aaldH C hi 13 (by unfold vp_in; decide) (by decide) dX0_isFree_12 ?_
    refine G.ildn1 C dX0_isFree_13 ?_
    refine G.ialdU C (n := 24) (j := 13) (d0 := _) (gN_c hi rfl) (gV_c hi (by omega)) (hHole_in h4) rfl dX0_isFree_14 ?_
    refine G.iconst C 1 dX0_isFree_15 (by decide) ?_
    refine G.icmp_ne C 35 dX0_isFree_16 (by decide) (fun h16 => ?_) (fun h16 => ?_)
    · refine G.iconst C 0 dX0_isFree_35 (by decide) ?_
      exact G.zret C hlk hrt dX0_isFree_36 (by simp [cFree, cOpen, *, bI]) (by exact fun _ h => h)
    · refine G.aldn0 C dX0_isFree_19 ?_
      refine G.getC C hi hinX0 1 (by decide) rfl (C.1.2.2.2.2 (.fieldLink RX0 16 RX0 "holes" "[[I") (by decide +kernel)) rfl dX0_isFree_20 ?_
      refine G.iconst C 0 dX0_isFree_23 (by decide) ?_
      refine G.aaldH C hi 11 (by unfold vp_in; decide) (by decide) dX0_isFree_24 ?_
      refine G.ildn1 C dX0_isFree_25 ?_
      refine G.ialdU C (n := 24) (j := 11) (d0 := _) (gN_c hi rfl) (gV_c hi (by omega)) (hHole_in h4) rfl dX0_isFree_26 ?_
      refine G.iconst C (-1) dX0_isFree_27 (by decide) ?_
      refine G.icmp_ne C 35 dX0_isFree_28 (by decide) (fun h28 => ?_) (fun h28 => ?_)
      · refine G.iconst C 0 dX0_isFree_35 (by decide) ?_
        exact G.zret C hlk hrt dX0_isFree_36 (by simp [cFree, cOpen, *, bI]) (by exact fun _ h => h)
      · refine G.iconst C 1 dX0_isFree_31 (by decide) ?_
        refine G.goto C 36 dX0_isFree_32 (by decide) ?_
        exact G.zret C hlk hrt dX0_isFree_36 (by simp [cFree, cOpen, *, bI]) (by exact fun _ h => h)
set_option maxRecDepth 100000 in
set_option maxHeartbeats 4000000 in
theorem k_X0_doveCount (l : Launch) {E : gEn} {σ : gSt} {π : Nat → Nat} {o : Int64} {i : Nat} (hi : i < 9) {c : Nat → Nat → Int32} : CtI l yX0_doveCount wsX0_doveCount ({ frames := 1, cells := 0, slots := 0, locals := 21 } : Room) E [.ref (E.2.1 i 0)] (gU σ i c) π o (cDoves c) (gU σ i c) π o := by
  refine CtI.of (cc := cX0_doveCount) (own := RX0) (maxL := 3) (ret := (some .int)) [some (.ref (E.2.1 i 0)), none, none] (by decide) rfl rfl (Nat.le_of_ble_eq_true rfl) rfl ?_
  intro p e s m args below meth cd C hrt hlk
  have hinX0 : ∀ w ∈ wsX00, w ∈ wsX0_doveCount := by decide +kernel
  refine G.iconst C 0 dX0_doveCount_0 (by decide) ?_
  refine G.istn1 C dX0_doveCount_1 (by omega) rfl ?_
  refine G.iconst C 0 dX0_doveCount_2 (by decide) ?_
  refine G.istn2 C dX0_doveCount_3 (by omega) rfl ?_
  have L4 : ∀ (n k : Nat), k + n = 16 → G p l e ({ frames := 1, cells := 0, slots := 0, locals := 21 } : Room) s m args below meth cd 3 0 0 (gA E) (gQI below args s (cDoves c) E (gU σ i c) π o) E (gU σ i c) π o 4 [some (.ref (E.2.1 i 0)), some (.int (nI (cnt (fun k => cEx c (nI k)) k))), some (.int (nI k))] [] := by
    intro n
    induction n with
    | zero =>
      intro k hk
      obtain rfl : 16 = k := by omega
      refine G.ildn2 C dX0_doveCount_4 ?_
      refine G.bipush C 16 dX0_doveCount_5 (by decide) ?_
      refine G.icmp_ge C 27 dX0_doveCount_7 (by decide) (fun _ => ?_) (fun h => absurd (nI_le (a := 16) (b := 16) (by omega) (by decide)) h)
      refine G.ildn1 C dX0_doveCount_27 ?_
      exact G.iret C hlk hrt dX0_doveCount_28 (by rfl) (by exact fun _ h => h)
    | succ n ih =>
      intro k hk
      have hk2 : k < 16 := by omega
      refine G.ildn2 C dX0_doveCount_4 ?_
      refine G.bipush C 16 dX0_doveCount_5 (by decide) ?_
      refine G.icmp_ge C 27 dX0_doveCount_7 (by decide) (fun h => absurd h (nI_ge (b := 16) hk2 (by decide))) (fun _ => ?_)
      refine G.aldn0 C dX0_doveCount_10 ?_
      refine G.ildn2 C dX0_doveCount_11 ?_
      refine G.callVI1 C (k_X0_exists l hi) (cwV 1 C.1.2.2.2.2 gX0_doveCount_X0_exists rfl rfl rfl (by decide +kernel) ⟨Nat.le_of_ble_eq_true rfl, Nat.le_of_ble_eq_true rfl⟩) (gO_c hi) rfl (Nat.le_of_ble_eq_true rfl) dX0_doveCount_12 ?_
      refine G.if_eqB C 21 dX0_doveCount_15 (by decide) (fun h15 => ?_) (fun h15 => ?_)
      · refine G.iincN2 C dX0_doveCount_21 (by omega) rfl ?_
        refine G.goto C 4 dX0_doveCount_24 (by decide) ?_
        exact G.back (ih (k + 1) (by omega) ) rfl ⟨(by first | rfl | simp [cnt, *]), (by first | rfl | simp [cnt, *]), (by first | rfl | simp [cnt, *]), trivial⟩
      · refine G.iincN1 C dX0_doveCount_18 (by omega) rfl ?_
        refine G.iincN2 C dX0_doveCount_21 (by omega) rfl ?_
        refine G.goto C 4 dX0_doveCount_24 (by decide) ?_
        exact G.back (ih (k + 1) (by omega) ) rfl ⟨(by first | rfl | simp [cnt, *]), (by first | rfl | simp [cnt, *]), (by first | rfl | simp [cnt, *]), trivial⟩
  exact G.back (L4 16 0 (Nat.zero_add _) ) rfl ⟨(by first | rfl | simp [cnt]), (by first | rfl | simp [cnt]), (by first | rfl | simp [cnt]), trivial⟩
set_option maxRecDepth 100000 in
set_option maxHeartbeats 4000000 in
theorem k_X0_placedAt (l : Launch) {E : gEn} {σ : gSt} {π : Nat → Nat} {o : Int64} {i : Nat} (hi : i < 9) {c : Nat → Nat → Int32} {x : Int32} : CtI l yX0_placedAt wsX0_placedAt ({ frames := 1, cells := 0, slots := 0, locals := 21 } : Room) E [.ref (E.2.1 i 0), .int x] (gU σ i c) π o (cAt c x) (gU σ i c) π o := by
  refine CtI.of (cc := cX0_placedAt) (own := RX0) (maxL := 4) (ret := (some .int)) [some (.ref (E.2.1 i 0)), some (.int x), none, none] (by decide) rfl rfl (Nat.le_of_ble_eq_true rfl) rfl ?_
  intro p e s m args below meth cd C hrt hlk
  have hinX0 : ∀ w ∈ wsX00, w ∈ wsX0_placedAt := by decide +kernel
  refine G.iconst C 0 dX0_placedAt_0 (by decide) ?_
  refine G.istn2 C dX0_placedAt_1 (by omega) rfl ?_
  refine G.iconst C 0 dX0_placedAt_2 (by decide) ?_
  refine G.istn3 C dX0_placedAt_3 (by omega) rfl ?_
  have L4 : ∀ (n k : Nat), k + n = 16 → G p l e ({ frames := 1, cells := 0, slots := 0, locals := 21 } : Room) s m args below meth cd 4 0 0 (gA E) (gQI below args s (cAt c x) E (gU σ i c) π o) E (gU σ i c) π o 4 [some (.ref (E.2.1 i 0)), some (.int x), some (.int (nI (cnt (fun k => cEx c (nI k) && decide (c 4 k = x)) k))), some (.int (nI k))] [] := by
    intro n
    induction n with
    | zero =>
      intro k hk
      obtain rfl : 16 = k := by omega
      refine G.ildn3 C dX0_placedAt_4 ?_
      refine G.bipush C 16 dX0_placedAt_5 (by decide) ?_
      refine G.icmp_ge C 39 dX0_placedAt_7 (by decide) (fun _ => ?_) (fun h => absurd (nI_le (a := 16) (b := 16) (by omega) (by decide)) h)
      refine G.ildn2 C dX0_placedAt_39 ?_
      exact G.iret C hlk hrt dX0_placedAt_40 (by rfl) (by exact fun _ h => h)
    | succ n ih =>
      intro k hk
      have hk2 : k < 16 := by omega
      refine G.ildn3 C dX0_placedAt_4 ?_
      refine G.bipush C 16 dX0_placedAt_5 (by decide) ?_
      refine G.icmp_ge C 39 dX0_placedAt_7 (by decide) (fun h => absurd h (nI_ge (b := 16) hk2 (by decide))) (fun _ => ?_)
      refine G.aldn0 C dX0_placedAt_10 ?_
      refine G.ildn3 C dX0_placedAt_11 ?_
      refine G.callVI1 C (k_X0_exists l hi) (cwV 1 C.1.2.2.2.2 gX0_placedAt_X0_exists rfl rfl rfl (by decide +kernel) ⟨Nat.le_of_ble_eq_true rfl, Nat.le_of_ble_eq_true rfl⟩) (gO_c hi) rfl (Nat.le_of_ble_eq_true rfl) dX0_placedAt_12 ?_
      refine G.if_eqB C 33 dX0_placedAt_15 (by decide) (fun h15 => ?_) (fun h15 => ?_)
      · refine G.iincN3 C dX0_placedAt_33 (by omega) rfl ?_
        refine G.goto C 4 dX0_placedAt_36 (by decide) ?_
        exact G.back (ih (k + 1) (by omega) ) rfl ⟨(by first | rfl | simp [cnt, *]), (by first | rfl | simp [cnt, *]), (by first | rfl | simp [cnt, *]), (by first | rfl | simp [cnt, *]), trivial⟩
      · refine G.aldn0 C dX0_placedAt_18 ?_
        refine G.getC C hi hinX0 0 (by decide) rfl (C.1.2.2.2.2 (.fieldLink RX0 11 RX0 "doves" "[[I") (by decide +kernel)) rfl dX0_placedAt_19 ?_
        refine G.iconst C 2 dX0_placedAt_22 (by decide) ?_
        refine G.aaldD C hi 4 (by unfold vp_in; decide) (by decide) dX0_placedAt_23 ?_
        refine G.ildn3 C dX0_placedAt_24 ?_
        refine G.ialdU C (n := 16) (j := 4) (d0 := k) (gN_c hi rfl) (gV_c hi (by omega)) (by first | assumption | exact vp_in_nI (by omega) (by omega) | (unfold vp_in; decide)) (ix_nI (by omega)) dX0_placedAt_25 ?_
        refine G.ildn1 C dX0_placedAt_26 ?_
        refine G.icmp_ne C 33 dX0_placedAt_27 (by decide) (fun h27 => ?_) (fun h27 => ?_)
        · refine G.iincN3 C dX0_placedAt_33 (by omega) rfl ?_
          refine G.goto C 4 dX0_placedAt_36 (by decide) ?_
          exact G.back (ih (k + 1) (by omega) ) rfl ⟨(by first | rfl | simp [cnt, *]), (by first | rfl | simp [cnt, *]), (by first | rfl | simp [cnt, *]), (by first | rfl | simp [cnt, *]), trivial⟩
        · refine G.iincN2 C dX0_placedAt_30 (by omega) rfl ?_
          refine G.iincN3 C dX0_placedAt_33 (by omega) rfl ?_
          refine G.goto C 4 dX0_placedAt_36 (by decide) ?_
          exact G.back (ih (k + 1) (by omega) ) rfl ⟨(by first | rfl | simp [cnt, *]), (by first | rfl | simp [cnt, *]), (by first | rfl | simp [cnt, *]), (by first | rfl | simp [cnt, *]), trivial⟩
  exact G.back (L4 16 0 (Nat.zero_add _) ) rfl ⟨(by first | rfl | simp [cnt]), (by first | rfl | simp [cnt]), (by first | rfl | simp [cnt]), (by first | rfl | simp [cnt]), trivial⟩
set_option maxRecDepth 100000 in
set_option maxHeartbeats 4000000 in
theorem k_X0_inOwnHoles (l : Launch) {E : gEn} {σ : gSt} {π : Nat → Nat} {o : Int64} {i : Nat} (hi : i < 9) {c : Nat → Nat → Int32} : CtI l yX0_inOwnHoles wsX0_inOwnHoles ({ frames := 1, cells := 0, slots := 0, locals := 21 } : Room) E [.ref (E.2.1 i 0)] (gU σ i c) π o (cHome c) (gU σ i c) π o := by
  refine CtI.of (cc := cX0_inOwnHoles) (own := RX0) (maxL := 3) (ret := (some .int)) [some (.ref (E.2.1 i 0)), none, none] (by decide) rfl rfl (Nat.le_of_ble_eq_true rfl) rfl ?_
  intro p e s m args below meth cd C hrt hlk
  have hinX0 : ∀ w ∈ wsX00, w ∈ wsX0_inOwnHoles := by decide +kernel
  refine G.iconst C 0 dX0_inOwnHoles_0 (by decide) ?_
  refine G.istn1 C dX0_inOwnHoles_1 (by omega) rfl ?_
  refine G.iconst C 0 dX0_inOwnHoles_2 (by decide) ?_
  refine G.istn2 C dX0_inOwnHoles_3 (by omega) rfl ?_
  have L4 : ∀ (n k : Nat), k + n = 16 → G p l e ({ frames := 1, cells := 0, slots := 0, locals := 21 } : Room) s m args below meth cd 3 0 0 (gA E) (gQI below args s (cHome c) E (gU σ i c) π o) E (gU σ i c) π o 4 [some (.ref (E.2.1 i 0)), some (.int (nI (cnt (fun k => cEx c (nI k) && decide (c 4 k = c 2 k)) k))), some (.int (nI k))] [] := by
    intro n
    induction n with
    | zero =>
      intro k hk
      obtain rfl : 16 = k := by omega
      refine G.ildn2 C dX0_inOwnHoles_4 ?_
      refine G.bipush C 16 dX0_inOwnHoles_5 (by decide) ?_
      refine G.icmp_ge C 46 dX0_inOwnHoles_7 (by decide) (fun _ => ?_) (fun h => absurd (nI_le (a := 16) (b := 16) (by omega) (by decide)) h)
      refine G.ildn1 C dX0_inOwnHoles_46 ?_
      exact G.iret C hlk hrt dX0_inOwnHoles_47 (by rfl) (by exact fun _ h => h)
    | succ n ih =>
      intro k hk
      have hk2 : k < 16 := by omega
      refine G.ildn2 C dX0_inOwnHoles_4 ?_
      refine G.bipush C 16 dX0_inOwnHoles_5 (by decide) ?_
      refine G.icmp_ge C 46 dX0_inOwnHoles_7 (by decide) (fun h => absurd h (nI_ge (b := 16) hk2 (by decide))) (fun _ => ?_)
      refine G.aldn0 C dX0_inOwnHoles_10 ?_
      refine G.ildn2 C dX0_inOwnHoles_11 ?_
      refine G.callVI1 C (k_X0_exists l hi) (cwV 1 C.1.2.2.2.2 gX0_inOwnHoles_X0_exists rfl rfl rfl (by decide +kernel) ⟨Nat.le_of_ble_eq_true rfl, Nat.le_of_ble_eq_true rfl⟩) (gO_c hi) rfl (Nat.le_of_ble_eq_true rfl) dX0_inOwnHoles_12 ?_
      refine G.if_eqB C 40 dX0_inOwnHoles_15 (by decide) (fun h15 => ?_) (fun h15 => ?_)
      · refine G.iincN2 C dX0_inOwnHoles_40 (by omega) rfl ?_
        refine G.goto C 4 dX0_inOwnHoles_43 (by decide) ?_
        exact G.back (ih (k + 1) (by omega) ) rfl ⟨(by first | rfl | simp [cnt, *]), (by first | rfl | simp [cnt, *]), (by first | rfl | simp [cnt, *]), trivial⟩
      · refine G.aldn0 C dX0_inOwnHoles_18 ?_
        refine G.getC C hi hinX0 0 (by decide) rfl (C.1.2.2.2.2 (.fieldLink RX0 11 RX0 "doves" "[[I") (by decide +kernel)) rfl dX0_inOwnHoles_19 ?_
        refine G.iconst C 2 dX0_inOwnHoles_22 (by decide) ?_
        refine G.aaldD C hi 4 (by unfold vp_in; decide) (by decide) dX0_inOwnHoles_23 ?_
        refine G.ildn2 C dX0_inOwnHoles_24 ?_
        refine G.ialdU C (n := 16) (j := 4) (d0 := k) (gN_c hi rfl) (gV_c hi (by omega)) (by first | assumption | exact vp_in_nI (by omega) (by omega) | (unfold vp_in; decide)) (ix_nI (by omega)) dX0_inOwnHoles_25 ?_
        refine G.aldn0 C dX0_inOwnHoles_26 ?_
        refine G.getC C hi hinX0 0 (by decide) rfl (C.1.2.2.2.2 (.fieldLink RX0 11 RX0 "doves" "[[I") (by decide +kernel)) rfl dX0_inOwnHoles_27 ?_
        refine G.iconst C 0 dX0_inOwnHoles_30 (by decide) ?_
        refine G.aaldD C hi 2 (by unfold vp_in; decide) (by decide) dX0_inOwnHoles_31 ?_
        refine G.ildn2 C dX0_inOwnHoles_32 ?_
        refine G.ialdU C (n := 16) (j := 2) (d0 := k) (gN_c hi rfl) (gV_c hi (by omega)) (by first | assumption | exact vp_in_nI (by omega) (by omega) | (unfold vp_in; decide)) (ix_nI (by omega)) dX0_inOwnHoles_33 ?_
        refine G.icmp_ne C 40 dX0_inOwnHoles_34 (by decide) (fun h34 => ?_) (fun h34 => ?_)
        · refine G.iincN2 C dX0_inOwnHoles_40 (by omega) rfl ?_
          refine G.goto C 4 dX0_inOwnHoles_43 (by decide) ?_
          exact G.back (ih (k + 1) (by omega) ) rfl ⟨(by first | rfl | simp [cnt, *]), (by first | rfl | simp [cnt, *]), (by first | rfl | simp [cnt, *]), trivial⟩
        · refine G.iincN1 C dX0_inOwnHoles_37 (by omega) rfl ?_
          refine G.iincN2 C dX0_inOwnHoles_40 (by omega) rfl ?_
          refine G.goto C 4 dX0_inOwnHoles_43 (by decide) ?_
          exact G.back (ih (k + 1) (by omega) ) rfl ⟨(by first | rfl | simp [cnt, *]), (by first | rfl | simp [cnt, *]), (by first | rfl | simp [cnt, *]), trivial⟩
  exact G.back (L4 16 0 (Nat.zero_add _) ) rfl ⟨(by first | rfl | simp [cnt]), (by first | rfl | simp [cnt]), (by first | rfl | simp [cnt]), trivial⟩
set_option maxRecDepth 100000 in
set_option maxHeartbeats 4000000 in
theorem k_X0_pairs (l : Launch) {E : gEn} {σ : gSt} {π : Nat → Nat} {o : Int64} {i : Nat} (hi : i < 9) {c : Nat → Nat → Int32} : CtI l yX0_pairs wsX0_pairs ({ frames := 1, cells := 0, slots := 0, locals := 21 } : Room) E [.ref (E.2.1 i 0)] (gU σ i c) π o (cPairs c) (gU σ i c) π o := by
  refine CtI.of (cc := cX0_pairs) (own := RX0) (maxL := 3) (ret := (some .int)) [some (.ref (E.2.1 i 0)), none, none] (by decide) rfl rfl (Nat.le_of_ble_eq_true rfl) rfl ?_
  intro p e s m args below meth cd C hrt hlk
  have hinX0 : ∀ w ∈ wsX00, w ∈ wsX0_pairs := by decide +kernel
  refine G.iconst C 0 dX0_pairs_0 (by decide) ?_
  refine G.istn1 C dX0_pairs_1 (by omega) rfl ?_
  refine G.iconst C 0 dX0_pairs_2 (by decide) ?_
  refine G.istn2 C dX0_pairs_3 (by omega) rfl ?_
  have L4 : ∀ (n k : Nat), k + n = 16 → G p l e ({ frames := 1, cells := 0, slots := 0, locals := 21 } : Room) s m args below meth cd 3 0 0 (gA E) (gQI below args s (cPairs c) E (gU σ i c) π o) E (gU σ i c) π o 4 [some (.ref (E.2.1 i 0)), some (.int (nI (cnt (fun k => cEx c (nI k) && decide (¬ c 5 k = -1)) k))), some (.int (nI k))] [] := by
    intro n
    induction n with
    | zero =>
      intro k hk
      obtain rfl : 16 = k := by omega
      refine G.ildn2 C dX0_pairs_4 ?_
      refine G.bipush C 16 dX0_pairs_5 (by decide) ?_
      refine G.icmp_ge C 39 dX0_pairs_7 (by decide) (fun _ => ?_) (fun h => absurd (nI_le (a := 16) (b := 16) (by omega) (by decide)) h)
      refine G.ildn1 C dX0_pairs_39 ?_
      refine G.iconst C 2 dX0_pairs_40 (by decide) ?_
      refine G.idiv C dX0_pairs_41 (by decide) ?_
      exact G.iret C hlk hrt dX0_pairs_42 (by rfl) (by exact fun _ h => h)
    | succ n ih =>
      intro k hk
      have hk2 : k < 16 := by omega
      refine G.ildn2 C dX0_pairs_4 ?_
      refine G.bipush C 16 dX0_pairs_5 (by decide) ?_
      refine G.icmp_ge C 39 dX0_pairs_7 (by decide) (fun h => absurd h (nI_ge (b := 16) hk2 (by decide))) (fun _ => ?_)
      refine G.aldn0 C dX0_pairs_10 ?_
      refine G.ildn2 C dX0_pairs_11 ?_
      refine G.callVI1 C (k_X0_exists l hi) (cwV 1 C.1.2.2.2.2 gX0_pairs_X0_exists rfl rfl rfl (by decide +kernel) ⟨Nat.le_of_ble_eq_true rfl, Nat.le_of_ble_eq_true rfl⟩) (gO_c hi) rfl (Nat.le_of_ble_eq_true rfl) dX0_pairs_12 ?_
      refine G.if_eqB C 33 dX0_pairs_15 (by decide) (fun h15 => ?_) (fun h15 => ?_)
      · refine G.iincN2 C dX0_pairs_33 (by omega) rfl ?_
        refine G.goto C 4 dX0_pairs_36 (by decide) ?_
        exact G.back (ih (k + 1) (by omega) ) rfl ⟨(by first | rfl | simp [cnt, *]), (by first | rfl | simp [cnt, *]), (by first | rfl | simp [cnt, *]), trivial⟩
      · refine G.aldn0 C dX0_pairs_18 ?_
        refine G.getC C hi hinX0 0 (by decide) rfl (C.1.2.2.2.2 (.fieldLink RX0 11 RX0 "doves" "[[I") (by decide +kernel)) rfl dX0_pairs_19 ?_
        refine G.iconst C 3 dX0_pairs_22 (by decide) ?_
        refine G.aaldD C hi 5 (by unfold vp_in; decide) (by decide) dX0_pairs_23 ?_
        refine G.ildn2 C dX0_pairs_24 ?_
        refine G.ialdU C (n := 16) (j := 5) (d0 := k) (gN_c hi rfl) (gV_c hi (by omega)) (by first | assumption | exact vp_in_nI (by omega) (by omega) | (unfold vp_in; decide)) (ix_nI (by omega)) dX0_pairs_25 ?_
        refine G.iconst C (-1) dX0_pairs_26 (by decide) ?_
        refine G.icmp_eq C 33 dX0_pairs_27 (by decide) (fun h27 => ?_) (fun h27 => ?_)
        · refine G.iincN2 C dX0_pairs_33 (by omega) rfl ?_
          refine G.goto C 4 dX0_pairs_36 (by decide) ?_
          exact G.back (ih (k + 1) (by omega) ) rfl ⟨(by first | rfl | simp [cnt, *]), (by first | rfl | simp [cnt, *]), (by first | rfl | simp [cnt, *]), trivial⟩
        · refine G.iincN1 C dX0_pairs_30 (by omega) rfl ?_
          refine G.iincN2 C dX0_pairs_33 (by omega) rfl ?_
          refine G.goto C 4 dX0_pairs_36 (by decide) ?_
          exact G.back (ih (k + 1) (by omega) ) rfl ⟨(by first | rfl | simp [cnt, *]), (by first | rfl | simp [cnt, *]), (by first | rfl | simp [cnt, *]), trivial⟩
  exact G.back (L4 16 0 (Nat.zero_add _) ) rfl ⟨(by first | rfl | simp [cnt]), (by first | rfl | simp [cnt]), (by first | rfl | simp [cnt]), trivial⟩
set_option maxRecDepth 100000 in
set_option maxHeartbeats 4000000 in
theorem k_X0_sittingByHoles (l : Launch) {E : gEn} {σ : gSt} {π : Nat → Nat} {o : Int64} {i : Nat} (hi : i < 9) {c : Nat → Nat → Int32} : CtI l yX0_sittingByHoles wsX0_sittingByHoles ({ frames := 0, cells := 0, slots := 0, locals := 0 } : Room) E [.ref (E.2.1 i 0)] (gU σ i c) π o (cSitH c) (gU σ i c) π o := by
  refine CtI.of (cc := cX0_sittingByHoles) (own := RX0) (maxL := 3) (ret := (some .int)) [some (.ref (E.2.1 i 0)), none, none] (by decide) rfl rfl (Nat.le_of_ble_eq_true rfl) rfl ?_
  intro p e s m args below meth cd C hrt hlk
  have hinX0 : ∀ w ∈ wsX00, w ∈ wsX0_sittingByHoles := by decide +kernel
  refine G.iconst C 0 dX0_sittingByHoles_0 (by decide) ?_
  refine G.istn1 C dX0_sittingByHoles_1 (by omega) rfl ?_
  refine G.iconst C 0 dX0_sittingByHoles_2 (by decide) ?_
  refine G.istn2 C dX0_sittingByHoles_3 (by omega) rfl ?_
  have L4 : ∀ (n k : Nat), k + n = 24 → G p l e ({ frames := 0, cells := 0, slots := 0, locals := 0 } : Room) s m args below meth cd 3 0 0 (gA E) (gQI below args s (cSitH c) E (gU σ i c) π o) E (gU σ i c) π o 4 [some (.ref (E.2.1 i 0)), some (.int (nI (cnt (fun k => decide (¬ c 11 k = -1)) k))), some (.int (nI k))] [] := by
    intro n
    induction n with
    | zero =>
      intro k hk
      obtain rfl : 24 = k := by omega
      refine G.ildn2 C dX0_sittingByHoles_4 ?_
      refine G.bipush C 24 dX0_sittingByHoles_5 (by decide) ?_
      refine G.icmp_ge C 31 dX0_sittingByHoles_7 (by decide) (fun _ => ?_) (fun h => absurd (nI_le (a := 24) (b := 24) (by omega) (by decide)) h)
      refine G.ildn1 C dX0_sittingByHoles_31 ?_
      exact G.iret C hlk hrt dX0_sittingByHoles_32 (by rfl) (by exact fun _ h => h)
    | succ n ih =>
      intro k hk
      have hk2 : k < 24 := by omega
      refine G.ildn2 C dX0_sittingByHoles_4 ?_
      refine G.bipush C 24 dX0_sittingByHoles_5 (by decide) ?_
      refine G.icmp_ge C 31 dX0_sittingByHoles_7 (by decide) (fun h => absurd h (nI_ge (b := 24) hk2 (by decide))) (fun _ => ?_)
      refine G.aldn0 C dX0_sittingByHoles_10 ?_
      refine G.getC C hi hinX0 1 (by decide) rfl (C.1.2.2.2.2 (.fieldLink RX0 16 RX0 "holes" "[[I") (by decide +kernel)) rfl dX0_sittingByHoles_11 ?_
      refine G.iconst C 0 dX0_sittingByHoles_14 (by decide) ?_
      refine G.aaldH C hi 11 (by unfold vp_in; decide) (by decide) dX0_sittingByHoles_15 ?_
      refine G.ildn2 C dX0_sittingByHoles_16 ?_
      refine G.ialdU C (n := 24) (j := 11) (d0 := k) (gN_c hi rfl) (gV_c hi (by omega)) (by first | assumption | exact vp_in_nI (by omega) (by omega) | (unfold vp_in; decide)) (ix_nI (by omega)) dX0_sittingByHoles_17 ?_
      refine G.iconst C (-1) dX0_sittingByHoles_18 (by decide) ?_
      refine G.icmp_eq C 25 dX0_sittingByHoles_19 (by decide) (fun h19 => ?_) (fun h19 => ?_)
      · refine G.iincN2 C dX0_sittingByHoles_25 (by omega) rfl ?_
        refine G.goto C 4 dX0_sittingByHoles_28 (by decide) ?_
        exact G.back (ih (k + 1) (by omega) ) rfl ⟨(by first | rfl | simp [cnt, *]), (by first | rfl | simp [cnt, *]), (by first | rfl | simp [cnt, *]), trivial⟩
      · refine G.iincN1 C dX0_sittingByHoles_22 (by omega) rfl ?_
        refine G.iincN2 C dX0_sittingByHoles_25 (by omega) rfl ?_
        refine G.goto C 4 dX0_sittingByHoles_28 (by decide) ?_
        exact G.back (ih (k + 1) (by omega) ) rfl ⟨(by first | rfl | simp [cnt, *]), (by first | rfl | simp [cnt, *]), (by first | rfl | simp [cnt, *]), trivial⟩
  exact G.back (L4 24 0 (Nat.zero_add _) ) rfl ⟨(by first | rfl | simp [cnt]), (by first | rfl | simp [cnt]), (by first | rfl | simp [cnt]), trivial⟩
set_option maxRecDepth 100000 in
set_option maxHeartbeats 4000000 in
theorem k_X0_openHoles (l : Launch) {E : gEn} {σ : gSt} {π : Nat → Nat} {o : Int64} {i : Nat} (hi : i < 9) {c : Nat → Nat → Int32} : CtI l yX0_openHoles wsX0_openHoles ({ frames := 2, cells := 0, slots := 0, locals := 41 } : Room) E [.ref (E.2.1 i 0)] (gU σ i c) π o (cOpens c) (gU σ i c) π o := by
  refine CtI.of (cc := cX0_openHoles) (own := RX0) (maxL := 3) (ret := (some .int)) [some (.ref (E.2.1 i 0)), none, none] (by decide) rfl rfl (Nat.le_of_ble_eq_true rfl) rfl ?_
  intro p e s m args below meth cd C hrt hlk
  have hinX0 : ∀ w ∈ wsX00, w ∈ wsX0_openHoles := by decide +kernel
  refine G.iconst C 0 dX0_openHoles_0 (by decide) ?_
  refine G.istn1 C dX0_openHoles_1 (by omega) rfl ?_
  refine G.iconst C 0 dX0_openHoles_2 (by decide) ?_
  refine G.istn2 C dX0_openHoles_3 (by omega) rfl ?_
  have L4 : ∀ (n k : Nat), k + n = 24 → G p l e ({ frames := 2, cells := 0, slots := 0, locals := 41 } : Room) s m args below meth cd 3 0 0 (gA E) (gQI below args s (cOpens c) E (gU σ i c) π o) E (gU σ i c) π o 4 [some (.ref (E.2.1 i 0)), some (.int (nI (cnt (fun k => cOpen c (nI k)) k))), some (.int (nI k))] [] := by
    intro n
    induction n with
    | zero =>
      intro k hk
      obtain rfl : 24 = k := by omega
      refine G.ildn2 C dX0_openHoles_4 ?_
      refine G.bipush C 24 dX0_openHoles_5 (by decide) ?_
      refine G.icmp_ge C 27 dX0_openHoles_7 (by decide) (fun _ => ?_) (fun h => absurd (nI_le (a := 24) (b := 24) (by omega) (by decide)) h)
      refine G.ildn1 C dX0_openHoles_27 ?_
      exact G.iret C hlk hrt dX0_openHoles_28 (by rfl) (by exact fun _ h => h)
    | succ n ih =>
      intro k hk
      have hk2 : k < 24 := by omega
      refine G.ildn2 C dX0_openHoles_4 ?_
      refine G.bipush C 24 dX0_openHoles_5 (by decide) ?_
      refine G.icmp_ge C 27 dX0_openHoles_7 (by decide) (fun h => absurd h (nI_ge (b := 24) hk2 (by decide))) (fun _ => ?_)
      refine G.aldn0 C dX0_openHoles_10 ?_
      refine G.ildn2 C dX0_openHoles_11 ?_
      refine G.callVI1 C (k_X0_isOpen l hi) (cwV 1 C.1.2.2.2.2 gX0_openHoles_X0_isOpen rfl rfl rfl (by decide +kernel) ⟨Nat.le_of_ble_eq_true rfl, Nat.le_of_ble_eq_true rfl⟩) (gO_c hi) rfl (Nat.le_of_ble_eq_true rfl) dX0_openHoles_12 ?_
      refine G.if_eqB C 21 dX0_openHoles_15 (by decide) (fun h15 => ?_) (fun h15 => ?_)
      · refine G.iincN2 C dX0_openHoles_21 (by omega) rfl ?_
        refine G.goto C 4 dX0_openHoles_24 (by decide) ?_
        exact G.back (ih (k + 1) (by omega) ) rfl ⟨(by first | rfl | simp [cnt, *]), (by first | rfl | simp [cnt, *]), (by first | rfl | simp [cnt, *]), trivial⟩
      · refine G.iincN1 C dX0_openHoles_18 (by omega) rfl ?_
        refine G.iincN2 C dX0_openHoles_21 (by omega) rfl ?_
        refine G.goto C 4 dX0_openHoles_24 (by decide) ?_
        exact G.back (ih (k + 1) (by omega) ) rfl ⟨(by first | rfl | simp [cnt, *]), (by first | rfl | simp [cnt, *]), (by first | rfl | simp [cnt, *]), trivial⟩
  exact G.back (L4 24 0 (Nat.zero_add _) ) rfl ⟨(by first | rfl | simp [cnt]), (by first | rfl | simp [cnt]), (by first | rfl | simp [cnt]), trivial⟩
set_option maxRecDepth 100000 in
set_option maxHeartbeats 4000000 in
theorem k_X0_sittingByDoves (l : Launch) {E : gEn} {σ : gSt} {π : Nat → Nat} {o : Int64} {i : Nat} (hi : i < 9) {c : Nat → Nat → Int32} : CtI l yX0_sittingByDoves wsX0_sittingByDoves ({ frames := 2, cells := 0, slots := 0, locals := 44 } : Room) E [.ref (E.2.1 i 0)] (gU σ i c) π o (cSitD c) (gU σ i c) π o := by
  refine CtI.of (cc := cX0_sittingByDoves) (own := RX0) (maxL := 1) (ret := (some .int)) [some (.ref (E.2.1 i 0))] (by decide) rfl rfl (Nat.le_of_ble_eq_true rfl) rfl ?_
  intro p e s m args below meth cd C hrt hlk
  have hinX0 : ∀ w ∈ wsX00, w ∈ wsX0_sittingByDoves := by decide +kernel
  refine G.aldn0 C dX0_sittingByDoves_0 ?_
  refine G.callVI0 C (k_X0_doveCount l hi) (cwV 0 C.1.2.2.2.2 gX0_sittingByDoves_X0_doveCount rfl rfl rfl (by decide +kernel) ⟨Nat.le_of_ble_eq_true rfl, Nat.le_of_ble_eq_true rfl⟩) (gO_c hi) rfl (Nat.le_of_ble_eq_true rfl) dX0_sittingByDoves_1 ?_
  refine G.aldn0 C dX0_sittingByDoves_4 ?_
  refine G.bipush C 24 dX0_sittingByDoves_5 (by decide) ?_
  refine G.callVI1 C (k_X0_placedAt l hi) (cwV 1 C.1.2.2.2.2 gX0_sittingByDoves_X0_placedAt rfl rfl rfl (by decide +kernel) ⟨Nat.le_of_ble_eq_true rfl, Nat.le_of_ble_eq_true rfl⟩) (gO_c hi) rfl (Nat.le_of_ble_eq_true rfl) dX0_sittingByDoves_7 ?_
  refine G.isub C dX0_sittingByDoves_10 ?_
  refine G.aldn0 C dX0_sittingByDoves_11 ?_
  refine G.iconst C (-1) dX0_sittingByDoves_12 (by decide) ?_
  refine G.callVI1 C (k_X0_placedAt l hi) (cwV 1 C.1.2.2.2.2 gX0_sittingByDoves_X0_placedAt rfl rfl rfl (by decide +kernel) ⟨Nat.le_of_ble_eq_true rfl, Nat.le_of_ble_eq_true rfl⟩) (gO_c hi) rfl (Nat.le_of_ble_eq_true rfl) dX0_sittingByDoves_13 ?_
  refine G.isub C dX0_sittingByDoves_16 ?_
  exact G.iret C hlk hrt dX0_sittingByDoves_17 (by rfl) (by exact fun _ h => h)
set_option maxRecDepth 100000 in
set_option maxHeartbeats 4000000 in
theorem k_X0_reasonNotHome (l : Launch) {E : gEn} {σ : gSt} {π : Nat → Nat} {o : Int64} {i : Nat} (hi : i < 9) {c : Nat → Nat → Int32} {x t : Int32} (hx : vp_in x 16) : CtI l yX0_reasonNotHome wsX0_reasonNotHome ({ frames := 0, cells := 0, slots := 0, locals := 0 } : Room) E [.ref (E.2.1 i 0), .int x, .int t] (gU σ i c) π o (cWhyHome c x t) (gU σ i c) π o := by
  refine CtI.of (cc := cX0_reasonNotHome) (own := RX0) (maxL := 3) (ret := (some .int)) [some (.ref (E.2.1 i 0)), some (.int x), some (.int t)] (by decide) rfl rfl (Nat.le_of_ble_eq_true rfl) rfl ?_
  intro p e s m args below meth cd C hrt hlk
  have hinX0 : ∀ w ∈ wsX00, w ∈ wsX0_reasonNotHome := by decide +kernel
  refine G.aldn0 C dX0_reasonNotHome_0 ?_
  refine G.getC C hi hinX0 0 (by decide) rfl (C.1.2.2.2.2 (.fieldLink RX0 11 RX0 "doves" "[[I") (by decide +kernel)) rfl dX0_reasonNotHome_1 ?_
  refine G.iconst C 2 dX0_reasonNotHome_4 (by decide) ?_
  refine G.aaldD C hi 4 (by unfold vp_in; decide) (by decide) dX0_reasonNotHome_5 ?_
  refine G.ildn1 C dX0_reasonNotHome_6 ?_
  refine G.ialdU C (n := 16) (j := 4) (d0 := _) (gN_c hi rfl) (gV_c hi (by omega)) (by first | assumption | exact vp_in_nI (by omega) (by omega) | (unfold vp_in; decide)) rfl dX0_reasonNotHome_7 ?_
  refine G.iconst C (-1) dX0_reasonNotHome_8 (by decide) ?_
  refine G.icmp_eq C 14 dX0_reasonNotHome_9 (by decide) (fun h9 => ?_) (fun h9 => ?_)
  · refine G.ildn2 C dX0_reasonNotHome_14 ?_
    refine G.aldn0 C dX0_reasonNotHome_15 ?_
    refine G.getC C hi hinX0 7 (by decide) rfl (C.1.2.2.2.2 (.fieldLink RX0 50 RX0 "time" "I") (by decide +kernel)) rfl dX0_reasonNotHome_16 ?_
    refine G.icmp_ge C 26 dX0_reasonNotHome_19 (by decide) (fun h19 => ?_) (fun h19 => ?_)
    · refine G.iconst C 0 dX0_reasonNotHome_26 (by decide) ?_
      exact G.iret C hlk hrt dX0_reasonNotHome_27 (by simp [cWhyHome, *]) (by exact fun _ h => h)
    · refine G.iconst C 2 dX0_reasonNotHome_22 (by decide) ?_
      refine G.goto C 27 dX0_reasonNotHome_23 (by decide) ?_
      exact G.iret C hlk hrt dX0_reasonNotHome_27 (by simp [cWhyHome, *]) (by exact fun _ h => h)
  · refine G.iconst C 1 dX0_reasonNotHome_12 (by decide) ?_
    exact G.iret C hlk hrt dX0_reasonNotHome_13 (by simp [cWhyHome, *]) (by exact fun _ h => h)
set_option maxRecDepth 100000 in
set_option maxHeartbeats 4000000 in
theorem k_X0_reasonNotToShut (l : Launch) {E : gEn} {σ : gSt} {π : Nat → Nat} {o : Int64} {i : Nat} (hi : i < 9) {c : Nat → Nat → Int32} {x : Int32} (hx : vp_in x 24) : CtI l yX0_reasonNotToShut wsX0_reasonNotToShut ({ frames := 2, cells := 0, slots := 0, locals := 41 } : Room) E [.ref (E.2.1 i 0), .int x] (gU σ i c) π o (cWhyShut c x) (gU σ i c) π o := by
  refine CtI.of (cc := cX0_reasonNotToShut) (own := RX0) (maxL := 2) (ret := (some .int)) [some (.ref (E.2.1 i 0)), some (.int x)] (by decide) rfl rfl (Nat.le_of_ble_eq_true rfl) rfl ?_
  intro p e s m args below meth cd C hrt hlk
  have hinX0 : ∀ w ∈ wsX00, w ∈ wsX0_reasonNotToShut := by decide +kernel
  refine G.ildn1 C dX0_reasonNotToShut_0 ?_
  refine G.callSNI1 C (k_X3_isHole l) ⟨va_cnB 1 C.1.2.2.2.2 gX0_reasonNotToShut_X3_isHole_n59 rfl rfl rfl (va_Nw_isHole C.2.1) (C.1.2.2.2.2 (.initialized RX3) (by decide +kernel)) (by decide +kernel) ⟨Nat.le_of_ble_eq_true rfl, Nat.le_of_ble_eq_true rfl⟩, (C.1.2.2.2.2 (.static yX3_isHole) (by decide +kernel)), trivial⟩ (Nat.le_of_ble_eq_true rfl) dX0_reasonNotToShut_1 ?_
  refine G.if_eqB C 21 dX0_reasonNotToShut_4 (by decide) (fun h4 => absurd h4 (by rw [hHole_of hx]; decide)) (fun h4 => ?_)
  refine G.aldn0 C dX0_reasonNotToShut_7 ?_
  refine G.getC C hi hinX0 1 (by decide) rfl (C.1.2.2.2.2 (.fieldLink RX0 16 RX0 "holes" "[[I") (by decide +kernel)) rfl dX0_reasonNotToShut_8 ?_
  refine G.iconst C 0 dX0_reasonNotToShut_11 (by decide) ?_
  refine G.aaldH C hi 11 (by unfold vp_in; decide) (by decide) dX0_reasonNotToShut_12 ?_
  refine G.ildn1 C dX0_reasonNotToShut_13 ?_
  refine G.ialdU C (n := 24) (j := 11) (d0 := _) (gN_c hi rfl) (gV_c hi (by omega)) (by first | assumption | exact vp_in_nI (by omega) (by omega) | (unfold vp_in; decide)) rfl dX0_reasonNotToShut_14 ?_
  refine G.iconst C (-1) dX0_reasonNotToShut_15 (by decide) ?_
  refine G.icmp_eq C 21 dX0_reasonNotToShut_16 (by decide) (fun h16 => ?_) (fun h16 => ?_)
  · refine G.aldn0 C dX0_reasonNotToShut_21 ?_
    refine G.ildn1 C dX0_reasonNotToShut_22 ?_
    refine G.callVI1 C (k_X0_isOpen l hi) (cwV 1 C.1.2.2.2.2 gX0_reasonNotToShut_X0_isOpen rfl rfl rfl (by decide +kernel) ⟨Nat.le_of_ble_eq_true rfl, Nat.le_of_ble_eq_true rfl⟩) (gO_c hi) rfl (Nat.le_of_ble_eq_true rfl) dX0_reasonNotToShut_23 ?_
    refine G.if_eqB C 33 dX0_reasonNotToShut_26 (by decide) (fun h26 => ?_) (fun h26 => ?_)
    · refine G.iconst C 4 dX0_reasonNotToShut_33 (by decide) ?_
      exact G.iret C hlk hrt dX0_reasonNotToShut_34 (by simp [cWhyShut, *]) (by exact fun _ h => h)
    · refine G.iconst C 0 dX0_reasonNotToShut_29 (by decide) ?_
      refine G.goto C 34 dX0_reasonNotToShut_30 (by decide) ?_
      exact G.iret C hlk hrt dX0_reasonNotToShut_34 (by simp [cWhyShut, *]) (by exact fun _ h => h)
  · refine G.iconst C 3 dX0_reasonNotToShut_19 (by decide) ?_
    exact G.iret C hlk hrt dX0_reasonNotToShut_20 (by simp [cWhyShut, *]) (by exact fun _ h => h)
set_option maxRecDepth 100000 in
set_option maxHeartbeats 4000000 in
theorem k_X0_reasonNotToBuy (l : Launch) {E : gEn} {σ : gSt} {π : Nat → Nat} {o : Int64} {i : Nat} (hi : i < 9) {c : Nat → Nat → Int32} {x : Int32} (hx : vp_in x 24) : CtI l yX0_reasonNotToBuy wsX0_reasonNotToBuy ({ frames := 2, cells := 0, slots := 0, locals := 43 } : Room) E [.ref (E.2.1 i 0), .int x] (gU σ i c) π o (cWhyBuy c x) (gU σ i c) π o := by
  refine CtI.of (cc := cX0_reasonNotToBuy) (own := RX0) (maxL := 2) (ret := (some .int)) [some (.ref (E.2.1 i 0)), some (.int x)] (by decide) rfl rfl (Nat.le_of_ble_eq_true rfl) rfl ?_
  intro p e s m args below meth cd C hrt hlk
  have hinX0 : ∀ w ∈ wsX00, w ∈ wsX0_reasonNotToBuy := by decide +kernel
  refine G.aldn0 C dX0_reasonNotToBuy_0 ?_
  refine G.callVI0 C (k_X0_doveCount l hi) (cwV 0 C.1.2.2.2.2 gX0_reasonNotToBuy_X0_doveCount rfl rfl rfl (by decide +kernel) ⟨Nat.le_of_ble_eq_true rfl, Nat.le_of_ble_eq_true rfl⟩) (gO_c hi) rfl (Nat.le_of_ble_eq_true rfl) dX0_reasonNotToBuy_1 ?_
  refine G.bipush C 16 dX0_reasonNotToBuy_4 (by decide) ?_
  refine G.icmp_lt C 11 dX0_reasonNotToBuy_6 (by decide) (fun h6 => ?_) (fun h6 => ?_)
  · refine G.ildn1 C dX0_reasonNotToBuy_11 ?_
    refine G.callSNI1 C (k_X3_isHole l) ⟨va_cnB 1 C.1.2.2.2.2 gX0_reasonNotToBuy_X3_isHole_n59 rfl rfl rfl (va_Nw_isHole C.2.1) (C.1.2.2.2.2 (.initialized RX3) (by decide +kernel)) (by decide +kernel) ⟨Nat.le_of_ble_eq_true rfl, Nat.le_of_ble_eq_true rfl⟩, (C.1.2.2.2.2 (.static yX3_isHole) (by decide +kernel)), trivial⟩ (Nat.le_of_ble_eq_true rfl) dX0_reasonNotToBuy_12 ?_
    refine G.if_eqB C 33 dX0_reasonNotToBuy_15 (by decide) (fun h15 => absurd h15 (by rw [hHole_of hx]; decide)) (fun h15 => ?_)
    refine G.aldn0 C dX0_reasonNotToBuy_18 ?_
    refine G.getC C hi hinX0 1 (by decide) rfl (C.1.2.2.2.2 (.fieldLink RX0 16 RX0 "holes" "[[I") (by decide +kernel)) rfl dX0_reasonNotToBuy_19 ?_
    refine G.iconst C 1 dX0_reasonNotToBuy_22 (by decide) ?_
    refine G.aaldH C hi 12 (by unfold vp_in; decide) (by decide) dX0_reasonNotToBuy_23 ?_
    refine G.ildn1 C dX0_reasonNotToBuy_24 ?_
    refine G.ialdU C (n := 24) (j := 12) (d0 := _) (gN_c hi rfl) (gV_c hi (by omega)) (by first | assumption | exact vp_in_nI (by omega) (by omega) | (unfold vp_in; decide)) rfl dX0_reasonNotToBuy_25 ?_
    refine G.iconst C (-1) dX0_reasonNotToBuy_26 (by decide) ?_
    refine G.icmp_eq C 33 dX0_reasonNotToBuy_27 (by decide) (fun h27 => ?_) (fun h27 => ?_)
    · refine G.aldn0 C dX0_reasonNotToBuy_33 ?_
      refine G.ildn1 C dX0_reasonNotToBuy_34 ?_
      refine G.callVI1 C (k_X0_isOpen l hi) (cwV 1 C.1.2.2.2.2 gX0_reasonNotToBuy_X0_isOpen rfl rfl rfl (by decide +kernel) ⟨Nat.le_of_ble_eq_true rfl, Nat.le_of_ble_eq_true rfl⟩) (gO_c hi) rfl (Nat.le_of_ble_eq_true rfl) dX0_reasonNotToBuy_35 ?_
      refine G.if_eqB C 45 dX0_reasonNotToBuy_38 (by decide) (fun h38 => ?_) (fun h38 => ?_)
      · refine G.bipush C 7 dX0_reasonNotToBuy_45 (by decide) ?_
        exact G.iret C hlk hrt dX0_reasonNotToBuy_47 (by simp [cWhyBuy, *]) (by exact fun _ h => h)
      · refine G.iconst C 0 dX0_reasonNotToBuy_41 (by decide) ?_
        refine G.goto C 47 dX0_reasonNotToBuy_42 (by decide) ?_
        exact G.iret C hlk hrt dX0_reasonNotToBuy_47 (by simp [cWhyBuy, *]) (by exact fun _ h => h)
    · refine G.bipush C 6 dX0_reasonNotToBuy_30 (by decide) ?_
      exact G.iret C hlk hrt dX0_reasonNotToBuy_32 (by simp [cWhyBuy, *]) (by exact fun _ h => h)
  · refine G.iconst C 5 dX0_reasonNotToBuy_9 (by decide) ?_
    exact G.iret C hlk hrt dX0_reasonNotToBuy_10 (by simp [cWhyBuy, *]) (by exact fun _ h => h)
set_option maxRecDepth 100000 in
set_option maxHeartbeats 4000000 in
theorem k_X0_reasonNotToPair (l : Launch) {E : gEn} {σ : gSt} {π : Nat → Nat} {o : Int64} {i : Nat} (hi : i < 9) {c : Nat → Nat → Int32} {x y : Int32} (hx : vp_in x 16) (hy : vp_in y 16) : CtI l yX0_reasonNotToPair wsX0_reasonNotToPair ({ frames := 0, cells := 0, slots := 0, locals := 0 } : Room) E [.ref (E.2.1 i 0), .int x, .int y] (gU σ i c) π o (cWhyPair c x y) (gU σ i c) π o := by
  refine CtI.of (cc := cX0_reasonNotToPair) (own := RX0) (maxL := 4) (ret := (some .int)) [some (.ref (E.2.1 i 0)), some (.int x), some (.int y), none] (by decide) rfl rfl (Nat.le_of_ble_eq_true rfl) rfl ?_
  intro p e s m args below meth cd C hrt hlk
  have hinX0 : ∀ w ∈ wsX00, w ∈ wsX0_reasonNotToPair := by decide +kernel
  refine G.ildn1 C dX0_reasonNotToPair_0 ?_
  refine G.ildn2 C dX0_reasonNotToPair_1 ?_
  refine G.icmp_ne C 8 dX0_reasonNotToPair_2 (by decide) (fun h2 => ?_) (fun h2 => ?_)
  · refine G.aldn0 C dX0_reasonNotToPair_8 ?_
    refine G.getC C hi hinX0 0 (by decide) rfl (C.1.2.2.2.2 (.fieldLink RX0 11 RX0 "doves" "[[I") (by decide +kernel)) rfl dX0_reasonNotToPair_9 ?_
    refine G.iconst C 3 dX0_reasonNotToPair_12 (by decide) ?_
    refine G.aaldD C hi 5 (by unfold vp_in; decide) (by decide) dX0_reasonNotToPair_13 ?_
    refine G.ildn1 C dX0_reasonNotToPair_14 ?_
    refine G.ialdU C (n := 16) (j := 5) (d0 := _) (gN_c hi rfl) (gV_c hi (by omega)) (by first | assumption | exact vp_in_nI (by omega) (by omega) | (unfold vp_in; decide)) rfl dX0_reasonNotToPair_15 ?_
    refine G.iconst C (-1) dX0_reasonNotToPair_16 (by decide) ?_
    refine G.icmp_ne C 32 dX0_reasonNotToPair_17 (by decide) (fun h17 => ?_) (fun h17 => ?_)
    · refine G.iconst C 1 dX0_reasonNotToPair_32 (by decide) ?_
      refine G.goto C 37 dX0_reasonNotToPair_33 (by decide) ?_
      refine G.istn3 C dX0_reasonNotToPair_37 (by omega) rfl ?_
      refine G.ildn3 C dX0_reasonNotToPair_38 ?_
      refine G.if_eq C 47 dX0_reasonNotToPair_39 (by decide) (fun h => absurd h (by decide)) (fun _ => ?_)
      refine G.bipush C 9 dX0_reasonNotToPair_42 (by decide) ?_
      refine G.goto C 48 dX0_reasonNotToPair_44 (by decide) ?_
      exact G.iret C hlk hrt dX0_reasonNotToPair_48 (by simp [cWhyPair, *]) (by exact fun _ h => h)
    · refine G.aldn0 C dX0_reasonNotToPair_20 ?_
      refine G.getC C hi hinX0 0 (by decide) rfl (C.1.2.2.2.2 (.fieldLink RX0 11 RX0 "doves" "[[I") (by decide +kernel)) rfl dX0_reasonNotToPair_21 ?_
      refine G.iconst C 3 dX0_reasonNotToPair_24 (by decide) ?_
      refine G.aaldD C hi 5 (by unfold vp_in; decide) (by decide) dX0_reasonNotToPair_25 ?_
      refine G.ildn2 C dX0_reasonNotToPair_26 ?_
      refine G.ialdU C (n := 16) (j := 5) (d0 := _) (gN_c hi rfl) (gV_c hi (by omega)) (by first | assumption | exact vp_in_nI (by omega) (by omega) | (unfold vp_in; decide)) rfl dX0_reasonNotToPair_27 ?_
      refine G.iconst C (-1) dX0_reasonNotToPair_28 (by decide) ?_
      refine G.icmp_eq C 36 dX0_reasonNotToPair_29 (by decide) (fun h29 => ?_) (fun h29 => ?_)
      · refine G.iconst C 0 dX0_reasonNotToPair_36 (by decide) ?_
        refine G.istn3 C dX0_reasonNotToPair_37 (by omega) rfl ?_
        refine G.ildn3 C dX0_reasonNotToPair_38 ?_
        refine G.if_eq C 47 dX0_reasonNotToPair_39 (by decide) (fun _ => ?_) (fun h => absurd (by decide) h)
        refine G.iconst C 0 dX0_reasonNotToPair_47 (by decide) ?_
        exact G.iret C hlk hrt dX0_reasonNotToPair_48 (by simp [cWhyPair, *]) (by exact fun _ h => h)
      · refine G.iconst C 1 dX0_reasonNotToPair_32 (by decide) ?_
        refine G.goto C 37 dX0_reasonNotToPair_33 (by decide) ?_
        refine G.istn3 C dX0_reasonNotToPair_37 (by omega) rfl ?_
        refine G.ildn3 C dX0_reasonNotToPair_38 ?_
        refine G.if_eq C 47 dX0_reasonNotToPair_39 (by decide) (fun h => absurd h (by decide)) (fun _ => ?_)
        refine G.bipush C 9 dX0_reasonNotToPair_42 (by decide) ?_
        refine G.goto C 48 dX0_reasonNotToPair_44 (by decide) ?_
        exact G.iret C hlk hrt dX0_reasonNotToPair_48 (by simp [cWhyPair, *]) (by exact fun _ h => h)
  · refine G.bipush C 8 dX0_reasonNotToPair_5 (by decide) ?_
    exact G.iret C hlk hrt dX0_reasonNotToPair_7 (by simp [cWhyPair, *]) (by exact fun _ h => h)
