/-! the law's small methods: what they answer -/
def lLow (x : Int32) (N : Nat) : Nat := x.toBitVec.toNat % 2147483648 % N
theorem lLow_lt {x : Int32} {N : Nat} (h : 0 < N) : lLow x N < N := Nat.mod_lt _ h
theorem lLow_eq {x y : Int32} {N : Nat} (h0 : 0 < N) (hN : N < 2 ^ 31) (hy : y = nI N) : (x &&& 2147483647) - (x &&& 2147483647) / y * y = nI (lLow x N) := by
  have e := pk_and x (m := 2147483647) 31 (by decide)
  rw [hy, e]
  exact pk_rem (Nat.mod_lt _ (by decide)) h0 hN
def lIs (v : cSt) (k : Nat) : Bool := lBit (v 0 0) k
def lFst (P : Nat → Bool) : Nat → Nat → Int32
  | 0, _ => -1
  | n + 1, k => if P k = true then nI k else lFst P n (k + 1)
def lSits (v : cSt) (x : Int32) : Int32 := lFst (fun k => lIs v k && decide (v 1 (4 * k + 2) = x)) 16 0
def lOwner (v : cSt) (x : Int32) : Int32 := lFst (fun k => lIs v k && decide (v 1 (4 * k) = x)) 16 0
def lFreeB (v : cSt) (k : Nat) : Int32 := if lIs v k = true then (if v 1 (4 * k + 2) < 0 then -1 else if 24 ≤ v 1 (4 * k + 2) then -1 else ((1 : Int32) <<< (v 1 (4 * k + 2) &&& 31)) ^^^ -1) else -1
def lFreeN (v : cSt) : Nat → Int32
  | 0 => 16777215 &&& (v 0 1 ^^^ -1)
  | k + 1 => lFreeN v k &&& lFreeB v k
def lFree (v : cSt) : Int32 := lFreeN v 16
def lPl (v : cSt) (k : Nat) : Int32 := if 0 ≤ v 1 (4 * k + 3) then v 1 (4 * ix (v 1 (4 * k + 3)) + 2) else -1
def lNear (f p R : Int32) : Nat → Nat → Int32
  | 0, _ => R
  | n + 1, h => if (nI h - p) * (nI h - p) = 1 then (if lBit f h = true then nI h else lNear f p R n (h + 1)) else lNear f p R n (h + 1)
def lRing (f : Int32) : Nat → Nat → Int32
  | 0, _ => -1
  | n + 1, q => if lBit f q = true then nI q else (if q = 23 then lRing f n 0 else lRing f n (q + 1))
def lLook (v : cSt) (k : Nat) : Int32 := if lPl v k < 0 then lRing (lFree v) 24 (ix (v 1 (4 * k))) else if 24 ≤ lPl v k then lRing (lFree v) 24 (ix (v 1 (4 * k))) else lNear (lFree v) (lPl v k) (lRing (lFree v) 24 (ix (v 1 (4 * k)))) 24 0
def lSit (v : cSt) (k : Nat) (x : Int32) (s : Nat) : cSt := cW (cW (cW v 1 (4 * k + 2) x) 3 s (nI (32 * k) + x)) 0 12 (nI (s + 1))
def lShift (v : cSt) (k j : Nat) : cSt := cW (cW (cW (cW v 1 (4 * j + 2) (-1)) 2 (4 * j + 1) (v 2 (4 * j + 1) + 1)) 0 6 (v 0 6 + 1)) 0 7 (v 0 7 + (if cW v 1 (4 * j + 2) (-1) 1 (4 * k + 3) = nI j then 0 else 1))
def lMany (v : cSt) (lo hi : Int32) : Int32 := nI (cnt (fun k => lIs v k && (decide (¬ v 1 (4 * k + 2) < lo) && decide (¬ hi < v 1 (4 * k + 2)))) 16)
def lCp (f g : Nat → Int32) (n : Nat) : Nat → Int32 := fun q => if q < n then f q else g q
theorem lCp_0 {f g : Nat → Int32} : lCp f g 0 = g := funext fun q => if_neg (Nat.not_lt_zero q)
theorem lCp_s {v : cSt} {f g : Nat → Int32} {j n : Nat} : cW (cCp v (lCp f g n) j) j n (f n) = cCp v (lCp f g (n + 1)) j := by
  funext j' q
  unfold cW cCp lCp
  by_cases hj : j' = j
  · subst hj
    simp only [if_true]
    by_cases hq : q = n
    · subst hq; simp
    · rw [if_neg hq]
      by_cases h2 : q < n
      · rw [if_pos h2, if_pos (by omega)]
      · rw [if_neg h2, if_neg (by omega)]
  · simp only [hj, if_false]
theorem cCp_same {v : cSt} {j : Nat} : cCp v (v j) j = v := by
  funext j'
  unfold cCp
  by_cases h : j' = j
  · rw [if_pos h, h]
  · rw [if_neg h]
theorem i23 {q : Nat} (hq : q < 24) : nI q = 23 ↔ q = 23 := nI_eq (b := 23) (by omega) (by omega)
set_option maxRecDepth 100000 in
set_option maxHeartbeats 4000000 in
theorem k_L_low (l : Launch) {E : gEn} {σ : gSt} {π : Nat → Nat} {o : Int64} {x : Int32} {N : Nat} (h0 : 0 < N) (hN : N < 2 ^ 31) : CtI l yL_low wsL_low ({ frames := 0, cells := 0, slots := 0, locals := 0 } : Room) E [.int x, .int (nI N)] σ π o (nI (lLow x N)) σ π o := by
  refine CtI.of (cc := cL_low) (own := RL) (maxL := 2) (ret := (some .int)) [some (.int x), some (.int (nI N))] (by decide) rfl rfl (Nat.le_of_ble_eq_true rfl) rfl ?_
  intro p e s m args below meth cd C hrt hlk
  refine G.ildn0 C dL_low_0 ?_
  refine G.ldc C (v := 2147483647) (C.1.2.2.2.2 (.constant RL 8 2147483647) (by decide +kernel)) dL_low_1 ?_
  refine G.iand C dL_low_3 ?_
  refine G.ildn1 C dL_low_4 ?_
  refine G.irem C dL_low_5 (nI_ne0 h0 hN) ?_
  exact G.iret C hlk hrt dL_low_6 (by exact lLow_eq h0 hN rfl) (by exact fun _ h => h)
set_option maxRecDepth 100000 in
set_option maxHeartbeats 4000000 in
theorem k_L_is (l : Launch) {E : gEn} {σ : gSt} {π : Nat → Nat} {o : Int64} {i : Nat} (hl : 10 ≤ i) (hv : ∀ j, j < 4 → gV E i j) {v : cSt} {k : Nat} (hk : k < 16) : CtI l yL_is wsL_is ({ frames := 0, cells := 0, slots := 0, locals := 0 } : Room) E [.ref (E.2.1 i 0), .int (nI k)] (gU σ i v) π o (bI (lIs v k)) (gU σ i v) π o := by
  refine CtI.of (cc := cL_is) (own := RL) (maxL := 2) (ret := (some .boolean)) [some (.ref (E.2.1 i 0)), some (.int (nI k))] (by decide) rfl rfl (Nat.le_of_ble_eq_true rfl) rfl ?_
  intro p e s m args below meth cd C hrt hlk
  refine G.ildn1 C dL_is_0 ?_
  refine G.if_lt C 25 dL_is_1 (by decide) (fun h1 => absurd h1 (nI_pos (by omega))) (fun h1 => ?_)
  refine G.ildn1 C dL_is_4 ?_
  refine G.bipush C 16 dL_is_5 (by decide) ?_
  refine G.icmp_ge C 25 dL_is_7 (by decide) (fun h7 => absurd h7 (nI_ge (b := 16) hk (by omega))) (fun h7 => ?_)
  refine G.aldn0 C dL_is_10 ?_
  refine G.iconst C 0 dL_is_11 (by decide) ?_
  refine G.ialdU C (n := 13) (j := 0) (d0 := 0) (gN_l hl rfl) (hv _ (by omega)) (by unfold vp_in; decide) (by decide) dL_is_12 ?_
  refine G.ildn1 C dL_is_13 ?_
  refine G.ishr C dL_is_14 ?_
  refine G.iconst C 1 dL_is_15 (by decide) ?_
  refine G.iand C dL_is_16 ?_
  refine G.topI (bI (lIs v k)) (lBit_sh (by omega)) ?_
  refine G.iconst C 1 dL_is_17 (by decide) ?_
  refine G.icmp_ne C 25 dL_is_18 (by decide) (fun h18 => ?_) (fun h18 => ?_)
  · refine G.iconst C 0 dL_is_25 (by decide) ?_
    exact G.zret C hlk hrt dL_is_26 (by first | exact h18.symm | exact bI_n1 h18) (by exact fun _ h => h)
  · refine G.iconst C 1 dL_is_21 (by decide) ?_
    refine G.goto C 26 dL_is_22 (by decide) ?_
    exact G.zret C hlk hrt dL_is_26 (by first | exact h18.symm | exact bI_n1 h18) (by exact fun _ h => h)
set_option maxRecDepth 100000 in
set_option maxHeartbeats 4000000 in
theorem k_L_sits (l : Launch) {E : gEn} {σ : gSt} {π : Nat → Nat} {o : Int64} {i : Nat} (hl : 10 ≤ i) (hv : ∀ j, j < 4 → gV E i j) {v : cSt} {x : Int32} : CtI l yL_sits wsL_sits ({ frames := 1, cells := 0, slots := 0, locals := 21 } : Room) E [.ref (E.2.1 i 0), .ref (E.2.1 i 1), .int x] (gU σ i v) π o (lSits v x) (gU σ i v) π o := by
  refine CtI.of (cc := cL_sits) (own := RL) (maxL := 4) (ret := (some .int)) [some (.ref (E.2.1 i 0)), some (.ref (E.2.1 i 1)), some (.int x), none] (by decide) rfl rfl (Nat.le_of_ble_eq_true rfl) rfl ?_
  intro p e s m args below meth cd C hrt hlk
  refine G.iconst C 0 dL_sits_0 (by decide) ?_
  refine G.istn3 C dL_sits_1 (by omega) rfl ?_
  have L2 : ∀ (n k : Nat), k + n = 16 → lSits v x = lFst (fun k => lIs v k && decide (v 1 (4 * k + 2) = x)) n k → G p l e ({ frames := 1, cells := 0, slots := 0, locals := 21 } : Room) s m args below meth cd 4 0 0 (gA E) (gQI below args s (lSits v x) E (gU σ i v) π o) E (gU σ i v) π o 2 [some (.ref (E.2.1 i 0)), some (.ref (E.2.1 i 1)), some (.int x), some (.int (nI k))] [] := by
    intro n
    induction n with
    | zero =>
      intro k hk  hq0
      obtain rfl : 16 = k := by omega
      refine G.ildn3 C dL_sits_2 ?_
      refine G.bipush C 16 dL_sits_3 (by decide) ?_
      refine G.icmp_ge C 35 dL_sits_5 (by decide) (fun _ => ?_) (fun h => absurd (nI_le (a := 16) (b := 16) (by omega) (by decide)) h)
      refine G.iconst C (-1) dL_sits_35 (by decide) ?_
      exact G.iret C hlk hrt dL_sits_36 (by rw [hq0]; rfl) (by exact fun _ h => h)
    | succ n ih =>
      intro k hk  hq0
      have hk2 : k < 16 := by omega
      refine G.ildn3 C dL_sits_2 ?_
      refine G.bipush C 16 dL_sits_3 (by decide) ?_
      refine G.icmp_ge C 35 dL_sits_5 (by decide) (fun h => absurd h (nI_ge (b := 16) hk2 (by decide))) (fun _ => ?_)
      refine G.aldn0 C dL_sits_8 ?_
      refine G.ildn3 C dL_sits_9 ?_
      refine G.callSI2 C (k_L_is l hl hv (by omega)) (va_cwS 2 C.1.2.2.2.2 gL_sits_L_is rfl rfl rfl (by decide +kernel) ⟨Nat.le_of_ble_eq_true rfl, Nat.le_of_ble_eq_true rfl⟩) (Nat.le_of_ble_eq_true rfl) dL_sits_10 ?_
      refine G.if_eqB C 29 dL_sits_13 (by decide) (fun h13 => ?_) (fun h13 => ?_)
      · refine G.iincN3 C dL_sits_29 (by omega) rfl ?_
        refine G.goto C 2 dL_sits_32 (by decide) ?_
        exact G.back (ih (k + 1) (by omega) (by rw [hq0, lFst]; simp [*])) rfl ⟨(by first | rfl | simp), (by first | rfl | simp), (by first | rfl | simp), (by first | rfl | simp), trivial⟩
      · refine G.aldn1 C dL_sits_16 ?_
        refine G.iconst C 4 dL_sits_17 (by decide) ?_
        refine G.ildn3 C dL_sits_18 ?_
        refine G.imul C dL_sits_19 ?_
        refine G.topI (nI (4 * k)) (pk_mul _ _) ?_
        refine G.iconst C 2 dL_sits_20 (by decide) ?_
        refine G.iadd C dL_sits_21 ?_
        refine G.topI (nI ((4 * k) + 2)) (nI_add _ _) ?_
        refine G.ialdU C (n := 64) (j := 1) (d0 := ((4 * k) + 2)) (gN_l hl rfl) (hv _ (by omega)) (by first | assumption | exact vp_in_nI (by omega) (by omega) | (unfold vp_in; decide)) (ix_nI (by omega)) dL_sits_22 ?_
        refine G.ildn2 C dL_sits_23 ?_
        refine G.icmp_ne C 29 dL_sits_24 (by decide) (fun h24 => ?_) (fun h24 => ?_)
        · refine G.iincN3 C dL_sits_29 (by omega) rfl ?_
          refine G.goto C 2 dL_sits_32 (by decide) ?_
          exact G.back (ih (k + 1) (by omega) (by rw [hq0, lFst]; simp [*])) rfl ⟨(by first | rfl | simp), (by first | rfl | simp), (by first | rfl | simp), (by first | rfl | simp), trivial⟩
        · refine G.ildn3 C dL_sits_27 ?_
          exact G.iret C hlk hrt dL_sits_28 (by rw [hq0, lFst]; simp [*]) (by exact fun _ h => h)
  exact G.back (L2 16 0 (Nat.zero_add _) rfl) rfl ⟨(by first | rfl | simp), (by first | rfl | simp), (by first | rfl | simp), (by first | rfl | simp), trivial⟩
set_option maxRecDepth 100000 in
set_option maxHeartbeats 4000000 in
theorem k_L_owner (l : Launch) {E : gEn} {σ : gSt} {π : Nat → Nat} {o : Int64} {i : Nat} (hl : 10 ≤ i) (hv : ∀ j, j < 4 → gV E i j) {v : cSt} {x : Int32} : CtI l yL_owner wsL_owner ({ frames := 1, cells := 0, slots := 0, locals := 21 } : Room) E [.ref (E.2.1 i 0), .ref (E.2.1 i 1), .int x] (gU σ i v) π o (lOwner v x) (gU σ i v) π o := by
  refine CtI.of (cc := cL_owner) (own := RL) (maxL := 4) (ret := (some .int)) [some (.ref (E.2.1 i 0)), some (.ref (E.2.1 i 1)), some (.int x), none] (by decide) rfl rfl (Nat.le_of_ble_eq_true rfl) rfl ?_
  intro p e s m args below meth cd C hrt hlk
  refine G.iconst C 0 dL_owner_0 (by decide) ?_
  refine G.istn3 C dL_owner_1 (by omega) rfl ?_
  have L2 : ∀ (n k : Nat), k + n = 16 → lOwner v x = lFst (fun k => lIs v k && decide (v 1 (4 * k) = x)) n k → G p l e ({ frames := 1, cells := 0, slots := 0, locals := 21 } : Room) s m args below meth cd 4 0 0 (gA E) (gQI below args s (lOwner v x) E (gU σ i v) π o) E (gU σ i v) π o 2 [some (.ref (E.2.1 i 0)), some (.ref (E.2.1 i 1)), some (.int x), some (.int (nI k))] [] := by
    intro n
    induction n with
    | zero =>
      intro k hk  hq0
      obtain rfl : 16 = k := by omega
      refine G.ildn3 C dL_owner_2 ?_
      refine G.bipush C 16 dL_owner_3 (by decide) ?_
      refine G.icmp_ge C 33 dL_owner_5 (by decide) (fun _ => ?_) (fun h => absurd (nI_le (a := 16) (b := 16) (by omega) (by decide)) h)
      refine G.iconst C (-1) dL_owner_33 (by decide) ?_
      exact G.iret C hlk hrt dL_owner_34 (by rw [hq0]; rfl) (by exact fun _ h => h)
    | succ n ih =>
      intro k hk  hq0
      have hk2 : k < 16 := by omega
      refine G.ildn3 C dL_owner_2 ?_
      refine G.bipush C 16 dL_owner_3 (by decide) ?_
      refine G.icmp_ge C 33 dL_owner_5 (by decide) (fun h => absurd h (nI_ge (b := 16) hk2 (by decide))) (fun _ => ?_)
      refine G.aldn0 C dL_owner_8 ?_
      refine G.ildn3 C dL_owner_9 ?_
      refine G.callSI2 C (k_L_is l hl hv (by omega)) (va_cwS 2 C.1.2.2.2.2 gL_owner_L_is rfl rfl rfl (by decide +kernel) ⟨Nat.le_of_ble_eq_true rfl, Nat.le_of_ble_eq_true rfl⟩) (Nat.le_of_ble_eq_true rfl) dL_owner_10 ?_
      refine G.if_eqB C 27 dL_owner_13 (by decide) (fun h13 => ?_) (fun h13 => ?_)
      · refine G.iincN3 C dL_owner_27 (by omega) rfl ?_
        refine G.goto C 2 dL_owner_30 (by decide) ?_
        exact G.back (ih (k + 1) (by omega) (by rw [hq0, lFst]; simp [*])) rfl ⟨(by first | rfl | simp), (by first | rfl | simp), (by first | rfl | simp), (by first | rfl | simp), trivial⟩
      · refine G.aldn1 C dL_owner_16 ?_
        refine G.iconst C 4 dL_owner_17 (by decide) ?_
        refine G.ildn3 C dL_owner_18 ?_
        refine G.imul C dL_owner_19 ?_
        refine G.topI (nI (4 * k)) (pk_mul _ _) ?_
        refine G.ialdU C (n := 64) (j := 1) (d0 := (4 * k)) (gN_l hl rfl) (hv _ (by omega)) (by first | assumption | exact vp_in_nI (by omega) (by omega) | (unfold vp_in; decide)) (ix_nI (by omega)) dL_owner_20 ?_
        refine G.ildn2 C dL_owner_21 ?_
        refine G.icmp_ne C 27 dL_owner_22 (by decide) (fun h22 => ?_) (fun h22 => ?_)
        · refine G.iincN3 C dL_owner_27 (by omega) rfl ?_
          refine G.goto C 2 dL_owner_30 (by decide) ?_
          exact G.back (ih (k + 1) (by omega) (by rw [hq0, lFst]; simp [*])) rfl ⟨(by first | rfl | simp), (by first | rfl | simp), (by first | rfl | simp), (by first | rfl | simp), trivial⟩
        · refine G.ildn3 C dL_owner_25 ?_
          exact G.iret C hlk hrt dL_owner_26 (by rw [hq0, lFst]; simp [*]) (by exact fun _ h => h)
  exact G.back (L2 16 0 (Nat.zero_add _) rfl) rfl ⟨(by first | rfl | simp), (by first | rfl | simp), (by first | rfl | simp), (by first | rfl | simp), trivial⟩
set_option maxRecDepth 100000 in
set_option maxHeartbeats 4000000 in
theorem k_L_free (l : Launch) {E : gEn} {σ : gSt} {π : Nat → Nat} {o : Int64} {i : Nat} (hl : 10 ≤ i) (hv : ∀ j, j < 4 → gV E i j) {v : cSt} : CtI l yL_free wsL_free ({ frames := 1, cells := 0, slots := 0, locals := 21 } : Room) E [.ref (E.2.1 i 0), .ref (E.2.1 i 1)] (gU σ i v) π o (lFree v) (gU σ i v) π o := by
  refine CtI.of (cc := cL_free) (own := RL) (maxL := 4) (ret := (some .int)) [some (.ref (E.2.1 i 0)), some (.ref (E.2.1 i 1)), none, none] (by decide) rfl rfl (Nat.le_of_ble_eq_true rfl) rfl ?_
  intro p e s m args below meth cd C hrt hlk
  refine G.ldc C (v := 16777215) (C.1.2.2.2.2 (.constant RL 69 16777215) (by decide +kernel)) dL_free_0 ?_
  refine G.aldn0 C dL_free_2 ?_
  refine G.iconst C 1 dL_free_3 (by decide) ?_
  refine G.ialdU C (n := 13) (j := 0) (d0 := 1) (gN_l hl rfl) (hv _ (by omega)) (by unfold vp_in; decide) (by decide) dL_free_4 ?_
  refine G.iconst C (-1) dL_free_5 (by decide) ?_
  refine G.ixor C dL_free_6 ?_
  refine G.iand C dL_free_7 ?_
  refine G.istn2 C dL_free_8 (by omega) rfl ?_
  refine G.iconst C 0 dL_free_9 (by decide) ?_
  refine G.istn3 C dL_free_10 (by omega) rfl ?_
  have L11 : ∀ (n k : Nat), k + n = 16 → G p l e ({ frames := 1, cells := 0, slots := 0, locals := 21 } : Room) s m args below meth cd 4 0 0 (gA E) (gQI below args s (lFree v) E (gU σ i v) π o) E (gU σ i v) π o 11 [some (.ref (E.2.1 i 0)), some (.ref (E.2.1 i 1)), some (.int (lFreeN v k)), some (.int (nI k))] [] := by
    intro n
    induction n with
    | zero =>
      intro k hk
      obtain rfl : 16 = k := by omega
      refine G.ildn3 C dL_free_11 ?_
      refine G.bipush C 16 dL_free_12 (by decide) ?_
      refine G.icmp_ge C 71 dL_free_14 (by decide) (fun _ => ?_) (fun h => absurd (nI_le (a := 16) (b := 16) (by omega) (by decide)) h)
      refine G.ildn2 C dL_free_71 ?_
      exact G.iret C hlk hrt dL_free_72 (by rfl) (by exact fun _ h => h)
    | succ n ih =>
      intro k hk
      have hk2 : k < 16 := by omega
      refine G.ildn3 C dL_free_11 ?_
      refine G.bipush C 16 dL_free_12 (by decide) ?_
      refine G.icmp_ge C 71 dL_free_14 (by decide) (fun h => absurd h (nI_ge (b := 16) hk2 (by decide))) (fun _ => ?_)
      refine G.ildn2 C dL_free_17 ?_
      refine G.aldn0 C dL_free_18 ?_
      refine G.ildn3 C dL_free_19 ?_
      refine G.callSI2 C (k_L_is l hl hv (by omega)) (va_cwS 2 C.1.2.2.2.2 gL_free_L_is rfl rfl rfl (by decide +kernel) ⟨Nat.le_of_ble_eq_true rfl, Nat.le_of_ble_eq_true rfl⟩) (Nat.le_of_ble_eq_true rfl) dL_free_20 ?_
      refine G.if_eqB C 62 dL_free_23 (by decide) (fun h23 => ?_) (fun h23 => ?_)
      · refine G.iconst C (-1) dL_free_62 (by decide) ?_
        refine G.iand C dL_free_63 ?_
        refine G.istn2 C dL_free_64 (by omega) rfl ?_
        refine G.iincN3 C dL_free_65 (by omega) rfl ?_
        refine G.goto C 11 dL_free_68 (by decide) ?_
        exact G.back (ih (k + 1) (by omega) ) rfl ⟨(by first | with_reducible rfl | (rw [lFreeN, lFreeB]; simp [*]; done) | (exact congrArg (fun z => some (Value.int z)) (nI_s1 k))), (by first | with_reducible rfl | (rw [lFreeN, lFreeB]; simp [*]; done) | (exact congrArg (fun z => some (Value.int z)) (nI_s1 k))), (by first | with_reducible rfl | (rw [lFreeN, lFreeB]; simp [*]; done) | (exact congrArg (fun z => some (Value.int z)) (nI_s1 k))), (by first | with_reducible rfl | (rw [lFreeN, lFreeB]; simp [*]; done) | (exact congrArg (fun z => some (Value.int z)) (nI_s1 k))), trivial⟩
      · refine G.aldn1 C dL_free_26 ?_
        refine G.iconst C 4 dL_free_27 (by decide) ?_
        refine G.ildn3 C dL_free_28 ?_
        refine G.imul C dL_free_29 ?_
        refine G.topI (nI (4 * k)) (pk_mul _ _) ?_
        refine G.iconst C 2 dL_free_30 (by decide) ?_
        refine G.iadd C dL_free_31 ?_
        refine G.topI (nI ((4 * k) + 2)) (nI_add _ _) ?_
        refine G.ialdU C (n := 64) (j := 1) (d0 := ((4 * k) + 2)) (gN_l hl rfl) (hv _ (by omega)) (by first | assumption | exact vp_in_nI (by omega) (by omega) | (unfold vp_in; decide)) (ix_nI (by omega)) dL_free_32 ?_
        refine G.if_lt C 62 dL_free_33 (by decide) (fun h33 => ?_) (fun h33 => ?_)
        · refine G.iconst C (-1) dL_free_62 (by decide) ?_
          refine G.iand C dL_free_63 ?_
          refine G.istn2 C dL_free_64 (by omega) rfl ?_
          refine G.iincN3 C dL_free_65 (by omega) rfl ?_
          refine G.goto C 11 dL_free_68 (by decide) ?_
          exact G.back (ih (k + 1) (by omega) ) rfl ⟨(by first | with_reducible rfl | (rw [lFreeN, lFreeB]; simp [*]; done) | (exact congrArg (fun z => some (Value.int z)) (nI_s1 k))), (by first | with_reducible rfl | (rw [lFreeN, lFreeB]; simp [*]; done) | (exact congrArg (fun z => some (Value.int z)) (nI_s1 k))), (by first | with_reducible rfl | (rw [lFreeN, lFreeB]; simp [*]; done) | (exact congrArg (fun z => some (Value.int z)) (nI_s1 k))), (by first | with_reducible rfl | (rw [lFreeN, lFreeB]; simp [*]; done) | (exact congrArg (fun z => some (Value.int z)) (nI_s1 k))), trivial⟩
        · refine G.aldn1 C dL_free_36 ?_
          refine G.iconst C 4 dL_free_37 (by decide) ?_
          refine G.ildn3 C dL_free_38 ?_
          refine G.imul C dL_free_39 ?_
          refine G.topI (nI (4 * k)) (pk_mul _ _) ?_
          refine G.iconst C 2 dL_free_40 (by decide) ?_
          refine G.iadd C dL_free_41 ?_
          refine G.topI (nI ((4 * k) + 2)) (nI_add _ _) ?_
          refine G.ialdU C (n := 64) (j := 1) (d0 := ((4 * k) + 2)) (gN_l hl rfl) (hv _ (by omega)) (by first | assumption | exact vp_in_nI (by omega) (by omega) | (unfold vp_in; decide)) (ix_nI (by omega)) dL_free_42 ?_
          refine G.bipush C 24 dL_free_43 (by decide) ?_
          refine G.icmp_ge C 62 dL_free_45 (by decide) (fun h45 => ?_) (fun h45 => ?_)
          · refine G.iconst C (-1) dL_free_62 (by decide) ?_
            refine G.iand C dL_free_63 ?_
            refine G.istn2 C dL_free_64 (by omega) rfl ?_
            refine G.iincN3 C dL_free_65 (by omega) rfl ?_
            refine G.goto C 11 dL_free_68 (by decide) ?_
            exact G.back (ih (k + 1) (by omega) ) rfl ⟨(by first | with_reducible rfl | (rw [lFreeN, lFreeB]; simp [*]; done) | (exact congrArg (fun z => some (Value.int z)) (nI_s1 k))), (by first | with_reducible rfl | (rw [lFreeN, lFreeB]; simp [*]; done) | (exact congrArg (fun z => some (Value.int z)) (nI_s1 k))), (by first | with_reducible rfl | (rw [lFreeN, lFreeB]; simp [*]; done) | (exact congrArg (fun z => some (Value.int z)) (nI_s1 k))), (by first | with_reducible rfl | (rw [lFreeN, lFreeB]; simp [*]; done) | (exact congrArg (fun z => some (Value.int z)) (nI_s1 k))), trivial⟩
          · refine G.iconst C 1 dL_free_48 (by decide) ?_
            refine G.aldn1 C dL_free_49 ?_
            refine G.iconst C 4 dL_free_50 (by decide) ?_
            refine G.ildn3 C dL_free_51 ?_
            refine G.imul C dL_free_52 ?_
            refine G.topI (nI (4 * k)) (pk_mul _ _) ?_
            refine G.iconst C 2 dL_free_53 (by decide) ?_
            refine G.iadd C dL_free_54 ?_
            refine G.topI (nI ((4 * k) + 2)) (nI_add _ _) ?_
            refine G.ialdU C (n := 64) (j := 1) (d0 := ((4 * k) + 2)) (gN_l hl rfl) (hv _ (by omega)) (by first | assumption | exact vp_in_nI (by omega) (by omega) | (unfold vp_in; decide)) (ix_nI (by omega)) dL_free_55 ?_
            refine G.ishl C dL_free_56 ?_
            refine G.iconst C (-1) dL_free_57 (by decide) ?_
            refine G.ixor C dL_free_58 ?_
            refine G.goto C 63 dL_free_59 (by decide) ?_
            refine G.iand C dL_free_63 ?_
            refine G.istn2 C dL_free_64 (by omega) rfl ?_
            refine G.iincN3 C dL_free_65 (by omega) rfl ?_
            refine G.goto C 11 dL_free_68 (by decide) ?_
            exact G.back (ih (k + 1) (by omega) ) rfl ⟨(by first | with_reducible rfl | (rw [lFreeN, lFreeB]; simp [*]; done) | (exact congrArg (fun z => some (Value.int z)) (nI_s1 k))), (by first | with_reducible rfl | (rw [lFreeN, lFreeB]; simp [*]; done) | (exact congrArg (fun z => some (Value.int z)) (nI_s1 k))), (by first | with_reducible rfl | (rw [lFreeN, lFreeB]; simp [*]; done) | (exact congrArg (fun z => some (Value.int z)) (nI_s1 k))), (by first | with_reducible rfl | (rw [lFreeN, lFreeB]; simp [*]; done) | (exact congrArg (fun z => some (Value.int z)) (nI_s1 k))), trivial⟩
  exact G.back (L11 16 0 (Nat.zero_add _) ) rfl ⟨(by first | with_reducible rfl | rfl), (by first | with_reducible rfl | rfl), (by first | with_reducible rfl | rfl), (by first | with_reducible rfl | rfl), trivial⟩
set_option maxRecDepth 100000 in
set_option maxHeartbeats 4000000 in
theorem k_L_look (l : Launch) {E : gEn} {σ : gSt} {π : Nat → Nat} {o : Int64} {i : Nat} (hl : 10 ≤ i) (hv : ∀ j, j < 4 → gV E i j) {v : cSt} {k w0 : Nat} (hk : k < 16) (hw0 : v 1 (4 * k) = nI w0) (hw : w0 < 24) (hm : 0 ≤ v 1 (4 * k + 3) → ∃ m0, m0 < 16 ∧ v 1 (4 * k + 3) = nI m0) : CtI l yL_look wsL_look ({ frames := 2, cells := 0, slots := 0, locals := 44 } : Room) E [.ref (E.2.1 i 0), .ref (E.2.1 i 1), .int (nI k)] (gU σ i v) π o (lLook v k) (gU σ i v) π o := by
  refine CtI.of (cc := cL_look) (own := RL) (maxL := 8) (ret := (some .int)) [some (.ref (E.2.1 i 0)), some (.ref (E.2.1 i 1)), some (.int (nI k)), none, none, none, none, none] (by decide) rfl rfl (Nat.le_of_ble_eq_true rfl) rfl ?_
  intro p e s m args below meth cd C hrt hlk
  have hx0 : ix (v 1 (4 * k)) = w0 := by rw [hw0, ix_nI (by omega)]
  obtain ⟨p0, hp0⟩ : ∃ p0, p0 = lPl v k := ⟨_, rfl⟩
  refine G.aldn0 C dL_look_0 ?_
  refine G.aldn1 C dL_look_1 ?_
  refine G.callSI2 C (k_L_free l hl hv) (va_cwS 2 C.1.2.2.2.2 gL_look_L_free rfl rfl rfl (by decide +kernel) ⟨Nat.le_of_ble_eq_true rfl, Nat.le_of_ble_eq_true rfl⟩) (Nat.le_of_ble_eq_true rfl) dL_look_2 ?_
  refine G.istn3 C dL_look_5 (by omega) rfl ?_
  refine G.aldn1 C dL_look_6 ?_
  refine G.iconst C 4 dL_look_7 (by decide) ?_
  refine G.ildn2 C dL_look_8 ?_
  refine G.imul C dL_look_9 ?_
  refine G.topI (nI (4 * k)) (pk_mul _ _) ?_
  refine G.iconst C 3 dL_look_10 (by decide) ?_
  refine G.iadd C dL_look_11 ?_
  refine G.topI (nI ((4 * k) + 3)) (nI_add _ _) ?_
  refine G.ialdU C (n := 64) (j := 1) (d0 := ((4 * k) + 3)) (gN_l hl rfl) (hv _ (by omega)) (by first | assumption | exact vp_in_nI (by omega) (by omega) | (unfold vp_in; decide)) (ix_nI (by omega)) dL_look_12 ?_
  refine G.ist4 C dL_look_13 (by omega) rfl ?_
  refine G.ild4 C dL_look_15 ?_
  refine G.if_ge C 24 dL_look_17 (by decide) (fun h17 => ?_) (fun h17 => ?_)
  · obtain ⟨m0, hm0, em⟩ := hm h17
    refine G.aldn1 C dL_look_24 ?_
    refine G.iconst C 4 dL_look_25 (by decide) ?_
    refine G.ild4 C dL_look_26 ?_
    refine G.imul C dL_look_28 ?_
    refine G.topI (nI (4 * m0)) (by rw [em]; exact pk_mul 4 m0) ?_
    refine G.iconst C 2 dL_look_29 (by decide) ?_
    refine G.iadd C dL_look_30 ?_
    refine G.topI (nI ((4 * m0) + 2)) (nI_add _ _) ?_
    refine G.ialdU C (n := 64) (j := 1) (d0 := ((4 * m0) + 2)) (gN_l hl rfl) (hv _ (by omega)) (by first | assumption | exact vp_in_nI (by omega) (by omega) | (unfold vp_in; decide)) (ix_nI (by omega)) dL_look_31 ?_
    refine G.topI (p0) (by rw [hp0, lPl, if_pos h17, em, ix_nI (by omega)]) ?_
    refine G.ist5 C dL_look_32 (by omega) rfl ?_
    refine G.ild5 C dL_look_34 ?_
    refine G.if_lt C 91 dL_look_36 (by decide) (fun h36 => ?_) (fun h36 => ?_)
    · refine G.aldn1 C dL_look_91 ?_
      refine G.iconst C 4 dL_look_92 (by decide) ?_
      refine G.ildn2 C dL_look_93 ?_
      refine G.imul C dL_look_94 ?_
      refine G.topI (nI (4 * k)) (pk_mul _ _) ?_
      refine G.ialdU C (n := 64) (j := 1) (d0 := (4 * k)) (gN_l hl rfl) (hv _ (by omega)) (by first | assumption | exact vp_in_nI (by omega) (by omega) | (unfold vp_in; decide)) (ix_nI (by omega)) dL_look_95 ?_
      refine G.topI (nI w0) hw0 ?_
      refine G.ist6 C dL_look_96 (by omega) rfl ?_
      refine G.iconst C 0 dL_look_98 (by decide) ?_
      refine G.ist7 C dL_look_99 (by omega) rfl ?_
      have L101 : ∀ (n q9 : Nat), q9 + n = 24 → ∀ (q : Nat), q < 24 → lLook v k = lRing (lFree v) n q → G p l e ({ frames := 2, cells := 0, slots := 0, locals := 44 } : Room) s m args below meth cd 8 0 0 (gA E) (gQI below args s (lLook v k) E (gU σ i v) π o) E (gU σ i v) π o 101 [some (.ref (E.2.1 i 0)), some (.ref (E.2.1 i 1)), some (.int (nI k)), some (.int (lFree v)), none, none, some (.int (nI q)), some (.int (nI q9))] [] := by
        intro n
        induction n with
        | zero =>
          intro q9 hk q hq0 hq1
          obtain rfl : 24 = q9 := by omega
          refine G.ild7 C dL_look_101 ?_
          refine G.bipush C 24 dL_look_103 (by decide) ?_
          refine G.icmp_ge C 144 dL_look_105 (by decide) (fun _ => ?_) (fun h => absurd (nI_le (a := 24) (b := 24) (by omega) (by decide)) h)
          refine G.iconst C (-1) dL_look_144 (by decide) ?_
          exact G.iret C hlk hrt dL_look_145 (by rw [hq1]; rfl) (by exact fun _ h => h)
        | succ n ih =>
          intro q9 hk q hq0 hq1
          have hk2 : q9 < 24 := by omega
          refine G.ild7 C dL_look_101 ?_
          refine G.bipush C 24 dL_look_103 (by decide) ?_
          refine G.icmp_ge C 144 dL_look_105 (by decide) (fun h => absurd h (nI_ge (b := 24) hk2 (by decide))) (fun _ => ?_)
          refine G.ildn3 C dL_look_108 ?_
          refine G.ild6 C dL_look_109 ?_
          refine G.ishr C dL_look_111 ?_
          refine G.iconst C 1 dL_look_112 (by decide) ?_
          refine G.iand C dL_look_113 ?_
          refine G.topI (bI (lBit (lFree v) q)) (lBit_sh (by omega)) ?_
          refine G.iconst C 1 dL_look_114 (by decide) ?_
          refine G.icmp_ne C 121 dL_look_115 (by decide) (fun h115 => ?_) (fun h115 => ?_)
          · refine G.ild6 C dL_look_121 ?_
            refine G.bipush C 23 dL_look_123 (by decide) ?_
            refine G.icmp_ne C 132 dL_look_125 (by decide) (fun h125 => ?_) (fun h125 => ?_)
            · refine G.ild6 C dL_look_132 ?_
              refine G.iconst C 1 dL_look_134 (by decide) ?_
              refine G.iadd C dL_look_135 ?_
              refine G.topI (nI (q + 1)) (nI_add _ _) ?_
              refine G.ist6 C dL_look_136 (by omega) rfl ?_
              refine G.iincN7 C dL_look_138 (by omega) rfl ?_
              refine G.goto C 101 dL_look_141 (by decide) ?_
              exact G.back (ih (q9 + 1) (by omega) (q + 1) (by have : ¬ q = 23 := fun w => h125 ((i23 hq0).mpr w); omega) (by rw [hq1, lRing, if_neg (fun w => h115 (bI_1.mpr w)), if_neg (fun w => h125 ((i23 hq0).mpr w))])) rfl ⟨(by first | rfl | simp), (by first | rfl | simp), (by first | rfl | simp), (by first | rfl | simp), (by first | rfl | simp), (by first | rfl | simp), trivial⟩
            · refine G.iconst C 0 dL_look_128 (by decide) ?_
              refine G.goto C 136 dL_look_129 (by decide) ?_
              refine G.ist6 C dL_look_136 (by omega) rfl ?_
              refine G.iincN7 C dL_look_138 (by omega) rfl ?_
              refine G.goto C 101 dL_look_141 (by decide) ?_
              exact G.back (ih (q9 + 1) (by omega) 0 (by omega) (by rw [hq1, lRing, if_neg (fun w => h115 (bI_1.mpr w)), if_pos ((i23 hq0).mp h125)])) rfl ⟨(by first | rfl | simp), (by first | rfl | simp), (by first | rfl | simp), (by first | rfl | simp), (by first | rfl | simp), (by first | rfl | simp), trivial⟩
          · refine G.ild6 C dL_look_118 ?_
            exact G.iret C hlk hrt dL_look_120 (by rw [hq1, lRing, if_pos (bI_1.mp h115)]) (by exact fun _ h => h)
      exact G.back (L101 24 0 (Nat.zero_add _) w0 hw (by rw [lLook, ← hp0, if_pos h36, hx0])) rfl ⟨(by first | rfl | simp), (by first | rfl | simp), (by first | rfl | simp), (by first | rfl | simp), (by first | rfl | simp), (by first | rfl | simp), trivial⟩
    · refine G.ild5 C dL_look_39 ?_
      refine G.bipush C 24 dL_look_41 (by decide) ?_
      refine G.icmp_ge C 91 dL_look_43 (by decide) (fun h43 => ?_) (fun h43 => ?_)
      · refine G.aldn1 C dL_look_91 ?_
        refine G.iconst C 4 dL_look_92 (by decide) ?_
        refine G.ildn2 C dL_look_93 ?_
        refine G.imul C dL_look_94 ?_
        refine G.topI (nI (4 * k)) (pk_mul _ _) ?_
        refine G.ialdU C (n := 64) (j := 1) (d0 := (4 * k)) (gN_l hl rfl) (hv _ (by omega)) (by first | assumption | exact vp_in_nI (by omega) (by omega) | (unfold vp_in; decide)) (ix_nI (by omega)) dL_look_95 ?_
        refine G.topI (nI w0) hw0 ?_
        refine G.ist6 C dL_look_96 (by omega) rfl ?_
        refine G.iconst C 0 dL_look_98 (by decide) ?_
        refine G.ist7 C dL_look_99 (by omega) rfl ?_
        have L101 : ∀ (n q9 : Nat), q9 + n = 24 → ∀ (q : Nat), q < 24 → lLook v k = lRing (lFree v) n q → G p l e ({ frames := 2, cells := 0, slots := 0, locals := 44 } : Room) s m args below meth cd 8 0 0 (gA E) (gQI below args s (lLook v k) E (gU σ i v) π o) E (gU σ i v) π o 101 [some (.ref (E.2.1 i 0)), some (.ref (E.2.1 i 1)), some (.int (nI k)), some (.int (lFree v)), none, none, some (.int (nI q)), some (.int (nI q9))] [] := by
          intro n
          induction n with
          | zero =>
            intro q9 hk q hq0 hq1
            obtain rfl : 24 = q9 := by omega
            refine G.ild7 C dL_look_101 ?_
            refine G.bipush C 24 dL_look_103 (by decide) ?_
            refine G.icmp_ge C 144 dL_look_105 (by decide) (fun _ => ?_) (fun h => absurd (nI_le (a := 24) (b := 24) (by omega) (by decide)) h)
            refine G.iconst C (-1) dL_look_144 (by decide) ?_
            exact G.iret C hlk hrt dL_look_145 (by rw [hq1]; rfl) (by exact fun _ h => h)
          | succ n ih =>
            intro q9 hk q hq0 hq1
            have hk2 : q9 < 24 := by omega
            refine G.ild7 C dL_look_101 ?_
            refine G.bipush C 24 dL_look_103 (by decide) ?_
            refine G.icmp_ge C 144 dL_look_105 (by decide) (fun h => absurd h (nI_ge (b := 24) hk2 (by decide))) (fun _ => ?_)
            refine G.ildn3 C dL_look_108 ?_
            refine G.ild6 C dL_look_109 ?_
            refine G.ishr C dL_look_111 ?_
            refine G.iconst C 1 dL_look_112 (by decide) ?_
            refine G.iand C dL_look_113 ?_
            refine G.topI (bI (lBit (lFree v) q)) (lBit_sh (by omega)) ?_
            refine G.iconst C 1 dL_look_114 (by decide) ?_
            refine G.icmp_ne C 121 dL_look_115 (by decide) (fun h115 => ?_) (fun h115 => ?_)
            · refine G.ild6 C dL_look_121 ?_
              refine G.bipush C 23 dL_look_123 (by decide) ?_
              refine G.icmp_ne C 132 dL_look_125 (by decide) (fun h125 => ?_) (fun h125 => ?_)
              · refine G.ild6 C dL_look_132 ?_
                refine G.iconst C 1 dL_look_134 (by decide) ?_
                refine G.iadd C dL_look_135 ?_
                refine G.topI (nI (q + 1)) (nI_add _ _) ?_
                refine G.ist6 C dL_look_136 (by omega) rfl ?_
                refine G.iincN7 C dL_look_138 (by omega) rfl ?_
                refine G.goto C 101 dL_look_141 (by decide) ?_
                exact G.back (ih (q9 + 1) (by omega) (q + 1) (by have : ¬ q = 23 := fun w => h125 ((i23 hq0).mpr w); omega) (by rw [hq1, lRing, if_neg (fun w => h115 (bI_1.mpr w)), if_neg (fun w => h125 ((i23 hq0).mpr w))])) rfl ⟨(by first | rfl | simp), (by first | rfl | simp), (by first | rfl | simp), (by first | rfl | simp), (by first | rfl | simp), (by first | rfl | simp), trivial⟩
              · refine G.iconst C 0 dL_look_128 (by decide) ?_
                refine G.goto C 136 dL_look_129 (by decide) ?_
                refine G.ist6 C dL_look_136 (by omega) rfl ?_
                refine G.iincN7 C dL_look_138 (by omega) rfl ?_
                refine G.goto C 101 dL_look_141 (by decide) ?_
                exact G.back (ih (q9 + 1) (by omega) 0 (by omega) (by rw [hq1, lRing, if_neg (fun w => h115 (bI_1.mpr w)), if_pos ((i23 hq0).mp h125)])) rfl ⟨(by first | rfl | simp), (by first | rfl | simp), (by first | rfl | simp), (by first | rfl | simp), (by first | rfl | simp), (by first | rfl | simp), trivial⟩
            · refine G.ild6 C dL_look_118 ?_
              exact G.iret C hlk hrt dL_look_120 (by rw [hq1, lRing, if_pos (bI_1.mp h115)]) (by exact fun _ h => h)
        exact G.back (L101 24 0 (Nat.zero_add _) w0 hw (by rw [lLook, ← hp0, if_neg h36, if_pos h43, hx0])) rfl ⟨(by first | rfl | simp), (by first | rfl | simp), (by first | rfl | simp), (by first | rfl | simp), (by first | rfl | simp), (by first | rfl | simp), trivial⟩
      · refine G.iconst C 0 dL_look_46 (by decide) ?_
        refine G.ist6 C dL_look_47 (by omega) rfl ?_
        have L49 : ∀ (n h9 : Nat), h9 + n = 24 → lLook v k = lNear (lFree v) p0 (lRing (lFree v) 24 w0) n h9 → G p l e ({ frames := 2, cells := 0, slots := 0, locals := 44 } : Room) s m args below meth cd 8 0 0 (gA E) (gQI below args s (lLook v k) E (gU σ i v) π o) E (gU σ i v) π o 49 [some (.ref (E.2.1 i 0)), some (.ref (E.2.1 i 1)), some (.int (nI k)), some (.int (lFree v)), none, some (.int p0), some (.int (nI h9)), none] [] := by
          intro n
          induction n with
          | zero =>
            intro h9 hk  hq0
            obtain rfl : 24 = h9 := by omega
            refine G.ild6 C dL_look_49 ?_
            refine G.bipush C 24 dL_look_51 (by decide) ?_
            refine G.icmp_ge C 91 dL_look_53 (by decide) (fun _ => ?_) (fun h => absurd (nI_le (a := 24) (b := 24) (by omega) (by decide)) h)
            refine G.aldn1 C dL_look_91 ?_
            refine G.iconst C 4 dL_look_92 (by decide) ?_
            refine G.ildn2 C dL_look_93 ?_
            refine G.imul C dL_look_94 ?_
            refine G.topI (nI (4 * k)) (pk_mul _ _) ?_
            refine G.ialdU C (n := 64) (j := 1) (d0 := (4 * k)) (gN_l hl rfl) (hv _ (by omega)) (by first | assumption | exact vp_in_nI (by omega) (by omega) | (unfold vp_in; decide)) (ix_nI (by omega)) dL_look_95 ?_
            refine G.topI (nI w0) hw0 ?_
            refine G.ist6 C dL_look_96 (by omega) rfl ?_
            refine G.iconst C 0 dL_look_98 (by decide) ?_
            refine G.ist7 C dL_look_99 (by omega) rfl ?_
            have L101 : ∀ (n q9 : Nat), q9 + n = 24 → ∀ (q : Nat), q < 24 → lLook v k = lRing (lFree v) n q → G p l e ({ frames := 2, cells := 0, slots := 0, locals := 44 } : Room) s m args below meth cd 8 0 0 (gA E) (gQI below args s (lLook v k) E (gU σ i v) π o) E (gU σ i v) π o 101 [some (.ref (E.2.1 i 0)), some (.ref (E.2.1 i 1)), some (.int (nI k)), some (.int (lFree v)), none, none, some (.int (nI q)), some (.int (nI q9))] [] := by
              intro n
              induction n with
              | zero =>
                intro q9 hk q hq0 hq1
                obtain rfl : 24 = q9 := by omega
                refine G.ild7 C dL_look_101 ?_
                refine G.bipush C 24 dL_look_103 (by decide) ?_
                refine G.icmp_ge C 144 dL_look_105 (by decide) (fun _ => ?_) (fun h => absurd (nI_le (a := 24) (b := 24) (by omega) (by decide)) h)
                refine G.iconst C (-1) dL_look_144 (by decide) ?_
                exact G.iret C hlk hrt dL_look_145 (by rw [hq1]; rfl) (by exact fun _ h => h)
              | succ n ih =>
                intro q9 hk q hq0 hq1
                have hk2 : q9 < 24 := by omega
                refine G.ild7 C dL_look_101 ?_
                refine G.bipush C 24 dL_look_103 (by decide) ?_
                refine G.icmp_ge C 144 dL_look_105 (by decide) (fun h => absurd h (nI_ge (b := 24) hk2 (by decide))) (fun _ => ?_)
                refine G.ildn3 C dL_look_108 ?_
                refine G.ild6 C dL_look_109 ?_
                refine G.ishr C dL_look_111 ?_
                refine G.iconst C 1 dL_look_112 (by decide) ?_
                refine G.iand C dL_look_113 ?_
                refine G.topI (bI (lBit (lFree v) q)) (lBit_sh (by omega)) ?_
                refine G.iconst C 1 dL_look_114 (by decide) ?_
                refine G.icmp_ne C 121 dL_look_115 (by decide) (fun h115 => ?_) (fun h115 => ?_)
                · refine G.ild6 C dL_look_121 ?_
                  refine G.bipush C 23 dL_look_123 (by decide) ?_
                  refine G.icmp_ne C 132 dL_look_125 (by decide) (fun h125 => ?_) (fun h125 => ?_)
                  · refine G.ild6 C dL_look_132 ?_
                    refine G.iconst C 1 dL_look_134 (by decide) ?_
                    refine G.iadd C dL_look_135 ?_
                    refine G.topI (nI (q + 1)) (nI_add _ _) ?_
                    refine G.ist6 C dL_look_136 (by omega) rfl ?_
                    refine G.iincN7 C dL_look_138 (by omega) rfl ?_
                    refine G.goto C 101 dL_look_141 (by decide) ?_
                    exact G.back (ih (q9 + 1) (by omega) (q + 1) (by have : ¬ q = 23 := fun w => h125 ((i23 hq0).mpr w); omega) (by rw [hq1, lRing, if_neg (fun w => h115 (bI_1.mpr w)), if_neg (fun w => h125 ((i23 hq0).mpr w))])) rfl ⟨(by first | rfl | simp), (by first | rfl | simp), (by first | rfl | simp), (by first | rfl | simp), (by first | rfl | simp), (by first | rfl | simp), trivial⟩
                  · refine G.iconst C 0 dL_look_128 (by decide) ?_
                    refine G.goto C 136 dL_look_129 (by decide) ?_
                    refine G.ist6 C dL_look_136 (by omega) rfl ?_
                    refine G.iincN7 C dL_look_138 (by omega) rfl ?_
                    refine G.goto C 101 dL_look_141 (by decide) ?_
                    exact G.back (ih (q9 + 1) (by omega) 0 (by omega) (by rw [hq1, lRing, if_neg (fun w => h115 (bI_1.mpr w)), if_pos ((i23 hq0).mp h125)])) rfl ⟨(by first | rfl | simp), (by first | rfl | simp), (by first | rfl | simp), (by first | rfl | simp), (by first | rfl | simp), (by first | rfl | simp), trivial⟩
                · refine G.ild6 C dL_look_118 ?_
                  exact G.iret C hlk hrt dL_look_120 (by rw [hq1, lRing, if_pos (bI_1.mp h115)]) (by exact fun _ h => h)
            exact G.back (L101 24 0 (Nat.zero_add _) w0 hw (by rw [hq0, lNear])) rfl ⟨(by first | rfl | simp), (by first | rfl | simp), (by first | rfl | simp), (by first | rfl | simp), (by first | rfl | simp), (by first | rfl | simp), trivial⟩
          | succ n ih =>
            intro h9 hk  hq0
            have hk2 : h9 < 24 := by omega
            refine G.ild6 C dL_look_49 ?_
            refine G.bipush C 24 dL_look_51 (by decide) ?_
            refine G.icmp_ge C 91 dL_look_53 (by decide) (fun h => absurd h (nI_ge (b := 24) hk2 (by decide))) (fun _ => ?_)
            refine G.ild6 C dL_look_56 ?_
            refine G.ild5 C dL_look_58 ?_
            refine G.isub C dL_look_60 ?_
            refine G.ist7 C dL_look_61 (by omega) rfl ?_
            refine G.ild7 C dL_look_63 ?_
            refine G.ild7 C dL_look_65 ?_
            refine G.imul C dL_look_67 ?_
            refine G.iconst C 1 dL_look_68 (by decide) ?_
            refine G.icmp_ne C 85 dL_look_69 (by decide) (fun h69 => ?_) (fun h69 => ?_)
            · refine G.iincN6 C dL_look_85 (by omega) rfl ?_
              refine G.goto C 49 dL_look_88 (by decide) ?_
              exact G.back (ih (h9 + 1) (by omega) (by rw [hq0, lNear, if_neg h69])) rfl ⟨(by first | rfl | simp), (by first | rfl | simp), (by first | rfl | simp), (by first | rfl | simp), (by first | rfl | simp), (by first | rfl | simp), trivial⟩
            · refine G.ildn3 C dL_look_72 ?_
              refine G.ild6 C dL_look_73 ?_
              refine G.ishr C dL_look_75 ?_
              refine G.iconst C 1 dL_look_76 (by decide) ?_
              refine G.iand C dL_look_77 ?_
              refine G.topI (bI (lBit (lFree v) h9)) (lBit_sh (by omega)) ?_
              refine G.iconst C 1 dL_look_78 (by decide) ?_
              refine G.icmp_ne C 85 dL_look_79 (by decide) (fun h79 => ?_) (fun h79 => ?_)
              · refine G.iincN6 C dL_look_85 (by omega) rfl ?_
                refine G.goto C 49 dL_look_88 (by decide) ?_
                exact G.back (ih (h9 + 1) (by omega) (by rw [hq0, lNear, if_pos h69, if_neg (fun w => h79 (bI_1.mpr w))])) rfl ⟨(by first | rfl | simp), (by first | rfl | simp), (by first | rfl | simp), (by first | rfl | simp), (by first | rfl | simp), (by first | rfl | simp), trivial⟩
              · refine G.ild6 C dL_look_82 ?_
                exact G.iret C hlk hrt dL_look_84 (by rw [hq0, lNear, if_pos h69, if_pos (bI_1.mp h79)]) (by exact fun _ h => h)
        exact G.back (L49 24 0 (Nat.zero_add _) (by rw [lLook, ← hp0, if_neg h36, if_neg h43, hx0])) rfl ⟨(by first | rfl | simp), (by first | rfl | simp), (by first | rfl | simp), (by first | rfl | simp), (by first | rfl | simp), (by first | rfl | simp), trivial⟩
  · refine G.iconst C (-1) dL_look_20 (by decide) ?_
    refine G.goto C 32 dL_look_21 (by decide) ?_
    refine G.ist5 C dL_look_32 (by omega) rfl ?_
    refine G.ild5 C dL_look_34 ?_
    refine G.if_lt C 91 dL_look_36 (by decide) (fun _ => ?_) (fun h => absurd (by decide) h)
    refine G.aldn1 C dL_look_91 ?_
    refine G.iconst C 4 dL_look_92 (by decide) ?_
    refine G.ildn2 C dL_look_93 ?_
    refine G.imul C dL_look_94 ?_
    refine G.topI (nI (4 * k)) (pk_mul _ _) ?_
    refine G.ialdU C (n := 64) (j := 1) (d0 := (4 * k)) (gN_l hl rfl) (hv _ (by omega)) (by first | assumption | exact vp_in_nI (by omega) (by omega) | (unfold vp_in; decide)) (ix_nI (by omega)) dL_look_95 ?_
    refine G.topI (nI w0) hw0 ?_
    refine G.ist6 C dL_look_96 (by omega) rfl ?_
    refine G.iconst C 0 dL_look_98 (by decide) ?_
    refine G.ist7 C dL_look_99 (by omega) rfl ?_
    have L101 : ∀ (n q9 : Nat), q9 + n = 24 → ∀ (q : Nat), q < 24 → lLook v k = lRing (lFree v) n q → G p l e ({ frames := 2, cells := 0, slots := 0, locals := 44 } : Room) s m args below meth cd 8 0 0 (gA E) (gQI below args s (lLook v k) E (gU σ i v) π o) E (gU σ i v) π o 101 [some (.ref (E.2.1 i 0)), some (.ref (E.2.1 i 1)), some (.int (nI k)), some (.int (lFree v)), none, none, some (.int (nI q)), some (.int (nI q9))] [] := by
      intro n
      induction n with
      | zero =>
        intro q9 hk q hq0 hq1
        obtain rfl : 24 = q9 := by omega
        refine G.ild7 C dL_look_101 ?_
        refine G.bipush C 24 dL_look_103 (by decide) ?_
        refine G.icmp_ge C 144 dL_look_105 (by decide) (fun _ => ?_) (fun h => absurd (nI_le (a := 24) (b := 24) (by omega) (by decide)) h)
        refine G.iconst C (-1) dL_look_144 (by decide) ?_
        exact G.iret C hlk hrt dL_look_145 (by rw [hq1]; rfl) (by exact fun _ h => h)
      | succ n ih =>
        intro q9 hk q hq0 hq1
        have hk2 : q9 < 24 := by omega
        refine G.ild7 C dL_look_101 ?_
        refine G.bipush C 24 dL_look_103 (by decide) ?_
        refine G.icmp_ge C 144 dL_look_105 (by decide) (fun h => absurd h (nI_ge (b := 24) hk2 (by decide))) (fun _ => ?_)
        refine G.ildn3 C dL_look_108 ?_
        refine G.ild6 C dL_look_109 ?_
        refine G.ishr C dL_look_111 ?_
        refine G.iconst C 1 dL_look_112 (by decide) ?_
        refine G.iand C dL_look_113 ?_
        refine G.topI (bI (lBit (lFree v) q)) (lBit_sh (by omega)) ?_
        refine G.iconst C 1 dL_look_114 (by decide) ?_
        refine G.icmp_ne C 121 dL_look_115 (by decide) (fun h115 => ?_) (fun h115 => ?_)
        · refine G.ild6 C dL_look_121 ?_
          refine G.bipush C 23 dL_look_123 (by decide) ?_
          refine G.icmp_ne C 132 dL_look_125 (by decide) (fun h125 => ?_) (fun h125 => ?_)
          · refine G.ild6 C dL_look_132 ?_
            refine G.iconst C 1 dL_look_134 (by decide) ?_
            refine G.iadd C dL_look_135 ?_
            refine G.topI (nI (q + 1)) (nI_add _ _) ?_
            refine G.ist6 C dL_look_136 (by omega) rfl ?_
            refine G.iincN7 C dL_look_138 (by omega) rfl ?_
            refine G.goto C 101 dL_look_141 (by decide) ?_
            exact G.back (ih (q9 + 1) (by omega) (q + 1) (by have : ¬ q = 23 := fun w => h125 ((i23 hq0).mpr w); omega) (by rw [hq1, lRing, if_neg (fun w => h115 (bI_1.mpr w)), if_neg (fun w => h125 ((i23 hq0).mpr w))])) rfl ⟨(by first | rfl | simp), (by first | rfl | simp), (by first | rfl | simp), (by first | rfl | simp), (by first | rfl | simp), (by first | rfl | simp), trivial⟩
          · refine G.iconst C 0 dL_look_128 (by decide) ?_
            refine G.goto C 136 dL_look_129 (by decide) ?_
            refine G.ist6 C dL_look_136 (by omega) rfl ?_
            refine G.iincN7 C dL_look_138 (by omega) rfl ?_
            refine G.goto C 101 dL_look_141 (by decide) ?_
            exact G.back (ih (q9 + 1) (by omega) 0 (by omega) (by rw [hq1, lRing, if_neg (fun w => h115 (bI_1.mpr w)), if_pos ((i23 hq0).mp h125)])) rfl ⟨(by first | rfl | simp), (by first | rfl | simp), (by first | rfl | simp), (by first | rfl | simp), (by first | rfl | simp), (by first | rfl | simp), trivial⟩
        · refine G.ild6 C dL_look_118 ?_
          exact G.iret C hlk hrt dL_look_120 (by rw [hq1, lRing, if_pos (bI_1.mp h115)]) (by exact fun _ h => h)
    exact G.back (L101 24 0 (Nat.zero_add _) w0 hw (by rw [lLook, lPl, if_neg h17, if_pos (by decide), hx0])) rfl ⟨(by first | rfl | simp), (by first | rfl | simp), (by first | rfl | simp), (by first | rfl | simp), (by first | rfl | simp), (by first | rfl | simp), trivial⟩
set_option maxRecDepth 100000 in
set_option maxHeartbeats 4000000 in
theorem k_L_sit (l : Launch) {E : gEn} {σ : gSt} {π : Nat → Nat} {o : Int64} {i : Nat} (hl : 10 ≤ i) (hv : ∀ j, j < 4 → gV E i j) {v : cSt} {k s0 : Nat} {x : Int32} (hk : k < 16) (hs : v 0 12 = nI s0) (hs0 : s0 < 26) : CtV l yL_sit wsL_sit ({ frames := 0, cells := 0, slots := 0, locals := 0 } : Room) E [.ref (E.2.1 i 0), .ref (E.2.1 i 1), .ref (E.2.1 i 3), .int (nI k), .int x] (gU σ i v) π o  (gU σ i (lSit v k x s0)) π o := by
  refine CtV.of (cc := cL_sit) (own := RL) (maxL := 5) (ret := none) [some (.ref (E.2.1 i 0)), some (.ref (E.2.1 i 1)), some (.ref (E.2.1 i 3)), some (.int (nI k)), some (.int x)] (by decide) rfl rfl (Nat.le_of_ble_eq_true rfl) rfl ?_
  intro p e s m args below meth cd C hrt hlk
  refine G.aldn1 C dL_sit_0 ?_
  refine G.iconst C 4 dL_sit_1 (by decide) ?_
  refine G.ildn3 C dL_sit_2 ?_
  refine G.imul C dL_sit_3 ?_
  refine G.topI (nI (4 * k)) (pk_mul _ _) ?_
  refine G.iconst C 2 dL_sit_4 (by decide) ?_
  refine G.iadd C dL_sit_5 ?_
  refine G.topI (nI ((4 * k) + 2)) (nI_add _ _) ?_
  refine G.ild4 C dL_sit_6 ?_
  refine G.iastU C (n := 64) (j := 1) (d0 := ((4 * k) + 2)) (gN_l hl rfl) (hv _ (by omega)) (by first | assumption | exact vp_in_nI (by omega) (by omega) | (unfold vp_in; decide)) (ix_nI (by omega)) dL_sit_8 ?_
  refine G.aldn2 C dL_sit_9 ?_
  refine G.aldn0 C dL_sit_10 ?_
  refine G.bipush C 12 dL_sit_11 (by decide) ?_
  refine G.ialdU C (n := 13) (j := 0) (d0 := 12) (gN_l hl rfl) (hv _ (by omega)) (by unfold vp_in; decide) (by decide) dL_sit_13 ?_
  refine G.topI (nI s0) hs ?_
  refine G.bipush C 32 dL_sit_14 (by decide) ?_
  refine G.ildn3 C dL_sit_16 ?_
  refine G.imul C dL_sit_17 ?_
  refine G.topI (nI (32 * k)) (pk_mul _ _) ?_
  refine G.ild4 C dL_sit_18 ?_
  refine G.iadd C dL_sit_20 ?_
  refine G.topI ((nI (32 * k) + x)) rfl ?_
  refine G.iastU C (n := 26) (j := 3) (d0 := s0) (gN_l hl rfl) (hv _ (by omega)) (by first | assumption | exact vp_in_nI (by omega) (by omega) | (unfold vp_in; decide)) (ix_nI (by omega)) dL_sit_21 ?_
  refine G.aldn0 C dL_sit_22 ?_
  refine G.bipush C 12 dL_sit_23 (by decide) ?_
  refine G.dup2 C dL_sit_25 rfl rfl ?_
  refine G.ialdU C (n := 13) (j := 0) (d0 := 12) (gN_l hl rfl) (hv _ (by omega)) (by unfold vp_in; decide) (by decide) dL_sit_26 ?_
  refine G.topI (nI s0) (by first | exact hs | (simp [cW]; exact hs)) ?_
  refine G.iconst C 1 dL_sit_27 (by decide) ?_
  refine G.iadd C dL_sit_28 ?_
  refine G.topI (nI (s0 + 1)) (nI_add _ _) ?_
  refine G.iastU C (n := 13) (j := 0) (d0 := 12) (gN_l hl rfl) (hv _ (by omega)) (by unfold vp_in; decide) (by decide) dL_sit_29 ?_
  exact G.vret C hlk hrt dL_sit_30 (by intro H h; exact h)
set_option maxRecDepth 100000 in
set_option maxHeartbeats 4000000 in
theorem k_L_shift (l : Launch) {E : gEn} {σ : gSt} {π : Nat → Nat} {o : Int64} {i : Nat} (hl : 10 ≤ i) (hv : ∀ j, j < 4 → gV E i j) {v : cSt} {k j0 : Nat} (hk : k < 16) (hj : j0 < 16) : CtV l yL_shift wsL_shift ({ frames := 0, cells := 0, slots := 0, locals := 0 } : Room) E [.ref (E.2.1 i 0), .ref (E.2.1 i 1), .ref (E.2.1 i 2), .int (nI k), .int (nI j0)] (gU σ i v) π o  (gU σ i (lShift v k j0)) π o := by
  refine CtV.of (cc := cL_shift) (own := RL) (maxL := 5) (ret := none) [some (.ref (E.2.1 i 0)), some (.ref (E.2.1 i 1)), some (.ref (E.2.1 i 2)), some (.int (nI k)), some (.int (nI j0))] (by decide) rfl rfl (Nat.le_of_ble_eq_true rfl) rfl ?_
  intro p e s m args below meth cd C hrt hlk
  refine G.aldn1 C dL_shift_0 ?_
  refine G.iconst C 4 dL_shift_1 (by decide) ?_
  refine G.ild4 C dL_shift_2 ?_
  refine G.imul C dL_shift_4 ?_
  refine G.topI (nI (4 * j0)) (pk_mul _ _) ?_
  refine G.iconst C 2 dL_shift_5 (by decide) ?_
  refine G.iadd C dL_shift_6 ?_
  refine G.topI (nI ((4 * j0) + 2)) (nI_add _ _) ?_
  refine G.iconst C (-1) dL_shift_7 (by decide) ?_
  refine G.iastU C (n := 64) (j := 1) (d0 := ((4 * j0) + 2)) (gN_l hl rfl) (hv _ (by omega)) (by first | assumption | exact vp_in_nI (by omega) (by omega) | (unfold vp_in; decide)) (ix_nI (by omega)) dL_shift_8 ?_
  refine G.aldn2 C dL_shift_9 ?_
  refine G.iconst C 4 dL_shift_10 (by decide) ?_
  refine G.ild4 C dL_shift_11 ?_
  refine G.imul C dL_shift_13 ?_
  refine G.topI (nI (4 * j0)) (pk_mul _ _) ?_
  refine G.iconst C 1 dL_shift_14 (by decide) ?_
  refine G.iadd C dL_shift_15 ?_
  refine G.topI (nI ((4 * j0) + 1)) (nI_add _ _) ?_
  refine G.dup2 C dL_shift_16 rfl rfl ?_
  refine G.ialdU C (n := 64) (j := 2) (d0 := ((4 * j0) + 1)) (gN_l hl rfl) (hv _ (by omega)) (by first | assumption | exact vp_in_nI (by omega) (by omega) | (unfold vp_in; decide)) (ix_nI (by omega)) dL_shift_17 ?_
  refine G.iconst C 1 dL_shift_18 (by decide) ?_
  refine G.iadd C dL_shift_19 ?_
  refine G.iastU C (n := 64) (j := 2) (d0 := ((4 * j0) + 1)) (gN_l hl rfl) (hv _ (by omega)) (by first | assumption | exact vp_in_nI (by omega) (by omega) | (unfold vp_in; decide)) (ix_nI (by omega)) dL_shift_20 ?_
  refine G.aldn0 C dL_shift_21 ?_
  refine G.bipush C 6 dL_shift_22 (by decide) ?_
  refine G.dup2 C dL_shift_24 rfl rfl ?_
  refine G.ialdU C (n := 13) (j := 0) (d0 := 6) (gN_l hl rfl) (hv _ (by omega)) (by unfold vp_in; decide) (by decide) dL_shift_25 ?_
  refine G.iconst C 1 dL_shift_26 (by decide) ?_
  refine G.iadd C dL_shift_27 ?_
  refine G.iastU C (n := 13) (j := 0) (d0 := 6) (gN_l hl rfl) (hv _ (by omega)) (by unfold vp_in; decide) (by decide) dL_shift_28 ?_
  refine G.aldn0 C dL_shift_29 ?_
  refine G.bipush C 7 dL_shift_30 (by decide) ?_
  refine G.dup2 C dL_shift_32 rfl rfl ?_
  refine G.ialdU C (n := 13) (j := 0) (d0 := 7) (gN_l hl rfl) (hv _ (by omega)) (by unfold vp_in; decide) (by decide) dL_shift_33 ?_
  refine G.aldn1 C dL_shift_34 ?_
  refine G.iconst C 4 dL_shift_35 (by decide) ?_
  refine G.ildn3 C dL_shift_36 ?_
  refine G.imul C dL_shift_37 ?_
  refine G.topI (nI (4 * k)) (pk_mul _ _) ?_
  refine G.iconst C 3 dL_shift_38 (by decide) ?_
  refine G.iadd C dL_shift_39 ?_
  refine G.topI (nI ((4 * k) + 3)) (nI_add _ _) ?_
  refine G.ialdU C (n := 64) (j := 1) (d0 := ((4 * k) + 3)) (gN_l hl rfl) (hv _ (by omega)) (by first | assumption | exact vp_in_nI (by omega) (by omega) | (unfold vp_in; decide)) (ix_nI (by omega)) dL_shift_40 ?_
  refine G.topI (cW v 1 (4 * j0 + 2) (-1) 1 (4 * k + 3)) rfl ?_
  refine G.ild4 C dL_shift_41 ?_
  refine G.icmp_ne C 50 dL_shift_43 (by decide) (fun h43 => ?_) (fun h43 => ?_)
  · refine G.iconst C 1 dL_shift_50 (by decide) ?_
    refine G.iadd C dL_shift_51 ?_
    refine G.iastU C (n := 13) (j := 0) (d0 := 7) (gN_l hl rfl) (hv _ (by omega)) (by unfold vp_in; decide) (by decide) dL_shift_52 ?_
    exact G.vret C hlk hrt dL_shift_53 (by intro H h; rw [lShift, if_neg h43]; exact h)
  · refine G.iconst C 0 dL_shift_46 (by decide) ?_
    refine G.goto C 51 dL_shift_47 (by decide) ?_
    refine G.iadd C dL_shift_51 ?_
    refine G.iastU C (n := 13) (j := 0) (d0 := 7) (gN_l hl rfl) (hv _ (by omega)) (by unfold vp_in; decide) (by decide) dL_shift_52 ?_
    exact G.vret C hlk hrt dL_shift_53 (by intro H h; rw [lShift, if_pos h43]; exact h)
set_option maxRecDepth 100000 in
set_option maxHeartbeats 4000000 in
theorem k_L_many (l : Launch) {E : gEn} {σ : gSt} {π : Nat → Nat} {o : Int64} {i : Nat} (hl : 10 ≤ i) (hv : ∀ j, j < 4 → gV E i j) {v : cSt} {x y : Int32} : CtI l yL_many wsL_many ({ frames := 1, cells := 0, slots := 0, locals := 21 } : Room) E [.ref (E.2.1 i 0), .ref (E.2.1 i 1), .int x, .int y] (gU σ i v) π o (lMany v x y) (gU σ i v) π o := by
  refine CtI.of (cc := cL_many) (own := RL) (maxL := 6) (ret := (some .int)) [some (.ref (E.2.1 i 0)), some (.ref (E.2.1 i 1)), some (.int x), some (.int y), none, none] (by decide) rfl rfl (Nat.le_of_ble_eq_true rfl) rfl ?_
  intro p e s m args below meth cd C hrt hlk
  refine G.iconst C 0 dL_many_0 (by decide) ?_
  refine G.ist4 C dL_many_1 (by omega) rfl ?_
  refine G.iconst C 0 dL_many_3 (by decide) ?_
  refine G.ist5 C dL_many_4 (by omega) rfl ?_
  have L6 : ∀ (n k : Nat), k + n = 16 → G p l e ({ frames := 1, cells := 0, slots := 0, locals := 21 } : Room) s m args below meth cd 6 0 0 (gA E) (gQI below args s (lMany v x y) E (gU σ i v) π o) E (gU σ i v) π o 6 [some (.ref (E.2.1 i 0)), some (.ref (E.2.1 i 1)), some (.int x), some (.int y), some (.int (nI (cnt (fun k => lIs v k && (decide (¬ v 1 (4 * k + 2) < x) && decide (¬ y < v 1 (4 * k + 2)))) k))), some (.int (nI k))] [] := by
    intro n
    induction n with
    | zero =>
      intro k hk
      obtain rfl : 16 = k := by omega
      refine G.ild5 C dL_many_6 ?_
      refine G.bipush C 16 dL_many_8 (by decide) ?_
      refine G.icmp_ge C 62 dL_many_10 (by decide) (fun _ => ?_) (fun h => absurd (nI_le (a := 16) (b := 16) (by omega) (by decide)) h)
      refine G.ild4 C dL_many_62 ?_
      exact G.iret C hlk hrt dL_many_64 (by rfl) (by exact fun _ h => h)
    | succ n ih =>
      intro k hk
      have hk2 : k < 16 := by omega
      refine G.ild5 C dL_many_6 ?_
      refine G.bipush C 16 dL_many_8 (by decide) ?_
      refine G.icmp_ge C 62 dL_many_10 (by decide) (fun h => absurd h (nI_ge (b := 16) hk2 (by decide))) (fun _ => ?_)
      refine G.ild4 C dL_many_13 ?_
      refine G.aldn0 C dL_many_15 ?_
      refine G.ild5 C dL_many_16 ?_
      refine G.callSI2 C (k_L_is l hl hv (by omega)) (va_cwS 2 C.1.2.2.2.2 gL_many_L_is rfl rfl rfl (by decide +kernel) ⟨Nat.le_of_ble_eq_true rfl, Nat.le_of_ble_eq_true rfl⟩) (Nat.le_of_ble_eq_true rfl) dL_many_18 ?_
      refine G.if_eqB C 52 dL_many_21 (by decide) (fun h21 => ?_) (fun h21 => ?_)
      · refine G.iconst C 0 dL_many_52 (by decide) ?_
        refine G.iadd C dL_many_53 ?_
        refine G.topI (nI ((cnt (fun k => lIs v k && (decide (¬ v 1 (4 * k + 2) < x) && decide (¬ y < v 1 (4 * k + 2)))) k) + 0)) (nI_add _ _) ?_
        refine G.ist4 C dL_many_54 (by omega) rfl ?_
        refine G.iincN5 C dL_many_56 (by omega) rfl ?_
        refine G.goto C 6 dL_many_59 (by decide) ?_
        exact G.back (ih (k + 1) (by omega) ) rfl ⟨(by first | rfl | simp [cnt, *]), (by first | rfl | simp [cnt, *]), (by first | rfl | simp [cnt, *]), (by first | rfl | simp [cnt, *]), (by first | rfl | simp [cnt, *]), (by first | rfl | simp [cnt, *]), trivial⟩
      · refine G.aldn1 C dL_many_24 ?_
        refine G.iconst C 4 dL_many_25 (by decide) ?_
        refine G.ild5 C dL_many_26 ?_
        refine G.imul C dL_many_28 ?_
        refine G.topI (nI (4 * k)) (pk_mul _ _) ?_
        refine G.iconst C 2 dL_many_29 (by decide) ?_
        refine G.iadd C dL_many_30 ?_
        refine G.topI (nI ((4 * k) + 2)) (nI_add _ _) ?_
        refine G.ialdU C (n := 64) (j := 1) (d0 := ((4 * k) + 2)) (gN_l hl rfl) (hv _ (by omega)) (by first | assumption | exact vp_in_nI (by omega) (by omega) | (unfold vp_in; decide)) (ix_nI (by omega)) dL_many_31 ?_
        refine G.ildn2 C dL_many_32 ?_
        refine G.icmp_lt C 52 dL_many_33 (by decide) (fun h33 => ?_) (fun h33 => ?_)
        · refine G.iconst C 0 dL_many_52 (by decide) ?_
          refine G.iadd C dL_many_53 ?_
          refine G.topI (nI ((cnt (fun k => lIs v k && (decide (¬ v 1 (4 * k + 2) < x) && decide (¬ y < v 1 (4 * k + 2)))) k) + 0)) (nI_add _ _) ?_
          refine G.ist4 C dL_many_54 (by omega) rfl ?_
          refine G.iincN5 C dL_many_56 (by omega) rfl ?_
          refine G.goto C 6 dL_many_59 (by decide) ?_
          exact G.back (ih (k + 1) (by omega) ) rfl ⟨(by first | rfl | simp [cnt, *]), (by first | rfl | simp [cnt, *]), (by first | rfl | simp [cnt, *]), (by first | rfl | simp [cnt, *]), (by first | rfl | simp [cnt, *]), (by first | rfl | simp [cnt, *]), trivial⟩
        · refine G.aldn1 C dL_many_36 ?_
          refine G.iconst C 4 dL_many_37 (by decide) ?_
          refine G.ild5 C dL_many_38 ?_
          refine G.imul C dL_many_40 ?_
          refine G.topI (nI (4 * k)) (pk_mul _ _) ?_
          refine G.iconst C 2 dL_many_41 (by decide) ?_
          refine G.iadd C dL_many_42 ?_
          refine G.topI (nI ((4 * k) + 2)) (nI_add _ _) ?_
          refine G.ialdU C (n := 64) (j := 1) (d0 := ((4 * k) + 2)) (gN_l hl rfl) (hv _ (by omega)) (by first | assumption | exact vp_in_nI (by omega) (by omega) | (unfold vp_in; decide)) (ix_nI (by omega)) dL_many_43 ?_
          refine G.ildn3 C dL_many_44 ?_
          refine G.icmp_gt C 52 dL_many_45 (by decide) (fun h45 => ?_) (fun h45 => ?_)
          · refine G.iconst C 0 dL_many_52 (by decide) ?_
            refine G.iadd C dL_many_53 ?_
            refine G.topI (nI ((cnt (fun k => lIs v k && (decide (¬ v 1 (4 * k + 2) < x) && decide (¬ y < v 1 (4 * k + 2)))) k) + 0)) (nI_add _ _) ?_
            refine G.ist4 C dL_many_54 (by omega) rfl ?_
            refine G.iincN5 C dL_many_56 (by omega) rfl ?_
            refine G.goto C 6 dL_many_59 (by decide) ?_
            exact G.back (ih (k + 1) (by omega) ) rfl ⟨(by first | rfl | simp [cnt, *]), (by first | rfl | simp [cnt, *]), (by first | rfl | simp [cnt, *]), (by first | rfl | simp [cnt, *]), (by first | rfl | simp [cnt, *]), (by first | rfl | simp [cnt, *]), trivial⟩
          · refine G.iconst C 1 dL_many_48 (by decide) ?_
            refine G.goto C 53 dL_many_49 (by decide) ?_
            refine G.iadd C dL_many_53 ?_
            refine G.topI (nI ((cnt (fun k => lIs v k && (decide (¬ v 1 (4 * k + 2) < x) && decide (¬ y < v 1 (4 * k + 2)))) k) + 1)) (nI_add _ _) ?_
            refine G.ist4 C dL_many_54 (by omega) rfl ?_
            refine G.iincN5 C dL_many_56 (by omega) rfl ?_
            refine G.goto C 6 dL_many_59 (by decide) ?_
            exact G.back (ih (k + 1) (by omega) ) rfl ⟨(by first | rfl | simp [cnt, *]), (by first | rfl | simp [cnt, *]), (by first | rfl | simp [cnt, *]), (by first | rfl | simp [cnt, *]), (by first | rfl | simp [cnt, *]), (by first | rfl | simp [cnt, *]), trivial⟩
  exact G.back (L6 16 0 (Nat.zero_add _) ) rfl ⟨(by first | rfl | simp [cnt]), (by first | rfl | simp [cnt]), (by first | rfl | simp [cnt]), (by first | rfl | simp [cnt]), (by first | rfl | simp [cnt]), (by first | rfl | simp [cnt]), trivial⟩
