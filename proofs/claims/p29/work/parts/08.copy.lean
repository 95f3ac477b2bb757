/-! copying, and the rest of the cote -/
def cCp (c : cSt) (f : Nat → Int32) (j : Nat) : cSt := fun j' => if j' = j then f else c j'
theorem cCp_at (c : cSt) (f : Nat → Int32) (j : Nat) : cCp c f j j = f := if_pos rfl
theorem cCp_ne {c : cSt} {f : Nat → Int32} {j j' : Nat} (h : j' ≠ j) : cCp c f j j' = c j' := if_neg h
theorem gC_cCp {E : gEn} {σ : gSt} {π : Nat → Nat} {o : Int64} {i j i' j' : Nat} {f : Nat → Int32} (hi : i < 9) (h0 : j ≠ 0) (h17 : j ≠ 17) (hne : ¬(i' = i ∧ j' = j)) : gC E (gU σ i (cCp (σ i) f j)) π o i' j' = gC E σ π o i' j' := by
  by_cases h : i' = i
  · subst h
    have hj : j' ≠ j := fun q => hne ⟨rfl, q⟩
    unfold gC
    rw [gU_at, if_pos hi, if_pos hi, cCp_ne hj]
    have e0 : cCp (σ i') f j 0 = σ i' 0 := cCp_ne (Ne.symm h0)
    have e17 : cCp (σ i') f j 17 = σ i' 17 := cCp_ne (Ne.symm h17)
    simp only [gFc, gFw, e0, e17]
  · unfold gC
    rw [gU_ne h]
section GL3
variable {p : Program} {l : Launch} {e : Env} {R : Room} {s : State} {m : MethodId} {args : Array Value} {below : List Frame} {meth : Method} {c : Code} {Q : State → Prop} {cc : ByteArray} {own : String} {Ts : List Cond} {nL cl sl : Nat} {E : gEn} {A : Nat → Prop} {σ σ' : gSt} {π π' : Nat → Nat} {o o' : Int64}
theorem G.acopyU (C : gCx p s m c cc nL own Ts args E A R cl sl) {pc : Nat} {lv : List (Option Value)} {st : List Value} {i i2 j n index : Nat} {y : Int32} {d : cSt} (hi : i < 9) (hii : i2 ≠ i) (hn : gN i j = some n) (hn2 : gN i2 j = some n) (hv : gV E i j) (hv2 : gV E i2 j) (hy : y.toNatClampNeg = n ∧ ¬ y < 0 ∧ j ≠ 0 ∧ j ≠ 17)
    (hlink : (Cond.methodLink own index arraycopyName).before args s = true) (hnat : (Cond.native arraycopyName).before args s = true) (hstat : (Cond.static arraycopyName).before args s = true) (hini : (Cond.initialized "java/lang/System").before args s = true) (hframes : 1 ≤ R.frames) (hlocals : (st.map fun v => v.category).sum + (nativeFrameWords "java/lang/System" "arraycopy" 5 + 11) ≤ R.locals)
    (hd : decode cc pc = .ok (.invokestatic index, 3)) (k : G p l e R s m args below meth c nL cl sl A Q E (gU σ i (cCp d (σ i2 j) j)) π o (pc + 3) lv st) : G p l e R s m args below meth c nL cl sl A Q E (gU σ i d) π o pc lv (.int y :: .int 0 :: .ref (E.2.1 i j) :: .int 0 :: .ref (E.2.1 i2 j) :: st) := by
  intro H locs ls hW hS hl T hT X
  obtain ⟨hyn, hy0, hj0, hj17⟩ := hy
  have hc0 : H[E.2.1 i2 j]? = some (vp_cell E.2.2.1 (n, .inl (σ i2 j))) := by
    have := hW i2 j hv2
    rw [gC_arr hn2 hv2, gU_ne hii] at this
    exact this
  have hc1 : H[E.2.1 i j]? = some (vp_cell E.2.2.1 (n, .inl (d j))) := by
    have := hW i j hv
    rw [gC_arr hn hv, gU_at] at this
    exact this
  have z0 : (0 : Int32).toNatClampNeg = 0 := by decide
  have hyI : y.toInt = (n : Int) := by
    have h1 := Int32.not_lt.mp hy0
    have h2 := Int32.le_iff_toInt_le.mp h1
    have h3 : (0 : Int32).toInt = 0 := by decide
    have h4 : y.toNatClampNeg = y.toInt.toNat := rfl
    omega
  obtain ⟨-, k0, hk0, cm0, hkk0⟩ := (C.2.1.1.2 0 (E.2.2.1, .int) rfl).1 n (fun q => .int (σ i2 j q))
  obtain ⟨vm', X', step⟩ := X.arraycopy C.1.1 C.1.2.2.2.1 hlink hnat hstat hini (src := E.2.1 i2 j) (dst := E.2.1 i j) (cs := vp_cell E.2.2.1 (n, .inl (σ i2 j))) (cd := vp_cell E.2.2.1 (n, .inl (d j))) (srcPos := 0) (destPos := 0) (n := y) (by rw [hT]; exact hc0) (by rw [hT]; exact hc1)
    (fun _ h => by cases h) (fun _ h => by cases h) (fun h => by cases h) (fun h => by cases h) hk0 hk0 hkk0 hkk0 (by simp [refKind]) (by decide) (by decide) hy0
    (by show ¬ _ > ((arrV _ n (fun q => .int (σ i2 j q))).slots.size : Int); rw [arrV_size, hyI]; have : (0 : Int32).toInt = 0 := by decide
        omega)
    (by show ¬ _ > ((arrV _ n (fun q => .int (d j q))).slots.size : Int); rw [arrV_size, hyI]; have : (0 : Int32).toInt = 0 := by decide
        omega)
    (fun vm₁ _ q hq => by
      have e : (vp_cell E.2.2.1 (n, .inl (σ i2 j))).slots.getD ((0 : Int32).toNatClampNeg + q) .null = .int (σ i2 j ((0 : Int32).toNatClampNeg + q)) := by
        show (arrV _ n (fun q => .int (σ i2 j q))).slots.getD _ _ = _
        rw [Array.getD_eq_getD_getElem?, arrV_read _ _ (by omega)]
        rfl
      refine ⟨?_, ?_⟩
      · rw [e]; rfl
      · rw [e]; exact trivial)
    (g := F0 m pc ls (.int y :: .int 0 :: .ref (E.2.1 i j) :: .int 0 :: .ref (E.2.1 i2 j) :: st)) rfl (by rw [C.1.2.2.1]; exact hl.1) (rest := st) rfl (by rw [C.1.2.1]; exact hd) hframes (by show 2 * 0 + _ + _ ≤ _; omega)
  have e1 : copied (vp_cell E.2.2.1 (n, .inl (σ i2 j))) (vp_cell E.2.2.1 (n, .inl (d j))) 0 0 y = vp_cell E.2.2.1 (n, .inl (va_cpy (σ i2 j) (d j) (0 : Int32).toNatClampNeg (0 : Int32).toNatClampNeg y.toNatClampNeg)) := va_copied (fun z => .int z) E.2.2.1 E.2.2.1 (σ i2 j) (d j) (by rw [z0, hyn]; omega)
  rw [e1, z0, hyn] at X' step
  have hl2 : E.2.1 i j < H.size := (Array.getElem?_eq_some_iff.mp hc1).1
  have hheap : ((T.setVm vm').setCell (E.2.1 i j) (vp_cell E.2.2.1 (n, .inl (va_cpy (σ i2 j) (d j) 0 0 n)))).heap = H.setIfInBounds (E.2.1 i j) (vp_cell E.2.2.1 (n, .inl (va_cpy (σ i2 j) (d j) 0 0 n))) := by rw [← hT]; rfl
  have oq : ∀ q : Nat, q ≠ E.2.1 i j → (H.setIfInBounds (E.2.1 i j) (vp_cell E.2.2.1 (n, .inl (va_cpy (σ i2 j) (d j) 0 0 n))))[q]? = H[q]? := fun q hq => by simp [Array.getElem?_setIfInBounds, Ne.symm hq]
  have hW' : CW E (gU σ i (cCp d (σ i2 j) j)) π o (H.setIfInBounds (E.2.1 i j) (vp_cell E.2.2.1 (n, .inl (va_cpy (σ i2 j) (d j) 0 0 n)))) := by
    have h := hW.fill C.2.1.2.2 hv hn (f := va_cpy (σ i2 j) (d j) 0 0 n) (g := σ i2 j) (by simp [Array.getElem?_setIfInBounds, hl2]) (fun q hq => by unfold va_cpy; rw [if_pos (by omega)]; congr 1; omega) oq (fun i' j' _ hne => by
      have := gC_cCp (E := E) (σ := gU σ i d) (π := π) (o := o) (f := σ i2 j) hi hj0 hj17 hne
      exact this)
    rw [gU_at, gU_gU] at h
    exact h
  obtain ⟨t, a1, b1⟩ := k _ _ ls hW' ⟨by simp; exact hS.1, fun q g1 g2 => by
      rw [oq q (fun e => g2 (by rw [e]; exact C.2.2.1 _ ⟨i, j, hv, rfl⟩))]
      exact hS.2.1 q g1 g2, fun q hq => by
      rcases List.mem_append.mp hq with h | h
      · exact hS.2.2 q h
      · obtain ⟨z, -, hz⟩ := List.mem_map.mp h
        rw [← hz]
        exact C.2.2.1 _ ⟨i, j, hv, rfl⟩⟩ hl _ hheap X'
  exact ⟨t, step t a1, b1⟩
end GL3
theorem gN_row {i k : Nat} (hi : i < 9) (hk : k < 8) : gN i (2 + k) = some 16 := gN_c hi (by rw [if_neg (by omega)]; simp only [gLc]; rw [if_pos (by omega)])
theorem gN_rowH {i k : Nat} (hi : i < 9) (hk : k < 3) : gN i (11 + k) = some 24 := gN_c hi (by rw [if_neg (by omega)]; simp only [gLc]; rw [if_neg (by omega), if_pos (by omega)])
def cCpR (c d : cSt) (b : Nat) : Nat → cSt
  | 0 => c
  | k + 1 => cCp (cCpR c d b k) (d (b + k)) (b + k)
theorem cCpR_in {c d : cSt} {b : Nat} : ∀ {n j : Nat}, b ≤ j → j < b + n → cCpR c d b n j = d j
  | 0, j, h1, h2 => absurd h2 (by omega)
  | n + 1, j, h1, h2 => by
    by_cases e : j = b + n
    · subst e; exact cCp_at _ _ _
    · rw [cCpR, cCp_ne e]; exact cCpR_in h1 (by omega)
theorem cCpR_out {c d : cSt} {b : Nat} : ∀ {n j : Nat}, (j < b ∨ b + n ≤ j) → cCpR c d b n j = c j
  | 0, j, h => rfl
  | n + 1, j, h => by rw [cCpR, cCp_ne (by omega)]; exact cCpR_out (by omega)
/-- all that a cote holds is another one's -/
def cEqv (c d : cSt) : Prop := (∀ j, j < 20 → j ≠ 0 → j ≠ 1 → j ≠ 10 → j ≠ 17 → c j = d j) ∧ c 0 6 = d 0 6 ∧ c 0 7 = d 0 7 ∧ c 0 8 = d 0 8 ∧ c 0 9 = d 0 9 ∧ c 17 2 = d 17 2
theorem CW.eqv {E : gEn} {σ : gSt} {π : Nat → Nat} {o : Int64} {H : Heap} {i : Nat} {c d : cSt} (hi : i < 9) (he : cEqv c d) (h : CW E (gU σ i c) π o H) : CW E (gU σ i d) π o H := by
  obtain ⟨h1, h6, h7, h8, h9, h17⟩ := he
  intro i' j' hv
  have hh := h i' j' hv
  have e : gC E (gU σ i d) π o i' j' = gC E (gU σ i c) π o i' j' := by
    by_cases hne : i' = i
    · subst hne
      have hj : j' < 20 := by unfold gV at hv; omega
      unfold gC
      rw [gU_at, gU_at, if_pos hi, if_pos hi]
      by_cases q0 : j' = 0
      · subst q0; simp [gFc, h6, h7, h8, h9]
      · by_cases q1 : j' = 1
        · subst q1; rfl
        · by_cases q10 : j' = 10
          · subst q10; rfl
          · by_cases q17 : j' = 17
            · subst q17; simp [gFw, h17]
            · rw [h1 j' hj q0 q1 q10 q17]
              simp only [q0, q1, q10, q17, if_false]
    · unfold gC
      rw [gU_ne hne, gU_ne hne]
  rw [e]; exact hh
theorem cCopied {c d : cSt} : cEqv (cW (cW (cW (cW (cW (cCp (cCp (cCp (cCp (cCp (cCpR (cCpR c d 2 8) d 11 3) (d 14) 14) (d 15) 15) (d 16) 16) (d 18) 18) (d 19) 19) 17 2 (d 17 2)) 0 6 (d 0 6)) 0 7 (d 0 7)) 0 8 (d 0 8)) 0 9 (d 0 9)) d := by
  refine ⟨fun j h1 h2 h3 h4 h5 => ?_, by simp [cW], by simp [cW], by simp [cW], by simp [cW], by simp [cW]⟩
  have e1 : ∀ (q : cSt) (k : Nat) (v : Int32), cW q 0 k v j = q j := fun q k v => funext fun d => by simp [cW, h2]
  have e2 : ∀ (q : cSt) (k : Nat) (v : Int32), cW q 17 k v j = q j := fun q k v => funext fun d => by simp [cW, h5]
  rw [e1, e1, e1, e1, e2]
  by_cases q19 : j = 19
  · subst q19; exact cCp_at _ _ _
  · rw [cCp_ne q19]
    by_cases q18 : j = 18
    · subst q18; exact cCp_at _ _ _
    · rw [cCp_ne q18]
      by_cases q16 : j = 16
      · subst q16; exact cCp_at _ _ _
      · rw [cCp_ne q16]
        by_cases q15 : j = 15
        · subst q15; exact cCp_at _ _ _
        · rw [cCp_ne q15]
          by_cases q14 : j = 14
          · subst q14; exact cCp_at _ _ _
          · rw [cCp_ne q14]
            rcases Nat.lt_or_ge j 10 with q | q
            · rw [cCpR_out (by omega), cCpR_in (by omega) (by omega)]
            · rw [cCpR_in (by omega) (by omega)]
def cFirstF (c : cSt) : Nat → Nat → Option Nat
  | 0, _ => none
  | n + 1, k => if cEx c (nI k) = true then cFirstF c n (k + 1) else some k
def cAddK (c : cSt) (x y : Int32) (k : Nat) : cSt := cW (cW (cW c 2 k x) 3 k y) 12 (ix x) (nI k)
def cAdd (c : cSt) (x y : Int32) : Int32 × cSt := match cFirstF c 16 0 with
  | none => (-1, c)
  | some k => (nI k, cAddK c x y k)
theorem cAdd_k {c : cSt} {x y : Int32} {k : Nat} (h : cFirstF c 16 0 = some k) : cAdd c x y = (nI k, cAddK c x y k) := by unfold cAdd; rw [h]
theorem cAdd_n {c : cSt} {x y : Int32} (h : cFirstF c 16 0 = none) : cAdd c x y = (-1, c) := by unfold cAdd; rw [h]
def cZero (c : cSt) (j : Nat) : Nat → cSt
  | 0 => c
  | k + 1 => cW (cZero c j k) (2 + k) j 0
def cRem1 (c : cSt) (x : Int32) : cSt := cW (cW (cW (cZero c (ix x) 8) 2 (ix x) (-1)) 4 (ix x) (-1)) 5 (ix x) (-1)
def cRemA (c : cSt) (x : Int32) : cSt := if hHole (c 2 (ix x)) = true then cW c 12 (ix (c 2 (ix x))) (-1) else c
def cRemB (c : cSt) (x : Int32) : cSt := if hHole (c 4 (ix x)) = true then cW (cRemA c x) 11 (ix (c 4 (ix x))) (-1) else cRemA c x
def cRemC (c : cSt) (x : Int32) : cSt := if cEx (cRemB c x) (c 5 (ix x)) = true then cW (cRemB c x) 5 (ix (c 5 (ix x))) (-1) else cRemB c x
def cRem (c : cSt) (x : Int32) : cSt := cRem1 (cRemC c x) x
def cPair (c : cSt) (x y : Int32) : cSt := cW (cW c 5 (ix x) y) 5 (ix y) x
def cStop (c : cSt) (x y : Int32) : cSt := cW (cW c 16 0 x) 16 1 y
def cDw (c : cSt) (x : Int32) : cSt :=
  if c 4 (ix x) = -1 then cW (cW c 15 3 (c 15 3 + 1)) 8 (ix x) (c 8 (ix x) + 1)
  else if c 4 (ix x) = 24 then cW c 15 2 (c 15 2 + 1)
  else if c 4 (ix x) = c 2 (ix x) then cW (cW c 15 0 (c 15 0 + 1)) 9 (ix x) (c 9 (ix x) + 1)
  else cW c 15 1 (c 15 1 + 1)
def cN1 (c : cSt) : Nat → cSt
  | 0 => c
  | k + 1 => cW (cN1 c k) 15 k 0
def cN2 (c : cSt) : Nat → cSt
  | 0 => c
  | k + 1 => if cEx (cN2 c k) (nI k) = true then cW (cDw (cN2 c k) (nI k)) 4 k (-1) else cN2 c k
def cN3 (c : cSt) : Nat → cSt
  | 0 => c
  | k + 1 => cW (cN3 c k) 11 k (-1)
def cNightL (c : cSt) : cSt := cN3 (cN2 (cN1 c 4) 16) 24
def cNight (c : cSt) : cSt := cW (cW (cNightL c) 0 6 (cNightL c 0 6 + 1)) 0 7 0
def cNightR (c : cSt) : Int32 := cNight c 15 0 + cNight c 15 1
def cNum (c : cSt) (x : Int32) : Int32 :=
  if x = 0 then c 0 6 else if x = 1 then c 0 7 else if x = 2 then cDoves c else if x = 3 then cSitD c else if x = 4 then cSitH c else if x = 5 then cAt c 24 else if x = 6 then cAt c (-1) else if x = 7 then cOpens c else if x = 8 then cPairs c else if x = 9 then c 0 8 else if x = 10 then c 0 9 else if x = 11 then c 15 0 else if x = 12 then c 15 1 else if x = 13 then c 15 2 else if x = 14 then c 15 3 else if x = 15 then c 14 0 else c 14 1
set_option maxRecDepth 100000 in
set_option maxHeartbeats 4000000 in
theorem k_X2_copyFrom (l : Launch) {E : gEn} {σ : gSt} {π : Nat → Nat} {o : Int64} {i i2 : Nat} (hi : i < 9) (hi2 : i2 < 9) (hii : i2 ≠ i) {c : cSt} : CtV l yX2_copyFrom wsX2_copyFrom ({ frames := 1, cells := 0, slots := 0, locals := 18 } : Room) E [.ref (E.2.1 i 17), .ref (E.2.1 i2 17)] (gU σ i c) π o  (gU σ i (cW (cCp (cCp c (σ i2 18) 18) (σ i2 19) 19) 17 2 (σ i2 17 2))) π o := by
  refine CtV.of (cc := cX2_copyFrom) (own := RX2) (maxL := 2) (ret := none) [some (.ref (E.2.1 i 17)), some (.ref (E.2.1 i2 17))] (by decide) rfl rfl (Nat.le_of_ble_eq_true rfl) rfl ?_
  intro p e s m args below meth cd C hrt hlk
  have hinX2 : ∀ w ∈ wsX20, w ∈ wsX2_copyFrom := by decide +kernel
  refine G.aldn1 C dX2_copyFrom_0 ?_
  refine G.getWs C hi2 hinX2 0 (by decide) rfl (C.1.2.2.2.2 (.fieldLink RX2 9 RX2 "who" "[I") (by decide +kernel)) rfl dX2_copyFrom_1 ?_
  refine G.iconst C 0 dX2_copyFrom_4 (by decide) ?_
  refine G.aldn0 C dX2_copyFrom_5 ?_
  refine G.getW C hi hinX2 0 (by decide) rfl (C.1.2.2.2.2 (.fieldLink RX2 9 RX2 "who" "[I") (by decide +kernel)) rfl dX2_copyFrom_6 ?_
  refine G.iconst C 0 dX2_copyFrom_9 (by decide) ?_
  refine G.bipush C 25 dX2_copyFrom_10 (by decide) ?_
  refine G.acopyU C (n := 25) (j := 18) (y := 25) hi hii (gN_c hi rfl) (gN_c hi2 rfl) (gV_c hi (by omega)) (gV_c hi2 (by omega)) ⟨by decide, by decide, by omega, by omega⟩ (C.1.2.2.2.2 (.methodLink RX2 22 arraycopyName) (by decide +kernel)) (C.1.2.2.2.2 (.native arraycopyName) (by decide +kernel)) (C.1.2.2.2.2 (.static arraycopyName) (by decide +kernel)) (C.1.2.2.2.2 (.initialized "java/lang/System") (by decide +kernel)) (Nat.le_of_ble_eq_true rfl) (Nat.le_of_ble_eq_true rfl) dX2_copyFrom_12 ?_
  refine G.aldn1 C dX2_copyFrom_15 ?_
  refine G.getWs C hi2 hinX2 1 (by decide) rfl (C.1.2.2.2.2 (.fieldLink RX2 15 RX2 "where" "[I") (by decide +kernel)) rfl dX2_copyFrom_16 ?_
  refine G.iconst C 0 dX2_copyFrom_19 (by decide) ?_
  refine G.aldn0 C dX2_copyFrom_20 ?_
  refine G.getW C hi hinX2 1 (by decide) rfl (C.1.2.2.2.2 (.fieldLink RX2 15 RX2 "where" "[I") (by decide +kernel)) rfl dX2_copyFrom_21 ?_
  refine G.iconst C 0 dX2_copyFrom_24 (by decide) ?_
  refine G.bipush C 25 dX2_copyFrom_25 (by decide) ?_
  refine G.acopyU C (n := 25) (j := 19) (y := 25) hi hii (gN_c hi rfl) (gN_c hi2 rfl) (gV_c hi (by omega)) (gV_c hi2 (by omega)) ⟨by decide, by decide, by omega, by omega⟩ (C.1.2.2.2.2 (.methodLink RX2 22 arraycopyName) (by decide +kernel)) (C.1.2.2.2.2 (.native arraycopyName) (by decide +kernel)) (C.1.2.2.2.2 (.static arraycopyName) (by decide +kernel)) (C.1.2.2.2.2 (.initialized "java/lang/System") (by decide +kernel)) (Nat.le_of_ble_eq_true rfl) (Nat.le_of_ble_eq_true rfl) dX2_copyFrom_27 ?_
  refine G.aldn0 C dX2_copyFrom_30 ?_
  refine G.aldn1 C dX2_copyFrom_31 ?_
  refine G.getWs C hi2 hinX2 2 (by decide) rfl (C.1.2.2.2.2 (.fieldLink RX2 18 RX2 "size" "I") (by decide +kernel)) rfl dX2_copyFrom_32 ?_
  refine G.topI (σ i2 17 2) (by rw [gU_ne hii]) ?_
  refine G.putW (ty := .int) C hi hinX2 2 (by decide) rfl (C.1.2.2.2.2 (.fieldLink RX2 18 RX2 "size" "I") (by decide +kernel)) rfl rfl rfl rfl pfX2_2 dX2_copyFrom_35 ?_
  exact G.vret C hlk hrt dX2_copyFrom_38 (by exact fun _ h => h)
set_option maxRecDepth 100000 in
set_option maxHeartbeats 4000000 in
theorem k_X0_copyFrom (l : Launch) {E : gEn} {σ : gSt} {π : Nat → Nat} {o : Int64} {i i2 : Nat} (hi : i < 9) (hi2 : i2 < 9) (hii : i2 ≠ i) {c : cSt} : CtV l yX0_copyFrom wsX0_copyFrom ({ frames := 2, cells := 0, slots := 0, locals := 39 } : Room) E [.ref (E.2.1 i 0), .ref (E.2.1 i2 0)] (gU σ i c) π o  (gU σ i (σ i2)) π o := by
  refine CtV.of (cc := cX0_copyFrom) (own := RX0) (maxL := 3) (ret := none) [some (.ref (E.2.1 i 0)), some (.ref (E.2.1 i2 0)), none] (by decide) rfl rfl (Nat.le_of_ble_eq_true rfl) rfl ?_
  intro p e s m args below meth cd C hrt hlk
  have hinX0 : ∀ w ∈ wsX00, w ∈ wsX0_copyFrom := by decide +kernel
  have hinX2 : ∀ w ∈ wsX20, w ∈ wsX0_copyFrom := by decide +kernel
  refine G.iconst C 0 dX0_copyFrom_0 (by decide) ?_
  refine G.istn2 C dX0_copyFrom_1 (by omega) rfl ?_
  have L2 : ∀ (n k : Nat), k + n = 8 → G p l e ({ frames := 2, cells := 0, slots := 0, locals := 39 } : Room) s m args below meth cd 3 0 0 (gA E) (gQV below args s E (gU σ i (σ i2)) π o) E (gU σ i (cCpR c (σ i2) 2 k)) π o 2 [some (.ref (E.2.1 i 0)), some (.ref (E.2.1 i2 0)), some (.int (nI k))] [] := by
    intro n
    induction n with
    | zero =>
      intro k hk
      obtain rfl : 8 = k := by omega
      refine G.ildn2 C dX0_copyFrom_2 ?_
      refine G.bipush C 8 dX0_copyFrom_3 (by decide) ?_
      refine G.icmp_ge C 33 dX0_copyFrom_5 (by decide) (fun _ => ?_) (fun h => absurd (nI_le (a := 8) (b := 8) (by omega) (by decide)) h)
      refine G.iconst C 0 dX0_copyFrom_33 (by decide) ?_
      refine G.istn2 C dX0_copyFrom_34 (by omega) rfl ?_
      have L35 : ∀ (n k : Nat), k + n = 3 → G p l e ({ frames := 2, cells := 0, slots := 0, locals := 39 } : Room) s m args below meth cd 3 0 0 (gA E) (gQV below args s E (gU σ i (σ i2)) π o) E (gU σ i (cCpR (cCpR c (σ i2) 2 8) (σ i2) 11 k)) π o 35 [some (.ref (E.2.1 i 0)), some (.ref (E.2.1 i2 0)), some (.int (nI k))] [] := by
        intro n
        induction n with
        | zero =>
          intro k hk
          obtain rfl : 3 = k := by omega
          refine G.ildn2 C dX0_copyFrom_35 ?_
          refine G.iconst C 3 dX0_copyFrom_36 (by decide) ?_
          refine G.icmp_ge C 65 dX0_copyFrom_37 (by decide) (fun _ => ?_) (fun h => absurd (nI_le (a := 3) (b := 3) (by omega) (by decide)) h)
          refine G.aldn1 C dX0_copyFrom_65 ?_
          refine G.getCs C hi2 hinX0 2 (by decide) rfl (C.1.2.2.2.2 (.fieldLink RX0 19 RX0 "settings" "[I") (by decide +kernel)) rfl dX0_copyFrom_66 ?_
          refine G.iconst C 0 dX0_copyFrom_69 (by decide) ?_
          refine G.aldn0 C dX0_copyFrom_70 ?_
          refine G.getC C hi hinX0 2 (by decide) rfl (C.1.2.2.2.2 (.fieldLink RX0 19 RX0 "settings" "[I") (by decide +kernel)) rfl dX0_copyFrom_71 ?_
          refine G.iconst C 0 dX0_copyFrom_74 (by decide) ?_
          refine G.iconst C 2 dX0_copyFrom_75 (by decide) ?_
          refine G.acopyU C (n := 2) (j := 14) (y := 2) hi hii (gN_c hi rfl) (gN_c hi2 rfl) (gV_c hi (by omega)) (gV_c hi2 (by omega)) ⟨by decide, by decide, by omega, by omega⟩ (C.1.2.2.2.2 (.methodLink RX0 36 arraycopyName) (by decide +kernel)) (C.1.2.2.2.2 (.native arraycopyName) (by decide +kernel)) (C.1.2.2.2.2 (.static arraycopyName) (by decide +kernel)) (C.1.2.2.2.2 (.initialized "java/lang/System") (by decide +kernel)) (Nat.le_of_ble_eq_true rfl) (Nat.le_of_ble_eq_true rfl) dX0_copyFrom_76 ?_
          refine G.aldn1 C dX0_copyFrom_79 ?_
          refine G.getCs C hi2 hinX0 3 (by decide) rfl (C.1.2.2.2.2 (.fieldLink RX0 23 RX0 "atDawn" "[I") (by decide +kernel)) rfl dX0_copyFrom_80 ?_
          refine G.iconst C 0 dX0_copyFrom_83 (by decide) ?_
          refine G.aldn0 C dX0_copyFrom_84 ?_
          refine G.getC C hi hinX0 3 (by decide) rfl (C.1.2.2.2.2 (.fieldLink RX0 23 RX0 "atDawn" "[I") (by decide +kernel)) rfl dX0_copyFrom_85 ?_
          refine G.iconst C 0 dX0_copyFrom_88 (by decide) ?_
          refine G.iconst C 4 dX0_copyFrom_89 (by decide) ?_
          refine G.acopyU C (n := 4) (j := 15) (y := 4) hi hii (gN_c hi rfl) (gN_c hi2 rfl) (gV_c hi (by omega)) (gV_c hi2 (by omega)) ⟨by decide, by decide, by omega, by omega⟩ (C.1.2.2.2.2 (.methodLink RX0 36 arraycopyName) (by decide +kernel)) (C.1.2.2.2.2 (.native arraycopyName) (by decide +kernel)) (C.1.2.2.2.2 (.static arraycopyName) (by decide +kernel)) (C.1.2.2.2.2 (.initialized "java/lang/System") (by decide +kernel)) (Nat.le_of_ble_eq_true rfl) (Nat.le_of_ble_eq_true rfl) dX0_copyFrom_90 ?_
          refine G.aldn1 C dX0_copyFrom_93 ?_
          refine G.getCs C hi2 hinX0 4 (by decide) rfl (C.1.2.2.2.2 (.fieldLink RX0 26 RX0 "stop" "[I") (by decide +kernel)) rfl dX0_copyFrom_94 ?_
          refine G.iconst C 0 dX0_copyFrom_97 (by decide) ?_
          refine G.aldn0 C dX0_copyFrom_98 ?_
          refine G.getC C hi hinX0 4 (by decide) rfl (C.1.2.2.2.2 (.fieldLink RX0 26 RX0 "stop" "[I") (by decide +kernel)) rfl dX0_copyFrom_99 ?_
          refine G.iconst C 0 dX0_copyFrom_102 (by decide) ?_
          refine G.iconst C 2 dX0_copyFrom_103 (by decide) ?_
          refine G.acopyU C (n := 2) (j := 16) (y := 2) hi hii (gN_c hi rfl) (gN_c hi2 rfl) (gV_c hi (by omega)) (gV_c hi2 (by omega)) ⟨by decide, by decide, by omega, by omega⟩ (C.1.2.2.2.2 (.methodLink RX0 36 arraycopyName) (by decide +kernel)) (C.1.2.2.2.2 (.native arraycopyName) (by decide +kernel)) (C.1.2.2.2.2 (.static arraycopyName) (by decide +kernel)) (C.1.2.2.2.2 (.initialized "java/lang/System") (by decide +kernel)) (Nat.le_of_ble_eq_true rfl) (Nat.le_of_ble_eq_true rfl) dX0_copyFrom_104 ?_
          refine G.aldn0 C dX0_copyFrom_107 ?_
          refine G.getC C hi hinX0 5 (by decide) rfl (C.1.2.2.2.2 (.fieldLink RX0 32 RX0 "way" "LLateDoves$Way;") (by decide +kernel)) rfl dX0_copyFrom_108 ?_
          refine G.aldn1 C dX0_copyFrom_111 ?_
          refine G.getCs C hi2 hinX0 5 (by decide) rfl (C.1.2.2.2.2 (.fieldLink RX0 32 RX0 "way" "LLateDoves$Way;") (by decide +kernel)) rfl dX0_copyFrom_112 ?_
          refine G.callVV1 C (k_X2_copyFrom l hi hi2 hii) (cwV 1 C.1.2.2.2.2 gX0_copyFrom_X2_copyFrom rfl rfl rfl (by decide +kernel) ⟨Nat.le_of_ble_eq_true rfl, Nat.le_of_ble_eq_true rfl⟩) (gO_w hi) rfl (Nat.le_of_ble_eq_true rfl) dX0_copyFrom_115 ?_
          refine G.aldn0 C dX0_copyFrom_118 ?_
          refine G.aldn1 C dX0_copyFrom_119 ?_
          refine G.getCs C hi2 hinX0 6 (by decide) rfl (C.1.2.2.2.2 (.fieldLink RX0 46 RX0 "day" "I") (by decide +kernel)) rfl dX0_copyFrom_120 ?_
          refine G.topI (σ i2 0 6) (by rw [gU_ne hii]) ?_
          refine G.putC (ty := .int) C hi hinX0 6 (by decide) rfl (C.1.2.2.2.2 (.fieldLink RX0 46 RX0 "day" "I") (by decide +kernel)) rfl rfl rfl rfl pfX0_6 dX0_copyFrom_123 ?_
          refine G.aldn0 C dX0_copyFrom_126 ?_
          refine G.aldn1 C dX0_copyFrom_127 ?_
          refine G.getCs C hi2 hinX0 7 (by decide) rfl (C.1.2.2.2.2 (.fieldLink RX0 50 RX0 "time" "I") (by decide +kernel)) rfl dX0_copyFrom_128 ?_
          refine G.topI (σ i2 0 7) (by rw [gU_ne hii]) ?_
          refine G.putC (ty := .int) C hi hinX0 7 (by decide) rfl (C.1.2.2.2.2 (.fieldLink RX0 50 RX0 "time" "I") (by decide +kernel)) rfl rfl rfl rfl pfX0_7 dX0_copyFrom_131 ?_
          refine G.aldn0 C dX0_copyFrom_134 ?_
          refine G.aldn1 C dX0_copyFrom_135 ?_
          refine G.getCs C hi2 hinX0 8 (by decide) rfl (C.1.2.2.2.2 (.fieldLink RX0 53 RX0 "shifts" "I") (by decide +kernel)) rfl dX0_copyFrom_136 ?_
          refine G.topI (σ i2 0 8) (by rw [gU_ne hii]) ?_
          refine G.putC (ty := .int) C hi hinX0 8 (by decide) rfl (C.1.2.2.2.2 (.fieldLink RX0 53 RX0 "shifts" "I") (by decide +kernel)) rfl rfl rfl rfl pfX0_8 dX0_copyFrom_139 ?_
          refine G.aldn0 C dX0_copyFrom_142 ?_
          refine G.aldn1 C dX0_copyFrom_143 ?_
          refine G.getCs C hi2 hinX0 9 (by decide) rfl (C.1.2.2.2.2 (.fieldLink RX0 56 RX0 "quarrels" "I") (by decide +kernel)) rfl dX0_copyFrom_144 ?_
          refine G.topI (σ i2 0 9) (by rw [gU_ne hii]) ?_
          refine G.putC (ty := .int) C hi hinX0 9 (by decide) rfl (C.1.2.2.2.2 (.fieldLink RX0 56 RX0 "quarrels" "I") (by decide +kernel)) rfl rfl rfl rfl pfX0_9 dX0_copyFrom_147 ?_
          exact G.vret C hlk hrt dX0_copyFrom_150 (by intro H h; exact CW.eqv hi cCopied h)
        | succ n ih =>
          intro k hk
          have hk2 : k < 3 := by omega
          refine G.ildn2 C dX0_copyFrom_35 ?_
          refine G.iconst C 3 dX0_copyFrom_36 (by decide) ?_
          refine G.icmp_ge C 65 dX0_copyFrom_37 (by decide) (fun h => absurd h (nI_ge (b := 3) hk2 (by decide))) (fun _ => ?_)
          refine G.aldn1 C dX0_copyFrom_40 ?_
          refine G.getCs C hi2 hinX0 1 (by decide) rfl (C.1.2.2.2.2 (.fieldLink RX0 16 RX0 "holes" "[[I") (by decide +kernel)) rfl dX0_copyFrom_41 ?_
          refine G.ildn2 C dX0_copyFrom_44 ?_
          refine G.aaldH C hi2 (11 + k) (by first | assumption | exact vp_in_nI (by omega) (by omega) | (unfold vp_in; decide)) (by rw [ix_nI (by omega)]) dX0_copyFrom_45 ?_
          refine G.iconst C 0 dX0_copyFrom_46 (by decide) ?_
          refine G.aldn0 C dX0_copyFrom_47 ?_
          refine G.getC C hi hinX0 1 (by decide) rfl (C.1.2.2.2.2 (.fieldLink RX0 16 RX0 "holes" "[[I") (by decide +kernel)) rfl dX0_copyFrom_48 ?_
          refine G.ildn2 C dX0_copyFrom_51 ?_
          refine G.aaldH C hi (11 + k) (by first | assumption | exact vp_in_nI (by omega) (by omega) | (unfold vp_in; decide)) (by rw [ix_nI (by omega)]) dX0_copyFrom_52 ?_
          refine G.iconst C 0 dX0_copyFrom_53 (by decide) ?_
          refine G.bipush C 24 dX0_copyFrom_54 (by decide) ?_
          refine G.acopyU C (n := 24) (j := 11 + k) (y := 24) hi hii (gN_rowH hi hk2) (gN_rowH hi2 hk2) (gV_c hi (by omega)) (gV_c hi2 (by omega)) ⟨by decide, by decide, by omega, by omega⟩ (C.1.2.2.2.2 (.methodLink RX0 36 arraycopyName) (by decide +kernel)) (C.1.2.2.2.2 (.native arraycopyName) (by decide +kernel)) (C.1.2.2.2.2 (.static arraycopyName) (by decide +kernel)) (C.1.2.2.2.2 (.initialized "java/lang/System") (by decide +kernel)) (Nat.le_of_ble_eq_true rfl) (Nat.le_of_ble_eq_true rfl) dX0_copyFrom_56 ?_
          refine G.iincN2 C dX0_copyFrom_59 (by omega) rfl ?_
          refine G.goto C 35 dX0_copyFrom_62 (by decide) ?_
          exact G.back (ih (k + 1) (by omega) ) rfl ⟨(by first | rfl | simp), (by first | rfl | simp), (by first | rfl | simp), trivial⟩
      exact G.back (L35 3 0 (Nat.zero_add _) ) rfl ⟨(by first | rfl | simp), (by first | rfl | simp), (by first | rfl | simp), trivial⟩
    | succ n ih =>
      intro k hk
      have hk2 : k < 8 := by omega
      refine G.ildn2 C dX0_copyFrom_2 ?_
      refine G.bipush C 8 dX0_copyFrom_3 (by decide) ?_
      refine G.icmp_ge C 33 dX0_copyFrom_5 (by decide) (fun h => absurd h (nI_ge (b := 8) hk2 (by decide))) (fun _ => ?_)
      refine G.aldn1 C dX0_copyFrom_8 ?_
      refine G.getCs C hi2 hinX0 0 (by decide) rfl (C.1.2.2.2.2 (.fieldLink RX0 11 RX0 "doves" "[[I") (by decide +kernel)) rfl dX0_copyFrom_9 ?_
      refine G.ildn2 C dX0_copyFrom_12 ?_
      refine G.aaldD C hi2 (2 + k) (by first | assumption | exact vp_in_nI (by omega) (by omega) | (unfold vp_in; decide)) (by rw [ix_nI (by omega)]) dX0_copyFrom_13 ?_
      refine G.iconst C 0 dX0_copyFrom_14 (by decide) ?_
      refine G.aldn0 C dX0_copyFrom_15 ?_
      refine G.getC C hi hinX0 0 (by decide) rfl (C.1.2.2.2.2 (.fieldLink RX0 11 RX0 "doves" "[[I") (by decide +kernel)) rfl dX0_copyFrom_16 ?_
      refine G.ildn2 C dX0_copyFrom_19 ?_
      refine G.aaldD C hi (2 + k) (by first | assumption | exact vp_in_nI (by omega) (by omega) | (unfold vp_in; decide)) (by rw [ix_nI (by omega)]) dX0_copyFrom_20 ?_
      refine G.iconst C 0 dX0_copyFrom_21 (by decide) ?_
      refine G.bipush C 16 dX0_copyFrom_22 (by decide) ?_
      refine G.acopyU C (n := 16) (j := 2 + k) (y := 16) hi hii (gN_row hi hk2) (gN_row hi2 hk2) (gV_c hi (by omega)) (gV_c hi2 (by omega)) ⟨by decide, by decide, by omega, by omega⟩ (C.1.2.2.2.2 (.methodLink RX0 36 arraycopyName) (by decide +kernel)) (C.1.2.2.2.2 (.native arraycopyName) (by decide +kernel)) (C.1.2.2.2.2 (.static arraycopyName) (by decide +kernel)) (C.1.2.2.2.2 (.initialized "java/lang/System") (by decide +kernel)) (Nat.le_of_ble_eq_true rfl) (Nat.le_of_ble_eq_true rfl) dX0_copyFrom_24 ?_
      refine G.iincN2 C dX0_copyFrom_27 (by omega) rfl ?_
      refine G.goto C 2 dX0_copyFrom_30 (by decide) ?_
      exact G.back (ih (k + 1) (by omega) ) rfl ⟨(by first | rfl | simp), (by first | rfl | simp), (by first | rfl | simp), trivial⟩
  exact G.back (L2 8 0 (Nat.zero_add _) ) rfl ⟨(by first | rfl | simp), (by first | rfl | simp), (by first | rfl | simp), trivial⟩
