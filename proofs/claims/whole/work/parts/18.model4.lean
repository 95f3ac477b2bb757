section GL5
variable {p : Program} {l : Launch} {e : Env} {R : Room} {s : State} {m : MethodId} {args : Array Value} {below : List Frame} {meth : Method} {c : Code} {Q : State → Prop} {cc : ByteArray} {own : String} {Ts : List Cond} {nL cl sl : Nat} {E : gEn} {A : Nat → Prop} {σ σ' : gSt} {π π' : Nat → Nat} {o o' : Int64}
theorem G.callVI4 (C : gCx p s m c cc nL own Ts args E A R cl sl) {pc : Nat} {lv : List (Option Value)} {st : List Value} {index maxL : Nat} {y : MethodName} {bytes : ByteArray} {ret : Option FieldType} {ws : List Cond} {rm : Room} {i j ci : Nat} {qc : vw_C} {v1 v2 v3 v4 : Value} {r : Int32} (hM : CtI l y ws rm E (.ref (E.2.1 i j) :: [v1, v2, v3, v4]) σ π o r σ' π' o') (cw : CallW R s args own qc.1 index y bytes maxL ret ws rm 0 0 4) (ho : gO i j = some ci) (hq : vwCl[ci]? = some qc) (hro : (st.map fun v => v.category).sum ≤ 8) (hd : decode cc pc = .ok (.invokevirtual index, 3)) (k : G p l e R s m args below meth c nL cl sl A Q E σ' π' o' (pc + 3) lv (.int r :: st)) : G p l e R s m args below meth c nL cl sl A Q E σ π o pc lv (v4 :: v3 :: v2 :: v1 :: .ref (E.2.1 i j) :: st) :=
  fun H locs ls hW hS hl => va_calli (va_runV (As := [v1, v2, v3, v4]) (rest := st) C.1 hM cw (g_preV C.2.1 hW ho hq) rfl rfl hl.1 rfl (lv_room hro) hd C.2.2.2) hS (fun q _ h => C.2.2.1 q h) (fun q h => C.2.2.1 q h) (fun r0 u t H1 locs1 ht hvm hpost hB hz hk1 hS1 => by
    subst hpost
    rw [ht] at hB
    exact k H1 locs1 ls hB hS1 hl)
theorem G.callVI5 (C : gCx p s m c cc nL own Ts args E A R cl sl) {pc : Nat} {lv : List (Option Value)} {st : List Value} {index maxL : Nat} {y : MethodName} {bytes : ByteArray} {ret : Option FieldType} {ws : List Cond} {rm : Room} {i j ci : Nat} {qc : vw_C} {v1 v2 v3 v4 v5 : Value} {r : Int32} (hM : CtI l y ws rm E (.ref (E.2.1 i j) :: [v1, v2, v3, v4, v5]) σ π o r σ' π' o') (cw : CallW R s args own qc.1 index y bytes maxL ret ws rm 0 0 5) (ho : gO i j = some ci) (hq : vwCl[ci]? = some qc) (hro : (st.map fun v => v.category).sum ≤ 8) (hd : decode cc pc = .ok (.invokevirtual index, 3)) (k : G p l e R s m args below meth c nL cl sl A Q E σ' π' o' (pc + 3) lv (.int r :: st)) : G p l e R s m args below meth c nL cl sl A Q E σ π o pc lv (v5 :: v4 :: v3 :: v2 :: v1 :: .ref (E.2.1 i j) :: st) :=
  fun H locs ls hW hS hl => va_calli (va_runV (As := [v1, v2, v3, v4, v5]) (rest := st) C.1 hM cw (g_preV C.2.1 hW ho hq) rfl rfl hl.1 rfl (lv_room hro) hd C.2.2.2) hS (fun q _ h => C.2.2.1 q h) (fun q h => C.2.2.1 q h) (fun r0 u t H1 locs1 ht hvm hpost hB hz hk1 hS1 => by
    subst hpost
    rw [ht] at hB
    exact k H1 locs1 ls hB hS1 hl)
end GL5

/-! the model: texts -/
def mAtT (d : cSt) (p : Int32) : Int32 := if d 0 8 ≤ p then 0 else d 5 (ix p)
theorem at_in {d : cSt} {L q : Nat} (hL : d 0 8 = nI L) (h60 : L ≤ 60) (hq : q < 1000) (h : ¬ d 0 8 ≤ nI q) : vp_in (nI q) 60 := by
  rw [hL, nI_leI (by omega) (by omega)] at h
  exact vp_in_nI (by omega) (by omega)
theorem mAtT_W {d : cSt} {k : Nat} {v p : Int32} (h : k ≠ 8) : mAtT (cW d 0 k v) p = mAtT d p := by
  unfold mAtT
  have e : cW d 0 k v 0 8 = d 0 8 := by simp [cW, Ne.symm h]
  have e2 : cW d 0 k v 5 = d 5 := funext fun q => by simp [cW]
  rw [e, e2]
theorem mAtT_0 {d : cSt} {L q : Nat} (hL : d 0 8 = nI L) (h60 : L ≤ 60) (hq : q < 1000) (h : L ≤ q) : mAtT d (nI q) = 0 := by
  unfold mAtT
  rw [hL, if_pos ((nI_leI (by omega) (by omega)).mpr h)]
def mNumL (d : cSt) (mo : Int32) : Nat → Int32 → Int32 → Int32 × Int32
  | 0, p, s => (p, s)
  | n + 1, p, s => if ¬ s ≤ 0 ∧ mIn (mAtT d p) 48 57 = true ∧ ¬ mo < 10 * s + mAtT d p - 48 then mNumL d mo n (p + 1) (10 * s + mAtT d p - 48) else (p, s)
def mNum (d : cSt) (fr le mo : Int32) : Int32 × Int32 := if mIn (mAtT d fr - 48) le 9 = true then mNumL d mo 61 (fr + 1) (mAtT d fr - 48) else (-1 - fr, mAtT d fr - 48)
theorem mNumL_W {d : cSt} {k : Nat} {v mo : Int32} (h : k ≠ 8) : ∀ (n : Nat) (p s : Int32), mNumL (cW d 0 k v) mo n p s = mNumL d mo n p s
  | 0, p, s => rfl
  | n + 1, p, s => by simp only [mNumL, mAtT_W h, mNumL_W h n]
theorem mNum_W {d : cSt} {k : Nat} {v fr le mo : Int32} (h : k ≠ 8) : mNum (cW d 0 k v) fr le mo = mNum d fr le mo := by
  simp only [mNum, mAtT_W h, mNumL_W h]
def mFS (d : cSt) (f s : Int32) : cSt := cW (cW d 0 10 f) 0 11 s
theorem mFS_1 {d : cSt} {a f : Int32} : cW (cW d 0 11 a) 0 10 f = mFS d f a := by
  funext j q
  simp only [mFS, cW]
  by_cases h : j = 0
  · simp only [h, if_true]
    by_cases h1 : q = 10
    · simp [h1]
    · simp [h1]
  · simp only [h, if_false]
theorem mFS_2 {d : cSt} {a f b : Int32} : cW (cW (cW d 0 11 a) 0 10 f) 0 11 b = mFS d f b := by
  rw [mFS_1]
  funext j q
  simp only [mFS, cW]
  by_cases h : j = 0
  · simp only [h, if_true]
    by_cases h1 : q = 11
    · simp [h1]
    · simp [h1]
  · simp only [h, if_false]
/-- the place behind two numbers (or below 0), the first, the second -/
def mTwo (d : cSt) (fr mo sg le la : Int32) : Int32 × Int32 × Int32 :=
  if 0 ≤ (mNum d fr 0 mo).1 then
    (if mAtT d (mNum d fr 0 mo).1 = sg then ((mNum d ((mNum d fr 0 mo).1 + 1) le la).1, (mNum d fr 0 mo).2, (mNum d ((mNum d fr 0 mo).1 + 1) le la).2)
     else (-1 - (mNum d fr 0 mo).1, (mNum d fr 0 mo).2, (mNum d fr 0 mo).2))
  else ((mNum d fr 0 mo).1, (mNum d fr 0 mo).2, (mNum d fr 0 mo).2)
/-- how far a number reaches: its first sign is a digit, so the text goes on there; it ends at the text's end at the latest -/
theorem mIn_b {x a b : Int32} (h : mIn x a b = true) : ¬ x < a ∧ ¬ b < x := by
  unfold mIn at h
  split at h
  · cases h
  · split at h
    · cases h
    · exact ⟨by assumption, by assumption⟩
theorem at_lt {d : cSt} {L q : Nat} (hL : d 0 8 = nI L) (h60 : L ≤ 60) (hq : q < 1000) (h : mAtT d (nI q) ≠ 0) : q < L := by
  rcases Nat.lt_or_ge q L with z | z
  · exact z
  · exact absurd (mAtT_0 hL h60 hq z) h
theorem mNumL_at {d : cSt} {mo : Int32} {L : Nat} (hL : d 0 8 = nI L) (h60 : L ≤ 60) : ∀ (n q : Nat) (s : Int32), q ≤ L → ∃ q', q ≤ q' ∧ q' ≤ L ∧ (mNumL d mo n (nI q) s).1 = nI q'
  | 0, q, s, h => ⟨q, Nat.le_refl _, h, rfl⟩
  | n + 1, q, s, h => by
    unfold mNumL
    split
    · rename_i hc
      have hq : q < L := at_lt hL h60 (by omega) (fun e => by rw [e] at hc; exact absurd hc.2.1 (by decide))
      obtain ⟨q', h1, h2, h3⟩ := mNumL_at hL h60 n (q + 1) (10 * s + mAtT d (nI q) - 48) hq
      rw [nI_1]
      exact ⟨q', by omega, h2, h3⟩
    · exact ⟨q, Nat.le_refl _, h, rfl⟩
theorem neg_of {q : Nat} (hq : q < 1000) : -1 - nI q < 0 := by
  rw [Int32.lt_iff_toInt_lt]
  have h1 : ((-1 : Int32) - nI q).toInt = -1 - (q : Int) := by
    have e : (-1 : Int32) = nI 0 - nI 1 := by decide
    rw [e, show nI 0 - nI 1 - nI q = nI 0 - (nI 1 + nI q) by rw [Int32.sub_sub], nI_add, pk_sub_toInt (by omega) (by omega)]
    omega
  have h0 : (0 : Int32).toInt = 0 := by decide
  rw [h1, h0]
  omega
theorem mNum_at {d : cSt} {le mo : Int32} {L q : Nat} (hL : d 0 8 = nI L) (h60 : L ≤ 60) (hq : q < 1000) (hle : ¬ le < 0) : (mNum d (nI q) le mo).1 < 0 ∨ ∃ q', q < q' ∧ q' ≤ L ∧ (mNum d (nI q) le mo).1 = nI q' := by
  unfold mNum
  split
  · rename_i h
    refine Or.inr ?_
    have hq2 : q < L := at_lt hL h60 hq (fun e => by
      rw [e] at h
      have := (mIn_b h).1
      rw [Int32.lt_iff_toInt_lt] at this hle
      have h1 : ((0 : Int32) - 48).toInt = -48 := by decide
      have h0 : (0 : Int32).toInt = 0 := by decide
      omega)
    rw [nI_1]
    obtain ⟨q', h1, h2, h3⟩ := mNumL_at (mo := mo) hL h60 61 (q + 1) (mAtT d (nI q) - 48) hq2
    exact ⟨q', by omega, h2, h3⟩
  · exact Or.inl (neg_of hq)
def mPart (d : cSt) (fr : Int32) : Int32 × cSt :=
  if mAtT d fr = 94 then (fr + 1, cW d 0 9 (mAtT d fr))
  else if mAtT d fr = 98 then ((mTwo d (fr + 1) 23 33 1 9).1, mFS (cW d 0 9 (mAtT d fr)) (mTwo d (fr + 1) 23 33 1 9).2.1 (mTwo d (fr + 1) 23 33 1 9).2.2)
  else if mAtT d fr = 104 then ((mTwo d (fr + 1) 15 64 0 1439).1, mFS (cW d 0 9 (mAtT d fr)) (mTwo d (fr + 1) 15 64 0 1439).2.1 (mTwo d (fr + 1) 15 64 0 1439).2.2)
  else if mAtT d fr = 109 then ((mTwo d (fr + 1) 15 43 0 15).1, mFS (cW d 0 9 (mAtT d fr)) (mTwo d (fr + 1) 15 43 0 15).2.1 (mTwo d (fr + 1) 15 43 0 15).2.2)
  else if mAtT d fr = 111 then ((mNum d (fr + 1) 0 23).1, cW (cW d 0 9 (mAtT d fr)) 0 11 (mNum d (fr + 1) 0 23).2)
  else if mAtT d fr = 120 then ((mNum d (fr + 1) 0 23).1, cW (cW d 0 9 (mAtT d fr)) 0 11 (mNum d (fr + 1) 0 23).2)
  else (-1 - fr, cW d 0 9 (mAtT d fr))
theorem mTwo_W {d : cSt} {k : Nat} {v fr mo sg le la : Int32} (h : k ≠ 8) : mTwo (cW d 0 k v) fr mo sg le la = mTwo d fr mo sg le la := by
  simp only [mTwo, mNum_W h, mAtT_W h]
set_option maxRecDepth 100000 in
set_option maxHeartbeats 4000000 in
theorem k_X4_at (l : Launch) {E : gEn} {σ : gSt} {π : Nat → Nat} {o : Int64} {d : cSt} {p : Int32} {q : Nat} {L : Nat} (hL : d 0 8 = nI L) (h60 : L ≤ 60) (hp : p = nI q) (hq : q < 1000) : CtI l yX4_at wsX4_at ({ frames := 0, cells := 0, slots := 0, locals := 0 } : Room) E [.ref (E.2.1 10 0), .int p] (gU σ 10 d) π o (mAtT d p) (gU σ 10 d) π o := by
  refine CtI.of (cc := cX4_at) (own := RX4) (maxL := 2) (ret := (some .int)) [some (.ref (E.2.1 10 0)), some (.int p)] (by decide) rfl rfl (Nat.le_of_ble_eq_true rfl) rfl ?_
  intro p e s m args below meth cd C hrt hlk
  have hinX4 : ∀ w ∈ wsX40, w ∈ wsX4_at := by decide +kernel
  subst hp
  refine G.ildn1 C dX4_at_0 ?_
  refine G.aldn0 C dX4_at_1 ?_
  refine G.getD C hinX4 8 (by decide) rfl (C.1.2.2.2.2 (.fieldLink RX4 118 RX4 "length" "I") (by decide +kernel)) rfl dX4_at_2 ?_
  refine G.icmp_ge C 17 dX4_at_5 (by decide) (fun h5 => ?_) (fun h5 => ?_)
  · refine G.iconst C 0 dX4_at_17 (by decide) ?_
    exact G.iret C hlk hrt dX4_at_18 (by first | (rw [mAtT, if_pos h5]; done) | (rw [mAtT, if_neg h5]; done)) (by exact fun _ h => h)
  · refine G.aldn0 C dX4_at_8 ?_
    refine G.getD C hinX4 7 (by decide) rfl (C.1.2.2.2.2 (.fieldLink RX4 22 RX4 "text" "[I") (by decide +kernel)) rfl dX4_at_9 ?_
    refine G.ildn1 C dX4_at_12 ?_
    refine G.ialdU C (n := 60) (j := 5) (d0 := _) rfl (gV_d (by omega)) (at_in hL h60 hq h5) rfl dX4_at_13 ?_
    refine G.goto C 18 dX4_at_14 (by decide) ?_
    exact G.iret C hlk hrt dX4_at_18 (by first | (rw [mAtT, if_pos h5]; done) | (rw [mAtT, if_neg h5]; done)) (by exact fun _ h => h)
theorem cW_cW {d : cSt} {j k : Nat} {v w : Int32} : cW (cW d j k v) j k w = cW d j k w := by
  funext j' q
  simp only [cW]
  by_cases h : j' = j
  · simp only [h, if_true]
    by_cases h1 : q = k <;> simp [h1]
  · simp only [h, if_false]
set_option maxRecDepth 100000 in
set_option maxHeartbeats 4000000 in
theorem k_X4_readNumber_34 (l : Launch) {E : gEn} {σ : gSt} {π : Nat → Nat} {o : Int64} {d : cSt} {mo s2 r S2 : Int32} {n q : Nat} {L : Nat} (hL : d 0 8 = nI L) (h60 : L ≤ 60) (hq : q ≤ L) (hn : L ≤ q + n) (hF : (r, S2) = mNumL d mo n (nI q) s2) {p : Program} {e : Env} {s : State} {m : MethodId} {args : Array Value} {below : List Frame} {meth : Method} {cd : Code} (C : gCx p s m cd cX4_readNumber 5 RX4 wsX4_readNumber args E (gA E) ({ frames := 1, cells := 0, slots := 0, locals := 22 } : Room) 0 0) (hrt : meth.sig.returnType = (some .int)) (hlk : meth.locks = false) : G p l e ({ frames := 1, cells := 0, slots := 0, locals := 22 } : Room) s m args below meth cd 5 0 0 (gA E) (gQI below args s (r) E (gU σ 10 (cW d 0 11 S2)) π o) E (gU σ 10 (cW d 0 11 s2)) π o 34 [some (.ref (E.2.1 10 0)), none, none, some (.int mo), some (.int (nI q))] [] := by
  have hinX4 : ∀ w ∈ wsX40, w ∈ wsX4_readNumber := by decide +kernel
  induction n generalizing q s2 with
  | zero =>
    refine G.aldn0 C dX4_readNumber_34 ?_
    refine G.getD C hinX4 11 (by decide) rfl (C.1.2.2.2.2 (.fieldLink RX4 124 RX4 "second" "I") (by decide +kernel)) rfl dX4_readNumber_35 ?_
    refine G.topI (s2) rfl ?_
    refine G.if_le C 105 dX4_readNumber_38 (by decide) (fun h38 => ?_) (fun h38 => ?_)
    · refine G.ild4 C dX4_readNumber_105 ?_
      exact G.iret C hlk hrt dX4_readNumber_107 (by exact (congrArg Prod.fst (hF.trans (show mNumL d mo _ (nI q) s2 = (nI q, s2) by first | rfl | simp [mNumL, h38]))).symm) (by intro H h; rw [show S2 = s2 from congrArg Prod.snd (hF.trans (show mNumL d mo _ (nI q) s2 = (nI q, s2) by first | rfl | simp [mNumL, h38]))]; exact h)
    · refine G.aldn0 C dX4_readNumber_41 ?_
      refine G.ild4 C dX4_readNumber_42 ?_
      refine G.callVI1 C (k_X4_at l (d := cW d 0 11 s2) (L := L) hL h60 rfl (by omega)) (cwV 1 C.1.2.2.2.2 gX4_readNumber_X4_at rfl rfl rfl (by decide +kernel) ⟨Nat.le_of_ble_eq_true rfl, Nat.le_of_ble_eq_true rfl⟩) gO_d rfl (Nat.le_of_ble_eq_true rfl) dX4_readNumber_44 ?_
      refine G.topI (mAtT d (nI q)) (mAtT_W (by decide)) ?_
      refine G.bipush C 48 dX4_readNumber_47 (by decide) ?_
      refine G.bipush C 57 dX4_readNumber_49 (by decide) ?_
      refine G.callSI3 C (k_X4_in l) (va_cwS 3 C.1.2.2.2.2 gX4_readNumber_X4_in rfl rfl rfl (by decide +kernel) ⟨Nat.le_of_ble_eq_true rfl, Nat.le_of_ble_eq_true rfl⟩) (Nat.le_of_ble_eq_true rfl) dX4_readNumber_51 ?_
      refine G.if_eqB C 105 dX4_readNumber_54 (by decide) (fun h54 => ?_) (fun h54 => absurd h54 (by rw [mAtT_0 hL h60 (by omega) (by omega)]; decide))
      refine G.ild4 C dX4_readNumber_105 ?_
      exact G.iret C hlk hrt dX4_readNumber_107 (by exact (congrArg Prod.fst (hF.trans (show mNumL d mo _ (nI q) s2 = (nI q, s2) by first | rfl | simp [mNumL, h38, h54]))).symm) (by intro H h; rw [show S2 = s2 from congrArg Prod.snd (hF.trans (show mNumL d mo _ (nI q) s2 = (nI q, s2) by first | rfl | simp [mNumL, h38, h54]))]; exact h)
  | succ n ih =>
    refine G.aldn0 C dX4_readNumber_34 ?_
    refine G.getD C hinX4 11 (by decide) rfl (C.1.2.2.2.2 (.fieldLink RX4 124 RX4 "second" "I") (by decide +kernel)) rfl dX4_readNumber_35 ?_
    refine G.topI (s2) rfl ?_
    refine G.if_le C 105 dX4_readNumber_38 (by decide) (fun h38 => ?_) (fun h38 => ?_)
    · refine G.ild4 C dX4_readNumber_105 ?_
      exact G.iret C hlk hrt dX4_readNumber_107 (by exact (congrArg Prod.fst (hF.trans (show mNumL d mo _ (nI q) s2 = (nI q, s2) by first | rfl | simp [mNumL, h38]))).symm) (by intro H h; rw [show S2 = s2 from congrArg Prod.snd (hF.trans (show mNumL d mo _ (nI q) s2 = (nI q, s2) by first | rfl | simp [mNumL, h38]))]; exact h)
    · refine G.aldn0 C dX4_readNumber_41 ?_
      refine G.ild4 C dX4_readNumber_42 ?_
      refine G.callVI1 C (k_X4_at l (d := cW d 0 11 s2) (L := L) hL h60 rfl (by omega)) (cwV 1 C.1.2.2.2.2 gX4_readNumber_X4_at rfl rfl rfl (by decide +kernel) ⟨Nat.le_of_ble_eq_true rfl, Nat.le_of_ble_eq_true rfl⟩) gO_d rfl (Nat.le_of_ble_eq_true rfl) dX4_readNumber_44 ?_
      refine G.topI (mAtT d (nI q)) (mAtT_W (by decide)) ?_
      refine G.bipush C 48 dX4_readNumber_47 (by decide) ?_
      refine G.bipush C 57 dX4_readNumber_49 (by decide) ?_
      refine G.callSI3 C (k_X4_in l) (va_cwS 3 C.1.2.2.2.2 gX4_readNumber_X4_in rfl rfl rfl (by decide +kernel) ⟨Nat.le_of_ble_eq_true rfl, Nat.le_of_ble_eq_true rfl⟩) (Nat.le_of_ble_eq_true rfl) dX4_readNumber_51 ?_
      refine G.if_eqB C 105 dX4_readNumber_54 (by decide) (fun h54 => ?_) (fun h54 => ?_)
      · refine G.ild4 C dX4_readNumber_105 ?_
        exact G.iret C hlk hrt dX4_readNumber_107 (by exact (congrArg Prod.fst (hF.trans (show mNumL d mo _ (nI q) s2 = (nI q, s2) by first | rfl | simp [mNumL, h38, h54]))).symm) (by intro H h; rw [show S2 = s2 from congrArg Prod.snd (hF.trans (show mNumL d mo _ (nI q) s2 = (nI q, s2) by first | rfl | simp [mNumL, h38, h54]))]; exact h)
      · refine G.bipush C 10 dX4_readNumber_57 (by decide) ?_
        refine G.aldn0 C dX4_readNumber_59 ?_
        refine G.getD C hinX4 11 (by decide) rfl (C.1.2.2.2.2 (.fieldLink RX4 124 RX4 "second" "I") (by decide +kernel)) rfl dX4_readNumber_60 ?_
        refine G.topI (s2) rfl ?_
        refine G.imul C dX4_readNumber_63 ?_
        refine G.aldn0 C dX4_readNumber_64 ?_
        refine G.ild4 C dX4_readNumber_65 ?_
        refine G.callVI1 C (k_X4_at l (d := cW d 0 11 s2) (L := L) hL h60 rfl (by omega)) (cwV 1 C.1.2.2.2.2 gX4_readNumber_X4_at rfl rfl rfl (by decide +kernel) ⟨Nat.le_of_ble_eq_true rfl, Nat.le_of_ble_eq_true rfl⟩) gO_d rfl (Nat.le_of_ble_eq_true rfl) dX4_readNumber_67 ?_
        refine G.topI (mAtT d (nI q)) (mAtT_W (by decide)) ?_
        refine G.iadd C dX4_readNumber_70 ?_
        refine G.bipush C 48 dX4_readNumber_71 (by decide) ?_
        refine G.isub C dX4_readNumber_73 ?_
        refine G.ildn3 C dX4_readNumber_74 ?_
        refine G.icmp_gt C 105 dX4_readNumber_75 (by decide) (fun h75 => ?_) (fun h75 => ?_)
        · refine G.ild4 C dX4_readNumber_105 ?_
          exact G.iret C hlk hrt dX4_readNumber_107 (by exact (congrArg Prod.fst (hF.trans (show mNumL d mo _ (nI q) s2 = (nI q, s2) by first | rfl | simp [mNumL, h38, h54, h75]))).symm) (by intro H h; rw [show S2 = s2 from congrArg Prod.snd (hF.trans (show mNumL d mo _ (nI q) s2 = (nI q, s2) by first | rfl | simp [mNumL, h38, h54, h75]))]; exact h)
        · refine G.aldn0 C dX4_readNumber_78 ?_
          refine G.bipush C 10 dX4_readNumber_79 (by decide) ?_
          refine G.aldn0 C dX4_readNumber_81 ?_
          refine G.getD C hinX4 11 (by decide) rfl (C.1.2.2.2.2 (.fieldLink RX4 124 RX4 "second" "I") (by decide +kernel)) rfl dX4_readNumber_82 ?_
          refine G.topI (s2) rfl ?_
          refine G.imul C dX4_readNumber_85 ?_
          refine G.aldn0 C dX4_readNumber_86 ?_
          refine G.ild4 C dX4_readNumber_87 ?_
          refine G.callVI1 C (k_X4_at l (d := cW d 0 11 s2) (L := L) hL h60 rfl (by omega)) (cwV 1 C.1.2.2.2.2 gX4_readNumber_X4_at rfl rfl rfl (by decide +kernel) ⟨Nat.le_of_ble_eq_true rfl, Nat.le_of_ble_eq_true rfl⟩) gO_d rfl (Nat.le_of_ble_eq_true rfl) dX4_readNumber_89 ?_
          refine G.topI (mAtT d (nI q)) (mAtT_W (by decide)) ?_
          refine G.iadd C dX4_readNumber_92 ?_
          refine G.bipush C 48 dX4_readNumber_93 (by decide) ?_
          refine G.isub C dX4_readNumber_95 ?_
          refine G.putD (ty := .int) C hinX4 11 (by decide) rfl (C.1.2.2.2.2 (.fieldLink RX4 124 RX4 "second" "I") (by decide +kernel)) rfl rfl rfl rfl pfX4_11 dX4_readNumber_96 ?_
          refine G.cast (σ' := gU σ 10 (cW d 0 11 (10 * s2 + mAtT d (nI q) - 48))) ?_ (by rw [cW_cW]) rfl rfl rfl rfl
          refine G.iincN4 C dX4_readNumber_99 (by omega) rfl ?_
          refine G.goto C 34 dX4_readNumber_102 (by decide) ?_
          exact G.back (ih (q := q + 1) (s2 := 10 * s2 + mAtT d (nI q) - 48) (at_lt hL h60 (by omega) (fun e => by rw [e] at h54; exact absurd h54 (by decide))) (by omega) (by rw [hF, mNumL, if_pos ⟨h38, h54, h75⟩, nI_1])) rfl ⟨rfl, rfl, rfl, trivial⟩
set_option maxRecDepth 100000 in
set_option maxHeartbeats 4000000 in
theorem k_X4_readNumber (l : Launch) {E : gEn} {σ : gSt} {π : Nat → Nat} {o : Int64} {d : cSt} {fr le mo : Int32} {q : Nat} {L : Nat} (hL : d 0 8 = nI L) (h60 : L ≤ 60) (hp : fr = nI q) (hq : q < 1000) (hle : ¬ le < 0) : CtI l yX4_readNumber wsX4_readNumber ({ frames := 1, cells := 0, slots := 0, locals := 22 } : Room) E [.ref (E.2.1 10 0), .int fr, .int le, .int mo] (gU σ 10 d) π o ((mNum d fr le mo).1) (gU σ 10 (cW d 0 11 (mNum d fr le mo).2)) π o := by
  refine CtI.of (cc := cX4_readNumber) (own := RX4) (maxL := 5) (ret := (some .int)) [some (.ref (E.2.1 10 0)), some (.int fr), some (.int le), some (.int mo), none] (by decide) rfl rfl (Nat.le_of_ble_eq_true rfl) rfl ?_
  intro p e s m args below meth cd C hrt hlk
  have hinX4 : ∀ w ∈ wsX40, w ∈ wsX4_readNumber := by decide +kernel
  subst hp
  refine G.ildn1 C dX4_readNumber_0 ?_
  refine G.iconst C 1 dX4_readNumber_1 (by decide) ?_
  refine G.iadd C dX4_readNumber_2 ?_
  refine G.topI (nI (q + 1)) (nI_1 q) ?_
  refine G.ist4 C dX4_readNumber_3 (by omega) rfl ?_
  refine G.aldn0 C dX4_readNumber_5 ?_
  refine G.aldn0 C dX4_readNumber_6 ?_
  refine G.ildn1 C dX4_readNumber_7 ?_
  refine G.callVI1 C (k_X4_at l (L := L) hL h60 rfl hq) (cwV 1 C.1.2.2.2.2 gX4_readNumber_X4_at rfl rfl rfl (by decide +kernel) ⟨Nat.le_of_ble_eq_true rfl, Nat.le_of_ble_eq_true rfl⟩) gO_d rfl (Nat.le_of_ble_eq_true rfl) dX4_readNumber_8 ?_
  refine G.bipush C 48 dX4_readNumber_11 (by decide) ?_
  refine G.isub C dX4_readNumber_13 ?_
  refine G.putD (ty := .int) C hinX4 11 (by decide) rfl (C.1.2.2.2.2 (.fieldLink RX4 124 RX4 "second" "I") (by decide +kernel)) rfl rfl rfl rfl pfX4_11 dX4_readNumber_14 ?_
  refine G.aldn0 C dX4_readNumber_17 ?_
  refine G.getD C hinX4 11 (by decide) rfl (C.1.2.2.2.2 (.fieldLink RX4 124 RX4 "second" "I") (by decide +kernel)) rfl dX4_readNumber_18 ?_
  refine G.topI (mAtT d (nI q) - 48) rfl ?_
  refine G.ildn2 C dX4_readNumber_21 ?_
  refine G.bipush C 9 dX4_readNumber_22 (by decide) ?_
  refine G.callSI3 C (k_X4_in l) (va_cwS 3 C.1.2.2.2.2 gX4_readNumber_X4_in rfl rfl rfl (by decide +kernel) ⟨Nat.le_of_ble_eq_true rfl, Nat.le_of_ble_eq_true rfl⟩) (Nat.le_of_ble_eq_true rfl) dX4_readNumber_24 ?_
  refine G.if_neB C 34 dX4_readNumber_27 (by decide) (fun h27 => ?_) (fun h27 => ?_)
  · exact G.back (k_X4_readNumber_34 l (n := 61) hL h60 (at_lt hL h60 hq (fun e => by
      rw [e] at h27
      have h7 := (mIn_b h27).1
      rw [Int32.lt_iff_toInt_lt] at h7 hle
      have h1 : ((0 : Int32) - 48).toInt = -48 := by decide
      have h0 : (0 : Int32).toInt = 0 := by decide
      omega)) (by omega) (by rw [mNum, if_pos h27, nI_1]) C hrt hlk) rfl ⟨rfl, rfl, rfl, trivial⟩
  · refine G.iconst C (-1) dX4_readNumber_30 (by decide) ?_
    refine G.ildn1 C dX4_readNumber_31 ?_
    refine G.isub C dX4_readNumber_32 ?_
    exact G.iret C hlk hrt dX4_readNumber_33 (by rw [mNum, if_neg (by rw [h27]; decide)]) (by intro H h; rw [mNum, if_neg (by rw [h27]; decide)]; exact h)
set_option maxRecDepth 100000 in
set_option maxHeartbeats 4000000 in
theorem k_X4_readTwo (l : Launch) {E : gEn} {σ : gSt} {π : Nat → Nat} {o : Int64} {d : cSt} {fr mo sg le la : Int32} {q : Nat} {L : Nat} (hL : d 0 8 = nI L) (h60 : L ≤ 60) (hp : fr = nI q) (hq : q < 900) (hle : ¬ le < 0) : CtI l yX4_readTwo wsX4_readTwo ({ frames := 2, cells := 0, slots := 0, locals := 46 } : Room) E [.ref (E.2.1 10 0), .int fr, .int mo, .int sg, .int le, .int la] (gU σ 10 d) π o ((mTwo d fr mo sg le la).1) (gU σ 10 (mFS d (mTwo d fr mo sg le la).2.1 (mTwo d fr mo sg le la).2.2)) π o := by
  refine CtI.of (cc := cX4_readTwo) (own := RX4) (maxL := 7) (ret := (some .int)) [some (.ref (E.2.1 10 0)), some (.int fr), some (.int mo), some (.int sg), some (.int le), some (.int la), none] (by decide) rfl rfl (Nat.le_of_ble_eq_true rfl) rfl ?_
  intro p e s m args below meth cd C hrt hlk
  have hinX4 : ∀ w ∈ wsX40, w ∈ wsX4_readTwo := by decide +kernel
  subst hp
  refine G.aldn0 C dX4_readTwo_0 ?_
  refine G.ildn1 C dX4_readTwo_1 ?_
  refine G.iconst C 0 dX4_readTwo_2 (by decide) ?_
  refine G.ildn2 C dX4_readTwo_3 ?_
  refine G.callVI3 C (k_X4_readNumber l (L := L) hL h60 rfl (by omega) (by decide)) (cwV 3 C.1.2.2.2.2 gX4_readTwo_X4_readNumber rfl rfl rfl (by decide +kernel) ⟨Nat.le_of_ble_eq_true rfl, Nat.le_of_ble_eq_true rfl⟩) gO_d rfl (Nat.le_of_ble_eq_true rfl) dX4_readTwo_4 ?_
  refine G.ist6 C dX4_readTwo_7 (by omega) rfl ?_
  refine G.aldn0 C dX4_readTwo_9 ?_
  refine G.aldn0 C dX4_readTwo_10 ?_
  refine G.getD C hinX4 11 (by decide) rfl (C.1.2.2.2.2 (.fieldLink RX4 124 RX4 "second" "I") (by decide +kernel)) rfl dX4_readTwo_11 ?_
  refine G.topI ((mNum d (nI q) 0 mo).2) rfl ?_
  refine G.putD (ty := .int) C hinX4 10 (by decide) rfl (C.1.2.2.2.2 (.fieldLink RX4 131 RX4 "first" "I") (by decide +kernel)) rfl rfl rfl rfl pfX4_10 dX4_readTwo_14 ?_
  refine G.ild6 C dX4_readTwo_17 ?_
  refine G.if_ge C 25 dX4_readTwo_19 (by decide) (fun h19 => ?_) (fun h19 => ?_)
  · obtain ⟨q2, hq1, hq2, hqe⟩ := (mNum_at (mo := mo) hL h60 (by omega) (by decide : ¬ (0 : Int32) < 0)).resolve_left (i_nlt h19)
    refine G.aldn0 C dX4_readTwo_25 ?_
    refine G.ild6 C dX4_readTwo_26 ?_
    refine G.callVI1 C (k_X4_at l (d := cW (cW d 0 11 (mNum d (nI q) 0 mo).2) 0 10 (mNum d (nI q) 0 mo).2) (L := L) (q := q2) hL h60 hqe (by omega)) (cwV 1 C.1.2.2.2.2 gX4_readTwo_X4_at rfl rfl rfl (by decide +kernel) ⟨Nat.le_of_ble_eq_true rfl, Nat.le_of_ble_eq_true rfl⟩) gO_d rfl (Nat.le_of_ble_eq_true rfl) dX4_readTwo_28 ?_
    refine G.topI (mAtT d (mNum d (nI q) 0 mo).1) ((mAtT_W (by decide)).trans (mAtT_W (by decide))) ?_
    refine G.ildn3 C dX4_readTwo_31 ?_
    refine G.icmp_ne C 50 dX4_readTwo_32 (by decide) (fun h32 => ?_) (fun h32 => ?_)
    · refine G.iconst C (-1) dX4_readTwo_50 (by decide) ?_
      refine G.ild6 C dX4_readTwo_51 ?_
      refine G.isub C dX4_readTwo_53 ?_
      exact G.iret C hlk hrt dX4_readTwo_54 (by rw [mTwo, if_pos h19, if_neg h32]) (by intro H h; rw [mTwo, if_pos h19, if_neg h32, ← mFS_1]; exact h)
    · refine G.aldn0 C dX4_readTwo_35 ?_
      refine G.ild6 C dX4_readTwo_36 ?_
      refine G.iconst C 1 dX4_readTwo_38 (by decide) ?_
      refine G.iadd C dX4_readTwo_39 ?_
      refine G.ild4 C dX4_readTwo_40 ?_
      refine G.ild5 C dX4_readTwo_42 ?_
      refine G.callVI3 C (k_X4_readNumber l (d := cW (cW d 0 11 (mNum d (nI q) 0 mo).2) 0 10 (mNum d (nI q) 0 mo).2) (L := L) (q := q2 + 1) hL h60 (by rw [hqe]; exact nI_1 q2) (by omega) hle) (cwV 3 C.1.2.2.2.2 gX4_readTwo_X4_readNumber rfl rfl rfl (by decide +kernel) ⟨Nat.le_of_ble_eq_true rfl, Nat.le_of_ble_eq_true rfl⟩) gO_d rfl (Nat.le_of_ble_eq_true rfl) dX4_readTwo_44 ?_
      refine G.goto C 54 dX4_readTwo_47 (by decide) ?_
      exact G.iret C hlk hrt dX4_readTwo_54 (by rw [mTwo, if_pos h19, if_pos h32, mNum_W (by decide), mNum_W (by decide)]) (by intro H h; rw [mTwo, if_pos h19, if_pos h32, ← mFS_2 (a := (mNum d (nI q) 0 mo).2)]; rw [mNum_W (by decide), mNum_W (by decide)] at h; exact h)
  · refine G.ild6 C dX4_readTwo_22 ?_
    exact G.iret C hlk hrt dX4_readTwo_24 (by rw [mTwo, if_neg h19]) (by intro H h; rw [mTwo, if_neg h19, ← mFS_1]; exact h)
set_option maxRecDepth 100000 in
set_option maxHeartbeats 4000000 in
theorem k_X4_readPart (l : Launch) {E : gEn} {σ : gSt} {π : Nat → Nat} {o : Int64} {d : cSt} {fr : Int32} {q : Nat} {L : Nat} (hL : d 0 8 = nI L) (h60 : L ≤ 60) (hp : fr = nI q) (hq : q < 800) : CtI l yX4_readPart wsX4_readPart ({ frames := 3, cells := 0, slots := 0, locals := 72 } : Room) E [.ref (E.2.1 10 0), .int fr] (gU σ 10 d) π o ((mPart d fr).1) (gU σ 10 ((mPart d fr).2)) π o := by
  refine CtI.of (cc := cX4_readPart) (own := RX4) (maxL := 2) (ret := (some .int)) [some (.ref (E.2.1 10 0)), some (.int fr)] (by decide) rfl rfl (Nat.le_of_ble_eq_true rfl) rfl ?_
  intro p e s m args below meth cd C hrt hlk
  have hinX4 : ∀ w ∈ wsX40, w ∈ wsX4_readPart := by decide +kernel
  subst hp
  refine G.aldn0 C dX4_readPart_0 ?_
  refine G.aldn0 C dX4_readPart_1 ?_
  refine G.ildn1 C dX4_readPart_2 ?_
  refine G.callVI1 C (k_X4_at l (L := L) hL h60 rfl (by omega)) (cwV 1 C.1.2.2.2.2 gX4_readPart_X4_at rfl rfl rfl (by decide +kernel) ⟨Nat.le_of_ble_eq_true rfl, Nat.le_of_ble_eq_true rfl⟩) gO_d rfl (Nat.le_of_ble_eq_true rfl) dX4_readPart_3 ?_
  refine G.putD (ty := .int) C hinX4 9 (by decide) rfl (C.1.2.2.2.2 (.fieldLink RX4 134 RX4 "letter" "I") (by decide +kernel)) rfl rfl rfl rfl pfX4_9 dX4_readPart_6 ?_
  refine G.aldn0 C dX4_readPart_9 ?_
  refine G.getD C hinX4 9 (by decide) rfl (C.1.2.2.2.2 (.fieldLink RX4 134 RX4 "letter" "I") (by decide +kernel)) rfl dX4_readPart_10 ?_
  refine G.topI (mAtT d (nI q)) rfl ?_
  have hp13 : True := trivial
  by_cases h13_94 : mAtT d (nI q) = 94
  · refine G.lookup C 129 dX4_readPart_13 (by decide) (off := 116) (by rw [h13_94]; decide) (by decide) ?_
    refine G.ildn1 C dX4_readPart_129 ?_
    refine G.iconst C 1 dX4_readPart_130 (by decide) ?_
    refine G.iadd C dX4_readPart_131 ?_
    exact G.iret C hlk hrt dX4_readPart_132 (by rw [mPart, if_pos h13_94]) (by intro H h; rw [mPart, if_pos h13_94]; exact h)
  by_cases h13_98 : mAtT d (nI q) = 98
  · refine G.lookup C 88 dX4_readPart_13 (by decide) (off := 75) (by rw [h13_98]; decide) (by decide) ?_
    refine G.aldn0 C dX4_readPart_88 ?_
    refine G.ildn1 C dX4_readPart_89 ?_
    refine G.iconst C 1 dX4_readPart_90 (by decide) ?_
    refine G.iadd C dX4_readPart_91 ?_
    refine G.bipush C 23 dX4_readPart_92 (by decide) ?_
    refine G.bipush C 33 dX4_readPart_94 (by decide) ?_
    refine G.iconst C 1 dX4_readPart_96 (by decide) ?_
    refine G.bipush C 9 dX4_readPart_97 (by decide) ?_
    refine G.callVI5 C (k_X4_readTwo l (d := cW d 0 9 (mAtT d (nI q))) (L := L) (q := q + 1) hL h60 (nI_1 q) (by omega) (by decide)) (cwV 5 C.1.2.2.2.2 gX4_readPart_X4_readTwo rfl rfl rfl (by decide +kernel) ⟨Nat.le_of_ble_eq_true rfl, Nat.le_of_ble_eq_true rfl⟩) gO_d rfl (Nat.le_of_ble_eq_true rfl) dX4_readPart_99 ?_
    exact G.iret C hlk hrt dX4_readPart_102 (by rw [mPart, if_neg h13_94, if_pos h13_98]; exact congrArg Prod.fst (mTwo_W (by decide))) (by intro H h; rw [mPart, if_neg h13_94, if_pos h13_98]; rw [mTwo_W (by decide)] at h; exact h)
  by_cases h13_104 : mAtT d (nI q) = 104
  · refine G.lookup C 72 dX4_readPart_13 (by decide) (off := 59) (by rw [h13_104]; decide) (by decide) ?_
    refine G.aldn0 C dX4_readPart_72 ?_
    refine G.ildn1 C dX4_readPart_73 ?_
    refine G.iconst C 1 dX4_readPart_74 (by decide) ?_
    refine G.iadd C dX4_readPart_75 ?_
    refine G.bipush C 15 dX4_readPart_76 (by decide) ?_
    refine G.bipush C 64 dX4_readPart_78 (by decide) ?_
    refine G.iconst C 0 dX4_readPart_80 (by decide) ?_
    refine G.sipush C 1439 dX4_readPart_81 (by decide) ?_
    refine G.callVI5 C (k_X4_readTwo l (d := cW d 0 9 (mAtT d (nI q))) (L := L) (q := q + 1) hL h60 (nI_1 q) (by omega) (by decide)) (cwV 5 C.1.2.2.2.2 gX4_readPart_X4_readTwo rfl rfl rfl (by decide +kernel) ⟨Nat.le_of_ble_eq_true rfl, Nat.le_of_ble_eq_true rfl⟩) gO_d rfl (Nat.le_of_ble_eq_true rfl) dX4_readPart_84 ?_
    exact G.iret C hlk hrt dX4_readPart_87 (by rw [mPart, if_neg h13_94, if_neg h13_98, if_pos h13_104]; exact congrArg Prod.fst (mTwo_W (by decide))) (by intro H h; rw [mPart, if_neg h13_94, if_neg h13_98, if_pos h13_104]; rw [mTwo_W (by decide)] at h; exact h)
  by_cases h13_109 : mAtT d (nI q) = 109
  · refine G.lookup C 103 dX4_readPart_13 (by decide) (off := 90) (by rw [h13_109]; decide) (by decide) ?_
    refine G.aldn0 C dX4_readPart_103 ?_
    refine G.ildn1 C dX4_readPart_104 ?_
    refine G.iconst C 1 dX4_readPart_105 (by decide) ?_
    refine G.iadd C dX4_readPart_106 ?_
    refine G.bipush C 15 dX4_readPart_107 (by decide) ?_
    refine G.bipush C 43 dX4_readPart_109 (by decide) ?_
    refine G.iconst C 0 dX4_readPart_111 (by decide) ?_
    refine G.bipush C 15 dX4_readPart_112 (by decide) ?_
    refine G.callVI5 C (k_X4_readTwo l (d := cW d 0 9 (mAtT d (nI q))) (L := L) (q := q + 1) hL h60 (nI_1 q) (by omega) (by decide)) (cwV 5 C.1.2.2.2.2 gX4_readPart_X4_readTwo rfl rfl rfl (by decide +kernel) ⟨Nat.le_of_ble_eq_true rfl, Nat.le_of_ble_eq_true rfl⟩) gO_d rfl (Nat.le_of_ble_eq_true rfl) dX4_readPart_114 ?_
    exact G.iret C hlk hrt dX4_readPart_117 (by rw [mPart, if_neg h13_94, if_neg h13_98, if_neg h13_104, if_pos h13_109]; exact congrArg Prod.fst (mTwo_W (by decide))) (by intro H h; rw [mPart, if_neg h13_94, if_neg h13_98, if_neg h13_104, if_pos h13_109]; rw [mTwo_W (by decide)] at h; exact h)
  by_cases h13_111 : mAtT d (nI q) = 111
  · refine G.lookup C 118 dX4_readPart_13 (by decide) (off := 105) (by rw [h13_111]; decide) (by decide) ?_
    refine G.aldn0 C dX4_readPart_118 ?_
    refine G.ildn1 C dX4_readPart_119 ?_
    refine G.iconst C 1 dX4_readPart_120 (by decide) ?_
    refine G.iadd C dX4_readPart_121 ?_
    refine G.iconst C 0 dX4_readPart_122 (by decide) ?_
    refine G.bipush C 23 dX4_readPart_123 (by decide) ?_
    refine G.callVI3 C (k_X4_readNumber l (d := cW d 0 9 (mAtT d (nI q))) (L := L) (q := q + 1) hL h60 (nI_1 q) (by omega) (by decide)) (cwV 3 C.1.2.2.2.2 gX4_readPart_X4_readNumber rfl rfl rfl (by decide +kernel) ⟨Nat.le_of_ble_eq_true rfl, Nat.le_of_ble_eq_true rfl⟩) gO_d rfl (Nat.le_of_ble_eq_true rfl) dX4_readPart_125 ?_
    exact G.iret C hlk hrt dX4_readPart_128 (by first | (rw [mPart, if_neg h13_94, if_neg h13_98, if_neg h13_104, if_neg h13_109, if_pos h13_111]; exact congrArg Prod.fst (mNum_W (by decide))) | (rw [mPart, if_neg h13_94, if_neg h13_98, if_neg h13_104, if_neg h13_109, if_neg h13_111, if_pos h13_120]; exact congrArg Prod.fst (mNum_W (by decide)))) (by intro H h; rw [mNum_W (by decide)] at h; first | (rw [mPart, if_neg h13_94, if_neg h13_98, if_neg h13_104, if_neg h13_109, if_pos h13_111]; exact h) | (rw [mPart, if_neg h13_94, if_neg h13_98, if_neg h13_104, if_neg h13_109, if_neg h13_111, if_pos h13_120]; exact h))
  by_cases h13_120 : mAtT d (nI q) = 120
  · refine G.lookup C 118 dX4_readPart_13 (by decide) (off := 105) (by rw [h13_120]; decide) (by decide) ?_
    refine G.aldn0 C dX4_readPart_118 ?_
    refine G.ildn1 C dX4_readPart_119 ?_
    refine G.iconst C 1 dX4_readPart_120 (by decide) ?_
    refine G.iadd C dX4_readPart_121 ?_
    refine G.iconst C 0 dX4_readPart_122 (by decide) ?_
    refine G.bipush C 23 dX4_readPart_123 (by decide) ?_
    refine G.callVI3 C (k_X4_readNumber l (d := cW d 0 9 (mAtT d (nI q))) (L := L) (q := q + 1) hL h60 (nI_1 q) (by omega) (by decide)) (cwV 3 C.1.2.2.2.2 gX4_readPart_X4_readNumber rfl rfl rfl (by decide +kernel) ⟨Nat.le_of_ble_eq_true rfl, Nat.le_of_ble_eq_true rfl⟩) gO_d rfl (Nat.le_of_ble_eq_true rfl) dX4_readPart_125 ?_
    exact G.iret C hlk hrt dX4_readPart_128 (by first | (rw [mPart, if_neg h13_94, if_neg h13_98, if_neg h13_104, if_neg h13_109, if_pos h13_111]; exact congrArg Prod.fst (mNum_W (by decide))) | (rw [mPart, if_neg h13_94, if_neg h13_98, if_neg h13_104, if_neg h13_109, if_neg h13_111, if_pos h13_120]; exact congrArg Prod.fst (mNum_W (by decide)))) (by intro H h; rw [mNum_W (by decide)] at h; first | (rw [mPart, if_neg h13_94, if_neg h13_98, if_neg h13_104, if_neg h13_109, if_pos h13_111]; exact h) | (rw [mPart, if_neg h13_94, if_neg h13_98, if_neg h13_104, if_neg h13_109, if_neg h13_111, if_pos h13_120]; exact h))
  refine G.lookup C 133 dX4_readPart_13 (by decide) (off := 120) ((lv_osw h13_94 (by decide)).trans ((lv_osw h13_98 (by decide)).trans ((lv_osw h13_104 (by decide)).trans ((lv_osw h13_109 (by decide)).trans ((lv_osw h13_111 (by decide)).trans ((lv_osw h13_120 (by decide)).trans rfl)))))) (by decide) ?_
  refine G.iconst C (-1) dX4_readPart_133 (by decide) ?_
  refine G.ildn1 C dX4_readPart_134 ?_
  refine G.isub C dX4_readPart_135 ?_
  exact G.iret C hlk hrt dX4_readPart_136 (by rw [mPart, if_neg h13_94, if_neg h13_98, if_neg h13_104, if_neg h13_109, if_neg h13_111, if_neg h13_120]) (by intro H h; rw [mPart, if_neg h13_94, if_neg h13_98, if_neg h13_104, if_neg h13_109, if_neg h13_111, if_neg h13_120]; exact h)
