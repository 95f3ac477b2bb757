/-! the model: its public face but pass -/
section GD
variable {p : Program} {l : Launch} {e : Env} {R : Room} {s : State} {m : MethodId} {args : Array Value} {below : List Frame} {meth : Method} {c : Code} {Q : State → Prop} {cc : ByteArray} {own : String} {Ts : List Cond} {nL cl sl : Nat} {E : gEn} {A : Nat → Prop} {σ σ' : gSt} {π π' : Nat → Nat} {o o' : Int64}
theorem G.dconst0 (C : gCx p s m c cc nL own Ts args E A R cl sl) {pc : Nat} {lv : List (Option Value)} {st : List Value} (hd : decode cc pc = .ok (.dconst 0, 1)) (k : G p l e R s m args below meth c nL cl sl A Q E σ π o (pc + 1) lv (.double FP.dconst0 :: st)) : G p l e R s m args below meth c nL cl sl A Q E σ π o pc lv st := fun H locs ls hW hS hl => lv_dconst0 C.1.1 C.1.2.1 hd (k H locs ls hW hS hl)
theorem G.dconst1 (C : gCx p s m c cc nL own Ts args E A R cl sl) {pc : Nat} {lv : List (Option Value)} {st : List Value} (hd : decode cc pc = .ok (.dconst 1, 1)) (k : G p l e R s m args below meth c nL cl sl A Q E σ π o (pc + 1) lv (.double FP.dconst1 :: st)) : G p l e R s m args below meth c nL cl sl A Q E σ π o pc lv st := fun H locs ls hW hS hl => lv_dconst1 C.1.1 C.1.2.1 hd (k H locs ls hW hS hl)
theorem G.d2l (C : gCx p s m c cc nL own Ts args E A R cl sl) {pc : Nat} {lv : List (Option Value)} {st : List Value} {x : UInt64} (hd : decode cc pc = .ok (.d2l, 1)) (k : G p l e R s m args below meth c nL cl sl A Q E σ π o (pc + 1) lv (.long (FP.d2l x) :: st)) : G p l e R s m args below meth c nL cl sl A Q E σ π o pc lv (.double x :: st) := fun H locs ls hW hS hl => lv_d2l C.1.1 C.1.2.1 hd (k H locs ls hW hS hl)
theorem G.dmul (C : gCx p s m c cc nL own Ts args E A R cl sl) {pc : Nat} {lv : List (Option Value)} {st : List Value} {x y : UInt64} (hd : decode cc pc = .ok (.dmul, 1)) (hne : vf_n64 (FP.dmul x y)) (k : G p l e R s m args below meth c nL cl sl A Q E σ π o (pc + 1) lv (.double (FP.dmul x y) :: st)) : G p l e R s m args below meth c nL cl sl A Q E σ π o pc lv (.double y :: .double x :: st) := fun H locs ls hW hS hl => lv_dmul C.1.1 C.1.2.1 hd hne (k H locs ls hW hS hl)
theorem G.dsub (C : gCx p s m c cc nL own Ts args E A R cl sl) {pc : Nat} {lv : List (Option Value)} {st : List Value} {x y : UInt64} (hd : decode cc pc = .ok (.dsub, 1)) (hne : vf_n64 (FP.dsub x y)) (k : G p l e R s m args below meth c nL cl sl A Q E σ π o (pc + 1) lv (.double (FP.dsub x y) :: st)) : G p l e R s m args below meth c nL cl sl A Q E σ π o pc lv (.double y :: .double x :: st) := fun H locs ls hW hS hl => lv_dsub C.1.1 C.1.2.1 hd hne (k H locs ls hW hS hl)
theorem G.dcmp (C : gCx p s m c cc nL own Ts args E A R cl sl) {pc : Nat} {lv : List (Option Value)} {st : List Value} {x y : UInt64} {op : CmpOp} (hd : decode cc pc = .ok (.dcmp op, 1)) (k : G p l e R s m args below meth c nL cl sl A Q E σ π o (pc + 1) lv (.int (Op.cmpValue (FP.dcmp x y) op) :: st)) : G p l e R s m args below meth c nL cl sl A Q E σ π o pc lv (.double y :: .double x :: st) := fun H locs ls hW hS hl => lv_dcmp C.1.1 C.1.2.1 hd (k H locs ls hW hS hl)
theorem G.ldc2d (C : gCx p s m c cc nL own Ts args E A R cl sl) {pc : Nat} {lv : List (Option Value)} {st : List Value} {index : Nat} {v : UInt64} (hc : (Jvm.Cond.constantDouble own index v).before args s = true) (hd : decode cc pc = .ok (.ldc2_w index, 3)) (k : G p l e R s m args below meth c nL cl sl A Q E σ π o (pc + 3) lv (.double v :: st)) : G p l e R s m args below meth c nL cl sl A Q E σ π o pc lv st := fun H locs ls hW hS hl => lv_ldc2d C.1.1 C.1.2.1 C.1.2.2.2.1 hc hd (k H locs ls hW hS hl)
theorem G.topL {pc : Nat} {lv : List (Option Value)} {st : List Value} {x : Int64} (y : Int64) (h : x = y) (k : G p l e R s m args below meth c nL cl sl A Q E σ π o pc lv (.long y :: st)) : G p l e R s m args below meth c nL cl sl A Q E σ π o pc lv (.long x :: st) := by
  subst h; exact k
end GD
theorem mIn_nI {x : Int32} {a b : Nat} (h : mIn x (nI a) (nI b) = true) (ha : a < 2 ^ 31) (hb : b < 2 ^ 31) : ∃ j, a ≤ j ∧ j ≤ b ∧ x = nI j := by
  obtain ⟨h1, h2⟩ := mIn_b h
  rw [Int32.lt_iff_toInt_lt, nI_toInt hb] at h2
  rw [Int32.lt_iff_toInt_lt, nI_toInt ha] at h1
  have h0 : ¬ x < 0 := by
    rw [Int32.lt_iff_toInt_lt]
    have : (0 : Int32).toInt = 0 := by decide
    omega
  obtain ⟨j, hj, e⟩ := nI_of h0
  subst e
  rw [nI_toInt hj] at h1 h2
  exact ⟨j, by omega, by omega, rfl⟩
def mR (d : cSt) (sv : Nat) : cSt := mRec (cW d 0 0 0) sv
theorem mCpy_row {d : cSt} {j0 b j1 b1 n j : Nat} (h : j ≠ j0) : mCpy d j0 b j1 b1 n j = d j := funext fun q => mCpy_ne h
theorem cW0 {d : cSt} {k : Nat} {v : Int32} {j : Nat} (h : j ≠ 0) : cW d 0 k v j = d j := funext fun q => by simp [cW, h]
theorem mRec5_row {d : cSt} {sv j : Nat} (h0 : j ≠ 0) (h3 : j ≠ 3) : mRec5 d sv j = d j := by unfold mRec5; rw [cW0 h0, mCpy_row h3]
theorem mR_row {d : cSt} {sv j : Nat} (h0 : j ≠ 0) (h3 : j ≠ 3) : mR d sv j = d j := by
  unfold mR mRec
  split
  · rw [mRec5_row h0 h3, cW0 h0, mCpy_row h3, cW0 h0]
  · rw [mRec5_row h0 h3, cW0 h0]
theorem mR_1 {d : cSt} {sv : Nat} : mR d sv 1 = d 1 := mR_row (by decide) (by decide)
theorem mOK_1 {d e : cSt} (h : e 1 = d 1) (hk : mOK d) : mOK e := by
  intro k h2
  rw [h]; exact hk k h2
theorem mFirstF_1 {d e : cSt} (h : e 1 = d 1) : ∀ n k, mFirstF e n k = mFirstF d n k
  | 0, k => rfl
  | n + 1, k => by
    have hd : ∀ x, mDove e x = mDove d x := fun x => by unfold mDove; rw [h]
    unfold mFirstF
    rw [hd, mFirstF_1 h n]
def pHome (d : cSt) (sv : Nat) (x t : Int32) : Int32 × cSt := if mDove d x = true then (if mIn t 0 1439 = true then (if mWhyH d x t ≤ 0 then ((mHome (mR d sv) x t).2, (mHome (mR d sv) x t).1) else (0, cW d 0 0 3)) else (0, cW d 0 0 2)) else (0, cW d 0 0 1)
def pDawn (d : cSt) (sv : Nat) : Int32 × cSt := (mAt (mR d sv) 0 23, mDawn (mR d sv))
def pBuy (d : cSt) (sv : Nat) (x y : Int32) : Int32 × cSt := if mIn x 0 23 = true then (if mIn y 1 9 = true then (if mWhyD d x ≤ 0 then mBuy (mR d sv) x y else (0, cW d 0 0 3)) else (0, cW d 0 0 2)) else (0, cW d 0 0 1)
def mSell1 (d : cSt) (x : Int32) : cSt := if d 1 (9 * ix x + 4) < 0 then d else cW d 1 (9 * ix (d 1 (9 * ix x + 4)) + 4) (-1)
def mSell (d : cSt) (x : Int32) : Int32 × cSt := (cW (mSell1 d x) 1 (9 * ix x) 0 1 (9 * ix x + 3), cW (mSell1 d x) 1 (9 * ix x) 0)
def pSell (d : cSt) (sv : Nat) (x : Int32) : Int32 × cSt := if mDove d x = true then mSell (mR d sv) x else (0, cW d 0 0 1)
def pMate (d : cSt) (sv : Nat) (x y : Int32) : Int32 × cSt := if mDove d x = true then (if mDove d y = true then (if mWhyM d x y ≤ 0 then (mPairs (mMate (mR d sv) x y), mMate (mR d sv) x y) else (0, cW d 0 0 2)) else (0, cW d 0 0 1)) else (0, cW d 0 0 1)
def pShut (d : cSt) (sv : Nat) (x : Int32) : Int32 × cSt := if mIn x 0 23 = true then (if mWhyS d x ≤ 0 then (mOpens (cW (mR d sv) 1 (144 + ix x) 1), cW (mR d sv) 1 (144 + ix x) 1) else (0, cW d 0 0 2)) else (0, cW d 0 0 1)
def pOpen (d : cSt) (sv : Nat) (x : Int32) : Int32 × cSt := if mIn x 0 23 = true then (mOpens (cW (mR d sv) 1 (144 + ix x) 0), cW (mR d sv) 1 (144 + ix x) 0) else (0, cW d 0 0 1)
def mSet (d : cSt) (x y : Int32) : Int32 × cSt := (d 1 (170 + ix x), cW d 1 (170 + ix x) y)
def pSet (d : cSt) (sv : Nat) (x y : Int32) : Int32 × cSt := if mIn x 0 1 = true then (if x = 0 then (if mIn y 0 1439 = true then mSet (mR d sv) x y else (0, cW d 0 0 2)) else (if mIn y 0 24 = true then mSet (mR d sv) x y else (0, cW d 0 0 2))) else (0, cW d 0 0 1)
def pAppend (d : cSt) (x : Int32) : Int32 × cSt := if mIn x 33 126 = true then (if d 0 8 = 60 then (0, cW d 0 0 2) else (d 0 8 + 1, cW (cW (cW d 0 0 0) 5 (ix (d 0 8)) x) 0 8 (d 0 8 + 1))) else (0, cW d 0 0 1)
def pStopped (d : cSt) (x : Int32) : Int32 × cSt := if mIn x 0 1 = true then (cW d 0 0 0 1 (178 + ix x), cW d 0 0 0) else (0, cW d 0 0 1)
def pDove (d : cSt) (x y : Int32) : Int32 × cSt := if mDove d x = true then (if mIn y 0 7 = true then (mDoveN (cW d 0 0 0) x y, cW d 0 0 0) else (0, cW d 0 0 2)) else (0, cW d 0 0 1)
def pHole (d : cSt) (x y : Int32) : Int32 × cSt := if mIn x 0 23 = true then (if mIn y 0 2 = true then (mHoleN (cW d 0 0 0) x y, cW d 0 0 0) else (0, cW d 0 0 2)) else (0, cW d 0 0 1)
def pCount (d : cSt) (x : Int32) : Int32 × cSt := if mIn x 0 17 = true then (mNumN (cW d 0 0 0) x, cW d 0 0 0) else (0, cW d 0 0 1)
def pStep (d : cSt) (x y : Int32) : Int32 × cSt := if x < 0 then (0, cW d 0 0 1) else if mIn y 0 1 = true then (if d 1 180 ≤ x then (-1, cW d 0 0 0) else (cW d 0 0 0 1 (181 + 2 * ix x + ix y), cW d 0 0 0)) else (0, cW d 0 0 1)
def pWhy (d : cSt) (x t : Int32) : Int32 × cSt := if mDove d x = true then (if mIn t 0 1439 = true then (mWhyH (cW d 0 0 0) x t, cW d 0 0 0) else (0, cW d 0 0 2)) else (0, cW d 0 0 1)
def pIfHome (d : cSt) (x t w : Int32) : Int32 × cSt := if mDove d x = true then (if mIn t 0 1439 = true then (if mIn w 0 2 = true then (mHomeIf (cW d 0 0 0) x t w, mHomeIfS (cW d 0 0 0) x t) else (0, cW d 0 0 2)) else (0, cW d 0 0 2)) else (0, cW d 0 0 1)
/-- base + a small index -/
theorem bx_in {x : Int32} {a b c n : Nat} (h : mIn x (nI a) (nI b) = true) (hab : a < 2 ^ 31) (hb : b < 2 ^ 30) (hc : c + b < n) (hn : n < 2 ^ 30) : vp_in (nI c + x) n ∧ ix (nI c + x) = c + ix x := by
  obtain ⟨j, h1, h2, rfl⟩ := mIn_nI h hab (by omega)
  rw [nI_add, ix_nI (by omega), ix_nI (by omega)]
  exact ⟨vp_in_nI (by omega) (by omega), rfl⟩
theorem bx_in2 {x : Int32} {a b c e n : Nat} (h : mIn x (nI a) (nI b) = true) (hab : a < 2 ^ 31) (hb : b < 2 ^ 29) (he : e ≤ c + a) (hc : c + b < n + e) (hn : n < 2 ^ 29) (he2 : e < 2 ^ 29) : vp_in (nI c + x - nI e) n ∧ ix (nI c + x - nI e) = c + ix x - e := by
  obtain ⟨j, h1, h2, rfl⟩ := mIn_nI h hab (by omega)
  rw [nI_add, pk_sub (by omega), ix_nI (by omega), ix_nI (by omega)]
  exact ⟨vp_in_nI (by omega) (by omega), rfl⟩
set_option maxRecDepth 100000 in
set_option maxHeartbeats 4000000 in
theorem k_X4_home (l : Launch) {E : gEn} {σ : gSt} {π : Nat → Nat} {o : Int64} {d : cSt} {x t : Int32} {sv : Nat} (hs : d 0 4 = nI sv) (hle : sv ≤ 6) {moN : Nat} (hok : mOK d) (hmo : d 1 171 = nI moN) (h24 : moN ≤ 24) : CtI l yX4_home wsX4_home ({ frames := 6, cells := 0, slots := 0, locals := 140 } : Room) E [.ref (E.2.1 10 0), .int x, .int t] (gU σ 10 d) π o ((pHome d sv x t).1) (gU σ 10 ((pHome d sv x t).2)) π o := by
  refine CtI.of (cc := cX4_home) (own := RX4) (maxL := 3) (ret := (some .int)) [some (.ref (E.2.1 10 0)), some (.int x), some (.int t)] (by decide) rfl rfl (Nat.le_of_ble_eq_true rfl) rfl ?_
  intro p e s m args below meth cd C hrt hlk
  have hinX4 : ∀ w ∈ wsX40, w ∈ wsX4_home := by decide +kernel
  refine G.aldn0 C dX4_home_0 ?_
  refine G.aldn0 C dX4_home_1 ?_
  refine G.ildn1 C dX4_home_2 ?_
  refine G.callVI1 C (k_X4_isDove l) (cwV 1 C.1.2.2.2.2 gX4_home_X4_isDove rfl rfl rfl (by decide +kernel) ⟨Nat.le_of_ble_eq_true rfl, Nat.le_of_ble_eq_true rfl⟩) gO_d rfl (Nat.le_of_ble_eq_true rfl) dX4_home_3 ?_
  refine G.if_neB C 13 dX4_home_6 (by decide) (fun h6 => ?_) (fun h6 => ?_)
  · refine G.ildn2 C dX4_home_13 ?_
    refine G.iconst C 0 dX4_home_14 (by decide) ?_
    refine G.sipush C 1439 dX4_home_15 (by decide) ?_
    refine G.callSI3 C (k_X4_in l) (va_cwS 3 C.1.2.2.2.2 gX4_home_X4_in rfl rfl rfl (by decide +kernel) ⟨Nat.le_of_ble_eq_true rfl, Nat.le_of_ble_eq_true rfl⟩) (Nat.le_of_ble_eq_true rfl) dX4_home_18 ?_
    refine G.if_neB C 28 dX4_home_21 (by decide) (fun h21 => ?_) (fun h21 => ?_)
    · refine G.aldn0 C dX4_home_28 ?_
      refine G.ildn1 C dX4_home_29 ?_
      refine G.ildn2 C dX4_home_30 ?_
      refine G.callVI2 C (k_X4_whyNoHome l (mDove_in h6)) (cwV 2 C.1.2.2.2.2 gX4_home_X4_whyNoHome rfl rfl rfl (by decide +kernel) ⟨Nat.le_of_ble_eq_true rfl, Nat.le_of_ble_eq_true rfl⟩) gO_d rfl (Nat.le_of_ble_eq_true rfl) dX4_home_31 ?_
      refine G.if_le C 41 dX4_home_34 (by decide) (fun h34 => ?_) (fun h34 => ?_)
      · refine G.iconst C 0 dX4_home_41 (by decide) ?_
        refine G.putD (ty := .int) C hinX4 0 (by decide) rfl (C.1.2.2.2.2 (.fieldLink RX4 25 RX4 "thrown" "I") (by decide +kernel)) rfl rfl rfl rfl pfX4_0 dX4_home_42 ?_
        refine G.aldn0 C dX4_home_45 ?_
        refine G.getD C hinX4 0 (by decide) rfl (C.1.2.2.2.2 (.fieldLink RX4 25 RX4 "thrown" "I") (by decide +kernel)) rfl dX4_home_46 ?_
        refine G.topI (0) rfl ?_
        refine G.if_le C 54 dX4_home_49 (by decide) (fun _ => ?_) (fun h => absurd (by decide) h)
        refine G.aldn0 C dX4_home_54 ?_
        refine G.callVV0 C (k_X4_record l (d := cW d 0 0 0) hs hle rfl) (cwV 0 C.1.2.2.2.2 gX4_home_X4_record rfl rfl rfl (by decide +kernel) ⟨Nat.le_of_ble_eq_true rfl, Nat.le_of_ble_eq_true rfl⟩) gO_d rfl (Nat.le_of_ble_eq_true rfl) dX4_home_55 ?_
        refine G.aldn0 C dX4_home_58 ?_
        refine G.ildn1 C dX4_home_59 ?_
        refine G.ildn2 C dX4_home_60 ?_
        refine G.callVI2 C (k_X4_doHome l (d := mR d sv) (mDove_in h6) (mOK_1 mR_1 hok) (by rw [mR_1]; exact hmo) h24 rfl rfl) (cwV 2 C.1.2.2.2.2 gX4_home_X4_doHome rfl rfl rfl (by decide +kernel) ⟨Nat.le_of_ble_eq_true rfl, Nat.le_of_ble_eq_true rfl⟩) gO_d rfl (Nat.le_of_ble_eq_true rfl) dX4_home_61 ?_
        exact G.iret C hlk hrt dX4_home_64 (by rw [pHome, if_pos h6, if_pos h21, if_pos h34] <;> rfl) (by intro H h; rw [pHome, if_pos h6, if_pos h21, if_pos h34]; exact h)
      · refine G.iconst C 3 dX4_home_37 (by decide) ?_
        refine G.goto C 42 dX4_home_38 (by decide) ?_
        refine G.putD (ty := .int) C hinX4 0 (by decide) rfl (C.1.2.2.2.2 (.fieldLink RX4 25 RX4 "thrown" "I") (by decide +kernel)) rfl rfl rfl rfl pfX4_0 dX4_home_42 ?_
        refine G.aldn0 C dX4_home_45 ?_
        refine G.getD C hinX4 0 (by decide) rfl (C.1.2.2.2.2 (.fieldLink RX4 25 RX4 "thrown" "I") (by decide +kernel)) rfl dX4_home_46 ?_
        refine G.topI (3) rfl ?_
        refine G.if_le C 54 dX4_home_49 (by decide) (fun h => absurd h (by decide)) (fun _ => ?_)
        refine G.iconst C 0 dX4_home_52 (by decide) ?_
        exact G.iret C hlk hrt dX4_home_53 (by rw [pHome, if_pos h6, if_pos h21, if_neg h34] <;> rfl) (by intro H h; rw [pHome, if_pos h6, if_pos h21, if_neg h34]; exact h)
    · refine G.iconst C 2 dX4_home_24 (by decide) ?_
      refine G.goto C 42 dX4_home_25 (by decide) ?_
      refine G.putD (ty := .int) C hinX4 0 (by decide) rfl (C.1.2.2.2.2 (.fieldLink RX4 25 RX4 "thrown" "I") (by decide +kernel)) rfl rfl rfl rfl pfX4_0 dX4_home_42 ?_
      refine G.aldn0 C dX4_home_45 ?_
      refine G.getD C hinX4 0 (by decide) rfl (C.1.2.2.2.2 (.fieldLink RX4 25 RX4 "thrown" "I") (by decide +kernel)) rfl dX4_home_46 ?_
      refine G.topI (2) rfl ?_
      refine G.if_le C 54 dX4_home_49 (by decide) (fun h => absurd h (by decide)) (fun _ => ?_)
      refine G.iconst C 0 dX4_home_52 (by decide) ?_
      exact G.iret C hlk hrt dX4_home_53 (by rw [pHome, if_pos h6, if_neg (by rw [h21]; decide)] <;> rfl) (by intro H h; rw [pHome, if_pos h6, if_neg (by rw [h21]; decide)]; exact h)
  · refine G.iconst C 1 dX4_home_9 (by decide) ?_
    refine G.goto C 42 dX4_home_10 (by decide) ?_
    refine G.putD (ty := .int) C hinX4 0 (by decide) rfl (C.1.2.2.2.2 (.fieldLink RX4 25 RX4 "thrown" "I") (by decide +kernel)) rfl rfl rfl rfl pfX4_0 dX4_home_42 ?_
    refine G.aldn0 C dX4_home_45 ?_
    refine G.getD C hinX4 0 (by decide) rfl (C.1.2.2.2.2 (.fieldLink RX4 25 RX4 "thrown" "I") (by decide +kernel)) rfl dX4_home_46 ?_
    refine G.topI (1) rfl ?_
    refine G.if_le C 54 dX4_home_49 (by decide) (fun h => absurd h (by decide)) (fun _ => ?_)
    refine G.iconst C 0 dX4_home_52 (by decide) ?_
    exact G.iret C hlk hrt dX4_home_53 (by rw [pHome, if_neg (by rw [h6]; decide)] <;> rfl) (by intro H h; rw [pHome, if_neg (by rw [h6]; decide)]; exact h)
set_option maxRecDepth 100000 in
set_option maxHeartbeats 4000000 in
theorem k_X4_dawn (l : Launch) {E : gEn} {σ : gSt} {π : Nat → Nat} {o : Int64} {d : cSt} {sv : Nat} (hs : d 0 4 = nI sv) (hle : sv ≤ 6) : CtI l yX4_dawn wsX4_dawn ({ frames := 4, cells := 0, slots := 0, locals := 91 } : Room) E [.ref (E.2.1 10 0)] (gU σ 10 d) π o ((pDawn d sv).1) (gU σ 10 ((pDawn d sv).2)) π o := by
  refine CtI.of (cc := cX4_dawn) (own := RX4) (maxL := 1) (ret := (some .int)) [some (.ref (E.2.1 10 0))] (by decide) rfl rfl (Nat.le_of_ble_eq_true rfl) rfl ?_
  intro p e s m args below meth cd C hrt hlk
  have hinX4 : ∀ w ∈ wsX40, w ∈ wsX4_dawn := by decide +kernel
  refine G.aldn0 C dX4_dawn_0 ?_
  refine G.iconst C 0 dX4_dawn_1 (by decide) ?_
  refine G.putD (ty := .int) C hinX4 0 (by decide) rfl (C.1.2.2.2.2 (.fieldLink RX4 25 RX4 "thrown" "I") (by decide +kernel)) rfl rfl rfl rfl pfX4_0 dX4_dawn_2 ?_
  refine G.aldn0 C dX4_dawn_5 ?_
  refine G.callVV0 C (k_X4_record l (by assumption) (by assumption) rfl) (cwV 0 C.1.2.2.2.2 gX4_dawn_X4_record rfl rfl rfl (by decide +kernel) ⟨Nat.le_of_ble_eq_true rfl, Nat.le_of_ble_eq_true rfl⟩) gO_d rfl (Nat.le_of_ble_eq_true rfl) dX4_dawn_6 ?_
  refine G.aldn0 C dX4_dawn_9 ?_
  refine G.callVI0 C (k_X4_doDawn l) (cwV 0 C.1.2.2.2.2 gX4_dawn_X4_doDawn rfl rfl rfl (by decide +kernel) ⟨Nat.le_of_ble_eq_true rfl, Nat.le_of_ble_eq_true rfl⟩) gO_d rfl (Nat.le_of_ble_eq_true rfl) dX4_dawn_10 ?_
  exact G.iret C hlk hrt dX4_dawn_13 (by rfl) (by exact fun _ h => h)
set_option maxRecDepth 100000 in
set_option maxHeartbeats 4000000 in
theorem k_X4_buy (l : Launch) {E : gEn} {σ : gSt} {π : Nat → Nat} {o : Int64} {d : cSt} {x y : Int32} {kf : Nat} {sv : Nat} (hs : d 0 4 = nI sv) (hle : sv ≤ 6) (hkf : mIn x 0 23 = true → mWhyD d x ≤ 0 → mFirstF d 16 0 = some kf) : CtI l yX4_buy wsX4_buy ({ frames := 4, cells := 0, slots := 0, locals := 87 } : Room) E [.ref (E.2.1 10 0), .int x, .int y] (gU σ 10 d) π o ((pBuy d sv x y).1) (gU σ 10 ((pBuy d sv x y).2)) π o := by
  refine CtI.of (cc := cX4_buy) (own := RX4) (maxL := 3) (ret := (some .int)) [some (.ref (E.2.1 10 0)), some (.int x), some (.int y)] (by decide) rfl rfl (Nat.le_of_ble_eq_true rfl) rfl ?_
  intro p e s m args below meth cd C hrt hlk
  have hinX4 : ∀ w ∈ wsX40, w ∈ wsX4_buy := by decide +kernel
  refine G.aldn0 C dX4_buy_0 ?_
  refine G.ildn1 C dX4_buy_1 ?_
  refine G.callSI1 C (k_X4_isHole l) (va_cwS 1 C.1.2.2.2.2 gX4_buy_X4_isHole rfl rfl rfl (by decide +kernel) ⟨Nat.le_of_ble_eq_true rfl, Nat.le_of_ble_eq_true rfl⟩) (Nat.le_of_ble_eq_true rfl) dX4_buy_2 ?_
  refine G.if_neB C 12 dX4_buy_5 (by decide) (fun h5 => ?_) (fun h5 => ?_)
  · refine G.ildn2 C dX4_buy_12 ?_
    refine G.iconst C 1 dX4_buy_13 (by decide) ?_
    refine G.bipush C 9 dX4_buy_14 (by decide) ?_
    refine G.callSI3 C (k_X4_in l) (va_cwS 3 C.1.2.2.2.2 gX4_buy_X4_in rfl rfl rfl (by decide +kernel) ⟨Nat.le_of_ble_eq_true rfl, Nat.le_of_ble_eq_true rfl⟩) (Nat.le_of_ble_eq_true rfl) dX4_buy_16 ?_
    refine G.if_neB C 26 dX4_buy_19 (by decide) (fun h19 => ?_) (fun h19 => ?_)
    · refine G.aldn0 C dX4_buy_26 ?_
      refine G.ildn1 C dX4_buy_27 ?_
      refine G.callVI1 C (k_X4_whyNoDove l (mIn_in24 h5)) (cwV 1 C.1.2.2.2.2 gX4_buy_X4_whyNoDove rfl rfl rfl (by decide +kernel) ⟨Nat.le_of_ble_eq_true rfl, Nat.le_of_ble_eq_true rfl⟩) gO_d rfl (Nat.le_of_ble_eq_true rfl) dX4_buy_28 ?_
      refine G.if_le C 38 dX4_buy_31 (by decide) (fun h31 => ?_) (fun h31 => ?_)
      · refine G.iconst C 0 dX4_buy_38 (by decide) ?_
        refine G.putD (ty := .int) C hinX4 0 (by decide) rfl (C.1.2.2.2.2 (.fieldLink RX4 25 RX4 "thrown" "I") (by decide +kernel)) rfl rfl rfl rfl pfX4_0 dX4_buy_39 ?_
        refine G.aldn0 C dX4_buy_42 ?_
        refine G.getD C hinX4 0 (by decide) rfl (C.1.2.2.2.2 (.fieldLink RX4 25 RX4 "thrown" "I") (by decide +kernel)) rfl dX4_buy_43 ?_
        refine G.topI (0) rfl ?_
        refine G.if_le C 51 dX4_buy_46 (by decide) (fun _ => ?_) (fun h => absurd (by decide) h)
        refine G.aldn0 C dX4_buy_51 ?_
        refine G.callVV0 C (k_X4_record l (d := cW d 0 0 0) hs hle rfl) (cwV 0 C.1.2.2.2.2 gX4_buy_X4_record rfl rfl rfl (by decide +kernel) ⟨Nat.le_of_ble_eq_true rfl, Nat.le_of_ble_eq_true rfl⟩) gO_d rfl (Nat.le_of_ble_eq_true rfl) dX4_buy_52 ?_
        refine G.aldn0 C dX4_buy_55 ?_
        refine G.ildn1 C dX4_buy_56 ?_
        refine G.ildn2 C dX4_buy_57 ?_
        refine G.callVI2 C (k_X4_doBuy l (d := mR d sv) (by rw [mFirstF_1 mR_1]; exact hkf h5 h31)) (cwV 2 C.1.2.2.2.2 gX4_buy_X4_doBuy rfl rfl rfl (by decide +kernel) ⟨Nat.le_of_ble_eq_true rfl, Nat.le_of_ble_eq_true rfl⟩) gO_d rfl (Nat.le_of_ble_eq_true rfl) dX4_buy_58 ?_
        exact G.iret C hlk hrt dX4_buy_61 (by rw [pBuy, if_pos h5, if_pos h19, if_pos h31, mBuy_k (by rw [mFirstF_1 mR_1]; exact hkf h5 h31)]) (by intro H h; rw [pBuy, if_pos h5, if_pos h19, if_pos h31, mBuy_k (by rw [mFirstF_1 mR_1]; exact hkf h5 h31)]; exact h)
      · refine G.iconst C 3 dX4_buy_34 (by decide) ?_
        refine G.goto C 39 dX4_buy_35 (by decide) ?_
        refine G.putD (ty := .int) C hinX4 0 (by decide) rfl (C.1.2.2.2.2 (.fieldLink RX4 25 RX4 "thrown" "I") (by decide +kernel)) rfl rfl rfl rfl pfX4_0 dX4_buy_39 ?_
        refine G.aldn0 C dX4_buy_42 ?_
        refine G.getD C hinX4 0 (by decide) rfl (C.1.2.2.2.2 (.fieldLink RX4 25 RX4 "thrown" "I") (by decide +kernel)) rfl dX4_buy_43 ?_
        refine G.topI (3) rfl ?_
        refine G.if_le C 51 dX4_buy_46 (by decide) (fun h => absurd h (by decide)) (fun _ => ?_)
        refine G.iconst C 0 dX4_buy_49 (by decide) ?_
        exact G.iret C hlk hrt dX4_buy_50 (by rw [pBuy, if_pos h5, if_pos h19, if_neg h31]) (by intro H h; rw [pBuy, if_pos h5, if_pos h19, if_neg h31]; exact h)
    · refine G.iconst C 2 dX4_buy_22 (by decide) ?_
      refine G.goto C 39 dX4_buy_23 (by decide) ?_
      refine G.putD (ty := .int) C hinX4 0 (by decide) rfl (C.1.2.2.2.2 (.fieldLink RX4 25 RX4 "thrown" "I") (by decide +kernel)) rfl rfl rfl rfl pfX4_0 dX4_buy_39 ?_
      refine G.aldn0 C dX4_buy_42 ?_
      refine G.getD C hinX4 0 (by decide) rfl (C.1.2.2.2.2 (.fieldLink RX4 25 RX4 "thrown" "I") (by decide +kernel)) rfl dX4_buy_43 ?_
      refine G.topI (2) rfl ?_
      refine G.if_le C 51 dX4_buy_46 (by decide) (fun h => absurd h (by decide)) (fun _ => ?_)
      refine G.iconst C 0 dX4_buy_49 (by decide) ?_
      exact G.iret C hlk hrt dX4_buy_50 (by rw [pBuy, if_pos h5, if_neg (by rw [h19]; decide)]) (by intro H h; rw [pBuy, if_pos h5, if_neg (by rw [h19]; decide)]; exact h)
  · refine G.iconst C 1 dX4_buy_8 (by decide) ?_
    refine G.goto C 39 dX4_buy_9 (by decide) ?_
    refine G.putD (ty := .int) C hinX4 0 (by decide) rfl (C.1.2.2.2.2 (.fieldLink RX4 25 RX4 "thrown" "I") (by decide +kernel)) rfl rfl rfl rfl pfX4_0 dX4_buy_39 ?_
    refine G.aldn0 C dX4_buy_42 ?_
    refine G.getD C hinX4 0 (by decide) rfl (C.1.2.2.2.2 (.fieldLink RX4 25 RX4 "thrown" "I") (by decide +kernel)) rfl dX4_buy_43 ?_
    refine G.topI (1) rfl ?_
    refine G.if_le C 51 dX4_buy_46 (by decide) (fun h => absurd h (by decide)) (fun _ => ?_)
    refine G.iconst C 0 dX4_buy_49 (by decide) ?_
    exact G.iret C hlk hrt dX4_buy_50 (by rw [pBuy, if_neg (by rw [h5]; decide)]) (by intro H h; rw [pBuy, if_neg (by rw [h5]; decide)]; exact h)
set_option maxRecDepth 100000 in
set_option maxHeartbeats 4000000 in
theorem k_X4_sell (l : Launch) {E : gEn} {σ : gSt} {π : Nat → Nat} {o : Int64} {d : cSt} {x : Int32} {sv : Nat} (hs : d 0 4 = nI sv) (hle : sv ≤ 6) (hok : mOK d) : CtI l yX4_sell wsX4_sell ({ frames := 2, cells := 0, slots := 0, locals := 43 } : Room) E [.ref (E.2.1 10 0), .int x] (gU σ 10 d) π o ((pSell d sv x).1) (gU σ 10 ((pSell d sv x).2)) π o := by
  refine CtI.of (cc := cX4_sell) (own := RX4) (maxL := 3) (ret := (some .int)) [some (.ref (E.2.1 10 0)), some (.int x), none] (by decide) rfl rfl (Nat.le_of_ble_eq_true rfl) rfl ?_
  intro p e s m args below meth cd C hrt hlk
  have hinX4 : ∀ w ∈ wsX40, w ∈ wsX4_sell := by decide +kernel
  refine G.aldn0 C dX4_sell_0 ?_
  refine G.aldn0 C dX4_sell_1 ?_
  refine G.ildn1 C dX4_sell_2 ?_
  refine G.callVI1 C (k_X4_isDove l) (cwV 1 C.1.2.2.2.2 gX4_sell_X4_isDove rfl rfl rfl (by decide +kernel) ⟨Nat.le_of_ble_eq_true rfl, Nat.le_of_ble_eq_true rfl⟩) gO_d rfl (Nat.le_of_ble_eq_true rfl) dX4_sell_3 ?_
  refine G.if_eqB C 13 dX4_sell_6 (by decide) (fun h6 => ?_) (fun h6 => ?_)
  · refine G.iconst C 1 dX4_sell_13 (by decide) ?_
    refine G.putD (ty := .int) C hinX4 0 (by decide) rfl (C.1.2.2.2.2 (.fieldLink RX4 25 RX4 "thrown" "I") (by decide +kernel)) rfl rfl rfl rfl pfX4_0 dX4_sell_14 ?_
    refine G.aldn0 C dX4_sell_17 ?_
    refine G.getD C hinX4 0 (by decide) rfl (C.1.2.2.2.2 (.fieldLink RX4 25 RX4 "thrown" "I") (by decide +kernel)) rfl dX4_sell_18 ?_
    refine G.topI (1) rfl ?_
    refine G.if_le C 26 dX4_sell_21 (by decide) (fun h => absurd h (by decide)) (fun _ => ?_)
    refine G.iconst C 0 dX4_sell_24 (by decide) ?_
    exact G.iret C hlk hrt dX4_sell_25 (by rw [pSell, if_neg (by rw [h6]; decide)]) (by intro H h; rw [pSell, if_neg (by rw [h6]; decide)]; exact h)
  · refine G.iconst C 0 dX4_sell_9 (by decide) ?_
    refine G.goto C 14 dX4_sell_10 (by decide) ?_
    refine G.putD (ty := .int) C hinX4 0 (by decide) rfl (C.1.2.2.2.2 (.fieldLink RX4 25 RX4 "thrown" "I") (by decide +kernel)) rfl rfl rfl rfl pfX4_0 dX4_sell_14 ?_
    refine G.aldn0 C dX4_sell_17 ?_
    refine G.getD C hinX4 0 (by decide) rfl (C.1.2.2.2.2 (.fieldLink RX4 25 RX4 "thrown" "I") (by decide +kernel)) rfl dX4_sell_18 ?_
    refine G.topI (0) rfl ?_
    refine G.if_le C 26 dX4_sell_21 (by decide) (fun _ => ?_) (fun h => absurd (by decide) h)
    refine G.aldn0 C dX4_sell_26 ?_
    refine G.callVV0 C (k_X4_record l (d := cW d 0 0 0) hs hle rfl) (cwV 0 C.1.2.2.2.2 gX4_sell_X4_record rfl rfl rfl (by decide +kernel) ⟨Nat.le_of_ble_eq_true rfl, Nat.le_of_ble_eq_true rfl⟩) gO_d rfl (Nat.le_of_ble_eq_true rfl) dX4_sell_27 ?_
    refine G.aldn0 C dX4_sell_30 ?_
    refine G.ildn1 C dX4_sell_31 ?_
    refine G.iconst C 4 dX4_sell_32 (by decide) ?_
    refine G.callVI2 C (k_X4_of l (d := mR d sv) (w := 4) (mDove_in h6) (by omega) rfl) (cwV 2 C.1.2.2.2.2 gX4_sell_X4_of rfl rfl rfl (by decide +kernel) ⟨Nat.le_of_ble_eq_true rfl, Nat.le_of_ble_eq_true rfl⟩) gO_d rfl (Nat.le_of_ble_eq_true rfl) dX4_sell_33 ?_
    refine G.istn2 C dX4_sell_36 (by omega) rfl ?_
    refine G.ildn2 C dX4_sell_37 ?_
    refine G.if_lt C 48 dX4_sell_38 (by decide) (fun h38 => ?_) (fun h38 => ?_)
    · refine G.aldn0 C dX4_sell_48 ?_
      refine G.ildn1 C dX4_sell_49 ?_
      refine G.iconst C 0 dX4_sell_50 (by decide) ?_
      refine G.iconst C 0 dX4_sell_51 (by decide) ?_
      refine G.callVV3 C (k_X4_put l (w := 0) (mDove_in h6) (by omega) (Nat.add_zero _)) (cwV 3 C.1.2.2.2.2 gX4_sell_X4_put rfl rfl rfl (by decide +kernel) ⟨Nat.le_of_ble_eq_true rfl, Nat.le_of_ble_eq_true rfl⟩) gO_d rfl (Nat.le_of_ble_eq_true rfl) dX4_sell_52 ?_
      refine G.aldn0 C dX4_sell_55 ?_
      refine G.ildn1 C dX4_sell_56 ?_
      refine G.iconst C 3 dX4_sell_57 (by decide) ?_
      refine G.callVI2 C (k_X4_of l (w := 3) (mDove_in h6) (by omega) rfl) (cwV 2 C.1.2.2.2.2 gX4_sell_X4_of rfl rfl rfl (by decide +kernel) ⟨Nat.le_of_ble_eq_true rfl, Nat.le_of_ble_eq_true rfl⟩) gO_d rfl (Nat.le_of_ble_eq_true rfl) dX4_sell_58 ?_
      exact G.iret C hlk hrt dX4_sell_61 (by rw [pSell, if_pos h6, mSell, mSell1, if_pos h38]) (by intro H h; rw [pSell, if_pos h6, mSell, mSell1, if_pos h38]; exact h)
    · refine G.aldn0 C dX4_sell_41 ?_
      refine G.ildn2 C dX4_sell_42 ?_
      refine G.iconst C 4 dX4_sell_43 (by decide) ?_
      refine G.iconst C (-1) dX4_sell_44 (by decide) ?_
      refine G.callVV3 C (k_X4_put l (d := mR d sv) (w := 4) (mOK_mate (mOK_1 mR_1 hok) (mDove_in h6) h38) (by omega) rfl) (cwV 3 C.1.2.2.2.2 gX4_sell_X4_put rfl rfl rfl (by decide +kernel) ⟨Nat.le_of_ble_eq_true rfl, Nat.le_of_ble_eq_true rfl⟩) gO_d rfl (Nat.le_of_ble_eq_true rfl) dX4_sell_45 ?_
      refine G.aldn0 C dX4_sell_48 ?_
      refine G.ildn1 C dX4_sell_49 ?_
      refine G.iconst C 0 dX4_sell_50 (by decide) ?_
      refine G.iconst C 0 dX4_sell_51 (by decide) ?_
      refine G.callVV3 C (k_X4_put l (w := 0) (mDove_in h6) (by omega) (Nat.add_zero _)) (cwV 3 C.1.2.2.2.2 gX4_sell_X4_put rfl rfl rfl (by decide +kernel) ⟨Nat.le_of_ble_eq_true rfl, Nat.le_of_ble_eq_true rfl⟩) gO_d rfl (Nat.le_of_ble_eq_true rfl) dX4_sell_52 ?_
      refine G.aldn0 C dX4_sell_55 ?_
      refine G.ildn1 C dX4_sell_56 ?_
      refine G.iconst C 3 dX4_sell_57 (by decide) ?_
      refine G.callVI2 C (k_X4_of l (w := 3) (mDove_in h6) (by omega) rfl) (cwV 2 C.1.2.2.2.2 gX4_sell_X4_of rfl rfl rfl (by decide +kernel) ⟨Nat.le_of_ble_eq_true rfl, Nat.le_of_ble_eq_true rfl⟩) gO_d rfl (Nat.le_of_ble_eq_true rfl) dX4_sell_58 ?_
      exact G.iret C hlk hrt dX4_sell_61 (by rw [pSell, if_pos h6, mSell, mSell1, if_neg h38]) (by intro H h; rw [pSell, if_pos h6, mSell, mSell1, if_neg h38]; exact h)
set_option maxRecDepth 100000 in
set_option maxHeartbeats 4000000 in
theorem k_X4_mate (l : Launch) {E : gEn} {σ : gSt} {π : Nat → Nat} {o : Int64} {d : cSt} {x y : Int32} {sv : Nat} (hs : d 0 4 = nI sv) (hle : sv ≤ 6) : CtI l yX4_mate wsX4_mate ({ frames := 4, cells := 0, slots := 0, locals := 87 } : Room) E [.ref (E.2.1 10 0), .int x, .int y] (gU σ 10 d) π o ((pMate d sv x y).1) (gU σ 10 ((pMate d sv x y).2)) π o := by
  refine CtI.of (cc := cX4_mate) (own := RX4) (maxL := 3) (ret := (some .int)) [some (.ref (E.2.1 10 0)), some (.int x), some (.int y)] (by decide) rfl rfl (Nat.le_of_ble_eq_true rfl) rfl ?_
  intro p e s m args below meth cd C hrt hlk
  have hinX4 : ∀ w ∈ wsX40, w ∈ wsX4_mate := by decide +kernel
  refine G.aldn0 C dX4_mate_0 ?_
  refine G.aldn0 C dX4_mate_1 ?_
  refine G.ildn1 C dX4_mate_2 ?_
  refine G.callVI1 C (k_X4_isDove l) (cwV 1 C.1.2.2.2.2 gX4_mate_X4_isDove rfl rfl rfl (by decide +kernel) ⟨Nat.le_of_ble_eq_true rfl, Nat.le_of_ble_eq_true rfl⟩) gO_d rfl (Nat.le_of_ble_eq_true rfl) dX4_mate_3 ?_
  refine G.if_eqB C 17 dX4_mate_6 (by decide) (fun h6 => ?_) (fun h6 => ?_)
  · refine G.iconst C 1 dX4_mate_17 (by decide) ?_
    refine G.goto C 35 dX4_mate_18 (by decide) ?_
    refine G.putD (ty := .int) C hinX4 0 (by decide) rfl (C.1.2.2.2.2 (.fieldLink RX4 25 RX4 "thrown" "I") (by decide +kernel)) rfl rfl rfl rfl pfX4_0 dX4_mate_35 ?_
    refine G.aldn0 C dX4_mate_38 ?_
    refine G.getD C hinX4 0 (by decide) rfl (C.1.2.2.2.2 (.fieldLink RX4 25 RX4 "thrown" "I") (by decide +kernel)) rfl dX4_mate_39 ?_
    refine G.topI (1) rfl ?_
    refine G.if_le C 47 dX4_mate_42 (by decide) (fun h => absurd h (by decide)) (fun _ => ?_)
    refine G.iconst C 0 dX4_mate_45 (by decide) ?_
    exact G.iret C hlk hrt dX4_mate_46 (by rw [pMate, if_neg (by rw [h6]; decide)] <;> rfl) (by intro H h; rw [pMate, if_neg (by rw [h6]; decide)]; exact h)
  · refine G.aldn0 C dX4_mate_9 ?_
    refine G.ildn2 C dX4_mate_10 ?_
    refine G.callVI1 C (k_X4_isDove l) (cwV 1 C.1.2.2.2.2 gX4_mate_X4_isDove rfl rfl rfl (by decide +kernel) ⟨Nat.le_of_ble_eq_true rfl, Nat.le_of_ble_eq_true rfl⟩) gO_d rfl (Nat.le_of_ble_eq_true rfl) dX4_mate_11 ?_
    refine G.if_neB C 21 dX4_mate_14 (by decide) (fun h14 => ?_) (fun h14 => ?_)
    · refine G.aldn0 C dX4_mate_21 ?_
      refine G.ildn1 C dX4_mate_22 ?_
      refine G.ildn2 C dX4_mate_23 ?_
      refine G.callVI2 C (k_X4_whyNoMates l (mDove_in h6) (mDove_in h14)) (cwV 2 C.1.2.2.2.2 gX4_mate_X4_whyNoMates rfl rfl rfl (by decide +kernel) ⟨Nat.le_of_ble_eq_true rfl, Nat.le_of_ble_eq_true rfl⟩) gO_d rfl (Nat.le_of_ble_eq_true rfl) dX4_mate_24 ?_
      refine G.if_le C 34 dX4_mate_27 (by decide) (fun h27 => ?_) (fun h27 => ?_)
      · refine G.iconst C 0 dX4_mate_34 (by decide) ?_
        refine G.putD (ty := .int) C hinX4 0 (by decide) rfl (C.1.2.2.2.2 (.fieldLink RX4 25 RX4 "thrown" "I") (by decide +kernel)) rfl rfl rfl rfl pfX4_0 dX4_mate_35 ?_
        refine G.aldn0 C dX4_mate_38 ?_
        refine G.getD C hinX4 0 (by decide) rfl (C.1.2.2.2.2 (.fieldLink RX4 25 RX4 "thrown" "I") (by decide +kernel)) rfl dX4_mate_39 ?_
        refine G.topI (0) rfl ?_
        refine G.if_le C 47 dX4_mate_42 (by decide) (fun _ => ?_) (fun h => absurd (by decide) h)
        refine G.aldn0 C dX4_mate_47 ?_
        refine G.callVV0 C (k_X4_record l (d := cW d 0 0 0) hs hle rfl) (cwV 0 C.1.2.2.2.2 gX4_mate_X4_record rfl rfl rfl (by decide +kernel) ⟨Nat.le_of_ble_eq_true rfl, Nat.le_of_ble_eq_true rfl⟩) gO_d rfl (Nat.le_of_ble_eq_true rfl) dX4_mate_48 ?_
        refine G.aldn0 C dX4_mate_51 ?_
        refine G.ildn1 C dX4_mate_52 ?_
        refine G.ildn2 C dX4_mate_53 ?_
        refine G.callVI2 C (k_X4_doMate l (d := mR d sv) (mDove_in h6) (mDove_in h14)) (cwV 2 C.1.2.2.2.2 gX4_mate_X4_doMate rfl rfl rfl (by decide +kernel) ⟨Nat.le_of_ble_eq_true rfl, Nat.le_of_ble_eq_true rfl⟩) gO_d rfl (Nat.le_of_ble_eq_true rfl) dX4_mate_54 ?_
        exact G.iret C hlk hrt dX4_mate_57 (by rw [pMate, if_pos h6, if_pos h14, if_pos h27] <;> rfl) (by intro H h; rw [pMate, if_pos h6, if_pos h14, if_pos h27]; exact h)
      · refine G.iconst C 2 dX4_mate_30 (by decide) ?_
        refine G.goto C 35 dX4_mate_31 (by decide) ?_
        refine G.putD (ty := .int) C hinX4 0 (by decide) rfl (C.1.2.2.2.2 (.fieldLink RX4 25 RX4 "thrown" "I") (by decide +kernel)) rfl rfl rfl rfl pfX4_0 dX4_mate_35 ?_
        refine G.aldn0 C dX4_mate_38 ?_
        refine G.getD C hinX4 0 (by decide) rfl (C.1.2.2.2.2 (.fieldLink RX4 25 RX4 "thrown" "I") (by decide +kernel)) rfl dX4_mate_39 ?_
        refine G.topI (2) rfl ?_
        refine G.if_le C 47 dX4_mate_42 (by decide) (fun h => absurd h (by decide)) (fun _ => ?_)
        refine G.iconst C 0 dX4_mate_45 (by decide) ?_
        exact G.iret C hlk hrt dX4_mate_46 (by rw [pMate, if_pos h6, if_pos h14, if_neg h27] <;> rfl) (by intro H h; rw [pMate, if_pos h6, if_pos h14, if_neg h27]; exact h)
    · refine G.iconst C 1 dX4_mate_17 (by decide) ?_
      refine G.goto C 35 dX4_mate_18 (by decide) ?_
      refine G.putD (ty := .int) C hinX4 0 (by decide) rfl (C.1.2.2.2.2 (.fieldLink RX4 25 RX4 "thrown" "I") (by decide +kernel)) rfl rfl rfl rfl pfX4_0 dX4_mate_35 ?_
      refine G.aldn0 C dX4_mate_38 ?_
      refine G.getD C hinX4 0 (by decide) rfl (C.1.2.2.2.2 (.fieldLink RX4 25 RX4 "thrown" "I") (by decide +kernel)) rfl dX4_mate_39 ?_
      refine G.topI (1) rfl ?_
      refine G.if_le C 47 dX4_mate_42 (by decide) (fun h => absurd h (by decide)) (fun _ => ?_)
      refine G.iconst C 0 dX4_mate_45 (by decide) ?_
      exact G.iret C hlk hrt dX4_mate_46 (by rw [pMate, if_pos h6, if_neg (by rw [h14]; decide)] <;> rfl) (by intro H h; rw [pMate, if_pos h6, if_neg (by rw [h14]; decide)]; exact h)
set_option maxRecDepth 100000 in
set_option maxHeartbeats 4000000 in
theorem k_X4_shut (l : Launch) {E : gEn} {σ : gSt} {π : Nat → Nat} {o : Int64} {d : cSt} {x : Int32} {sv : Nat} (hs : d 0 4 = nI sv) (hle : sv ≤ 6) : CtI l yX4_shut wsX4_shut ({ frames := 4, cells := 0, slots := 0, locals := 87 } : Room) E [.ref (E.2.1 10 0), .int x] (gU σ 10 d) π o ((pShut d sv x).1) (gU σ 10 ((pShut d sv x).2)) π o := by
  refine CtI.of (cc := cX4_shut) (own := RX4) (maxL := 2) (ret := (some .int)) [some (.ref (E.2.1 10 0)), some (.int x)] (by decide) rfl rfl (Nat.le_of_ble_eq_true rfl) rfl ?_
  intro p e s m args below meth cd C hrt hlk
  have hinX4 : ∀ w ∈ wsX40, w ∈ wsX4_shut := by decide +kernel
  refine G.aldn0 C dX4_shut_0 ?_
  refine G.ildn1 C dX4_shut_1 ?_
  refine G.callSI1 C (k_X4_isHole l) (va_cwS 1 C.1.2.2.2.2 gX4_shut_X4_isHole rfl rfl rfl (by decide +kernel) ⟨Nat.le_of_ble_eq_true rfl, Nat.le_of_ble_eq_true rfl⟩) (Nat.le_of_ble_eq_true rfl) dX4_shut_2 ?_
  refine G.if_neB C 12 dX4_shut_5 (by decide) (fun h5 => ?_) (fun h5 => ?_)
  · refine G.aldn0 C dX4_shut_12 ?_
    refine G.ildn1 C dX4_shut_13 ?_
    refine G.callVI1 C (k_X4_whyNoShut l (mIn_in24 h5)) (cwV 1 C.1.2.2.2.2 gX4_shut_X4_whyNoShut rfl rfl rfl (by decide +kernel) ⟨Nat.le_of_ble_eq_true rfl, Nat.le_of_ble_eq_true rfl⟩) gO_d rfl (Nat.le_of_ble_eq_true rfl) dX4_shut_14 ?_
    refine G.if_le C 24 dX4_shut_17 (by decide) (fun h17 => ?_) (fun h17 => ?_)
    · refine G.iconst C 0 dX4_shut_24 (by decide) ?_
      refine G.putD (ty := .int) C hinX4 0 (by decide) rfl (C.1.2.2.2.2 (.fieldLink RX4 25 RX4 "thrown" "I") (by decide +kernel)) rfl rfl rfl rfl pfX4_0 dX4_shut_25 ?_
      refine G.aldn0 C dX4_shut_28 ?_
      refine G.getD C hinX4 0 (by decide) rfl (C.1.2.2.2.2 (.fieldLink RX4 25 RX4 "thrown" "I") (by decide +kernel)) rfl dX4_shut_29 ?_
      refine G.topI (0) rfl ?_
      refine G.if_le C 37 dX4_shut_32 (by decide) (fun _ => ?_) (fun h => absurd (by decide) h)
      refine G.aldn0 C dX4_shut_37 ?_
      refine G.callVV0 C (k_X4_record l (d := cW d 0 0 0) hs hle rfl) (cwV 0 C.1.2.2.2.2 gX4_shut_X4_record rfl rfl rfl (by decide +kernel) ⟨Nat.le_of_ble_eq_true rfl, Nat.le_of_ble_eq_true rfl⟩) gO_d rfl (Nat.le_of_ble_eq_true rfl) dX4_shut_38 ?_
      refine G.aldn0 C dX4_shut_41 ?_
      refine G.getD C hinX4 1 (by decide) rfl (C.1.2.2.2.2 (.fieldLink RX4 7 RX4 "z" "[I") (by decide +kernel)) rfl dX4_shut_42 ?_
      refine G.sipush C 144 dX4_shut_45 (by decide) ?_
      refine G.ildn1 C dX4_shut_48 ?_
      refine G.iadd C dX4_shut_49 ?_
      refine G.iconst C 1 dX4_shut_50 (by decide) ?_
      refine G.iastU C (n := 232) (j := 1) (d0 := (144 + ix x)) rfl (gV_d (by omega)) (hin1 (mIn_in24 h5)) (hin2 (mIn_in24 h5)) dX4_shut_51 ?_
      refine G.aldn0 C dX4_shut_52 ?_
      refine G.callVI0 C (k_X4_openHoles l) (cwV 0 C.1.2.2.2.2 gX4_shut_X4_openHoles rfl rfl rfl (by decide +kernel) ⟨Nat.le_of_ble_eq_true rfl, Nat.le_of_ble_eq_true rfl⟩) gO_d rfl (Nat.le_of_ble_eq_true rfl) dX4_shut_53 ?_
      exact G.iret C hlk hrt dX4_shut_56 (by rw [pShut, if_pos h5, if_pos h17] <;> rfl) (by intro H h; rw [pShut, if_pos h5, if_pos h17]; exact h)
    · refine G.iconst C 2 dX4_shut_20 (by decide) ?_
      refine G.goto C 25 dX4_shut_21 (by decide) ?_
      refine G.putD (ty := .int) C hinX4 0 (by decide) rfl (C.1.2.2.2.2 (.fieldLink RX4 25 RX4 "thrown" "I") (by decide +kernel)) rfl rfl rfl rfl pfX4_0 dX4_shut_25 ?_
      refine G.aldn0 C dX4_shut_28 ?_
      refine G.getD C hinX4 0 (by decide) rfl (C.1.2.2.2.2 (.fieldLink RX4 25 RX4 "thrown" "I") (by decide +kernel)) rfl dX4_shut_29 ?_
      refine G.topI (2) rfl ?_
      refine G.if_le C 37 dX4_shut_32 (by decide) (fun h => absurd h (by decide)) (fun _ => ?_)
      refine G.iconst C 0 dX4_shut_35 (by decide) ?_
      exact G.iret C hlk hrt dX4_shut_36 (by rw [pShut, if_pos h5, if_neg h17] <;> rfl) (by intro H h; rw [pShut, if_pos h5, if_neg h17]; exact h)
  · refine G.iconst C 1 dX4_shut_8 (by decide) ?_
    refine G.goto C 25 dX4_shut_9 (by decide) ?_
    refine G.putD (ty := .int) C hinX4 0 (by decide) rfl (C.1.2.2.2.2 (.fieldLink RX4 25 RX4 "thrown" "I") (by decide +kernel)) rfl rfl rfl rfl pfX4_0 dX4_shut_25 ?_
    refine G.aldn0 C dX4_shut_28 ?_
    refine G.getD C hinX4 0 (by decide) rfl (C.1.2.2.2.2 (.fieldLink RX4 25 RX4 "thrown" "I") (by decide +kernel)) rfl dX4_shut_29 ?_
    refine G.topI (1) rfl ?_
    refine G.if_le C 37 dX4_shut_32 (by decide) (fun h => absurd h (by decide)) (fun _ => ?_)
    refine G.iconst C 0 dX4_shut_35 (by decide) ?_
    exact G.iret C hlk hrt dX4_shut_36 (by rw [pShut, if_neg (by rw [h5]; decide)] <;> rfl) (by intro H h; rw [pShut, if_neg (by rw [h5]; decide)]; exact h)
set_option maxRecDepth 100000 in
set_option maxHeartbeats 4000000 in
theorem k_X4_open (l : Launch) {E : gEn} {σ : gSt} {π : Nat → Nat} {o : Int64} {d : cSt} {x : Int32} {sv : Nat} (hs : d 0 4 = nI sv) (hle : sv ≤ 6) : CtI l yX4_open wsX4_open ({ frames := 2, cells := 0, slots := 0, locals := 43 } : Room) E [.ref (E.2.1 10 0), .int x] (gU σ 10 d) π o ((pOpen d sv x).1) (gU σ 10 ((pOpen d sv x).2)) π o := by
  refine CtI.of (cc := cX4_open) (own := RX4) (maxL := 2) (ret := (some .int)) [some (.ref (E.2.1 10 0)), some (.int x)] (by decide) rfl rfl (Nat.le_of_ble_eq_true rfl) rfl ?_
  intro p e s m args below meth cd C hrt hlk
  have hinX4 : ∀ w ∈ wsX40, w ∈ wsX4_open := by decide +kernel
  refine G.aldn0 C dX4_open_0 ?_
  refine G.ildn1 C dX4_open_1 ?_
  refine G.callSI1 C (k_X4_isHole l) (va_cwS 1 C.1.2.2.2.2 gX4_open_X4_isHole rfl rfl rfl (by decide +kernel) ⟨Nat.le_of_ble_eq_true rfl, Nat.le_of_ble_eq_true rfl⟩) (Nat.le_of_ble_eq_true rfl) dX4_open_2 ?_
  refine G.if_eqB C 12 dX4_open_5 (by decide) (fun h5 => ?_) (fun h5 => ?_)
  · refine G.iconst C 1 dX4_open_12 (by decide) ?_
    refine G.putD (ty := .int) C hinX4 0 (by decide) rfl (C.1.2.2.2.2 (.fieldLink RX4 25 RX4 "thrown" "I") (by decide +kernel)) rfl rfl rfl rfl pfX4_0 dX4_open_13 ?_
    refine G.aldn0 C dX4_open_16 ?_
    refine G.getD C hinX4 0 (by decide) rfl (C.1.2.2.2.2 (.fieldLink RX4 25 RX4 "thrown" "I") (by decide +kernel)) rfl dX4_open_17 ?_
    refine G.topI (1) rfl ?_
    refine G.if_le C 25 dX4_open_20 (by decide) (fun h => absurd h (by decide)) (fun _ => ?_)
    refine G.iconst C 0 dX4_open_23 (by decide) ?_
    exact G.iret C hlk hrt dX4_open_24 (by rw [pOpen, if_neg (by rw [h5]; decide)] <;> rfl) (by intro H h; rw [pOpen, if_neg (by rw [h5]; decide)]; exact h)
  · refine G.iconst C 0 dX4_open_8 (by decide) ?_
    refine G.goto C 13 dX4_open_9 (by decide) ?_
    refine G.putD (ty := .int) C hinX4 0 (by decide) rfl (C.1.2.2.2.2 (.fieldLink RX4 25 RX4 "thrown" "I") (by decide +kernel)) rfl rfl rfl rfl pfX4_0 dX4_open_13 ?_
    refine G.aldn0 C dX4_open_16 ?_
    refine G.getD C hinX4 0 (by decide) rfl (C.1.2.2.2.2 (.fieldLink RX4 25 RX4 "thrown" "I") (by decide +kernel)) rfl dX4_open_17 ?_
    refine G.topI (0) rfl ?_
    refine G.if_le C 25 dX4_open_20 (by decide) (fun _ => ?_) (fun h => absurd (by decide) h)
    refine G.aldn0 C dX4_open_25 ?_
    refine G.callVV0 C (k_X4_record l (d := cW d 0 0 0) hs hle rfl) (cwV 0 C.1.2.2.2.2 gX4_open_X4_record rfl rfl rfl (by decide +kernel) ⟨Nat.le_of_ble_eq_true rfl, Nat.le_of_ble_eq_true rfl⟩) gO_d rfl (Nat.le_of_ble_eq_true rfl) dX4_open_26 ?_
    refine G.aldn0 C dX4_open_29 ?_
    refine G.getD C hinX4 1 (by decide) rfl (C.1.2.2.2.2 (.fieldLink RX4 7 RX4 "z" "[I") (by decide +kernel)) rfl dX4_open_30 ?_
    refine G.sipush C 144 dX4_open_33 (by decide) ?_
    refine G.ildn1 C dX4_open_36 ?_
    refine G.iadd C dX4_open_37 ?_
    refine G.iconst C 0 dX4_open_38 (by decide) ?_
    refine G.iastU C (n := 232) (j := 1) (d0 := (144 + ix x)) rfl (gV_d (by omega)) (hin1 (mIn_in24 h5)) (hin2 (mIn_in24 h5)) dX4_open_39 ?_
    refine G.aldn0 C dX4_open_40 ?_
    refine G.callVI0 C (k_X4_openHoles l) (cwV 0 C.1.2.2.2.2 gX4_open_X4_openHoles rfl rfl rfl (by decide +kernel) ⟨Nat.le_of_ble_eq_true rfl, Nat.le_of_ble_eq_true rfl⟩) gO_d rfl (Nat.le_of_ble_eq_true rfl) dX4_open_41 ?_
    exact G.iret C hlk hrt dX4_open_44 (by rw [pOpen, if_pos h5] <;> rfl) (by intro H h; rw [pOpen, if_pos h5]; exact h)
set_option maxRecDepth 100000 in
set_option maxHeartbeats 4000000 in
theorem k_X4_set (l : Launch) {E : gEn} {σ : gSt} {π : Nat → Nat} {o : Int64} {d : cSt} {x y : Int32} {sv : Nat} (hs : d 0 4 = nI sv) (hle : sv ≤ 6) : CtI l yX4_set wsX4_set ({ frames := 1, cells := 0, slots := 0, locals := 22 } : Room) E [.ref (E.2.1 10 0), .int x, .int y] (gU σ 10 d) π o ((pSet d sv x y).1) (gU σ 10 ((pSet d sv x y).2)) π o := by
  refine CtI.of (cc := cX4_set) (own := RX4) (maxL := 4) (ret := (some .int)) [some (.ref (E.2.1 10 0)), some (.int x), some (.int y), none] (by decide) rfl rfl (Nat.le_of_ble_eq_true rfl) rfl ?_
  intro p e s m args below meth cd C hrt hlk
  have hinX4 : ∀ w ∈ wsX40, w ∈ wsX4_set := by decide +kernel
  refine G.aldn0 C dX4_set_0 ?_
  refine G.ildn1 C dX4_set_1 ?_
  refine G.iconst C 0 dX4_set_2 (by decide) ?_
  refine G.iconst C 1 dX4_set_3 (by decide) ?_
  refine G.callSI3 C (k_X4_in l) (va_cwS 3 C.1.2.2.2.2 gX4_set_X4_in rfl rfl rfl (by decide +kernel) ⟨Nat.le_of_ble_eq_true rfl, Nat.le_of_ble_eq_true rfl⟩) (Nat.le_of_ble_eq_true rfl) dX4_set_4 ?_
  refine G.if_neB C 14 dX4_set_7 (by decide) (fun h7 => ?_) (fun h7 => ?_)
  · refine G.ildn2 C dX4_set_14 ?_
    refine G.iconst C 0 dX4_set_15 (by decide) ?_
    refine G.ildn1 C dX4_set_16 ?_
    refine G.if_ne C 26 dX4_set_17 (by decide) (fun h17 => ?_) (fun h17 => ?_)
    · refine G.bipush C 24 dX4_set_26 (by decide) ?_
      refine G.callSI3 C (k_X4_in l) (va_cwS 3 C.1.2.2.2.2 gX4_set_X4_in rfl rfl rfl (by decide +kernel) ⟨Nat.le_of_ble_eq_true rfl, Nat.le_of_ble_eq_true rfl⟩) (Nat.le_of_ble_eq_true rfl) dX4_set_28 ?_
      refine G.if_eqB C 38 dX4_set_31 (by decide) (fun h31 => ?_) (fun h31 => ?_)
      · refine G.iconst C 2 dX4_set_38 (by decide) ?_
        refine G.putD (ty := .int) C hinX4 0 (by decide) rfl (C.1.2.2.2.2 (.fieldLink RX4 25 RX4 "thrown" "I") (by decide +kernel)) rfl rfl rfl rfl pfX4_0 dX4_set_39 ?_
        refine G.aldn0 C dX4_set_42 ?_
        refine G.getD C hinX4 0 (by decide) rfl (C.1.2.2.2.2 (.fieldLink RX4 25 RX4 "thrown" "I") (by decide +kernel)) rfl dX4_set_43 ?_
        refine G.topI (2) rfl ?_
        refine G.if_le C 51 dX4_set_46 (by decide) (fun h => absurd h (by decide)) (fun _ => ?_)
        refine G.iconst C 0 dX4_set_49 (by decide) ?_
        exact G.iret C hlk hrt dX4_set_50 (by rw [pSet, if_pos h7, if_neg h17, if_neg (by rw [h31]; decide)] <;> rfl) (by intro H h; rw [pSet, if_pos h7, if_neg h17, if_neg (by rw [h31]; decide)]; exact h)
      · refine G.iconst C 0 dX4_set_34 (by decide) ?_
        refine G.goto C 39 dX4_set_35 (by decide) ?_
        refine G.putD (ty := .int) C hinX4 0 (by decide) rfl (C.1.2.2.2.2 (.fieldLink RX4 25 RX4 "thrown" "I") (by decide +kernel)) rfl rfl rfl rfl pfX4_0 dX4_set_39 ?_
        refine G.aldn0 C dX4_set_42 ?_
        refine G.getD C hinX4 0 (by decide) rfl (C.1.2.2.2.2 (.fieldLink RX4 25 RX4 "thrown" "I") (by decide +kernel)) rfl dX4_set_43 ?_
        refine G.topI (0) rfl ?_
        refine G.if_le C 51 dX4_set_46 (by decide) (fun _ => ?_) (fun h => absurd (by decide) h)
        refine G.aldn0 C dX4_set_51 ?_
        refine G.callVV0 C (k_X4_record l (d := cW d 0 0 0) hs hle rfl) (cwV 0 C.1.2.2.2.2 gX4_set_X4_record rfl rfl rfl (by decide +kernel) ⟨Nat.le_of_ble_eq_true rfl, Nat.le_of_ble_eq_true rfl⟩) gO_d rfl (Nat.le_of_ble_eq_true rfl) dX4_set_52 ?_
        refine G.aldn0 C dX4_set_55 ?_
        refine G.getD C hinX4 1 (by decide) rfl (C.1.2.2.2.2 (.fieldLink RX4 7 RX4 "z" "[I") (by decide +kernel)) rfl dX4_set_56 ?_
        refine G.sipush C 170 dX4_set_59 (by decide) ?_
        refine G.ildn1 C dX4_set_62 ?_
        refine G.iadd C dX4_set_63 ?_
        refine G.ialdU C (n := 232) (j := 1) (d0 := (170 + ix x)) rfl (gV_d (by omega)) (bx_in (c := 170) (a := 0) (b := 1) (n := 232) h7 (by omega) (by omega) (by omega) (by omega)).1 (bx_in (c := 170) (a := 0) (b := 1) (n := 232) h7 (by omega) (by omega) (by omega) (by omega)).2 dX4_set_64 ?_
        refine G.istn3 C dX4_set_65 (by omega) rfl ?_
        refine G.aldn0 C dX4_set_66 ?_
        refine G.getD C hinX4 1 (by decide) rfl (C.1.2.2.2.2 (.fieldLink RX4 7 RX4 "z" "[I") (by decide +kernel)) rfl dX4_set_67 ?_
        refine G.sipush C 170 dX4_set_70 (by decide) ?_
        refine G.ildn1 C dX4_set_73 ?_
        refine G.iadd C dX4_set_74 ?_
        refine G.ildn2 C dX4_set_75 ?_
        refine G.iastU C (n := 232) (j := 1) (d0 := (170 + ix x)) rfl (gV_d (by omega)) (bx_in (c := 170) (a := 0) (b := 1) (n := 232) h7 (by omega) (by omega) (by omega) (by omega)).1 (bx_in (c := 170) (a := 0) (b := 1) (n := 232) h7 (by omega) (by omega) (by omega) (by omega)).2 dX4_set_76 ?_
        refine G.ildn3 C dX4_set_77 ?_
        exact G.iret C hlk hrt dX4_set_78 (by rw [pSet, if_pos h7, if_neg h17, if_pos h31] <;> rfl) (by intro H h; rw [pSet, if_pos h7, if_neg h17, if_pos h31]; exact h)
    · refine G.sipush C 1439 dX4_set_20 (by decide) ?_
      refine G.goto C 28 dX4_set_23 (by decide) ?_
      refine G.callSI3 C (k_X4_in l) (va_cwS 3 C.1.2.2.2.2 gX4_set_X4_in rfl rfl rfl (by decide +kernel) ⟨Nat.le_of_ble_eq_true rfl, Nat.le_of_ble_eq_true rfl⟩) (Nat.le_of_ble_eq_true rfl) dX4_set_28 ?_
      refine G.if_eqB C 38 dX4_set_31 (by decide) (fun h31 => ?_) (fun h31 => ?_)
      · refine G.iconst C 2 dX4_set_38 (by decide) ?_
        refine G.putD (ty := .int) C hinX4 0 (by decide) rfl (C.1.2.2.2.2 (.fieldLink RX4 25 RX4 "thrown" "I") (by decide +kernel)) rfl rfl rfl rfl pfX4_0 dX4_set_39 ?_
        refine G.aldn0 C dX4_set_42 ?_
        refine G.getD C hinX4 0 (by decide) rfl (C.1.2.2.2.2 (.fieldLink RX4 25 RX4 "thrown" "I") (by decide +kernel)) rfl dX4_set_43 ?_
        refine G.topI (2) rfl ?_
        refine G.if_le C 51 dX4_set_46 (by decide) (fun h => absurd h (by decide)) (fun _ => ?_)
        refine G.iconst C 0 dX4_set_49 (by decide) ?_
        exact G.iret C hlk hrt dX4_set_50 (by rw [pSet, if_pos h7, if_pos h17, if_neg (by rw [h31]; decide)] <;> rfl) (by intro H h; rw [pSet, if_pos h7, if_pos h17, if_neg (by rw [h31]; decide)]; exact h)
      · refine G.iconst C 0 dX4_set_34 (by decide) ?_
        refine G.goto C 39 dX4_set_35 (by decide) ?_
        refine G.putD (ty := .int) C hinX4 0 (by decide) rfl (C.1.2.2.2.2 (.fieldLink RX4 25 RX4 "thrown" "I") (by decide +kernel)) rfl rfl rfl rfl pfX4_0 dX4_set_39 ?_
        refine G.aldn0 C dX4_set_42 ?_
        refine G.getD C hinX4 0 (by decide) rfl (C.1.2.2.2.2 (.fieldLink RX4 25 RX4 "thrown" "I") (by decide +kernel)) rfl dX4_set_43 ?_
        refine G.topI (0) rfl ?_
        refine G.if_le C 51 dX4_set_46 (by decide) (fun _ => ?_) (fun h => absurd (by decide) h)
        refine G.aldn0 C dX4_set_51 ?_
        refine G.callVV0 C (k_X4_record l (d := cW d 0 0 0) hs hle rfl) (cwV 0 C.1.2.2.2.2 gX4_set_X4_record rfl rfl rfl (by decide +kernel) ⟨Nat.le_of_ble_eq_true rfl, Nat.le_of_ble_eq_true rfl⟩) gO_d rfl (Nat.le_of_ble_eq_true rfl) dX4_set_52 ?_
        refine G.aldn0 C dX4_set_55 ?_
        refine G.getD C hinX4 1 (by decide) rfl (C.1.2.2.2.2 (.fieldLink RX4 7 RX4 "z" "[I") (by decide +kernel)) rfl dX4_set_56 ?_
        refine G.sipush C 170 dX4_set_59 (by decide) ?_
        refine G.ildn1 C dX4_set_62 ?_
        refine G.iadd C dX4_set_63 ?_
        refine G.ialdU C (n := 232) (j := 1) (d0 := (170 + ix x)) rfl (gV_d (by omega)) (bx_in (c := 170) (a := 0) (b := 1) (n := 232) h7 (by omega) (by omega) (by omega) (by omega)).1 (bx_in (c := 170) (a := 0) (b := 1) (n := 232) h7 (by omega) (by omega) (by omega) (by omega)).2 dX4_set_64 ?_
        refine G.istn3 C dX4_set_65 (by omega) rfl ?_
        refine G.aldn0 C dX4_set_66 ?_
        refine G.getD C hinX4 1 (by decide) rfl (C.1.2.2.2.2 (.fieldLink RX4 7 RX4 "z" "[I") (by decide +kernel)) rfl dX4_set_67 ?_
        refine G.sipush C 170 dX4_set_70 (by decide) ?_
        refine G.ildn1 C dX4_set_73 ?_
        refine G.iadd C dX4_set_74 ?_
        refine G.ildn2 C dX4_set_75 ?_
        refine G.iastU C (n := 232) (j := 1) (d0 := (170 + ix x)) rfl (gV_d (by omega)) (bx_in (c := 170) (a := 0) (b := 1) (n := 232) h7 (by omega) (by omega) (by omega) (by omega)).1 (bx_in (c := 170) (a := 0) (b := 1) (n := 232) h7 (by omega) (by omega) (by omega) (by omega)).2 dX4_set_76 ?_
        refine G.ildn3 C dX4_set_77 ?_
        exact G.iret C hlk hrt dX4_set_78 (by rw [pSet, if_pos h7, if_pos h17, if_pos h31] <;> rfl) (by intro H h; rw [pSet, if_pos h7, if_pos h17, if_pos h31]; exact h)
  · refine G.iconst C 1 dX4_set_10 (by decide) ?_
    refine G.goto C 39 dX4_set_11 (by decide) ?_
    refine G.putD (ty := .int) C hinX4 0 (by decide) rfl (C.1.2.2.2.2 (.fieldLink RX4 25 RX4 "thrown" "I") (by decide +kernel)) rfl rfl rfl rfl pfX4_0 dX4_set_39 ?_
    refine G.aldn0 C dX4_set_42 ?_
    refine G.getD C hinX4 0 (by decide) rfl (C.1.2.2.2.2 (.fieldLink RX4 25 RX4 "thrown" "I") (by decide +kernel)) rfl dX4_set_43 ?_
    refine G.topI (1) rfl ?_
    refine G.if_le C 51 dX4_set_46 (by decide) (fun h => absurd h (by decide)) (fun _ => ?_)
    refine G.iconst C 0 dX4_set_49 (by decide) ?_
    exact G.iret C hlk hrt dX4_set_50 (by rw [pSet, if_neg (by rw [h7]; decide)] <;> rfl) (by intro H h; rw [pSet, if_neg (by rw [h7]; decide)]; exact h)
set_option maxRecDepth 100000 in
set_option maxHeartbeats 4000000 in
theorem k_X4_append (l : Launch) {E : gEn} {σ : gSt} {π : Nat → Nat} {o : Int64} {d : cSt} {x : Int32} {L : Nat} (hL : d 0 8 = nI L) (h60 : L ≤ 60) : CtI l yX4_append wsX4_append ({ frames := 1, cells := 0, slots := 0, locals := 22 } : Room) E [.ref (E.2.1 10 0), .int x] (gU σ 10 d) π o ((pAppend d x).1) (gU σ 10 ((pAppend d x).2)) π o := by
  refine CtI.of (cc := cX4_append) (own := RX4) (maxL := 2) (ret := (some .int)) [some (.ref (E.2.1 10 0)), some (.int x)] (by decide) rfl rfl (Nat.le_of_ble_eq_true rfl) rfl ?_
  intro p e s m args below meth cd C hrt hlk
  have hinX4 : ∀ w ∈ wsX40, w ∈ wsX4_append := by decide +kernel
  refine G.aldn0 C dX4_append_0 ?_
  refine G.ildn1 C dX4_append_1 ?_
  refine G.bipush C 33 dX4_append_2 (by decide) ?_
  refine G.bipush C 126 dX4_append_4 (by decide) ?_
  refine G.callSI3 C (k_X4_in l) (va_cwS 3 C.1.2.2.2.2 gX4_append_X4_in rfl rfl rfl (by decide +kernel) ⟨Nat.le_of_ble_eq_true rfl, Nat.le_of_ble_eq_true rfl⟩) (Nat.le_of_ble_eq_true rfl) dX4_append_6 ?_
  refine G.if_neB C 16 dX4_append_9 (by decide) (fun h9 => ?_) (fun h9 => ?_)
  · refine G.aldn0 C dX4_append_16 ?_
    refine G.getD C hinX4 8 (by decide) rfl (C.1.2.2.2.2 (.fieldLink RX4 118 RX4 "length" "I") (by decide +kernel)) rfl dX4_append_17 ?_
    refine G.bipush C 60 dX4_append_20 (by decide) ?_
    refine G.icmp_ne C 29 dX4_append_22 (by decide) (fun h22 => ?_) (fun h22 => ?_)
    · refine G.iconst C 0 dX4_append_29 (by decide) ?_
      refine G.putD (ty := .int) C hinX4 0 (by decide) rfl (C.1.2.2.2.2 (.fieldLink RX4 25 RX4 "thrown" "I") (by decide +kernel)) rfl rfl rfl rfl pfX4_0 dX4_append_30 ?_
      refine G.aldn0 C dX4_append_33 ?_
      refine G.getD C hinX4 0 (by decide) rfl (C.1.2.2.2.2 (.fieldLink RX4 25 RX4 "thrown" "I") (by decide +kernel)) rfl dX4_append_34 ?_
      refine G.topI (0) rfl ?_
      refine G.if_le C 42 dX4_append_37 (by decide) (fun _ => ?_) (fun h => absurd (by decide) h)
      refine G.aldn0 C dX4_append_42 ?_
      refine G.getD C hinX4 7 (by decide) rfl (C.1.2.2.2.2 (.fieldLink RX4 22 RX4 "text" "[I") (by decide +kernel)) rfl dX4_append_43 ?_
      refine G.aldn0 C dX4_append_46 ?_
      refine G.getD C hinX4 8 (by decide) rfl (C.1.2.2.2.2 (.fieldLink RX4 118 RX4 "length" "I") (by decide +kernel)) rfl dX4_append_47 ?_
      refine G.topI (d 0 8) rfl ?_
      refine G.ildn1 C dX4_append_50 ?_
      refine G.iastU C (n := 60) (j := 5) (d0 := _) rfl (gV_d (by omega)) (by rw [hL]; exact vp_in_nI (by have : ¬ L = 60 := fun q => h22 (by rw [hL, q]; rfl); omega) (by omega)) rfl dX4_append_51 ?_
      refine G.aldn0 C dX4_append_52 ?_
      refine G.dup C dX4_append_53 rfl ?_
      refine G.getD C hinX4 8 (by decide) rfl (C.1.2.2.2.2 (.fieldLink RX4 118 RX4 "length" "I") (by decide +kernel)) rfl dX4_append_54 ?_
      refine G.iconst C 1 dX4_append_57 (by decide) ?_
      refine G.iadd C dX4_append_58 ?_
      refine G.putD (ty := .int) C hinX4 8 (by decide) rfl (C.1.2.2.2.2 (.fieldLink RX4 118 RX4 "length" "I") (by decide +kernel)) rfl rfl rfl rfl pfX4_8 dX4_append_59 ?_
      refine G.aldn0 C dX4_append_62 ?_
      refine G.getD C hinX4 8 (by decide) rfl (C.1.2.2.2.2 (.fieldLink RX4 118 RX4 "length" "I") (by decide +kernel)) rfl dX4_append_63 ?_
      refine G.topI (d 0 8 + 1) rfl ?_
      exact G.iret C hlk hrt dX4_append_66 (by rw [pAppend, if_pos h9, if_neg h22] <;> rfl) (by intro H h; rw [pAppend, if_pos h9, if_neg h22]; exact h)
    · refine G.iconst C 2 dX4_append_25 (by decide) ?_
      refine G.goto C 30 dX4_append_26 (by decide) ?_
      refine G.putD (ty := .int) C hinX4 0 (by decide) rfl (C.1.2.2.2.2 (.fieldLink RX4 25 RX4 "thrown" "I") (by decide +kernel)) rfl rfl rfl rfl pfX4_0 dX4_append_30 ?_
      refine G.aldn0 C dX4_append_33 ?_
      refine G.getD C hinX4 0 (by decide) rfl (C.1.2.2.2.2 (.fieldLink RX4 25 RX4 "thrown" "I") (by decide +kernel)) rfl dX4_append_34 ?_
      refine G.topI (2) rfl ?_
      refine G.if_le C 42 dX4_append_37 (by decide) (fun h => absurd h (by decide)) (fun _ => ?_)
      refine G.iconst C 0 dX4_append_40 (by decide) ?_
      exact G.iret C hlk hrt dX4_append_41 (by rw [pAppend, if_pos h9, if_pos h22] <;> rfl) (by intro H h; rw [pAppend, if_pos h9, if_pos h22]; exact h)
  · refine G.iconst C 1 dX4_append_12 (by decide) ?_
    refine G.goto C 30 dX4_append_13 (by decide) ?_
    refine G.putD (ty := .int) C hinX4 0 (by decide) rfl (C.1.2.2.2.2 (.fieldLink RX4 25 RX4 "thrown" "I") (by decide +kernel)) rfl rfl rfl rfl pfX4_0 dX4_append_30 ?_
    refine G.aldn0 C dX4_append_33 ?_
    refine G.getD C hinX4 0 (by decide) rfl (C.1.2.2.2.2 (.fieldLink RX4 25 RX4 "thrown" "I") (by decide +kernel)) rfl dX4_append_34 ?_
    refine G.topI (1) rfl ?_
    refine G.if_le C 42 dX4_append_37 (by decide) (fun h => absurd h (by decide)) (fun _ => ?_)
    refine G.iconst C 0 dX4_append_40 (by decide) ?_
    exact G.iret C hlk hrt dX4_append_41 (by rw [pAppend, if_neg (by rw [h9]; decide)] <;> rfl) (by intro H h; rw [pAppend, if_neg (by rw [h9]; decide)]; exact h)
set_option maxRecDepth 100000 in
set_option maxHeartbeats 4000000 in
theorem k_X4_clearBuffer (l : Launch) {E : gEn} {σ : gSt} {π : Nat → Nat} {o : Int64} {d : cSt} : CtI l yX4_clearBuffer wsX4_clearBuffer ({ frames := 0, cells := 0, slots := 0, locals := 0 } : Room) E [.ref (E.2.1 10 0)] (gU σ 10 d) π o (d 0 8) (gU σ 10 (cW (cW d 0 0 0) 0 8 0)) π o := by
  refine CtI.of (cc := cX4_clearBuffer) (own := RX4) (maxL := 2) (ret := (some .int)) [some (.ref (E.2.1 10 0)), none] (by decide) rfl rfl (Nat.le_of_ble_eq_true rfl) rfl ?_
  intro p e s m args below meth cd C hrt hlk
  have hinX4 : ∀ w ∈ wsX40, w ∈ wsX4_clearBuffer := by decide +kernel
  refine G.aldn0 C dX4_clearBuffer_0 ?_
  refine G.iconst C 0 dX4_clearBuffer_1 (by decide) ?_
  refine G.putD (ty := .int) C hinX4 0 (by decide) rfl (C.1.2.2.2.2 (.fieldLink RX4 25 RX4 "thrown" "I") (by decide +kernel)) rfl rfl rfl rfl pfX4_0 dX4_clearBuffer_2 ?_
  refine G.aldn0 C dX4_clearBuffer_5 ?_
  refine G.getD C hinX4 8 (by decide) rfl (C.1.2.2.2.2 (.fieldLink RX4 118 RX4 "length" "I") (by decide +kernel)) rfl dX4_clearBuffer_6 ?_
  refine G.istn1 C dX4_clearBuffer_9 (by omega) rfl ?_
  refine G.aldn0 C dX4_clearBuffer_10 ?_
  refine G.iconst C 0 dX4_clearBuffer_11 (by decide) ?_
  refine G.putD (ty := .int) C hinX4 8 (by decide) rfl (C.1.2.2.2.2 (.fieldLink RX4 118 RX4 "length" "I") (by decide +kernel)) rfl rfl rfl rfl pfX4_8 dX4_clearBuffer_12 ?_
  refine G.ildn1 C dX4_clearBuffer_15 ?_
  exact G.iret C hlk hrt dX4_clearBuffer_16 (by rfl) (by exact fun _ h => h)
set_option maxRecDepth 100000 in
set_option maxHeartbeats 4000000 in
theorem k_X4_stopped (l : Launch) {E : gEn} {σ : gSt} {π : Nat → Nat} {o : Int64} {d : cSt} {x : Int32} : CtI l yX4_stopped wsX4_stopped ({ frames := 1, cells := 0, slots := 0, locals := 22 } : Room) E [.ref (E.2.1 10 0), .int x] (gU σ 10 d) π o ((pStopped d x).1) (gU σ 10 ((pStopped d x).2)) π o := by
  refine CtI.of (cc := cX4_stopped) (own := RX4) (maxL := 2) (ret := (some .int)) [some (.ref (E.2.1 10 0)), some (.int x)] (by decide) rfl rfl (Nat.le_of_ble_eq_true rfl) rfl ?_
  intro p e s m args below meth cd C hrt hlk
  have hinX4 : ∀ w ∈ wsX40, w ∈ wsX4_stopped := by decide +kernel
  refine G.aldn0 C dX4_stopped_0 ?_
  refine G.ildn1 C dX4_stopped_1 ?_
  refine G.iconst C 0 dX4_stopped_2 (by decide) ?_
  refine G.iconst C 1 dX4_stopped_3 (by decide) ?_
  refine G.callSI3 C (k_X4_in l) (va_cwS 3 C.1.2.2.2.2 gX4_stopped_X4_in rfl rfl rfl (by decide +kernel) ⟨Nat.le_of_ble_eq_true rfl, Nat.le_of_ble_eq_true rfl⟩) (Nat.le_of_ble_eq_true rfl) dX4_stopped_4 ?_
  refine G.if_eqB C 14 dX4_stopped_7 (by decide) (fun h7 => ?_) (fun h7 => ?_)
  · refine G.iconst C 1 dX4_stopped_14 (by decide) ?_
    refine G.putD (ty := .int) C hinX4 0 (by decide) rfl (C.1.2.2.2.2 (.fieldLink RX4 25 RX4 "thrown" "I") (by decide +kernel)) rfl rfl rfl rfl pfX4_0 dX4_stopped_15 ?_
    refine G.aldn0 C dX4_stopped_18 ?_
    refine G.getD C hinX4 0 (by decide) rfl (C.1.2.2.2.2 (.fieldLink RX4 25 RX4 "thrown" "I") (by decide +kernel)) rfl dX4_stopped_19 ?_
    refine G.topI (1) rfl ?_
    refine G.if_le C 29 dX4_stopped_22 (by decide) (fun h => absurd h (by decide)) (fun _ => ?_)
    refine G.iconst C 0 dX4_stopped_25 (by decide) ?_
    refine G.goto C 39 dX4_stopped_26 (by decide) ?_
    exact G.iret C hlk hrt dX4_stopped_39 (by rw [pStopped, if_neg (by rw [h7]; decide)] <;> rfl) (by intro H h; rw [pStopped, if_neg (by rw [h7]; decide)]; exact h)
  · refine G.iconst C 0 dX4_stopped_10 (by decide) ?_
    refine G.goto C 15 dX4_stopped_11 (by decide) ?_
    refine G.putD (ty := .int) C hinX4 0 (by decide) rfl (C.1.2.2.2.2 (.fieldLink RX4 25 RX4 "thrown" "I") (by decide +kernel)) rfl rfl rfl rfl pfX4_0 dX4_stopped_15 ?_
    refine G.aldn0 C dX4_stopped_18 ?_
    refine G.getD C hinX4 0 (by decide) rfl (C.1.2.2.2.2 (.fieldLink RX4 25 RX4 "thrown" "I") (by decide +kernel)) rfl dX4_stopped_19 ?_
    refine G.topI (0) rfl ?_
    refine G.if_le C 29 dX4_stopped_22 (by decide) (fun _ => ?_) (fun h => absurd (by decide) h)
    refine G.aldn0 C dX4_stopped_29 ?_
    refine G.getD C hinX4 1 (by decide) rfl (C.1.2.2.2.2 (.fieldLink RX4 7 RX4 "z" "[I") (by decide +kernel)) rfl dX4_stopped_30 ?_
    refine G.sipush C 178 dX4_stopped_33 (by decide) ?_
    refine G.ildn1 C dX4_stopped_36 ?_
    refine G.iadd C dX4_stopped_37 ?_
    refine G.ialdU C (n := 232) (j := 1) (d0 := (178 + ix x)) rfl (gV_d (by omega)) (bx_in (c := 178) (a := 0) (b := 1) (n := 232) h7 (by omega) (by omega) (by omega) (by omega)).1 (bx_in (c := 178) (a := 0) (b := 1) (n := 232) h7 (by omega) (by omega) (by omega) (by omega)).2 dX4_stopped_38 ?_
    exact G.iret C hlk hrt dX4_stopped_39 (by rw [pStopped, if_pos h7] <;> rfl) (by intro H h; rw [pStopped, if_pos h7]; exact h)
set_option maxRecDepth 100000 in
set_option maxHeartbeats 4000000 in
theorem k_X4_dove (l : Launch) {E : gEn} {σ : gSt} {π : Nat → Nat} {o : Int64} {d : cSt} {x y : Int32} : CtI l yX4_dove wsX4_dove ({ frames := 2, cells := 0, slots := 0, locals := 44 } : Room) E [.ref (E.2.1 10 0), .int x, .int y] (gU σ 10 d) π o ((pDove d x y).1) (gU σ 10 ((pDove d x y).2)) π o := by
  refine CtI.of (cc := cX4_dove) (own := RX4) (maxL := 3) (ret := (some .int)) [some (.ref (E.2.1 10 0)), some (.int x), some (.int y)] (by decide) rfl rfl (Nat.le_of_ble_eq_true rfl) rfl ?_
  intro p e s m args below meth cd C hrt hlk
  have hinX4 : ∀ w ∈ wsX40, w ∈ wsX4_dove := by decide +kernel
  refine G.aldn0 C dX4_dove_0 ?_
  refine G.aldn0 C dX4_dove_1 ?_
  refine G.ildn1 C dX4_dove_2 ?_
  refine G.callVI1 C (k_X4_isDove l) (cwV 1 C.1.2.2.2.2 gX4_dove_X4_isDove rfl rfl rfl (by decide +kernel) ⟨Nat.le_of_ble_eq_true rfl, Nat.le_of_ble_eq_true rfl⟩) gO_d rfl (Nat.le_of_ble_eq_true rfl) dX4_dove_3 ?_
  refine G.if_neB C 13 dX4_dove_6 (by decide) (fun h6 => ?_) (fun h6 => ?_)
  · refine G.ildn2 C dX4_dove_13 ?_
    refine G.iconst C 0 dX4_dove_14 (by decide) ?_
    refine G.bipush C 7 dX4_dove_15 (by decide) ?_
    refine G.callSI3 C (k_X4_in l) (va_cwS 3 C.1.2.2.2.2 gX4_dove_X4_in rfl rfl rfl (by decide +kernel) ⟨Nat.le_of_ble_eq_true rfl, Nat.le_of_ble_eq_true rfl⟩) (Nat.le_of_ble_eq_true rfl) dX4_dove_17 ?_
    refine G.if_eqB C 27 dX4_dove_20 (by decide) (fun h20 => ?_) (fun h20 => ?_)
    · refine G.iconst C 2 dX4_dove_27 (by decide) ?_
      refine G.putD (ty := .int) C hinX4 0 (by decide) rfl (C.1.2.2.2.2 (.fieldLink RX4 25 RX4 "thrown" "I") (by decide +kernel)) rfl rfl rfl rfl pfX4_0 dX4_dove_28 ?_
      refine G.aldn0 C dX4_dove_31 ?_
      refine G.getD C hinX4 0 (by decide) rfl (C.1.2.2.2.2 (.fieldLink RX4 25 RX4 "thrown" "I") (by decide +kernel)) rfl dX4_dove_32 ?_
      refine G.topI (2) rfl ?_
      refine G.if_le C 42 dX4_dove_35 (by decide) (fun h => absurd h (by decide)) (fun _ => ?_)
      refine G.iconst C 0 dX4_dove_38 (by decide) ?_
      refine G.goto C 48 dX4_dove_39 (by decide) ?_
      exact G.iret C hlk hrt dX4_dove_48 (by rw [pDove, if_pos h6, if_neg (by rw [h20]; decide)] <;> rfl) (by intro H h; rw [pDove, if_pos h6, if_neg (by rw [h20]; decide)]; exact h)
    · refine G.iconst C 0 dX4_dove_23 (by decide) ?_
      refine G.goto C 28 dX4_dove_24 (by decide) ?_
      refine G.putD (ty := .int) C hinX4 0 (by decide) rfl (C.1.2.2.2.2 (.fieldLink RX4 25 RX4 "thrown" "I") (by decide +kernel)) rfl rfl rfl rfl pfX4_0 dX4_dove_28 ?_
      refine G.aldn0 C dX4_dove_31 ?_
      refine G.getD C hinX4 0 (by decide) rfl (C.1.2.2.2.2 (.fieldLink RX4 25 RX4 "thrown" "I") (by decide +kernel)) rfl dX4_dove_32 ?_
      refine G.topI (0) rfl ?_
      refine G.if_le C 42 dX4_dove_35 (by decide) (fun _ => ?_) (fun h => absurd (by decide) h)
      refine G.aldn0 C dX4_dove_42 ?_
      refine G.ildn1 C dX4_dove_43 ?_
      refine G.ildn2 C dX4_dove_44 ?_
      refine G.callVI2 C (k_X4_doveNow l (d := cW d 0 0 0) (mDove_in h6) (by obtain ⟨j, h1, h2, e⟩ := mIn_nI (a := 0) (b := 7) h20 (by omega) (by omega); rw [e]; exact vp_in_nI (by omega) (by omega))) (cwV 2 C.1.2.2.2.2 gX4_dove_X4_doveNow rfl rfl rfl (by decide +kernel) ⟨Nat.le_of_ble_eq_true rfl, Nat.le_of_ble_eq_true rfl⟩) gO_d rfl (Nat.le_of_ble_eq_true rfl) dX4_dove_45 ?_
      exact G.iret C hlk hrt dX4_dove_48 (by rw [pDove, if_pos h6, if_pos h20] <;> rfl) (by intro H h; rw [pDove, if_pos h6, if_pos h20]; exact h)
  · refine G.iconst C 1 dX4_dove_9 (by decide) ?_
    refine G.goto C 28 dX4_dove_10 (by decide) ?_
    refine G.putD (ty := .int) C hinX4 0 (by decide) rfl (C.1.2.2.2.2 (.fieldLink RX4 25 RX4 "thrown" "I") (by decide +kernel)) rfl rfl rfl rfl pfX4_0 dX4_dove_28 ?_
    refine G.aldn0 C dX4_dove_31 ?_
    refine G.getD C hinX4 0 (by decide) rfl (C.1.2.2.2.2 (.fieldLink RX4 25 RX4 "thrown" "I") (by decide +kernel)) rfl dX4_dove_32 ?_
    refine G.topI (1) rfl ?_
    refine G.if_le C 42 dX4_dove_35 (by decide) (fun h => absurd h (by decide)) (fun _ => ?_)
    refine G.iconst C 0 dX4_dove_38 (by decide) ?_
    refine G.goto C 48 dX4_dove_39 (by decide) ?_
    exact G.iret C hlk hrt dX4_dove_48 (by rw [pDove, if_neg (by rw [h6]; decide)] <;> rfl) (by intro H h; rw [pDove, if_neg (by rw [h6]; decide)]; exact h)
set_option maxRecDepth 100000 in
set_option maxHeartbeats 4000000 in
theorem k_X4_hole (l : Launch) {E : gEn} {σ : gSt} {π : Nat → Nat} {o : Int64} {d : cSt} {x y : Int32} : CtI l yX4_hole wsX4_hole ({ frames := 4, cells := 0, slots := 0, locals := 88 } : Room) E [.ref (E.2.1 10 0), .int x, .int y] (gU σ 10 d) π o ((pHole d x y).1) (gU σ 10 ((pHole d x y).2)) π o := by
  refine CtI.of (cc := cX4_hole) (own := RX4) (maxL := 3) (ret := (some .int)) [some (.ref (E.2.1 10 0)), some (.int x), some (.int y)] (by decide) rfl rfl (Nat.le_of_ble_eq_true rfl) rfl ?_
  intro p e s m args below meth cd C hrt hlk
  have hinX4 : ∀ w ∈ wsX40, w ∈ wsX4_hole := by decide +kernel
  refine G.aldn0 C dX4_hole_0 ?_
  refine G.ildn1 C dX4_hole_1 ?_
  refine G.callSI1 C (k_X4_isHole l) (va_cwS 1 C.1.2.2.2.2 gX4_hole_X4_isHole rfl rfl rfl (by decide +kernel) ⟨Nat.le_of_ble_eq_true rfl, Nat.le_of_ble_eq_true rfl⟩) (Nat.le_of_ble_eq_true rfl) dX4_hole_2 ?_
  refine G.if_neB C 12 dX4_hole_5 (by decide) (fun h5 => ?_) (fun h5 => ?_)
  · refine G.ildn2 C dX4_hole_12 ?_
    refine G.iconst C 0 dX4_hole_13 (by decide) ?_
    refine G.iconst C 2 dX4_hole_14 (by decide) ?_
    refine G.callSI3 C (k_X4_in l) (va_cwS 3 C.1.2.2.2.2 gX4_hole_X4_in rfl rfl rfl (by decide +kernel) ⟨Nat.le_of_ble_eq_true rfl, Nat.le_of_ble_eq_true rfl⟩) (Nat.le_of_ble_eq_true rfl) dX4_hole_15 ?_
    refine G.if_eqB C 25 dX4_hole_18 (by decide) (fun h18 => ?_) (fun h18 => ?_)
    · refine G.iconst C 2 dX4_hole_25 (by decide) ?_
      refine G.putD (ty := .int) C hinX4 0 (by decide) rfl (C.1.2.2.2.2 (.fieldLink RX4 25 RX4 "thrown" "I") (by decide +kernel)) rfl rfl rfl rfl pfX4_0 dX4_hole_26 ?_
      refine G.aldn0 C dX4_hole_29 ?_
      refine G.getD C hinX4 0 (by decide) rfl (C.1.2.2.2.2 (.fieldLink RX4 25 RX4 "thrown" "I") (by decide +kernel)) rfl dX4_hole_30 ?_
      refine G.topI (2) rfl ?_
      refine G.if_le C 40 dX4_hole_33 (by decide) (fun h => absurd h (by decide)) (fun _ => ?_)
      refine G.iconst C 0 dX4_hole_36 (by decide) ?_
      refine G.goto C 46 dX4_hole_37 (by decide) ?_
      exact G.iret C hlk hrt dX4_hole_46 (by rw [pHole, if_pos h5, if_neg (by rw [h18]; decide)] <;> rfl) (by intro H h; rw [pHole, if_pos h5, if_neg (by rw [h18]; decide)]; exact h)
    · refine G.iconst C 0 dX4_hole_21 (by decide) ?_
      refine G.goto C 26 dX4_hole_22 (by decide) ?_
      refine G.putD (ty := .int) C hinX4 0 (by decide) rfl (C.1.2.2.2.2 (.fieldLink RX4 25 RX4 "thrown" "I") (by decide +kernel)) rfl rfl rfl rfl pfX4_0 dX4_hole_26 ?_
      refine G.aldn0 C dX4_hole_29 ?_
      refine G.getD C hinX4 0 (by decide) rfl (C.1.2.2.2.2 (.fieldLink RX4 25 RX4 "thrown" "I") (by decide +kernel)) rfl dX4_hole_30 ?_
      refine G.topI (0) rfl ?_
      refine G.if_le C 40 dX4_hole_33 (by decide) (fun _ => ?_) (fun h => absurd (by decide) h)
      refine G.aldn0 C dX4_hole_40 ?_
      refine G.ildn1 C dX4_hole_41 ?_
      refine G.ildn2 C dX4_hole_42 ?_
      refine G.callVI2 C (k_X4_holeNow l (d := cW d 0 0 0) (mIn_in24 h5)) (cwV 2 C.1.2.2.2.2 gX4_hole_X4_holeNow rfl rfl rfl (by decide +kernel) ⟨Nat.le_of_ble_eq_true rfl, Nat.le_of_ble_eq_true rfl⟩) gO_d rfl (Nat.le_of_ble_eq_true rfl) dX4_hole_43 ?_
      exact G.iret C hlk hrt dX4_hole_46 (by rw [pHole, if_pos h5, if_pos h18] <;> rfl) (by intro H h; rw [pHole, if_pos h5, if_pos h18]; exact h)
  · refine G.iconst C 1 dX4_hole_8 (by decide) ?_
    refine G.goto C 26 dX4_hole_9 (by decide) ?_
    refine G.putD (ty := .int) C hinX4 0 (by decide) rfl (C.1.2.2.2.2 (.fieldLink RX4 25 RX4 "thrown" "I") (by decide +kernel)) rfl rfl rfl rfl pfX4_0 dX4_hole_26 ?_
    refine G.aldn0 C dX4_hole_29 ?_
    refine G.getD C hinX4 0 (by decide) rfl (C.1.2.2.2.2 (.fieldLink RX4 25 RX4 "thrown" "I") (by decide +kernel)) rfl dX4_hole_30 ?_
    refine G.topI (1) rfl ?_
    refine G.if_le C 40 dX4_hole_33 (by decide) (fun h => absurd h (by decide)) (fun _ => ?_)
    refine G.iconst C 0 dX4_hole_36 (by decide) ?_
    refine G.goto C 46 dX4_hole_37 (by decide) ?_
    exact G.iret C hlk hrt dX4_hole_46 (by rw [pHole, if_neg (by rw [h5]; decide)] <;> rfl) (by intro H h; rw [pHole, if_neg (by rw [h5]; decide)]; exact h)
set_option maxRecDepth 100000 in
set_option maxHeartbeats 4000000 in
theorem k_X4_countNow (l : Launch) {E : gEn} {σ : gSt} {π : Nat → Nat} {o : Int64} {d : cSt} {x : Int32} : CtI l yX4_countNow wsX4_countNow ({ frames := 3, cells := 0, slots := 0, locals := 67 } : Room) E [.ref (E.2.1 10 0), .int x] (gU σ 10 d) π o (mNumN d x) (gU σ 10 d) π o := by
  refine CtI.of (cc := cX4_countNow) (own := RX4) (maxL := 2) (ret := (some .int)) [some (.ref (E.2.1 10 0)), some (.int x)] (by decide) rfl rfl (Nat.le_of_ble_eq_true rfl) rfl ?_
  intro p e s m args below meth cd C hrt hlk
  have hinX4 : ∀ w ∈ wsX40, w ∈ wsX4_countNow := by decide +kernel
  refine G.ildn1 C dX4_countNow_0 ?_
  refine G.bipush C 11 dX4_countNow_1 (by decide) ?_
  refine G.bipush C 14 dX4_countNow_3 (by decide) ?_
  refine G.callSI3 C (k_X4_in l) (va_cwS 3 C.1.2.2.2.2 gX4_countNow_X4_in rfl rfl rfl (by decide +kernel) ⟨Nat.le_of_ble_eq_true rfl, Nat.le_of_ble_eq_true rfl⟩) (Nat.le_of_ble_eq_true rfl) dX4_countNow_5 ?_
  refine G.if_eqB C 25 dX4_countNow_8 (by decide) (fun h8 => ?_) (fun h8 => ?_)
  · refine G.ildn1 C dX4_countNow_25 ?_
    by_cases h26_0 : x = 0
    · refine G.tabIn C 108 dX4_countNow_26 (off := 82) (by rw [h26_0]; decide) (by rw [h26_0]; decide) (by rw [h26_0]; rfl) (by decide) ?_
      refine G.aldn0 C dX4_countNow_108 ?_
      refine G.getD C hinX4 1 (by decide) rfl (C.1.2.2.2.2 (.fieldLink RX4 7 RX4 "z" "[I") (by decide +kernel)) rfl dX4_countNow_109 ?_
      refine G.sipush C 169 dX4_countNow_112 (by decide) ?_
      refine G.ialdU C (n := 232) (j := 1) (d0 := 169) rfl (gV_d (by omega)) (by unfold vp_in; decide) (by decide) dX4_countNow_115 ?_
      exact G.iret C hlk hrt dX4_countNow_116 (by rw [mNumN, if_neg (by rw [h8]; decide), if_pos h26_0]) (by exact fun _ h => h)
    by_cases h26_1 : x = 1
    · refine G.tabIn C 117 dX4_countNow_26 (off := 91) (by rw [h26_1]; decide) (by rw [h26_1]; decide) (by rw [h26_1]; rfl) (by decide) ?_
      refine G.aldn0 C dX4_countNow_117 ?_
      refine G.getD C hinX4 1 (by decide) rfl (C.1.2.2.2.2 (.fieldLink RX4 7 RX4 "z" "[I") (by decide +kernel)) rfl dX4_countNow_118 ?_
      refine G.sipush C 168 dX4_countNow_121 (by decide) ?_
      refine G.ialdU C (n := 232) (j := 1) (d0 := 168) rfl (gV_d (by omega)) (by unfold vp_in; decide) (by decide) dX4_countNow_124 ?_
      exact G.iret C hlk hrt dX4_countNow_125 (by rw [mNumN, if_neg (by rw [h8]; decide), if_neg h26_0, if_pos h26_1]) (by exact fun _ h => h)
    by_cases h26_2 : x = 2
    · refine G.tabIn C 126 dX4_countNow_26 (off := 100) (by rw [h26_2]; decide) (by rw [h26_2]; decide) (by rw [h26_2]; rfl) (by decide) ?_
      refine G.aldn0 C dX4_countNow_126 ?_
      refine G.callVI0 C (k_X4_allDoves l) (cwV 0 C.1.2.2.2.2 gX4_countNow_X4_allDoves rfl rfl rfl (by decide +kernel) ⟨Nat.le_of_ble_eq_true rfl, Nat.le_of_ble_eq_true rfl⟩) gO_d rfl (Nat.le_of_ble_eq_true rfl) dX4_countNow_127 ?_
      exact G.iret C hlk hrt dX4_countNow_130 (by rw [mNumN, if_neg (by rw [h8]; decide), if_neg h26_0, if_neg h26_1, if_pos h26_2]) (by exact fun _ h => h)
    by_cases h26_3 : x = 3
    · refine G.tabIn C 131 dX4_countNow_26 (off := 105) (by rw [h26_3]; decide) (by rw [h26_3]; decide) (by rw [h26_3]; rfl) (by decide) ?_
      refine G.aldn0 C dX4_countNow_131 ?_
      refine G.iconst C 0 dX4_countNow_132 (by decide) ?_
      refine G.bipush C 23 dX4_countNow_133 (by decide) ?_
      refine G.callVI2 C (k_X4_dovesAt l) (cwV 2 C.1.2.2.2.2 gX4_countNow_X4_dovesAt rfl rfl rfl (by decide +kernel) ⟨Nat.le_of_ble_eq_true rfl, Nat.le_of_ble_eq_true rfl⟩) gO_d rfl (Nat.le_of_ble_eq_true rfl) dX4_countNow_135 ?_
      exact G.iret C hlk hrt dX4_countNow_138 (by rw [mNumN, if_neg (by rw [h8]; decide), if_neg h26_0, if_neg h26_1, if_neg h26_2, if_pos h26_3]) (by exact fun _ h => h)
    by_cases h26_4 : x = 4
    · refine G.tabIn C 131 dX4_countNow_26 (off := 105) (by rw [h26_4]; decide) (by rw [h26_4]; decide) (by rw [h26_4]; rfl) (by decide) ?_
      refine G.aldn0 C dX4_countNow_131 ?_
      refine G.iconst C 0 dX4_countNow_132 (by decide) ?_
      refine G.bipush C 23 dX4_countNow_133 (by decide) ?_
      refine G.callVI2 C (k_X4_dovesAt l) (cwV 2 C.1.2.2.2.2 gX4_countNow_X4_dovesAt rfl rfl rfl (by decide +kernel) ⟨Nat.le_of_ble_eq_true rfl, Nat.le_of_ble_eq_true rfl⟩) gO_d rfl (Nat.le_of_ble_eq_true rfl) dX4_countNow_135 ?_
      exact G.iret C hlk hrt dX4_countNow_138 (by rw [mNumN, if_neg (by rw [h8]; decide), if_neg h26_0, if_neg h26_1, if_neg h26_2, if_neg h26_3, if_pos h26_4]) (by exact fun _ h => h)
    by_cases h26_5 : x = 5
    · refine G.tabIn C 139 dX4_countNow_26 (off := 113) (by rw [h26_5]; decide) (by rw [h26_5]; decide) (by rw [h26_5]; rfl) (by decide) ?_
      refine G.aldn0 C dX4_countNow_139 ?_
      refine G.bipush C 24 dX4_countNow_140 (by decide) ?_
      refine G.bipush C 24 dX4_countNow_142 (by decide) ?_
      refine G.callVI2 C (k_X4_dovesAt l) (cwV 2 C.1.2.2.2.2 gX4_countNow_X4_dovesAt rfl rfl rfl (by decide +kernel) ⟨Nat.le_of_ble_eq_true rfl, Nat.le_of_ble_eq_true rfl⟩) gO_d rfl (Nat.le_of_ble_eq_true rfl) dX4_countNow_144 ?_
      exact G.iret C hlk hrt dX4_countNow_147 (by rw [mNumN, if_neg (by rw [h8]; decide), if_neg h26_0, if_neg h26_1, if_neg h26_2, if_neg h26_3, if_neg h26_4, if_pos h26_5]) (by exact fun _ h => h)
    by_cases h26_6 : x = 6
    · refine G.tabIn C 148 dX4_countNow_26 (off := 122) (by rw [h26_6]; decide) (by rw [h26_6]; decide) (by rw [h26_6]; rfl) (by decide) ?_
      refine G.aldn0 C dX4_countNow_148 ?_
      refine G.iconst C (-1) dX4_countNow_149 (by decide) ?_
      refine G.iconst C (-1) dX4_countNow_150 (by decide) ?_
      refine G.callVI2 C (k_X4_dovesAt l) (cwV 2 C.1.2.2.2.2 gX4_countNow_X4_dovesAt rfl rfl rfl (by decide +kernel) ⟨Nat.le_of_ble_eq_true rfl, Nat.le_of_ble_eq_true rfl⟩) gO_d rfl (Nat.le_of_ble_eq_true rfl) dX4_countNow_151 ?_
      exact G.iret C hlk hrt dX4_countNow_154 (by rw [mNumN, if_neg (by rw [h8]; decide), if_neg h26_0, if_neg h26_1, if_neg h26_2, if_neg h26_3, if_neg h26_4, if_neg h26_5, if_pos h26_6]) (by exact fun _ h => h)
    by_cases h26_7 : x = 7
    · refine G.tabIn C 155 dX4_countNow_26 (off := 129) (by rw [h26_7]; decide) (by rw [h26_7]; decide) (by rw [h26_7]; rfl) (by decide) ?_
      refine G.aldn0 C dX4_countNow_155 ?_
      refine G.callVI0 C (k_X4_openHoles l) (cwV 0 C.1.2.2.2.2 gX4_countNow_X4_openHoles rfl rfl rfl (by decide +kernel) ⟨Nat.le_of_ble_eq_true rfl, Nat.le_of_ble_eq_true rfl⟩) gO_d rfl (Nat.le_of_ble_eq_true rfl) dX4_countNow_156 ?_
      exact G.iret C hlk hrt dX4_countNow_159 (by rw [mNumN, if_neg (by rw [h8]; decide), if_neg h26_0, if_neg h26_1, if_neg h26_2, if_neg h26_3, if_neg h26_4, if_neg h26_5, if_neg h26_6, if_pos h26_7]) (by exact fun _ h => h)
    by_cases h26_8 : x = 8
    · refine G.tabIn C 160 dX4_countNow_26 (off := 134) (by rw [h26_8]; decide) (by rw [h26_8]; decide) (by rw [h26_8]; rfl) (by decide) ?_
      refine G.aldn0 C dX4_countNow_160 ?_
      refine G.callVI0 C (k_X4_pairs l) (cwV 0 C.1.2.2.2.2 gX4_countNow_X4_pairs rfl rfl rfl (by decide +kernel) ⟨Nat.le_of_ble_eq_true rfl, Nat.le_of_ble_eq_true rfl⟩) gO_d rfl (Nat.le_of_ble_eq_true rfl) dX4_countNow_161 ?_
      exact G.iret C hlk hrt dX4_countNow_164 (by rw [mNumN, if_neg (by rw [h8]; decide), if_neg h26_0, if_neg h26_1, if_neg h26_2, if_neg h26_3, if_neg h26_4, if_neg h26_5, if_neg h26_6, if_neg h26_7, if_pos h26_8]) (by exact fun _ h => h)
    by_cases h26_9 : x = 9
    · refine G.tabIn C 165 dX4_countNow_26 (off := 139) (by rw [h26_9]; decide) (by rw [h26_9]; decide) (by rw [h26_9]; rfl) (by decide) ?_
      refine G.aldn0 C dX4_countNow_165 ?_
      refine G.getD C hinX4 1 (by decide) rfl (C.1.2.2.2.2 (.fieldLink RX4 7 RX4 "z" "[I") (by decide +kernel)) rfl dX4_countNow_166 ?_
      refine G.sipush C 172 dX4_countNow_169 (by decide) ?_
      refine G.ialdU C (n := 232) (j := 1) (d0 := 172) rfl (gV_d (by omega)) (by unfold vp_in; decide) (by decide) dX4_countNow_172 ?_
      exact G.iret C hlk hrt dX4_countNow_173 (by rw [mNumN, if_neg (by rw [h8]; decide), if_neg h26_0, if_neg h26_1, if_neg h26_2, if_neg h26_3, if_neg h26_4, if_neg h26_5, if_neg h26_6, if_neg h26_7, if_neg h26_8, if_pos h26_9]) (by exact fun _ h => h)
    by_cases h26_10 : x = 10
    · refine G.tabIn C 174 dX4_countNow_26 (off := 148) (by rw [h26_10]; decide) (by rw [h26_10]; decide) (by rw [h26_10]; rfl) (by decide) ?_
      refine G.aldn0 C dX4_countNow_174 ?_
      refine G.getD C hinX4 1 (by decide) rfl (C.1.2.2.2.2 (.fieldLink RX4 7 RX4 "z" "[I") (by decide +kernel)) rfl dX4_countNow_175 ?_
      refine G.sipush C 173 dX4_countNow_178 (by decide) ?_
      refine G.ialdU C (n := 232) (j := 1) (d0 := 173) rfl (gV_d (by omega)) (by unfold vp_in; decide) (by decide) dX4_countNow_181 ?_
      exact G.iret C hlk hrt dX4_countNow_182 (by rw [mNumN, if_neg (by rw [h8]; decide), if_neg h26_0, if_neg h26_1, if_neg h26_2, if_neg h26_3, if_neg h26_4, if_neg h26_5, if_neg h26_6, if_neg h26_7, if_neg h26_8, if_neg h26_9, if_pos h26_10]) (by exact fun _ h => h)
    by_cases h26_11 : x = 11
    · refine G.tabIn C 197 dX4_countNow_26 (off := 171) (by rw [h26_11]; decide) (by rw [h26_11]; decide) (by rw [h26_11]; rfl) (by decide) ?_
      refine G.aldn0 C dX4_countNow_197 ?_
      refine G.getD C hinX4 4 (by decide) rfl (C.1.2.2.2.2 (.fieldLink RX4 44 RX4 "saves" "I") (by decide +kernel)) rfl dX4_countNow_198 ?_
      exact G.iret C hlk hrt dX4_countNow_201 (by exact absurd h8 (by rw [h26_11]; decide)) (by exact fun _ h => h)
    by_cases h26_12 : x = 12
    · refine G.tabIn C 197 dX4_countNow_26 (off := 171) (by rw [h26_12]; decide) (by rw [h26_12]; decide) (by rw [h26_12]; rfl) (by decide) ?_
      refine G.aldn0 C dX4_countNow_197 ?_
      refine G.getD C hinX4 4 (by decide) rfl (C.1.2.2.2.2 (.fieldLink RX4 44 RX4 "saves" "I") (by decide +kernel)) rfl dX4_countNow_198 ?_
      exact G.iret C hlk hrt dX4_countNow_201 (by exact absurd h8 (by rw [h26_12]; decide)) (by exact fun _ h => h)
    by_cases h26_13 : x = 13
    · refine G.tabIn C 197 dX4_countNow_26 (off := 171) (by rw [h26_13]; decide) (by rw [h26_13]; decide) (by rw [h26_13]; rfl) (by decide) ?_
      refine G.aldn0 C dX4_countNow_197 ?_
      refine G.getD C hinX4 4 (by decide) rfl (C.1.2.2.2.2 (.fieldLink RX4 44 RX4 "saves" "I") (by decide +kernel)) rfl dX4_countNow_198 ?_
      exact G.iret C hlk hrt dX4_countNow_201 (by exact absurd h8 (by rw [h26_13]; decide)) (by exact fun _ h => h)
    by_cases h26_14 : x = 14
    · refine G.tabIn C 197 dX4_countNow_26 (off := 171) (by rw [h26_14]; decide) (by rw [h26_14]; decide) (by rw [h26_14]; rfl) (by decide) ?_
      refine G.aldn0 C dX4_countNow_197 ?_
      refine G.getD C hinX4 4 (by decide) rfl (C.1.2.2.2.2 (.fieldLink RX4 44 RX4 "saves" "I") (by decide +kernel)) rfl dX4_countNow_198 ?_
      exact G.iret C hlk hrt dX4_countNow_201 (by exact absurd h8 (by rw [h26_14]; decide)) (by exact fun _ h => h)
    by_cases h26_15 : x = 15
    · refine G.tabIn C 183 dX4_countNow_26 (off := 157) (by rw [h26_15]; decide) (by rw [h26_15]; decide) (by rw [h26_15]; rfl) (by decide) ?_
      refine G.aldn0 C dX4_countNow_183 ?_
      refine G.getD C hinX4 1 (by decide) rfl (C.1.2.2.2.2 (.fieldLink RX4 7 RX4 "z" "[I") (by decide +kernel)) rfl dX4_countNow_184 ?_
      refine G.sipush C 170 dX4_countNow_187 (by decide) ?_
      refine G.ildn1 C dX4_countNow_190 ?_
      refine G.iadd C dX4_countNow_191 ?_
      refine G.bipush C 15 dX4_countNow_192 (by decide) ?_
      refine G.isub C dX4_countNow_194 ?_
      refine G.ialdU C (n := 232) (j := 1) (d0 := _) rfl (gV_d (by omega)) (by rw [h26_15]; unfold vp_in; decide) rfl dX4_countNow_195 ?_
      exact G.iret C hlk hrt dX4_countNow_196 (by rw [mNumN, if_neg (by rw [h8]; decide), if_neg h26_0, if_neg h26_1, if_neg h26_2, if_neg h26_3, if_neg h26_4, if_neg h26_5, if_neg h26_6, if_neg h26_7, if_neg h26_8, if_neg h26_9, if_neg h26_10, if_pos h26_15]) (by exact fun _ h => h)
    by_cases h26_16 : x = 16
    · refine G.tabIn C 183 dX4_countNow_26 (off := 157) (by rw [h26_16]; decide) (by rw [h26_16]; decide) (by rw [h26_16]; rfl) (by decide) ?_
      refine G.aldn0 C dX4_countNow_183 ?_
      refine G.getD C hinX4 1 (by decide) rfl (C.1.2.2.2.2 (.fieldLink RX4 7 RX4 "z" "[I") (by decide +kernel)) rfl dX4_countNow_184 ?_
      refine G.sipush C 170 dX4_countNow_187 (by decide) ?_
      refine G.ildn1 C dX4_countNow_190 ?_
      refine G.iadd C dX4_countNow_191 ?_
      refine G.bipush C 15 dX4_countNow_192 (by decide) ?_
      refine G.isub C dX4_countNow_194 ?_
      refine G.ialdU C (n := 232) (j := 1) (d0 := _) rfl (gV_d (by omega)) (by rw [h26_16]; unfold vp_in; decide) rfl dX4_countNow_195 ?_
      exact G.iret C hlk hrt dX4_countNow_196 (by rw [mNumN, if_neg (by rw [h8]; decide), if_neg h26_0, if_neg h26_1, if_neg h26_2, if_neg h26_3, if_neg h26_4, if_neg h26_5, if_neg h26_6, if_neg h26_7, if_neg h26_8, if_neg h26_9, if_neg h26_10, if_neg h26_15, if_pos h26_16]) (by exact fun _ h => h)
    refine G.tabOut C 197 dX4_countNow_26 (by simp only [← Int32.toInt_inj] at h26_0 h26_1 h26_2 h26_3 h26_4 h26_5 h26_6 h26_7 h26_8 h26_9 h26_10 h26_11 h26_12 h26_13 h26_14 h26_15 h26_16; simp at h26_0 h26_1 h26_2 h26_3 h26_4 h26_5 h26_6 h26_7 h26_8 h26_9 h26_10 h26_11 h26_12 h26_13 h26_14 h26_15 h26_16; omega) (by decide) ?_
    refine G.aldn0 C dX4_countNow_197 ?_
    refine G.getD C hinX4 4 (by decide) rfl (C.1.2.2.2.2 (.fieldLink RX4 44 RX4 "saves" "I") (by decide +kernel)) rfl dX4_countNow_198 ?_
    exact G.iret C hlk hrt dX4_countNow_201 (by rw [mNumN, if_neg (by rw [h8]; decide), if_neg h26_0, if_neg h26_1, if_neg h26_2, if_neg h26_3, if_neg h26_4, if_neg h26_5, if_neg h26_6, if_neg h26_7, if_neg h26_8, if_neg h26_9, if_neg h26_10, if_neg h26_15, if_neg h26_16]) (by exact fun _ h => h)
  · refine G.aldn0 C dX4_countNow_11 ?_
    refine G.getD C hinX4 1 (by decide) rfl (C.1.2.2.2.2 (.fieldLink RX4 7 RX4 "z" "[I") (by decide +kernel)) rfl dX4_countNow_12 ?_
    refine G.sipush C 174 dX4_countNow_15 (by decide) ?_
    refine G.ildn1 C dX4_countNow_18 ?_
    refine G.iadd C dX4_countNow_19 ?_
    refine G.bipush C 11 dX4_countNow_20 (by decide) ?_
    refine G.isub C dX4_countNow_22 ?_
    refine G.ialdU C (n := 232) (j := 1) (d0 := _) rfl (gV_d (by omega)) (bx_in2 (c := 174) (e := 11) (a := 11) (b := 14) (n := 232) h8 (by omega) (by omega) (by omega) (by omega) (by omega) (by omega)).1 rfl dX4_countNow_23 ?_
    exact G.iret C hlk hrt dX4_countNow_24 (by rw [mNumN, if_pos h8]) (by exact fun _ h => h)
set_option maxRecDepth 100000 in
set_option maxHeartbeats 4000000 in
theorem k_X4_count (l : Launch) {E : gEn} {σ : gSt} {π : Nat → Nat} {o : Int64} {d : cSt} {x : Int32} : CtI l yX4_count wsX4_count ({ frames := 4, cells := 0, slots := 0, locals := 88 } : Room) E [.ref (E.2.1 10 0), .int x] (gU σ 10 d) π o ((pCount d x).1) (gU σ 10 ((pCount d x).2)) π o := by
  refine CtI.of (cc := cX4_count) (own := RX4) (maxL := 2) (ret := (some .int)) [some (.ref (E.2.1 10 0)), some (.int x)] (by decide) rfl rfl (Nat.le_of_ble_eq_true rfl) rfl ?_
  intro p e s m args below meth cd C hrt hlk
  have hinX4 : ∀ w ∈ wsX40, w ∈ wsX4_count := by decide +kernel
  refine G.aldn0 C dX4_count_0 ?_
  refine G.ildn1 C dX4_count_1 ?_
  refine G.iconst C 0 dX4_count_2 (by decide) ?_
  refine G.bipush C 17 dX4_count_3 (by decide) ?_
  refine G.callSI3 C (k_X4_in l) (va_cwS 3 C.1.2.2.2.2 gX4_count_X4_in rfl rfl rfl (by decide +kernel) ⟨Nat.le_of_ble_eq_true rfl, Nat.le_of_ble_eq_true rfl⟩) (Nat.le_of_ble_eq_true rfl) dX4_count_5 ?_
  refine G.if_eqB C 15 dX4_count_8 (by decide) (fun h8 => ?_) (fun h8 => ?_)
  · refine G.iconst C 1 dX4_count_15 (by decide) ?_
    refine G.putD (ty := .int) C hinX4 0 (by decide) rfl (C.1.2.2.2.2 (.fieldLink RX4 25 RX4 "thrown" "I") (by decide +kernel)) rfl rfl rfl rfl pfX4_0 dX4_count_16 ?_
    refine G.aldn0 C dX4_count_19 ?_
    refine G.getD C hinX4 0 (by decide) rfl (C.1.2.2.2.2 (.fieldLink RX4 25 RX4 "thrown" "I") (by decide +kernel)) rfl dX4_count_20 ?_
    refine G.topI (1) rfl ?_
    refine G.if_le C 30 dX4_count_23 (by decide) (fun h => absurd h (by decide)) (fun _ => ?_)
    refine G.iconst C 0 dX4_count_26 (by decide) ?_
    refine G.goto C 35 dX4_count_27 (by decide) ?_
    exact G.iret C hlk hrt dX4_count_35 (by rw [pCount, if_neg (by rw [h8]; decide)] <;> rfl) (by intro H h; rw [pCount, if_neg (by rw [h8]; decide)]; exact h)
  · refine G.iconst C 0 dX4_count_11 (by decide) ?_
    refine G.goto C 16 dX4_count_12 (by decide) ?_
    refine G.putD (ty := .int) C hinX4 0 (by decide) rfl (C.1.2.2.2.2 (.fieldLink RX4 25 RX4 "thrown" "I") (by decide +kernel)) rfl rfl rfl rfl pfX4_0 dX4_count_16 ?_
    refine G.aldn0 C dX4_count_19 ?_
    refine G.getD C hinX4 0 (by decide) rfl (C.1.2.2.2.2 (.fieldLink RX4 25 RX4 "thrown" "I") (by decide +kernel)) rfl dX4_count_20 ?_
    refine G.topI (0) rfl ?_
    refine G.if_le C 30 dX4_count_23 (by decide) (fun _ => ?_) (fun h => absurd (by decide) h)
    refine G.aldn0 C dX4_count_30 ?_
    refine G.ildn1 C dX4_count_31 ?_
    refine G.callVI1 C (k_X4_countNow l (d := cW d 0 0 0)) (cwV 1 C.1.2.2.2.2 gX4_count_X4_countNow rfl rfl rfl (by decide +kernel) ⟨Nat.le_of_ble_eq_true rfl, Nat.le_of_ble_eq_true rfl⟩) gO_d rfl (Nat.le_of_ble_eq_true rfl) dX4_count_32 ?_
    exact G.iret C hlk hrt dX4_count_35 (by rw [pCount, if_pos h8] <;> rfl) (by intro H h; rw [pCount, if_pos h8]; exact h)
theorem stp_in {x y : Int32} {n : Nat} {a : Int32} (hx : ¬ x < 0) (hy : mIn y 0 1 = true) (ha : a = nI n) (hn : n ≤ 25) (h : ¬ a ≤ x) : vp_in (181 + 2 * x + y) 232 ∧ ix (181 + 2 * x + y) = 181 + 2 * ix x + ix y := by
  obtain ⟨j, h1, h2, rfl⟩ := mIn_nI (a := 0) (b := 1) hy (by omega) (by omega)
  obtain ⟨k, hk, rfl⟩ := nI_of hx
  rw [ha, nI_leI (by omega) hk] at h
  have e2 : (2 : Int32) = nI 2 := rfl
  have e181 : (181 : Int32) = nI 181 := rfl
  rw [e2, e181, pk_mul, nI_add, nI_add, ix_nI (by omega), ix_nI (by omega), ix_nI (by omega)]
  exact ⟨vp_in_nI (by omega) (by omega), rfl⟩
set_option maxRecDepth 100000 in
set_option maxHeartbeats 4000000 in
theorem k_X4_step (l : Launch) {E : gEn} {σ : gSt} {π : Nat → Nat} {o : Int64} {d : cSt} {x y : Int32} {stN : Nat} (hst : d 1 180 = nI stN) (h25 : stN ≤ 25) : CtI l yX4_step wsX4_step ({ frames := 1, cells := 0, slots := 0, locals := 22 } : Room) E [.ref (E.2.1 10 0), .int x, .int y] (gU σ 10 d) π o ((pStep d x y).1) (gU σ 10 ((pStep d x y).2)) π o := by
  refine CtI.of (cc := cX4_step) (own := RX4) (maxL := 3) (ret := (some .int)) [some (.ref (E.2.1 10 0)), some (.int x), some (.int y)] (by decide) rfl rfl (Nat.le_of_ble_eq_true rfl) rfl ?_
  intro p e s m args below meth cd C hrt hlk
  have hinX4 : ∀ w ∈ wsX40, w ∈ wsX4_step := by decide +kernel
  refine G.aldn0 C dX4_step_0 ?_
  refine G.ildn1 C dX4_step_1 ?_
  refine G.if_lt C 18 dX4_step_2 (by decide) (fun h2 => ?_) (fun h2 => ?_)
  · refine G.iconst C 1 dX4_step_18 (by decide) ?_
    refine G.putD (ty := .int) C hinX4 0 (by decide) rfl (C.1.2.2.2.2 (.fieldLink RX4 25 RX4 "thrown" "I") (by decide +kernel)) rfl rfl rfl rfl pfX4_0 dX4_step_19 ?_
    refine G.aldn0 C dX4_step_22 ?_
    refine G.getD C hinX4 0 (by decide) rfl (C.1.2.2.2.2 (.fieldLink RX4 25 RX4 "thrown" "I") (by decide +kernel)) rfl dX4_step_23 ?_
    refine G.topI (1) rfl ?_
    refine G.if_le C 31 dX4_step_26 (by decide) (fun h => absurd h (by decide)) (fun _ => ?_)
    refine G.iconst C 0 dX4_step_29 (by decide) ?_
    exact G.iret C hlk hrt dX4_step_30 (by rw [pStep, if_pos h2] <;> rfl) (by intro H h; rw [pStep, if_pos h2]; exact h)
  · refine G.ildn2 C dX4_step_5 ?_
    refine G.iconst C 0 dX4_step_6 (by decide) ?_
    refine G.iconst C 1 dX4_step_7 (by decide) ?_
    refine G.callSI3 C (k_X4_in l) (va_cwS 3 C.1.2.2.2.2 gX4_step_X4_in rfl rfl rfl (by decide +kernel) ⟨Nat.le_of_ble_eq_true rfl, Nat.le_of_ble_eq_true rfl⟩) (Nat.le_of_ble_eq_true rfl) dX4_step_8 ?_
    refine G.if_eqB C 18 dX4_step_11 (by decide) (fun h11 => ?_) (fun h11 => ?_)
    · refine G.iconst C 1 dX4_step_18 (by decide) ?_
      refine G.putD (ty := .int) C hinX4 0 (by decide) rfl (C.1.2.2.2.2 (.fieldLink RX4 25 RX4 "thrown" "I") (by decide +kernel)) rfl rfl rfl rfl pfX4_0 dX4_step_19 ?_
      refine G.aldn0 C dX4_step_22 ?_
      refine G.getD C hinX4 0 (by decide) rfl (C.1.2.2.2.2 (.fieldLink RX4 25 RX4 "thrown" "I") (by decide +kernel)) rfl dX4_step_23 ?_
      refine G.topI (1) rfl ?_
      refine G.if_le C 31 dX4_step_26 (by decide) (fun h => absurd h (by decide)) (fun _ => ?_)
      refine G.iconst C 0 dX4_step_29 (by decide) ?_
      exact G.iret C hlk hrt dX4_step_30 (by rw [pStep, if_neg h2, if_neg (by rw [h11]; decide)] <;> rfl) (by intro H h; rw [pStep, if_neg h2, if_neg (by rw [h11]; decide)]; exact h)
    · refine G.iconst C 0 dX4_step_14 (by decide) ?_
      refine G.goto C 19 dX4_step_15 (by decide) ?_
      refine G.putD (ty := .int) C hinX4 0 (by decide) rfl (C.1.2.2.2.2 (.fieldLink RX4 25 RX4 "thrown" "I") (by decide +kernel)) rfl rfl rfl rfl pfX4_0 dX4_step_19 ?_
      refine G.aldn0 C dX4_step_22 ?_
      refine G.getD C hinX4 0 (by decide) rfl (C.1.2.2.2.2 (.fieldLink RX4 25 RX4 "thrown" "I") (by decide +kernel)) rfl dX4_step_23 ?_
      refine G.topI (0) rfl ?_
      refine G.if_le C 31 dX4_step_26 (by decide) (fun _ => ?_) (fun h => absurd (by decide) h)
      refine G.ildn1 C dX4_step_31 ?_
      refine G.aldn0 C dX4_step_32 ?_
      refine G.getD C hinX4 1 (by decide) rfl (C.1.2.2.2.2 (.fieldLink RX4 7 RX4 "z" "[I") (by decide +kernel)) rfl dX4_step_33 ?_
      refine G.sipush C 180 dX4_step_36 (by decide) ?_
      refine G.ialdU C (n := 232) (j := 1) (d0 := 180) rfl (gV_d (by omega)) (by unfold vp_in; decide) (by decide) dX4_step_39 ?_
      refine G.topI (d 1 180) rfl ?_
      refine G.icmp_ge C 60 dX4_step_40 (by decide) (fun h40 => ?_) (fun h40 => ?_)
      · refine G.iconst C (-1) dX4_step_60 (by decide) ?_
        exact G.iret C hlk hrt dX4_step_61 (by rw [pStep, if_neg h2, if_pos h11, if_pos h40] <;> rfl) (by intro H h; rw [pStep, if_neg h2, if_pos h11, if_pos h40]; exact h)
      · refine G.aldn0 C dX4_step_43 ?_
        refine G.getD C hinX4 1 (by decide) rfl (C.1.2.2.2.2 (.fieldLink RX4 7 RX4 "z" "[I") (by decide +kernel)) rfl dX4_step_44 ?_
        refine G.sipush C 181 dX4_step_47 (by decide) ?_
        refine G.iconst C 2 dX4_step_50 (by decide) ?_
        refine G.ildn1 C dX4_step_51 ?_
        refine G.imul C dX4_step_52 ?_
        refine G.iadd C dX4_step_53 ?_
        refine G.ildn2 C dX4_step_54 ?_
        refine G.iadd C dX4_step_55 ?_
        refine G.ialdU C (n := 232) (j := 1) (d0 := (181 + 2 * ix x + ix y)) rfl (gV_d (by omega)) (stp_in h2 h11 hst h25 h40).1 (stp_in h2 h11 hst h25 h40).2 dX4_step_56 ?_
        refine G.goto C 61 dX4_step_57 (by decide) ?_
        exact G.iret C hlk hrt dX4_step_61 (by rw [pStep, if_neg h2, if_pos h11, if_neg h40] <;> rfl) (by intro H h; rw [pStep, if_neg h2, if_pos h11, if_neg h40]; exact h)
set_option maxRecDepth 100000 in
set_option maxHeartbeats 4000000 in
theorem k_X4_whyNot (l : Launch) {E : gEn} {σ : gSt} {π : Nat → Nat} {o : Int64} {d : cSt} {x t : Int32} : CtI l yX4_whyNot wsX4_whyNot ({ frames := 2, cells := 0, slots := 0, locals := 44 } : Room) E [.ref (E.2.1 10 0), .int x, .int t] (gU σ 10 d) π o ((pWhy d x t).1) (gU σ 10 ((pWhy d x t).2)) π o := by
  refine CtI.of (cc := cX4_whyNot) (own := RX4) (maxL := 3) (ret := (some .int)) [some (.ref (E.2.1 10 0)), some (.int x), some (.int t)] (by decide) rfl rfl (Nat.le_of_ble_eq_true rfl) rfl ?_
  intro p e s m args below meth cd C hrt hlk
  have hinX4 : ∀ w ∈ wsX40, w ∈ wsX4_whyNot := by decide +kernel
  refine G.aldn0 C dX4_whyNot_0 ?_
  refine G.aldn0 C dX4_whyNot_1 ?_
  refine G.ildn1 C dX4_whyNot_2 ?_
  refine G.callVI1 C (k_X4_isDove l) (cwV 1 C.1.2.2.2.2 gX4_whyNot_X4_isDove rfl rfl rfl (by decide +kernel) ⟨Nat.le_of_ble_eq_true rfl, Nat.le_of_ble_eq_true rfl⟩) gO_d rfl (Nat.le_of_ble_eq_true rfl) dX4_whyNot_3 ?_
  refine G.if_neB C 13 dX4_whyNot_6 (by decide) (fun h6 => ?_) (fun h6 => ?_)
  · refine G.ildn2 C dX4_whyNot_13 ?_
    refine G.iconst C 0 dX4_whyNot_14 (by decide) ?_
    refine G.sipush C 1439 dX4_whyNot_15 (by decide) ?_
    refine G.callSI3 C (k_X4_in l) (va_cwS 3 C.1.2.2.2.2 gX4_whyNot_X4_in rfl rfl rfl (by decide +kernel) ⟨Nat.le_of_ble_eq_true rfl, Nat.le_of_ble_eq_true rfl⟩) (Nat.le_of_ble_eq_true rfl) dX4_whyNot_18 ?_
    refine G.if_eqB C 28 dX4_whyNot_21 (by decide) (fun h21 => ?_) (fun h21 => ?_)
    · refine G.iconst C 2 dX4_whyNot_28 (by decide) ?_
      refine G.putD (ty := .int) C hinX4 0 (by decide) rfl (C.1.2.2.2.2 (.fieldLink RX4 25 RX4 "thrown" "I") (by decide +kernel)) rfl rfl rfl rfl pfX4_0 dX4_whyNot_29 ?_
      refine G.aldn0 C dX4_whyNot_32 ?_
      refine G.getD C hinX4 0 (by decide) rfl (C.1.2.2.2.2 (.fieldLink RX4 25 RX4 "thrown" "I") (by decide +kernel)) rfl dX4_whyNot_33 ?_
      refine G.topI (2) rfl ?_
      refine G.if_le C 43 dX4_whyNot_36 (by decide) (fun h => absurd h (by decide)) (fun _ => ?_)
      refine G.iconst C 0 dX4_whyNot_39 (by decide) ?_
      refine G.goto C 49 dX4_whyNot_40 (by decide) ?_
      exact G.iret C hlk hrt dX4_whyNot_49 (by rw [pWhy, if_pos h6, if_neg (by rw [h21]; decide)] <;> rfl) (by intro H h; rw [pWhy, if_pos h6, if_neg (by rw [h21]; decide)]; exact h)
    · refine G.iconst C 0 dX4_whyNot_24 (by decide) ?_
      refine G.goto C 29 dX4_whyNot_25 (by decide) ?_
      refine G.putD (ty := .int) C hinX4 0 (by decide) rfl (C.1.2.2.2.2 (.fieldLink RX4 25 RX4 "thrown" "I") (by decide +kernel)) rfl rfl rfl rfl pfX4_0 dX4_whyNot_29 ?_
      refine G.aldn0 C dX4_whyNot_32 ?_
      refine G.getD C hinX4 0 (by decide) rfl (C.1.2.2.2.2 (.fieldLink RX4 25 RX4 "thrown" "I") (by decide +kernel)) rfl dX4_whyNot_33 ?_
      refine G.topI (0) rfl ?_
      refine G.if_le C 43 dX4_whyNot_36 (by decide) (fun _ => ?_) (fun h => absurd (by decide) h)
      refine G.aldn0 C dX4_whyNot_43 ?_
      refine G.ildn1 C dX4_whyNot_44 ?_
      refine G.ildn2 C dX4_whyNot_45 ?_
      refine G.callVI2 C (k_X4_whyNoHome l (d := cW d 0 0 0) (mDove_in h6)) (cwV 2 C.1.2.2.2.2 gX4_whyNot_X4_whyNoHome rfl rfl rfl (by decide +kernel) ⟨Nat.le_of_ble_eq_true rfl, Nat.le_of_ble_eq_true rfl⟩) gO_d rfl (Nat.le_of_ble_eq_true rfl) dX4_whyNot_46 ?_
      exact G.iret C hlk hrt dX4_whyNot_49 (by rw [pWhy, if_pos h6, if_pos h21] <;> rfl) (by intro H h; rw [pWhy, if_pos h6, if_pos h21]; exact h)
  · refine G.iconst C 1 dX4_whyNot_9 (by decide) ?_
    refine G.goto C 29 dX4_whyNot_10 (by decide) ?_
    refine G.putD (ty := .int) C hinX4 0 (by decide) rfl (C.1.2.2.2.2 (.fieldLink RX4 25 RX4 "thrown" "I") (by decide +kernel)) rfl rfl rfl rfl pfX4_0 dX4_whyNot_29 ?_
    refine G.aldn0 C dX4_whyNot_32 ?_
    refine G.getD C hinX4 0 (by decide) rfl (C.1.2.2.2.2 (.fieldLink RX4 25 RX4 "thrown" "I") (by decide +kernel)) rfl dX4_whyNot_33 ?_
    refine G.topI (1) rfl ?_
    refine G.if_le C 43 dX4_whyNot_36 (by decide) (fun h => absurd h (by decide)) (fun _ => ?_)
    refine G.iconst C 0 dX4_whyNot_39 (by decide) ?_
    refine G.goto C 49 dX4_whyNot_40 (by decide) ?_
    exact G.iret C hlk hrt dX4_whyNot_49 (by rw [pWhy, if_neg (by rw [h6]; decide)] <;> rfl) (by intro H h; rw [pWhy, if_neg (by rw [h6]; decide)]; exact h)
set_option maxRecDepth 100000 in
set_option maxHeartbeats 4000000 in
theorem k_X4_homeIf (l : Launch) {E : gEn} {σ : gSt} {π : Nat → Nat} {o : Int64} {d : cSt} {x t w : Int32} (hx : vp_in x 16) {moN : Nat} (hok : mOK d) (hmo : d 1 171 = nI moN) (h24 : moN ≤ 24) : CtI l yX4_homeIf wsX4_homeIf ({ frames := 6, cells := 0, slots := 0, locals := 140 } : Room) E [.ref (E.2.1 10 0), .int x, .int t, .int w] (gU σ 10 d) π o (mHomeIf d x t w) (gU σ 10 (mHomeIfS d x t)) π o := by
  refine CtI.of (cc := cX4_homeIf) (own := RX4) (maxL := 7) (ret := (some .int)) [some (.ref (E.2.1 10 0)), some (.int x), some (.int t), some (.int w), none, none, none] (by decide) rfl rfl (Nat.le_of_ble_eq_true rfl) rfl ?_
  intro p e s m args below meth cd C hrt hlk
  have hinX4 : ∀ w ∈ wsX40, w ∈ wsX4_homeIf := by decide +kernel
  refine G.aldn0 C dX4_homeIf_0 ?_
  refine G.ildn1 C dX4_homeIf_1 ?_
  refine G.ildn2 C dX4_homeIf_2 ?_
  refine G.callVI2 C (k_X4_whyNoHome l hx) (cwV 2 C.1.2.2.2.2 gX4_homeIf_X4_whyNoHome rfl rfl rfl (by decide +kernel) ⟨Nat.le_of_ble_eq_true rfl, Nat.le_of_ble_eq_true rfl⟩) gO_d rfl (Nat.le_of_ble_eq_true rfl) dX4_homeIf_3 ?_
  refine G.if_le C 11 dX4_homeIf_6 (by decide) (fun h6 => ?_) (fun h6 => ?_)
  · refine G.aldn0 C dX4_homeIf_11 ?_
    refine G.callVV0 C (k_X4_putAside l) (cwV 0 C.1.2.2.2.2 gX4_homeIf_X4_putAside rfl rfl rfl (by decide +kernel) ⟨Nat.le_of_ble_eq_true rfl, Nat.le_of_ble_eq_true rfl⟩) gO_d rfl (Nat.le_of_ble_eq_true rfl) dX4_homeIf_12 ?_
    refine G.cast (σ' := gU σ 10 (mA d)) ?_ rfl rfl rfl rfl rfl
    refine G.aldn0 C dX4_homeIf_15 ?_
    refine G.bipush C 24 dX4_homeIf_16 (by decide) ?_
    refine G.bipush C 24 dX4_homeIf_18 (by decide) ?_
    refine G.callVI2 C (k_X4_dovesAt l) (cwV 2 C.1.2.2.2.2 gX4_homeIf_X4_dovesAt rfl rfl rfl (by decide +kernel) ⟨Nat.le_of_ble_eq_true rfl, Nat.le_of_ble_eq_true rfl⟩) gO_d rfl (Nat.le_of_ble_eq_true rfl) dX4_homeIf_20 ?_
    refine G.ist4 C dX4_homeIf_23 (by omega) rfl ?_
    refine G.aldn0 C dX4_homeIf_25 ?_
    refine G.ildn1 C dX4_homeIf_26 ?_
    refine G.ildn2 C dX4_homeIf_27 ?_
    refine G.callVI2 C (k_X4_doHome l (d := mA d) hx (mOK_1 mA_1 hok) hmo h24 rfl rfl) (cwV 2 C.1.2.2.2.2 gX4_homeIf_X4_doHome rfl rfl rfl (by decide +kernel) ⟨Nat.le_of_ble_eq_true rfl, Nat.le_of_ble_eq_true rfl⟩) gO_d rfl (Nat.le_of_ble_eq_true rfl) dX4_homeIf_28 ?_
    refine G.ist5 C dX4_homeIf_31 (by omega) rfl ?_
    refine G.ildn3 C dX4_homeIf_33 ?_
    refine G.if_ne C 46 dX4_homeIf_34 (by decide) (fun h34 => ?_) (fun h34 => ?_)
    · refine G.ildn3 C dX4_homeIf_46 ?_
      refine G.iconst C 1 dX4_homeIf_47 (by decide) ?_
      refine G.icmp_ne C 56 dX4_homeIf_48 (by decide) (fun h48 => ?_) (fun h48 => ?_)
      · refine G.aldn0 C dX4_homeIf_56 ?_
        refine G.bipush C 24 dX4_homeIf_57 (by decide) ?_
        refine G.bipush C 24 dX4_homeIf_59 (by decide) ?_
        refine G.callVI2 C (k_X4_dovesAt l) (cwV 2 C.1.2.2.2.2 gX4_homeIf_X4_dovesAt rfl rfl rfl (by decide +kernel) ⟨Nat.le_of_ble_eq_true rfl, Nat.le_of_ble_eq_true rfl⟩) gO_d rfl (Nat.le_of_ble_eq_true rfl) dX4_homeIf_61 ?_
        refine G.ild4 C dX4_homeIf_64 ?_
        refine G.isub C dX4_homeIf_66 ?_
        refine G.ist6 C dX4_homeIf_67 (by omega) rfl ?_
        refine G.aldn0 C dX4_homeIf_69 ?_
        refine G.callVV0 C (k_X4_putBack l) (cwV 0 C.1.2.2.2.2 gX4_homeIf_X4_putBack rfl rfl rfl (by decide +kernel) ⟨Nat.le_of_ble_eq_true rfl, Nat.le_of_ble_eq_true rfl⟩) gO_d rfl (Nat.le_of_ble_eq_true rfl) dX4_homeIf_70 ?_
        refine G.ild6 C dX4_homeIf_73 ?_
        exact G.iret C hlk hrt dX4_homeIf_75 (by rw [mHomeIf, if_pos h6, if_neg h34, if_neg h48] <;> rfl) (by intro H h; rw [mHomeIfS, if_pos h6]; exact CW.eqd (back_A (fun j hj => mHome_row hj)) h)
      · refine G.ild5 C dX4_homeIf_51 ?_
        refine G.goto C 67 dX4_homeIf_53 (by decide) ?_
        refine G.ist6 C dX4_homeIf_67 (by omega) rfl ?_
        refine G.aldn0 C dX4_homeIf_69 ?_
        refine G.callVV0 C (k_X4_putBack l) (cwV 0 C.1.2.2.2.2 gX4_homeIf_X4_putBack rfl rfl rfl (by decide +kernel) ⟨Nat.le_of_ble_eq_true rfl, Nat.le_of_ble_eq_true rfl⟩) gO_d rfl (Nat.le_of_ble_eq_true rfl) dX4_homeIf_70 ?_
        refine G.ild6 C dX4_homeIf_73 ?_
        exact G.iret C hlk hrt dX4_homeIf_75 (by rw [mHomeIf, if_pos h6, if_neg h34, if_pos h48] <;> rfl) (by intro H h; rw [mHomeIfS, if_pos h6]; exact CW.eqd (back_A (fun j hj => mHome_row hj)) h)
    · refine G.aldn0 C dX4_homeIf_37 ?_
      refine G.ildn1 C dX4_homeIf_38 ?_
      refine G.iconst C 3 dX4_homeIf_39 (by decide) ?_
      refine G.callVI2 C (k_X4_of l (w := 3) hx (by omega) rfl) (cwV 2 C.1.2.2.2.2 gX4_homeIf_X4_of rfl rfl rfl (by decide +kernel) ⟨Nat.le_of_ble_eq_true rfl, Nat.le_of_ble_eq_true rfl⟩) gO_d rfl (Nat.le_of_ble_eq_true rfl) dX4_homeIf_40 ?_
      refine G.goto C 67 dX4_homeIf_43 (by decide) ?_
      refine G.ist6 C dX4_homeIf_67 (by omega) rfl ?_
      refine G.aldn0 C dX4_homeIf_69 ?_
      refine G.callVV0 C (k_X4_putBack l) (cwV 0 C.1.2.2.2.2 gX4_homeIf_X4_putBack rfl rfl rfl (by decide +kernel) ⟨Nat.le_of_ble_eq_true rfl, Nat.le_of_ble_eq_true rfl⟩) gO_d rfl (Nat.le_of_ble_eq_true rfl) dX4_homeIf_70 ?_
      refine G.ild6 C dX4_homeIf_73 ?_
      exact G.iret C hlk hrt dX4_homeIf_75 (by rw [mHomeIf, if_pos h6, if_pos h34] <;> rfl) (by intro H h; rw [mHomeIfS, if_pos h6]; exact CW.eqd (back_A (fun j hj => mHome_row hj)) h)
  · refine G.iconst C (-1) dX4_homeIf_9 (by decide) ?_
    exact G.iret C hlk hrt dX4_homeIf_10 (by rw [mHomeIf, if_neg h6]) (by intro H h; rw [mHomeIfS, if_neg h6]; exact h)
set_option maxRecDepth 100000 in
set_option maxHeartbeats 4000000 in
theorem k_X4_ifHome (l : Launch) {E : gEn} {σ : gSt} {π : Nat → Nat} {o : Int64} {d : cSt} {x t w : Int32} {moN : Nat} (hok : mOK d) (hmo : d 1 171 = nI moN) (h24 : moN ≤ 24) : CtI l yX4_ifHome wsX4_ifHome ({ frames := 7, cells := 0, slots := 0, locals := 166 } : Room) E [.ref (E.2.1 10 0), .int x, .int t, .int w] (gU σ 10 d) π o ((pIfHome d x t w).1) (gU σ 10 ((pIfHome d x t w).2)) π o := by
  refine CtI.of (cc := cX4_ifHome) (own := RX4) (maxL := 4) (ret := (some .int)) [some (.ref (E.2.1 10 0)), some (.int x), some (.int t), some (.int w)] (by decide) rfl rfl (Nat.le_of_ble_eq_true rfl) rfl ?_
  intro p e s m args below meth cd C hrt hlk
  have hinX4 : ∀ w ∈ wsX40, w ∈ wsX4_ifHome := by decide +kernel
  refine G.aldn0 C dX4_ifHome_0 ?_
  refine G.aldn0 C dX4_ifHome_1 ?_
  refine G.ildn1 C dX4_ifHome_2 ?_
  refine G.callVI1 C (k_X4_isDove l) (cwV 1 C.1.2.2.2.2 gX4_ifHome_X4_isDove rfl rfl rfl (by decide +kernel) ⟨Nat.le_of_ble_eq_true rfl, Nat.le_of_ble_eq_true rfl⟩) gO_d rfl (Nat.le_of_ble_eq_true rfl) dX4_ifHome_3 ?_
  refine G.if_neB C 13 dX4_ifHome_6 (by decide) (fun h6 => ?_) (fun h6 => ?_)
  · refine G.ildn2 C dX4_ifHome_13 ?_
    refine G.iconst C 0 dX4_ifHome_14 (by decide) ?_
    refine G.sipush C 1439 dX4_ifHome_15 (by decide) ?_
    refine G.callSI3 C (k_X4_in l) (va_cwS 3 C.1.2.2.2.2 gX4_ifHome_X4_in rfl rfl rfl (by decide +kernel) ⟨Nat.le_of_ble_eq_true rfl, Nat.le_of_ble_eq_true rfl⟩) (Nat.le_of_ble_eq_true rfl) dX4_ifHome_18 ?_
    refine G.if_eqB C 37 dX4_ifHome_21 (by decide) (fun h21 => ?_) (fun h21 => ?_)
    · refine G.iconst C 2 dX4_ifHome_37 (by decide) ?_
      refine G.putD (ty := .int) C hinX4 0 (by decide) rfl (C.1.2.2.2.2 (.fieldLink RX4 25 RX4 "thrown" "I") (by decide +kernel)) rfl rfl rfl rfl pfX4_0 dX4_ifHome_38 ?_
      refine G.aldn0 C dX4_ifHome_41 ?_
      refine G.getD C hinX4 0 (by decide) rfl (C.1.2.2.2.2 (.fieldLink RX4 25 RX4 "thrown" "I") (by decide +kernel)) rfl dX4_ifHome_42 ?_
      refine G.topI (2) rfl ?_
      refine G.if_le C 52 dX4_ifHome_45 (by decide) (fun h => absurd h (by decide)) (fun _ => ?_)
      refine G.iconst C 0 dX4_ifHome_48 (by decide) ?_
      refine G.goto C 59 dX4_ifHome_49 (by decide) ?_
      exact G.iret C hlk hrt dX4_ifHome_59 (by rw [pIfHome, if_pos h6, if_neg (by rw [h21]; decide)] <;> rfl) (by intro H h; rw [pIfHome, if_pos h6, if_neg (by rw [h21]; decide)]; exact h)
    · refine G.ildn3 C dX4_ifHome_24 ?_
      refine G.iconst C 0 dX4_ifHome_25 (by decide) ?_
      refine G.iconst C 2 dX4_ifHome_26 (by decide) ?_
      refine G.callSI3 C (k_X4_in l) (va_cwS 3 C.1.2.2.2.2 gX4_ifHome_X4_in rfl rfl rfl (by decide +kernel) ⟨Nat.le_of_ble_eq_true rfl, Nat.le_of_ble_eq_true rfl⟩) (Nat.le_of_ble_eq_true rfl) dX4_ifHome_27 ?_
      refine G.if_eqB C 37 dX4_ifHome_30 (by decide) (fun h30 => ?_) (fun h30 => ?_)
      · refine G.iconst C 2 dX4_ifHome_37 (by decide) ?_
        refine G.putD (ty := .int) C hinX4 0 (by decide) rfl (C.1.2.2.2.2 (.fieldLink RX4 25 RX4 "thrown" "I") (by decide +kernel)) rfl rfl rfl rfl pfX4_0 dX4_ifHome_38 ?_
        refine G.aldn0 C dX4_ifHome_41 ?_
        refine G.getD C hinX4 0 (by decide) rfl (C.1.2.2.2.2 (.fieldLink RX4 25 RX4 "thrown" "I") (by decide +kernel)) rfl dX4_ifHome_42 ?_
        refine G.topI (2) rfl ?_
        refine G.if_le C 52 dX4_ifHome_45 (by decide) (fun h => absurd h (by decide)) (fun _ => ?_)
        refine G.iconst C 0 dX4_ifHome_48 (by decide) ?_
        refine G.goto C 59 dX4_ifHome_49 (by decide) ?_
        exact G.iret C hlk hrt dX4_ifHome_59 (by rw [pIfHome, if_pos h6, if_pos h21, if_neg (by rw [h30]; decide)] <;> rfl) (by intro H h; rw [pIfHome, if_pos h6, if_pos h21, if_neg (by rw [h30]; decide)]; exact h)
      · refine G.iconst C 0 dX4_ifHome_33 (by decide) ?_
        refine G.goto C 38 dX4_ifHome_34 (by decide) ?_
        refine G.putD (ty := .int) C hinX4 0 (by decide) rfl (C.1.2.2.2.2 (.fieldLink RX4 25 RX4 "thrown" "I") (by decide +kernel)) rfl rfl rfl rfl pfX4_0 dX4_ifHome_38 ?_
        refine G.aldn0 C dX4_ifHome_41 ?_
        refine G.getD C hinX4 0 (by decide) rfl (C.1.2.2.2.2 (.fieldLink RX4 25 RX4 "thrown" "I") (by decide +kernel)) rfl dX4_ifHome_42 ?_
        refine G.topI (0) rfl ?_
        refine G.if_le C 52 dX4_ifHome_45 (by decide) (fun _ => ?_) (fun h => absurd (by decide) h)
        refine G.aldn0 C dX4_ifHome_52 ?_
        refine G.ildn1 C dX4_ifHome_53 ?_
        refine G.ildn2 C dX4_ifHome_54 ?_
        refine G.ildn3 C dX4_ifHome_55 ?_
        refine G.callVI3 C (k_X4_homeIf l (d := cW d 0 0 0) (mDove_in h6) (mOK_1 (cW0 (by decide)) hok) hmo h24) (cwV 3 C.1.2.2.2.2 gX4_ifHome_X4_homeIf rfl rfl rfl (by decide +kernel) ⟨Nat.le_of_ble_eq_true rfl, Nat.le_of_ble_eq_true rfl⟩) gO_d rfl (Nat.le_of_ble_eq_true rfl) dX4_ifHome_56 ?_
        exact G.iret C hlk hrt dX4_ifHome_59 (by rw [pIfHome, if_pos h6, if_pos h21, if_pos h30] <;> rfl) (by intro H h; rw [pIfHome, if_pos h6, if_pos h21, if_pos h30]; exact h)
  · refine G.iconst C 1 dX4_ifHome_9 (by decide) ?_
    refine G.goto C 38 dX4_ifHome_10 (by decide) ?_
    refine G.putD (ty := .int) C hinX4 0 (by decide) rfl (C.1.2.2.2.2 (.fieldLink RX4 25 RX4 "thrown" "I") (by decide +kernel)) rfl rfl rfl rfl pfX4_0 dX4_ifHome_38 ?_
    refine G.aldn0 C dX4_ifHome_41 ?_
    refine G.getD C hinX4 0 (by decide) rfl (C.1.2.2.2.2 (.fieldLink RX4 25 RX4 "thrown" "I") (by decide +kernel)) rfl dX4_ifHome_42 ?_
    refine G.topI (1) rfl ?_
    refine G.if_le C 52 dX4_ifHome_45 (by decide) (fun h => absurd h (by decide)) (fun _ => ?_)
    refine G.iconst C 0 dX4_ifHome_48 (by decide) ?_
    refine G.goto C 59 dX4_ifHome_49 (by decide) ?_
    exact G.iret C hlk hrt dX4_ifHome_59 (by rw [pIfHome, if_neg (by rw [h6]; decide)] <;> rfl) (by intro H h; rw [pIfHome, if_neg (by rw [h6]; decide)]; exact h)
set_option maxRecDepth 100000 in
set_option maxHeartbeats 4000000 in
theorem k_X4_findHole_5 (l : Launch) {E : gEn} {σ : gSt} {π : Nat → Nat} {o : Int64} {d : cSt} {f y r : Int32} {m0 : Nat} (hm : m0 ≤ 24) (hy : y = nI m0 - 1) (hr : r = mFH d m0 f) {p : Program} {e : Env} {s : State} {m1 : MethodId} {args : Array Value} {below : List Frame} {meth : Method} {cd : Code} (C : gCx p s m1 cd cX4_findHole 3 RX4 wsX4_findHole args E (gA E) ({ frames := 3, cells := 0, slots := 0, locals := 66 } : Room) 0 0) (hrt : meth.sig.returnType = (some .int)) (hlk : meth.locks = false) : G p l e ({ frames := 3, cells := 0, slots := 0, locals := 66 } : Room) s m1 args below meth cd 3 0 0 (gA E) (gQI below args s (r) E (gU σ 10 d) π o) E (gU σ 10 d) π o 5 [some (.ref (E.2.1 10 0)), some (.int f), some (.int y)] [] := by
  have hinX4 : ∀ w ∈ wsX40, w ∈ wsX4_findHole := by decide +kernel
  induction m0 generalizing f y with
  | zero =>
    refine G.ildn2 C dX4_findHole_5 ?_
    refine G.if_lt C 37 dX4_findHole_6 (by decide) (fun h6 => ?_) (fun h6 => absurd ((by rw [hy]; decide)) h6)
    refine G.ildn1 C dX4_findHole_37 ?_
    exact G.iret C hlk hrt dX4_findHole_38 (by rw [hr]; rfl) (by exact fun _ h => h)
  | succ m ih =>
    obtain rfl : y = nI m := hy.trans (nI_pred m)
    refine G.ildn2 C dX4_findHole_5 ?_
    refine G.if_lt C 37 dX4_findHole_6 (by decide) (fun h6 => absurd h6 (nI_pos (by omega))) (fun h6 => ?_)
    refine G.aldn0 C dX4_findHole_9 ?_
    refine G.ildn2 C dX4_findHole_10 ?_
    refine G.callVI1 C (k_X4_isOpen l (vp_in_nI (by omega) (by omega))) (cwV 1 C.1.2.2.2.2 gX4_findHole_X4_isOpen rfl rfl rfl (by decide +kernel) ⟨Nat.le_of_ble_eq_true rfl, Nat.le_of_ble_eq_true rfl⟩) gO_d rfl (Nat.le_of_ble_eq_true rfl) dX4_findHole_11 ?_
    refine G.if_eqB C 29 dX4_findHole_14 (by decide) (fun h14 => ?_) (fun h14 => ?_)
    · refine G.ildn1 C dX4_findHole_29 ?_
      refine G.istn1 C dX4_findHole_30 (by omega) rfl ?_
      refine G.iinc2 C _ dX4_findHole_31 (by omega) rfl rfl ?_
      refine G.goto C 5 dX4_findHole_34 (by decide) ?_
      exact G.back (ih (f := f) (y := nI m - 1) (by omega) rfl (by rw [hr, mFH]; simp [h14])) rfl ⟨rfl, rfl, congrArg (fun z => some (Value.int z)) (nI_m1 m), trivial⟩
    · refine G.aldn0 C dX4_findHole_17 ?_
      refine G.ildn2 C dX4_findHole_18 ?_
      refine G.callVI1 C (k_X4_ownerOf l) (cwV 1 C.1.2.2.2.2 gX4_findHole_X4_ownerOf rfl rfl rfl (by decide +kernel) ⟨Nat.le_of_ble_eq_true rfl, Nat.le_of_ble_eq_true rfl⟩) gO_d rfl (Nat.le_of_ble_eq_true rfl) dX4_findHole_19 ?_
      refine G.if_ge C 29 dX4_findHole_22 (by decide) (fun h22 => ?_) (fun h22 => ?_)
      · refine G.ildn1 C dX4_findHole_29 ?_
        refine G.istn1 C dX4_findHole_30 (by omega) rfl ?_
        refine G.iinc2 C _ dX4_findHole_31 (by omega) rfl rfl ?_
        refine G.goto C 5 dX4_findHole_34 (by decide) ?_
        exact G.back (ih (f := f) (y := nI m - 1) (by omega) rfl (by rw [hr, mFH]; simp [h14, h22])) rfl ⟨rfl, rfl, congrArg (fun z => some (Value.int z)) (nI_m1 m), trivial⟩
      · refine G.ildn2 C dX4_findHole_25 ?_
        refine G.goto C 30 dX4_findHole_26 (by decide) ?_
        refine G.istn1 C dX4_findHole_30 (by omega) rfl ?_
        refine G.iinc2 C _ dX4_findHole_31 (by omega) rfl rfl ?_
        refine G.goto C 5 dX4_findHole_34 (by decide) ?_
        exact G.back (ih (f := nI m) (y := nI m - 1) (by omega) rfl (by rw [hr, mFH]; simp [h14, h22])) rfl ⟨rfl, rfl, congrArg (fun z => some (Value.int z)) (nI_m1 m), trivial⟩
set_option maxRecDepth 100000 in
set_option maxHeartbeats 4000000 in
theorem k_X4_findHole (l : Launch) {E : gEn} {σ : gSt} {π : Nat → Nat} {o : Int64} {d : cSt} : CtI l yX4_findHole wsX4_findHole ({ frames := 3, cells := 0, slots := 0, locals := 66 } : Room) E [.ref (E.2.1 10 0)] (gU σ 10 d) π o (mFH d 24 (-1)) (gU σ 10 d) π o := by
  refine CtI.of (cc := cX4_findHole) (own := RX4) (maxL := 3) (ret := (some .int)) [some (.ref (E.2.1 10 0)), none, none] (by decide) rfl rfl (Nat.le_of_ble_eq_true rfl) rfl ?_
  intro p e s m args below meth cd C hrt hlk
  have hinX4 : ∀ w ∈ wsX40, w ∈ wsX4_findHole := by decide +kernel
  refine G.iconst C (-1) dX4_findHole_0 (by decide) ?_
  refine G.istn1 C dX4_findHole_1 (by omega) rfl ?_
  refine G.bipush C 23 dX4_findHole_2 (by decide) ?_
  refine G.istn2 C dX4_findHole_4 (by omega) rfl ?_
  exact G.back (k_X4_findHole_5 l (m0 := 24) (by omega) (by decide) rfl C hrt hlk) rfl ⟨rfl, rfl, rfl, trivial⟩
theorem mFH_1 {d e : cSt} (h : e 1 = d 1) : ∀ n f, mFH e n f = mFH d n f
  | 0, f => rfl
  | n + 1, f => by
    have hd : ∀ x, mDove e x = mDove d x := fun x => by unfold mDove; rw [h]
    have ho : ∀ x, mOwn e x = mOwn d x := fun x => by unfold mOwn; simp only [hd, h]
    have hp : ∀ x, mOpen e x = mOpen d x := fun x => by unfold mOpen; rw [h]
    unfold mFH
    rw [ho, hp, mFH_1 h n]
set_option maxRecDepth 100000 in
set_option maxHeartbeats 4000000 in
theorem k_X4_freeHole (l : Launch) {E : gEn} {σ : gSt} {π : Nat → Nat} {o : Int64} {d : cSt} : CtI l yX4_freeHole wsX4_freeHole ({ frames := 4, cells := 0, slots := 0, locals := 88 } : Room) E [.ref (E.2.1 10 0)] (gU σ 10 d) π o (mFH d 24 (-1)) (gU σ 10 (cW d 0 0 0)) π o := by
  refine CtI.of (cc := cX4_freeHole) (own := RX4) (maxL := 1) (ret := (some .int)) [some (.ref (E.2.1 10 0))] (by decide) rfl rfl (Nat.le_of_ble_eq_true rfl) rfl ?_
  intro p e s m args below meth cd C hrt hlk
  have hinX4 : ∀ w ∈ wsX40, w ∈ wsX4_freeHole := by decide +kernel
  refine G.aldn0 C dX4_freeHole_0 ?_
  refine G.iconst C 0 dX4_freeHole_1 (by decide) ?_
  refine G.putD (ty := .int) C hinX4 0 (by decide) rfl (C.1.2.2.2.2 (.fieldLink RX4 25 RX4 "thrown" "I") (by decide +kernel)) rfl rfl rfl rfl pfX4_0 dX4_freeHole_2 ?_
  refine G.aldn0 C dX4_freeHole_5 ?_
  refine G.callVI0 C (k_X4_findHole l (d := cW d 0 0 0)) (cwV 0 C.1.2.2.2.2 gX4_freeHole_X4_findHole rfl rfl rfl (by decide +kernel) ⟨Nat.le_of_ble_eq_true rfl, Nat.le_of_ble_eq_true rfl⟩) gO_d rfl (Nat.le_of_ble_eq_true rfl) dX4_freeHole_6 ?_
  exact G.iret C hlk hrt dX4_freeHole_9 (by exact mFH_1 rfl 24 _) (by exact fun _ h => h)
set_option maxRecDepth 100000 in
set_option maxHeartbeats 4000000 in
theorem k_X4_inHolesIf (l : Launch) {E : gEn} {σ : gSt} {π : Nat → Nat} {o : Int64} {d : cSt} {t : Int32} {moN : Nat} (hok : mOK d) (hmo : d 1 171 = nI moN) (h24 : moN ≤ 24) : CtI l yX4_inHolesIf wsX4_inHolesIf ({ frames := 6, cells := 0, slots := 0, locals := 140 } : Room) E [.ref (E.2.1 10 0), .int t] (gU σ 10 d) π o (mInH d t) (gU σ 10 (mA d)) π o := by
  refine CtI.of (cc := cX4_inHolesIf) (own := RX4) (maxL := 3) (ret := (some .int)) [some (.ref (E.2.1 10 0)), some (.int t), none] (by decide) rfl rfl (Nat.le_of_ble_eq_true rfl) rfl ?_
  intro p e s m args below meth cd C hrt hlk
  have hinX4 : ∀ w ∈ wsX40, w ∈ wsX4_inHolesIf := by decide +kernel
  refine G.aldn0 C dX4_inHolesIf_0 ?_
  refine G.callVV0 C (k_X4_putAside l) (cwV 0 C.1.2.2.2.2 gX4_inHolesIf_X4_putAside rfl rfl rfl (by decide +kernel) ⟨Nat.le_of_ble_eq_true rfl, Nat.le_of_ble_eq_true rfl⟩) gO_d rfl (Nat.le_of_ble_eq_true rfl) dX4_inHolesIf_1 ?_
  refine G.cast (σ' := gU σ 10 (mA d)) ?_ rfl rfl rfl rfl rfl
  refine G.iconst C 0 dX4_inHolesIf_4 (by decide) ?_
  refine G.istn2 C dX4_inHolesIf_5 (by omega) rfl ?_
  have L6 : ∀ (n k : Nat), k + n = 16 → G p l e ({ frames := 6, cells := 0, slots := 0, locals := 140 } : Room) s m args below meth cd 3 0 0 (gA E) (gQI below args s (mInH d t) E (gU σ 10 (mA d)) π o) E (gU σ 10 (mAllH (mA d) t k)) π o 6 [some (.ref (E.2.1 10 0)), some (.int t), some (.int (nI k))] [] := by
    intro n
    induction n with
    | zero =>
      intro k hk
      obtain rfl : 16 = k := by omega
      refine G.ildn2 C dX4_inHolesIf_6 ?_
      refine G.bipush C 16 dX4_inHolesIf_7 (by decide) ?_
      refine G.icmp_ge C 43 dX4_inHolesIf_9 (by decide) (fun _ => ?_) (fun h => absurd (nI_le (a := 16) (b := 16) (by omega) (by decide)) h)
      refine G.aldn0 C dX4_inHolesIf_43 ?_
      refine G.iconst C 0 dX4_inHolesIf_44 (by decide) ?_
      refine G.bipush C 23 dX4_inHolesIf_45 (by decide) ?_
      refine G.callVI2 C (k_X4_dovesAt l) (cwV 2 C.1.2.2.2.2 gX4_inHolesIf_X4_dovesAt rfl rfl rfl (by decide +kernel) ⟨Nat.le_of_ble_eq_true rfl, Nat.le_of_ble_eq_true rfl⟩) gO_d rfl (Nat.le_of_ble_eq_true rfl) dX4_inHolesIf_47 ?_
      refine G.istn2 C dX4_inHolesIf_50 (by omega) rfl ?_
      refine G.aldn0 C dX4_inHolesIf_51 ?_
      refine G.callVV0 C (k_X4_putBack l) (cwV 0 C.1.2.2.2.2 gX4_inHolesIf_X4_putBack rfl rfl rfl (by decide +kernel) ⟨Nat.le_of_ble_eq_true rfl, Nat.le_of_ble_eq_true rfl⟩) gO_d rfl (Nat.le_of_ble_eq_true rfl) dX4_inHolesIf_52 ?_
      refine G.ildn2 C dX4_inHolesIf_55 ?_
      exact G.iret C hlk hrt dX4_inHolesIf_56 (by rfl) (by intro H h; exact CW.eqd (back_A (fun j hj => mAllH_row hj 16)) h)
    | succ n ih =>
      intro k hk
      have hk2 : k < 16 := by omega
      have hkp := mAllH_keep (t := t) (mOK_1 mA_1 hok) k
      refine G.ildn2 C dX4_inHolesIf_6 ?_
      refine G.bipush C 16 dX4_inHolesIf_7 (by decide) ?_
      refine G.icmp_ge C 43 dX4_inHolesIf_9 (by decide) (fun h => absurd h (nI_ge (b := 16) hk2 (by decide))) (fun _ => ?_)
      refine G.aldn0 C dX4_inHolesIf_12 ?_
      refine G.ildn2 C dX4_inHolesIf_13 ?_
      refine G.callVI1 C (k_X4_isDove l) (cwV 1 C.1.2.2.2.2 gX4_inHolesIf_X4_isDove rfl rfl rfl (by decide +kernel) ⟨Nat.le_of_ble_eq_true rfl, Nat.le_of_ble_eq_true rfl⟩) gO_d rfl (Nat.le_of_ble_eq_true rfl) dX4_inHolesIf_14 ?_
      refine G.if_eqB C 37 dX4_inHolesIf_17 (by decide) (fun h17 => ?_) (fun h17 => ?_)
      · refine G.iincN2 C dX4_inHolesIf_37 (by omega) rfl ?_
        refine G.goto C 6 dX4_inHolesIf_40 (by decide) ?_
        exact G.back (ih (k + 1) (by omega) ) (by first | (simp [mAllH, h17]; done) | (simp only [mAllH, ])) ⟨(by first | rfl | simp), (by first | rfl | simp), (by first | rfl | simp), trivial⟩
      · refine G.aldn0 C dX4_inHolesIf_20 ?_
        refine G.ildn2 C dX4_inHolesIf_21 ?_
        refine G.iconst C 3 dX4_inHolesIf_22 (by decide) ?_
        refine G.callVI2 C (k_X4_of l (w := 3) (q := 9 * k + 3) (by first | assumption | exact vp_in_nI (by omega) (by omega) | exact mDove_in (by assumption) | exact mSit_in (by assumption)) (by omega) (by rw [ix_nI (by omega)])) (cwV 2 C.1.2.2.2.2 gX4_inHolesIf_X4_of rfl rfl rfl (by decide +kernel) ⟨Nat.le_of_ble_eq_true rfl, Nat.le_of_ble_eq_true rfl⟩) gO_d rfl (Nat.le_of_ble_eq_true rfl) dX4_inHolesIf_23 ?_
        refine G.iconst C (-1) dX4_inHolesIf_26 (by decide) ?_
        refine G.icmp_ne C 37 dX4_inHolesIf_27 (by decide) (fun h27 => ?_) (fun h27 => ?_)
        · refine G.iincN2 C dX4_inHolesIf_37 (by omega) rfl ?_
          refine G.goto C 6 dX4_inHolesIf_40 (by decide) ?_
          exact G.back (ih (k + 1) (by omega) ) (by first | (simp [mAllH, h17]; done) | (simp only [mAllH, if_pos h17, if_neg h27])) ⟨(by first | rfl | simp), (by first | rfl | simp), (by first | rfl | simp), trivial⟩
        · refine G.aldn0 C dX4_inHolesIf_30 ?_
          refine G.ildn2 C dX4_inHolesIf_31 ?_
          refine G.ildn1 C dX4_inHolesIf_32 ?_
          refine G.callVI2 C (k_X4_doHome l (vp_in_nI (by omega) (by omega)) hkp.1 (hkp.2.trans hmo) h24 rfl rfl) (cwV 2 C.1.2.2.2.2 gX4_inHolesIf_X4_doHome rfl rfl rfl (by decide +kernel) ⟨Nat.le_of_ble_eq_true rfl, Nat.le_of_ble_eq_true rfl⟩) gO_d rfl (Nat.le_of_ble_eq_true rfl) dX4_inHolesIf_33 ?_
          refine G.pop C dX4_inHolesIf_36 rfl ?_
          refine G.iincN2 C dX4_inHolesIf_37 (by omega) rfl ?_
          refine G.goto C 6 dX4_inHolesIf_40 (by decide) ?_
          exact G.back (ih (k + 1) (by omega) ) (by first | (simp [mAllH, h17]; done) | (simp only [mAllH, if_pos h17, if_pos h27])) ⟨(by first | rfl | simp), (by first | rfl | simp), (by first | rfl | simp), trivial⟩
  exact G.back (L6 16 0 (Nat.zero_add _) ) rfl ⟨(by first | rfl | simp), (by first | rfl | simp), (by first | rfl | simp), trivial⟩
set_option maxRecDepth 100000 in
set_option maxHeartbeats 4000000 in
theorem k_X4_asGood (l : Launch) {E : gEn} {σ : gSt} {π : Nat → Nat} {o : Int64} {d : cSt} {moN : Nat} (hok : mOK d) (hmo : d 1 171 = nI moN) (h24 : moN ≤ 24) : CtI l yX4_asGood wsX4_asGood ({ frames := 7, cells := 0, slots := 0, locals := 162 } : Room) E [.ref (E.2.1 10 0)] (gU σ 10 d) π o (mGood d) (gU σ 10 (mA d)) π o := by
  refine CtI.of (cc := cX4_asGood) (own := RX4) (maxL := 1) (ret := (some .int)) [some (.ref (E.2.1 10 0))] (by decide) rfl rfl (Nat.le_of_ble_eq_true rfl) rfl ?_
  intro p e s m args below meth cd C hrt hlk
  have hinX4 : ∀ w ∈ wsX40, w ∈ wsX4_asGood := by decide +kernel
  refine G.aldn0 C dX4_asGood_0 ?_
  refine G.sipush C 1439 dX4_asGood_1 (by decide) ?_
  refine G.callVI1 C (k_X4_inHolesIf l (d := d) hok hmo h24) (cwV 1 C.1.2.2.2.2 gX4_asGood_X4_inHolesIf rfl rfl rfl (by decide +kernel) ⟨Nat.le_of_ble_eq_true rfl, Nat.le_of_ble_eq_true rfl⟩) gO_d rfl (Nat.le_of_ble_eq_true rfl) dX4_asGood_4 ?_
  refine G.aldn0 C dX4_asGood_7 ?_
  refine G.aldn0 C dX4_asGood_8 ?_
  refine G.getD C hinX4 1 (by decide) rfl (C.1.2.2.2.2 (.fieldLink RX4 7 RX4 "z" "[I") (by decide +kernel)) rfl dX4_asGood_9 ?_
  refine G.sipush C 168 dX4_asGood_12 (by decide) ?_
  refine G.ialdU C (n := 232) (j := 1) (d0 := 168) rfl (gV_d (by omega)) (by unfold vp_in; decide) (by decide) dX4_asGood_15 ?_
  refine G.topI (d 1 168) rfl ?_
  refine G.callVI1 C (k_X4_inHolesIf l (d := mA d) (mOK_1 mA_1 hok) hmo h24) (cwV 1 C.1.2.2.2.2 gX4_asGood_X4_inHolesIf rfl rfl rfl (by decide +kernel) ⟨Nat.le_of_ble_eq_true rfl, Nat.le_of_ble_eq_true rfl⟩) gO_d rfl (Nat.le_of_ble_eq_true rfl) dX4_asGood_16 ?_
  refine G.topI (mInH d (d 1 168)) (by unfold mInH; rw [mA_A]) ?_
  refine G.icmp_ge C 26 dX4_asGood_19 (by decide) (fun h19 => ?_) (fun h19 => ?_)
  · refine G.iconst C 1 dX4_asGood_26 (by decide) ?_
    exact G.iret C hlk hrt dX4_asGood_27 (by rw [mGood, if_pos h19]) (by intro H h; rw [mA_A] at h; exact h)
  · refine G.iconst C 0 dX4_asGood_22 (by decide) ?_
    refine G.goto C 27 dX4_asGood_23 (by decide) ?_
    exact G.iret C hlk hrt dX4_asGood_27 (by rw [mGood, if_neg h19]) (by intro H h; rw [mA_A] at h; exact h)
set_option maxRecDepth 100000 in
set_option maxHeartbeats 4000000 in
theorem k_X4_lateIsAsGood (l : Launch) {E : gEn} {σ : gSt} {π : Nat → Nat} {o : Int64} {d : cSt} {moN : Nat} (hok : mOK d) (hmo : d 1 171 = nI moN) (h24 : moN ≤ 24) : CtI l yX4_lateIsAsGood wsX4_lateIsAsGood ({ frames := 8, cells := 0, slots := 0, locals := 182 } : Room) E [.ref (E.2.1 10 0)] (gU σ 10 d) π o (mGood (cW d 0 0 0)) (gU σ 10 (mA (cW d 0 0 0))) π o := by
  refine CtI.of (cc := cX4_lateIsAsGood) (own := RX4) (maxL := 1) (ret := (some .int)) [some (.ref (E.2.1 10 0))] (by decide) rfl rfl (Nat.le_of_ble_eq_true rfl) rfl ?_
  intro p e s m args below meth cd C hrt hlk
  have hinX4 : ∀ w ∈ wsX40, w ∈ wsX4_lateIsAsGood := by decide +kernel
  refine G.aldn0 C dX4_lateIsAsGood_0 ?_
  refine G.iconst C 0 dX4_lateIsAsGood_1 (by decide) ?_
  refine G.putD (ty := .int) C hinX4 0 (by decide) rfl (C.1.2.2.2.2 (.fieldLink RX4 25 RX4 "thrown" "I") (by decide +kernel)) rfl rfl rfl rfl pfX4_0 dX4_lateIsAsGood_2 ?_
  refine G.aldn0 C dX4_lateIsAsGood_5 ?_
  refine G.callVI0 C (k_X4_asGood l (d := cW d 0 0 0) (mOK_1 (cW0 (by decide)) hok) hmo h24) (cwV 0 C.1.2.2.2.2 gX4_lateIsAsGood_X4_asGood rfl rfl rfl (by decide +kernel) ⟨Nat.le_of_ble_eq_true rfl, Nat.le_of_ble_eq_true rfl⟩) gO_d rfl (Nat.le_of_ble_eq_true rfl) dX4_lateIsAsGood_6 ?_
  exact G.iret C hlk hrt dX4_lateIsAsGood_9 (by rfl) (by exact fun _ h => h)
set_option maxRecDepth 100000 in
set_option maxHeartbeats 4000000 in
theorem k_X4_thrown (l : Launch) {E : gEn} {σ : gSt} {π : Nat → Nat} {o : Int64} {d : cSt} : CtI l yX4_thrown wsX4_thrown ({ frames := 0, cells := 0, slots := 0, locals := 0 } : Room) E [.ref (E.2.1 10 0)] (gU σ 10 d) π o (d 0 0) (gU σ 10 d) π o := by
  refine CtI.of (cc := cX4_thrown) (own := RX4) (maxL := 1) (ret := (some .int)) [some (.ref (E.2.1 10 0))] (by decide) rfl rfl (Nat.le_of_ble_eq_true rfl) rfl ?_
  intro p e s m args below meth cd C hrt hlk
  have hinX4 : ∀ w ∈ wsX40, w ∈ wsX4_thrown := by decide +kernel
  refine G.aldn0 C dX4_thrown_0 ?_
  refine G.getD C hinX4 0 (by decide) rfl (C.1.2.2.2.2 (.fieldLink RX4 25 RX4 "thrown" "I") (by decide +kernel)) rfl dX4_thrown_1 ?_
  exact G.iret C hlk hrt dX4_thrown_4 (by rfl) (by exact fun _ h => h)
