/-! the model: shares and the digest -/
section JD
theorem dJ_isNaN_0 : decode cJxe99ae_isNaN_b9ae7 0 = .ok (.dload_n 0, 1) := by decide +kernel
theorem dJ_isNaN_1 : decode cJxe99ae_isNaN_b9ae7 1 = .ok (.dload_n 0, 1) := by decide +kernel
theorem dJ_isNaN_2 : decode cJxe99ae_isNaN_b9ae7 2 = .ok (.dcmp .l, 1) := by decide +kernel
theorem dJ_isNaN_3 : decode cJxe99ae_isNaN_b9ae7 3 = .ok (.ifCond .eq 7, 3) := by decide +kernel
theorem dJ_isNaN_10 : decode cJxe99ae_isNaN_b9ae7 10 = .ok (.iconst 0, 1) := by decide +kernel
theorem dJ_isNaN_11 : decode cJxe99ae_isNaN_b9ae7 11 = .ok (.ireturn, 1) := by decide +kernel
theorem dJ_d2l_0 : decode cJxe99ae_doubleToLongBits_ccdee 0 = .ok (.dload_n 0, 1) := by decide +kernel
theorem dJ_d2l_1 : decode cJxe99ae_doubleToLongBits_ccdee 1 = .ok (.invokestatic 122, 3) := by decide +kernel
theorem dJ_d2l_4 : decode cJxe99ae_doubleToLongBits_ccdee 4 = .ok (.ifCond .ne 8, 3) := by decide +kernel
theorem dJ_d2l_7 : decode cJxe99ae_doubleToLongBits_ccdee 7 = .ok (.dload_n 0, 1) := by decide +kernel
theorem dJ_d2l_8 : decode cJxe99ae_doubleToLongBits_ccdee 8 = .ok (.invokestatic 134, 3) := by decide +kernel
theorem dJ_d2l_11 : decode cJxe99ae_doubleToLongBits_ccdee 11 = .ok (.lreturn, 1) := by decide +kernel
theorem gJ_d2l_isNaN : GoodIn wsJxe99ae_doubleToLongBits_ccdee (va_wsS RJxe99ae 122 yJxe99ae_isNaN_b9ae7 wsJxe99ae_isNaN_b9ae7) := goodIn_of _ (by decide +kernel)
theorem k_J_isNaN (l : Launch) {E : gEn} {σ : gSt} {π : Nat → Nat} {o : Int64} {x : UInt64} (hx : Op.cmpValue (FP.dcmp x x) .l = 0) : CtI l yJxe99ae_isNaN_b9ae7 wsJxe99ae_isNaN_b9ae7 ({ frames := 0, cells := 0, slots := 0, locals := 0 } : Room) E [.double x] σ π o (bI false) σ π o := by
  refine CtI.of (cc := cJxe99ae_isNaN_b9ae7) (own := RJxe99ae) (maxL := 2) (ret := (some .boolean)) [some (.double x), none] (by decide) rfl rfl (Nat.le_of_ble_eq_true rfl) rfl ?_
  intro p e s m args below meth cd C hrt hlk
  refine G.dldn0 C dJ_isNaN_0 ?_
  refine G.dldn0 C dJ_isNaN_1 ?_
  refine G.dcmp C dJ_isNaN_2 ?_
  refine G.if_eq C 10 dJ_isNaN_3 (by decide) (fun _ => ?_) (fun h => absurd hx h)
  refine G.iconst C 0 dJ_isNaN_10 (by decide) ?_
  exact G.zret C hlk hrt dJ_isNaN_11 rfl (fun _ h => h)
theorem G.d2raw {p : Program} {l : Launch} {e : Env} {R : Room} {s : State} {m : MethodId} {args : Array Value} {below : List Frame} {meth : Method} {c : Code} {Q : State → Prop} {cc : ByteArray} {own : String} {Ts : List Cond} {nL cl sl : Nat} {E : gEn} {A : Nat → Prop} {σ : gSt} {π : Nat → Nat} {o : Int64} (C : gCx p s m c cc nL own Ts args E A R cl sl) {pc index : Nat} {lv : List (Option Value)} {st : List Value} {x : UInt64} (hlink : (Cond.methodLink own index ⟨"java/lang/Double", "doubleToRawLongBits", "(D)J"⟩).before args s = true) (hnat : (Cond.native ⟨"java/lang/Double", "doubleToRawLongBits", "(D)J"⟩).before args s = true) (hstat : (Cond.static ⟨"java/lang/Double", "doubleToRawLongBits", "(D)J"⟩).before args s = true) (hinit : (Cond.initialized "java/lang/Double").before args s = true) (hf : 1 ≤ R.frames) (hl2 : (st.map fun v => v.category).sum + 15 ≤ R.locals) (hd : decode cc pc = .ok (.invokestatic index, 3)) (k : G p l e R s m args below meth c nL cl sl A Q E σ π o (pc + 3) lv (.long x.toInt64 :: st)) : G p l e R s m args below meth c nL cl sl A Q E σ π o pc lv (.double x :: st) := fun H locs ls hW hS hl => vn_d2l C.1.1 C.1.2.1 (by rw [C.1.2.2.1, hl.1]) C.1.2.2.2.1 hlink hnat hstat hinit hf hl2 hd (k H locs ls hW hS hl)
theorem k_J_d2l (l : Launch) {E : gEn} {σ : gSt} {π : Nat → Nat} {o : Int64} {x : UInt64} (hx : Op.cmpValue (FP.dcmp x x) .l = 0) : CtL l yJxe99ae_doubleToLongBits_ccdee wsJxe99ae_doubleToLongBits_ccdee ({ frames := 1, cells := 0, slots := 0, locals := 30 } : Room) E [.double x] σ π o x.toInt64 σ π o := by
  refine CtL.of (cc := cJxe99ae_doubleToLongBits_ccdee) (own := RJxe99ae) (maxL := 2) (ret := (some .long)) [some (.double x), none] (by decide) rfl rfl (Nat.le_of_ble_eq_true rfl) rfl ?_
  intro p e s m args below meth cd C hrt hlk
  refine G.dldn0 C dJ_d2l_0 ?_
  refine G.callSI1 C (k_J_isNaN l hx) (va_cwS 1 C.1.2.2.2.2 gJ_d2l_isNaN rfl rfl rfl (by decide +kernel) ⟨Nat.le_of_ble_eq_true rfl, Nat.le_of_ble_eq_true rfl⟩) (Nat.le_of_ble_eq_true rfl) dJ_d2l_1 ?_
  refine G.if_neB C 12 dJ_d2l_4 (by decide) (fun h => absurd h (by decide)) (fun _ => ?_)
  refine G.dldn0 C dJ_d2l_7 ?_
  refine G.d2raw C (C.1.2.2.2.2 (.methodLink RJxe99ae 134 ⟨"java/lang/Double", "doubleToRawLongBits", "(D)J"⟩) (by decide +kernel)) (C.1.2.2.2.2 (.native ⟨"java/lang/Double", "doubleToRawLongBits", "(D)J"⟩) (by decide +kernel)) (C.1.2.2.2.2 (.static ⟨"java/lang/Double", "doubleToRawLongBits", "(D)J"⟩) (by decide +kernel)) (C.1.2.2.2.2 (.initialized "java/lang/Double") (by decide +kernel)) (Nat.le_of_ble_eq_true rfl) (Nat.le_of_ble_eq_true rfl) dJ_d2l_8 ?_
  exact G.lret C hlk hrt dJ_d2l_11 rfl (fun _ h => h)
end JD
/-- the shares that come up are numbers -/
def shr (n a : Nat) : UInt64 := FP.ddiv (FP.i2d (nI n)) (FP.i2d (nI a))
theorem shr_all : ∀ n, n < 17 → ∀ a, a < 17 → a ≠ 0 → vf_n64 (shr n a) ∧ Op.cmpValue (FP.dcmp (shr n a) (shr n a)) .l = 0 := by unfold vf_n64; decide +kernel
def mShare (d : cSt) : UInt64 := if mAll d = 0 then FP.dconst1 else FP.ddiv (FP.i2d (nI (cnt (fun k => mDove d (nI k) && decide (d 1 (9 * k + 3) = d 1 (9 * k + 1))) 16))) (FP.i2d (mAll d))
theorem mShare_ok {d : cSt} {aN : Nat} (hA : mAll d = nI aN) (ha : aN ≤ 16) : Op.cmpValue (FP.dcmp (mShare d) (mShare d)) .l = 0 := by
  unfold mShare
  split
  · decide +kernel
  · rename_i h
    rw [hA] at h ⊢
    exact (shr_all _ (Nat.lt_succ_of_le (cnt_le _ 16)) aN (by omega) (fun q => h (by rw [q]; rfl))).2
/-- one more number into the digest -/
def dgF (f : Nat → Int32) : Nat → Int64 → Int64
  | 0, e => e
  | n + 1, e => 31 * dgF f n e + (f n).toInt64
def mHs (e : cSt) (x : Int32) : Nat → cSt
  | 0 => e
  | w + 1 => mHomeIfS (mHs e x w) x 1439
def dgS (d : cSt) : Nat → cSt
  | 0 => d
  | n + 1 => if mDove (dgS d n) (nI n) = true then mHs (dgS d n) (nI n) 3 else dgS d n
def dgE (d : cSt) : Nat → Int64 → Int64
  | 0, e => e
  | n + 1, e => if mDove (dgS d n) (nI n) = true then dgF (fun w => mHomeIf (mHs (dgS d n) (nI n) w) (nI n) 1439 (nI w)) 3 (31 * dgF (fun v => mDoveN (dgS d n) (nI n) (nI v)) 8 (31 * dgE d n e + (nI n).toInt64) + (mWhyH (dgS d n) (nI n) 1439).toInt64) else dgE d n e
theorem dgF_0 {f : Nat → Int32} {e : Int64} : dgF f 0 e = e := rfl
theorem dgF_s {f : Nat → Int32} {n : Nat} {e : Int64} : dgF f (n + 1) e = 31 * dgF f n e + (f n).toInt64 := rfl
theorem nI_s1 (k : Nat) : nI k + Int32.ofInt 1 = nI (k + 1) := nI_add k 1
theorem dgE_0 {d : cSt} {e : Int64} : dgE d 0 e = e := rfl
theorem mHs_1 {e : cSt} {x : Int32} : ∀ w, mHs e x w 1 = e 1
  | 0 => rfl
  | w + 1 => by
    show mHomeIfS (mHs e x w) x 1439 1 = e 1
    unfold mHomeIfS
    split
    · rw [mA_1]; exact mHs_1 w
    · exact mHs_1 w
theorem dgS_1 {d : cSt} : ∀ n, dgS d n 1 = d 1
  | 0 => rfl
  | n + 1 => by
    unfold dgS
    split
    · rw [mHs_1]; exact dgS_1 n
    · exact dgS_1 n
theorem mHs_o {e : cSt} {x : Int32} {j : Nat} (h : j ≠ 2) : ∀ w, mHs e x w j = e j
  | 0 => rfl
  | w + 1 => by
    show mHomeIfS (mHs e x w) x 1439 j = e j
    unfold mHomeIfS
    split
    · rw [show mA (mHs e x w) j = mHs e x w j from mCpy_row h]; exact mHs_o h w
    · exact mHs_o h w
theorem dgS_o {d : cSt} {j : Nat} (h : j ≠ 2) : ∀ n, dgS d n j = d j
  | 0 => rfl
  | n + 1 => by
    unfold dgS
    split
    · rw [mHs_o h]; exact dgS_o h n
    · exact dgS_o h n
theorem nI_d3 : ∀ k, k < 72 → nI k / 3 = nI (k / 3) ∧ nI k % 3 = nI (k % 3) := by decide +kernel
theorem hol_in {k : Nat} (h : k < 72) : vp_in (nI k / 3) 24 := by
  rw [(nI_d3 k h).1]; exact vp_in_nI (by omega) (by omega)
theorem stq_in {j n : Nat} (h : j < 2 * n) (hn : n ≤ 25) : vp_in (181 + nI j) 232 ∧ ix (181 + nI j) = 181 + j := by
  rw [show (181 : Int32) = nI 181 from rfl, nI_add, ix_nI (by omega)]
  exact ⟨vp_in_nI (by omega) (by omega), rfl⟩
def dg1 (D : cSt) : Int64 := dgE D 16 (dgF (fun k => mNumN D (nI k)) 18 3889)
def dg2 (D T : cSt) : Int64 := dgF (fun k => mHoleN T (nI k / 3) (nI k - nI k / 3 * 3)) 72 (dg1 D)
def dg3 (D T : cSt) (stN : Nat) : Int64 := dgF (fun k => T 1 (181 + k)) (2 * stN) (dg2 D T)
def dg4 (D T : cSt) (stN : Nat) : Int64 := 31 * (31 * (31 * (31 * dg3 D T stN + (T 1 178).toInt64) + (T 1 179).toInt64) + (mFH T 24 (-1)).toInt64) + (mGood T).toInt64
def dg5 (D T : cSt) (stN : Nat) : Int64 := 31 * (31 * dg4 D T stN + (mShare (mA T)).toInt64) + (mA T 0 8).toInt64
def mDig (D T : cSt) (stN L : Nat) : Int64 := dgF (fun k => mA T 5 k) L (dg5 D T stN)
set_option maxRecDepth 100000 in
set_option maxHeartbeats 4000000 in
theorem k_X4_share (l : Launch) {E : gEn} {σ : gSt} {π : Nat → Nat} {o : Int64} {d : cSt} {aN : Nat} (hA : mAll d = nI aN) (ha : aN ≤ 16) : CtD l yX4_share wsX4_share ({ frames := 2, cells := 0, slots := 0, locals := 44 } : Room) E [.ref (E.2.1 10 0)] (gU σ 10 d) π o (mShare d) (gU σ 10 d) π o := by
  refine CtD.of (cc := cX4_share) (own := RX4) (maxL := 3) (ret := (some .double)) [some (.ref (E.2.1 10 0)), none, none] (by decide) rfl rfl (Nat.le_of_ble_eq_true rfl) rfl ?_
  intro p e s m args below meth cd C hrt hlk
  have hinX4 : ∀ w ∈ wsX40, w ∈ wsX4_share := by decide +kernel
  refine G.iconst C 0 dX4_share_0 (by decide) ?_
  refine G.istn1 C dX4_share_1 (by omega) rfl ?_
  refine G.iconst C 0 dX4_share_2 (by decide) ?_
  refine G.istn2 C dX4_share_3 (by omega) rfl ?_
  have L4 : ∀ (n k : Nat), k + n = 16 → G p l e ({ frames := 2, cells := 0, slots := 0, locals := 44 } : Room) s m args below meth cd 3 0 0 (gA E) (gQD below args s (mShare d) E (gU σ 10 d) π o) E (gU σ 10 d) π o 4 [some (.ref (E.2.1 10 0)), some (.int (nI (cnt (fun k => mDove d (nI k) && decide (d 1 (9 * k + 3) = d 1 (9 * k + 1))) k))), some (.int (nI k))] [] := by
    intro n
    induction n with
    | zero =>
      intro k hk
      obtain rfl : 16 = k := by omega
      refine G.ildn2 C dX4_share_4 ?_
      refine G.bipush C 16 dX4_share_5 (by decide) ?_
      refine G.icmp_ge C 47 dX4_share_7 (by decide) (fun _ => ?_) (fun h => absurd (nI_le (a := 16) (b := 16) (by omega) (by decide)) h)
      refine G.aldn0 C dX4_share_47 ?_
      refine G.callVI0 C (k_X4_allDoves l) (cwV 0 C.1.2.2.2.2 gX4_share_X4_allDoves rfl rfl rfl (by decide +kernel) ⟨Nat.le_of_ble_eq_true rfl, Nat.le_of_ble_eq_true rfl⟩) gO_d rfl (Nat.le_of_ble_eq_true rfl) dX4_share_48 ?_
      refine G.if_ne C 58 dX4_share_51 (by decide) (fun h51 => ?_) (fun h51 => ?_)
      · refine G.ildn1 C dX4_share_58 ?_
        refine G.i2d C dX4_share_59 ?_
        refine G.aldn0 C dX4_share_60 ?_
        refine G.callVI0 C (k_X4_allDoves l) (cwV 0 C.1.2.2.2.2 gX4_share_X4_allDoves rfl rfl rfl (by decide +kernel) ⟨Nat.le_of_ble_eq_true rfl, Nat.le_of_ble_eq_true rfl⟩) gO_d rfl (Nat.le_of_ble_eq_true rfl) dX4_share_61 ?_
        refine G.i2d C dX4_share_64 ?_
        refine G.ddiv C dX4_share_65 (by rw [hA] at h51 ⊢; exact (shr_all _ (Nat.lt_succ_of_le (cnt_le _ 16)) aN (by omega) (fun q => h51 (by rw [q]; rfl))).1) ?_
        exact G.dret C hlk hrt dX4_share_66 (by rw [mShare, if_neg h51]) (by exact fun _ h => h)
      · refine G.dconst1 C dX4_share_54 ?_
        refine G.goto C 66 dX4_share_55 (by decide) ?_
        exact G.dret C hlk hrt dX4_share_66 (by rw [mShare, if_pos h51]) (by exact fun _ h => h)
    | succ n ih =>
      intro k hk
      have hk2 : k < 16 := by omega
      refine G.ildn2 C dX4_share_4 ?_
      refine G.bipush C 16 dX4_share_5 (by decide) ?_
      refine G.icmp_ge C 47 dX4_share_7 (by decide) (fun h => absurd h (nI_ge (b := 16) hk2 (by decide))) (fun _ => ?_)
      refine G.ildn1 C dX4_share_10 ?_
      refine G.aldn0 C dX4_share_11 ?_
      refine G.ildn2 C dX4_share_12 ?_
      refine G.callVI1 C (k_X4_isDove l) (cwV 1 C.1.2.2.2.2 gX4_share_X4_isDove rfl rfl rfl (by decide +kernel) ⟨Nat.le_of_ble_eq_true rfl, Nat.le_of_ble_eq_true rfl⟩) gO_d rfl (Nat.le_of_ble_eq_true rfl) dX4_share_13 ?_
      refine G.if_eqB C 38 dX4_share_16 (by decide) (fun h16 => ?_) (fun h16 => ?_)
      · refine G.iconst C 0 dX4_share_38 (by decide) ?_
        refine G.iadd C dX4_share_39 ?_
        refine G.istn1 C dX4_share_40 (by omega) rfl ?_
        refine G.iincN2 C dX4_share_41 (by omega) rfl ?_
        refine G.goto C 4 dX4_share_44 (by decide) ?_
        exact G.back (ih (k + 1) (by omega) ) rfl ⟨(by first | rfl | simp [cnt, *, nI_1]), (by first | rfl | simp [cnt, *, nI_1]), (by first | rfl | simp [cnt, *, nI_1]), trivial⟩
      · refine G.aldn0 C dX4_share_19 ?_
        refine G.ildn2 C dX4_share_20 ?_
        refine G.iconst C 3 dX4_share_21 (by decide) ?_
        refine G.callVI2 C (k_X4_of l (w := 3) (q := 9 * k + 3) (by first | assumption | exact vp_in_nI (by omega) (by omega) | exact mDove_in (by assumption) | exact mSit_in (by assumption)) (by omega) (by rw [ix_nI (by omega)])) (cwV 2 C.1.2.2.2.2 gX4_share_X4_of rfl rfl rfl (by decide +kernel) ⟨Nat.le_of_ble_eq_true rfl, Nat.le_of_ble_eq_true rfl⟩) gO_d rfl (Nat.le_of_ble_eq_true rfl) dX4_share_22 ?_
        refine G.aldn0 C dX4_share_25 ?_
        refine G.ildn2 C dX4_share_26 ?_
        refine G.iconst C 1 dX4_share_27 (by decide) ?_
        refine G.callVI2 C (k_X4_of l (w := 1) (q := 9 * k + 1) (by first | assumption | exact vp_in_nI (by omega) (by omega) | exact mDove_in (by assumption) | exact mSit_in (by assumption)) (by omega) (by rw [ix_nI (by omega)])) (cwV 2 C.1.2.2.2.2 gX4_share_X4_of rfl rfl rfl (by decide +kernel) ⟨Nat.le_of_ble_eq_true rfl, Nat.le_of_ble_eq_true rfl⟩) gO_d rfl (Nat.le_of_ble_eq_true rfl) dX4_share_28 ?_
        refine G.icmp_ne C 38 dX4_share_31 (by decide) (fun h31 => ?_) (fun h31 => ?_)
        · refine G.iconst C 0 dX4_share_38 (by decide) ?_
          refine G.iadd C dX4_share_39 ?_
          refine G.istn1 C dX4_share_40 (by omega) rfl ?_
          refine G.iincN2 C dX4_share_41 (by omega) rfl ?_
          refine G.goto C 4 dX4_share_44 (by decide) ?_
          exact G.back (ih (k + 1) (by omega) ) rfl ⟨(by first | rfl | simp [cnt, *, nI_1]), (by first | rfl | simp [cnt, *, nI_1]), (by first | rfl | simp [cnt, *, nI_1]), trivial⟩
        · refine G.iconst C 1 dX4_share_34 (by decide) ?_
          refine G.goto C 39 dX4_share_35 (by decide) ?_
          refine G.iadd C dX4_share_39 ?_
          refine G.istn1 C dX4_share_40 (by omega) rfl ?_
          refine G.iincN2 C dX4_share_41 (by omega) rfl ?_
          refine G.goto C 4 dX4_share_44 (by decide) ?_
          exact G.back (ih (k + 1) (by omega) ) rfl ⟨(by first | rfl | simp [cnt, *, nI_1]), (by first | rfl | simp [cnt, *, nI_1]), (by first | rfl | simp [cnt, *, nI_1]), trivial⟩
  exact G.back (L4 16 0 (Nat.zero_add _) ) rfl ⟨(by first | rfl | simp [cnt]), (by first | rfl | simp [cnt]), (by first | rfl | simp [cnt]), trivial⟩
set_option maxRecDepth 100000 in
set_option maxHeartbeats 4000000 in
theorem k_X4_homeShare (l : Launch) {E : gEn} {σ : gSt} {π : Nat → Nat} {o : Int64} {d : cSt} {aN : Nat} (hA : mAll d = nI aN) (ha : aN ≤ 16) : CtD l yX4_homeShare wsX4_homeShare ({ frames := 3, cells := 0, slots := 0, locals := 66 } : Room) E [.ref (E.2.1 10 0)] (gU σ 10 d) π o (mShare (cW d 0 0 0)) (gU σ 10 (cW d 0 0 0)) π o := by
  refine CtD.of (cc := cX4_homeShare) (own := RX4) (maxL := 1) (ret := (some .double)) [some (.ref (E.2.1 10 0))] (by decide) rfl rfl (Nat.le_of_ble_eq_true rfl) rfl ?_
  intro p e s m args below meth cd C hrt hlk
  have hinX4 : ∀ w ∈ wsX40, w ∈ wsX4_homeShare := by decide +kernel
  refine G.aldn0 C dX4_homeShare_0 ?_
  refine G.iconst C 0 dX4_homeShare_1 (by decide) ?_
  refine G.putD (ty := .int) C hinX4 0 (by decide) rfl (C.1.2.2.2.2 (.fieldLink RX4 25 RX4 "thrown" "I") (by decide +kernel)) rfl rfl rfl rfl pfX4_0 dX4_homeShare_2 ?_
  refine G.aldn0 C dX4_homeShare_5 ?_
  refine G.callVD0 C (k_X4_share l (d := cW d 0 0 0) (aN := aN) hA ha) (cwV 0 C.1.2.2.2.2 gX4_homeShare_X4_share rfl rfl rfl (by decide +kernel) ⟨Nat.le_of_ble_eq_true rfl, Nat.le_of_ble_eq_true rfl⟩) gO_d rfl (Nat.le_of_ble_eq_true rfl) dX4_homeShare_6 ?_
  exact G.dret C hlk hrt dX4_homeShare_9 (by rfl) (by exact fun _ h => h)
