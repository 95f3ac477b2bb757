/-! the bits of a share, by hand -/
theorem G.lshl {p : Program} {l : Launch} {e : Env} {R : Room} {s : State} {m : MethodId} {args : Array Value} {below : List Frame} {meth : Method} {c : Code} {Q : State → Prop} {cc : ByteArray} {own : String} {Ts : List Cond} {nL cl sl : Nat} {E : gEn} {A : Nat → Prop} {σ : gSt} {π : Nat → Nat} {o : Int64} (C : gCx p s m c cc nL own Ts args E A R cl sl) {pc : Nat} {lv : List (Option Value)} {st : List Value} {x : Int64} {y : Int32} (hd : decode cc pc = .ok (.lshl, 1)) (k : G p l e R s m args below meth c nL cl sl A Q E σ π o (pc + 1) lv (.long (x <<< (y.toInt64 &&& 63)) :: st)) : G p l e R s m args below meth c nL cl sl A Q E σ π o pc lv (.int y :: .long x :: st) := fun H locs ls hW hS hl => lv_lshl C.1.1 C.1.2.1 hd rfl (k H locs ls hW hS hl)
def bsY (x : UInt64) : Nat → UInt64
  | 0 => x
  | k + 1 => FP.dmul (bsY x k) 4611686018427387904
def bsE : Nat → Int64
  | 0 => 1023
  | k + 1 => bsE k - 1
def bsR (x : UInt64) (K : Nat) : Int64 := bsE K <<< ((52 : Int32).toInt64 &&& 63) + FP.d2l (FP.dmul (FP.dsub (bsY x K) FP.dconst1) 4841369599423283200)
abbrev bsOK (x : UInt64) (K : Nat) : Prop := K < 64 ∧ (∀ k, k < K → ¬ 0 ≤ Op.cmpValue (FP.dcmp (bsY x k) FP.dconst1) .g ∧ bsY x (k + 1) &&& 0x7fffffffffffffff ≤ 0x7ff0000000000000) ∧ 0 ≤ Op.cmpValue (FP.dcmp (bsY x K) FP.dconst1) .g ∧ FP.dsub (bsY x K) FP.dconst1 &&& 0x7fffffffffffffff ≤ 0x7ff0000000000000 ∧ FP.dmul (FP.dsub (bsY x K) FP.dconst1) 4841369599423283200 &&& 0x7fffffffffffffff ≤ 0x7ff0000000000000
set_option maxRecDepth 100000 in
set_option maxHeartbeats 4000000 in
theorem k_X3_bitsOfShare_1 (l : Launch) {E : gEn} {σ : gSt} {π : Nat → Nat} {o : Int64} {x : UInt64} {K : Nat} (hx : 0 < Op.cmpValue (FP.dcmp x FP.dconst0) .g) (hK : bsOK x K) : CtL l yX3_bitsOfShare wsX3_bitsOfShare ({ frames := 0, cells := 0, slots := 0, locals := 0 } : Room) E [.double x] σ π o (bsR x K) σ π o := by
  refine CtL.of (cc := cX3_bitsOfShare) (own := RX3) (maxL := 8) (ret := (some .long)) [some (.double x), none, none, none, none, none, none, none] (by decide) rfl rfl (Nat.le_of_ble_eq_true rfl) rfl ?_
  intro p e s m args below meth cd C hrt hlk
  refine G.dldn0 C dX3_bitsOfShare_0 ?_
  refine G.dconst0 C dX3_bitsOfShare_1 ?_
  refine G.dcmp C dX3_bitsOfShare_2 ?_
  refine G.if_gt C 8 dX3_bitsOfShare_3 (by decide) (fun h3 => ?_) (fun h3 => absurd (hx) h3)
  refine G.dldn0 C dX3_bitsOfShare_8 ?_
  refine G.dstn2 C dX3_bitsOfShare_9 (by omega) rfl ?_
  refine G.ldc2 C (v := 1023) (C.1.2.2.2.2 (.constantLong RX3 303 1023) (by decide +kernel)) dX3_bitsOfShare_10 ?_
  refine G.lst4 C dX3_bitsOfShare_13 (by omega) rfl ?_
  refine G.iconst C 0 dX3_bitsOfShare_15 (by decide) ?_
  refine G.ist6 C dX3_bitsOfShare_16 (by omega) rfl ?_
  have L18 : ∀ (n k : Nat), k + n = K → G p l e ({ frames := 0, cells := 0, slots := 0, locals := 0 } : Room) s m args below meth cd 8 0 0 (gA E) (gQL below args s (bsR x K) E σ π o) E σ π o 18 [some (.double x), none, some (.double (bsY x k)), none, some (.long (bsE k)), none, some (.int (nI k)), none] [] := by
    intro n
    induction n with
    | zero =>
      intro k hk
      obtain rfl : K = k := by omega
      refine G.ild6 C dX3_bitsOfShare_18 ?_
      refine G.bipush C 64 dX3_bitsOfShare_20 (by decide) ?_
      refine G.icmp_ge C 49 dX3_bitsOfShare_22 (by decide) (fun h22 => absurd h22 (nI_ge (b := 64) (by have := hK.1; omega) (by decide))) (fun h22 => ?_)
      refine G.dldn2 C dX3_bitsOfShare_25 ?_
      refine G.dconst1 C dX3_bitsOfShare_26 ?_
      refine G.dcmp C dX3_bitsOfShare_27 ?_
      refine G.if_ge C 49 dX3_bitsOfShare_28 (by decide) (fun _ => ?_) (fun h => absurd (hK.2.2.1) h)
      refine G.dldn2 C dX3_bitsOfShare_49 ?_
      refine G.dconst1 C dX3_bitsOfShare_50 ?_
      refine G.dsub C dX3_bitsOfShare_51 hK.2.2.2.1 ?_
      refine G.ldc2d C (v := 4841369599423283200) (C.1.2.2.2.2 (.constantDouble RX3 307 4841369599423283200) (by decide +kernel)) dX3_bitsOfShare_52 ?_
      refine G.dmul C dX3_bitsOfShare_55 hK.2.2.2.2 ?_
      refine G.d2l C dX3_bitsOfShare_56 ?_
      refine G.lst6 C dX3_bitsOfShare_57 (by omega) rfl ?_
      refine G.lld4 C dX3_bitsOfShare_59 ?_
      refine G.bipush C 52 dX3_bitsOfShare_61 (by decide) ?_
      refine G.lshl C dX3_bitsOfShare_63 ?_
      refine G.lld6 C dX3_bitsOfShare_64 ?_
      refine G.ladd C dX3_bitsOfShare_66 ?_
      exact G.lret C hlk hrt dX3_bitsOfShare_67 (by rfl) (by exact fun _ h => h)
    | succ n ih =>
      intro k hk
      have hk2 : k < K := by omega
      refine G.ild6 C dX3_bitsOfShare_18 ?_
      refine G.bipush C 64 dX3_bitsOfShare_20 (by decide) ?_
      refine G.icmp_ge C 49 dX3_bitsOfShare_22 (by decide) (fun h22 => absurd h22 (nI_ge (b := 64) (by have := hK.1; omega) (by decide))) (fun h22 => ?_)
      refine G.dldn2 C dX3_bitsOfShare_25 ?_
      refine G.dconst1 C dX3_bitsOfShare_26 ?_
      refine G.dcmp C dX3_bitsOfShare_27 ?_
      refine G.if_ge C 49 dX3_bitsOfShare_28 (by decide) (fun h => absurd h ((hK.2.1 k hk2).1)) (fun _ => ?_)
      refine G.dldn2 C dX3_bitsOfShare_31 ?_
      refine G.ldc2d C (v := 4611686018427387904) (C.1.2.2.2.2 (.constantDouble RX3 305 4611686018427387904) (by decide +kernel)) dX3_bitsOfShare_32 ?_
      refine G.dmul C dX3_bitsOfShare_35 ((hK.2.1 k hk2).2) ?_
      refine G.dstn2 C dX3_bitsOfShare_36 (by omega) rfl ?_
      refine G.lld4 C dX3_bitsOfShare_37 ?_
      refine G.lconst C 1 dX3_bitsOfShare_39 (by decide) ?_
      refine G.lsub C dX3_bitsOfShare_40 ?_
      refine G.lst4 C dX3_bitsOfShare_41 (by omega) rfl ?_
      refine G.iincN6 C dX3_bitsOfShare_43 (by omega) rfl ?_
      refine G.goto C 18 dX3_bitsOfShare_46 (by decide) ?_
      exact G.back (ih (k + 1) (by omega) ) rfl ⟨(by first | with_reducible rfl | rfl), (by first | with_reducible rfl | rfl), (by first | with_reducible rfl | rfl), (by first | with_reducible rfl | rfl), trivial⟩
  exact G.back (L18 K 0 (Nat.zero_add _) ) rfl ⟨(by first | with_reducible rfl | rfl), (by first | with_reducible rfl | rfl), (by first | with_reducible rfl | rfl), (by first | with_reducible rfl | rfl), trivial⟩
set_option maxRecDepth 100000 in
set_option maxHeartbeats 4000000 in
theorem k_X3_bitsOfShare_0 (l : Launch) {E : gEn} {σ : gSt} {π : Nat → Nat} {o : Int64} {x : UInt64} (hx : ¬ 0 < Op.cmpValue (FP.dcmp x FP.dconst0) .g) : CtL l yX3_bitsOfShare wsX3_bitsOfShare ({ frames := 0, cells := 0, slots := 0, locals := 0 } : Room) E [.double x] σ π o (0) σ π o := by
  refine CtL.of (cc := cX3_bitsOfShare) (own := RX3) (maxL := 8) (ret := (some .long)) [some (.double x), none, none, none, none, none, none, none] (by decide) rfl rfl (Nat.le_of_ble_eq_true rfl) rfl ?_
  intro p e s m args below meth cd C hrt hlk
  refine G.dldn0 C dX3_bitsOfShare_0 ?_
  refine G.dconst0 C dX3_bitsOfShare_1 ?_
  refine G.dcmp C dX3_bitsOfShare_2 ?_
  refine G.if_gt C 8 dX3_bitsOfShare_3 (by decide) (fun h3 => absurd h3 (hx)) (fun h3 => ?_)
  refine G.lconst C 0 dX3_bitsOfShare_6 (by decide) ?_
  exact G.lret C hlk hrt dX3_bitsOfShare_7 (by rfl) (by exact fun _ h => h)
def bsK (x : UInt64) : Nat := ((List.range 8).find? (fun k => decide (0 ≤ Op.cmpValue (FP.dcmp (bsY x k) FP.dconst1) .g))).getD 8
def bsGb (x : UInt64) : Bool := if 0 < Op.cmpValue (FP.dcmp x FP.dconst0) .g then decide (bsOK x (bsK x)) && decide (bsR x (bsK x) = x.toInt64) else decide (x.toInt64 = 0)
def bsG (x : UInt64) : Prop := bsGb x = true
theorem bsG_all : ∀ a, a < 17 → a ≠ 0 → ∀ n, n < a + 1 → bsG (shr n a) := by unfold bsG; decide +kernel
theorem bsG_1 : bsG FP.dconst1 := by unfold bsG; decide +kernel
theorem k_X3_bitsOfShare (l : Launch) {E : gEn} {σ : gSt} {π : Nat → Nat} {o : Int64} {x : UInt64} (h : bsG x) : CtL l yX3_bitsOfShare wsX3_bitsOfShare ({ frames := 0, cells := 0, slots := 0, locals := 0 } : Room) E [.double x] σ π o x.toInt64 σ π o := by
  unfold bsG bsGb at h
  split at h
  · rename_i h0
    rw [Bool.and_eq_true, decide_eq_true_eq, decide_eq_true_eq] at h
    rw [← h.2]
    exact k_X3_bitsOfShare_1 l h0 h.1
  · rename_i h0
    rw [decide_eq_true_eq] at h
    rw [h]
    exact k_X3_bitsOfShare_0 l h0
theorem cnt_mono {P Q : Nat → Bool} (h : ∀ k, P k = true → Q k = true) : ∀ n, cnt P n ≤ cnt Q n
  | 0 => Nat.le_refl 0
  | n + 1 => by
    have := cnt_mono h n
    unfold cnt
    by_cases h1 : P n = true
    · rw [if_pos h1, if_pos (h n h1)]; omega
    · rw [if_neg h1]
      split <;> omega
theorem tShare_G {c : cSt} : bsG (tShare c) := by
  unfold tShare
  split
  · exact bsG_1
  · rename_i h
    refine bsG_all _ (Nat.lt_succ_of_le (cnt_le _ 16)) (fun q => h (by unfold cDoves; rw [q]; rfl)) _ (Nat.lt_succ_of_le (cnt_mono (fun k hk => ?_) 16))
    rw [Bool.and_eq_true] at hk
    exact hk.1
/-! the digest -/
def tC1 (c0 c1 : cSt) : Nat → cSt
  | 0 => c1
  | k + 1 => if cEx c0 (nI k) = true then (tTry c0 (tC1 c0 c1 k) (nI k) 1439).2 else tC1 c0 c1 k
def tD (c0 c1 : cSt) : Nat → Int64 → Int64
  | 0, e => e
  | k + 1, e => if cEx c0 (nI k) = true then tMD c0 (tC1 c0 c1 k) (tD c0 c1 k e) (nI k) else tD c0 c1 k e
theorem tD_0 {c0 c1 : cSt} {e : Int64} : tD c0 c1 0 e = e := rfl
def tH (c : cSt) : Nat → Int64 → Int64
  | 0, e => e
  | k + 1, e => dgF (fun j => c (11 + j) k) 3 (tH c k e)
theorem tH_0 {c : cSt} {e : Int64} : tH c 0 e = e := rfl
theorem tH_s {c : cSt} {k : Nat} {e : Int64} : tH c (k + 1) e = dgF (fun j => c (11 + j) k) 3 (tH c k e) := rfl
def td1 (c0 c9 : cSt) : Int64 := dgF (fun k => if nI k = 17 then c9 0 5 else cNum c0 (nI k)) 18 3889
def td3 (c0 c1 c9 : cSt) : Int64 := tH c0 24 (tD c0 c1 16 (td1 c0 c9))
def td4 (c0 c1 c9 : cSt) (n0 : Nat) : Int64 := 31 * (31 * (31 * (31 * tMW c0 n0 (td3 c0 c1 c9) + (c0 16 0).toInt64) + (c0 16 1).toInt64) + (tFH c0 24 0).toInt64) + (tGood c0).toInt64
def td5 (c0 c1 c9 : cSt) (n0 : Nat) : Int64 := 31 * (31 * td4 c0 c1 c9 n0 + (tShare c0).toInt64) + (c9 0 7).toInt64
def tDig (c0 c1 c9 : cSt) (n0 L : Nat) : Int64 := dgF (fun k => c9 2 k) L (td5 c0 c1 c9 n0)
theorem gN_h {j : Nat} (h : j < 3) : gN 0 (11 + j) = some 24 := by
  have : j = 0 ∨ j = 1 ∨ j = 2 := by omega
  rcases this with rfl | rfl | rfl <;> rfl
set_option maxRecDepth 100000 in
set_option maxHeartbeats 4000000 in
theorem k_X3_digest (l : Launch) {E : gEn} {σ : gSt} {π : Nat → Nat} {o : Int64} {c0 c1 c2 c9 : cSt} {L : Nat} (hL : c9 0 7 = nI L) (h60 : L ≤ 60) {n0 : Nat} (hn0 : c0 17 2 = nI n0) (h25 : n0 ≤ 25) : CtL l yX3_digest wsX3_digest ({ frames := 7, cells := 0, slots := 0, locals := 168 } : Room) E [.ref (E.2.1 9 0)] (gT σ c0 c1 c2 c9) π o (tDig c0 c1 c9 n0 L) (gT σ c0 (tAll c0 (c0 0 7) 16) c2 c9) π o := by
  refine CtL.of (cc := cX3_digest) (own := RX3) (maxL := 5) (ret := (some .long)) [some (.ref (E.2.1 9 0)), none, none, none, none] (by decide) rfl rfl (Nat.le_of_ble_eq_true rfl) rfl ?_
  intro p e s m args below meth cd C hrt hlk
  have hinX0 : ∀ w ∈ wsX00, w ∈ wsX3_digest := by decide +kernel
  have hinX2 : ∀ w ∈ wsX20, w ∈ wsX3_digest := by decide +kernel
  have hinX3 : ∀ w ∈ wsX30, w ∈ wsX3_digest := by decide +kernel
  refine G.ldc2 C (v := 3889) (C.1.2.2.2.2 (.constantLong RX3 226 3889) (by decide +kernel)) dX3_digest_0 ?_
  refine G.lstn1 C dX3_digest_3 (by omega) rfl ?_
  refine G.iconst C 0 dX3_digest_4 (by decide) ?_
  refine G.istn3 C dX3_digest_5 (by omega) rfl ?_
  have L6 : ∀ (n k : Nat), k + n = 18 → G p l e ({ frames := 7, cells := 0, slots := 0, locals := 168 } : Room) s m args below meth cd 5 0 0 (gA E) (gQL below args s (tDig c0 c1 c9 n0 L) E (gT σ c0 (tAll c0 (c0 0 7) 16) c2 c9) π o) E (gT σ c0 c1 c2 c9) π o 6 [some (.ref (E.2.1 9 0)), some (.long (dgF (fun k => if nI k = 17 then c9 0 5 else cNum c0 (nI k)) k 3889)), none, some (.int (nI k)), none] [] := by
    intro n
    induction n with
    | zero =>
      intro k hk
      obtain rfl : 18 = k := by omega
      refine G.ildn3 C dX3_digest_6 ?_
      refine G.bipush C 18 dX3_digest_7 (by decide) ?_
      refine G.icmp_ge C 29 dX3_digest_9 (by decide) (fun _ => ?_) (fun h => absurd (nI_le (a := 18) (b := 18) (by omega) (by decide)) h)
      refine G.iconst C 0 dX3_digest_29 (by decide) ?_
      refine G.istn3 C dX3_digest_30 (by omega) rfl ?_
      have L31 : ∀ (n k : Nat), k + n = 16 → G p l e ({ frames := 7, cells := 0, slots := 0, locals := 168 } : Room) s m args below meth cd 5 0 0 (gA E) (gQL below args s (tDig c0 c1 c9 n0 L) E (gT σ c0 (tAll c0 (c0 0 7) 16) c2 c9) π o) E (gT σ c0 (tC1 c0 c1 k) c2 c9) π o 31 [some (.ref (E.2.1 9 0)), some (.long (tD c0 c1 k (td1 c0 c9))), none, some (.int (nI k)), none] [] := by
        intro n
        induction n with
        | zero =>
          intro k hk
          obtain rfl : 16 = k := by omega
          refine G.ildn3 C dX3_digest_31 ?_
          refine G.bipush C 16 dX3_digest_32 (by decide) ?_
          refine G.icmp_ge C 61 dX3_digest_34 (by decide) (fun _ => ?_) (fun h => absurd (nI_le (a := 16) (b := 16) (by omega) (by decide)) h)
          refine G.iconst C 0 dX3_digest_61 (by decide) ?_
          refine G.istn3 C dX3_digest_62 (by omega) rfl ?_
          have L63 : ∀ (n k : Nat), k + n = 24 → G p l e ({ frames := 7, cells := 0, slots := 0, locals := 168 } : Room) s m args below meth cd 5 0 0 (gA E) (gQL below args s (tDig c0 c1 c9 n0 L) E (gT σ c0 (tAll c0 (c0 0 7) 16) c2 c9) π o) E (gT σ c0 (tC1 c0 c1 16) c2 c9) π o 63 [some (.ref (E.2.1 9 0)), some (.long (tH c0 k (tD c0 c1 16 (td1 c0 c9)))), none, some (.int (nI k)), none] [] := by
            intro n
            induction n with
            | zero =>
              intro k hk
              obtain rfl : 24 = k := by omega
              refine G.ildn3 C dX3_digest_63 ?_
              refine G.bipush C 24 dX3_digest_64 (by decide) ?_
              refine G.icmp_ge C 108 dX3_digest_66 (by decide) (fun _ => ?_) (fun h => absurd (nI_le (a := 24) (b := 24) (by omega) (by decide)) h)
              refine G.aldn0 C dX3_digest_108 ?_
              refine G.lldn1 C dX3_digest_109 ?_
              refine G.callVL1 C (k_X3_mixWay l hn0 h25) (cwV 1 C.1.2.2.2.2 gX3_digest_X3_mixWay rfl rfl rfl (by decide +kernel) ⟨Nat.le_of_ble_eq_true rfl, Nat.le_of_ble_eq_true rfl⟩) gO_m rfl (Nat.le_of_ble_eq_true rfl) dX3_digest_110 ?_
              refine G.lstn1 C dX3_digest_113 (by omega) rfl ?_
              refine G.lldn1 C dX3_digest_114 ?_
              refine G.aldn0 C dX3_digest_115 ?_
              refine G.getMT C hinX3 0 (by decide) rfl (C.1.2.2.2.2 (.fieldLink RX3 10 RX3 "now" "LLateDoves$Cote;") (by decide +kernel)) rfl dX3_digest_116 ?_
              refine G.getCT0N C hinX0 4 (by decide) rfl (by simp [gNst, TX0, TX1, TX2]) rfl dX3_digest_119 ?_
              refine G.iconst C 0 dX3_digest_122 (by decide) ?_
              refine G.ialdT0 C (n := 2) (j := 16) (d0 := 0) (gN_c (by omega) rfl) (gV_c (by omega) (by omega)) (by unfold vp_in; decide) (by decide) dX3_digest_123 ?_
              refine G.i2l C dX3_digest_124 ?_
              refine G.callSL2 C (k_X3_mix l) (va_cwS 2 C.1.2.2.2.2 gX3_digest_X3_mix rfl rfl rfl (by decide +kernel) ⟨Nat.le_of_ble_eq_true rfl, Nat.le_of_ble_eq_true rfl⟩) (Nat.le_of_ble_eq_true rfl) dX3_digest_125 ?_
              refine G.lstn1 C dX3_digest_128 (by omega) rfl ?_
              refine G.lldn1 C dX3_digest_129 ?_
              refine G.aldn0 C dX3_digest_130 ?_
              refine G.getMT C hinX3 0 (by decide) rfl (C.1.2.2.2.2 (.fieldLink RX3 10 RX3 "now" "LLateDoves$Cote;") (by decide +kernel)) rfl dX3_digest_131 ?_
              refine G.getCT0N C hinX0 4 (by decide) rfl (by simp [gNst, TX0, TX1, TX2]) rfl dX3_digest_134 ?_
              refine G.iconst C 1 dX3_digest_137 (by decide) ?_
              refine G.ialdT0 C (n := 2) (j := 16) (d0 := 1) (gN_c (by omega) rfl) (gV_c (by omega) (by omega)) (by unfold vp_in; decide) (by decide) dX3_digest_138 ?_
              refine G.i2l C dX3_digest_139 ?_
              refine G.callSL2 C (k_X3_mix l) (va_cwS 2 C.1.2.2.2.2 gX3_digest_X3_mix rfl rfl rfl (by decide +kernel) ⟨Nat.le_of_ble_eq_true rfl, Nat.le_of_ble_eq_true rfl⟩) (Nat.le_of_ble_eq_true rfl) dX3_digest_140 ?_
              refine G.lstn1 C dX3_digest_143 (by omega) rfl ?_
              refine G.lldn1 C dX3_digest_144 ?_
              refine G.aldn0 C dX3_digest_145 ?_
              refine G.callVI0 C (k_X3_freeHole l) (cwV 0 C.1.2.2.2.2 gX3_digest_X3_freeHole rfl rfl rfl (by decide +kernel) ⟨Nat.le_of_ble_eq_true rfl, Nat.le_of_ble_eq_true rfl⟩) gO_m rfl (Nat.le_of_ble_eq_true rfl) dX3_digest_146 ?_
              refine G.i2l C dX3_digest_149 ?_
              refine G.callSL2 C (k_X3_mix l) (va_cwS 2 C.1.2.2.2.2 gX3_digest_X3_mix rfl rfl rfl (by decide +kernel) ⟨Nat.le_of_ble_eq_true rfl, Nat.le_of_ble_eq_true rfl⟩) (Nat.le_of_ble_eq_true rfl) dX3_digest_150 ?_
              refine G.lstn1 C dX3_digest_153 (by omega) rfl ?_
              refine G.lldn1 C dX3_digest_154 ?_
              refine G.aldn0 C dX3_digest_155 ?_
              refine G.callVI0 C (k_X3_lateIsAsGood l) (cwV 0 C.1.2.2.2.2 gX3_digest_X3_lateIsAsGood rfl rfl rfl (by decide +kernel) ⟨Nat.le_of_ble_eq_true rfl, Nat.le_of_ble_eq_true rfl⟩) gO_m rfl (Nat.le_of_ble_eq_true rfl) dX3_digest_156 ?_
              refine G.i2l C dX3_digest_159 ?_
              refine G.callSL2 C (k_X3_mix l) (va_cwS 2 C.1.2.2.2.2 gX3_digest_X3_mix rfl rfl rfl (by decide +kernel) ⟨Nat.le_of_ble_eq_true rfl, Nat.le_of_ble_eq_true rfl⟩) (Nat.le_of_ble_eq_true rfl) dX3_digest_160 ?_
              refine G.lstn1 C dX3_digest_163 (by omega) rfl ?_
              refine G.lldn1 C dX3_digest_164 ?_
              refine G.aldn0 C dX3_digest_165 ?_
              refine G.callVD0 C (k_X3_homeShare l) (cwV 0 C.1.2.2.2.2 gX3_digest_X3_homeShare rfl rfl rfl (by decide +kernel) ⟨Nat.le_of_ble_eq_true rfl, Nat.le_of_ble_eq_true rfl⟩) gO_m rfl (Nat.le_of_ble_eq_true rfl) dX3_digest_166 ?_
              refine G.callSL1 C (k_X3_bitsOfShare l tShare_G) (va_cwS 1 C.1.2.2.2.2 gX3_digest_X3_bitsOfShare rfl rfl rfl (by decide +kernel) ⟨Nat.le_of_ble_eq_true rfl, Nat.le_of_ble_eq_true rfl⟩) (Nat.le_of_ble_eq_true rfl) dX3_digest_169 ?_
              refine G.callSL2 C (k_X3_mix l) (va_cwS 2 C.1.2.2.2.2 gX3_digest_X3_mix rfl rfl rfl (by decide +kernel) ⟨Nat.le_of_ble_eq_true rfl, Nat.le_of_ble_eq_true rfl⟩) (Nat.le_of_ble_eq_true rfl) dX3_digest_172 ?_
              refine G.lstn1 C dX3_digest_175 (by omega) rfl ?_
              refine G.lldn1 C dX3_digest_176 ?_
              refine G.aldn0 C dX3_digest_177 ?_
              refine G.getMT C hinX3 7 (by decide) rfl (C.1.2.2.2.2 (.fieldLink RX3 38 RX3 "length" "I") (by decide +kernel)) rfl dX3_digest_178 ?_
              refine G.i2l C dX3_digest_181 ?_
              refine G.callSL2 C (k_X3_mix l) (va_cwS 2 C.1.2.2.2.2 gX3_digest_X3_mix rfl rfl rfl (by decide +kernel) ⟨Nat.le_of_ble_eq_true rfl, Nat.le_of_ble_eq_true rfl⟩) (Nat.le_of_ble_eq_true rfl) dX3_digest_182 ?_
              refine G.lstn1 C dX3_digest_185 (by omega) rfl ?_
              refine G.iconst C 0 dX3_digest_186 (by decide) ?_
              refine G.istn3 C dX3_digest_187 (by omega) rfl ?_
              have L188 : ∀ (n k : Nat), k + n = L → G p l e ({ frames := 7, cells := 0, slots := 0, locals := 168 } : Room) s m args below meth cd 5 0 0 (gA E) (gQL below args s (tDig c0 c1 c9 n0 L) E (gT σ c0 (tAll c0 (c0 0 7) 16) c2 c9) π o) E (gT σ c0 (tAll c0 (c0 0 7) 16) c2 c9) π o 188 [some (.ref (E.2.1 9 0)), some (.long (dgF (fun k => c9 2 k) k (td5 c0 c1 c9 n0))), none, some (.int (nI k)), none] [] := by
                intro n
                induction n with
                | zero =>
                  intro k hk
                  obtain rfl : L = k := by omega
                  refine G.ildn3 C dX3_digest_188 ?_
                  refine G.aldn0 C dX3_digest_189 ?_
                  refine G.getMT C hinX3 7 (by decide) rfl (C.1.2.2.2.2 (.fieldLink RX3 38 RX3 "length" "I") (by decide +kernel)) rfl dX3_digest_190 ?_
                  refine G.topI (nI L) hL ?_
                  refine G.icmp_ge C 214 dX3_digest_193 (by decide) (fun _ => ?_) (fun h => absurd (nI_le (a := L) (b := L) (by omega) (by omega)) h)
                  refine G.lldn1 C dX3_digest_214 ?_
                  exact G.lret C hlk hrt dX3_digest_215 (by rfl) (by exact fun _ h => h)
                | succ n ih =>
                  intro k hk
                  have hk2 : k < L := by omega
                  refine G.ildn3 C dX3_digest_188 ?_
                  refine G.aldn0 C dX3_digest_189 ?_
                  refine G.getMT C hinX3 7 (by decide) rfl (C.1.2.2.2.2 (.fieldLink RX3 38 RX3 "length" "I") (by decide +kernel)) rfl dX3_digest_190 ?_
                  refine G.topI (nI L) hL ?_
                  refine G.icmp_ge C 214 dX3_digest_193 (by decide) (fun h => absurd h (nI_ge (b := L) hk2 (by omega))) (fun _ => ?_)
                  refine G.lldn1 C dX3_digest_196 ?_
                  refine G.aldn0 C dX3_digest_197 ?_
                  refine G.getMT C hinX3 6 (by decide) rfl (C.1.2.2.2.2 (.fieldLink RX3 34 RX3 "buffer" "[I") (by decide +kernel)) rfl dX3_digest_198 ?_
                  refine G.ildn3 C dX3_digest_201 ?_
                  refine G.ialdT9 C (n := 60) (j := 2) (d0 := k) rfl (gV_m (by omega)) (vp_in_nI (by omega) (by omega)) (ix_nI (by omega)) dX3_digest_202 ?_
                  refine G.i2l C dX3_digest_203 ?_
                  refine G.callSL2 C (k_X3_mix l) (va_cwS 2 C.1.2.2.2.2 gX3_digest_X3_mix rfl rfl rfl (by decide +kernel) ⟨Nat.le_of_ble_eq_true rfl, Nat.le_of_ble_eq_true rfl⟩) (Nat.le_of_ble_eq_true rfl) dX3_digest_204 ?_
                  refine G.lstn1 C dX3_digest_207 (by omega) rfl ?_
                  refine G.iincN3 C dX3_digest_208 (by omega) rfl ?_
                  refine G.goto C 188 dX3_digest_211 (by decide) ?_
                  exact G.back (ih (k + 1) (by omega) ) rfl ⟨(by first | with_reducible rfl | (rw [dgF_s (n := k)]; done) | (exact congrArg (fun z => some (Value.int z)) (nI_s1 k))), (by first | with_reducible rfl | (rw [dgF_s (n := k)]; done) | (exact congrArg (fun z => some (Value.int z)) (nI_s1 k))), (by first | with_reducible rfl | (rw [dgF_s (n := k)]; done) | (exact congrArg (fun z => some (Value.int z)) (nI_s1 k))), trivial⟩
              exact G.back (L188 L 0 (Nat.zero_add _) ) rfl ⟨(by first | with_reducible rfl | (rw [dgF_0, td5, td4, td3]; done) | rfl), (by first | with_reducible rfl | (rw [dgF_0, td5, td4, td3]; done) | rfl), (by first | with_reducible rfl | (rw [dgF_0, td5, td4, td3]; done) | rfl), trivial⟩
            | succ n ih =>
              intro k hk
              have hk2 : k < 24 := by omega
              refine G.ildn3 C dX3_digest_63 ?_
              refine G.bipush C 24 dX3_digest_64 (by decide) ?_
              refine G.icmp_ge C 108 dX3_digest_66 (by decide) (fun h => absurd h (nI_ge (b := 24) hk2 (by decide))) (fun _ => ?_)
              refine G.iconst C 0 dX3_digest_69 (by decide) ?_
              refine G.ist4 C dX3_digest_70 (by omega) rfl ?_
              have L72 : ∀ (n j : Nat), j + n = 3 → G p l e ({ frames := 7, cells := 0, slots := 0, locals := 168 } : Room) s m args below meth cd 5 0 0 (gA E) (gQL below args s (tDig c0 c1 c9 n0 L) E (gT σ c0 (tAll c0 (c0 0 7) 16) c2 c9) π o) E (gT σ c0 (tC1 c0 c1 16) c2 c9) π o 72 [some (.ref (E.2.1 9 0)), some (.long (dgF (fun j => c0 (11 + j) k) j (tH c0 k (tD c0 c1 16 (td1 c0 c9))))), none, some (.int (nI k)), some (.int (nI j))] [] := by
                intro n
                induction n with
                | zero =>
                  intro j hk
                  obtain rfl : 3 = j := by omega
                  refine G.ild4 C dX3_digest_72 ?_
                  refine G.iconst C 3 dX3_digest_74 (by decide) ?_
                  refine G.icmp_ge C 102 dX3_digest_75 (by decide) (fun _ => ?_) (fun h => absurd (nI_le (a := 3) (b := 3) (by omega) (by decide)) h)
                  refine G.iincN3 C dX3_digest_102 (by omega) rfl ?_
                  refine G.goto C 63 dX3_digest_105 (by decide) ?_
                  exact G.back (ih (k + 1) (by omega) ) rfl ⟨(by first | with_reducible rfl | (rw [tH_s (k := k)]; done) | (exact congrArg (fun z => some (Value.int z)) (nI_s1 k))), (by first | with_reducible rfl | (rw [tH_s (k := k)]; done) | (exact congrArg (fun z => some (Value.int z)) (nI_s1 k))), (by first | with_reducible rfl | (rw [tH_s (k := k)]; done) | (exact congrArg (fun z => some (Value.int z)) (nI_s1 k))), trivial⟩
                | succ n ih =>
                  intro j hk
                  have hk2 : j < 3 := by omega
                  refine G.ild4 C dX3_digest_72 ?_
                  refine G.iconst C 3 dX3_digest_74 (by decide) ?_
                  refine G.icmp_ge C 102 dX3_digest_75 (by decide) (fun h => absurd h (nI_ge (b := 3) hk2 (by decide))) (fun _ => ?_)
                  refine G.lldn1 C dX3_digest_78 ?_
                  refine G.aldn0 C dX3_digest_79 ?_
                  refine G.getMT C hinX3 0 (by decide) rfl (C.1.2.2.2.2 (.fieldLink RX3 10 RX3 "now" "LLateDoves$Cote;") (by decide +kernel)) rfl dX3_digest_80 ?_
                  refine G.getCT0N C hinX0 1 (by decide) rfl (by simp [gNst, TX0, TX1, TX2]) rfl dX3_digest_83 ?_
                  refine G.ild4 C dX3_digest_86 ?_
                  refine G.aaldH C (by omega) (11 + j) (vp_in_nI (by omega) (by omega)) (by rw [ix_nI (by omega)]) dX3_digest_88 ?_
                  refine G.ildn3 C dX3_digest_89 ?_
                  refine G.ialdT0 C (n := 24) (j := 11 + j) (d0 := k) (gN_h (by omega)) (gV_c (by omega) (by omega)) (by first | assumption | exact vp_in_nI (by omega) (by omega) | (unfold vp_in; decide)) (ix_nI (by omega)) dX3_digest_90 ?_
                  refine G.i2l C dX3_digest_91 ?_
                  refine G.callSL2 C (k_X3_mix l) (va_cwS 2 C.1.2.2.2.2 gX3_digest_X3_mix rfl rfl rfl (by decide +kernel) ⟨Nat.le_of_ble_eq_true rfl, Nat.le_of_ble_eq_true rfl⟩) (Nat.le_of_ble_eq_true rfl) dX3_digest_92 ?_
                  refine G.lstn1 C dX3_digest_95 (by omega) rfl ?_
                  refine G.iincN4 C dX3_digest_96 (by omega) rfl ?_
                  refine G.goto C 72 dX3_digest_99 (by decide) ?_
                  exact G.back (ih (j + 1) (by omega) ) rfl ⟨(by first | with_reducible rfl | (rw [dgF_s (n := j)]; done) | (exact congrArg (fun z => some (Value.int z)) (nI_s1 j))), (by first | with_reducible rfl | (rw [dgF_s (n := j)]; done) | (exact congrArg (fun z => some (Value.int z)) (nI_s1 j))), (by first | with_reducible rfl | (rw [dgF_s (n := j)]; done) | (exact congrArg (fun z => some (Value.int z)) (nI_s1 j))), (by first | with_reducible rfl | (rw [dgF_s (n := j)]; done) | (exact congrArg (fun z => some (Value.int z)) (nI_s1 j))), trivial⟩
              exact G.back (L72 3 0 (Nat.zero_add _) ) rfl ⟨(by first | with_reducible rfl | (rw [dgF_0]; done) | rfl), (by first | with_reducible rfl | (rw [dgF_0]; done) | rfl), (by first | with_reducible rfl | (rw [dgF_0]; done) | rfl), (by first | with_reducible rfl | (rw [dgF_0]; done) | rfl), trivial⟩
          exact G.back (L63 24 0 (Nat.zero_add _) ) rfl ⟨(by first | with_reducible rfl | (rw [tH_0]; done) | rfl), (by first | with_reducible rfl | (rw [tH_0]; done) | rfl), (by first | with_reducible rfl | (rw [tH_0]; done) | rfl), trivial⟩
        | succ n ih =>
          intro k hk
          have hk2 : k < 16 := by omega
          refine G.ildn3 C dX3_digest_31 ?_
          refine G.bipush C 16 dX3_digest_32 (by decide) ?_
          refine G.icmp_ge C 61 dX3_digest_34 (by decide) (fun h => absurd h (nI_ge (b := 16) hk2 (by decide))) (fun _ => ?_)
          refine G.aldn0 C dX3_digest_37 ?_
          refine G.getMT C hinX3 0 (by decide) rfl (C.1.2.2.2.2 (.fieldLink RX3 10 RX3 "now" "LLateDoves$Cote;") (by decide +kernel)) rfl dX3_digest_38 ?_
          refine G.ildn3 C dX3_digest_41 ?_
          refine G.callVI1 C (T0I (k_X0_exists l (by omega))) (cwV 1 C.1.2.2.2.2 gX3_digest_X0_exists rfl rfl rfl (by decide +kernel) ⟨Nat.le_of_ble_eq_true rfl, Nat.le_of_ble_eq_true rfl⟩) (gO_c (by omega)) rfl (Nat.le_of_ble_eq_true rfl) dX3_digest_42 ?_
          refine G.if_eqB C 55 dX3_digest_45 (by decide) (fun h45 => ?_) (fun h45 => ?_)
          · refine G.iincN3 C dX3_digest_55 (by omega) rfl ?_
            refine G.goto C 31 dX3_digest_58 (by decide) ?_
            exact G.back (ih (k + 1) (by omega) ) (by first | (rw [tC1, if_pos h45]; done) | (rw [tC1, if_neg (by rw [h45]; decide)])) ⟨(by first | with_reducible rfl | (rw [tD, if_pos h45]; done) | (rw [tD, if_neg (by rw [h45]; decide)]; done) | (exact congrArg (fun z => some (Value.int z)) (nI_s1 k))), (by first | with_reducible rfl | (rw [tD, if_pos h45]; done) | (rw [tD, if_neg (by rw [h45]; decide)]; done) | (exact congrArg (fun z => some (Value.int z)) (nI_s1 k))), (by first | with_reducible rfl | (rw [tD, if_pos h45]; done) | (rw [tD, if_neg (by rw [h45]; decide)]; done) | (exact congrArg (fun z => some (Value.int z)) (nI_s1 k))), trivial⟩
          · refine G.aldn0 C dX3_digest_48 ?_
            refine G.lldn1 C dX3_digest_49 ?_
            refine G.ildn3 C dX3_digest_50 ?_
            refine G.callVL2 C (k_X3_mixDove l (vp_in_nI (by omega) (by omega))) (cwV 2 C.1.2.2.2.2 gX3_digest_X3_mixDove rfl rfl rfl (by decide +kernel) ⟨Nat.le_of_ble_eq_true rfl, Nat.le_of_ble_eq_true rfl⟩) gO_m rfl (Nat.le_of_ble_eq_true rfl) dX3_digest_51 ?_
            refine G.lstn1 C dX3_digest_54 (by omega) rfl ?_
            refine G.iincN3 C dX3_digest_55 (by omega) rfl ?_
            refine G.goto C 31 dX3_digest_58 (by decide) ?_
            exact G.back (ih (k + 1) (by omega) ) (by first | (rw [tC1, if_pos h45]; done) | (rw [tC1, if_neg (by rw [h45]; decide)])) ⟨(by first | with_reducible rfl | (rw [tD, if_pos h45]; done) | (rw [tD, if_neg (by rw [h45]; decide)]; done) | (exact congrArg (fun z => some (Value.int z)) (nI_s1 k))), (by first | with_reducible rfl | (rw [tD, if_pos h45]; done) | (rw [tD, if_neg (by rw [h45]; decide)]; done) | (exact congrArg (fun z => some (Value.int z)) (nI_s1 k))), (by first | with_reducible rfl | (rw [tD, if_pos h45]; done) | (rw [tD, if_neg (by rw [h45]; decide)]; done) | (exact congrArg (fun z => some (Value.int z)) (nI_s1 k))), trivial⟩
      exact G.back (L31 16 0 (Nat.zero_add _) ) rfl ⟨(by first | with_reducible rfl | (rw [tD_0, td1]; done) | rfl), (by first | with_reducible rfl | (rw [tD_0, td1]; done) | rfl), (by first | with_reducible rfl | (rw [tD_0, td1]; done) | rfl), trivial⟩
    | succ n ih =>
      intro k hk
      have hk2 : k < 18 := by omega
      refine G.ildn3 C dX3_digest_6 ?_
      refine G.bipush C 18 dX3_digest_7 (by decide) ?_
      refine G.icmp_ge C 29 dX3_digest_9 (by decide) (fun h => absurd h (nI_ge (b := 18) hk2 (by decide))) (fun _ => ?_)
      refine G.lldn1 C dX3_digest_12 ?_
      refine G.aldn0 C dX3_digest_13 ?_
      refine G.ildn3 C dX3_digest_14 ?_
      refine G.callVI1 C (k_X3_count l (nI_pos (by omega)) (nI_lt (b := 18) hk2 (by omega))) (cwV 1 C.1.2.2.2.2 gX3_digest_X3_count rfl rfl rfl (by decide +kernel) ⟨Nat.le_of_ble_eq_true rfl, Nat.le_of_ble_eq_true rfl⟩) gO_m rfl (Nat.le_of_ble_eq_true rfl) dX3_digest_15 ?_
      refine G.i2l C dX3_digest_18 ?_
      refine G.callSL2 C (k_X3_mix l) (va_cwS 2 C.1.2.2.2.2 gX3_digest_X3_mix rfl rfl rfl (by decide +kernel) ⟨Nat.le_of_ble_eq_true rfl, Nat.le_of_ble_eq_true rfl⟩) (Nat.le_of_ble_eq_true rfl) dX3_digest_19 ?_
      refine G.lstn1 C dX3_digest_22 (by omega) rfl ?_
      refine G.iincN3 C dX3_digest_23 (by omega) rfl ?_
      refine G.goto C 6 dX3_digest_26 (by decide) ?_
      exact G.back (ih (k + 1) (by omega) ) rfl ⟨(by first | with_reducible rfl | (rw [dgF_s (n := k)]; done) | (exact congrArg (fun z => some (Value.int z)) (nI_s1 k))), (by first | with_reducible rfl | (rw [dgF_s (n := k)]; done) | (exact congrArg (fun z => some (Value.int z)) (nI_s1 k))), (by first | with_reducible rfl | (rw [dgF_s (n := k)]; done) | (exact congrArg (fun z => some (Value.int z)) (nI_s1 k))), trivial⟩
  exact G.back (L6 18 0 (Nat.zero_add _) ) rfl ⟨(by first | with_reducible rfl | (rw [dgF_0]; done) | rfl), (by first | with_reducible rfl | (rw [dgF_0]; done) | rfl), (by first | with_reducible rfl | (rw [dgF_0]; done) | rfl), trivial⟩
