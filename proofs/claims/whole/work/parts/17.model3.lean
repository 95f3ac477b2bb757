/-! the model: records, dawn, doves bought, mates -/
theorem mCpy_s0 {d : cSt} {j0 b j1 n : Nat} (h : j1 ≠ j0) : cW (mCpy d j0 b j1 0 n) j0 (b + n) (mCpy d j0 b j1 0 n j1 n) = mCpy d j0 b j1 0 (n + 1) := by
  have := mCpy_s (d := d) (j0 := j0) (b := b) (j1 := j1) (b1 := 0) (n := n) (Or.inl h)
  rw [Nat.zero_add] at this
  exact this
theorem mCpy_s00 {d : cSt} {j0 j1 n : Nat} (h : j1 ≠ j0) : cW (mCpy d j0 0 j1 0 n) j0 n (mCpy d j0 0 j1 0 n j1 n) = mCpy d j0 0 j1 0 (n + 1) := by
  have := mCpy_s0 (d := d) (j0 := j0) (b := 0) (j1 := j1) (n := n) h
  rw [Nat.zero_add] at this
  exact this
theorem mCpy_s1 {d : cSt} {j0 j1 b1 n : Nat} (h : j1 ≠ j0 ∨ 0 ≤ b1) : cW (mCpy d j0 0 j1 b1 n) j0 n (mCpy d j0 0 j1 b1 n j1 (b1 + n)) = mCpy d j0 0 j1 b1 (n + 1) := by
  have := mCpy_s (d := d) (j0 := j0) (b := 0) (j1 := j1) (b1 := b1) (n := n) h
  rw [Nat.zero_add] at this
  exact this
theorem i232 {sv k : Nat} : (232 : Int32) * nI sv + nI k = nI (232 * sv + k) := by
  have e : (232 : Int32) = nI 232 := rfl
  rw [e, pk_mul, nI_add]
theorem i232b {k : Nat} : (232 : Int32) + nI k = nI (232 + k) := by
  have e : (232 : Int32) = nI 232 := rfl
  rw [e, nI_add]
def mRec5 (d : cSt) (sv : Nat) : cSt := cW (mCpy d 3 (232 * sv) 1 0 232) 0 4 (nI (sv + 1))
def mRec (d : cSt) (sv : Nat) : cSt := if sv = 6 then mRec5 (cW (mCpy d 3 0 3 232 1160) 0 4 5) 5 else mRec5 d sv
def mUndo (d : cSt) (sv : Nat) : Int32 × cSt := if sv = 0 then (0, cW d 0 0 1) else (nI (sv - 1), mCpy (cW (cW d 0 0 0) 0 4 (nI (sv - 1))) 1 0 3 (232 * (sv - 1)) 232)
def mRestB (d : cSt) (sv : Nat) : cSt := mCpy (mRec (cW d 0 0 0) sv) 1 0 4 0 232
def mRest (d : cSt) (sv : Nat) : Int32 × cSt := if d 0 6 = 0 then (0, cW d 0 0 1) else (mRestB d sv 1 169, mRestB d sv)
def mKeep (d : cSt) : cSt := cW (mCpy (cW d 0 0 0) 4 0 1 0 232) 0 6 1
def mD1 (d : cSt) : Nat → cSt
  | 0 => d
  | k + 1 => cW (mD1 d k) 1 (174 + k) 0
def mDwI (d : cSt) (k : Nat) : Nat := if 0 ≤ d 1 (9 * k + 3) then (if d 1 (9 * k + 3) = 24 then 176 else if d 1 (9 * k + 3) = d 1 (9 * k + 1) then 174 else 175) else 177
def mDw1 (d : cSt) (k : Nat) : cSt := cW d 1 (mDwI d k) (d 1 (mDwI d k) + 1)
def mDw2 (d : cSt) (k : Nat) : cSt := cW (mDw1 d k) 1 (9 * k + 7) (mDw1 d k 1 (9 * k + 7) + (if 0 ≤ d 1 (9 * k + 3) then 0 else 1))
def mDw3 (d : cSt) (k : Nat) : cSt := cW (mDw2 d k) 1 (9 * k + 8) (mDw2 d k 1 (9 * k + 8) + (if d 1 (9 * k + 3) = d 1 (9 * k + 1) then 1 else 0))
def mDw (d : cSt) (k : Nat) : cSt := cW (mDw3 d k) 1 (9 * k + 3) (-1)
def mD2 (d : cSt) : Nat → cSt
  | 0 => d
  | k + 1 => if mDove (mD2 d k) (nI k) = true then mDw (mD2 d k) k else mD2 d k
def mDawnL (d : cSt) : cSt := mD2 (mD1 d 4) 16
def mDawn (d : cSt) : cSt := cW (cW (mDawnL d) 1 169 (mDawnL d 1 169 + 1)) 1 168 0
def mWhyD (d : cSt) (x : Int32) : Int32 := if mAll d = 16 then 5 else if mOwn d x < 0 then (if mOpen d x = true then 0 else 7) else 6
def mWhyM (d : cSt) (x y : Int32) : Int32 := if x = y then 8 else if 0 ≤ d 1 (9 * ix x + 4) then 9 else if d 1 (9 * ix y + 4) < 0 then 0 else 9
def mWhyS (d : cSt) (x : Int32) : Int32 := if mSit d x < 0 then (if mOpen d x = true then 0 else 4) else 3
def mMate (d : cSt) (x y : Int32) : cSt := cW (cW d 1 (9 * ix x + 4) y) 1 (9 * ix y + 4) x
def mFirstF (d : cSt) : Nat → Nat → Option Nat
  | 0, _ => none
  | n + 1, k => if mDove d (nI k) = true then mFirstF d n (k + 1) else some k
def mZero (d : cSt) (k : Nat) : Nat → cSt
  | 0 => d
  | w + 1 => cW (mZero d k w) 1 (9 * k + w) 0
def mBuyK (d : cSt) (k : Nat) (x y : Int32) : cSt := cW (cW (cW (cW (cW (mZero d k 9) 1 (9 * k) 1) 1 (9 * k + 1) x) 1 (9 * k + 2) y) 1 (9 * k + 3) (-1)) 1 (9 * k + 4) (-1)
theorem mFirstF_lt {d : cSt} : ∀ {n k kf : Nat}, mFirstF d n k = some kf → kf < k + n
  | 0, k, kf, h => by simp [mFirstF] at h
  | n + 1, k, kf, h => by
    unfold mFirstF at h
    split at h
    · have := mFirstF_lt h; omega
    · cases h; omega
set_option maxRecDepth 100000 in
set_option maxHeartbeats 4000000 in
theorem k_X4_record_50 (l : Launch) {E : gEn} {σ : gSt} {π : Nat → Nat} {o : Int64} {d dF : cSt} {sv : Nat} (hs : d 0 4 = nI sv) (h5 : sv ≤ 5) (hd : dF = mRec5 d sv) {p : Program} {e : Env} {s : State} {m : MethodId} {args : Array Value} {below : List Frame} {meth : Method} {cd : Code} (C : gCx p s m cd cX4_record 2 RX4 wsX4_record args E (gA E) ({ frames := 0, cells := 0, slots := 0, locals := 0 } : Room) 0 0) (hrt : meth.sig.returnType = none) (hlk : meth.locks = false) : G p l e ({ frames := 0, cells := 0, slots := 0, locals := 0 } : Room) s m args below meth cd 2 0 0 (gA E) (gQV below args s E (gU σ 10 dF) π o) E (gU σ 10 d) π o 50 [some (.ref (E.2.1 10 0)), none] [] := by
  have hinX4 : ∀ w ∈ wsX40, w ∈ wsX4_record := by decide +kernel
  refine G.iconst C 0 dX4_record_50 (by decide) ?_
  refine G.istn1 C dX4_record_51 (by omega) rfl ?_
  have L52 : ∀ (n k : Nat), k + n = 232 → G p l e ({ frames := 0, cells := 0, slots := 0, locals := 0 } : Room) s m args below meth cd 2 0 0 (gA E) (gQV below args s E (gU σ 10 dF) π o) E (gU σ 10 (mCpy d 3 (232 * sv) 1 0 k)) π o 52 [some (.ref (E.2.1 10 0)), some (.int (nI k))] [] := by
    intro n
    induction n with
    | zero =>
      intro k hk
      obtain rfl : 232 = k := by omega
      refine G.ildn1 C dX4_record_52 ?_
      refine G.sipush C 232 dX4_record_53 (by decide) ?_
      refine G.icmp_ge C 86 dX4_record_56 (by decide) (fun _ => ?_) (fun h => absurd (nI_le (a := 232) (b := 232) (by omega) (by decide)) h)
      refine G.aldn0 C dX4_record_86 ?_
      refine G.dup C dX4_record_87 rfl ?_
      refine G.getD C hinX4 4 (by decide) rfl (C.1.2.2.2.2 (.fieldLink RX4 44 RX4 "saves" "I") (by decide +kernel)) rfl dX4_record_88 ?_
      refine G.topI (nI sv) ((mCpy_ne (by decide)).trans hs) ?_
      refine G.iconst C 1 dX4_record_91 (by decide) ?_
      refine G.iadd C dX4_record_92 ?_
      refine G.topI (nI (sv + 1)) (nI_1 sv) ?_
      refine G.putD (ty := .int) C hinX4 4 (by decide) rfl (C.1.2.2.2.2 (.fieldLink RX4 44 RX4 "saves" "I") (by decide +kernel)) rfl rfl rfl rfl pfX4_4 dX4_record_93 ?_
      exact G.vret C hlk hrt dX4_record_96 (by intro H h; rw [hd]; exact h)
    | succ n ih =>
      intro k hk
      have hk2 : k < 232 := by omega
      refine G.ildn1 C dX4_record_52 ?_
      refine G.sipush C 232 dX4_record_53 (by decide) ?_
      refine G.icmp_ge C 86 dX4_record_56 (by decide) (fun h => absurd h (nI_ge (b := 232) hk2 (by decide))) (fun _ => ?_)
      refine G.aldn0 C dX4_record_59 ?_
      refine G.getD C hinX4 3 (by decide) rfl (C.1.2.2.2.2 (.fieldLink RX4 16 RX4 "saved" "[I") (by decide +kernel)) rfl dX4_record_60 ?_
      refine G.sipush C 232 dX4_record_63 (by decide) ?_
      refine G.aldn0 C dX4_record_66 ?_
      refine G.getD C hinX4 4 (by decide) rfl (C.1.2.2.2.2 (.fieldLink RX4 44 RX4 "saves" "I") (by decide +kernel)) rfl dX4_record_67 ?_
      refine G.topI (nI sv) ((mCpy_ne (by decide)).trans hs) ?_
      refine G.imul C dX4_record_70 ?_
      refine G.ildn1 C dX4_record_71 ?_
      refine G.iadd C dX4_record_72 ?_
      refine G.topI (nI (232 * sv + k)) i232 ?_
      refine G.aldn0 C dX4_record_73 ?_
      refine G.getD C hinX4 1 (by decide) rfl (C.1.2.2.2.2 (.fieldLink RX4 7 RX4 "z" "[I") (by decide +kernel)) rfl dX4_record_74 ?_
      refine G.ildn1 C dX4_record_77 ?_
      refine G.ialdU C (n := 232) (j := 1) (d0 := k) rfl (gV_d (by omega)) (by first | assumption | exact vp_in_nI (by omega) (by omega) | (unfold vp_in; decide)) (ix_nI (by omega)) dX4_record_78 ?_
      refine G.iastU C (n := 1392) (j := 3) (d0 := (232 * sv + k)) rfl (gV_d (by omega)) (by first | assumption | exact vp_in_nI (by omega) (by omega) | (unfold vp_in; decide)) (ix_nI (by omega)) dX4_record_79 ?_
      refine G.iincN1 C dX4_record_80 (by omega) rfl ?_
      refine G.goto C 52 dX4_record_83 (by decide) ?_
      exact G.back (ih (k + 1) (by omega) ) (by rw [mCpy_s0 (by decide)]) ⟨(by first | rfl | simp), (by first | rfl | simp), trivial⟩
  exact G.back (L52 232 0 (Nat.zero_add _) ) (by rw [mCpy_0]) ⟨(by first | rfl | simp), (by first | rfl | simp), trivial⟩
set_option maxRecDepth 100000 in
set_option maxHeartbeats 4000000 in
theorem k_X4_record (l : Launch) {E : gEn} {σ : gSt} {π : Nat → Nat} {o : Int64} {d : cSt} {dF : cSt} {sv : Nat} (hs : d 0 4 = nI sv) (hle : sv ≤ 6) (hd : dF = mRec d sv) : CtV l yX4_record wsX4_record ({ frames := 0, cells := 0, slots := 0, locals := 0 } : Room) E [.ref (E.2.1 10 0)] (gU σ 10 d) π o  (gU σ 10 dF) π o := by
  refine CtV.of (cc := cX4_record) (own := RX4) (maxL := 2) (ret := none) [some (.ref (E.2.1 10 0)), none] (by decide) rfl rfl (Nat.le_of_ble_eq_true rfl) rfl ?_
  intro p e s m args below meth cd C hrt hlk
  have hinX4 : ∀ w ∈ wsX40, w ∈ wsX4_record := by decide +kernel
  refine G.aldn0 C dX4_record_0 ?_
  refine G.getD C hinX4 4 (by decide) rfl (C.1.2.2.2.2 (.fieldLink RX4 44 RX4 "saves" "I") (by decide +kernel)) rfl dX4_record_1 ?_
  refine G.bipush C 6 dX4_record_4 (by decide) ?_
  refine G.icmp_ne C 50 dX4_record_6 (by decide) (fun h6 => ?_) (fun h6 => ?_)
  · exact G.back (k_X4_record_50 l hs (by have : sv ≠ 6 := fun q => h6 (by rw [hs, q]; rfl); omega) (by rw [hd]; unfold mRec; rw [if_neg (fun q => h6 (by rw [hs, q]; rfl))]) C hrt hlk) rfl ⟨rfl, trivial⟩
  · have h6b : d 0 4 = 6 := h6
    have hsv : sv = 6 := (nI_eq (by omega) (by omega)).mp (hs.symm.trans h6)
    refine G.iconst C 0 dX4_record_9 (by decide) ?_
    refine G.istn1 C dX4_record_10 (by omega) rfl ?_
    have L11 : ∀ (n k : Nat), k + n = 1160 → G p l e ({ frames := 0, cells := 0, slots := 0, locals := 0 } : Room) s m args below meth cd 2 0 0 (gA E) (gQV below args s E (gU σ 10 dF) π o) E (gU σ 10 (mCpy d 3 0 3 232 k)) π o 11 [some (.ref (E.2.1 10 0)), some (.int (nI k))] [] := by
      intro n
      induction n with
      | zero =>
        intro k hk
        obtain rfl : 1160 = k := by omega
        refine G.ildn1 C dX4_record_11 ?_
        refine G.sipush C 1160 dX4_record_12 (by decide) ?_
        refine G.icmp_ge C 40 dX4_record_15 (by decide) (fun _ => ?_) (fun h => absurd (nI_le (a := 1160) (b := 1160) (by omega) (by decide)) h)
        refine G.aldn0 C dX4_record_40 ?_
        refine G.dup C dX4_record_41 rfl ?_
        refine G.getD C hinX4 4 (by decide) rfl (C.1.2.2.2.2 (.fieldLink RX4 44 RX4 "saves" "I") (by decide +kernel)) rfl dX4_record_42 ?_
        refine G.topI ((6 : Int32)) ((mCpy_ne (by decide)).trans h6b) ?_
        refine G.iconst C 1 dX4_record_45 (by decide) ?_
        refine G.isub C dX4_record_46 ?_
        refine G.topI ((5 : Int32)) (by decide) ?_
        refine G.putD (ty := .int) C hinX4 4 (by decide) rfl (C.1.2.2.2.2 (.fieldLink RX4 44 RX4 "saves" "I") (by decide +kernel)) rfl rfl rfl rfl pfX4_4 dX4_record_47 ?_
        exact G.back (k_X4_record_50 l (sv := 5) (d := cW (mCpy d 3 0 3 232 1160) 0 4 5) (by simp [cW]; rfl) (by omega) (by rw [hd]; unfold mRec; rw [if_pos hsv]) C hrt hlk) rfl ⟨rfl, trivial⟩
      | succ n ih =>
        intro k hk
        have hk2 : k < 1160 := by omega
        refine G.ildn1 C dX4_record_11 ?_
        refine G.sipush C 1160 dX4_record_12 (by decide) ?_
        refine G.icmp_ge C 40 dX4_record_15 (by decide) (fun h => absurd h (nI_ge (b := 1160) hk2 (by decide))) (fun _ => ?_)
        refine G.aldn0 C dX4_record_18 ?_
        refine G.getD C hinX4 3 (by decide) rfl (C.1.2.2.2.2 (.fieldLink RX4 16 RX4 "saved" "[I") (by decide +kernel)) rfl dX4_record_19 ?_
        refine G.ildn1 C dX4_record_22 ?_
        refine G.aldn0 C dX4_record_23 ?_
        refine G.getD C hinX4 3 (by decide) rfl (C.1.2.2.2.2 (.fieldLink RX4 16 RX4 "saved" "[I") (by decide +kernel)) rfl dX4_record_24 ?_
        refine G.sipush C 232 dX4_record_27 (by decide) ?_
        refine G.ildn1 C dX4_record_30 ?_
        refine G.iadd C dX4_record_31 ?_
        refine G.topI (nI (232 + k)) i232b ?_
        refine G.ialdU C (n := 1392) (j := 3) (d0 := (232 + k)) rfl (gV_d (by omega)) (by first | assumption | exact vp_in_nI (by omega) (by omega) | (unfold vp_in; decide)) (ix_nI (by omega)) dX4_record_32 ?_
        refine G.iastU C (n := 1392) (j := 3) (d0 := k) rfl (gV_d (by omega)) (by first | assumption | exact vp_in_nI (by omega) (by omega) | (unfold vp_in; decide)) (ix_nI (by omega)) dX4_record_33 ?_
        refine G.iincN1 C dX4_record_34 (by omega) rfl ?_
        refine G.goto C 11 dX4_record_37 (by decide) ?_
        exact G.back (ih (k + 1) (by omega) ) (by rw [mCpy_s1 (Or.inr (by omega))]) ⟨(by first | rfl | simp), (by first | rfl | simp), trivial⟩
    exact G.back (L11 1160 0 (Nat.zero_add _) ) (by rw [mCpy_0]) ⟨(by first | rfl | simp), (by first | rfl | simp), trivial⟩
set_option maxRecDepth 100000 in
set_option maxHeartbeats 4000000 in
theorem k_X4_putAside (l : Launch) {E : gEn} {σ : gSt} {π : Nat → Nat} {o : Int64} {d : cSt} : CtV l yX4_putAside wsX4_putAside ({ frames := 0, cells := 0, slots := 0, locals := 0 } : Room) E [.ref (E.2.1 10 0)] (gU σ 10 d) π o  (gU σ 10 (mCpy d 2 0 1 0 232)) π o := by
  refine CtV.of (cc := cX4_putAside) (own := RX4) (maxL := 2) (ret := none) [some (.ref (E.2.1 10 0)), none] (by decide) rfl rfl (Nat.le_of_ble_eq_true rfl) rfl ?_
  intro p e s m args below meth cd C hrt hlk
  have hinX4 : ∀ w ∈ wsX40, w ∈ wsX4_putAside := by decide +kernel
  refine G.iconst C 0 dX4_putAside_0 (by decide) ?_
  refine G.istn1 C dX4_putAside_1 (by omega) rfl ?_
  have L2 : ∀ (n k : Nat), k + n = 232 → G p l e ({ frames := 0, cells := 0, slots := 0, locals := 0 } : Room) s m args below meth cd 2 0 0 (gA E) (gQV below args s E (gU σ 10 (mCpy d 2 0 1 0 232)) π o) E (gU σ 10 (mCpy d 2 0 1 0 k)) π o 2 [some (.ref (E.2.1 10 0)), some (.int (nI k))] [] := by
    intro n
    induction n with
    | zero =>
      intro k hk
      obtain rfl : 232 = k := by omega
      refine G.ildn1 C dX4_putAside_2 ?_
      refine G.sipush C 232 dX4_putAside_3 (by decide) ?_
      refine G.icmp_ge C 27 dX4_putAside_6 (by decide) (fun _ => ?_) (fun h => absurd (nI_le (a := 232) (b := 232) (by omega) (by decide)) h)
      exact G.vret C hlk hrt dX4_putAside_27 (by exact fun _ h => h)
    | succ n ih =>
      intro k hk
      have hk2 : k < 232 := by omega
      refine G.ildn1 C dX4_putAside_2 ?_
      refine G.sipush C 232 dX4_putAside_3 (by decide) ?_
      refine G.icmp_ge C 27 dX4_putAside_6 (by decide) (fun h => absurd h (nI_ge (b := 232) hk2 (by decide))) (fun _ => ?_)
      refine G.aldn0 C dX4_putAside_9 ?_
      refine G.getD C hinX4 2 (by decide) rfl (C.1.2.2.2.2 (.fieldLink RX4 13 RX4 "aside" "[I") (by decide +kernel)) rfl dX4_putAside_10 ?_
      refine G.ildn1 C dX4_putAside_13 ?_
      refine G.aldn0 C dX4_putAside_14 ?_
      refine G.getD C hinX4 1 (by decide) rfl (C.1.2.2.2.2 (.fieldLink RX4 7 RX4 "z" "[I") (by decide +kernel)) rfl dX4_putAside_15 ?_
      refine G.ildn1 C dX4_putAside_18 ?_
      refine G.ialdU C (n := 232) (j := 1) (d0 := k) rfl (gV_d (by omega)) (by first | assumption | exact vp_in_nI (by omega) (by omega) | (unfold vp_in; decide)) (ix_nI (by omega)) dX4_putAside_19 ?_
      refine G.iastU C (n := 232) (j := 2) (d0 := k) rfl (gV_d (by omega)) (by first | assumption | exact vp_in_nI (by omega) (by omega) | (unfold vp_in; decide)) (ix_nI (by omega)) dX4_putAside_20 ?_
      refine G.iincN1 C dX4_putAside_21 (by omega) rfl ?_
      refine G.goto C 2 dX4_putAside_24 (by decide) ?_
      exact G.back (ih (k + 1) (by omega) ) (by rw [mCpy_s00 (by decide)]) ⟨(by first | rfl | simp), (by first | rfl | simp), trivial⟩
  exact G.back (L2 232 0 (Nat.zero_add _) ) (by rw [mCpy_0]) ⟨(by first | rfl | simp), (by first | rfl | simp), trivial⟩
set_option maxRecDepth 100000 in
set_option maxHeartbeats 4000000 in
theorem k_X4_putBack (l : Launch) {E : gEn} {σ : gSt} {π : Nat → Nat} {o : Int64} {d : cSt} : CtV l yX4_putBack wsX4_putBack ({ frames := 0, cells := 0, slots := 0, locals := 0 } : Room) E [.ref (E.2.1 10 0)] (gU σ 10 d) π o  (gU σ 10 (mCpy d 1 0 2 0 232)) π o := by
  refine CtV.of (cc := cX4_putBack) (own := RX4) (maxL := 2) (ret := none) [some (.ref (E.2.1 10 0)), none] (by decide) rfl rfl (Nat.le_of_ble_eq_true rfl) rfl ?_
  intro p e s m args below meth cd C hrt hlk
  have hinX4 : ∀ w ∈ wsX40, w ∈ wsX4_putBack := by decide +kernel
  refine G.iconst C 0 dX4_putBack_0 (by decide) ?_
  refine G.istn1 C dX4_putBack_1 (by omega) rfl ?_
  have L2 : ∀ (n k : Nat), k + n = 232 → G p l e ({ frames := 0, cells := 0, slots := 0, locals := 0 } : Room) s m args below meth cd 2 0 0 (gA E) (gQV below args s E (gU σ 10 (mCpy d 1 0 2 0 232)) π o) E (gU σ 10 (mCpy d 1 0 2 0 k)) π o 2 [some (.ref (E.2.1 10 0)), some (.int (nI k))] [] := by
    intro n
    induction n with
    | zero =>
      intro k hk
      obtain rfl : 232 = k := by omega
      refine G.ildn1 C dX4_putBack_2 ?_
      refine G.sipush C 232 dX4_putBack_3 (by decide) ?_
      refine G.icmp_ge C 27 dX4_putBack_6 (by decide) (fun _ => ?_) (fun h => absurd (nI_le (a := 232) (b := 232) (by omega) (by decide)) h)
      exact G.vret C hlk hrt dX4_putBack_27 (by exact fun _ h => h)
    | succ n ih =>
      intro k hk
      have hk2 : k < 232 := by omega
      refine G.ildn1 C dX4_putBack_2 ?_
      refine G.sipush C 232 dX4_putBack_3 (by decide) ?_
      refine G.icmp_ge C 27 dX4_putBack_6 (by decide) (fun h => absurd h (nI_ge (b := 232) hk2 (by decide))) (fun _ => ?_)
      refine G.aldn0 C dX4_putBack_9 ?_
      refine G.getD C hinX4 1 (by decide) rfl (C.1.2.2.2.2 (.fieldLink RX4 7 RX4 "z" "[I") (by decide +kernel)) rfl dX4_putBack_10 ?_
      refine G.ildn1 C dX4_putBack_13 ?_
      refine G.aldn0 C dX4_putBack_14 ?_
      refine G.getD C hinX4 2 (by decide) rfl (C.1.2.2.2.2 (.fieldLink RX4 13 RX4 "aside" "[I") (by decide +kernel)) rfl dX4_putBack_15 ?_
      refine G.ildn1 C dX4_putBack_18 ?_
      refine G.ialdU C (n := 232) (j := 2) (d0 := k) rfl (gV_d (by omega)) (by first | assumption | exact vp_in_nI (by omega) (by omega) | (unfold vp_in; decide)) (ix_nI (by omega)) dX4_putBack_19 ?_
      refine G.iastU C (n := 232) (j := 1) (d0 := k) rfl (gV_d (by omega)) (by first | assumption | exact vp_in_nI (by omega) (by omega) | (unfold vp_in; decide)) (ix_nI (by omega)) dX4_putBack_20 ?_
      refine G.iincN1 C dX4_putBack_21 (by omega) rfl ?_
      refine G.goto C 2 dX4_putBack_24 (by decide) ?_
      exact G.back (ih (k + 1) (by omega) ) (by rw [mCpy_s00 (by decide)]) ⟨(by first | rfl | simp), (by first | rfl | simp), trivial⟩
  exact G.back (L2 232 0 (Nat.zero_add _) ) (by rw [mCpy_0]) ⟨(by first | rfl | simp), (by first | rfl | simp), trivial⟩
set_option maxRecDepth 100000 in
set_option maxHeartbeats 4000000 in
theorem k_X4_keep (l : Launch) {E : gEn} {σ : gSt} {π : Nat → Nat} {o : Int64} {d : cSt} : CtI l yX4_keep wsX4_keep ({ frames := 0, cells := 0, slots := 0, locals := 0 } : Room) E [.ref (E.2.1 10 0)] (gU σ 10 d) π o (d 1 169) (gU σ 10 (mKeep d)) π o := by
  refine CtI.of (cc := cX4_keep) (own := RX4) (maxL := 2) (ret := (some .int)) [some (.ref (E.2.1 10 0)), none] (by decide) rfl rfl (Nat.le_of_ble_eq_true rfl) rfl ?_
  intro p e s m args below meth cd C hrt hlk
  have hinX4 : ∀ w ∈ wsX40, w ∈ wsX4_keep := by decide +kernel
  refine G.aldn0 C dX4_keep_0 ?_
  refine G.iconst C 0 dX4_keep_1 (by decide) ?_
  refine G.putD (ty := .int) C hinX4 0 (by decide) rfl (C.1.2.2.2.2 (.fieldLink RX4 25 RX4 "thrown" "I") (by decide +kernel)) rfl rfl rfl rfl pfX4_0 dX4_keep_2 ?_
  refine G.iconst C 0 dX4_keep_5 (by decide) ?_
  refine G.istn1 C dX4_keep_6 (by omega) rfl ?_
  have L7 : ∀ (n k : Nat), k + n = 232 → G p l e ({ frames := 0, cells := 0, slots := 0, locals := 0 } : Room) s m args below meth cd 2 0 0 (gA E) (gQI below args s (d 1 169) E (gU σ 10 (mKeep d)) π o) E (gU σ 10 (mCpy (cW d 0 0 0) 4 0 1 0 k)) π o 7 [some (.ref (E.2.1 10 0)), some (.int (nI k))] [] := by
    intro n
    induction n with
    | zero =>
      intro k hk
      obtain rfl : 232 = k := by omega
      refine G.ildn1 C dX4_keep_7 ?_
      refine G.sipush C 232 dX4_keep_8 (by decide) ?_
      refine G.icmp_ge C 32 dX4_keep_11 (by decide) (fun _ => ?_) (fun h => absurd (nI_le (a := 232) (b := 232) (by omega) (by decide)) h)
      refine G.aldn0 C dX4_keep_32 ?_
      refine G.iconst C 1 dX4_keep_33 (by decide) ?_
      refine G.putD (ty := .boolean) C hinX4 6 (by decide) rfl (C.1.2.2.2.2 (.fieldLink RX4 47 RX4 "isKept" "Z") (by decide +kernel)) rfl rfl rfl rfl pfX4_6 dX4_keep_34 ?_
      refine G.aldn0 C dX4_keep_37 ?_
      refine G.getD C hinX4 1 (by decide) rfl (C.1.2.2.2.2 (.fieldLink RX4 7 RX4 "z" "[I") (by decide +kernel)) rfl dX4_keep_38 ?_
      refine G.sipush C 169 dX4_keep_41 (by decide) ?_
      refine G.ialdU C (n := 232) (j := 1) (d0 := 169) rfl (gV_d (by omega)) (by unfold vp_in; decide) (by decide) dX4_keep_44 ?_
      refine G.topI (d 1 169) (by show mCpy (cW d 0 0 0) 4 0 1 0 232 1 169 = _; rw [mCpy_ne (by decide)]; rfl) ?_
      exact G.iret C hlk hrt dX4_keep_45 (by rfl) (by exact fun _ h => h)
    | succ n ih =>
      intro k hk
      have hk2 : k < 232 := by omega
      refine G.ildn1 C dX4_keep_7 ?_
      refine G.sipush C 232 dX4_keep_8 (by decide) ?_
      refine G.icmp_ge C 32 dX4_keep_11 (by decide) (fun h => absurd h (nI_ge (b := 232) hk2 (by decide))) (fun _ => ?_)
      refine G.aldn0 C dX4_keep_14 ?_
      refine G.getD C hinX4 5 (by decide) rfl (C.1.2.2.2.2 (.fieldLink RX4 19 RX4 "kept" "[I") (by decide +kernel)) rfl dX4_keep_15 ?_
      refine G.ildn1 C dX4_keep_18 ?_
      refine G.aldn0 C dX4_keep_19 ?_
      refine G.getD C hinX4 1 (by decide) rfl (C.1.2.2.2.2 (.fieldLink RX4 7 RX4 "z" "[I") (by decide +kernel)) rfl dX4_keep_20 ?_
      refine G.ildn1 C dX4_keep_23 ?_
      refine G.ialdU C (n := 232) (j := 1) (d0 := k) rfl (gV_d (by omega)) (by first | assumption | exact vp_in_nI (by omega) (by omega) | (unfold vp_in; decide)) (ix_nI (by omega)) dX4_keep_24 ?_
      refine G.iastU C (n := 232) (j := 4) (d0 := k) rfl (gV_d (by omega)) (by first | assumption | exact vp_in_nI (by omega) (by omega) | (unfold vp_in; decide)) (ix_nI (by omega)) dX4_keep_25 ?_
      refine G.iincN1 C dX4_keep_26 (by omega) rfl ?_
      refine G.goto C 7 dX4_keep_29 (by decide) ?_
      exact G.back (ih (k + 1) (by omega) ) (by rw [mCpy_s00 (by decide)]) ⟨(by first | rfl | simp), (by first | rfl | simp), trivial⟩
  exact G.back (L7 232 0 (Nat.zero_add _) ) (by rw [mCpy_0]) ⟨(by first | rfl | simp), (by first | rfl | simp), trivial⟩
set_option maxRecDepth 100000 in
set_option maxHeartbeats 4000000 in
theorem k_X4_undo (l : Launch) {E : gEn} {σ : gSt} {π : Nat → Nat} {o : Int64} {d : cSt} {r : Int32} {dF : cSt} {sv : Nat} (hs : d 0 4 = nI sv) (hle : sv ≤ 6) (hF : (r, dF) = mUndo d sv) : CtI l yX4_undo wsX4_undo ({ frames := 0, cells := 0, slots := 0, locals := 0 } : Room) E [.ref (E.2.1 10 0)] (gU σ 10 d) π o (r) (gU σ 10 dF) π o := by
  refine CtI.of (cc := cX4_undo) (own := RX4) (maxL := 2) (ret := (some .int)) [some (.ref (E.2.1 10 0)), none] (by decide) rfl rfl (Nat.le_of_ble_eq_true rfl) rfl ?_
  intro p e s m args below meth cd C hrt hlk
  have hinX4 : ∀ w ∈ wsX40, w ∈ wsX4_undo := by decide +kernel
  refine G.aldn0 C dX4_undo_0 ?_
  refine G.aldn0 C dX4_undo_1 ?_
  refine G.getD C hinX4 4 (by decide) rfl (C.1.2.2.2.2 (.fieldLink RX4 44 RX4 "saves" "I") (by decide +kernel)) rfl dX4_undo_2 ?_
  refine G.if_ne C 12 dX4_undo_5 (by decide) (fun h5 => ?_) (fun h5 => ?_)
  · have hz : sv ≠ 0 := fun q => h5 (by rw [hs, q]; rfl)
    refine G.iconst C 0 dX4_undo_12 (by decide) ?_
    refine G.putD (ty := .int) C hinX4 0 (by decide) rfl (C.1.2.2.2.2 (.fieldLink RX4 25 RX4 "thrown" "I") (by decide +kernel)) rfl rfl rfl rfl pfX4_0 dX4_undo_13 ?_
    refine G.aldn0 C dX4_undo_16 ?_
    refine G.getD C hinX4 0 (by decide) rfl (C.1.2.2.2.2 (.fieldLink RX4 25 RX4 "thrown" "I") (by decide +kernel)) rfl dX4_undo_17 ?_
    refine G.topI (0) rfl ?_
    refine G.if_le C 25 dX4_undo_20 (by decide) (fun _ => ?_) (fun h => absurd (by decide) h)
    refine G.aldn0 C dX4_undo_25 ?_
    refine G.dup C dX4_undo_26 rfl ?_
    refine G.getD C hinX4 4 (by decide) rfl (C.1.2.2.2.2 (.fieldLink RX4 44 RX4 "saves" "I") (by decide +kernel)) rfl dX4_undo_27 ?_
    refine G.topI (nI sv) hs ?_
    refine G.iconst C 1 dX4_undo_30 (by decide) ?_
    refine G.isub C dX4_undo_31 ?_
    refine G.topI (nI (sv - 1)) (by obtain ⟨z, rfl⟩ : ∃ z, sv = z + 1 := ⟨sv - 1, by omega⟩; exact nI_pred z) ?_
    refine G.putD (ty := .int) C hinX4 4 (by decide) rfl (C.1.2.2.2.2 (.fieldLink RX4 44 RX4 "saves" "I") (by decide +kernel)) rfl rfl rfl rfl pfX4_4 dX4_undo_32 ?_
    refine G.iconst C 0 dX4_undo_35 (by decide) ?_
    refine G.istn1 C dX4_undo_36 (by omega) rfl ?_
    have L37 : ∀ (n k : Nat), k + n = 232 → G p l e ({ frames := 0, cells := 0, slots := 0, locals := 0 } : Room) s m args below meth cd 2 0 0 (gA E) (gQI below args s (r) E (gU σ 10 dF) π o) E (gU σ 10 (mCpy (cW (cW d 0 0 0) 0 4 (nI (sv - 1))) 1 0 3 (232 * (sv - 1)) k)) π o 37 [some (.ref (E.2.1 10 0)), some (.int (nI k))] [] := by
      intro n
      induction n with
      | zero =>
        intro k hk
        obtain rfl : 232 = k := by omega
        refine G.ildn1 C dX4_undo_37 ?_
        refine G.sipush C 232 dX4_undo_38 (by decide) ?_
        refine G.icmp_ge C 71 dX4_undo_41 (by decide) (fun _ => ?_) (fun h => absurd (nI_le (a := 232) (b := 232) (by omega) (by decide)) h)
        refine G.aldn0 C dX4_undo_71 ?_
        refine G.getD C hinX4 4 (by decide) rfl (C.1.2.2.2.2 (.fieldLink RX4 44 RX4 "saves" "I") (by decide +kernel)) rfl dX4_undo_72 ?_
        refine G.topI (nI (sv - 1)) ((mCpy_ne (by decide)).trans rfl) ?_
        exact G.iret C hlk hrt dX4_undo_75 (by exact (congrArg Prod.fst (hF.trans (if_neg hz))).symm) (by intro H h; rw [show dF = _ from congrArg Prod.snd (hF.trans (if_neg hz))]; exact h)
      | succ n ih =>
        intro k hk
        have hk2 : k < 232 := by omega
        refine G.ildn1 C dX4_undo_37 ?_
        refine G.sipush C 232 dX4_undo_38 (by decide) ?_
        refine G.icmp_ge C 71 dX4_undo_41 (by decide) (fun h => absurd h (nI_ge (b := 232) hk2 (by decide))) (fun _ => ?_)
        refine G.aldn0 C dX4_undo_44 ?_
        refine G.getD C hinX4 1 (by decide) rfl (C.1.2.2.2.2 (.fieldLink RX4 7 RX4 "z" "[I") (by decide +kernel)) rfl dX4_undo_45 ?_
        refine G.ildn1 C dX4_undo_48 ?_
        refine G.aldn0 C dX4_undo_49 ?_
        refine G.getD C hinX4 3 (by decide) rfl (C.1.2.2.2.2 (.fieldLink RX4 16 RX4 "saved" "[I") (by decide +kernel)) rfl dX4_undo_50 ?_
        refine G.sipush C 232 dX4_undo_53 (by decide) ?_
        refine G.aldn0 C dX4_undo_56 ?_
        refine G.getD C hinX4 4 (by decide) rfl (C.1.2.2.2.2 (.fieldLink RX4 44 RX4 "saves" "I") (by decide +kernel)) rfl dX4_undo_57 ?_
        refine G.topI (nI (sv - 1)) ((mCpy_ne (by decide)).trans rfl) ?_
        refine G.imul C dX4_undo_60 ?_
        refine G.ildn1 C dX4_undo_61 ?_
        refine G.iadd C dX4_undo_62 ?_
        refine G.topI (nI (232 * (sv - 1) + k)) i232 ?_
        refine G.ialdU C (n := 1392) (j := 3) (d0 := (232 * (sv - 1) + k)) rfl (gV_d (by omega)) (by first | assumption | exact vp_in_nI (by omega) (by omega) | (unfold vp_in; decide)) (ix_nI (by omega)) dX4_undo_63 ?_
        refine G.iastU C (n := 232) (j := 1) (d0 := k) rfl (gV_d (by omega)) (by first | assumption | exact vp_in_nI (by omega) (by omega) | (unfold vp_in; decide)) (ix_nI (by omega)) dX4_undo_64 ?_
        refine G.iincN1 C dX4_undo_65 (by omega) rfl ?_
        refine G.goto C 37 dX4_undo_68 (by decide) ?_
        exact G.back (ih (k + 1) (by omega) ) (by rw [mCpy_s1 (Or.inl (by decide))]) ⟨(by first | rfl | simp), (by first | rfl | simp), trivial⟩
    exact G.back (L37 232 0 (Nat.zero_add _) ) (by rw [mCpy_0]) ⟨(by first | rfl | simp), (by first | rfl | simp), trivial⟩
  · have hz : sv = 0 := (nI_eq (by omega) (by omega)).mp (hs.symm.trans h5)
    refine G.iconst C 1 dX4_undo_8 (by decide) ?_
    refine G.goto C 13 dX4_undo_9 (by decide) ?_
    refine G.putD (ty := .int) C hinX4 0 (by decide) rfl (C.1.2.2.2.2 (.fieldLink RX4 25 RX4 "thrown" "I") (by decide +kernel)) rfl rfl rfl rfl pfX4_0 dX4_undo_13 ?_
    refine G.aldn0 C dX4_undo_16 ?_
    refine G.getD C hinX4 0 (by decide) rfl (C.1.2.2.2.2 (.fieldLink RX4 25 RX4 "thrown" "I") (by decide +kernel)) rfl dX4_undo_17 ?_
    refine G.topI (1) rfl ?_
    refine G.if_le C 25 dX4_undo_20 (by decide) (fun h => absurd h (by decide)) (fun _ => ?_)
    refine G.iconst C 0 dX4_undo_23 (by decide) ?_
    exact G.iret C hlk hrt dX4_undo_24 (by rw [show r = 0 from congrArg Prod.fst (hF.trans (if_pos hz))]) (by intro H h; rw [show dF = _ from congrArg Prod.snd (hF.trans (if_pos hz))]; exact h)
set_option maxRecDepth 100000 in
set_option maxHeartbeats 4000000 in
theorem k_X4_restore (l : Launch) {E : gEn} {σ : gSt} {π : Nat → Nat} {o : Int64} {d : cSt} {r : Int32} {dF : cSt} {sv : Nat} (hs : d 0 4 = nI sv) (hle : sv ≤ 6) (hF : (r, dF) = mRest d sv) : CtI l yX4_restore wsX4_restore ({ frames := 1, cells := 0, slots := 0, locals := 21 } : Room) E [.ref (E.2.1 10 0)] (gU σ 10 d) π o (r) (gU σ 10 dF) π o := by
  refine CtI.of (cc := cX4_restore) (own := RX4) (maxL := 2) (ret := (some .int)) [some (.ref (E.2.1 10 0)), none] (by decide) rfl rfl (Nat.le_of_ble_eq_true rfl) rfl ?_
  intro p e s m args below meth cd C hrt hlk
  have hinX4 : ∀ w ∈ wsX40, w ∈ wsX4_restore := by decide +kernel
  refine G.aldn0 C dX4_restore_0 ?_
  refine G.aldn0 C dX4_restore_1 ?_
  refine G.getD C hinX4 6 (by decide) rfl (C.1.2.2.2.2 (.fieldLink RX4 47 RX4 "isKept" "Z") (by decide +kernel)) rfl dX4_restore_2 ?_
  refine G.if_eq C 12 dX4_restore_5 (by decide) (fun h5 => ?_) (fun h5 => ?_)
  · refine G.iconst C 1 dX4_restore_12 (by decide) ?_
    refine G.putD (ty := .int) C hinX4 0 (by decide) rfl (C.1.2.2.2.2 (.fieldLink RX4 25 RX4 "thrown" "I") (by decide +kernel)) rfl rfl rfl rfl pfX4_0 dX4_restore_13 ?_
    refine G.aldn0 C dX4_restore_16 ?_
    refine G.getD C hinX4 0 (by decide) rfl (C.1.2.2.2.2 (.fieldLink RX4 25 RX4 "thrown" "I") (by decide +kernel)) rfl dX4_restore_17 ?_
    refine G.topI (1) rfl ?_
    refine G.if_le C 25 dX4_restore_20 (by decide) (fun h => absurd h (by decide)) (fun _ => ?_)
    refine G.iconst C 0 dX4_restore_23 (by decide) ?_
    exact G.iret C hlk hrt dX4_restore_24 (by rw [show r = 0 from congrArg Prod.fst (hF.trans (if_pos h5))]) (by intro H h; rw [show dF = _ from congrArg Prod.snd (hF.trans (if_pos h5))]; exact h)
  · refine G.iconst C 0 dX4_restore_8 (by decide) ?_
    refine G.goto C 13 dX4_restore_9 (by decide) ?_
    refine G.putD (ty := .int) C hinX4 0 (by decide) rfl (C.1.2.2.2.2 (.fieldLink RX4 25 RX4 "thrown" "I") (by decide +kernel)) rfl rfl rfl rfl pfX4_0 dX4_restore_13 ?_
    refine G.aldn0 C dX4_restore_16 ?_
    refine G.getD C hinX4 0 (by decide) rfl (C.1.2.2.2.2 (.fieldLink RX4 25 RX4 "thrown" "I") (by decide +kernel)) rfl dX4_restore_17 ?_
    refine G.topI (0) rfl ?_
    refine G.if_le C 25 dX4_restore_20 (by decide) (fun _ => ?_) (fun h => absurd (by decide) h)
    refine G.aldn0 C dX4_restore_25 ?_
    refine G.callVV0 C (k_X4_record l (d := cW d 0 0 0) hs hle rfl) (cwV 0 C.1.2.2.2.2 gX4_restore_X4_record rfl rfl rfl (by decide +kernel) ⟨Nat.le_of_ble_eq_true rfl, Nat.le_of_ble_eq_true rfl⟩) gO_d rfl (Nat.le_of_ble_eq_true rfl) dX4_restore_26 ?_
    refine G.iconst C 0 dX4_restore_29 (by decide) ?_
    refine G.istn1 C dX4_restore_30 (by omega) rfl ?_
    have L31 : ∀ (n k : Nat), k + n = 232 → G p l e ({ frames := 1, cells := 0, slots := 0, locals := 21 } : Room) s m args below meth cd 2 0 0 (gA E) (gQI below args s (r) E (gU σ 10 dF) π o) E (gU σ 10 (mCpy (mRec (cW d 0 0 0) sv) 1 0 4 0 k)) π o 31 [some (.ref (E.2.1 10 0)), some (.int (nI k))] [] := by
      intro n
      induction n with
      | zero =>
        intro k hk
        obtain rfl : 232 = k := by omega
        refine G.ildn1 C dX4_restore_31 ?_
        refine G.sipush C 232 dX4_restore_32 (by decide) ?_
        refine G.icmp_ge C 56 dX4_restore_35 (by decide) (fun _ => ?_) (fun h => absurd (nI_le (a := 232) (b := 232) (by omega) (by decide)) h)
        refine G.aldn0 C dX4_restore_56 ?_
        refine G.getD C hinX4 1 (by decide) rfl (C.1.2.2.2.2 (.fieldLink RX4 7 RX4 "z" "[I") (by decide +kernel)) rfl dX4_restore_57 ?_
        refine G.sipush C 169 dX4_restore_60 (by decide) ?_
        refine G.ialdU C (n := 232) (j := 1) (d0 := 169) rfl (gV_d (by omega)) (by unfold vp_in; decide) (by decide) dX4_restore_63 ?_
        exact G.iret C hlk hrt dX4_restore_64 (by exact (congrArg Prod.fst (hF.trans (if_neg h5))).symm) (by intro H h; rw [show dF = _ from congrArg Prod.snd (hF.trans (if_neg h5))]; exact h)
      | succ n ih =>
        intro k hk
        have hk2 : k < 232 := by omega
        refine G.ildn1 C dX4_restore_31 ?_
        refine G.sipush C 232 dX4_restore_32 (by decide) ?_
        refine G.icmp_ge C 56 dX4_restore_35 (by decide) (fun h => absurd h (nI_ge (b := 232) hk2 (by decide))) (fun _ => ?_)
        refine G.aldn0 C dX4_restore_38 ?_
        refine G.getD C hinX4 1 (by decide) rfl (C.1.2.2.2.2 (.fieldLink RX4 7 RX4 "z" "[I") (by decide +kernel)) rfl dX4_restore_39 ?_
        refine G.ildn1 C dX4_restore_42 ?_
        refine G.aldn0 C dX4_restore_43 ?_
        refine G.getD C hinX4 5 (by decide) rfl (C.1.2.2.2.2 (.fieldLink RX4 19 RX4 "kept" "[I") (by decide +kernel)) rfl dX4_restore_44 ?_
        refine G.ildn1 C dX4_restore_47 ?_
        refine G.ialdU C (n := 232) (j := 4) (d0 := k) rfl (gV_d (by omega)) (by first | assumption | exact vp_in_nI (by omega) (by omega) | (unfold vp_in; decide)) (ix_nI (by omega)) dX4_restore_48 ?_
        refine G.iastU C (n := 232) (j := 1) (d0 := k) rfl (gV_d (by omega)) (by first | assumption | exact vp_in_nI (by omega) (by omega) | (unfold vp_in; decide)) (ix_nI (by omega)) dX4_restore_49 ?_
        refine G.iincN1 C dX4_restore_50 (by omega) rfl ?_
        refine G.goto C 31 dX4_restore_53 (by decide) ?_
        exact G.back (ih (k + 1) (by omega) ) (by rw [mCpy_s00 (by decide)]) ⟨(by first | rfl | simp), (by first | rfl | simp), trivial⟩
    exact G.back (L31 232 0 (Nat.zero_add _) ) (by rw [mCpy_0]) ⟨(by first | rfl | simp), (by first | rfl | simp), trivial⟩
set_option maxRecDepth 100000 in
set_option maxHeartbeats 4000000 in
theorem k_X4_doDawn (l : Launch) {E : gEn} {σ : gSt} {π : Nat → Nat} {o : Int64} {d : cSt} : CtI l yX4_doDawn wsX4_doDawn ({ frames := 3, cells := 0, slots := 0, locals := 67 } : Room) E [.ref (E.2.1 10 0)] (gU σ 10 d) π o (mAt d 0 23) (gU σ 10 (mDawn d)) π o := by
  refine CtI.of (cc := cX4_doDawn) (own := RX4) (maxL := 5) (ret := (some .int)) [some (.ref (E.2.1 10 0)), none, none, none, none] (by decide) rfl rfl (Nat.le_of_ble_eq_true rfl) rfl ?_
  intro p e s m args below meth cd C hrt hlk
  have hinX4 : ∀ w ∈ wsX40, w ∈ wsX4_doDawn := by decide +kernel
  refine G.aldn0 C dX4_doDawn_0 ?_
  refine G.iconst C 0 dX4_doDawn_1 (by decide) ?_
  refine G.bipush C 23 dX4_doDawn_2 (by decide) ?_
  refine G.callVI2 C (k_X4_dovesAt l) (cwV 2 C.1.2.2.2.2 gX4_doDawn_X4_dovesAt rfl rfl rfl (by decide +kernel) ⟨Nat.le_of_ble_eq_true rfl, Nat.le_of_ble_eq_true rfl⟩) gO_d rfl (Nat.le_of_ble_eq_true rfl) dX4_doDawn_4 ?_
  refine G.istn1 C dX4_doDawn_7 (by omega) rfl ?_
  refine G.iconst C 0 dX4_doDawn_8 (by decide) ?_
  refine G.istn2 C dX4_doDawn_9 (by omega) rfl ?_
  have L10 : ∀ (n k : Nat), k + n = 4 → G p l e ({ frames := 3, cells := 0, slots := 0, locals := 67 } : Room) s m args below meth cd 5 0 0 (gA E) (gQI below args s (mAt d 0 23) E (gU σ 10 (mDawn d)) π o) E (gU σ 10 (mD1 d k)) π o 10 [some (.ref (E.2.1 10 0)), some (.int (mAt d 0 23)), some (.int (nI k)), none, none] [] := by
    intro n
    induction n with
    | zero =>
      intro k hk
      obtain rfl : 4 = k := by omega
      refine G.ildn2 C dX4_doDawn_10 ?_
      refine G.iconst C 4 dX4_doDawn_11 (by decide) ?_
      refine G.icmp_ge C 32 dX4_doDawn_12 (by decide) (fun _ => ?_) (fun h => absurd (nI_le (a := 4) (b := 4) (by omega) (by decide)) h)
      refine G.iconst C 0 dX4_doDawn_32 (by decide) ?_
      refine G.istn2 C dX4_doDawn_33 (by omega) rfl ?_
      have L34 : ∀ (n k : Nat), k + n = 16 → G p l e ({ frames := 3, cells := 0, slots := 0, locals := 67 } : Room) s m args below meth cd 5 0 0 (gA E) (gQI below args s (mAt d 0 23) E (gU σ 10 (mDawn d)) π o) E (gU σ 10 (mD2 (mD1 d 4) k)) π o 34 [some (.ref (E.2.1 10 0)), some (.int (mAt d 0 23)), some (.int (nI k)), none, none] [] := by
        intro n
        induction n with
        | zero =>
          intro k hk
          obtain rfl : 16 = k := by omega
          refine G.ildn2 C dX4_doDawn_34 ?_
          refine G.bipush C 16 dX4_doDawn_35 (by decide) ?_
          refine G.icmp_ge C 175 dX4_doDawn_37 (by decide) (fun _ => ?_) (fun h => absurd (nI_le (a := 16) (b := 16) (by omega) (by decide)) h)
          refine G.aldn0 C dX4_doDawn_175 ?_
          refine G.getD C hinX4 1 (by decide) rfl (C.1.2.2.2.2 (.fieldLink RX4 7 RX4 "z" "[I") (by decide +kernel)) rfl dX4_doDawn_176 ?_
          refine G.sipush C 169 dX4_doDawn_179 (by decide) ?_
          refine G.dup2 C dX4_doDawn_182 rfl rfl ?_
          refine G.ialdU C (n := 232) (j := 1) (d0 := 169) rfl (gV_d (by omega)) (by unfold vp_in; decide) (by decide) dX4_doDawn_183 ?_
          refine G.iconst C 1 dX4_doDawn_184 (by decide) ?_
          refine G.iadd C dX4_doDawn_185 ?_
          refine G.iastU C (n := 232) (j := 1) (d0 := 169) rfl (gV_d (by omega)) (by unfold vp_in; decide) (by decide) dX4_doDawn_186 ?_
          refine G.aldn0 C dX4_doDawn_187 ?_
          refine G.getD C hinX4 1 (by decide) rfl (C.1.2.2.2.2 (.fieldLink RX4 7 RX4 "z" "[I") (by decide +kernel)) rfl dX4_doDawn_188 ?_
          refine G.sipush C 168 dX4_doDawn_191 (by decide) ?_
          refine G.iconst C 0 dX4_doDawn_194 (by decide) ?_
          refine G.iastU C (n := 232) (j := 1) (d0 := 168) rfl (gV_d (by omega)) (by unfold vp_in; decide) (by decide) dX4_doDawn_195 ?_
          refine G.ildn1 C dX4_doDawn_196 ?_
          exact G.iret C hlk hrt dX4_doDawn_197 (by rfl) (by intro H h; unfold mDawn mDawnL; exact h)
        | succ n ih =>
          intro k hk
          have hk2 : k < 16 := by omega
          refine G.ildn2 C dX4_doDawn_34 ?_
          refine G.bipush C 16 dX4_doDawn_35 (by decide) ?_
          refine G.icmp_ge C 175 dX4_doDawn_37 (by decide) (fun h => absurd h (nI_ge (b := 16) hk2 (by decide))) (fun _ => ?_)
          refine G.aldn0 C dX4_doDawn_40 ?_
          refine G.ildn2 C dX4_doDawn_41 ?_
          refine G.callVI1 C (k_X4_isDove l) (cwV 1 C.1.2.2.2.2 gX4_doDawn_X4_isDove rfl rfl rfl (by decide +kernel) ⟨Nat.le_of_ble_eq_true rfl, Nat.le_of_ble_eq_true rfl⟩) gO_d rfl (Nat.le_of_ble_eq_true rfl) dX4_doDawn_42 ?_
          refine G.if_eqB C 169 dX4_doDawn_45 (by decide) (fun h45 => ?_) (fun h45 => ?_)
          · refine G.iincN2 C dX4_doDawn_169 (by omega) rfl ?_
            refine G.goto C 34 dX4_doDawn_172 (by decide) ?_
            exact G.back (ih (k + 1) (by omega) ) (by first | (simp [mD2, h45]; done) | (simp only [mD2, mDw, mDw1, mDw2, mDw3, mDwI, ])) ⟨(by first | rfl | simp), (by first | rfl | simp), (by first | rfl | simp), trivial⟩
          · refine G.aldn0 C dX4_doDawn_48 ?_
            refine G.ildn2 C dX4_doDawn_49 ?_
            refine G.iconst C 3 dX4_doDawn_50 (by decide) ?_
            refine G.callVI2 C (k_X4_of l (w := 3) (q := 9 * k + 3) (by first | assumption | exact vp_in_nI (by omega) (by omega) | exact mDove_in (by assumption) | exact mSit_in (by assumption)) (by omega) (by rw [ix_nI (by omega)])) (cwV 2 C.1.2.2.2.2 gX4_doDawn_X4_of rfl rfl rfl (by decide +kernel) ⟨Nat.le_of_ble_eq_true rfl, Nat.le_of_ble_eq_true rfl⟩) gO_d rfl (Nat.le_of_ble_eq_true rfl) dX4_doDawn_51 ?_
            refine G.istn3 C dX4_doDawn_54 (by omega) rfl ?_
            refine G.ildn3 C dX4_doDawn_55 ?_
            refine G.aldn0 C dX4_doDawn_56 ?_
            refine G.ildn2 C dX4_doDawn_57 ?_
            refine G.iconst C 1 dX4_doDawn_58 (by decide) ?_
            refine G.callVI2 C (k_X4_of l (w := 1) (q := 9 * k + 1) (by first | assumption | exact vp_in_nI (by omega) (by omega) | exact mDove_in (by assumption) | exact mSit_in (by assumption)) (by omega) (by rw [ix_nI (by omega)])) (cwV 2 C.1.2.2.2.2 gX4_doDawn_X4_of rfl rfl rfl (by decide +kernel) ⟨Nat.le_of_ble_eq_true rfl, Nat.le_of_ble_eq_true rfl⟩) gO_d rfl (Nat.le_of_ble_eq_true rfl) dX4_doDawn_59 ?_
            refine G.icmp_ne C 69 dX4_doDawn_62 (by decide) (fun h62 => ?_) (fun h62 => ?_)
            · refine G.iconst C 0 dX4_doDawn_69 (by decide) ?_
              refine G.ist4 C dX4_doDawn_70 (by omega) rfl ?_
              refine G.aldn0 C dX4_doDawn_72 ?_
              refine G.getD C hinX4 1 (by decide) rfl (C.1.2.2.2.2 (.fieldLink RX4 7 RX4 "z" "[I") (by decide +kernel)) rfl dX4_doDawn_73 ?_
              refine G.sipush C 174 dX4_doDawn_76 (by decide) ?_
              refine G.ildn3 C dX4_doDawn_79 ?_
              refine G.if_ge C 87 dX4_doDawn_80 (by decide) (fun h80 => ?_) (fun h80 => ?_)
              · refine G.ildn3 C dX4_doDawn_87 ?_
                refine G.bipush C 24 dX4_doDawn_88 (by decide) ?_
                refine G.icmp_ne C 97 dX4_doDawn_90 (by decide) (fun h90 => ?_) (fun h90 => ?_)
                · refine G.ild4 C dX4_doDawn_97 ?_
                  refine G.if_eq C 106 dX4_doDawn_99 (by decide) (fun _ => ?_) (fun h => absurd (by decide) h)
                  refine G.iconst C 1 dX4_doDawn_106 (by decide) ?_
                  refine G.iadd C dX4_doDawn_107 ?_
                  refine G.topI (175) (by decide) ?_
                  refine G.dup2 C dX4_doDawn_108 rfl rfl ?_
                  refine G.ialdU C (n := 232) (j := 1) (d0 := 175) rfl (gV_d (by omega)) (by unfold vp_in; decide) (by decide) dX4_doDawn_109 ?_
                  refine G.iconst C 1 dX4_doDawn_110 (by decide) ?_
                  refine G.iadd C dX4_doDawn_111 ?_
                  refine G.iastU C (n := 232) (j := 1) (d0 := 175) rfl (gV_d (by omega)) (by unfold vp_in; decide) (by decide) dX4_doDawn_112 ?_
                  refine G.aldn0 C dX4_doDawn_113 ?_
                  refine G.ildn2 C dX4_doDawn_114 ?_
                  refine G.bipush C 7 dX4_doDawn_115 (by decide) ?_
                  refine G.aldn0 C dX4_doDawn_117 ?_
                  refine G.ildn2 C dX4_doDawn_118 ?_
                  refine G.bipush C 7 dX4_doDawn_119 (by decide) ?_
                  refine G.callVI2 C (k_X4_of l (w := 7) (q := 9 * k + 7) (by first | assumption | exact vp_in_nI (by omega) (by omega) | exact mDove_in (by assumption) | exact mSit_in (by assumption)) (by omega) (by rw [ix_nI (by omega)])) (cwV 2 C.1.2.2.2.2 gX4_doDawn_X4_of rfl rfl rfl (by decide +kernel) ⟨Nat.le_of_ble_eq_true rfl, Nat.le_of_ble_eq_true rfl⟩) gO_d rfl (Nat.le_of_ble_eq_true rfl) dX4_doDawn_121 ?_
                  refine G.ildn3 C dX4_doDawn_124 ?_
                  refine G.if_ge C 132 dX4_doDawn_125 (by decide) (fun h125 => ?_) (fun h125 => absurd (h80) h125)
                  refine G.iconst C 0 dX4_doDawn_132 (by decide) ?_
                  refine G.iadd C dX4_doDawn_133 ?_
                  refine G.callVV3 C (k_X4_put l (w := 7) (q := 9 * k + 7) (by first | assumption | exact vp_in_nI (by omega) (by omega) | exact mDove_in (by assumption) | exact mSit_in (by assumption)) (by omega) (by rw [ix_nI (by omega)])) (cwV 3 C.1.2.2.2.2 gX4_doDawn_X4_put rfl rfl rfl (by decide +kernel) ⟨Nat.le_of_ble_eq_true rfl, Nat.le_of_ble_eq_true rfl⟩) gO_d rfl (Nat.le_of_ble_eq_true rfl) dX4_doDawn_134 ?_
                  refine G.aldn0 C dX4_doDawn_137 ?_
                  refine G.ildn2 C dX4_doDawn_138 ?_
                  refine G.bipush C 8 dX4_doDawn_139 (by decide) ?_
                  refine G.aldn0 C dX4_doDawn_141 ?_
                  refine G.ildn2 C dX4_doDawn_142 ?_
                  refine G.bipush C 8 dX4_doDawn_143 (by decide) ?_
                  refine G.callVI2 C (k_X4_of l (w := 8) (q := 9 * k + 8) (by first | assumption | exact vp_in_nI (by omega) (by omega) | exact mDove_in (by assumption) | exact mSit_in (by assumption)) (by omega) (by rw [ix_nI (by omega)])) (cwV 2 C.1.2.2.2.2 gX4_doDawn_X4_of rfl rfl rfl (by decide +kernel) ⟨Nat.le_of_ble_eq_true rfl, Nat.le_of_ble_eq_true rfl⟩) gO_d rfl (Nat.le_of_ble_eq_true rfl) dX4_doDawn_145 ?_
                  refine G.ild4 C dX4_doDawn_148 ?_
                  refine G.if_eq C 157 dX4_doDawn_150 (by decide) (fun _ => ?_) (fun h => absurd (by decide) h)
                  refine G.iconst C 0 dX4_doDawn_157 (by decide) ?_
                  refine G.iadd C dX4_doDawn_158 ?_
                  refine G.callVV3 C (k_X4_put l (w := 8) (q := 9 * k + 8) (by first | assumption | exact vp_in_nI (by omega) (by omega) | exact mDove_in (by assumption) | exact mSit_in (by assumption)) (by omega) (by rw [ix_nI (by omega)])) (cwV 3 C.1.2.2.2.2 gX4_doDawn_X4_put rfl rfl rfl (by decide +kernel) ⟨Nat.le_of_ble_eq_true rfl, Nat.le_of_ble_eq_true rfl⟩) gO_d rfl (Nat.le_of_ble_eq_true rfl) dX4_doDawn_159 ?_
                  refine G.aldn0 C dX4_doDawn_162 ?_
                  refine G.ildn2 C dX4_doDawn_163 ?_
                  refine G.iconst C 3 dX4_doDawn_164 (by decide) ?_
                  refine G.iconst C (-1) dX4_doDawn_165 (by decide) ?_
                  refine G.callVV3 C (k_X4_put l (w := 3) (q := 9 * k + 3) (by first | assumption | exact vp_in_nI (by omega) (by omega) | exact mDove_in (by assumption) | exact mSit_in (by assumption)) (by omega) (by rw [ix_nI (by omega)])) (cwV 3 C.1.2.2.2.2 gX4_doDawn_X4_put rfl rfl rfl (by decide +kernel) ⟨Nat.le_of_ble_eq_true rfl, Nat.le_of_ble_eq_true rfl⟩) gO_d rfl (Nat.le_of_ble_eq_true rfl) dX4_doDawn_166 ?_
                  refine G.iincN2 C dX4_doDawn_169 (by omega) rfl ?_
                  refine G.goto C 34 dX4_doDawn_172 (by decide) ?_
                  exact G.back (ih (k + 1) (by omega) ) (by first | (simp [mD2, h45]; done) | (simp only [mD2, mDw, mDw1, mDw2, mDw3, mDwI, if_pos h45, if_neg h62, if_pos h80, if_neg h90, if_pos h125])) ⟨(by first | rfl | simp), (by first | rfl | simp), (by first | rfl | simp), trivial⟩
                · refine G.iconst C 2 dX4_doDawn_93 (by decide) ?_
                  refine G.goto C 107 dX4_doDawn_94 (by decide) ?_
                  refine G.iadd C dX4_doDawn_107 ?_
                  refine G.topI (176) (by decide) ?_
                  refine G.dup2 C dX4_doDawn_108 rfl rfl ?_
                  refine G.ialdU C (n := 232) (j := 1) (d0 := 176) rfl (gV_d (by omega)) (by unfold vp_in; decide) (by decide) dX4_doDawn_109 ?_
                  refine G.iconst C 1 dX4_doDawn_110 (by decide) ?_
                  refine G.iadd C dX4_doDawn_111 ?_
                  refine G.iastU C (n := 232) (j := 1) (d0 := 176) rfl (gV_d (by omega)) (by unfold vp_in; decide) (by decide) dX4_doDawn_112 ?_
                  refine G.aldn0 C dX4_doDawn_113 ?_
                  refine G.ildn2 C dX4_doDawn_114 ?_
                  refine G.bipush C 7 dX4_doDawn_115 (by decide) ?_
                  refine G.aldn0 C dX4_doDawn_117 ?_
                  refine G.ildn2 C dX4_doDawn_118 ?_
                  refine G.bipush C 7 dX4_doDawn_119 (by decide) ?_
                  refine G.callVI2 C (k_X4_of l (w := 7) (q := 9 * k + 7) (by first | assumption | exact vp_in_nI (by omega) (by omega) | exact mDove_in (by assumption) | exact mSit_in (by assumption)) (by omega) (by rw [ix_nI (by omega)])) (cwV 2 C.1.2.2.2.2 gX4_doDawn_X4_of rfl rfl rfl (by decide +kernel) ⟨Nat.le_of_ble_eq_true rfl, Nat.le_of_ble_eq_true rfl⟩) gO_d rfl (Nat.le_of_ble_eq_true rfl) dX4_doDawn_121 ?_
                  refine G.ildn3 C dX4_doDawn_124 ?_
                  refine G.if_ge C 132 dX4_doDawn_125 (by decide) (fun h125 => ?_) (fun h125 => absurd (h80) h125)
                  refine G.iconst C 0 dX4_doDawn_132 (by decide) ?_
                  refine G.iadd C dX4_doDawn_133 ?_
                  refine G.callVV3 C (k_X4_put l (w := 7) (q := 9 * k + 7) (by first | assumption | exact vp_in_nI (by omega) (by omega) | exact mDove_in (by assumption) | exact mSit_in (by assumption)) (by omega) (by rw [ix_nI (by omega)])) (cwV 3 C.1.2.2.2.2 gX4_doDawn_X4_put rfl rfl rfl (by decide +kernel) ⟨Nat.le_of_ble_eq_true rfl, Nat.le_of_ble_eq_true rfl⟩) gO_d rfl (Nat.le_of_ble_eq_true rfl) dX4_doDawn_134 ?_
                  refine G.aldn0 C dX4_doDawn_137 ?_
                  refine G.ildn2 C dX4_doDawn_138 ?_
                  refine G.bipush C 8 dX4_doDawn_139 (by decide) ?_
                  refine G.aldn0 C dX4_doDawn_141 ?_
                  refine G.ildn2 C dX4_doDawn_142 ?_
                  refine G.bipush C 8 dX4_doDawn_143 (by decide) ?_
                  refine G.callVI2 C (k_X4_of l (w := 8) (q := 9 * k + 8) (by first | assumption | exact vp_in_nI (by omega) (by omega) | exact mDove_in (by assumption) | exact mSit_in (by assumption)) (by omega) (by rw [ix_nI (by omega)])) (cwV 2 C.1.2.2.2.2 gX4_doDawn_X4_of rfl rfl rfl (by decide +kernel) ⟨Nat.le_of_ble_eq_true rfl, Nat.le_of_ble_eq_true rfl⟩) gO_d rfl (Nat.le_of_ble_eq_true rfl) dX4_doDawn_145 ?_
                  refine G.ild4 C dX4_doDawn_148 ?_
                  refine G.if_eq C 157 dX4_doDawn_150 (by decide) (fun _ => ?_) (fun h => absurd (by decide) h)
                  refine G.iconst C 0 dX4_doDawn_157 (by decide) ?_
                  refine G.iadd C dX4_doDawn_158 ?_
                  refine G.callVV3 C (k_X4_put l (w := 8) (q := 9 * k + 8) (by first | assumption | exact vp_in_nI (by omega) (by omega) | exact mDove_in (by assumption) | exact mSit_in (by assumption)) (by omega) (by rw [ix_nI (by omega)])) (cwV 3 C.1.2.2.2.2 gX4_doDawn_X4_put rfl rfl rfl (by decide +kernel) ⟨Nat.le_of_ble_eq_true rfl, Nat.le_of_ble_eq_true rfl⟩) gO_d rfl (Nat.le_of_ble_eq_true rfl) dX4_doDawn_159 ?_
                  refine G.aldn0 C dX4_doDawn_162 ?_
                  refine G.ildn2 C dX4_doDawn_163 ?_
                  refine G.iconst C 3 dX4_doDawn_164 (by decide) ?_
                  refine G.iconst C (-1) dX4_doDawn_165 (by decide) ?_
                  refine G.callVV3 C (k_X4_put l (w := 3) (q := 9 * k + 3) (by first | assumption | exact vp_in_nI (by omega) (by omega) | exact mDove_in (by assumption) | exact mSit_in (by assumption)) (by omega) (by rw [ix_nI (by omega)])) (cwV 3 C.1.2.2.2.2 gX4_doDawn_X4_put rfl rfl rfl (by decide +kernel) ⟨Nat.le_of_ble_eq_true rfl, Nat.le_of_ble_eq_true rfl⟩) gO_d rfl (Nat.le_of_ble_eq_true rfl) dX4_doDawn_166 ?_
                  refine G.iincN2 C dX4_doDawn_169 (by omega) rfl ?_
                  refine G.goto C 34 dX4_doDawn_172 (by decide) ?_
                  exact G.back (ih (k + 1) (by omega) ) (by first | (simp [mD2, h45]; done) | (simp only [mD2, mDw, mDw1, mDw2, mDw3, mDwI, if_pos h45, if_neg h62, if_pos h80, if_pos h90, if_pos h125])) ⟨(by first | rfl | simp), (by first | rfl | simp), (by first | rfl | simp), trivial⟩
              · refine G.iconst C 3 dX4_doDawn_83 (by decide) ?_
                refine G.goto C 107 dX4_doDawn_84 (by decide) ?_
                refine G.iadd C dX4_doDawn_107 ?_
                refine G.topI (177) (by decide) ?_
                refine G.dup2 C dX4_doDawn_108 rfl rfl ?_
                refine G.ialdU C (n := 232) (j := 1) (d0 := 177) rfl (gV_d (by omega)) (by unfold vp_in; decide) (by decide) dX4_doDawn_109 ?_
                refine G.iconst C 1 dX4_doDawn_110 (by decide) ?_
                refine G.iadd C dX4_doDawn_111 ?_
                refine G.iastU C (n := 232) (j := 1) (d0 := 177) rfl (gV_d (by omega)) (by unfold vp_in; decide) (by decide) dX4_doDawn_112 ?_
                refine G.aldn0 C dX4_doDawn_113 ?_
                refine G.ildn2 C dX4_doDawn_114 ?_
                refine G.bipush C 7 dX4_doDawn_115 (by decide) ?_
                refine G.aldn0 C dX4_doDawn_117 ?_
                refine G.ildn2 C dX4_doDawn_118 ?_
                refine G.bipush C 7 dX4_doDawn_119 (by decide) ?_
                refine G.callVI2 C (k_X4_of l (w := 7) (q := 9 * k + 7) (by first | assumption | exact vp_in_nI (by omega) (by omega) | exact mDove_in (by assumption) | exact mSit_in (by assumption)) (by omega) (by rw [ix_nI (by omega)])) (cwV 2 C.1.2.2.2.2 gX4_doDawn_X4_of rfl rfl rfl (by decide +kernel) ⟨Nat.le_of_ble_eq_true rfl, Nat.le_of_ble_eq_true rfl⟩) gO_d rfl (Nat.le_of_ble_eq_true rfl) dX4_doDawn_121 ?_
                refine G.ildn3 C dX4_doDawn_124 ?_
                refine G.if_ge C 132 dX4_doDawn_125 (by decide) (fun h125 => absurd h125 (h80)) (fun h125 => ?_)
                refine G.iconst C 1 dX4_doDawn_128 (by decide) ?_
                refine G.goto C 133 dX4_doDawn_129 (by decide) ?_
                refine G.iadd C dX4_doDawn_133 ?_
                refine G.callVV3 C (k_X4_put l (w := 7) (q := 9 * k + 7) (by first | assumption | exact vp_in_nI (by omega) (by omega) | exact mDove_in (by assumption) | exact mSit_in (by assumption)) (by omega) (by rw [ix_nI (by omega)])) (cwV 3 C.1.2.2.2.2 gX4_doDawn_X4_put rfl rfl rfl (by decide +kernel) ⟨Nat.le_of_ble_eq_true rfl, Nat.le_of_ble_eq_true rfl⟩) gO_d rfl (Nat.le_of_ble_eq_true rfl) dX4_doDawn_134 ?_
                refine G.aldn0 C dX4_doDawn_137 ?_
                refine G.ildn2 C dX4_doDawn_138 ?_
                refine G.bipush C 8 dX4_doDawn_139 (by decide) ?_
                refine G.aldn0 C dX4_doDawn_141 ?_
                refine G.ildn2 C dX4_doDawn_142 ?_
                refine G.bipush C 8 dX4_doDawn_143 (by decide) ?_
                refine G.callVI2 C (k_X4_of l (w := 8) (q := 9 * k + 8) (by first | assumption | exact vp_in_nI (by omega) (by omega) | exact mDove_in (by assumption) | exact mSit_in (by assumption)) (by omega) (by rw [ix_nI (by omega)])) (cwV 2 C.1.2.2.2.2 gX4_doDawn_X4_of rfl rfl rfl (by decide +kernel) ⟨Nat.le_of_ble_eq_true rfl, Nat.le_of_ble_eq_true rfl⟩) gO_d rfl (Nat.le_of_ble_eq_true rfl) dX4_doDawn_145 ?_
                refine G.ild4 C dX4_doDawn_148 ?_
                refine G.if_eq C 157 dX4_doDawn_150 (by decide) (fun _ => ?_) (fun h => absurd (by decide) h)
                refine G.iconst C 0 dX4_doDawn_157 (by decide) ?_
                refine G.iadd C dX4_doDawn_158 ?_
                refine G.callVV3 C (k_X4_put l (w := 8) (q := 9 * k + 8) (by first | assumption | exact vp_in_nI (by omega) (by omega) | exact mDove_in (by assumption) | exact mSit_in (by assumption)) (by omega) (by rw [ix_nI (by omega)])) (cwV 3 C.1.2.2.2.2 gX4_doDawn_X4_put rfl rfl rfl (by decide +kernel) ⟨Nat.le_of_ble_eq_true rfl, Nat.le_of_ble_eq_true rfl⟩) gO_d rfl (Nat.le_of_ble_eq_true rfl) dX4_doDawn_159 ?_
                refine G.aldn0 C dX4_doDawn_162 ?_
                refine G.ildn2 C dX4_doDawn_163 ?_
                refine G.iconst C 3 dX4_doDawn_164 (by decide) ?_
                refine G.iconst C (-1) dX4_doDawn_165 (by decide) ?_
                refine G.callVV3 C (k_X4_put l (w := 3) (q := 9 * k + 3) (by first | assumption | exact vp_in_nI (by omega) (by omega) | exact mDove_in (by assumption) | exact mSit_in (by assumption)) (by omega) (by rw [ix_nI (by omega)])) (cwV 3 C.1.2.2.2.2 gX4_doDawn_X4_put rfl rfl rfl (by decide +kernel) ⟨Nat.le_of_ble_eq_true rfl, Nat.le_of_ble_eq_true rfl⟩) gO_d rfl (Nat.le_of_ble_eq_true rfl) dX4_doDawn_166 ?_
                refine G.iincN2 C dX4_doDawn_169 (by omega) rfl ?_
                refine G.goto C 34 dX4_doDawn_172 (by decide) ?_
                exact G.back (ih (k + 1) (by omega) ) (by first | (simp [mD2, h45]; done) | (simp only [mD2, mDw, mDw1, mDw2, mDw3, mDwI, if_pos h45, if_neg h62, if_neg h80, if_neg h125])) ⟨(by first | rfl | simp), (by first | rfl | simp), (by first | rfl | simp), trivial⟩
            · refine G.iconst C 1 dX4_doDawn_65 (by decide) ?_
              refine G.goto C 70 dX4_doDawn_66 (by decide) ?_
              refine G.ist4 C dX4_doDawn_70 (by omega) rfl ?_
              refine G.aldn0 C dX4_doDawn_72 ?_
              refine G.getD C hinX4 1 (by decide) rfl (C.1.2.2.2.2 (.fieldLink RX4 7 RX4 "z" "[I") (by decide +kernel)) rfl dX4_doDawn_73 ?_
              refine G.sipush C 174 dX4_doDawn_76 (by decide) ?_
              refine G.ildn3 C dX4_doDawn_79 ?_
              refine G.if_ge C 87 dX4_doDawn_80 (by decide) (fun h80 => ?_) (fun h80 => ?_)
              · refine G.ildn3 C dX4_doDawn_87 ?_
                refine G.bipush C 24 dX4_doDawn_88 (by decide) ?_
                refine G.icmp_ne C 97 dX4_doDawn_90 (by decide) (fun h90 => ?_) (fun h90 => ?_)
                · refine G.ild4 C dX4_doDawn_97 ?_
                  refine G.if_eq C 106 dX4_doDawn_99 (by decide) (fun h => absurd h (by decide)) (fun _ => ?_)
                  refine G.iconst C 0 dX4_doDawn_102 (by decide) ?_
                  refine G.goto C 107 dX4_doDawn_103 (by decide) ?_
                  refine G.iadd C dX4_doDawn_107 ?_
                  refine G.topI (174) (by decide) ?_
                  refine G.dup2 C dX4_doDawn_108 rfl rfl ?_
                  refine G.ialdU C (n := 232) (j := 1) (d0 := 174) rfl (gV_d (by omega)) (by unfold vp_in; decide) (by decide) dX4_doDawn_109 ?_
                  refine G.iconst C 1 dX4_doDawn_110 (by decide) ?_
                  refine G.iadd C dX4_doDawn_111 ?_
                  refine G.iastU C (n := 232) (j := 1) (d0 := 174) rfl (gV_d (by omega)) (by unfold vp_in; decide) (by decide) dX4_doDawn_112 ?_
                  refine G.aldn0 C dX4_doDawn_113 ?_
                  refine G.ildn2 C dX4_doDawn_114 ?_
                  refine G.bipush C 7 dX4_doDawn_115 (by decide) ?_
                  refine G.aldn0 C dX4_doDawn_117 ?_
                  refine G.ildn2 C dX4_doDawn_118 ?_
                  refine G.bipush C 7 dX4_doDawn_119 (by decide) ?_
                  refine G.callVI2 C (k_X4_of l (w := 7) (q := 9 * k + 7) (by first | assumption | exact vp_in_nI (by omega) (by omega) | exact mDove_in (by assumption) | exact mSit_in (by assumption)) (by omega) (by rw [ix_nI (by omega)])) (cwV 2 C.1.2.2.2.2 gX4_doDawn_X4_of rfl rfl rfl (by decide +kernel) ⟨Nat.le_of_ble_eq_true rfl, Nat.le_of_ble_eq_true rfl⟩) gO_d rfl (Nat.le_of_ble_eq_true rfl) dX4_doDawn_121 ?_
                  refine G.ildn3 C dX4_doDawn_124 ?_
                  refine G.if_ge C 132 dX4_doDawn_125 (by decide) (fun h125 => ?_) (fun h125 => absurd (h80) h125)
                  refine G.iconst C 0 dX4_doDawn_132 (by decide) ?_
                  refine G.iadd C dX4_doDawn_133 ?_
                  refine G.callVV3 C (k_X4_put l (w := 7) (q := 9 * k + 7) (by first | assumption | exact vp_in_nI (by omega) (by omega) | exact mDove_in (by assumption) | exact mSit_in (by assumption)) (by omega) (by rw [ix_nI (by omega)])) (cwV 3 C.1.2.2.2.2 gX4_doDawn_X4_put rfl rfl rfl (by decide +kernel) ⟨Nat.le_of_ble_eq_true rfl, Nat.le_of_ble_eq_true rfl⟩) gO_d rfl (Nat.le_of_ble_eq_true rfl) dX4_doDawn_134 ?_
                  refine G.aldn0 C dX4_doDawn_137 ?_
                  refine G.ildn2 C dX4_doDawn_138 ?_
                  refine G.bipush C 8 dX4_doDawn_139 (by decide) ?_
                  refine G.aldn0 C dX4_doDawn_141 ?_
                  refine G.ildn2 C dX4_doDawn_142 ?_
                  refine G.bipush C 8 dX4_doDawn_143 (by decide) ?_
                  refine G.callVI2 C (k_X4_of l (w := 8) (q := 9 * k + 8) (by first | assumption | exact vp_in_nI (by omega) (by omega) | exact mDove_in (by assumption) | exact mSit_in (by assumption)) (by omega) (by rw [ix_nI (by omega)])) (cwV 2 C.1.2.2.2.2 gX4_doDawn_X4_of rfl rfl rfl (by decide +kernel) ⟨Nat.le_of_ble_eq_true rfl, Nat.le_of_ble_eq_true rfl⟩) gO_d rfl (Nat.le_of_ble_eq_true rfl) dX4_doDawn_145 ?_
                  refine G.ild4 C dX4_doDawn_148 ?_
                  refine G.if_eq C 157 dX4_doDawn_150 (by decide) (fun h => absurd h (by decide)) (fun _ => ?_)
                  refine G.iconst C 1 dX4_doDawn_153 (by decide) ?_
                  refine G.goto C 158 dX4_doDawn_154 (by decide) ?_
                  refine G.iadd C dX4_doDawn_158 ?_
                  refine G.callVV3 C (k_X4_put l (w := 8) (q := 9 * k + 8) (by first | assumption | exact vp_in_nI (by omega) (by omega) | exact mDove_in (by assumption) | exact mSit_in (by assumption)) (by omega) (by rw [ix_nI (by omega)])) (cwV 3 C.1.2.2.2.2 gX4_doDawn_X4_put rfl rfl rfl (by decide +kernel) ⟨Nat.le_of_ble_eq_true rfl, Nat.le_of_ble_eq_true rfl⟩) gO_d rfl (Nat.le_of_ble_eq_true rfl) dX4_doDawn_159 ?_
                  refine G.aldn0 C dX4_doDawn_162 ?_
                  refine G.ildn2 C dX4_doDawn_163 ?_
                  refine G.iconst C 3 dX4_doDawn_164 (by decide) ?_
                  refine G.iconst C (-1) dX4_doDawn_165 (by decide) ?_
                  refine G.callVV3 C (k_X4_put l (w := 3) (q := 9 * k + 3) (by first | assumption | exact vp_in_nI (by omega) (by omega) | exact mDove_in (by assumption) | exact mSit_in (by assumption)) (by omega) (by rw [ix_nI (by omega)])) (cwV 3 C.1.2.2.2.2 gX4_doDawn_X4_put rfl rfl rfl (by decide +kernel) ⟨Nat.le_of_ble_eq_true rfl, Nat.le_of_ble_eq_true rfl⟩) gO_d rfl (Nat.le_of_ble_eq_true rfl) dX4_doDawn_166 ?_
                  refine G.iincN2 C dX4_doDawn_169 (by omega) rfl ?_
                  refine G.goto C 34 dX4_doDawn_172 (by decide) ?_
                  exact G.back (ih (k + 1) (by omega) ) (by first | (simp [mD2, h45]; done) | (simp only [mD2, mDw, mDw1, mDw2, mDw3, mDwI, if_pos h45, if_pos h62, if_pos h80, if_neg h90, if_pos h125])) ⟨(by first | rfl | simp), (by first | rfl | simp), (by first | rfl | simp), trivial⟩
                · refine G.iconst C 2 dX4_doDawn_93 (by decide) ?_
                  refine G.goto C 107 dX4_doDawn_94 (by decide) ?_
                  refine G.iadd C dX4_doDawn_107 ?_
                  refine G.topI (176) (by decide) ?_
                  refine G.dup2 C dX4_doDawn_108 rfl rfl ?_
                  refine G.ialdU C (n := 232) (j := 1) (d0 := 176) rfl (gV_d (by omega)) (by unfold vp_in; decide) (by decide) dX4_doDawn_109 ?_
                  refine G.iconst C 1 dX4_doDawn_110 (by decide) ?_
                  refine G.iadd C dX4_doDawn_111 ?_
                  refine G.iastU C (n := 232) (j := 1) (d0 := 176) rfl (gV_d (by omega)) (by unfold vp_in; decide) (by decide) dX4_doDawn_112 ?_
                  refine G.aldn0 C dX4_doDawn_113 ?_
                  refine G.ildn2 C dX4_doDawn_114 ?_
                  refine G.bipush C 7 dX4_doDawn_115 (by decide) ?_
                  refine G.aldn0 C dX4_doDawn_117 ?_
                  refine G.ildn2 C dX4_doDawn_118 ?_
                  refine G.bipush C 7 dX4_doDawn_119 (by decide) ?_
                  refine G.callVI2 C (k_X4_of l (w := 7) (q := 9 * k + 7) (by first | assumption | exact vp_in_nI (by omega) (by omega) | exact mDove_in (by assumption) | exact mSit_in (by assumption)) (by omega) (by rw [ix_nI (by omega)])) (cwV 2 C.1.2.2.2.2 gX4_doDawn_X4_of rfl rfl rfl (by decide +kernel) ⟨Nat.le_of_ble_eq_true rfl, Nat.le_of_ble_eq_true rfl⟩) gO_d rfl (Nat.le_of_ble_eq_true rfl) dX4_doDawn_121 ?_
                  refine G.ildn3 C dX4_doDawn_124 ?_
                  refine G.if_ge C 132 dX4_doDawn_125 (by decide) (fun h125 => ?_) (fun h125 => absurd (h80) h125)
                  refine G.iconst C 0 dX4_doDawn_132 (by decide) ?_
                  refine G.iadd C dX4_doDawn_133 ?_
                  refine G.callVV3 C (k_X4_put l (w := 7) (q := 9 * k + 7) (by first | assumption | exact vp_in_nI (by omega) (by omega) | exact mDove_in (by assumption) | exact mSit_in (by assumption)) (by omega) (by rw [ix_nI (by omega)])) (cwV 3 C.1.2.2.2.2 gX4_doDawn_X4_put rfl rfl rfl (by decide +kernel) ⟨Nat.le_of_ble_eq_true rfl, Nat.le_of_ble_eq_true rfl⟩) gO_d rfl (Nat.le_of_ble_eq_true rfl) dX4_doDawn_134 ?_
                  refine G.aldn0 C dX4_doDawn_137 ?_
                  refine G.ildn2 C dX4_doDawn_138 ?_
                  refine G.bipush C 8 dX4_doDawn_139 (by decide) ?_
                  refine G.aldn0 C dX4_doDawn_141 ?_
                  refine G.ildn2 C dX4_doDawn_142 ?_
                  refine G.bipush C 8 dX4_doDawn_143 (by decide) ?_
                  refine G.callVI2 C (k_X4_of l (w := 8) (q := 9 * k + 8) (by first | assumption | exact vp_in_nI (by omega) (by omega) | exact mDove_in (by assumption) | exact mSit_in (by assumption)) (by omega) (by rw [ix_nI (by omega)])) (cwV 2 C.1.2.2.2.2 gX4_doDawn_X4_of rfl rfl rfl (by decide +kernel) ⟨Nat.le_of_ble_eq_true rfl, Nat.le_of_ble_eq_true rfl⟩) gO_d rfl (Nat.le_of_ble_eq_true rfl) dX4_doDawn_145 ?_
                  refine G.ild4 C dX4_doDawn_148 ?_
                  refine G.if_eq C 157 dX4_doDawn_150 (by decide) (fun h => absurd h (by decide)) (fun _ => ?_)
                  refine G.iconst C 1 dX4_doDawn_153 (by decide) ?_
                  refine G.goto C 158 dX4_doDawn_154 (by decide) ?_
                  refine G.iadd C dX4_doDawn_158 ?_
                  refine G.callVV3 C (k_X4_put l (w := 8) (q := 9 * k + 8) (by first | assumption | exact vp_in_nI (by omega) (by omega) | exact mDove_in (by assumption) | exact mSit_in (by assumption)) (by omega) (by rw [ix_nI (by omega)])) (cwV 3 C.1.2.2.2.2 gX4_doDawn_X4_put rfl rfl rfl (by decide +kernel) ⟨Nat.le_of_ble_eq_true rfl, Nat.le_of_ble_eq_true rfl⟩) gO_d rfl (Nat.le_of_ble_eq_true rfl) dX4_doDawn_159 ?_
                  refine G.aldn0 C dX4_doDawn_162 ?_
                  refine G.ildn2 C dX4_doDawn_163 ?_
                  refine G.iconst C 3 dX4_doDawn_164 (by decide) ?_
                  refine G.iconst C (-1) dX4_doDawn_165 (by decide) ?_
                  refine G.callVV3 C (k_X4_put l (w := 3) (q := 9 * k + 3) (by first | assumption | exact vp_in_nI (by omega) (by omega) | exact mDove_in (by assumption) | exact mSit_in (by assumption)) (by omega) (by rw [ix_nI (by omega)])) (cwV 3 C.1.2.2.2.2 gX4_doDawn_X4_put rfl rfl rfl (by decide +kernel) ⟨Nat.le_of_ble_eq_true rfl, Nat.le_of_ble_eq_true rfl⟩) gO_d rfl (Nat.le_of_ble_eq_true rfl) dX4_doDawn_166 ?_
                  refine G.iincN2 C dX4_doDawn_169 (by omega) rfl ?_
                  refine G.goto C 34 dX4_doDawn_172 (by decide) ?_
                  exact G.back (ih (k + 1) (by omega) ) (by first | (simp [mD2, h45]; done) | (simp only [mD2, mDw, mDw1, mDw2, mDw3, mDwI, if_pos h45, if_pos h62, if_pos h80, if_pos h90, if_pos h125])) ⟨(by first | rfl | simp), (by first | rfl | simp), (by first | rfl | simp), trivial⟩
              · refine G.iconst C 3 dX4_doDawn_83 (by decide) ?_
                refine G.goto C 107 dX4_doDawn_84 (by decide) ?_
                refine G.iadd C dX4_doDawn_107 ?_
                refine G.topI (177) (by decide) ?_
                refine G.dup2 C dX4_doDawn_108 rfl rfl ?_
                refine G.ialdU C (n := 232) (j := 1) (d0 := 177) rfl (gV_d (by omega)) (by unfold vp_in; decide) (by decide) dX4_doDawn_109 ?_
                refine G.iconst C 1 dX4_doDawn_110 (by decide) ?_
                refine G.iadd C dX4_doDawn_111 ?_
                refine G.iastU C (n := 232) (j := 1) (d0 := 177) rfl (gV_d (by omega)) (by unfold vp_in; decide) (by decide) dX4_doDawn_112 ?_
                refine G.aldn0 C dX4_doDawn_113 ?_
                refine G.ildn2 C dX4_doDawn_114 ?_
                refine G.bipush C 7 dX4_doDawn_115 (by decide) ?_
                refine G.aldn0 C dX4_doDawn_117 ?_
                refine G.ildn2 C dX4_doDawn_118 ?_
                refine G.bipush C 7 dX4_doDawn_119 (by decide) ?_
                refine G.callVI2 C (k_X4_of l (w := 7) (q := 9 * k + 7) (by first | assumption | exact vp_in_nI (by omega) (by omega) | exact mDove_in (by assumption) | exact mSit_in (by assumption)) (by omega) (by rw [ix_nI (by omega)])) (cwV 2 C.1.2.2.2.2 gX4_doDawn_X4_of rfl rfl rfl (by decide +kernel) ⟨Nat.le_of_ble_eq_true rfl, Nat.le_of_ble_eq_true rfl⟩) gO_d rfl (Nat.le_of_ble_eq_true rfl) dX4_doDawn_121 ?_
                refine G.ildn3 C dX4_doDawn_124 ?_
                refine G.if_ge C 132 dX4_doDawn_125 (by decide) (fun h125 => absurd h125 (h80)) (fun h125 => ?_)
                refine G.iconst C 1 dX4_doDawn_128 (by decide) ?_
                refine G.goto C 133 dX4_doDawn_129 (by decide) ?_
                refine G.iadd C dX4_doDawn_133 ?_
                refine G.callVV3 C (k_X4_put l (w := 7) (q := 9 * k + 7) (by first | assumption | exact vp_in_nI (by omega) (by omega) | exact mDove_in (by assumption) | exact mSit_in (by assumption)) (by omega) (by rw [ix_nI (by omega)])) (cwV 3 C.1.2.2.2.2 gX4_doDawn_X4_put rfl rfl rfl (by decide +kernel) ⟨Nat.le_of_ble_eq_true rfl, Nat.le_of_ble_eq_true rfl⟩) gO_d rfl (Nat.le_of_ble_eq_true rfl) dX4_doDawn_134 ?_
                refine G.aldn0 C dX4_doDawn_137 ?_
                refine G.ildn2 C dX4_doDawn_138 ?_
                refine G.bipush C 8 dX4_doDawn_139 (by decide) ?_
                refine G.aldn0 C dX4_doDawn_141 ?_
                refine G.ildn2 C dX4_doDawn_142 ?_
                refine G.bipush C 8 dX4_doDawn_143 (by decide) ?_
                refine G.callVI2 C (k_X4_of l (w := 8) (q := 9 * k + 8) (by first | assumption | exact vp_in_nI (by omega) (by omega) | exact mDove_in (by assumption) | exact mSit_in (by assumption)) (by omega) (by rw [ix_nI (by omega)])) (cwV 2 C.1.2.2.2.2 gX4_doDawn_X4_of rfl rfl rfl (by decide +kernel) ⟨Nat.le_of_ble_eq_true rfl, Nat.le_of_ble_eq_true rfl⟩) gO_d rfl (Nat.le_of_ble_eq_true rfl) dX4_doDawn_145 ?_
                refine G.ild4 C dX4_doDawn_148 ?_
                refine G.if_eq C 157 dX4_doDawn_150 (by decide) (fun h => absurd h (by decide)) (fun _ => ?_)
                refine G.iconst C 1 dX4_doDawn_153 (by decide) ?_
                refine G.goto C 158 dX4_doDawn_154 (by decide) ?_
                refine G.iadd C dX4_doDawn_158 ?_
                refine G.callVV3 C (k_X4_put l (w := 8) (q := 9 * k + 8) (by first | assumption | exact vp_in_nI (by omega) (by omega) | exact mDove_in (by assumption) | exact mSit_in (by assumption)) (by omega) (by rw [ix_nI (by omega)])) (cwV 3 C.1.2.2.2.2 gX4_doDawn_X4_put rfl rfl rfl (by decide +kernel) ⟨Nat.le_of_ble_eq_true rfl, Nat.le_of_ble_eq_true rfl⟩) gO_d rfl (Nat.le_of_ble_eq_true rfl) dX4_doDawn_159 ?_
                refine G.aldn0 C dX4_doDawn_162 ?_
                refine G.ildn2 C dX4_doDawn_163 ?_
                refine G.iconst C 3 dX4_doDawn_164 (by decide) ?_
                refine G.iconst C (-1) dX4_doDawn_165 (by decide) ?_
                refine G.callVV3 C (k_X4_put l (w := 3) (q := 9 * k + 3) (by first | assumption | exact vp_in_nI (by omega) (by omega) | exact mDove_in (by assumption) | exact mSit_in (by assumption)) (by omega) (by rw [ix_nI (by omega)])) (cwV 3 C.1.2.2.2.2 gX4_doDawn_X4_put rfl rfl rfl (by decide +kernel) ⟨Nat.le_of_ble_eq_true rfl, Nat.le_of_ble_eq_true rfl⟩) gO_d rfl (Nat.le_of_ble_eq_true rfl) dX4_doDawn_166 ?_
                refine G.iincN2 C dX4_doDawn_169 (by omega) rfl ?_
                refine G.goto C 34 dX4_doDawn_172 (by decide) ?_
                exact G.back (ih (k + 1) (by omega) ) (by first | (simp [mD2, h45]; done) | (simp only [mD2, mDw, mDw1, mDw2, mDw3, mDwI, if_pos h45, if_pos h62, if_neg h80, if_neg h125])) ⟨(by first | rfl | simp), (by first | rfl | simp), (by first | rfl | simp), trivial⟩
      exact G.back (L34 16 0 (Nat.zero_add _) ) rfl ⟨(by first | rfl | simp), (by first | rfl | simp), (by first | rfl | simp), trivial⟩
    | succ n ih =>
      intro k hk
      have hk2 : k < 4 := by omega
      refine G.ildn2 C dX4_doDawn_10 ?_
      refine G.iconst C 4 dX4_doDawn_11 (by decide) ?_
      refine G.icmp_ge C 32 dX4_doDawn_12 (by decide) (fun h => absurd h (nI_ge (b := 4) hk2 (by decide))) (fun _ => ?_)
      refine G.aldn0 C dX4_doDawn_15 ?_
      refine G.getD C hinX4 1 (by decide) rfl (C.1.2.2.2.2 (.fieldLink RX4 7 RX4 "z" "[I") (by decide +kernel)) rfl dX4_doDawn_16 ?_
      refine G.sipush C 174 dX4_doDawn_19 (by decide) ?_
      refine G.ildn2 C dX4_doDawn_22 ?_
      refine G.iadd C dX4_doDawn_23 ?_
      refine G.topI (nI (174 + k)) (by rw [show (174 : Int32) = nI 174 from rfl, nI_add]) ?_
      refine G.iconst C 0 dX4_doDawn_24 (by decide) ?_
      refine G.iastU C (n := 232) (j := 1) (d0 := (174 + k)) rfl (gV_d (by omega)) (by first | assumption | exact vp_in_nI (by omega) (by omega) | (unfold vp_in; decide)) (ix_nI (by omega)) dX4_doDawn_25 ?_
      refine G.iincN2 C dX4_doDawn_26 (by omega) rfl ?_
      refine G.goto C 10 dX4_doDawn_29 (by decide) ?_
      exact G.back (ih (k + 1) (by omega) ) rfl ⟨(by first | rfl | simp), (by first | rfl | simp), (by first | rfl | simp), trivial⟩
  exact G.back (L10 4 0 (Nat.zero_add _) ) rfl ⟨(by first | rfl | simp), (by first | rfl | simp), (by first | rfl | simp), trivial⟩
set_option maxRecDepth 100000 in
set_option maxHeartbeats 4000000 in
theorem k_X4_whyNoDove (l : Launch) {E : gEn} {σ : gSt} {π : Nat → Nat} {o : Int64} {d : cSt} {x : Int32} (hx : vp_in x 24) : CtI l yX4_whyNoDove wsX4_whyNoDove ({ frames := 3, cells := 0, slots := 0, locals := 66 } : Room) E [.ref (E.2.1 10 0), .int x] (gU σ 10 d) π o (mWhyD d x) (gU σ 10 d) π o := by
  refine CtI.of (cc := cX4_whyNoDove) (own := RX4) (maxL := 2) (ret := (some .int)) [some (.ref (E.2.1 10 0)), some (.int x)] (by decide) rfl rfl (Nat.le_of_ble_eq_true rfl) rfl ?_
  intro p e s m args below meth cd C hrt hlk
  have hinX4 : ∀ w ∈ wsX40, w ∈ wsX4_whyNoDove := by decide +kernel
  refine G.aldn0 C dX4_whyNoDove_0 ?_
  refine G.callVI0 C (k_X4_allDoves l) (cwV 0 C.1.2.2.2.2 gX4_whyNoDove_X4_allDoves rfl rfl rfl (by decide +kernel) ⟨Nat.le_of_ble_eq_true rfl, Nat.le_of_ble_eq_true rfl⟩) gO_d rfl (Nat.le_of_ble_eq_true rfl) dX4_whyNoDove_1 ?_
  refine G.bipush C 16 dX4_whyNoDove_4 (by decide) ?_
  refine G.icmp_ne C 13 dX4_whyNoDove_6 (by decide) (fun h6 => ?_) (fun h6 => ?_)
  · refine G.aldn0 C dX4_whyNoDove_13 ?_
    refine G.ildn1 C dX4_whyNoDove_14 ?_
    refine G.callVI1 C (k_X4_ownerOf l) (cwV 1 C.1.2.2.2.2 gX4_whyNoDove_X4_ownerOf rfl rfl rfl (by decide +kernel) ⟨Nat.le_of_ble_eq_true rfl, Nat.le_of_ble_eq_true rfl⟩) gO_d rfl (Nat.le_of_ble_eq_true rfl) dX4_whyNoDove_15 ?_
    refine G.if_lt C 26 dX4_whyNoDove_18 (by decide) (fun h18 => ?_) (fun h18 => ?_)
    · refine G.aldn0 C dX4_whyNoDove_26 ?_
      refine G.ildn1 C dX4_whyNoDove_27 ?_
      refine G.callVI1 C (k_X4_isOpen l (by first | assumption | exact vp_in_nI (by omega) (by omega))) (cwV 1 C.1.2.2.2.2 gX4_whyNoDove_X4_isOpen rfl rfl rfl (by decide +kernel) ⟨Nat.le_of_ble_eq_true rfl, Nat.le_of_ble_eq_true rfl⟩) gO_d rfl (Nat.le_of_ble_eq_true rfl) dX4_whyNoDove_28 ?_
      refine G.if_eqB C 38 dX4_whyNoDove_31 (by decide) (fun h31 => ?_) (fun h31 => ?_)
      · refine G.bipush C 7 dX4_whyNoDove_38 (by decide) ?_
        exact G.iret C hlk hrt dX4_whyNoDove_40 (by simp [mWhyD, *]) (by exact fun _ h => h)
      · refine G.iconst C 0 dX4_whyNoDove_34 (by decide) ?_
        refine G.goto C 40 dX4_whyNoDove_35 (by decide) ?_
        exact G.iret C hlk hrt dX4_whyNoDove_40 (by simp [mWhyD, *]) (by exact fun _ h => h)
    · refine G.bipush C 6 dX4_whyNoDove_21 (by decide) ?_
      refine G.goto C 40 dX4_whyNoDove_23 (by decide) ?_
      exact G.iret C hlk hrt dX4_whyNoDove_40 (by simp [mWhyD, *]) (by exact fun _ h => h)
  · refine G.iconst C 5 dX4_whyNoDove_9 (by decide) ?_
    refine G.goto C 40 dX4_whyNoDove_10 (by decide) ?_
    exact G.iret C hlk hrt dX4_whyNoDove_40 (by simp [mWhyD, *]) (by exact fun _ h => h)
set_option maxRecDepth 100000 in
set_option maxHeartbeats 4000000 in
theorem k_X4_whyNoMates (l : Launch) {E : gEn} {σ : gSt} {π : Nat → Nat} {o : Int64} {d : cSt} {x y : Int32} (hx : vp_in x 16) (hy : vp_in y 16) : CtI l yX4_whyNoMates wsX4_whyNoMates ({ frames := 1, cells := 0, slots := 0, locals := 22 } : Room) E [.ref (E.2.1 10 0), .int x, .int y] (gU σ 10 d) π o (mWhyM d x y) (gU σ 10 d) π o := by
  refine CtI.of (cc := cX4_whyNoMates) (own := RX4) (maxL := 3) (ret := (some .int)) [some (.ref (E.2.1 10 0)), some (.int x), some (.int y)] (by decide) rfl rfl (Nat.le_of_ble_eq_true rfl) rfl ?_
  intro p e s m args below meth cd C hrt hlk
  have hinX4 : ∀ w ∈ wsX40, w ∈ wsX4_whyNoMates := by decide +kernel
  refine G.ildn1 C dX4_whyNoMates_0 ?_
  refine G.ildn2 C dX4_whyNoMates_1 ?_
  refine G.icmp_ne C 10 dX4_whyNoMates_2 (by decide) (fun h2 => ?_) (fun h2 => ?_)
  · refine G.aldn0 C dX4_whyNoMates_10 ?_
    refine G.ildn1 C dX4_whyNoMates_11 ?_
    refine G.iconst C 4 dX4_whyNoMates_12 (by decide) ?_
    refine G.callVI2 C (k_X4_of l (w := 4) hx (by omega) rfl) (cwV 2 C.1.2.2.2.2 gX4_whyNoMates_X4_of rfl rfl rfl (by decide +kernel) ⟨Nat.le_of_ble_eq_true rfl, Nat.le_of_ble_eq_true rfl⟩) gO_d rfl (Nat.le_of_ble_eq_true rfl) dX4_whyNoMates_13 ?_
    refine G.if_ge C 28 dX4_whyNoMates_16 (by decide) (fun h16 => ?_) (fun h16 => ?_)
    · refine G.bipush C 9 dX4_whyNoMates_28 (by decide) ?_
      refine G.goto C 34 dX4_whyNoMates_30 (by decide) ?_
      exact G.iret C hlk hrt dX4_whyNoMates_34 (by simp [mWhyM, *]) (by exact fun _ h => h)
    · refine G.aldn0 C dX4_whyNoMates_19 ?_
      refine G.ildn2 C dX4_whyNoMates_20 ?_
      refine G.iconst C 4 dX4_whyNoMates_21 (by decide) ?_
      refine G.callVI2 C (k_X4_of l (w := 4) hy (by omega) rfl) (cwV 2 C.1.2.2.2.2 gX4_whyNoMates_X4_of rfl rfl rfl (by decide +kernel) ⟨Nat.le_of_ble_eq_true rfl, Nat.le_of_ble_eq_true rfl⟩) gO_d rfl (Nat.le_of_ble_eq_true rfl) dX4_whyNoMates_22 ?_
      refine G.if_lt C 33 dX4_whyNoMates_25 (by decide) (fun h25 => ?_) (fun h25 => ?_)
      · refine G.iconst C 0 dX4_whyNoMates_33 (by decide) ?_
        exact G.iret C hlk hrt dX4_whyNoMates_34 (by simp [mWhyM, *]) (by exact fun _ h => h)
      · refine G.bipush C 9 dX4_whyNoMates_28 (by decide) ?_
        refine G.goto C 34 dX4_whyNoMates_30 (by decide) ?_
        exact G.iret C hlk hrt dX4_whyNoMates_34 (by simp [mWhyM, *]) (by exact fun _ h => h)
  · refine G.bipush C 8 dX4_whyNoMates_5 (by decide) ?_
    refine G.goto C 34 dX4_whyNoMates_7 (by decide) ?_
    exact G.iret C hlk hrt dX4_whyNoMates_34 (by simp [mWhyM, *]) (by exact fun _ h => h)
set_option maxRecDepth 100000 in
set_option maxHeartbeats 4000000 in
theorem k_X4_doMate (l : Launch) {E : gEn} {σ : gSt} {π : Nat → Nat} {o : Int64} {d : cSt} {x y : Int32} (hx : vp_in x 16) (hy : vp_in y 16) : CtI l yX4_doMate wsX4_doMate ({ frames := 3, cells := 0, slots := 0, locals := 65 } : Room) E [.ref (E.2.1 10 0), .int x, .int y] (gU σ 10 d) π o (mPairs (mMate d x y)) (gU σ 10 (mMate d x y)) π o := by
  refine CtI.of (cc := cX4_doMate) (own := RX4) (maxL := 3) (ret := (some .int)) [some (.ref (E.2.1 10 0)), some (.int x), some (.int y)] (by decide) rfl rfl (Nat.le_of_ble_eq_true rfl) rfl ?_
  intro p e s m args below meth cd C hrt hlk
  have hinX4 : ∀ w ∈ wsX40, w ∈ wsX4_doMate := by decide +kernel
  refine G.aldn0 C dX4_doMate_0 ?_
  refine G.ildn1 C dX4_doMate_1 ?_
  refine G.iconst C 4 dX4_doMate_2 (by decide) ?_
  refine G.ildn2 C dX4_doMate_3 ?_
  refine G.callVV3 C (k_X4_put l (w := 4) hx (by omega) rfl) (cwV 3 C.1.2.2.2.2 gX4_doMate_X4_put rfl rfl rfl (by decide +kernel) ⟨Nat.le_of_ble_eq_true rfl, Nat.le_of_ble_eq_true rfl⟩) gO_d rfl (Nat.le_of_ble_eq_true rfl) dX4_doMate_4 ?_
  refine G.aldn0 C dX4_doMate_7 ?_
  refine G.ildn2 C dX4_doMate_8 ?_
  refine G.iconst C 4 dX4_doMate_9 (by decide) ?_
  refine G.ildn1 C dX4_doMate_10 ?_
  refine G.callVV3 C (k_X4_put l (w := 4) hy (by omega) rfl) (cwV 3 C.1.2.2.2.2 gX4_doMate_X4_put rfl rfl rfl (by decide +kernel) ⟨Nat.le_of_ble_eq_true rfl, Nat.le_of_ble_eq_true rfl⟩) gO_d rfl (Nat.le_of_ble_eq_true rfl) dX4_doMate_11 ?_
  refine G.aldn0 C dX4_doMate_14 ?_
  refine G.callVI0 C (k_X4_pairs l) (cwV 0 C.1.2.2.2.2 gX4_doMate_X4_pairs rfl rfl rfl (by decide +kernel) ⟨Nat.le_of_ble_eq_true rfl, Nat.le_of_ble_eq_true rfl⟩) gO_d rfl (Nat.le_of_ble_eq_true rfl) dX4_doMate_15 ?_
  exact G.iret C hlk hrt dX4_doMate_18 (by rfl) (by exact fun _ h => h)
set_option maxRecDepth 100000 in
set_option maxHeartbeats 4000000 in
theorem k_X4_whyNoShut (l : Launch) {E : gEn} {σ : gSt} {π : Nat → Nat} {o : Int64} {d : cSt} {x : Int32} (hx : vp_in x 24) : CtI l yX4_whyNoShut wsX4_whyNoShut ({ frames := 3, cells := 0, slots := 0, locals := 66 } : Room) E [.ref (E.2.1 10 0), .int x] (gU σ 10 d) π o (mWhyS d x) (gU σ 10 d) π o := by
  refine CtI.of (cc := cX4_whyNoShut) (own := RX4) (maxL := 2) (ret := (some .int)) [some (.ref (E.2.1 10 0)), some (.int x)] (by decide) rfl rfl (Nat.le_of_ble_eq_true rfl) rfl ?_
  intro p e s m args below meth cd C hrt hlk
  have hinX4 : ∀ w ∈ wsX40, w ∈ wsX4_whyNoShut := by decide +kernel
  refine G.aldn0 C dX4_whyNoShut_0 ?_
  refine G.ildn1 C dX4_whyNoShut_1 ?_
  refine G.callVI1 C (k_X4_sitter l) (cwV 1 C.1.2.2.2.2 gX4_whyNoShut_X4_sitter rfl rfl rfl (by decide +kernel) ⟨Nat.le_of_ble_eq_true rfl, Nat.le_of_ble_eq_true rfl⟩) gO_d rfl (Nat.le_of_ble_eq_true rfl) dX4_whyNoShut_2 ?_
  refine G.if_lt C 12 dX4_whyNoShut_5 (by decide) (fun h5 => ?_) (fun h5 => ?_)
  · refine G.aldn0 C dX4_whyNoShut_12 ?_
    refine G.ildn1 C dX4_whyNoShut_13 ?_
    refine G.callVI1 C (k_X4_isOpen l (by first | assumption | exact vp_in_nI (by omega) (by omega))) (cwV 1 C.1.2.2.2.2 gX4_whyNoShut_X4_isOpen rfl rfl rfl (by decide +kernel) ⟨Nat.le_of_ble_eq_true rfl, Nat.le_of_ble_eq_true rfl⟩) gO_d rfl (Nat.le_of_ble_eq_true rfl) dX4_whyNoShut_14 ?_
    refine G.if_eqB C 24 dX4_whyNoShut_17 (by decide) (fun h17 => ?_) (fun h17 => ?_)
    · refine G.iconst C 4 dX4_whyNoShut_24 (by decide) ?_
      exact G.iret C hlk hrt dX4_whyNoShut_25 (by simp [mWhyS, *]) (by exact fun _ h => h)
    · refine G.iconst C 0 dX4_whyNoShut_20 (by decide) ?_
      refine G.goto C 25 dX4_whyNoShut_21 (by decide) ?_
      exact G.iret C hlk hrt dX4_whyNoShut_25 (by simp [mWhyS, *]) (by exact fun _ h => h)
  · refine G.iconst C 3 dX4_whyNoShut_8 (by decide) ?_
    refine G.goto C 25 dX4_whyNoShut_9 (by decide) ?_
    exact G.iret C hlk hrt dX4_whyNoShut_25 (by simp [mWhyS, *]) (by exact fun _ h => h)
set_option maxRecDepth 100000 in
set_option maxHeartbeats 4000000 in
theorem k_X4_doBuy_16 (l : Launch) {E : gEn} {σ : gSt} {π : Nat → Nat} {o : Int64} {d : cSt} {x y : Int32} {kf : Nat} (hkf : kf < 16) {p : Program} {e : Env} {s : State} {m : MethodId} {args : Array Value} {below : List Frame} {meth : Method} {cd : Code} (C : gCx p s m cd cX4_doBuy 5 RX4 wsX4_doBuy args E (gA E) ({ frames := 2, cells := 0, slots := 0, locals := 43 } : Room) 0 0) (hrt : meth.sig.returnType = (some .int)) (hlk : meth.locks = false) : G p l e ({ frames := 2, cells := 0, slots := 0, locals := 43 } : Room) s m args below meth cd 5 0 0 (gA E) (gQI below args s (nI kf) E (gU σ 10 (mBuyK d kf x y)) π o) E (gU σ 10 d) π o 16 [some (.ref (E.2.1 10 0)), some (.int x), some (.int y), some (.int (nI kf)), none] [] := by
  have hinX4 : ∀ w ∈ wsX40, w ∈ wsX4_doBuy := by decide +kernel
  refine G.iconst C 0 dX4_doBuy_16 (by decide) ?_
  refine G.ist4 C dX4_doBuy_17 (by omega) rfl ?_
  have L19 : ∀ (n w : Nat), w + n = 9 → G p l e ({ frames := 2, cells := 0, slots := 0, locals := 43 } : Room) s m args below meth cd 5 0 0 (gA E) (gQI below args s (nI kf) E (gU σ 10 (mBuyK d kf x y)) π o) E (gU σ 10 (mZero d kf w)) π o 19 [some (.ref (E.2.1 10 0)), some (.int x), some (.int y), some (.int (nI kf)), some (.int (nI w))] [] := by
    intro n
    induction n with
    | zero =>
      intro w hk
      obtain rfl : 9 = w := by omega
      refine G.ild4 C dX4_doBuy_19 ?_
      refine G.bipush C 9 dX4_doBuy_21 (by decide) ?_
      refine G.icmp_ge C 40 dX4_doBuy_23 (by decide) (fun _ => ?_) (fun h => absurd (nI_le (a := 9) (b := 9) (by omega) (by decide)) h)
      refine G.aldn0 C dX4_doBuy_40 ?_
      refine G.ildn3 C dX4_doBuy_41 ?_
      refine G.iconst C 0 dX4_doBuy_42 (by decide) ?_
      refine G.iconst C 1 dX4_doBuy_43 (by decide) ?_
      refine G.callVV3 C (k_X4_put l (w := 0) (q := 9 * kf) (by first | assumption | exact vp_in_nI (by omega) (by omega) | exact mDove_in (by assumption) | exact mSit_in (by assumption)) (by omega) (by rw [ix_nI (by omega)]; rfl)) (cwV 3 C.1.2.2.2.2 gX4_doBuy_X4_put rfl rfl rfl (by decide +kernel) ⟨Nat.le_of_ble_eq_true rfl, Nat.le_of_ble_eq_true rfl⟩) gO_d rfl (Nat.le_of_ble_eq_true rfl) dX4_doBuy_44 ?_
      refine G.aldn0 C dX4_doBuy_47 ?_
      refine G.ildn3 C dX4_doBuy_48 ?_
      refine G.iconst C 1 dX4_doBuy_49 (by decide) ?_
      refine G.ildn1 C dX4_doBuy_50 ?_
      refine G.callVV3 C (k_X4_put l (w := 1) (q := 9 * kf + 1) (by first | assumption | exact vp_in_nI (by omega) (by omega) | exact mDove_in (by assumption) | exact mSit_in (by assumption)) (by omega) (by rw [ix_nI (by omega)])) (cwV 3 C.1.2.2.2.2 gX4_doBuy_X4_put rfl rfl rfl (by decide +kernel) ⟨Nat.le_of_ble_eq_true rfl, Nat.le_of_ble_eq_true rfl⟩) gO_d rfl (Nat.le_of_ble_eq_true rfl) dX4_doBuy_51 ?_
      refine G.aldn0 C dX4_doBuy_54 ?_
      refine G.ildn3 C dX4_doBuy_55 ?_
      refine G.iconst C 2 dX4_doBuy_56 (by decide) ?_
      refine G.ildn2 C dX4_doBuy_57 ?_
      refine G.callVV3 C (k_X4_put l (w := 2) (q := 9 * kf + 2) (by first | assumption | exact vp_in_nI (by omega) (by omega) | exact mDove_in (by assumption) | exact mSit_in (by assumption)) (by omega) (by rw [ix_nI (by omega)])) (cwV 3 C.1.2.2.2.2 gX4_doBuy_X4_put rfl rfl rfl (by decide +kernel) ⟨Nat.le_of_ble_eq_true rfl, Nat.le_of_ble_eq_true rfl⟩) gO_d rfl (Nat.le_of_ble_eq_true rfl) dX4_doBuy_58 ?_
      refine G.aldn0 C dX4_doBuy_61 ?_
      refine G.ildn3 C dX4_doBuy_62 ?_
      refine G.iconst C 3 dX4_doBuy_63 (by decide) ?_
      refine G.iconst C (-1) dX4_doBuy_64 (by decide) ?_
      refine G.callVV3 C (k_X4_put l (w := 3) (q := 9 * kf + 3) (by first | assumption | exact vp_in_nI (by omega) (by omega) | exact mDove_in (by assumption) | exact mSit_in (by assumption)) (by omega) (by rw [ix_nI (by omega)])) (cwV 3 C.1.2.2.2.2 gX4_doBuy_X4_put rfl rfl rfl (by decide +kernel) ⟨Nat.le_of_ble_eq_true rfl, Nat.le_of_ble_eq_true rfl⟩) gO_d rfl (Nat.le_of_ble_eq_true rfl) dX4_doBuy_65 ?_
      refine G.aldn0 C dX4_doBuy_68 ?_
      refine G.ildn3 C dX4_doBuy_69 ?_
      refine G.iconst C 4 dX4_doBuy_70 (by decide) ?_
      refine G.iconst C (-1) dX4_doBuy_71 (by decide) ?_
      refine G.callVV3 C (k_X4_put l (w := 4) (q := 9 * kf + 4) (by first | assumption | exact vp_in_nI (by omega) (by omega) | exact mDove_in (by assumption) | exact mSit_in (by assumption)) (by omega) (by rw [ix_nI (by omega)])) (cwV 3 C.1.2.2.2.2 gX4_doBuy_X4_put rfl rfl rfl (by decide +kernel) ⟨Nat.le_of_ble_eq_true rfl, Nat.le_of_ble_eq_true rfl⟩) gO_d rfl (Nat.le_of_ble_eq_true rfl) dX4_doBuy_72 ?_
      refine G.ildn3 C dX4_doBuy_75 ?_
      exact G.iret C hlk hrt dX4_doBuy_76 (by rfl) (by exact fun _ h => h)
    | succ n ih =>
      intro w hk
      have hk2 : w < 9 := by omega
      refine G.ild4 C dX4_doBuy_19 ?_
      refine G.bipush C 9 dX4_doBuy_21 (by decide) ?_
      refine G.icmp_ge C 40 dX4_doBuy_23 (by decide) (fun h => absurd h (nI_ge (b := 9) hk2 (by decide))) (fun _ => ?_)
      refine G.aldn0 C dX4_doBuy_26 ?_
      refine G.ildn3 C dX4_doBuy_27 ?_
      refine G.ild4 C dX4_doBuy_28 ?_
      refine G.iconst C 0 dX4_doBuy_30 (by decide) ?_
      refine G.callVV3 C (k_X4_put l (w := w) (q := 9 * kf + w) (vp_in_nI hkf (by omega)) hk2 (by rw [ix_nI (by omega)])) (cwV 3 C.1.2.2.2.2 gX4_doBuy_X4_put rfl rfl rfl (by decide +kernel) ⟨Nat.le_of_ble_eq_true rfl, Nat.le_of_ble_eq_true rfl⟩) gO_d rfl (Nat.le_of_ble_eq_true rfl) dX4_doBuy_31 ?_
      refine G.iincN4 C dX4_doBuy_34 (by omega) rfl ?_
      refine G.goto C 19 dX4_doBuy_37 (by decide) ?_
      exact G.back (ih (w + 1) (by omega) ) rfl ⟨(by first | rfl | simp), (by first | rfl | simp), (by first | rfl | simp), (by first | rfl | simp), (by first | rfl | simp), trivial⟩
  exact G.back (L19 9 0 (Nat.zero_add _) ) rfl ⟨(by first | rfl | simp), (by first | rfl | simp), (by first | rfl | simp), (by first | rfl | simp), (by first | rfl | simp), trivial⟩
set_option maxRecDepth 100000 in
set_option maxHeartbeats 4000000 in
theorem k_X4_doBuy_2 (l : Launch) {E : gEn} {σ : gSt} {π : Nat → Nat} {o : Int64} {d : cSt} {x y : Int32} {kf n k : Nat} (hk : k + n = 16) (hf : mFirstF d n k = some kf) {p : Program} {e : Env} {s : State} {m : MethodId} {args : Array Value} {below : List Frame} {meth : Method} {cd : Code} (C : gCx p s m cd cX4_doBuy 5 RX4 wsX4_doBuy args E (gA E) ({ frames := 2, cells := 0, slots := 0, locals := 43 } : Room) 0 0) (hrt : meth.sig.returnType = (some .int)) (hlk : meth.locks = false) : G p l e ({ frames := 2, cells := 0, slots := 0, locals := 43 } : Room) s m args below meth cd 5 0 0 (gA E) (gQI below args s (nI kf) E (gU σ 10 (mBuyK d kf x y)) π o) E (gU σ 10 d) π o 2 [some (.ref (E.2.1 10 0)), some (.int x), some (.int y), some (.int (nI k)), none] [] := by
  have hinX4 : ∀ w ∈ wsX40, w ∈ wsX4_doBuy := by decide +kernel
  induction n generalizing k with
  | zero => exact absurd hf (by simp [mFirstF])
  | succ n ih =>
    refine G.aldn0 C dX4_doBuy_2 ?_
    refine G.ildn3 C dX4_doBuy_3 ?_
    refine G.callVI1 C (k_X4_isDove l) (cwV 1 C.1.2.2.2.2 gX4_doBuy_X4_isDove rfl rfl rfl (by decide +kernel) ⟨Nat.le_of_ble_eq_true rfl, Nat.le_of_ble_eq_true rfl⟩) gO_d rfl (Nat.le_of_ble_eq_true rfl) dX4_doBuy_4 ?_
    refine G.if_eqB C 16 dX4_doBuy_7 (by decide) (fun h7 => ?_) (fun h7 => ?_)
    · have e : k = kf := by rw [mFirstF, if_neg (by rw [h7]; decide)] at hf; exact Option.some.inj hf
      subst e
      exact k_X4_doBuy_16 l (by omega) C hrt hlk
    · refine G.iincN3 C dX4_doBuy_10 (by omega) rfl ?_
      refine G.goto C 2 dX4_doBuy_13 (by decide) ?_
      exact G.back (ih (k := k + 1) (by omega) (by rw [mFirstF, if_pos h7] at hf; exact hf) ) rfl ⟨rfl, rfl, rfl, rfl, trivial⟩
set_option maxRecDepth 100000 in
set_option maxHeartbeats 4000000 in
theorem k_X4_doBuy (l : Launch) {E : gEn} {σ : gSt} {π : Nat → Nat} {o : Int64} {d : cSt} {x y : Int32} {kf : Nat} (hkf : mFirstF d 16 0 = some kf) : CtI l yX4_doBuy wsX4_doBuy ({ frames := 2, cells := 0, slots := 0, locals := 43 } : Room) E [.ref (E.2.1 10 0), .int x, .int y] (gU σ 10 d) π o (nI kf) (gU σ 10 (mBuyK d kf x y)) π o := by
  refine CtI.of (cc := cX4_doBuy) (own := RX4) (maxL := 5) (ret := (some .int)) [some (.ref (E.2.1 10 0)), some (.int x), some (.int y), none, none] (by decide) rfl rfl (Nat.le_of_ble_eq_true rfl) rfl ?_
  intro p e s m args below meth cd C hrt hlk
  have hinX4 : ∀ w ∈ wsX40, w ∈ wsX4_doBuy := by decide +kernel
  refine G.iconst C 0 dX4_doBuy_0 (by decide) ?_
  refine G.istn3 C dX4_doBuy_1 (by omega) rfl ?_
  exact G.back (k_X4_doBuy_2 l (n := 16) (k := 0) (by omega) hkf C hrt hlk) rfl ⟨rfl, rfl, rfl, rfl, trivial⟩
