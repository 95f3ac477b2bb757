/-! the model: its own functions, in terms of its contents d (d 1: the row z) -/
def mIn (x a b : Int32) : Bool := if x < a then false else if b < x then false else true
theorem mIn_in {x : Int32} (h : mIn x 0 15 = true) : vp_in x 16 := by
  unfold mIn at h
  split at h
  · cases h
  · split at h
    · cases h
    · rename_i h1 h2
      rw [vp_in_iff]
      rw [Int32.lt_iff_toInt_lt] at h1 h2
      have e0 : (0 : Int32).toInt = 0 := by decide
      have e15 : (15 : Int32).toInt = 15 := by decide
      omega
theorem mIn_in24 {x : Int32} (h : mIn x 0 23 = true) : vp_in x 24 := by
  unfold mIn at h
  split at h
  · cases h
  · split at h
    · cases h
    · rename_i h1 h2
      rw [vp_in_iff]
      rw [Int32.lt_iff_toInt_lt] at h1 h2
      have e0 : (0 : Int32).toInt = 0 := by decide
      have e15 : (23 : Int32).toInt = 23 := by decide
      omega
theorem zin {x : Int32} {w : Nat} (hx : vp_in x 16) (hw : w < 9) : 9 * x + nI w = nI (9 * ix x + w) ∧ 9 * ix x + w < 144 := by
  obtain ⟨j, hj, rfl⟩ := vp_in_of hx (by omega)
  rw [ix_nI (by omega)]
  have e : (9 : Int32) = nI 9 := rfl
  rw [e, pk_mul, nI_add]
  exact ⟨rfl, by omega⟩
theorem zin1 {x : Int32} {w : Nat} (hx : vp_in x 16) (hw : w < 9) : vp_in (9 * x + nI w) 232 := by
  rw [(zin hx hw).1]
  have := (zin hx hw).2
  exact vp_in_nI (by omega) (by omega)
theorem zin2 {x : Int32} {w : Nat} (hx : vp_in x 16) (hw : w < 9) : ix (9 * x + nI w) = 9 * ix x + w := by
  rw [(zin hx hw).1]
  have := (zin hx hw).2
  exact ix_nI (by omega)
theorem hin0 {x : Int32} (hx : vp_in x 24) : 144 + x = nI (144 + ix x) ∧ ix x < 24 := by
  obtain ⟨j, hj, rfl⟩ := vp_in_of hx (by omega)
  rw [ix_nI (by omega)]
  have e : (144 : Int32) = nI 144 := rfl
  rw [e, nI_add]
  exact ⟨rfl, hj⟩
theorem hin1 {x : Int32} (hx : vp_in x 24) : vp_in (144 + x) 232 := by
  rw [(hin0 hx).1]
  have := (hin0 hx).2
  exact vp_in_nI (by omega) (by omega)
theorem hin2 {x : Int32} (hx : vp_in x 24) : ix (144 + x) = 144 + ix x := by
  rw [(hin0 hx).1]
  have := (hin0 hx).2
  exact ix_nI (by omega)
/-- a row's place by base and small index -/
theorem bin1 {b k n : Nat} (hk : b + k < n) (hn : n < 2 ^ 31) : vp_in (nI b + nI k) n := by rw [nI_add]; exact vp_in_nI hk hn
theorem bin2 {b k : Nat} (hk : b + k < 2 ^ 31) : ix (nI b + nI k) = b + k := by rw [nI_add]; exact ix_nI hk
def mDove (d : cSt) (x : Int32) : Bool := if mIn x 0 15 = false then false else if d 1 (9 * ix x) = 1 then true else false
theorem mDove_in {d : cSt} {x : Int32} (h : mDove d x = true) : vp_in x 16 := by
  unfold mDove at h
  split at h
  · cases h
  · rename_i h1
    exact mIn_in (by simpa using h1)
def mOpen (d : cSt) (x : Int32) : Bool := if d 1 (144 + ix x) = 0 then true else false
def lastP (P : Nat → Bool) : Nat → Int32
  | 0 => -1
  | k + 1 => if P k = true then nI k else lastP P k
theorem lastP_in (P : Nat → Bool) : ∀ n, lastP P n = -1 ∨ ∃ k, k < n ∧ lastP P n = nI k
  | 0 => Or.inl rfl
  | n + 1 => by
    unfold lastP
    split
    · exact Or.inr ⟨n, by omega, rfl⟩
    · rcases lastP_in P n with h | ⟨k, h1, h2⟩
      · exact Or.inl h
      · exact Or.inr ⟨k, by omega, h2⟩
def mSit (d : cSt) (h : Int32) : Int32 := lastP (fun k => mDove d (nI k) && decide (d 1 (9 * k + 3) = h)) 16
def mOwn (d : cSt) (h : Int32) : Int32 := lastP (fun k => mDove d (nI k) && decide (d 1 (9 * k + 1) = h)) 16
theorem lastP16 {P : Nat → Bool} (h : ¬ lastP P 16 < 0) : vp_in (lastP P 16) 16 := by
  rcases lastP_in P 16 with e | ⟨k, h1, e⟩
  · rw [e] at h; exact absurd (by decide) h
  · rw [e]; exact vp_in_nI h1 (by omega)
theorem mSit_in {d : cSt} {h : Int32} (h0 : ¬ mSit d h < 0) : vp_in (mSit d h) 16 := lastP16 h0
def sumP (f : Nat → Int32) : Nat → Int32
  | 0 => 0
  | k + 1 => sumP f k + f k
def mAll (d : cSt) : Int32 := sumP (fun k => d 1 (9 * k)) 16
def mAt (d : cSt) (a b : Int32) : Int32 := nI (cnt (fun k => mDove d (nI k) && mIn (d 1 (9 * k + 3)) a b) 16)
def mOpens (d : cSt) : Int32 := nI (cnt (fun k => mOpen d (nI k)) 24)
def mPairs (d : cSt) : Int32 := nI (cnt (fun k => mDove d (nI k) && decide (¬ d 1 (9 * k + 4) ≤ nI k)) 16)
def mFree (d : cSt) (x : Int32) : Bool := if mOpen d x = false then false else if 0 ≤ mSit d x then false else true
/-- a stretch of one row is copied into another one, or forward in itself -/
def mCpy (d : cSt) (j0 b j1 b1 n : Nat) : cSt := fun j q => if j = j0 then (if b ≤ q ∧ q < b + n then d j1 (b1 + (q - b)) else d j q) else d j q
theorem mCpy_0 {d : cSt} {j0 b j1 b1 : Nat} : mCpy d j0 b j1 b1 0 = d := by
  funext j q
  unfold mCpy
  split
  · rw [if_neg (by omega)]
  · rfl
theorem mCpy_src {d : cSt} {j0 b j1 b1 n : Nat} (h : j1 ≠ j0 ∨ b ≤ b1) : mCpy d j0 b j1 b1 n j1 (b1 + n) = d j1 (b1 + n) := by
  unfold mCpy
  by_cases e : j1 = j0
  · rw [if_pos e, if_neg (by omega)]
  · rw [if_neg e]
theorem mCpy_s {d : cSt} {j0 b j1 b1 n : Nat} (h : j1 ≠ j0 ∨ b ≤ b1) : cW (mCpy d j0 b j1 b1 n) j0 (b + n) (mCpy d j0 b j1 b1 n j1 (b1 + n)) = mCpy d j0 b j1 b1 (n + 1) := by
  rw [mCpy_src h]
  funext j q
  unfold cW mCpy
  by_cases e : j = j0
  · rw [if_pos e, if_pos e, if_pos e]
    by_cases e2 : q = b + n
    · rw [if_pos e2, if_pos (by omega)]
      congr 1
      omega
    · rw [if_neg e2]
      by_cases e3 : b ≤ q ∧ q < b + n
      · rw [if_pos e3, if_pos (by omega)]
      · rw [if_neg e3, if_neg (by omega)]
  · rw [if_neg e, if_neg e, if_neg e]
theorem mCpy_ne {d : cSt} {j0 b j1 b1 n j q : Nat} (h : j ≠ j0) : mCpy d j0 b j1 b1 n j q = d j q := if_neg h
set_option maxRecDepth 100000 in
set_option maxHeartbeats 4000000 in
theorem k_X4_in (l : Launch) {E : gEn} {σ : gSt} {π : Nat → Nat} {o : Int64} {x a b : Int32} : CtI l yX4_in wsX4_in ({ frames := 0, cells := 0, slots := 0, locals := 0 } : Room) E [.int x, .int a, .int b] σ π o (bI (mIn x a b)) σ π o := by
  refine CtI.of (cc := cX4_in) (own := RX4) (maxL := 3) (ret := (some .boolean)) [some (.int x), some (.int a), some (.int b)] (by decide) rfl rfl (Nat.le_of_ble_eq_true rfl) rfl ?_
  intro p e s m args below meth cd C hrt hlk
  refine G.ildn0 C dX4_in_0 ?_
  refine G.ildn1 C dX4_in_1 ?_
  refine G.icmp_lt C 14 dX4_in_2 (by decide) (fun h2 => ?_) (fun h2 => ?_)
  · refine G.iconst C 0 dX4_in_14 (by decide) ?_
    exact G.zret C hlk hrt dX4_in_15 (by simp [mIn, *, bI]) (by exact fun _ h => h)
  · refine G.ildn0 C dX4_in_5 ?_
    refine G.ildn2 C dX4_in_6 ?_
    refine G.icmp_gt C 14 dX4_in_7 (by decide) (fun h7 => ?_) (fun h7 => ?_)
    · refine G.iconst C 0 dX4_in_14 (by decide) ?_
      exact G.zret C hlk hrt dX4_in_15 (by simp [mIn, *, bI]) (by exact fun _ h => h)
    · refine G.iconst C 1 dX4_in_10 (by decide) ?_
      refine G.goto C 15 dX4_in_11 (by decide) ?_
      exact G.zret C hlk hrt dX4_in_15 (by simp [mIn, *, bI]) (by exact fun _ h => h)
set_option maxRecDepth 100000 in
set_option maxHeartbeats 4000000 in
theorem k_X4_isHole (l : Launch) {E : gEn} {σ : gSt} {π : Nat → Nat} {o : Int64} {x : Int32} : CtI l yX4_isHole wsX4_isHole ({ frames := 1, cells := 0, slots := 0, locals := 22 } : Room) E [.int x] σ π o (bI (mIn x 0 23)) σ π o := by
  refine CtI.of (cc := cX4_isHole) (own := RX4) (maxL := 1) (ret := (some .boolean)) [some (.int x)] (by decide) rfl rfl (Nat.le_of_ble_eq_true rfl) rfl ?_
  intro p e s m args below meth cd C hrt hlk
  refine G.ildn0 C dX4_isHole_0 ?_
  refine G.iconst C 0 dX4_isHole_1 (by decide) ?_
  refine G.bipush C 23 dX4_isHole_2 (by decide) ?_
  refine G.callSI3 C (k_X4_in l) (va_cwS 3 C.1.2.2.2.2 gX4_isHole_X4_in rfl rfl rfl (by decide +kernel) ⟨Nat.le_of_ble_eq_true rfl, Nat.le_of_ble_eq_true rfl⟩) (Nat.le_of_ble_eq_true rfl) dX4_isHole_4 ?_
  exact G.zret C hlk hrt dX4_isHole_7 (by rfl) (by exact fun _ h => h)
set_option maxRecDepth 100000 in
set_option maxHeartbeats 4000000 in
theorem k_X4_of (l : Launch) {E : gEn} {σ : gSt} {π : Nat → Nat} {o : Int64} {d : cSt} {x : Int32} {w q : Nat} (hx : vp_in x 16) (hw : w < 9) (hq : 9 * ix x + w = q) : CtI l yX4_of wsX4_of ({ frames := 0, cells := 0, slots := 0, locals := 0 } : Room) E [.ref (E.2.1 10 0), .int x, .int (nI w)] (gU σ 10 d) π o (d 1 q) (gU σ 10 d) π o := by
  refine CtI.of (cc := cX4_of) (own := RX4) (maxL := 3) (ret := (some .int)) [some (.ref (E.2.1 10 0)), some (.int x), some (.int (nI w))] (by decide) rfl rfl (Nat.le_of_ble_eq_true rfl) rfl ?_
  intro p e s m args below meth cd C hrt hlk
  have hinX4 : ∀ w ∈ wsX40, w ∈ wsX4_of := by decide +kernel
  refine G.aldn0 C dX4_of_0 ?_
  refine G.getD C hinX4 1 (by decide) rfl (C.1.2.2.2.2 (.fieldLink RX4 7 RX4 "z" "[I") (by decide +kernel)) rfl dX4_of_1 ?_
  refine G.bipush C 9 dX4_of_4 (by decide) ?_
  refine G.ildn1 C dX4_of_6 ?_
  refine G.imul C dX4_of_7 ?_
  refine G.ildn2 C dX4_of_8 ?_
  refine G.iadd C dX4_of_9 ?_
  refine G.ialdU C (n := 232) (j := 1) (d0 := q) rfl (gV_d (by omega)) (zin1 hx hw) ((zin2 hx hw).trans hq) dX4_of_10 ?_
  exact G.iret C hlk hrt dX4_of_11 (by rfl) (by exact fun _ h => h)
set_option maxRecDepth 100000 in
set_option maxHeartbeats 4000000 in
theorem k_X4_put (l : Launch) {E : gEn} {σ : gSt} {π : Nat → Nat} {o : Int64} {d : cSt} {x v : Int32} {w q : Nat} (hx : vp_in x 16) (hw : w < 9) (hq : 9 * ix x + w = q) : CtV l yX4_put wsX4_put ({ frames := 0, cells := 0, slots := 0, locals := 0 } : Room) E [.ref (E.2.1 10 0), .int x, .int (nI w), .int v] (gU σ 10 d) π o  (gU σ 10 (cW d 1 q v)) π o := by
  refine CtV.of (cc := cX4_put) (own := RX4) (maxL := 4) (ret := none) [some (.ref (E.2.1 10 0)), some (.int x), some (.int (nI w)), some (.int v)] (by decide) rfl rfl (Nat.le_of_ble_eq_true rfl) rfl ?_
  intro p e s m args below meth cd C hrt hlk
  have hinX4 : ∀ w ∈ wsX40, w ∈ wsX4_put := by decide +kernel
  refine G.aldn0 C dX4_put_0 ?_
  refine G.getD C hinX4 1 (by decide) rfl (C.1.2.2.2.2 (.fieldLink RX4 7 RX4 "z" "[I") (by decide +kernel)) rfl dX4_put_1 ?_
  refine G.bipush C 9 dX4_put_4 (by decide) ?_
  refine G.ildn1 C dX4_put_6 ?_
  refine G.imul C dX4_put_7 ?_
  refine G.ildn2 C dX4_put_8 ?_
  refine G.iadd C dX4_put_9 ?_
  refine G.ildn3 C dX4_put_10 ?_
  refine G.iastU C (n := 232) (j := 1) (d0 := q) rfl (gV_d (by omega)) (zin1 hx hw) ((zin2 hx hw).trans hq) dX4_put_11 ?_
  exact G.vret C hlk hrt dX4_put_12 (by exact fun _ h => h)
set_option maxRecDepth 100000 in
set_option maxHeartbeats 4000000 in
theorem k_X4_isDove (l : Launch) {E : gEn} {σ : gSt} {π : Nat → Nat} {o : Int64} {d : cSt} {x : Int32} : CtI l yX4_isDove wsX4_isDove ({ frames := 1, cells := 0, slots := 0, locals := 22 } : Room) E [.ref (E.2.1 10 0), .int x] (gU σ 10 d) π o (bI (mDove d x)) (gU σ 10 d) π o := by
  refine CtI.of (cc := cX4_isDove) (own := RX4) (maxL := 2) (ret := (some .boolean)) [some (.ref (E.2.1 10 0)), some (.int x)] (by decide) rfl rfl (Nat.le_of_ble_eq_true rfl) rfl ?_
  intro p e s m args below meth cd C hrt hlk
  have hinX4 : ∀ w ∈ wsX40, w ∈ wsX4_isDove := by decide +kernel
  refine G.ildn1 C dX4_isDove_0 ?_
  refine G.iconst C 0 dX4_isDove_1 (by decide) ?_
  refine G.bipush C 15 dX4_isDove_2 (by decide) ?_
  refine G.callSI3 C (k_X4_in l) (va_cwS 3 C.1.2.2.2.2 gX4_isDove_X4_in rfl rfl rfl (by decide +kernel) ⟨Nat.le_of_ble_eq_true rfl, Nat.le_of_ble_eq_true rfl⟩) (Nat.le_of_ble_eq_true rfl) dX4_isDove_4 ?_
  refine G.if_eqB C 24 dX4_isDove_7 (by decide) (fun h7 => ?_) (fun h7 => ?_)
  · refine G.iconst C 0 dX4_isDove_24 (by decide) ?_
    exact G.zret C hlk hrt dX4_isDove_25 (by simp [mDove, *, bI]) (by exact fun _ h => h)
  · refine G.aldn0 C dX4_isDove_10 ?_
    refine G.ildn1 C dX4_isDove_11 ?_
    refine G.iconst C 0 dX4_isDove_12 (by decide) ?_
    refine G.callVI2 C (k_X4_of l (w := 0) (mIn_in h7) (by omega) (Nat.add_zero _)) (cwV 2 C.1.2.2.2.2 gX4_isDove_X4_of rfl rfl rfl (by decide +kernel) ⟨Nat.le_of_ble_eq_true rfl, Nat.le_of_ble_eq_true rfl⟩) gO_d rfl (Nat.le_of_ble_eq_true rfl) dX4_isDove_13 ?_
    refine G.iconst C 1 dX4_isDove_16 (by decide) ?_
    refine G.icmp_ne C 24 dX4_isDove_17 (by decide) (fun h17 => ?_) (fun h17 => ?_)
    · refine G.iconst C 0 dX4_isDove_24 (by decide) ?_
      exact G.zret C hlk hrt dX4_isDove_25 (by simp [mDove, *, bI]) (by exact fun _ h => h)
    · refine G.iconst C 1 dX4_isDove_20 (by decide) ?_
      refine G.goto C 25 dX4_isDove_21 (by decide) ?_
      exact G.zret C hlk hrt dX4_isDove_25 (by simp [mDove, *, bI]) (by exact fun _ h => h)
set_option maxRecDepth 100000 in
set_option maxHeartbeats 4000000 in
theorem k_X4_isOpen (l : Launch) {E : gEn} {σ : gSt} {π : Nat → Nat} {o : Int64} {d : cSt} {x : Int32} (hx : vp_in x 24) : CtI l yX4_isOpen wsX4_isOpen ({ frames := 0, cells := 0, slots := 0, locals := 0 } : Room) E [.ref (E.2.1 10 0), .int x] (gU σ 10 d) π o (bI (mOpen d x)) (gU σ 10 d) π o := by
  refine CtI.of (cc := cX4_isOpen) (own := RX4) (maxL := 2) (ret := (some .boolean)) [some (.ref (E.2.1 10 0)), some (.int x)] (by decide) rfl rfl (Nat.le_of_ble_eq_true rfl) rfl ?_
  intro p e s m args below meth cd C hrt hlk
  have hinX4 : ∀ w ∈ wsX40, w ∈ wsX4_isOpen := by decide +kernel
  refine G.aldn0 C dX4_isOpen_0 ?_
  refine G.getD C hinX4 1 (by decide) rfl (C.1.2.2.2.2 (.fieldLink RX4 7 RX4 "z" "[I") (by decide +kernel)) rfl dX4_isOpen_1 ?_
  refine G.sipush C 144 dX4_isOpen_4 (by decide) ?_
  refine G.ildn1 C dX4_isOpen_7 ?_
  refine G.iadd C dX4_isOpen_8 ?_
  refine G.ialdU C (n := 232) (j := 1) (d0 := (144 + ix x)) rfl (gV_d (by omega)) (hin1 hx) (hin2 hx) dX4_isOpen_9 ?_
  refine G.if_ne C 17 dX4_isOpen_10 (by decide) (fun h10 => ?_) (fun h10 => ?_)
  · refine G.iconst C 0 dX4_isOpen_17 (by decide) ?_
    exact G.zret C hlk hrt dX4_isOpen_18 (by simp [mOpen, *, bI]) (by exact fun _ h => h)
  · refine G.iconst C 1 dX4_isOpen_13 (by decide) ?_
    refine G.goto C 18 dX4_isOpen_14 (by decide) ?_
    exact G.zret C hlk hrt dX4_isOpen_18 (by simp [mOpen, *, bI]) (by exact fun _ h => h)
set_option maxRecDepth 100000 in
set_option maxHeartbeats 4000000 in
theorem k_X4_sitter (l : Launch) {E : gEn} {σ : gSt} {π : Nat → Nat} {o : Int64} {d : cSt} {x : Int32} : CtI l yX4_sitter wsX4_sitter ({ frames := 2, cells := 0, slots := 0, locals := 43 } : Room) E [.ref (E.2.1 10 0), .int x] (gU σ 10 d) π o (mSit d x) (gU σ 10 d) π o := by
  refine CtI.of (cc := cX4_sitter) (own := RX4) (maxL := 4) (ret := (some .int)) [some (.ref (E.2.1 10 0)), some (.int x), none, none] (by decide) rfl rfl (Nat.le_of_ble_eq_true rfl) rfl ?_
  intro p e s m args below meth cd C hrt hlk
  have hinX4 : ∀ w ∈ wsX40, w ∈ wsX4_sitter := by decide +kernel
  refine G.iconst C (-1) dX4_sitter_0 (by decide) ?_
  refine G.istn2 C dX4_sitter_1 (by omega) rfl ?_
  refine G.iconst C 0 dX4_sitter_2 (by decide) ?_
  refine G.istn3 C dX4_sitter_3 (by omega) rfl ?_
  have L4 : ∀ (n k : Nat), k + n = 16 → G p l e ({ frames := 2, cells := 0, slots := 0, locals := 43 } : Room) s m args below meth cd 4 0 0 (gA E) (gQI below args s (mSit d x) E (gU σ 10 d) π o) E (gU σ 10 d) π o 4 [some (.ref (E.2.1 10 0)), some (.int x), some (.int (lastP (fun k => mDove d (nI k) && decide (d 1 (9 * k + 3) = x)) k)), some (.int (nI k))] [] := by
    intro n
    induction n with
    | zero =>
      intro k hk
      obtain rfl : 16 = k := by omega
      refine G.ildn3 C dX4_sitter_4 ?_
      refine G.bipush C 16 dX4_sitter_5 (by decide) ?_
      refine G.icmp_ge C 40 dX4_sitter_7 (by decide) (fun _ => ?_) (fun h => absurd (nI_le (a := 16) (b := 16) (by omega) (by decide)) h)
      refine G.ildn2 C dX4_sitter_40 ?_
      exact G.iret C hlk hrt dX4_sitter_41 (by rfl) (by exact fun _ h => h)
    | succ n ih =>
      intro k hk
      have hk2 : k < 16 := by omega
      refine G.ildn3 C dX4_sitter_4 ?_
      refine G.bipush C 16 dX4_sitter_5 (by decide) ?_
      refine G.icmp_ge C 40 dX4_sitter_7 (by decide) (fun h => absurd h (nI_ge (b := 16) hk2 (by decide))) (fun _ => ?_)
      refine G.aldn0 C dX4_sitter_10 ?_
      refine G.ildn3 C dX4_sitter_11 ?_
      refine G.callVI1 C (k_X4_isDove l) (cwV 1 C.1.2.2.2.2 gX4_sitter_X4_isDove rfl rfl rfl (by decide +kernel) ⟨Nat.le_of_ble_eq_true rfl, Nat.le_of_ble_eq_true rfl⟩) gO_d rfl (Nat.le_of_ble_eq_true rfl) dX4_sitter_12 ?_
      refine G.if_eqB C 32 dX4_sitter_15 (by decide) (fun h15 => ?_) (fun h15 => ?_)
      · refine G.ildn2 C dX4_sitter_32 ?_
        refine G.istn2 C dX4_sitter_33 (by omega) rfl ?_
        refine G.iincN3 C dX4_sitter_34 (by omega) rfl ?_
        refine G.goto C 4 dX4_sitter_37 (by decide) ?_
        exact G.back (ih (k + 1) (by omega) ) rfl ⟨(by first | rfl | simp [lastP, *]), (by first | rfl | simp [lastP, *]), (by first | rfl | simp [lastP, *]), (by first | rfl | simp [lastP, *]), trivial⟩
      · refine G.aldn0 C dX4_sitter_18 ?_
        refine G.ildn3 C dX4_sitter_19 ?_
        refine G.iconst C 3 dX4_sitter_20 (by decide) ?_
        refine G.callVI2 C (k_X4_of l (w := 3) (q := 9 * k + 3) (by first | assumption | exact vp_in_nI (by omega) (by omega) | exact mDove_in (by assumption) | exact mSit_in (by assumption)) (by omega) (by rw [ix_nI (by omega)])) (cwV 2 C.1.2.2.2.2 gX4_sitter_X4_of rfl rfl rfl (by decide +kernel) ⟨Nat.le_of_ble_eq_true rfl, Nat.le_of_ble_eq_true rfl⟩) gO_d rfl (Nat.le_of_ble_eq_true rfl) dX4_sitter_21 ?_
        refine G.ildn1 C dX4_sitter_24 ?_
        refine G.icmp_ne C 32 dX4_sitter_25 (by decide) (fun h25 => ?_) (fun h25 => ?_)
        · refine G.ildn2 C dX4_sitter_32 ?_
          refine G.istn2 C dX4_sitter_33 (by omega) rfl ?_
          refine G.iincN3 C dX4_sitter_34 (by omega) rfl ?_
          refine G.goto C 4 dX4_sitter_37 (by decide) ?_
          exact G.back (ih (k + 1) (by omega) ) rfl ⟨(by first | rfl | simp [lastP, *]), (by first | rfl | simp [lastP, *]), (by first | rfl | simp [lastP, *]), (by first | rfl | simp [lastP, *]), trivial⟩
        · refine G.ildn3 C dX4_sitter_28 ?_
          refine G.goto C 33 dX4_sitter_29 (by decide) ?_
          refine G.istn2 C dX4_sitter_33 (by omega) rfl ?_
          refine G.iincN3 C dX4_sitter_34 (by omega) rfl ?_
          refine G.goto C 4 dX4_sitter_37 (by decide) ?_
          exact G.back (ih (k + 1) (by omega) ) rfl ⟨(by first | rfl | simp [lastP, *]), (by first | rfl | simp [lastP, *]), (by first | rfl | simp [lastP, *]), (by first | rfl | simp [lastP, *]), trivial⟩
  exact G.back (L4 16 0 (Nat.zero_add _) ) rfl ⟨(by first | rfl | simp [lastP]), (by first | rfl | simp [lastP]), (by first | rfl | simp [lastP]), (by first | rfl | simp [lastP]), trivial⟩
set_option maxRecDepth 100000 in
set_option maxHeartbeats 4000000 in
theorem k_X4_ownerOf (l : Launch) {E : gEn} {σ : gSt} {π : Nat → Nat} {o : Int64} {d : cSt} {x : Int32} : CtI l yX4_ownerOf wsX4_ownerOf ({ frames := 2, cells := 0, slots := 0, locals := 43 } : Room) E [.ref (E.2.1 10 0), .int x] (gU σ 10 d) π o (mOwn d x) (gU σ 10 d) π o := by
  refine CtI.of (cc := cX4_ownerOf) (own := RX4) (maxL := 4) (ret := (some .int)) [some (.ref (E.2.1 10 0)), some (.int x), none, none] (by decide) rfl rfl (Nat.le_of_ble_eq_true rfl) rfl ?_
  intro p e s m args below meth cd C hrt hlk
  have hinX4 : ∀ w ∈ wsX40, w ∈ wsX4_ownerOf := by decide +kernel
  refine G.iconst C (-1) dX4_ownerOf_0 (by decide) ?_
  refine G.istn2 C dX4_ownerOf_1 (by omega) rfl ?_
  refine G.iconst C 0 dX4_ownerOf_2 (by decide) ?_
  refine G.istn3 C dX4_ownerOf_3 (by omega) rfl ?_
  have L4 : ∀ (n k : Nat), k + n = 16 → G p l e ({ frames := 2, cells := 0, slots := 0, locals := 43 } : Room) s m args below meth cd 4 0 0 (gA E) (gQI below args s (mOwn d x) E (gU σ 10 d) π o) E (gU σ 10 d) π o 4 [some (.ref (E.2.1 10 0)), some (.int x), some (.int (lastP (fun k => mDove d (nI k) && decide (d 1 (9 * k + 1) = x)) k)), some (.int (nI k))] [] := by
    intro n
    induction n with
    | zero =>
      intro k hk
      obtain rfl : 16 = k := by omega
      refine G.ildn3 C dX4_ownerOf_4 ?_
      refine G.bipush C 16 dX4_ownerOf_5 (by decide) ?_
      refine G.icmp_ge C 40 dX4_ownerOf_7 (by decide) (fun _ => ?_) (fun h => absurd (nI_le (a := 16) (b := 16) (by omega) (by decide)) h)
      refine G.ildn2 C dX4_ownerOf_40 ?_
      exact G.iret C hlk hrt dX4_ownerOf_41 (by rfl) (by exact fun _ h => h)
    | succ n ih =>
      intro k hk
      have hk2 : k < 16 := by omega
      refine G.ildn3 C dX4_ownerOf_4 ?_
      refine G.bipush C 16 dX4_ownerOf_5 (by decide) ?_
      refine G.icmp_ge C 40 dX4_ownerOf_7 (by decide) (fun h => absurd h (nI_ge (b := 16) hk2 (by decide))) (fun _ => ?_)
      refine G.aldn0 C dX4_ownerOf_10 ?_
      refine G.ildn3 C dX4_ownerOf_11 ?_
      refine G.callVI1 C (k_X4_isDove l) (cwV 1 C.1.2.2.2.2 gX4_ownerOf_X4_isDove rfl rfl rfl (by decide +kernel) ⟨Nat.le_of_ble_eq_true rfl, Nat.le_of_ble_eq_true rfl⟩) gO_d rfl (Nat.le_of_ble_eq_true rfl) dX4_ownerOf_12 ?_
      refine G.if_eqB C 32 dX4_ownerOf_15 (by decide) (fun h15 => ?_) (fun h15 => ?_)
      · refine G.ildn2 C dX4_ownerOf_32 ?_
        refine G.istn2 C dX4_ownerOf_33 (by omega) rfl ?_
        refine G.iincN3 C dX4_ownerOf_34 (by omega) rfl ?_
        refine G.goto C 4 dX4_ownerOf_37 (by decide) ?_
        exact G.back (ih (k + 1) (by omega) ) rfl ⟨(by first | rfl | simp [lastP, *]), (by first | rfl | simp [lastP, *]), (by first | rfl | simp [lastP, *]), (by first | rfl | simp [lastP, *]), trivial⟩
      · refine G.aldn0 C dX4_ownerOf_18 ?_
        refine G.ildn3 C dX4_ownerOf_19 ?_
        refine G.iconst C 1 dX4_ownerOf_20 (by decide) ?_
        refine G.callVI2 C (k_X4_of l (w := 1) (q := 9 * k + 1) (by first | assumption | exact vp_in_nI (by omega) (by omega) | exact mDove_in (by assumption) | exact mSit_in (by assumption)) (by omega) (by rw [ix_nI (by omega)])) (cwV 2 C.1.2.2.2.2 gX4_ownerOf_X4_of rfl rfl rfl (by decide +kernel) ⟨Nat.le_of_ble_eq_true rfl, Nat.le_of_ble_eq_true rfl⟩) gO_d rfl (Nat.le_of_ble_eq_true rfl) dX4_ownerOf_21 ?_
        refine G.ildn1 C dX4_ownerOf_24 ?_
        refine G.icmp_ne C 32 dX4_ownerOf_25 (by decide) (fun h25 => ?_) (fun h25 => ?_)
        · refine G.ildn2 C dX4_ownerOf_32 ?_
          refine G.istn2 C dX4_ownerOf_33 (by omega) rfl ?_
          refine G.iincN3 C dX4_ownerOf_34 (by omega) rfl ?_
          refine G.goto C 4 dX4_ownerOf_37 (by decide) ?_
          exact G.back (ih (k + 1) (by omega) ) rfl ⟨(by first | rfl | simp [lastP, *]), (by first | rfl | simp [lastP, *]), (by first | rfl | simp [lastP, *]), (by first | rfl | simp [lastP, *]), trivial⟩
        · refine G.ildn3 C dX4_ownerOf_28 ?_
          refine G.goto C 33 dX4_ownerOf_29 (by decide) ?_
          refine G.istn2 C dX4_ownerOf_33 (by omega) rfl ?_
          refine G.iincN3 C dX4_ownerOf_34 (by omega) rfl ?_
          refine G.goto C 4 dX4_ownerOf_37 (by decide) ?_
          exact G.back (ih (k + 1) (by omega) ) rfl ⟨(by first | rfl | simp [lastP, *]), (by first | rfl | simp [lastP, *]), (by first | rfl | simp [lastP, *]), (by first | rfl | simp [lastP, *]), trivial⟩
  exact G.back (L4 16 0 (Nat.zero_add _) ) rfl ⟨(by first | rfl | simp [lastP]), (by first | rfl | simp [lastP]), (by first | rfl | simp [lastP]), (by first | rfl | simp [lastP]), trivial⟩
set_option maxRecDepth 100000 in
set_option maxHeartbeats 4000000 in
theorem k_X4_allDoves (l : Launch) {E : gEn} {σ : gSt} {π : Nat → Nat} {o : Int64} {d : cSt} : CtI l yX4_allDoves wsX4_allDoves ({ frames := 1, cells := 0, slots := 0, locals := 22 } : Room) E [.ref (E.2.1 10 0)] (gU σ 10 d) π o (mAll d) (gU σ 10 d) π o := by
  refine CtI.of (cc := cX4_allDoves) (own := RX4) (maxL := 3) (ret := (some .int)) [some (.ref (E.2.1 10 0)), none, none] (by decide) rfl rfl (Nat.le_of_ble_eq_true rfl) rfl ?_
  intro p e s m args below meth cd C hrt hlk
  have hinX4 : ∀ w ∈ wsX40, w ∈ wsX4_allDoves := by decide +kernel
  refine G.iconst C 0 dX4_allDoves_0 (by decide) ?_
  refine G.istn1 C dX4_allDoves_1 (by omega) rfl ?_
  refine G.iconst C 0 dX4_allDoves_2 (by decide) ?_
  refine G.istn2 C dX4_allDoves_3 (by omega) rfl ?_
  have L4 : ∀ (n k : Nat), k + n = 16 → G p l e ({ frames := 1, cells := 0, slots := 0, locals := 22 } : Room) s m args below meth cd 3 0 0 (gA E) (gQI below args s (mAll d) E (gU σ 10 d) π o) E (gU σ 10 d) π o 4 [some (.ref (E.2.1 10 0)), some (.int (sumP (fun k => d 1 (9 * k)) k)), some (.int (nI k))] [] := by
    intro n
    induction n with
    | zero =>
      intro k hk
      obtain rfl : 16 = k := by omega
      refine G.ildn2 C dX4_allDoves_4 ?_
      refine G.bipush C 16 dX4_allDoves_5 (by decide) ?_
      refine G.icmp_ge C 25 dX4_allDoves_7 (by decide) (fun _ => ?_) (fun h => absurd (nI_le (a := 16) (b := 16) (by omega) (by decide)) h)
      refine G.ildn1 C dX4_allDoves_25 ?_
      exact G.iret C hlk hrt dX4_allDoves_26 (by rfl) (by exact fun _ h => h)
    | succ n ih =>
      intro k hk
      have hk2 : k < 16 := by omega
      refine G.ildn2 C dX4_allDoves_4 ?_
      refine G.bipush C 16 dX4_allDoves_5 (by decide) ?_
      refine G.icmp_ge C 25 dX4_allDoves_7 (by decide) (fun h => absurd h (nI_ge (b := 16) hk2 (by decide))) (fun _ => ?_)
      refine G.ildn1 C dX4_allDoves_10 ?_
      refine G.aldn0 C dX4_allDoves_11 ?_
      refine G.ildn2 C dX4_allDoves_12 ?_
      refine G.iconst C 0 dX4_allDoves_13 (by decide) ?_
      refine G.callVI2 C (k_X4_of l (w := 0) (q := 9 * k) (by first | assumption | exact vp_in_nI (by omega) (by omega) | exact mDove_in (by assumption) | exact mSit_in (by assumption)) (by omega) (by rw [ix_nI (by omega)]; rfl)) (cwV 2 C.1.2.2.2.2 gX4_allDoves_X4_of rfl rfl rfl (by decide +kernel) ⟨Nat.le_of_ble_eq_true rfl, Nat.le_of_ble_eq_true rfl⟩) gO_d rfl (Nat.le_of_ble_eq_true rfl) dX4_allDoves_14 ?_
      refine G.iadd C dX4_allDoves_17 ?_
      refine G.istn1 C dX4_allDoves_18 (by omega) rfl ?_
      refine G.iincN2 C dX4_allDoves_19 (by omega) rfl ?_
      refine G.goto C 4 dX4_allDoves_22 (by decide) ?_
      exact G.back (ih (k + 1) (by omega) ) rfl ⟨(by first | rfl | simp [sumP]), (by first | rfl | simp [sumP]), (by first | rfl | simp [sumP]), trivial⟩
  exact G.back (L4 16 0 (Nat.zero_add _) ) rfl ⟨(by first | rfl | simp [sumP]), (by first | rfl | simp [sumP]), (by first | rfl | simp [sumP]), trivial⟩
set_option maxRecDepth 100000 in
set_option maxHeartbeats 4000000 in
theorem k_X4_dovesAt (l : Launch) {E : gEn} {σ : gSt} {π : Nat → Nat} {o : Int64} {d : cSt} {a b : Int32} : CtI l yX4_dovesAt wsX4_dovesAt ({ frames := 2, cells := 0, slots := 0, locals := 43 } : Room) E [.ref (E.2.1 10 0), .int a, .int b] (gU σ 10 d) π o (mAt d a b) (gU σ 10 d) π o := by
  refine CtI.of (cc := cX4_dovesAt) (own := RX4) (maxL := 5) (ret := (some .int)) [some (.ref (E.2.1 10 0)), some (.int a), some (.int b), none, none] (by decide) rfl rfl (Nat.le_of_ble_eq_true rfl) rfl ?_
  intro p e s m args below meth cd C hrt hlk
  have hinX4 : ∀ w ∈ wsX40, w ∈ wsX4_dovesAt := by decide +kernel
  refine G.iconst C 0 dX4_dovesAt_0 (by decide) ?_
  refine G.istn3 C dX4_dovesAt_1 (by omega) rfl ?_
  refine G.iconst C 0 dX4_dovesAt_2 (by decide) ?_
  refine G.ist4 C dX4_dovesAt_3 (by omega) rfl ?_
  have L5 : ∀ (n k : Nat), k + n = 16 → G p l e ({ frames := 2, cells := 0, slots := 0, locals := 43 } : Room) s m args below meth cd 5 0 0 (gA E) (gQI below args s (mAt d a b) E (gU σ 10 d) π o) E (gU σ 10 d) π o 5 [some (.ref (E.2.1 10 0)), some (.int a), some (.int b), some (.int (nI (cnt (fun k => mDove d (nI k) && mIn (d 1 (9 * k + 3)) a b) k))), some (.int (nI k))] [] := by
    intro n
    induction n with
    | zero =>
      intro k hk
      obtain rfl : 16 = k := by omega
      refine G.ild4 C dX4_dovesAt_5 ?_
      refine G.bipush C 16 dX4_dovesAt_7 (by decide) ?_
      refine G.icmp_ge C 50 dX4_dovesAt_9 (by decide) (fun _ => ?_) (fun h => absurd (nI_le (a := 16) (b := 16) (by omega) (by decide)) h)
      refine G.ildn3 C dX4_dovesAt_50 ?_
      exact G.iret C hlk hrt dX4_dovesAt_51 (by rfl) (by exact fun _ h => h)
    | succ n ih =>
      intro k hk
      have hk2 : k < 16 := by omega
      refine G.ild4 C dX4_dovesAt_5 ?_
      refine G.bipush C 16 dX4_dovesAt_7 (by decide) ?_
      refine G.icmp_ge C 50 dX4_dovesAt_9 (by decide) (fun h => absurd h (nI_ge (b := 16) hk2 (by decide))) (fun _ => ?_)
      refine G.ildn3 C dX4_dovesAt_12 ?_
      refine G.aldn0 C dX4_dovesAt_13 ?_
      refine G.ild4 C dX4_dovesAt_14 ?_
      refine G.callVI1 C (k_X4_isDove l) (cwV 1 C.1.2.2.2.2 gX4_dovesAt_X4_isDove rfl rfl rfl (by decide +kernel) ⟨Nat.le_of_ble_eq_true rfl, Nat.le_of_ble_eq_true rfl⟩) gO_d rfl (Nat.le_of_ble_eq_true rfl) dX4_dovesAt_16 ?_
      refine G.if_eqB C 41 dX4_dovesAt_19 (by decide) (fun h19 => ?_) (fun h19 => ?_)
      · refine G.iconst C 0 dX4_dovesAt_41 (by decide) ?_
        refine G.iadd C dX4_dovesAt_42 ?_
        refine G.istn3 C dX4_dovesAt_43 (by omega) rfl ?_
        refine G.iincN4 C dX4_dovesAt_44 (by omega) rfl ?_
        refine G.goto C 5 dX4_dovesAt_47 (by decide) ?_
        exact G.back (ih (k + 1) (by omega) ) rfl ⟨(by first | rfl | simp [cnt, *, nI_1]), (by first | rfl | simp [cnt, *, nI_1]), (by first | rfl | simp [cnt, *, nI_1]), (by first | rfl | simp [cnt, *, nI_1]), (by first | rfl | simp [cnt, *, nI_1]), trivial⟩
      · refine G.aldn0 C dX4_dovesAt_22 ?_
        refine G.ild4 C dX4_dovesAt_23 ?_
        refine G.iconst C 3 dX4_dovesAt_25 (by decide) ?_
        refine G.callVI2 C (k_X4_of l (w := 3) (q := 9 * k + 3) (by first | assumption | exact vp_in_nI (by omega) (by omega) | exact mDove_in (by assumption) | exact mSit_in (by assumption)) (by omega) (by rw [ix_nI (by omega)])) (cwV 2 C.1.2.2.2.2 gX4_dovesAt_X4_of rfl rfl rfl (by decide +kernel) ⟨Nat.le_of_ble_eq_true rfl, Nat.le_of_ble_eq_true rfl⟩) gO_d rfl (Nat.le_of_ble_eq_true rfl) dX4_dovesAt_26 ?_
        refine G.ildn1 C dX4_dovesAt_29 ?_
        refine G.ildn2 C dX4_dovesAt_30 ?_
        refine G.callSI3 C (k_X4_in l) (va_cwS 3 C.1.2.2.2.2 gX4_dovesAt_X4_in rfl rfl rfl (by decide +kernel) ⟨Nat.le_of_ble_eq_true rfl, Nat.le_of_ble_eq_true rfl⟩) (Nat.le_of_ble_eq_true rfl) dX4_dovesAt_31 ?_
        refine G.if_eqB C 41 dX4_dovesAt_34 (by decide) (fun h34 => ?_) (fun h34 => ?_)
        · refine G.iconst C 0 dX4_dovesAt_41 (by decide) ?_
          refine G.iadd C dX4_dovesAt_42 ?_
          refine G.istn3 C dX4_dovesAt_43 (by omega) rfl ?_
          refine G.iincN4 C dX4_dovesAt_44 (by omega) rfl ?_
          refine G.goto C 5 dX4_dovesAt_47 (by decide) ?_
          exact G.back (ih (k + 1) (by omega) ) rfl ⟨(by first | rfl | simp [cnt, *, nI_1]), (by first | rfl | simp [cnt, *, nI_1]), (by first | rfl | simp [cnt, *, nI_1]), (by first | rfl | simp [cnt, *, nI_1]), (by first | rfl | simp [cnt, *, nI_1]), trivial⟩
        · refine G.iconst C 1 dX4_dovesAt_37 (by decide) ?_
          refine G.goto C 42 dX4_dovesAt_38 (by decide) ?_
          refine G.iadd C dX4_dovesAt_42 ?_
          refine G.istn3 C dX4_dovesAt_43 (by omega) rfl ?_
          refine G.iincN4 C dX4_dovesAt_44 (by omega) rfl ?_
          refine G.goto C 5 dX4_dovesAt_47 (by decide) ?_
          exact G.back (ih (k + 1) (by omega) ) rfl ⟨(by first | rfl | simp [cnt, *, nI_1]), (by first | rfl | simp [cnt, *, nI_1]), (by first | rfl | simp [cnt, *, nI_1]), (by first | rfl | simp [cnt, *, nI_1]), (by first | rfl | simp [cnt, *, nI_1]), trivial⟩
  exact G.back (L5 16 0 (Nat.zero_add _) ) rfl ⟨(by first | rfl | simp [cnt]), (by first | rfl | simp [cnt]), (by first | rfl | simp [cnt]), (by first | rfl | simp [cnt]), (by first | rfl | simp [cnt]), trivial⟩
set_option maxRecDepth 100000 in
set_option maxHeartbeats 4000000 in
theorem k_X4_openHoles (l : Launch) {E : gEn} {σ : gSt} {π : Nat → Nat} {o : Int64} {d : cSt} : CtI l yX4_openHoles wsX4_openHoles ({ frames := 1, cells := 0, slots := 0, locals := 21 } : Room) E [.ref (E.2.1 10 0)] (gU σ 10 d) π o (mOpens d) (gU σ 10 d) π o := by
  refine CtI.of (cc := cX4_openHoles) (own := RX4) (maxL := 3) (ret := (some .int)) [some (.ref (E.2.1 10 0)), none, none] (by decide) rfl rfl (Nat.le_of_ble_eq_true rfl) rfl ?_
  intro p e s m args below meth cd C hrt hlk
  have hinX4 : ∀ w ∈ wsX40, w ∈ wsX4_openHoles := by decide +kernel
  refine G.iconst C 0 dX4_openHoles_0 (by decide) ?_
  refine G.istn1 C dX4_openHoles_1 (by omega) rfl ?_
  refine G.iconst C 0 dX4_openHoles_2 (by decide) ?_
  refine G.istn2 C dX4_openHoles_3 (by omega) rfl ?_
  have L4 : ∀ (n k : Nat), k + n = 24 → G p l e ({ frames := 1, cells := 0, slots := 0, locals := 21 } : Room) s m args below meth cd 3 0 0 (gA E) (gQI below args s (mOpens d) E (gU σ 10 d) π o) E (gU σ 10 d) π o 4 [some (.ref (E.2.1 10 0)), some (.int (nI (cnt (fun k => mOpen d (nI k)) k))), some (.int (nI k))] [] := by
    intro n
    induction n with
    | zero =>
      intro k hk
      obtain rfl : 24 = k := by omega
      refine G.ildn2 C dX4_openHoles_4 ?_
      refine G.bipush C 24 dX4_openHoles_5 (by decide) ?_
      refine G.icmp_ge C 32 dX4_openHoles_7 (by decide) (fun _ => ?_) (fun h => absurd (nI_le (a := 24) (b := 24) (by omega) (by decide)) h)
      refine G.ildn1 C dX4_openHoles_32 ?_
      exact G.iret C hlk hrt dX4_openHoles_33 (by rfl) (by exact fun _ h => h)
    | succ n ih =>
      intro k hk
      have hk2 : k < 24 := by omega
      refine G.ildn2 C dX4_openHoles_4 ?_
      refine G.bipush C 24 dX4_openHoles_5 (by decide) ?_
      refine G.icmp_ge C 32 dX4_openHoles_7 (by decide) (fun h => absurd h (nI_ge (b := 24) hk2 (by decide))) (fun _ => ?_)
      refine G.ildn1 C dX4_openHoles_10 ?_
      refine G.aldn0 C dX4_openHoles_11 ?_
      refine G.ildn2 C dX4_openHoles_12 ?_
      refine G.callVI1 C (k_X4_isOpen l (by first | assumption | exact vp_in_nI (by omega) (by omega))) (cwV 1 C.1.2.2.2.2 gX4_openHoles_X4_isOpen rfl rfl rfl (by decide +kernel) ⟨Nat.le_of_ble_eq_true rfl, Nat.le_of_ble_eq_true rfl⟩) gO_d rfl (Nat.le_of_ble_eq_true rfl) dX4_openHoles_13 ?_
      refine G.if_eqB C 23 dX4_openHoles_16 (by decide) (fun h16 => ?_) (fun h16 => ?_)
      · refine G.iconst C 0 dX4_openHoles_23 (by decide) ?_
        refine G.iadd C dX4_openHoles_24 ?_
        refine G.istn1 C dX4_openHoles_25 (by omega) rfl ?_
        refine G.iincN2 C dX4_openHoles_26 (by omega) rfl ?_
        refine G.goto C 4 dX4_openHoles_29 (by decide) ?_
        exact G.back (ih (k + 1) (by omega) ) rfl ⟨(by first | rfl | simp [cnt, *, nI_1]), (by first | rfl | simp [cnt, *, nI_1]), (by first | rfl | simp [cnt, *, nI_1]), trivial⟩
      · refine G.iconst C 1 dX4_openHoles_19 (by decide) ?_
        refine G.goto C 24 dX4_openHoles_20 (by decide) ?_
        refine G.iadd C dX4_openHoles_24 ?_
        refine G.istn1 C dX4_openHoles_25 (by omega) rfl ?_
        refine G.iincN2 C dX4_openHoles_26 (by omega) rfl ?_
        refine G.goto C 4 dX4_openHoles_29 (by decide) ?_
        exact G.back (ih (k + 1) (by omega) ) rfl ⟨(by first | rfl | simp [cnt, *, nI_1]), (by first | rfl | simp [cnt, *, nI_1]), (by first | rfl | simp [cnt, *, nI_1]), trivial⟩
  exact G.back (L4 24 0 (Nat.zero_add _) ) rfl ⟨(by first | rfl | simp [cnt]), (by first | rfl | simp [cnt]), (by first | rfl | simp [cnt]), trivial⟩
set_option maxRecDepth 100000 in
set_option maxHeartbeats 4000000 in
theorem k_X4_pairs (l : Launch) {E : gEn} {σ : gSt} {π : Nat → Nat} {o : Int64} {d : cSt} : CtI l yX4_pairs wsX4_pairs ({ frames := 2, cells := 0, slots := 0, locals := 43 } : Room) E [.ref (E.2.1 10 0)] (gU σ 10 d) π o (mPairs d) (gU σ 10 d) π o := by
  refine CtI.of (cc := cX4_pairs) (own := RX4) (maxL := 3) (ret := (some .int)) [some (.ref (E.2.1 10 0)), none, none] (by decide) rfl rfl (Nat.le_of_ble_eq_true rfl) rfl ?_
  intro p e s m args below meth cd C hrt hlk
  have hinX4 : ∀ w ∈ wsX40, w ∈ wsX4_pairs := by decide +kernel
  refine G.iconst C 0 dX4_pairs_0 (by decide) ?_
  refine G.istn1 C dX4_pairs_1 (by omega) rfl ?_
  refine G.iconst C 0 dX4_pairs_2 (by decide) ?_
  refine G.istn2 C dX4_pairs_3 (by omega) rfl ?_
  have L4 : ∀ (n k : Nat), k + n = 16 → G p l e ({ frames := 2, cells := 0, slots := 0, locals := 43 } : Room) s m args below meth cd 3 0 0 (gA E) (gQI below args s (mPairs d) E (gU σ 10 d) π o) E (gU σ 10 d) π o 4 [some (.ref (E.2.1 10 0)), some (.int (nI (cnt (fun k => mDove d (nI k) && decide (¬ d 1 (9 * k + 4) ≤ nI k)) k))), some (.int (nI k))] [] := by
    intro n
    induction n with
    | zero =>
      intro k hk
      obtain rfl : 16 = k := by omega
      refine G.ildn2 C dX4_pairs_4 ?_
      refine G.bipush C 16 dX4_pairs_5 (by decide) ?_
      refine G.icmp_ge C 42 dX4_pairs_7 (by decide) (fun _ => ?_) (fun h => absurd (nI_le (a := 16) (b := 16) (by omega) (by decide)) h)
      refine G.ildn1 C dX4_pairs_42 ?_
      exact G.iret C hlk hrt dX4_pairs_43 (by rfl) (by exact fun _ h => h)
    | succ n ih =>
      intro k hk
      have hk2 : k < 16 := by omega
      refine G.ildn2 C dX4_pairs_4 ?_
      refine G.bipush C 16 dX4_pairs_5 (by decide) ?_
      refine G.icmp_ge C 42 dX4_pairs_7 (by decide) (fun h => absurd h (nI_ge (b := 16) hk2 (by decide))) (fun _ => ?_)
      refine G.ildn1 C dX4_pairs_10 ?_
      refine G.aldn0 C dX4_pairs_11 ?_
      refine G.ildn2 C dX4_pairs_12 ?_
      refine G.callVI1 C (k_X4_isDove l) (cwV 1 C.1.2.2.2.2 gX4_pairs_X4_isDove rfl rfl rfl (by decide +kernel) ⟨Nat.le_of_ble_eq_true rfl, Nat.le_of_ble_eq_true rfl⟩) gO_d rfl (Nat.le_of_ble_eq_true rfl) dX4_pairs_13 ?_
      refine G.if_eqB C 33 dX4_pairs_16 (by decide) (fun h16 => ?_) (fun h16 => ?_)
      · refine G.iconst C 0 dX4_pairs_33 (by decide) ?_
        refine G.iadd C dX4_pairs_34 ?_
        refine G.istn1 C dX4_pairs_35 (by omega) rfl ?_
        refine G.iincN2 C dX4_pairs_36 (by omega) rfl ?_
        refine G.goto C 4 dX4_pairs_39 (by decide) ?_
        exact G.back (ih (k + 1) (by omega) ) rfl ⟨(by first | rfl | simp [cnt, *, nI_1]), (by first | rfl | simp [cnt, *, nI_1]), (by first | rfl | simp [cnt, *, nI_1]), trivial⟩
      · refine G.aldn0 C dX4_pairs_19 ?_
        refine G.ildn2 C dX4_pairs_20 ?_
        refine G.iconst C 4 dX4_pairs_21 (by decide) ?_
        refine G.callVI2 C (k_X4_of l (w := 4) (q := 9 * k + 4) (by first | assumption | exact vp_in_nI (by omega) (by omega) | exact mDove_in (by assumption) | exact mSit_in (by assumption)) (by omega) (by rw [ix_nI (by omega)])) (cwV 2 C.1.2.2.2.2 gX4_pairs_X4_of rfl rfl rfl (by decide +kernel) ⟨Nat.le_of_ble_eq_true rfl, Nat.le_of_ble_eq_true rfl⟩) gO_d rfl (Nat.le_of_ble_eq_true rfl) dX4_pairs_22 ?_
        refine G.ildn2 C dX4_pairs_25 ?_
        refine G.icmp_le C 33 dX4_pairs_26 (by decide) (fun h26 => ?_) (fun h26 => ?_)
        · refine G.iconst C 0 dX4_pairs_33 (by decide) ?_
          refine G.iadd C dX4_pairs_34 ?_
          refine G.istn1 C dX4_pairs_35 (by omega) rfl ?_
          refine G.iincN2 C dX4_pairs_36 (by omega) rfl ?_
          refine G.goto C 4 dX4_pairs_39 (by decide) ?_
          exact G.back (ih (k + 1) (by omega) ) rfl ⟨(by first | rfl | simp [cnt, *, nI_1]), (by first | rfl | simp [cnt, *, nI_1]), (by first | rfl | simp [cnt, *, nI_1]), trivial⟩
        · refine G.iconst C 1 dX4_pairs_29 (by decide) ?_
          refine G.goto C 34 dX4_pairs_30 (by decide) ?_
          refine G.iadd C dX4_pairs_34 ?_
          refine G.istn1 C dX4_pairs_35 (by omega) rfl ?_
          refine G.iincN2 C dX4_pairs_36 (by omega) rfl ?_
          refine G.goto C 4 dX4_pairs_39 (by decide) ?_
          exact G.back (ih (k + 1) (by omega) ) rfl ⟨(by first | rfl | simp [cnt, *, nI_1]), (by first | rfl | simp [cnt, *, nI_1]), (by first | rfl | simp [cnt, *, nI_1]), trivial⟩
  exact G.back (L4 16 0 (Nat.zero_add _) ) rfl ⟨(by first | rfl | simp [cnt]), (by first | rfl | simp [cnt]), (by first | rfl | simp [cnt]), trivial⟩
set_option maxRecDepth 100000 in
set_option maxHeartbeats 4000000 in
theorem k_X4_isFree (l : Launch) {E : gEn} {σ : gSt} {π : Nat → Nat} {o : Int64} {d : cSt} {x : Int32} (hx : vp_in x 24) : CtI l yX4_isFree wsX4_isFree ({ frames := 3, cells := 0, slots := 0, locals := 66 } : Room) E [.ref (E.2.1 10 0), .int x] (gU σ 10 d) π o (bI (mFree d x)) (gU σ 10 d) π o := by
  refine CtI.of (cc := cX4_isFree) (own := RX4) (maxL := 2) (ret := (some .boolean)) [some (.ref (E.2.1 10 0)), some (.int x)] (by decide) rfl rfl (Nat.le_of_ble_eq_true rfl) rfl ?_
  intro p e s m args below meth cd C hrt hlk
  have hinX4 : ∀ w ∈ wsX40, w ∈ wsX4_isFree := by decide +kernel
  refine G.aldn0 C dX4_isFree_0 ?_
  refine G.ildn1 C dX4_isFree_1 ?_
  refine G.callVI1 C (k_X4_isOpen l (by first | assumption | exact vp_in_nI (by omega) (by omega))) (cwV 1 C.1.2.2.2.2 gX4_isFree_X4_isOpen rfl rfl rfl (by decide +kernel) ⟨Nat.le_of_ble_eq_true rfl, Nat.le_of_ble_eq_true rfl⟩) gO_d rfl (Nat.le_of_ble_eq_true rfl) dX4_isFree_2 ?_
  refine G.if_eqB C 20 dX4_isFree_5 (by decide) (fun h5 => ?_) (fun h5 => ?_)
  · refine G.iconst C 0 dX4_isFree_20 (by decide) ?_
    exact G.zret C hlk hrt dX4_isFree_21 (by simp [mFree, *, bI]) (by exact fun _ h => h)
  · refine G.aldn0 C dX4_isFree_8 ?_
    refine G.ildn1 C dX4_isFree_9 ?_
    refine G.callVI1 C (k_X4_sitter l) (cwV 1 C.1.2.2.2.2 gX4_isFree_X4_sitter rfl rfl rfl (by decide +kernel) ⟨Nat.le_of_ble_eq_true rfl, Nat.le_of_ble_eq_true rfl⟩) gO_d rfl (Nat.le_of_ble_eq_true rfl) dX4_isFree_10 ?_
    refine G.if_ge C 20 dX4_isFree_13 (by decide) (fun h13 => ?_) (fun h13 => ?_)
    · refine G.iconst C 0 dX4_isFree_20 (by decide) ?_
      exact G.zret C hlk hrt dX4_isFree_21 (by simp [mFree, *, bI]) (by exact fun _ h => h)
    · refine G.iconst C 1 dX4_isFree_16 (by decide) ?_
      refine G.goto C 21 dX4_isFree_17 (by decide) ?_
      exact G.zret C hlk hrt dX4_isFree_21 (by simp [mFree, *, bI]) (by exact fun _ h => h)
