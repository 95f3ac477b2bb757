/-! the law's isSo -/
section GIS
variable {p : Program} {l : Launch} {e : Env} {R : Room} {s : State} {m : MethodId} {args : Array Value} {below : List Frame} {meth : Method} {c : Code} {Q : State → Prop} {cc : ByteArray} {own : String} {Ts : List Cond} {nL cl sl : Nat} {E : gEn} {A : Nat → Prop} {σ : gSt} {π : Nat → Nat} {o : Int64}
theorem G.dcmp (C : gCx p s m c cc nL own Ts args E A R cl sl) {pc : Nat} {lv : List (Option Value)} {st : List Value} {x y : UInt64} {op : CmpOp} (hd : decode cc pc = .ok (.dcmp op, 1)) (k : G p l e R s m args below meth c nL cl sl A Q E σ π o (pc + 1) lv (.int (Op.cmpValue (FP.dcmp x y) op) :: st)) : G p l e R s m args below meth c nL cl sl A Q E σ π o pc lv (.double y :: .double x :: st) := fun H locs ls hW hS hl => lv_dcmp C.1.1 C.1.2.1 hd (k H locs ls hW hS hl)
end GIS
theorem nI_dec (n : Nat) : nI n + Int32.ofInt (-1) = nI n - 1 := by rw [Int32.sub_eq_add_neg]; rfl
theorem bI_sub (b : Bool) : 1 - bI b = bI (!b) := by cases b <;> decide
theorem bnot1 {b : Bool} (h : bI (!b) = 1) : b = false := by cases b; rfl; exact absurd h (by decide)
theorem bnotn {b : Bool} (h : ¬ bI (!b) = 1) : ¬ b = false := by cases b; exact absurd rfl h; decide
theorem cnt_t {P : Nat → Bool} {k : Nat} (h : P k = true) : cnt P k + 1 = cnt P (k + 1) := by rw [cnt, if_pos h]
theorem cnt_f {P : Nat → Bool} {k : Nat} (h : P k = false) : cnt P k = cnt P (k + 1) := by rw [cnt, if_neg (by rw [h]; decide)]
def lPrs (v : cSt) (k : Nat) : Bool := lIs v k && decide (¬ v 1 (4 * k + 3) ≤ nI k)
def lOwn (v : cSt) (k : Nat) : Bool := lIs v k && decide (v 1 (4 * k) = v 1 (4 * k + 2))
theorem prs_t {v : cSt} {k : Nat} (h : lIs v k = true) (h2 : ¬ v 1 (4 * k + 3) ≤ nI k) : lPrs v k = true := by unfold lPrs; rw [h, decide_eq_true h2]; rfl
theorem prs_f {v : cSt} {k : Nat} (h2 : v 1 (4 * k + 3) ≤ nI k) : lPrs v k = false := by unfold lPrs; rw [decide_eq_false (fun w => w h2)]; exact Bool.and_false _
theorem prs_0 {v : cSt} {k : Nat} (h : lIs v k = false) : lPrs v k = false := by unfold lPrs; rw [h]; rfl
theorem own_t {v : cSt} {k : Nat} (h : lIs v k = true) (h2 : v 1 (4 * k) = v 1 (4 * k + 2)) : lOwn v k = true := by unfold lOwn; rw [h, decide_eq_true h2]; rfl
theorem own_f {v : cSt} {k : Nat} (h2 : ¬ v 1 (4 * k) = v 1 (4 * k + 2)) : lOwn v k = false := by unfold lOwn; rw [decide_eq_false h2]; exact Bool.and_false _
theorem own_0 {v : cSt} {k : Nat} (h : lIs v k = false) : lOwn v k = false := by unfold lOwn; rw [h]; rfl
def lOpK (v : cSt) (k : Nat) : Nat := cnt (fun j => !(lBit (v 0 1) (23 - j))) k
def lFrD (v : cSt) : Nat → Int32
  | 0 => -1
  | k + 1 => if lBit (v 0 1) (23 - k) = false then (if lOwner v (nI (23 - k)) < 0 then nI (23 - k) else lFrD v k) else lFrD v k
def lShr (v : cSt) : UInt64 := if nI (cnt (fun q => lIs v q) 16) = 0 then FP.dconst1 else FP.ddiv (FP.i2d (nI (cnt (fun q => lOwn v q) 16))) (FP.i2d (nI (cnt (fun q => lIs v q) 16)))
theorem lOp_s {v : cSt} {k n : Nat} (h : k + (n + 1) = 24) : nI (lOpK v k) + bI (!(lBit (v 0 1) n)) = nI (lOpK v (k + 1)) := by
  have e : lOpK v (k + 1) = if (!(lBit (v 0 1) (23 - k))) = true then lOpK v k + 1 else lOpK v k := rfl
  rw [e, show 23 - k = n by omega]
  cases lBit (v 0 1) n
  · exact nI_1 _
  · exact Int32.add_zero _
theorem lFr_s {v : cSt} {k n : Nat} (h : k + (n + 1) = 24) : lFrD v (k + 1) = if lBit (v 0 1) n = false then (if lOwner v (nI n) < 0 then nI n else lFrD v k) else lFrD v k := by
  rw [lFrD, show 23 - k = n by omega]
def lSo (c0 v : cSt) : Prop :=
  (∀ k, k < 16 → lIs v k = cEx c0 (nI k)) ∧
  (∀ k, k < 16 → lIs v k = true → ∀ y, y < 4 → c0 (2 + y) k = v 1 (4 * k + y) ∧ c0 (2 + (4 + y)) k = v 2 (4 * k + y)) ∧
  (∀ h, h < 24 → c0 11 h = lSits v (nI h) ∧ c0 12 h = lOwner v (nI h) ∧ c0 13 h = bI (!(lBit (v 0 1) h))) ∧
  (∃ n0, n0 ≤ 25 ∧ v 0 12 = nI n0 ∧ c0 17 2 = nI n0 ∧ ∀ k, k < n0 → c0 18 k = v 3 k / 32 ∧ c0 19 k = v 3 k - v 3 k / 32 * 32) ∧
  (∀ k, k < 4 → cNum c0 (nI (11 + k)) = v 0 (8 + k)) ∧
  (cNum c0 0 = v 0 3 ∧ cNum c0 1 = v 0 2 ∧ cNum c0 2 = nI (cnt (fun q => lIs v q) 16) ∧ cNum c0 3 = lMany v 0 23 ∧ cNum c0 4 = lMany v 0 23 ∧ cNum c0 5 = lMany v 24 24 ∧ cNum c0 6 = lMany v (-1) (-1)) ∧
  (cNum c0 7 = nI (lOpK v 24) ∧ cNum c0 8 = nI (cnt (fun q => lPrs v q) 16) ∧ cNum c0 9 = v 0 6 ∧ cNum c0 10 = v 0 7 ∧ cNum c0 15 = v 0 4 ∧ cNum c0 16 = v 0 5) ∧
  tFH c0 24 0 = lFrD v 24 ∧ tShare c0 = lShr v
/-! the law's copy, isAhead -/
def lC0 (v w : cSt) : cSt := cCp w (lCp (v 0) (w 0) 13) 0
def lC1 (v w : cSt) : cSt := cCp w (lCp (v 1) (w 1) 64) 1
def lC2 (v w : cSt) : cSt := cCp w (lCp (v 2) (w 2) 64) 2
def lCC (v w : cSt) : cSt := lC2 v (lC1 v (lC0 v w))
/-- alike as far as g, a, b go -/
def wEq (v w : cSt) : Prop := (∀ q, q < 13 → w 0 q = v 0 q) ∧ (∀ q, q < 64 → w 1 q = v 1 q) ∧ (∀ q, q < 64 → w 2 q = v 2 q)
theorem wEq_C {v w : cSt} : wEq v (lC2 v (lC1 v (lC0 v w))) := by
  refine ⟨fun q hq => ?_, fun q hq => ?_, fun q hq => ?_⟩
  · unfold lC2 lC1 lC0; rw [cCp_ne (by decide), cCp_ne (by decide), cCp_at, lCp, if_pos hq]
  · unfold lC2 lC1; rw [cCp_ne (by decide), cCp_at, lCp, if_pos hq]
  · unfold lC2; rw [cCp_at, lCp, if_pos hq]
def lCm (w : cSt) (k : Nat) (t : Int32) : Prop := ∃ w0 mo, w 1 (4 * k) = nI w0 ∧ w0 < 24 ∧ mo ≤ 24 ∧ w 0 5 = nI mo ∧ lPath (w 0 6) 27 (lHome w k t).1 (lHome w k t).2
def lAllC (v w : cSt) (t : Int32) : Nat → cSt
  | 0 => w
  | k + 1 => if lIs v k = true then (if 0 ≤ v 1 (4 * k + 2) then lAllC v w t k else lCome (lAllC v w t k) k t) else lAllC v w t k
def lAh (c0 v : cSt) (t : Int32) : Prop :=
  (∀ k, k < 16 → lIs v k = cEx c0 (nI k)) ∧
  (∀ k, k < 16 → lIs v k = true → cWhyHome c0 (nI k) t = if v 1 (4 * k + 2) < 0 then (if v 0 2 ≤ t then 0 else 2) else 1) ∧
  (∀ k, k < 16 → lIs v k = true → v 1 (4 * k + 2) < 0 → v 0 2 ≤ t → ∀ w, wEq v w → lCm w k t ∧ tTN c0 (cCome c0 (nI k) t) (nI k) 0 = lCome w k t 1 (4 * k + 2) ∧ tTN c0 (cCome c0 (nI k) t) (nI k) 1 = lCome w k t 0 6 - w 0 6 ∧ tTN c0 (cCome c0 (nI k) t) (nI k) 2 = lMany (lCome w k t) 24 24 - lMany v 24 24) ∧
  (∀ t', t' = 1439 ∨ t' = v 0 2 → ∀ w, wEq v w → ∀ k, k < 16 → lIs v k = true → v 1 (4 * k + 2) < 0 → lCm (lAllC v w t' k) k t') ∧
  (∀ w w', wEq v w → wEq v w' → tGood c0 = if lMany (lAllC v w' (v 0 2) 16) 0 23 ≤ lMany (lAllC v w 1439 16) 0 23 then 1 else 0)
