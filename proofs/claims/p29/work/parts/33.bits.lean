/-! ints as sets of bits -/
def lBit (x : Int32) (k : Nat) : Bool := x.toBitVec.getLsbD k
theorem l_sm : ∀ n, n < 32 → ((nI n &&& 31).toBitVec.smod 32).toNat = n := by decide +kernel
theorem l_tp : ∀ l, l < 32 → ((1 : Int32) <<< (nI l &&& 31)).toBitVec = BitVec.twoPow 32 l := by decide +kernel
theorem lBit_and {x y : Int32} {k : Nat} : lBit (x &&& y) k = (lBit x k && lBit y k) := by
  unfold lBit; rw [Int32.toBitVec_and, BitVec.getLsbD_and]
theorem lBit_or {x y : Int32} {k : Nat} : lBit (x ||| y) k = (lBit x k || lBit y k) := by
  unfold lBit; rw [Int32.toBitVec_or, BitVec.getLsbD_or]
theorem lBit_xor {x y : Int32} {k : Nat} : lBit (x ^^^ y) k = (lBit x k ^^ lBit y k) := by
  unfold lBit; rw [Int32.toBitVec_xor, BitVec.getLsbD_xor]
theorem lBit_m1 {k : Nat} (hk : k < 32) : lBit (-1) k = true := by
  have : ∀ k, k < 32 → lBit (-1) k = true := by decide +kernel
  exact this k hk
theorem lBit_not {x : Int32} {k : Nat} (hk : k < 32) : lBit (x ^^^ -1) k = !(lBit x k) := by
  rw [lBit_xor, lBit_m1 hk]; cases lBit x k <;> rfl
theorem lBit_one {k j : Nat} (hk : k < 32) : lBit ((1 : Int32) <<< (nI k &&& 31)) j = decide (j = k) := by
  unfold lBit
  rw [l_tp k hk, BitVec.getLsbD_twoPow]
  by_cases h : j = k
  · subst h; simp [hk]
  · have : ¬ k = j := fun q => h q.symm
    simp [h, this]
theorem lBit_ext {x y : Int32} (h : ∀ k, k < 32 → lBit x k = lBit y k) : x = y := by
  apply Int32.toBitVec_inj.mp
  exact BitVec.eq_of_getLsbD_eq h
theorem lBit_bI {b : Bool} {k : Nat} : lBit (bI b) k = (b && decide (k = 0)) := by
  cases b
  · show (0#32).getLsbD k = _
    simp
  · show (1#32).getLsbD k = _
    rw [BitVec.getLsbD_one]; simp
theorem lBit_1 {k : Nat} : lBit 1 k = decide (k = 0) := by
  have := lBit_bI (b := true) (k := k)
  rw [Bool.true_and] at this
  exact this
theorem lBit_sh0 {x : Int32} {k : Nat} (hk : k < 32) : lBit (x >>> (nI k &&& 31)) 0 = lBit x k := by
  unfold lBit
  rw [Int32.toBitVec_shiftRight, BitVec.getLsbD_sshiftRight', l_sm k hk]
  simp [hk]
theorem lBit_sh {x : Int32} {k : Nat} (hk : k < 32) : (x >>> (nI k &&& 31)) &&& 1 = bI (lBit x k) := by
  refine lBit_ext fun j hj => ?_
  rw [lBit_and, lBit_1, lBit_bI]
  by_cases h : j = 0
  · subst h; rw [lBit_sh0 hk]
  · simp [h]
theorem bI_1 {b : Bool} : bI b = 1 ↔ b = true := by cases b <;> decide
theorem bI_n1 {b : Bool} (h : ¬ bI b = 1) : 0 = bI b := by cases b; rfl; exact absurd rfl h
def gN_lT : Prop := True
theorem gN_l {i j n : Nat} (hl : 10 ≤ i) (h : gLd j = n) : gN i j = some n := by
  unfold gN
  rw [if_neg (by omega), if_neg (by omega), h]
section GLB
variable {p : Program} {l : Launch} {e : Env} {R : Room} {s : State} {m : MethodId} {args : Array Value} {below : List Frame} {meth : Method} {c : Code} {Q : State → Prop} {cc : ByteArray} {own : String} {Ts : List Cond} {nL cl sl : Nat} {E : gEn} {A : Nat → Prop} {σ σ' : gSt} {π π' : Nat → Nat} {o o' : Int64}
theorem G.ldc (C : gCx p s m c cc nL own Ts args E A R cl sl) {pc : Nat} {lv : List (Option Value)} {st : List Value} {index : Nat} {v : Int32} (hc : (Jvm.Cond.constant own index v).before args s = true) (hd : decode cc pc = .ok (.ldc index, 2)) (k : G p l e R s m args below meth c nL cl sl A Q E σ π o (pc + 2) lv (.int v :: st)) : G p l e R s m args below meth c nL cl sl A Q E σ π o pc lv st :=
  fun H locs ls hW hS hl => lv_ldc C.1.1 C.1.2.1 C.1.2.2.2.1 hc hd (k H locs ls hW hS hl)
theorem G.alen (C : gCx p s m c cc nL own Ts args E A R cl sl) {pc : Nat} {lv : List (Option Value)} {st : List Value} {i j n : Nat} (hn : gN i j = some n) (hv : gV E i j) (hd : decode cc pc = .ok (.arraylength, 1)) (k : G p l e R s m args below meth c nL cl sl A Q E σ π o (pc + 1) lv (.int (nI n) :: st)) : G p l e R s m args below meth c nL cl sl A Q E σ π o pc lv (.ref (E.2.1 i j) :: st) :=
  fun H locs ls hW hS hl => va_alen C.1.1 C.1.2.1 C.2.1.1 (hW.one hv (gC_arr hn hv)) 0 0 rfl rfl rfl hd (k H locs ls hW hS hl)
theorem G.ishr (C : gCx p s m c cc nL own Ts args E A R cl sl) {pc : Nat} {lv : List (Option Value)} {st : List Value} {x y : Int32} (hd : decode cc pc = .ok (.ishr, 1)) (k : G p l e R s m args below meth c nL cl sl A Q E σ π o (pc + 1) lv (.int (x >>> (y &&& 31)) :: st)) : G p l e R s m args below meth c nL cl sl A Q E σ π o pc lv (.int y :: .int x :: st) :=
  fun H locs ls hW hS hl => lv_ishr C.1.1 C.1.2.1 hd (k H locs ls hW hS hl)
theorem G.ishl (C : gCx p s m c cc nL own Ts args E A R cl sl) {pc : Nat} {lv : List (Option Value)} {st : List Value} {x y : Int32} (hd : decode cc pc = .ok (.ishl, 1)) (k : G p l e R s m args below meth c nL cl sl A Q E σ π o (pc + 1) lv (.int (x <<< (y &&& 31)) :: st)) : G p l e R s m args below meth c nL cl sl A Q E σ π o pc lv (.int y :: .int x :: st) :=
  fun H locs ls hW hS hl => lv_ishl C.1.1 C.1.2.1 hd (k H locs ls hW hS hl)
theorem G.ixor (C : gCx p s m c cc nL own Ts args E A R cl sl) {pc : Nat} {lv : List (Option Value)} {st : List Value} {x y : Int32} (hd : decode cc pc = .ok (.ixor, 1)) (k : G p l e R s m args below meth c nL cl sl A Q E σ π o (pc + 1) lv (.int (x ^^^ y) :: st)) : G p l e R s m args below meth c nL cl sl A Q E σ π o pc lv (.int y :: .int x :: st) :=
  fun H locs ls hW hS hl => lv_ixor C.1.1 C.1.2.1 hd (k H locs ls hW hS hl)
theorem G.ior (C : gCx p s m c cc nL own Ts args E A R cl sl) {pc : Nat} {lv : List (Option Value)} {st : List Value} {x y : Int32} (hd : decode cc pc = .ok (.ior, 1)) (k : G p l e R s m args below meth c nL cl sl A Q E σ π o (pc + 1) lv (.int (x ||| y) :: st)) : G p l e R s m args below meth c nL cl sl A Q E σ π o pc lv (.int y :: .int x :: st) :=
  fun H locs ls hW hS hl => lv_ior C.1.1 C.1.2.1 hd (k H locs ls hW hS hl)
theorem G.ild10 (C : gCx p s m c cc nL own Ts args E A R cl sl) {pc : Nat}  {a0 a1 a2 a3 a4 a5 a6 a7 a8 a9 : Option Value} {r : List (Option Value)} {st : List Value} {x : Int32} (hd : decode cc pc = .ok (.iload 10, 2)) (k : G p l e R s m args below meth c nL cl sl A Q E σ π o (pc + 2) (a0 :: a1 :: a2 :: a3 :: a4 :: a5 :: a6 :: a7 :: a8 :: a9 :: some (.int x) :: r) (.int x :: st)) : G p l e R s m args below meth c nL cl sl A Q E σ π o pc (a0 :: a1 :: a2 :: a3 :: a4 :: a5 :: a6 :: a7 :: a8 :: a9 :: some (.int x) :: r) st :=
  fun H locs ls hW hS hl => lv_iload C.1.1 C.1.2.1 hd (hl.at rfl) (k H locs ls hW hS hl)
theorem G.ist10 (C : gCx p s m c cc nL own Ts args E A R cl sl) {pc : Nat}  {a0 a1 a2 a3 a4 a5 a6 a7 a8 a9 b : Option Value} {r : List (Option Value)} {st : List Value} {x : Int32} (hd : decode cc pc = .ok (.istore 10, 2)) (hn : 10 < nL) (h1 : lv1 (a0 :: a1 :: a2 :: a3 :: a4 :: a5 :: a6 :: a7 :: a8 :: a9 :: b :: r) 10 = true) (k : G p l e R s m args below meth c nL cl sl A Q E σ π o (pc + 2) (a0 :: a1 :: a2 :: a3 :: a4 :: a5 :: a6 :: a7 :: a8 :: a9 :: some (.int x) :: r) st) : G p l e R s m args below meth c nL cl sl A Q E σ π o pc (a0 :: a1 :: a2 :: a3 :: a4 :: a5 :: a6 :: a7 :: a8 :: a9 :: b :: r) (.int x :: st) :=
  fun H locs ls hW hS hl => lv_istore C.1.1 C.1.2.1 hd hl hn rfl (fun ls' h' => k H locs ls' hW hS (lh.filt (lv := (a0 :: a1 :: a2 :: a3 :: a4 :: a5 :: a6 :: a7 :: a8 :: a9 :: b :: r)) h' (fun k v hk hne => by simp only [Bool.and_eq_true]; exact ⟨by simp [hne], lv1_ok h1 hk⟩)))
theorem G.ild11 (C : gCx p s m c cc nL own Ts args E A R cl sl) {pc : Nat}  {a0 a1 a2 a3 a4 a5 a6 a7 a8 a9 a10 : Option Value} {r : List (Option Value)} {st : List Value} {x : Int32} (hd : decode cc pc = .ok (.iload 11, 2)) (k : G p l e R s m args below meth c nL cl sl A Q E σ π o (pc + 2) (a0 :: a1 :: a2 :: a3 :: a4 :: a5 :: a6 :: a7 :: a8 :: a9 :: a10 :: some (.int x) :: r) (.int x :: st)) : G p l e R s m args below meth c nL cl sl A Q E σ π o pc (a0 :: a1 :: a2 :: a3 :: a4 :: a5 :: a6 :: a7 :: a8 :: a9 :: a10 :: some (.int x) :: r) st :=
  fun H locs ls hW hS hl => lv_iload C.1.1 C.1.2.1 hd (hl.at rfl) (k H locs ls hW hS hl)
theorem G.ist11 (C : gCx p s m c cc nL own Ts args E A R cl sl) {pc : Nat}  {a0 a1 a2 a3 a4 a5 a6 a7 a8 a9 a10 b : Option Value} {r : List (Option Value)} {st : List Value} {x : Int32} (hd : decode cc pc = .ok (.istore 11, 2)) (hn : 11 < nL) (h1 : lv1 (a0 :: a1 :: a2 :: a3 :: a4 :: a5 :: a6 :: a7 :: a8 :: a9 :: a10 :: b :: r) 11 = true) (k : G p l e R s m args below meth c nL cl sl A Q E σ π o (pc + 2) (a0 :: a1 :: a2 :: a3 :: a4 :: a5 :: a6 :: a7 :: a8 :: a9 :: a10 :: some (.int x) :: r) st) : G p l e R s m args below meth c nL cl sl A Q E σ π o pc (a0 :: a1 :: a2 :: a3 :: a4 :: a5 :: a6 :: a7 :: a8 :: a9 :: a10 :: b :: r) (.int x :: st) :=
  fun H locs ls hW hS hl => lv_istore C.1.1 C.1.2.1 hd hl hn rfl (fun ls' h' => k H locs ls' hW hS (lh.filt (lv := (a0 :: a1 :: a2 :: a3 :: a4 :: a5 :: a6 :: a7 :: a8 :: a9 :: a10 :: b :: r)) h' (fun k v hk hne => by simp only [Bool.and_eq_true]; exact ⟨by simp [hne], lv1_ok h1 hk⟩)))
theorem G.ild12 (C : gCx p s m c cc nL own Ts args E A R cl sl) {pc : Nat}  {a0 a1 a2 a3 a4 a5 a6 a7 a8 a9 a10 a11 : Option Value} {r : List (Option Value)} {st : List Value} {x : Int32} (hd : decode cc pc = .ok (.iload 12, 2)) (k : G p l e R s m args below meth c nL cl sl A Q E σ π o (pc + 2) (a0 :: a1 :: a2 :: a3 :: a4 :: a5 :: a6 :: a7 :: a8 :: a9 :: a10 :: a11 :: some (.int x) :: r) (.int x :: st)) : G p l e R s m args below meth c nL cl sl A Q E σ π o pc (a0 :: a1 :: a2 :: a3 :: a4 :: a5 :: a6 :: a7 :: a8 :: a9 :: a10 :: a11 :: some (.int x) :: r) st :=
  fun H locs ls hW hS hl => lv_iload C.1.1 C.1.2.1 hd (hl.at rfl) (k H locs ls hW hS hl)
theorem G.ist12 (C : gCx p s m c cc nL own Ts args E A R cl sl) {pc : Nat}  {a0 a1 a2 a3 a4 a5 a6 a7 a8 a9 a10 a11 b : Option Value} {r : List (Option Value)} {st : List Value} {x : Int32} (hd : decode cc pc = .ok (.istore 12, 2)) (hn : 12 < nL) (h1 : lv1 (a0 :: a1 :: a2 :: a3 :: a4 :: a5 :: a6 :: a7 :: a8 :: a9 :: a10 :: a11 :: b :: r) 12 = true) (k : G p l e R s m args below meth c nL cl sl A Q E σ π o (pc + 2) (a0 :: a1 :: a2 :: a3 :: a4 :: a5 :: a6 :: a7 :: a8 :: a9 :: a10 :: a11 :: some (.int x) :: r) st) : G p l e R s m args below meth c nL cl sl A Q E σ π o pc (a0 :: a1 :: a2 :: a3 :: a4 :: a5 :: a6 :: a7 :: a8 :: a9 :: a10 :: a11 :: b :: r) (.int x :: st) :=
  fun H locs ls hW hS hl => lv_istore C.1.1 C.1.2.1 hd hl hn rfl (fun ls' h' => k H locs ls' hW hS (lh.filt (lv := (a0 :: a1 :: a2 :: a3 :: a4 :: a5 :: a6 :: a7 :: a8 :: a9 :: a10 :: a11 :: b :: r)) h' (fun k v hk hne => by simp only [Bool.and_eq_true]; exact ⟨by simp [hne], lv1_ok h1 hk⟩)))
theorem G.iinc10 (C : gCx p s m c cc nL own Ts args E A R cl sl) {pc : Nat}  {a0 a1 a2 a3 a4 a5 a6 a7 a8 a9 : Option Value} {r : List (Option Value)} {st : List Value} {x : Int32} {n : Int} (v : Int32) (hd : decode cc pc = .ok (.iinc 10 n, 3)) (hn : 10 < nL) (h1 : lv1 (a0 :: a1 :: a2 :: a3 :: a4 :: a5 :: a6 :: a7 :: a8 :: a9 :: some (.int x) :: r) 10 = true) (hv : x + Int32.ofInt n = v) (k : G p l e R s m args below meth c nL cl sl A Q E σ π o (pc + 3) (a0 :: a1 :: a2 :: a3 :: a4 :: a5 :: a6 :: a7 :: a8 :: a9 :: some (.int v) :: r) st) : G p l e R s m args below meth c nL cl sl A Q E σ π o pc (a0 :: a1 :: a2 :: a3 :: a4 :: a5 :: a6 :: a7 :: a8 :: a9 :: some (.int x) :: r) st :=
  fun H locs ls hW hS hl => by
    obtain ⟨k0, hk0⟩ := List.getElem?_of_mem (lvl_mem (lv := (a0 :: a1 :: a2 :: a3 :: a4 :: a5 :: a6 :: a7 :: a8 :: a9 :: some (.int x) :: r)) (k := 10) (v := .int x) |>.mpr rfl)
    exact lv_iinc C.1.1 C.1.2.1 hd hl hk0 hv hn rfl (fun ls' h' => k H locs ls' hW hS (lh.filt (lv := (a0 :: a1 :: a2 :: a3 :: a4 :: a5 :: a6 :: a7 :: a8 :: a9 :: some (.int x) :: r)) h' (fun k v hk hne => by simp only [Bool.and_eq_true]; exact ⟨by simp [hne], lv1_ok h1 hk⟩)))
theorem G.iincN10 (C : gCx p s m c cc nL own Ts args E A R cl sl) {pc : Nat}  {a0 a1 a2 a3 a4 a5 a6 a7 a8 a9 : Option Value} {r : List (Option Value)} {st : List Value} {x : Nat} (hd : decode cc pc = .ok (.iinc 10 1, 3)) (hn : 10 < nL) (h1 : lv1 (a0 :: a1 :: a2 :: a3 :: a4 :: a5 :: a6 :: a7 :: a8 :: a9 :: some (.int (nI x)) :: r) 10 = true) (k : G p l e R s m args below meth c nL cl sl A Q E σ π o (pc + 3) (a0 :: a1 :: a2 :: a3 :: a4 :: a5 :: a6 :: a7 :: a8 :: a9 :: some (.int (nI (x + 1))) :: r) st) : G p l e R s m args below meth c nL cl sl A Q E σ π o pc (a0 :: a1 :: a2 :: a3 :: a4 :: a5 :: a6 :: a7 :: a8 :: a9 :: some (.int (nI x)) :: r) st :=
  G.iinc10 C (nI (x + 1)) hd hn h1 (nI_1 x) k
theorem G.iinc11 (C : gCx p s m c cc nL own Ts args E A R cl sl) {pc : Nat}  {a0 a1 a2 a3 a4 a5 a6 a7 a8 a9 a10 : Option Value} {r : List (Option Value)} {st : List Value} {x : Int32} {n : Int} (v : Int32) (hd : decode cc pc = .ok (.iinc 11 n, 3)) (hn : 11 < nL) (h1 : lv1 (a0 :: a1 :: a2 :: a3 :: a4 :: a5 :: a6 :: a7 :: a8 :: a9 :: a10 :: some (.int x) :: r) 11 = true) (hv : x + Int32.ofInt n = v) (k : G p l e R s m args below meth c nL cl sl A Q E σ π o (pc + 3) (a0 :: a1 :: a2 :: a3 :: a4 :: a5 :: a6 :: a7 :: a8 :: a9 :: a10 :: some (.int v) :: r) st) : G p l e R s m args below meth c nL cl sl A Q E σ π o pc (a0 :: a1 :: a2 :: a3 :: a4 :: a5 :: a6 :: a7 :: a8 :: a9 :: a10 :: some (.int x) :: r) st :=
  fun H locs ls hW hS hl => by
    obtain ⟨k0, hk0⟩ := List.getElem?_of_mem (lvl_mem (lv := (a0 :: a1 :: a2 :: a3 :: a4 :: a5 :: a6 :: a7 :: a8 :: a9 :: a10 :: some (.int x) :: r)) (k := 11) (v := .int x) |>.mpr rfl)
    exact lv_iinc C.1.1 C.1.2.1 hd hl hk0 hv hn rfl (fun ls' h' => k H locs ls' hW hS (lh.filt (lv := (a0 :: a1 :: a2 :: a3 :: a4 :: a5 :: a6 :: a7 :: a8 :: a9 :: a10 :: some (.int x) :: r)) h' (fun k v hk hne => by simp only [Bool.and_eq_true]; exact ⟨by simp [hne], lv1_ok h1 hk⟩)))
theorem G.iincN11 (C : gCx p s m c cc nL own Ts args E A R cl sl) {pc : Nat}  {a0 a1 a2 a3 a4 a5 a6 a7 a8 a9 a10 : Option Value} {r : List (Option Value)} {st : List Value} {x : Nat} (hd : decode cc pc = .ok (.iinc 11 1, 3)) (hn : 11 < nL) (h1 : lv1 (a0 :: a1 :: a2 :: a3 :: a4 :: a5 :: a6 :: a7 :: a8 :: a9 :: a10 :: some (.int (nI x)) :: r) 11 = true) (k : G p l e R s m args below meth c nL cl sl A Q E σ π o (pc + 3) (a0 :: a1 :: a2 :: a3 :: a4 :: a5 :: a6 :: a7 :: a8 :: a9 :: a10 :: some (.int (nI (x + 1))) :: r) st) : G p l e R s m args below meth c nL cl sl A Q E σ π o pc (a0 :: a1 :: a2 :: a3 :: a4 :: a5 :: a6 :: a7 :: a8 :: a9 :: a10 :: some (.int (nI x)) :: r) st :=
  G.iinc11 C (nI (x + 1)) hd hn h1 (nI_1 x) k
theorem G.iinc12 (C : gCx p s m c cc nL own Ts args E A R cl sl) {pc : Nat}  {a0 a1 a2 a3 a4 a5 a6 a7 a8 a9 a10 a11 : Option Value} {r : List (Option Value)} {st : List Value} {x : Int32} {n : Int} (v : Int32) (hd : decode cc pc = .ok (.iinc 12 n, 3)) (hn : 12 < nL) (h1 : lv1 (a0 :: a1 :: a2 :: a3 :: a4 :: a5 :: a6 :: a7 :: a8 :: a9 :: a10 :: a11 :: some (.int x) :: r) 12 = true) (hv : x + Int32.ofInt n = v) (k : G p l e R s m args below meth c nL cl sl A Q E σ π o (pc + 3) (a0 :: a1 :: a2 :: a3 :: a4 :: a5 :: a6 :: a7 :: a8 :: a9 :: a10 :: a11 :: some (.int v) :: r) st) : G p l e R s m args below meth c nL cl sl A Q E σ π o pc (a0 :: a1 :: a2 :: a3 :: a4 :: a5 :: a6 :: a7 :: a8 :: a9 :: a10 :: a11 :: some (.int x) :: r) st :=
  fun H locs ls hW hS hl => by
    obtain ⟨k0, hk0⟩ := List.getElem?_of_mem (lvl_mem (lv := (a0 :: a1 :: a2 :: a3 :: a4 :: a5 :: a6 :: a7 :: a8 :: a9 :: a10 :: a11 :: some (.int x) :: r)) (k := 12) (v := .int x) |>.mpr rfl)
    exact lv_iinc C.1.1 C.1.2.1 hd hl hk0 hv hn rfl (fun ls' h' => k H locs ls' hW hS (lh.filt (lv := (a0 :: a1 :: a2 :: a3 :: a4 :: a5 :: a6 :: a7 :: a8 :: a9 :: a10 :: a11 :: some (.int x) :: r)) h' (fun k v hk hne => by simp only [Bool.and_eq_true]; exact ⟨by simp [hne], lv1_ok h1 hk⟩)))
theorem G.iincN12 (C : gCx p s m c cc nL own Ts args E A R cl sl) {pc : Nat}  {a0 a1 a2 a3 a4 a5 a6 a7 a8 a9 a10 a11 : Option Value} {r : List (Option Value)} {st : List Value} {x : Nat} (hd : decode cc pc = .ok (.iinc 12 1, 3)) (hn : 12 < nL) (h1 : lv1 (a0 :: a1 :: a2 :: a3 :: a4 :: a5 :: a6 :: a7 :: a8 :: a9 :: a10 :: a11 :: some (.int (nI x)) :: r) 12 = true) (k : G p l e R s m args below meth c nL cl sl A Q E σ π o (pc + 3) (a0 :: a1 :: a2 :: a3 :: a4 :: a5 :: a6 :: a7 :: a8 :: a9 :: a10 :: a11 :: some (.int (nI (x + 1))) :: r) st) : G p l e R s m args below meth c nL cl sl A Q E σ π o pc (a0 :: a1 :: a2 :: a3 :: a4 :: a5 :: a6 :: a7 :: a8 :: a9 :: a10 :: a11 :: some (.int (nI x)) :: r) st :=
  G.iinc12 C (nI (x + 1)) hd hn h1 (nI_1 x) k
theorem G.ald10 (C : gCx p s m c cc nL own Ts args E A R cl sl) {pc : Nat}  {a0 a1 a2 a3 a4 a5 a6 a7 a8 a9 : Option Value} {r : List (Option Value)} {st : List Value} {x : Nat} (hd : decode cc pc = .ok (.aload 10, 2)) (k : G p l e R s m args below meth c nL cl sl A Q E σ π o (pc + 2) (a0 :: a1 :: a2 :: a3 :: a4 :: a5 :: a6 :: a7 :: a8 :: a9 :: some (.ref x) :: r) (.ref x :: st)) : G p l e R s m args below meth c nL cl sl A Q E σ π o pc (a0 :: a1 :: a2 :: a3 :: a4 :: a5 :: a6 :: a7 :: a8 :: a9 :: some (.ref x) :: r) st :=
  fun H locs ls hW hS hl => lv_aload C.1.1 C.1.2.1 hd (hl.at rfl) (k H locs ls hW hS hl)
theorem G.ast10 (C : gCx p s m c cc nL own Ts args E A R cl sl) {pc : Nat}  {a0 a1 a2 a3 a4 a5 a6 a7 a8 a9 b : Option Value} {r : List (Option Value)} {st : List Value} {x : Nat} (hd : decode cc pc = .ok (.astore 10, 2)) (hn : 10 < nL) (h1 : lv1 (a0 :: a1 :: a2 :: a3 :: a4 :: a5 :: a6 :: a7 :: a8 :: a9 :: b :: r) 10 = true) (k : G p l e R s m args below meth c nL cl sl A Q E σ π o (pc + 2) (a0 :: a1 :: a2 :: a3 :: a4 :: a5 :: a6 :: a7 :: a8 :: a9 :: some (.ref x) :: r) st) : G p l e R s m args below meth c nL cl sl A Q E σ π o pc (a0 :: a1 :: a2 :: a3 :: a4 :: a5 :: a6 :: a7 :: a8 :: a9 :: b :: r) (.ref x :: st) :=
  fun H locs ls hW hS hl => lv_astore C.1.1 C.1.2.1 hd hl hn rfl (fun ls' h' => k H locs ls' hW hS (lh.filt (lv := (a0 :: a1 :: a2 :: a3 :: a4 :: a5 :: a6 :: a7 :: a8 :: a9 :: b :: r)) h' (fun k v hk hne => by simp only [Bool.and_eq_true]; exact ⟨by simp [hne], lv1_ok h1 hk⟩)))
theorem G.ald11 (C : gCx p s m c cc nL own Ts args E A R cl sl) {pc : Nat}  {a0 a1 a2 a3 a4 a5 a6 a7 a8 a9 a10 : Option Value} {r : List (Option Value)} {st : List Value} {x : Nat} (hd : decode cc pc = .ok (.aload 11, 2)) (k : G p l e R s m args below meth c nL cl sl A Q E σ π o (pc + 2) (a0 :: a1 :: a2 :: a3 :: a4 :: a5 :: a6 :: a7 :: a8 :: a9 :: a10 :: some (.ref x) :: r) (.ref x :: st)) : G p l e R s m args below meth c nL cl sl A Q E σ π o pc (a0 :: a1 :: a2 :: a3 :: a4 :: a5 :: a6 :: a7 :: a8 :: a9 :: a10 :: some (.ref x) :: r) st :=
  fun H locs ls hW hS hl => lv_aload C.1.1 C.1.2.1 hd (hl.at rfl) (k H locs ls hW hS hl)
theorem G.ast11 (C : gCx p s m c cc nL own Ts args E A R cl sl) {pc : Nat}  {a0 a1 a2 a3 a4 a5 a6 a7 a8 a9 a10 b : Option Value} {r : List (Option Value)} {st : List Value} {x : Nat} (hd : decode cc pc = .ok (.astore 11, 2)) (hn : 11 < nL) (h1 : lv1 (a0 :: a1 :: a2 :: a3 :: a4 :: a5 :: a6 :: a7 :: a8 :: a9 :: a10 :: b :: r) 11 = true) (k : G p l e R s m args below meth c nL cl sl A Q E σ π o (pc + 2) (a0 :: a1 :: a2 :: a3 :: a4 :: a5 :: a6 :: a7 :: a8 :: a9 :: a10 :: some (.ref x) :: r) st) : G p l e R s m args below meth c nL cl sl A Q E σ π o pc (a0 :: a1 :: a2 :: a3 :: a4 :: a5 :: a6 :: a7 :: a8 :: a9 :: a10 :: b :: r) (.ref x :: st) :=
  fun H locs ls hW hS hl => lv_astore C.1.1 C.1.2.1 hd hl hn rfl (fun ls' h' => k H locs ls' hW hS (lh.filt (lv := (a0 :: a1 :: a2 :: a3 :: a4 :: a5 :: a6 :: a7 :: a8 :: a9 :: a10 :: b :: r)) h' (fun k v hk hne => by simp only [Bool.and_eq_true]; exact ⟨by simp [hne], lv1_ok h1 hk⟩)))
theorem G.ald12 (C : gCx p s m c cc nL own Ts args E A R cl sl) {pc : Nat}  {a0 a1 a2 a3 a4 a5 a6 a7 a8 a9 a10 a11 : Option Value} {r : List (Option Value)} {st : List Value} {x : Nat} (hd : decode cc pc = .ok (.aload 12, 2)) (k : G p l e R s m args below meth c nL cl sl A Q E σ π o (pc + 2) (a0 :: a1 :: a2 :: a3 :: a4 :: a5 :: a6 :: a7 :: a8 :: a9 :: a10 :: a11 :: some (.ref x) :: r) (.ref x :: st)) : G p l e R s m args below meth c nL cl sl A Q E σ π o pc (a0 :: a1 :: a2 :: a3 :: a4 :: a5 :: a6 :: a7 :: a8 :: a9 :: a10 :: a11 :: some (.ref x) :: r) st :=
  fun H locs ls hW hS hl => lv_aload C.1.1 C.1.2.1 hd (hl.at rfl) (k H locs ls hW hS hl)
theorem G.ast12 (C : gCx p s m c cc nL own Ts args E A R cl sl) {pc : Nat}  {a0 a1 a2 a3 a4 a5 a6 a7 a8 a9 a10 a11 b : Option Value} {r : List (Option Value)} {st : List Value} {x : Nat} (hd : decode cc pc = .ok (.astore 12, 2)) (hn : 12 < nL) (h1 : lv1 (a0 :: a1 :: a2 :: a3 :: a4 :: a5 :: a6 :: a7 :: a8 :: a9 :: a10 :: a11 :: b :: r) 12 = true) (k : G p l e R s m args below meth c nL cl sl A Q E σ π o (pc + 2) (a0 :: a1 :: a2 :: a3 :: a4 :: a5 :: a6 :: a7 :: a8 :: a9 :: a10 :: a11 :: some (.ref x) :: r) st) : G p l e R s m args below meth c nL cl sl A Q E σ π o pc (a0 :: a1 :: a2 :: a3 :: a4 :: a5 :: a6 :: a7 :: a8 :: a9 :: a10 :: a11 :: b :: r) (.ref x :: st) :=
  fun H locs ls hW hS hl => lv_astore C.1.1 C.1.2.1 hd hl hn rfl (fun ls' h' => k H locs ls' hW hS (lh.filt (lv := (a0 :: a1 :: a2 :: a3 :: a4 :: a5 :: a6 :: a7 :: a8 :: a9 :: a10 :: a11 :: b :: r)) h' (fun k v hk hne => by simp only [Bool.and_eq_true]; exact ⟨by simp [hne], lv1_ok h1 hk⟩)))
end GLB
