/-! rows taken from the proof of whole -/
theorem vix {x : Int32} (hx : vp_in x 16) : ix x < 16 := by
  obtain ⟨j, hj, rfl⟩ := vp_in_of hx (by omega)
  rw [ix_nI (by omega)]; exact hj
theorem st1 {d : cSt} {x : Int32} {v : Int32} (hx : vp_in x 16) : cW d 1 (9 * ix x + 3) v 1 180 = d 1 180 := by
  have := vix hx
  simp only [cW, if_true, if_neg (show ¬ 180 = 9 * ix x + 3 by omega)]
section GD
variable {p : Program} {l : Launch} {e : Env} {R : Room} {s : State} {m : MethodId} {args : Array Value} {below : List Frame} {meth : Method} {c : Code} {Q : State → Prop} {cc : ByteArray} {own : String} {Ts : List Cond} {nL cl sl : Nat} {E : gEn} {A : Nat → Prop} {σ σ' : gSt} {π π' : Nat → Nat} {o o' : Int64}
theorem G.dconst1 (C : gCx p s m c cc nL own Ts args E A R cl sl) {pc : Nat} {lv : List (Option Value)} {st : List Value} (hd : decode cc pc = .ok (.dconst 1, 1)) (k : G p l e R s m args below meth c nL cl sl A Q E σ π o (pc + 1) lv (.double FP.dconst1 :: st)) : G p l e R s m args below meth c nL cl sl A Q E σ π o pc lv st := fun H locs ls hW hS hl => lv_dconst1 C.1.1 C.1.2.1 hd (k H locs ls hW hS hl)
end GD
/-- the shares that come up are numbers -/
def shr (n a : Nat) : UInt64 := FP.ddiv (FP.i2d (nI n)) (FP.i2d (nI a))
theorem shr_all : ∀ n, n < 17 → ∀ a, a < 17 → a ≠ 0 → vf_n64 (shr n a) ∧ Op.cmpValue (FP.dcmp (shr n a) (shr n a)) .l = 0 := by unfold vf_n64; decide +kernel
theorem nI_s1 (k : Nat) : nI k + Int32.ofInt 1 = nI (k + 1) := nI_add k 1
