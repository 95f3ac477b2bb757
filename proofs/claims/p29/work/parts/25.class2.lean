/-! the saved cotes: their array -/
def upN (π : Nat → Nat) (k i : Nat) : Nat → Nat := fun q => if q = k then i else π q
theorem gC_pi {E : gEn} {σ : gSt} {π π' : Nat → Nat} {o : Int64} {i j : Nat} (h : ¬ (i = 9 ∧ j = 1)) : gC E σ π' o i j = gC E σ π o i j := by
  unfold gC
  by_cases h1 : i < 9
  · rw [if_pos h1, if_pos h1]
  · rw [if_neg h1, if_neg h1]
    by_cases h2 : i = 9
    · rw [if_pos h2, if_pos h2]
      by_cases h3 : j = 0
      · rw [if_pos h3, if_pos h3]
      · rw [if_neg h3, if_neg h3, if_neg (fun q => h ⟨h2, q⟩), if_neg (fun q => h ⟨h2, q⟩)]
    · rw [if_neg h2, if_neg h2]
section GS
variable {p : Program} {l : Launch} {e : Env} {R : Room} {s : State} {m : MethodId} {args : Array Value} {below : List Frame} {meth : Method} {c : Code} {Q : State → Prop} {cc : ByteArray} {own : String} {Ts : List Cond} {nL cl sl : Nat} {E : gEn} {A : Nat → Prop} {σ : gSt} {π π' : Nat → Nat} {o o' : Int64}
theorem G.aaldS (C : gCx p s m c cc nL own Ts args E A R cl sl) {pc : Nat} {lv : List (Option Value)} {st : List Value} {x : Int32} (k0 : Nat) (hx : vp_in x 6) (hk : ix x = k0) (hd : decode cc pc = .ok (.aaload, 1)) (k : G p l e R s m args below meth c nL cl sl A Q E σ π o (pc + 1) lv (.ref (E.2.1 (π k0) 0) :: st)) : G p l e R s m args below meth c nL cl sl A Q E σ π o pc lv (.int x :: .ref (E.2.1 9 1) :: st) :=
  fun H locs ls hW hS hl => by
    subst hk
    have hP : H[E.2.1 9 1]? = some (vp_cell E.2.2.2.2.1 (6, .inr (.inr (.inr (.inr (fun k => some (E.2.1 (π k) 0))))))) := hW 9 1 (gV_m (by omega))
    have hlt : x.toNatClampNeg < 6 := Nat.not_le.mp fun q => hx (Or.inr q)
    exact W.aald (v := .ref (E.2.1 (π (ix x)) 0)) (ty := .object RX0) C.1.1 C.1.2.1 hP ((C.2.1.1.2 2 (E.2.2.2.2.1, .object RX0) rfl).1 6 (fun k => va_rf (some (E.2.1 (π k) 0)))) rfl (fun q => by cases q) (by show ¬ (x < 0 ∨ (arrV _ _ _).slots.size ≤ _); rw [arrV_size]; exact hx) (by show (arrV _ _ _).slots[_]? = _; rw [arrV_read _ _ hlt]; rfl) rfl rfl hd (k H locs ls hW hS hl)
theorem G.aastS (C : gCx p s m c cc nL own Ts args E A R cl sl) {pc : Nat} {lv : List (Option Value)} {st : List Value} {x : Int32} {i : Nat} (k0 : Nat) (hi : i < 9) (hx : vp_in x 6) (hk : ix x = k0) (hd : decode cc pc = .ok (.aastore, 1)) (k : G p l e R s m args below meth c nL cl sl A Q E σ (upN π k0 i) o (pc + 1) lv st) : G p l e R s m args below meth c nL cl sl A Q E σ π o pc lv (.ref (E.2.1 i 0) :: .int x :: .ref (E.2.1 9 1) :: st) :=
  fun H locs ls hW hS hl => by
    subst hk
    have hP : H[E.2.1 9 1]? = some (vp_cell E.2.2.2.2.1 (6, .inr (.inr (.inr (.inr (fun k => some (E.2.1 (π k) 0))))))) := hW 9 1 (gV_m (by omega))
    have hlt : x.toNatClampNeg < 6 := Nat.not_le.mp fun q => hx (Or.inr q)
    have h0 : ¬ x < 0 := fun q => hx (Or.inl q)
    have hO := hW i 0 (gV_c hi (by omega))
    rw [gC_co hi] at hO
    obtain ⟨r', hr', cellV, g1, g2, g3, -⟩ := hO
    have hcls := (C.2.1.1.1 0 (RX0, TX0, 10) rfl).2
    obtain ⟨kA, comp, k1, k2, k3, -⟩ := (C.2.1.1.2 2 (E.2.2.2.2.1, .object RX0) rfl).2
    have hcomp : comp = E.1.1 0 := Option.some.inj (k3.symm.trans hcls.1)
    subst hcomp
    obtain ⟨kC, hkC, -⟩ := hcls.2
    refine W.aast C.1.1 C.1.2.1 hP (fun q h => by cases h) (fun h => by cases h) k1 k2 rfl hkC ⟨h0, by show _ < (arrV _ _ _).slots.size; rw [arrV_size]; exact hlt⟩ g1 (fun q h => by rw [g3] at h; cases h) (by rw [g2]; exact hkC) (by rw [g2]; exact va_assign hcls) rfl rfl hd fun H1 e z oq => ?_
    refine k H1 _ ls (hW.chg C.2.1.2.2 (gV_m (by omega)) (fun i' j' _ hne => gC_pi hne) rfl ?_ oq) (hS.put z oq (C.2.2.1 _ ⟨9, 1, gV_m (by omega), rfl⟩)) hl
    show H1[_]? = some (vp_cell _ _)
    rw [e, vp_cell_q, vp_cell_q, arrV_store]
    congr 2
    funext q
    by_cases hq : q = ix x
    · subst hq
      simp [updV, va_rf, upN, ix]
    · have hq2 : ¬ q = x.toNatClampNeg := hq
      simp [updV, va_rf, upN, hq, hq2, ix]
end GS

