/-! the saved cotes: their array -/
def upN (π : Nat → Nat) (k i : Nat) : Nat → Nat := fun q => if q = k then i else π q
theorem gC_pi {E : gEn} {σ : gSt} {π π' : Nat → Nat} {o : Int64} {i j : Nat} (h : ¬ (i = 9 ∧ j = 1)) : gC E σ π' o i j = gC E σ π o i j := by
  unfold gC
  by_cases h1 : i < 9
  · rw [if_pos h1, if_pos h1]
  · rw [if_neg h1, if_neg h1]
    by_cases h2 : i = 9
    · rw [if_pos h2, if_pos h2]
      by_cases h3 : j = 0
      · rw [if_pos h3, if_pos h3]
      · rw [if_neg h3, if_neg h3, if_neg (fun q => h ⟨h2, q⟩), if_neg (fun q => h ⟨h2, q⟩)]
    · rw [if_neg h2, if_neg h2]
section GS
variable {p : Program} {l : Launch} {e : Env} {R : Room} {s : State} {m : MethodId} {args : Array Value} {below : List Frame} {meth : Method} {c : Code} {Q : State → Prop} {cc : ByteArray} {own : String} {Ts : List Cond} {nL cl sl : Nat} {E : gEn} {A : Nat → Prop} {σ : gSt} {π π' : Nat → Nat} {o o' : Int64}
theorem G.aaldS (C : gCx p s m c cc nL own Ts args E A R cl sl) {pc : Nat} {lv : List (Option Value)} {st : List Value} {x : Int32} (k0 : Nat) (hx : vp_in x 6) (hk : ix x = k0) (hd : decode cc pc = .ok (.aaload, 1)) (k : G p l e R s m args below meth c nL cl sl A Q E σ π o (pc + 1) lv (.ref (E.2.1 (π k0) 0) :: st)) : G p l e R s m args below meth c nL cl sl A Q E σ π o pc lv (.int x :: .ref (E.2.1 9 1) :: st) :=
  fun H locs ls hW hS hl => by
    subst hk
    have hP : H[E.2.1 9 1]? = some (vp_cell E.2.2.2.2.1 (6, .inr (.inr (.inr (.inr (fun k => some (E.2.1 (π k) 0))))))) := hW 9 1 (gV_m (by omega))
    have hlt : x.toNatClampNeg < 6 := Nat.not_le.mp fun q => hx (Or.inr q)
    exact W.aald (v := .ref (E.2.1 (π (ix x)) 0)) (ty := .object RX0) C.1.1 C.1.2.1 hP ((C.2.1.1.2 2 (E.2.2.2.2.1, .object RX0) rfl).1 6 (fun k => va_rf (some (E.2.1 (π k) 0)))) rfl (fun q => by cases q) (by show ¬ (x < 0 ∨ (arrV _ _ _).slots.size ≤ _); rw [arrV_size]; exact hx) (by show (arrV _ _ _).slots[_]? = _; rw [arrV_read _ _ hlt]; rfl) rfl rfl hd (k H locs ls hW hS hl)
theorem G.aastS (C : gCx p s m c cc nL own Ts args E A R cl sl) {pc : Nat} {lv : List (Option Value)} {st : List Value} {x : Int32} {i : Nat} (k0 : Nat) (hi : i < 9) (hx : vp_in x 6) (hk : ix x = k0) (hd : decode cc pc = .ok (.aastore, 1)) (k : G p l e R s m args below meth c nL cl sl A Q E σ (upN π k0 i) o (pc + 1) lv st) : G p l e R s m args below meth c nL cl sl A Q E σ π o pc lv (.ref (E.2.1 i 0) :: .int x :: .ref (E.2.1 9 1) :: st) :=
  fun H locs ls hW hS hl => by
    subst hk
    have hP : H[E.2.1 9 1]? = some (vp_cell E.2.2.2.2.1 (6, .inr (.inr (.inr (.inr (fun k => some (E.2.1 (π k) 0))))))) := hW 9 1 (gV_m (by omega))
    have hlt : x.toNatClampNeg < 6 := Nat.not_le.mp fun q => hx (Or.inr q)
    have h0 : ¬ x < 0 := fun q => hx (Or.inl q)
    have hO := hW i 0 (gV_c hi (by omega))
    rw [gC_co hi] at hO
    obtain ⟨r', hr', cellV, g1, g2, g3, -⟩ := hO
    have hcls := (C.2.1.1.1 0 (RX0, TX0, 10) rfl).2
    obtain ⟨kA, comp, k1, k2, k3, -⟩ := (C.2.1.1.2 2 (E.2.2.2.2.1, .object RX0) rfl).2
    have hcomp : comp = E.1.1 0 := Option.some.inj (k3.symm.trans hcls.1)
    subst hcomp
    obtain ⟨kC, hkC, -⟩ := hcls.2
    refine W.aast C.1.1 C.1.2.1 hP (fun q h => by cases h) (fun h => by cases h) k1 k2 rfl hkC ⟨h0, by show _ < (arrV _ _ _).slots.size; rw [arrV_size]; exact hlt⟩ g1 (fun q h => by rw [g3] at h; cases h) (by rw [g2]; exact hkC) (by rw [g2]; exact va_assign hcls) rfl rfl hd fun H1 e z oq => ?_
    refine k H1 _ ls (hW.chg C.2.1.2.2 (gV_m (by omega)) (fun i' j' _ hne => gC_pi hne) rfl ?_ oq) (hS.put z oq (C.2.2.1 _ ⟨9, 1, gV_m (by omega), rfl⟩)) hl
    show H1[_]? = some (vp_cell _ _)
    rw [e, vp_cell_q, vp_cell_q, arrV_store]
    congr 2
    funext q
    by_cases hq : q = ix x
    · subst hq
      simp [updV, va_rf, upN, ix]
    · have hq2 : ¬ q = x.toNatClampNeg := hq
      simp [updV, va_rf, upN, hq, hq2, ix]
end GS
/-! reading a text -/
theorem rTake_r {c : cSt} {x : Int32} {j : Nat} (h : j ≠ 3) : (rTake c x).2 j = c j := by
  have w : ∀ (d : cSt) (k : Nat) (v : Int32), cW d 3 k v j = d j := fun d k v => funext fun q => by simp [cW, h]
  unfold rTake rLetter rEnd rSignT rDigit rBegin
  repeat' split
  all_goals simp only [w]
theorem rBegin_r {c : cSt} {j : Nat} (h : j ≠ 3) : rBegin c j = c j := by
  have w : ∀ (d : cSt) (k : Nat) (v : Int32), cW d 3 k v j = d j := fun d k v => funext fun q => by simp [cW, h]
  unfold rBegin
  simp only [w]
/-- how far the reader takes the text -/
def tFE : Nat → Nat → Nat → cSt → Int32 × cSt
  | 0, _, L, c => (nI L, c)
  | n + 1, k, L, c => if (rTake c (c 2 k)).1 = true then tFE n (k + 1) L (rTake c (c 2 k)).2 else (nI k, (rTake c (c 2 k)).2)
def tNext (c9 : cSt) (k L : Nat) : cSt := if nI L ≤ nI k then c9 else (rTake c9 (c9 2 k)).2
def tEL : Nat → Nat → Nat → cSt → cSt → Int32 → Int32 × cSt × cSt
  | 0, _, _, c0, c9, z => (z, c0, c9)
  | n + 1, k, L, c0, c9, z => if nI k = nI L ∨ c9 2 k = 59 then (if (tPP c0 c9).1 = 0 then tEL n (k + 1) L (tPP c0 c9).2 (tNext c9 k L) (z + 1) else (z, cStop (tPP c0 c9).2 z (tPP c0 c9).1, tNext c9 k L)) else tEL n (k + 1) L c0 (tNext c9 k L) z
def tEOK : Nat → Nat → Nat → cSt → cSt → Prop
  | 0, _, _, _, _ => True
  | n + 1, k, L, c0, c9 => if nI k = nI L ∨ c9 2 k = 59 then ((c9 3 1 = 98 → vp_in (c9 3 2) 24) ∧ (c9 3 1 = 120 → vp_in (c9 3 2) 24) ∧ ((tPP c0 c9).1 = 0 → tEOK n (k + 1) L (tPP c0 c9).2 (tNext c9 k L))) else tEOK n (k + 1) L c0 (tNext c9 k L)
theorem tNext_0 {c9 : cSt} {k L : Nat} : tNext c9 k L 0 = c9 0 := by
  unfold tNext
  split
  · rfl
  · exact rTake_r (by decide)
set_option maxRecDepth 100000 in
set_option maxHeartbeats 4000000 in
theorem k_X3_firstError (l : Launch) {E : gEn} {σ : gSt} {π : Nat → Nat} {o : Int64} {c0 c1 c2 c9 : cSt} {r : Int32} {dF : cSt} {L : Nat} (hL : c9 0 7 = nI L) (h60 : L ≤ 60) (hr : (r, dF) = tFE L 0 L (rBegin c9)) : CtI l yX3_firstError wsX3_firstError ({ frames := 4, cells := 0, slots := 0, locals := 81 } : Room) E [.ref (E.2.1 9 0)] (gT σ c0 c1 c2 c9) π o (r) (gT σ c0 c1 c2 dF) π o := by
  refine CtI.of (cc := cX3_firstError) (own := RX3) (maxL := 2) (ret := (some .int)) [some (.ref (E.2.1 9 0)), none] (by decide) rfl rfl (Nat.le_of_ble_eq_true rfl) rfl ?_
  intro p e s m args below meth cd C hrt hlk
  have hinX1 : ∀ w ∈ wsX10, w ∈ wsX3_firstError := by decide +kernel
  have hinX3 : ∀ w ∈ wsX30, w ∈ wsX3_firstError := by decide +kernel
  refine G.aldn0 C dX3_firstError_0 ?_
  refine G.getMT C hinX3 8 (by decide) rfl (C.1.2.2.2.2 (.fieldLink RX3 44 RX3 "reader" "LLateDoves$PartReader;") (by decide +kernel)) rfl dX3_firstError_1 ?_
  refine G.callVV0 C (T9V (k_X1_begin l)) (cwV 0 C.1.2.2.2.2 gX3_firstError_X1_begin rfl rfl rfl (by decide +kernel) ⟨Nat.le_of_ble_eq_true rfl, Nat.le_of_ble_eq_true rfl⟩) gO_r rfl (Nat.le_of_ble_eq_true rfl) dX3_firstError_4 ?_
  refine G.iconst C 0 dX3_firstError_7 (by decide) ?_
  refine G.istn1 C dX3_firstError_8 (by omega) rfl ?_
  have L9 : ∀ (n k : Nat), k + n = L → ∀ (c9 : cSt), c9 0 7 = nI L → (r, dF) = tFE n k L c9 → G p l e ({ frames := 4, cells := 0, slots := 0, locals := 81 } : Room) s m args below meth cd 2 0 0 (gA E) (gQI below args s (r) E (gT σ c0 c1 c2 dF) π o) E (gT σ c0 c1 c2 c9) π o 9 [some (.ref (E.2.1 9 0)), some (.int (nI k))] [] := by
    intro n
    induction n with
    | zero =>
      intro k hk c9 hq0 hq1
      obtain rfl : L = k := by omega
      refine G.ildn1 C dX3_firstError_9 ?_
      refine G.aldn0 C dX3_firstError_10 ?_
      refine G.getMT C hinX3 7 (by decide) rfl (C.1.2.2.2.2 (.fieldLink RX3 38 RX3 "length" "I") (by decide +kernel)) rfl dX3_firstError_11 ?_
      refine G.topI (nI L) hq0 ?_
      refine G.icmp_ge C 41 dX3_firstError_14 (by decide) (fun _ => ?_) (fun h => absurd (nI_le (a := L) (b := L) (by omega) (by omega)) h)
      refine G.aldn0 C dX3_firstError_41 ?_
      refine G.getMT C hinX3 7 (by decide) rfl (C.1.2.2.2.2 (.fieldLink RX3 38 RX3 "length" "I") (by decide +kernel)) rfl dX3_firstError_42 ?_
      refine G.topI (nI L) hq0 ?_
      exact G.iret C hlk hrt dX3_firstError_45 (by rw [tFE] at hq1; exact (congrArg Prod.fst hq1).symm) (by intro H h; rw [tFE] at hq1; rw [show dF = _ from congrArg Prod.snd hq1]; exact h)
    | succ n ih =>
      intro k hk c9 hq0 hq1
      have hk2 : k < L := by omega
      refine G.ildn1 C dX3_firstError_9 ?_
      refine G.aldn0 C dX3_firstError_10 ?_
      refine G.getMT C hinX3 7 (by decide) rfl (C.1.2.2.2.2 (.fieldLink RX3 38 RX3 "length" "I") (by decide +kernel)) rfl dX3_firstError_11 ?_
      refine G.topI (nI L) hq0 ?_
      refine G.icmp_ge C 41 dX3_firstError_14 (by decide) (fun h => absurd h (nI_ge (b := L) hk2 (by omega))) (fun _ => ?_)
      refine G.aldn0 C dX3_firstError_17 ?_
      refine G.getMT C hinX3 8 (by decide) rfl (C.1.2.2.2.2 (.fieldLink RX3 44 RX3 "reader" "LLateDoves$PartReader;") (by decide +kernel)) rfl dX3_firstError_18 ?_
      refine G.aldn0 C dX3_firstError_21 ?_
      refine G.getMT C hinX3 6 (by decide) rfl (C.1.2.2.2.2 (.fieldLink RX3 34 RX3 "buffer" "[I") (by decide +kernel)) rfl dX3_firstError_22 ?_
      refine G.ildn1 C dX3_firstError_25 ?_
      refine G.ialdT9 C (n := 60) (j := 2) (d0 := k) rfl (gV_m (by omega)) (vp_in_nI (by omega) (by omega)) (ix_nI (by omega)) dX3_firstError_26 ?_
      refine G.callVI1 C (T9I (k_X1_take l)) (cwV 1 C.1.2.2.2.2 gX3_firstError_X1_take rfl rfl rfl (by decide +kernel) ⟨Nat.le_of_ble_eq_true rfl, Nat.le_of_ble_eq_true rfl⟩) gO_r rfl (Nat.le_of_ble_eq_true rfl) dX3_firstError_27 ?_
      refine G.if_neB C 35 dX3_firstError_30 (by decide) (fun h30 => ?_) (fun h30 => ?_)
      · refine G.iincN1 C dX3_firstError_35 (by omega) rfl ?_
        refine G.goto C 9 dX3_firstError_38 (by decide) ?_
        exact G.back (ih (k + 1) (by omega) (rTake c9 (c9 2 k)).2 (by rw [rTake_r (by decide)]; exact hq0) (by rw [hq1, tFE, if_pos h30])) rfl ⟨(by first | rfl | simp), (by first | rfl | simp), trivial⟩
      · refine G.ildn1 C dX3_firstError_33 ?_
        exact G.iret C hlk hrt dX3_firstError_34 (by rw [tFE, if_neg (by rw [h30]; decide)] at hq1; exact (congrArg Prod.fst hq1).symm) (by intro H h; rw [tFE, if_neg (by rw [h30]; decide)] at hq1; rw [show dF = _ from congrArg Prod.snd hq1]; exact h)
  exact G.back (L9 L 0 (Nat.zero_add _) (rBegin c9) (by rw [rBegin_r (by decide)]; exact hL) hr) rfl ⟨(by first | rfl | simp), (by first | rfl | simp), trivial⟩
set_option maxRecDepth 100000 in
set_option maxHeartbeats 4000000 in
theorem k_X3_pass_35 (l : Launch) {E : gEn} {σ : gSt} {π : Nat → Nat} {o : Int64} {c0 c1 c2 c9 : cSt} {r : Int32} {d0 d9 : cSt} {L : Nat} (hL : c9 0 7 = nI L) (h60 : L ≤ 60) (hz : tEOK (L + 1) 0 L (cStop c0 (-1) (-1)) (rBegin c9)) (hr : (r, d0, d9) = tEL (L + 1) 0 L (cStop c0 (-1) (-1)) (rBegin c9) 0) {p : Program} {e : Env} {s : State} {m : MethodId} {args : Array Value} {below : List Frame} {meth : Method} {cd : Code} (C : gCx p s m cd cX3_pass 4 RX3 wsX3_pass args E (gA E) ({ frames := 7, cells := 0, slots := 0, locals := 164 } : Room) 0 0) (hrt : meth.sig.returnType = (some .int)) (hlk : meth.locks = false) : G p l e ({ frames := 7, cells := 0, slots := 0, locals := 164 } : Room) s m args below meth cd 4 0 0 (gA E) (gQI below args s (r) E (gT σ d0 c1 c2 (cW d9 0 7 0)) π o) E (gT σ c0 c1 c2 c9) π o 35 [some (.ref (E.2.1 9 0)), none, none, none] [] := by
  have hinX0 : ∀ w ∈ wsX00, w ∈ wsX3_pass := by decide +kernel
  have hinX1 : ∀ w ∈ wsX10, w ∈ wsX3_pass := by decide +kernel
  have hinX2 : ∀ w ∈ wsX20, w ∈ wsX3_pass := by decide +kernel
  have hinX3 : ∀ w ∈ wsX30, w ∈ wsX3_pass := by decide +kernel
  refine G.aldn0 C dX3_pass_35 ?_
  refine G.getMT C hinX3 0 (by decide) rfl (C.1.2.2.2.2 (.fieldLink RX3 10 RX3 "now" "LLateDoves$Cote;") (by decide +kernel)) rfl dX3_pass_36 ?_
  refine G.iconst C (-1) dX3_pass_39 (by decide) ?_
  refine G.iconst C (-1) dX3_pass_40 (by decide) ?_
  refine G.callVV2 C (T0V (k_X0_noteStop l (by omega))) (cwV 2 C.1.2.2.2.2 gX3_pass_X0_noteStop rfl rfl rfl (by decide +kernel) ⟨Nat.le_of_ble_eq_true rfl, Nat.le_of_ble_eq_true rfl⟩) (gO_c (by omega)) rfl (Nat.le_of_ble_eq_true rfl) dX3_pass_41 ?_
  refine G.aldn0 C dX3_pass_44 ?_
  refine G.getMT C hinX3 8 (by decide) rfl (C.1.2.2.2.2 (.fieldLink RX3 44 RX3 "reader" "LLateDoves$PartReader;") (by decide +kernel)) rfl dX3_pass_45 ?_
  refine G.callVV0 C (T9V (k_X1_begin l)) (cwV 0 C.1.2.2.2.2 gX3_pass_X1_begin rfl rfl rfl (by decide +kernel) ⟨Nat.le_of_ble_eq_true rfl, Nat.le_of_ble_eq_true rfl⟩) gO_r rfl (Nat.le_of_ble_eq_true rfl) dX3_pass_48 ?_
  refine G.iconst C 0 dX3_pass_51 (by decide) ?_
  refine G.istn1 C dX3_pass_52 (by omega) rfl ?_
  refine G.iconst C 0 dX3_pass_53 (by decide) ?_
  refine G.istn2 C dX3_pass_54 (by omega) rfl ?_
  refine G.iconst C 0 dX3_pass_55 (by decide) ?_
  refine G.istn3 C dX3_pass_56 (by omega) rfl ?_
  have L57 : ∀ (n k : Nat), k + n = (L + 1) → ∀ (c0 c9 : cSt) (z rs : Int32), c9 0 7 = nI L → (rs = 0 → tEOK n k L c0 c9) → (r, d0, d9) = (if rs = 0 then tEL n k L c0 c9 z else (z, cStop c0 z rs, c9)) → G p l e ({ frames := 7, cells := 0, slots := 0, locals := 164 } : Room) s m args below meth cd 4 0 0 (gA E) (gQI below args s (r) E (gT σ d0 c1 c2 (cW d9 0 7 0)) π o) E (gT σ c0 c1 c2 c9) π o 57 [some (.ref (E.2.1 9 0)), some (.int z), some (.int rs), some (.int (nI k))] [] := by
    intro n
    induction n with
    | zero =>
      intro k hk c0 c9 z rs hq0 hq1 hq2
      obtain rfl : (L + 1) = k := by omega
      refine G.ildn3 C dX3_pass_57 ?_
      refine G.aldn0 C dX3_pass_58 ?_
      refine G.getMT C hinX3 7 (by decide) rfl (C.1.2.2.2.2 (.fieldLink RX3 38 RX3 "length" "I") (by decide +kernel)) rfl dX3_pass_59 ?_
      refine G.topI (nI L) hq0 ?_
      refine G.icmp_gt C 133 dX3_pass_62 (by decide) (fun _ => ?_) (fun h => absurd (nI_lt (a := L) (b := L + 1) (by omega) (by omega)) h)
      refine G.ildn2 C dX3_pass_133 ?_
      refine G.if_eq C 146 dX3_pass_134 (by decide) (fun h134 => ?_) (fun h134 => ?_)
      · refine G.aldn0 C dX3_pass_146 ?_
        refine G.iconst C 0 dX3_pass_147 (by decide) ?_
        refine G.putMT (ty := .int) C hinX3 7 (by decide) rfl (C.1.2.2.2.2 (.fieldLink RX3 38 RX3 "length" "I") (by decide +kernel)) rfl rfl rfl rfl pfX3_7 dX3_pass_148 ?_
        refine G.ildn1 C dX3_pass_151 ?_
        exact G.iret C hlk hrt dX3_pass_152 (by rw [if_pos h134, tEL] at hq2; exact (congrArg Prod.fst hq2).symm) (by intro H h; rw [if_pos h134, tEL] at hq2; rw [show d0 = _ from congrArg (fun z => z.2.1) hq2, show d9 = _ from congrArg (fun z => z.2.2) hq2]; exact h)
      · refine G.aldn0 C dX3_pass_137 ?_
        refine G.getMT C hinX3 0 (by decide) rfl (C.1.2.2.2.2 (.fieldLink RX3 10 RX3 "now" "LLateDoves$Cote;") (by decide +kernel)) rfl dX3_pass_138 ?_
        refine G.ildn1 C dX3_pass_141 ?_
        refine G.ildn2 C dX3_pass_142 ?_
        refine G.callVV2 C (T0V (k_X0_noteStop l (by omega))) (cwV 2 C.1.2.2.2.2 gX3_pass_X0_noteStop rfl rfl rfl (by decide +kernel) ⟨Nat.le_of_ble_eq_true rfl, Nat.le_of_ble_eq_true rfl⟩) (gO_c (by omega)) rfl (Nat.le_of_ble_eq_true rfl) dX3_pass_143 ?_
        refine G.aldn0 C dX3_pass_146 ?_
        refine G.iconst C 0 dX3_pass_147 (by decide) ?_
        refine G.putMT (ty := .int) C hinX3 7 (by decide) rfl (C.1.2.2.2.2 (.fieldLink RX3 38 RX3 "length" "I") (by decide +kernel)) rfl rfl rfl rfl pfX3_7 dX3_pass_148 ?_
        refine G.ildn1 C dX3_pass_151 ?_
        exact G.iret C hlk hrt dX3_pass_152 (by rw [if_neg h134] at hq2; exact (congrArg Prod.fst hq2).symm) (by intro H h; rw [if_neg h134] at hq2; rw [show d0 = _ from congrArg (fun z => z.2.1) hq2, show d9 = _ from congrArg (fun z => z.2.2) hq2]; exact h)
    | succ n ih =>
      intro k hk c0 c9 z rs hq0 hq1 hq2
      have hk2 : k < (L + 1) := by omega
      refine G.ildn3 C dX3_pass_57 ?_
      refine G.aldn0 C dX3_pass_58 ?_
      refine G.getMT C hinX3 7 (by decide) rfl (C.1.2.2.2.2 (.fieldLink RX3 38 RX3 "length" "I") (by decide +kernel)) rfl dX3_pass_59 ?_
      refine G.topI (nI L) hq0 ?_
      refine G.icmp_gt C 133 dX3_pass_62 (by decide) (fun h => absurd h (nI_nlt (a := L) (by omega) (by omega))) (fun _ => ?_)
      refine G.ildn2 C dX3_pass_65 ?_
      refine G.if_ne C 133 dX3_pass_66 (by decide) (fun h66 => ?_) (fun h66 => ?_)
      · refine G.ildn2 C dX3_pass_133 ?_
        refine G.if_eq C 146 dX3_pass_134 (by decide) (fun h134 => absurd h134 (h66)) (fun h134 => ?_)
        refine G.aldn0 C dX3_pass_137 ?_
        refine G.getMT C hinX3 0 (by decide) rfl (C.1.2.2.2.2 (.fieldLink RX3 10 RX3 "now" "LLateDoves$Cote;") (by decide +kernel)) rfl dX3_pass_138 ?_
        refine G.ildn1 C dX3_pass_141 ?_
        refine G.ildn2 C dX3_pass_142 ?_
        refine G.callVV2 C (T0V (k_X0_noteStop l (by omega))) (cwV 2 C.1.2.2.2.2 gX3_pass_X0_noteStop rfl rfl rfl (by decide +kernel) ⟨Nat.le_of_ble_eq_true rfl, Nat.le_of_ble_eq_true rfl⟩) (gO_c (by omega)) rfl (Nat.le_of_ble_eq_true rfl) dX3_pass_143 ?_
        refine G.aldn0 C dX3_pass_146 ?_
        refine G.iconst C 0 dX3_pass_147 (by decide) ?_
        refine G.putMT (ty := .int) C hinX3 7 (by decide) rfl (C.1.2.2.2.2 (.fieldLink RX3 38 RX3 "length" "I") (by decide +kernel)) rfl rfl rfl rfl pfX3_7 dX3_pass_148 ?_
        refine G.ildn1 C dX3_pass_151 ?_
        exact G.iret C hlk hrt dX3_pass_152 (by rw [if_neg h66] at hq2; exact (congrArg Prod.fst hq2).symm) (by intro H h; rw [if_neg h66] at hq2; rw [show d0 = _ from congrArg (fun z => z.2.1) hq2, show d9 = _ from congrArg (fun z => z.2.2) hq2]; exact h)
      · refine G.ildn3 C dX3_pass_69 ?_
        refine G.aldn0 C dX3_pass_70 ?_
        refine G.getMT C hinX3 7 (by decide) rfl (C.1.2.2.2.2 (.fieldLink RX3 38 RX3 "length" "I") (by decide +kernel)) rfl dX3_pass_71 ?_
        refine G.topI (nI L) hq0 ?_
        refine G.icmp_eq C 88 dX3_pass_74 (by decide) (fun h74 => ?_) (fun h74 => ?_)
        · have hpp := hq1 h66; rw [tEOK, if_pos (by first | exact Or.inl h74 | exact Or.inr h85)] at hpp
          refine G.aldn0 C dX3_pass_88 ?_
          refine G.callVI0 C (k_X3_playPart l hpp.1 hpp.2.1) (cwV 0 C.1.2.2.2.2 gX3_pass_X3_playPart rfl rfl rfl (by decide +kernel) ⟨Nat.le_of_ble_eq_true rfl, Nat.le_of_ble_eq_true rfl⟩) gO_m rfl (Nat.le_of_ble_eq_true rfl) dX3_pass_89 ?_
          refine G.istn2 C dX3_pass_92 (by omega) rfl ?_
          refine G.ildn1 C dX3_pass_93 ?_
          refine G.ildn2 C dX3_pass_94 ?_
          refine G.if_ne C 102 dX3_pass_95 (by decide) (fun h95 => ?_) (fun h95 => ?_)
          · refine G.iconst C 0 dX3_pass_102 (by decide) ?_
            refine G.iadd C dX3_pass_103 ?_
            refine G.istn1 C dX3_pass_104 (by omega) rfl ?_
            refine G.ildn3 C dX3_pass_105 ?_
            refine G.aldn0 C dX3_pass_106 ?_
            refine G.getMT C hinX3 7 (by decide) rfl (C.1.2.2.2.2 (.fieldLink RX3 38 RX3 "length" "I") (by decide +kernel)) rfl dX3_pass_107 ?_
            refine G.topI (nI L) hq0 ?_
            refine G.icmp_ge C 127 dX3_pass_110 (by decide) (fun h110 => ?_) (fun h110 => ?_)
            · refine G.iincN3 C dX3_pass_127 (by omega) rfl ?_
              refine G.goto C 57 dX3_pass_130 (by decide) ?_
              exact G.back (ih (k + 1) (by omega) (tPP c0 c9).2 (tNext c9 k L) (z + 0) _ (by rw [tNext_0]; exact hq0) (fun w => absurd w h95) (by rw [hq2, if_pos h66, tEL, if_pos (by first | exact Or.inl h74 | exact Or.inr h85), if_neg h95, if_neg h95, Int32.add_zero])) (by first | (rw [tNext, if_pos h110]; done) | (rw [tNext, if_neg h110]; done)) ⟨(by first | rfl | simp), (by first | rfl | simp), (by first | rfl | simp), (by first | rfl | simp), trivial⟩
            · refine G.aldn0 C dX3_pass_113 ?_
              refine G.getMT C hinX3 8 (by decide) rfl (C.1.2.2.2.2 (.fieldLink RX3 44 RX3 "reader" "LLateDoves$PartReader;") (by decide +kernel)) rfl dX3_pass_114 ?_
              refine G.aldn0 C dX3_pass_117 ?_
              refine G.getMT C hinX3 6 (by decide) rfl (C.1.2.2.2.2 (.fieldLink RX3 34 RX3 "buffer" "[I") (by decide +kernel)) rfl dX3_pass_118 ?_
              refine G.ildn3 C dX3_pass_121 ?_
              refine G.ialdT9 C (n := 60) (j := 2) (d0 := k) rfl (gV_m (by omega)) (vp_in_nI (by have h5 : ¬ nI L ≤ nI k := h110; rw [nI_leI (by omega) (by omega)] at h5; omega) (by omega)) (ix_nI (by omega)) dX3_pass_122 ?_
              refine G.callVI1 C (T9I (k_X1_take l)) (cwV 1 C.1.2.2.2.2 gX3_pass_X1_take rfl rfl rfl (by decide +kernel) ⟨Nat.le_of_ble_eq_true rfl, Nat.le_of_ble_eq_true rfl⟩) gO_r rfl (Nat.le_of_ble_eq_true rfl) dX3_pass_123 ?_
              refine G.pop C dX3_pass_126 rfl ?_
              refine G.iincN3 C dX3_pass_127 (by omega) rfl ?_
              refine G.goto C 57 dX3_pass_130 (by decide) ?_
              exact G.back (ih (k + 1) (by omega) (tPP c0 c9).2 (tNext c9 k L) (z + 0) _ (by rw [tNext_0]; exact hq0) (fun w => absurd w h95) (by rw [hq2, if_pos h66, tEL, if_pos (by first | exact Or.inl h74 | exact Or.inr h85), if_neg h95, if_neg h95, Int32.add_zero])) (by first | (rw [tNext, if_pos h110]; done) | (rw [tNext, if_neg h110]; done)) ⟨(by first | rfl | simp), (by first | rfl | simp), (by first | rfl | simp), (by first | rfl | simp), trivial⟩
          · refine G.iconst C 1 dX3_pass_98 (by decide) ?_
            refine G.goto C 103 dX3_pass_99 (by decide) ?_
            refine G.iadd C dX3_pass_103 ?_
            refine G.istn1 C dX3_pass_104 (by omega) rfl ?_
            refine G.ildn3 C dX3_pass_105 ?_
            refine G.aldn0 C dX3_pass_106 ?_
            refine G.getMT C hinX3 7 (by decide) rfl (C.1.2.2.2.2 (.fieldLink RX3 38 RX3 "length" "I") (by decide +kernel)) rfl dX3_pass_107 ?_
            refine G.topI (nI L) hq0 ?_
            refine G.icmp_ge C 127 dX3_pass_110 (by decide) (fun h110 => ?_) (fun h110 => ?_)
            · refine G.iincN3 C dX3_pass_127 (by omega) rfl ?_
              refine G.goto C 57 dX3_pass_130 (by decide) ?_
              exact G.back (ih (k + 1) (by omega) (tPP c0 c9).2 (tNext c9 k L) (z + 1) _ (by rw [tNext_0]; exact hq0) (fun _ => hpp.2.2 h95) (by rw [hq2, if_pos h66, tEL, if_pos (by first | exact Or.inl h74 | exact Or.inr h85), if_pos h95, if_pos h95])) (by first | (rw [tNext, if_pos h110]; done) | (rw [tNext, if_neg h110]; done)) ⟨(by first | rfl | simp), (by first | rfl | simp), (by first | rfl | simp), (by first | rfl | simp), trivial⟩
            · refine G.aldn0 C dX3_pass_113 ?_
              refine G.getMT C hinX3 8 (by decide) rfl (C.1.2.2.2.2 (.fieldLink RX3 44 RX3 "reader" "LLateDoves$PartReader;") (by decide +kernel)) rfl dX3_pass_114 ?_
              refine G.aldn0 C dX3_pass_117 ?_
              refine G.getMT C hinX3 6 (by decide) rfl (C.1.2.2.2.2 (.fieldLink RX3 34 RX3 "buffer" "[I") (by decide +kernel)) rfl dX3_pass_118 ?_
              refine G.ildn3 C dX3_pass_121 ?_
              refine G.ialdT9 C (n := 60) (j := 2) (d0 := k) rfl (gV_m (by omega)) (vp_in_nI (by have h5 : ¬ nI L ≤ nI k := h110; rw [nI_leI (by omega) (by omega)] at h5; omega) (by omega)) (ix_nI (by omega)) dX3_pass_122 ?_
              refine G.callVI1 C (T9I (k_X1_take l)) (cwV 1 C.1.2.2.2.2 gX3_pass_X1_take rfl rfl rfl (by decide +kernel) ⟨Nat.le_of_ble_eq_true rfl, Nat.le_of_ble_eq_true rfl⟩) gO_r rfl (Nat.le_of_ble_eq_true rfl) dX3_pass_123 ?_
              refine G.pop C dX3_pass_126 rfl ?_
              refine G.iincN3 C dX3_pass_127 (by omega) rfl ?_
              refine G.goto C 57 dX3_pass_130 (by decide) ?_
              exact G.back (ih (k + 1) (by omega) (tPP c0 c9).2 (tNext c9 k L) (z + 1) _ (by rw [tNext_0]; exact hq0) (fun _ => hpp.2.2 h95) (by rw [hq2, if_pos h66, tEL, if_pos (by first | exact Or.inl h74 | exact Or.inr h85), if_pos h95, if_pos h95])) (by first | (rw [tNext, if_pos h110]; done) | (rw [tNext, if_neg h110]; done)) ⟨(by first | rfl | simp), (by first | rfl | simp), (by first | rfl | simp), (by first | rfl | simp), trivial⟩
        · refine G.aldn0 C dX3_pass_77 ?_
          refine G.getMT C hinX3 6 (by decide) rfl (C.1.2.2.2.2 (.fieldLink RX3 34 RX3 "buffer" "[I") (by decide +kernel)) rfl dX3_pass_78 ?_
          refine G.ildn3 C dX3_pass_81 ?_
          refine G.ialdT9 C (n := 60) (j := 2) (d0 := k) rfl (gV_m (by omega)) (vp_in_nI (by have h5 : k ≠ L := fun w => h74 (by rw [w]); omega) (by omega)) (ix_nI (by omega)) dX3_pass_82 ?_
          refine G.bipush C 59 dX3_pass_83 (by decide) ?_
          refine G.icmp_ne C 105 dX3_pass_85 (by decide) (fun h85 => ?_) (fun h85 => ?_)
          · refine G.ildn3 C dX3_pass_105 ?_
            refine G.aldn0 C dX3_pass_106 ?_
            refine G.getMT C hinX3 7 (by decide) rfl (C.1.2.2.2.2 (.fieldLink RX3 38 RX3 "length" "I") (by decide +kernel)) rfl dX3_pass_107 ?_
            refine G.topI (nI L) hq0 ?_
            refine G.icmp_ge C 127 dX3_pass_110 (by decide) (fun h110 => ?_) (fun h110 => ?_)
            · refine G.iincN3 C dX3_pass_127 (by omega) rfl ?_
              refine G.goto C 57 dX3_pass_130 (by decide) ?_
              exact G.back (ih (k + 1) (by omega) c0 (tNext c9 k L) z rs (by rw [tNext_0]; exact hq0) (fun _ => by have w := hq1 h66; rw [tEOK, if_neg (fun w => w.elim h74 h85)] at w; exact w) (by rw [hq2, if_pos h66, tEL, if_neg (fun w => w.elim h74 h85), if_pos h66])) (by first | (rw [tNext, if_pos h110]; done) | (rw [tNext, if_neg h110]; done)) ⟨(by first | rfl | simp), (by first | rfl | simp), (by first | rfl | simp), (by first | rfl | simp), trivial⟩
            · refine G.aldn0 C dX3_pass_113 ?_
              refine G.getMT C hinX3 8 (by decide) rfl (C.1.2.2.2.2 (.fieldLink RX3 44 RX3 "reader" "LLateDoves$PartReader;") (by decide +kernel)) rfl dX3_pass_114 ?_
              refine G.aldn0 C dX3_pass_117 ?_
              refine G.getMT C hinX3 6 (by decide) rfl (C.1.2.2.2.2 (.fieldLink RX3 34 RX3 "buffer" "[I") (by decide +kernel)) rfl dX3_pass_118 ?_
              refine G.ildn3 C dX3_pass_121 ?_
              refine G.ialdT9 C (n := 60) (j := 2) (d0 := k) rfl (gV_m (by omega)) (vp_in_nI (by have h5 : ¬ nI L ≤ nI k := h110; rw [nI_leI (by omega) (by omega)] at h5; omega) (by omega)) (ix_nI (by omega)) dX3_pass_122 ?_
              refine G.callVI1 C (T9I (k_X1_take l)) (cwV 1 C.1.2.2.2.2 gX3_pass_X1_take rfl rfl rfl (by decide +kernel) ⟨Nat.le_of_ble_eq_true rfl, Nat.le_of_ble_eq_true rfl⟩) gO_r rfl (Nat.le_of_ble_eq_true rfl) dX3_pass_123 ?_
              refine G.pop C dX3_pass_126 rfl ?_
              refine G.iincN3 C dX3_pass_127 (by omega) rfl ?_
              refine G.goto C 57 dX3_pass_130 (by decide) ?_
              exact G.back (ih (k + 1) (by omega) c0 (tNext c9 k L) z rs (by rw [tNext_0]; exact hq0) (fun _ => by have w := hq1 h66; rw [tEOK, if_neg (fun w => w.elim h74 h85)] at w; exact w) (by rw [hq2, if_pos h66, tEL, if_neg (fun w => w.elim h74 h85), if_pos h66])) (by first | (rw [tNext, if_pos h110]; done) | (rw [tNext, if_neg h110]; done)) ⟨(by first | rfl | simp), (by first | rfl | simp), (by first | rfl | simp), (by first | rfl | simp), trivial⟩
          · have hpp := hq1 h66; rw [tEOK, if_pos (by first | exact Or.inl h74 | exact Or.inr h85)] at hpp
            refine G.aldn0 C dX3_pass_88 ?_
            refine G.callVI0 C (k_X3_playPart l hpp.1 hpp.2.1) (cwV 0 C.1.2.2.2.2 gX3_pass_X3_playPart rfl rfl rfl (by decide +kernel) ⟨Nat.le_of_ble_eq_true rfl, Nat.le_of_ble_eq_true rfl⟩) gO_m rfl (Nat.le_of_ble_eq_true rfl) dX3_pass_89 ?_
            refine G.istn2 C dX3_pass_92 (by omega) rfl ?_
            refine G.ildn1 C dX3_pass_93 ?_
            refine G.ildn2 C dX3_pass_94 ?_
            refine G.if_ne C 102 dX3_pass_95 (by decide) (fun h95 => ?_) (fun h95 => ?_)
            · refine G.iconst C 0 dX3_pass_102 (by decide) ?_
              refine G.iadd C dX3_pass_103 ?_
              refine G.istn1 C dX3_pass_104 (by omega) rfl ?_
              refine G.ildn3 C dX3_pass_105 ?_
              refine G.aldn0 C dX3_pass_106 ?_
              refine G.getMT C hinX3 7 (by decide) rfl (C.1.2.2.2.2 (.fieldLink RX3 38 RX3 "length" "I") (by decide +kernel)) rfl dX3_pass_107 ?_
              refine G.topI (nI L) hq0 ?_
              refine G.icmp_ge C 127 dX3_pass_110 (by decide) (fun h110 => ?_) (fun h110 => ?_)
              · refine G.iincN3 C dX3_pass_127 (by omega) rfl ?_
                refine G.goto C 57 dX3_pass_130 (by decide) ?_
                exact G.back (ih (k + 1) (by omega) (tPP c0 c9).2 (tNext c9 k L) (z + 0) _ (by rw [tNext_0]; exact hq0) (fun w => absurd w h95) (by rw [hq2, if_pos h66, tEL, if_pos (by first | exact Or.inl h74 | exact Or.inr h85), if_neg h95, if_neg h95, Int32.add_zero])) (by first | (rw [tNext, if_pos h110]; done) | (rw [tNext, if_neg h110]; done)) ⟨(by first | rfl | simp), (by first | rfl | simp), (by first | rfl | simp), (by first | rfl | simp), trivial⟩
              · refine G.aldn0 C dX3_pass_113 ?_
                refine G.getMT C hinX3 8 (by decide) rfl (C.1.2.2.2.2 (.fieldLink RX3 44 RX3 "reader" "LLateDoves$PartReader;") (by decide +kernel)) rfl dX3_pass_114 ?_
                refine G.aldn0 C dX3_pass_117 ?_
                refine G.getMT C hinX3 6 (by decide) rfl (C.1.2.2.2.2 (.fieldLink RX3 34 RX3 "buffer" "[I") (by decide +kernel)) rfl dX3_pass_118 ?_
                refine G.ildn3 C dX3_pass_121 ?_
                refine G.ialdT9 C (n := 60) (j := 2) (d0 := k) rfl (gV_m (by omega)) (vp_in_nI (by have h5 : ¬ nI L ≤ nI k := h110; rw [nI_leI (by omega) (by omega)] at h5; omega) (by omega)) (ix_nI (by omega)) dX3_pass_122 ?_
                refine G.callVI1 C (T9I (k_X1_take l)) (cwV 1 C.1.2.2.2.2 gX3_pass_X1_take rfl rfl rfl (by decide +kernel) ⟨Nat.le_of_ble_eq_true rfl, Nat.le_of_ble_eq_true rfl⟩) gO_r rfl (Nat.le_of_ble_eq_true rfl) dX3_pass_123 ?_
                refine G.pop C dX3_pass_126 rfl ?_
                refine G.iincN3 C dX3_pass_127 (by omega) rfl ?_
                refine G.goto C 57 dX3_pass_130 (by decide) ?_
                exact G.back (ih (k + 1) (by omega) (tPP c0 c9).2 (tNext c9 k L) (z + 0) _ (by rw [tNext_0]; exact hq0) (fun w => absurd w h95) (by rw [hq2, if_pos h66, tEL, if_pos (by first | exact Or.inl h74 | exact Or.inr h85), if_neg h95, if_neg h95, Int32.add_zero])) (by first | (rw [tNext, if_pos h110]; done) | (rw [tNext, if_neg h110]; done)) ⟨(by first | rfl | simp), (by first | rfl | simp), (by first | rfl | simp), (by first | rfl | simp), trivial⟩
            · refine G.iconst C 1 dX3_pass_98 (by decide) ?_
              refine G.goto C 103 dX3_pass_99 (by decide) ?_
              refine G.iadd C dX3_pass_103 ?_
              refine G.istn1 C dX3_pass_104 (by omega) rfl ?_
              refine G.ildn3 C dX3_pass_105 ?_
              refine G.aldn0 C dX3_pass_106 ?_
              refine G.getMT C hinX3 7 (by decide) rfl (C.1.2.2.2.2 (.fieldLink RX3 38 RX3 "length" "I") (by decide +kernel)) rfl dX3_pass_107 ?_
              refine G.topI (nI L) hq0 ?_
              refine G.icmp_ge C 127 dX3_pass_110 (by decide) (fun h110 => ?_) (fun h110 => ?_)
              · refine G.iincN3 C dX3_pass_127 (by omega) rfl ?_
                refine G.goto C 57 dX3_pass_130 (by decide) ?_
                exact G.back (ih (k + 1) (by omega) (tPP c0 c9).2 (tNext c9 k L) (z + 1) _ (by rw [tNext_0]; exact hq0) (fun _ => hpp.2.2 h95) (by rw [hq2, if_pos h66, tEL, if_pos (by first | exact Or.inl h74 | exact Or.inr h85), if_pos h95, if_pos h95])) (by first | (rw [tNext, if_pos h110]; done) | (rw [tNext, if_neg h110]; done)) ⟨(by first | rfl | simp), (by first | rfl | simp), (by first | rfl | simp), (by first | rfl | simp), trivial⟩
              · refine G.aldn0 C dX3_pass_113 ?_
                refine G.getMT C hinX3 8 (by decide) rfl (C.1.2.2.2.2 (.fieldLink RX3 44 RX3 "reader" "LLateDoves$PartReader;") (by decide +kernel)) rfl dX3_pass_114 ?_
                refine G.aldn0 C dX3_pass_117 ?_
                refine G.getMT C hinX3 6 (by decide) rfl (C.1.2.2.2.2 (.fieldLink RX3 34 RX3 "buffer" "[I") (by decide +kernel)) rfl dX3_pass_118 ?_
                refine G.ildn3 C dX3_pass_121 ?_
                refine G.ialdT9 C (n := 60) (j := 2) (d0 := k) rfl (gV_m (by omega)) (vp_in_nI (by have h5 : ¬ nI L ≤ nI k := h110; rw [nI_leI (by omega) (by omega)] at h5; omega) (by omega)) (ix_nI (by omega)) dX3_pass_122 ?_
                refine G.callVI1 C (T9I (k_X1_take l)) (cwV 1 C.1.2.2.2.2 gX3_pass_X1_take rfl rfl rfl (by decide +kernel) ⟨Nat.le_of_ble_eq_true rfl, Nat.le_of_ble_eq_true rfl⟩) gO_r rfl (Nat.le_of_ble_eq_true rfl) dX3_pass_123 ?_
                refine G.pop C dX3_pass_126 rfl ?_
                refine G.iincN3 C dX3_pass_127 (by omega) rfl ?_
                refine G.goto C 57 dX3_pass_130 (by decide) ?_
                exact G.back (ih (k + 1) (by omega) (tPP c0 c9).2 (tNext c9 k L) (z + 1) _ (by rw [tNext_0]; exact hq0) (fun _ => hpp.2.2 h95) (by rw [hq2, if_pos h66, tEL, if_pos (by first | exact Or.inl h74 | exact Or.inr h85), if_pos h95, if_pos h95])) (by first | (rw [tNext, if_pos h110]; done) | (rw [tNext, if_neg h110]; done)) ⟨(by first | rfl | simp), (by first | rfl | simp), (by first | rfl | simp), (by first | rfl | simp), trivial⟩
  exact G.back (L57 (L + 1) 0 (Nat.zero_add _) (cStop c0 (-1) (-1)) (rBegin c9) 0 0 (by rw [rBegin_r (by decide)]; exact hL) (fun _ => hz) (by rw [if_pos rfl]; exact hr)) rfl ⟨(by first | rfl | simp), (by first | rfl | simp), (by first | rfl | simp), (by first | rfl | simp), trivial⟩
