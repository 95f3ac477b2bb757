/-! the law's cell of the argument; the law's rows -/
def lA (s : State) : Nat → Prop := fun q => s.heap.size ≤ q
theorem gX.warmL {E : gEn} {s U : State} (hW : s.WarmedH U.vm) (h : gX E s) (hq : ∀ a : Nat, a < s.heap.size → U.heap[a]? = s.heap[a]?) : gX E U := ⟨(h.1.moved hW.alike).kept (fun a h1 _ => hq a h1), (h.2.1.moved hW.alike).kept (fun a h1 _ => hq a h1), fun q hq => (h.2.2.1 q hq).imp fun a ha => vk_R.warm hW ha, fun w hw => by
  rcases xB_c w hw with ⟨a, rfl⟩ | ⟨a, rfl⟩
  · exact va_Nw.warmC hW (h.2.2.2 _ hw)
  · exact va_Nw.warmD hW (h.2.2.2 _ hw)⟩
theorem gZ.law {E : gEn} {s : State} (hX : gX E s) (hY : gY s) : gZ E (lA s) s := fun U H locs hU hW hS => ⟨gX.warmL hW hX (fun a ha => by rw [hU]; exact hS.2.1 a ha (Nat.not_le.mpr ha)), gY.warm hW hY⟩
def gPN (E : gEn) (b L : Nat) (xs : Nat → Int32) (σ : gSt) (π : Nat → Nat) (o : Int64) : State → Prop := fun U => CW E σ π o U.heap ∧ gK E U ∧ va_X b L xs U U.heap
abbrev gQN (E : gEn) (σ : gSt) (π : Nat → Nat) (o : Int64) : Array Value → State → Outcome → State → Prop := va_Qi (S := Unit) (fun _ _ => True) (fun _ t => CW E σ π o t.heap) (gA E)
/-- the cell of the argument: what it answers is left open -/
def CtN (l : Launch) (y : MethodName) (ws : List Cond) (rm : Room) (E : gEn) (b L : Nat) (xs : Nat → Int32) (av : List Value) (σ : gSt) (π : Nat → Nat) (o : Int64) : Prop :=
  vx_Met l y ws rm (va_Pc av (gPN E b L xs σ π o)) (gQN E σ π o) (gNX E) 0 0 (gA E)
theorem gN_blind {b L : Nat} {xs : Nat → Int32} {E : gEn} {σ : gSt} {π : Nat → Nat} {o : Int64} {av : List Value} : FrameBlind (va_Pc av (gPN E b L xs σ π o)) := fun a U g mk h => ⟨h.1, h.2.1, h.2.2.1.call, va_X.moved (u := U) (U := U.calling g mk a) (Vm.Alike.refl U.vm) h.2.2.2⟩
section GLW
variable {p : Program} {l : Launch} {e : Env} {R : Room} {s : State} {m : MethodId} {args : Array Value} {below : List Frame} {meth : Method} {c : Code} {Q : State → Prop} {cc : ByteArray} {own : String} {Ts : List Cond} {nL cl sl : Nat} {E : gEn} {A : Nat → Prop} {σ σ' : gSt} {π π' : Nat → Nat} {o o' : Int64}
theorem G.slen (C : gCx p s m c cc nL own Ts args E A R cl sl) {b L : Nat} {xs : Nat → Int32} (hX : va_X b L xs s s.heap) (hbl : b < s.heap.size) (hbA : ¬ A b) {pc : Nat} {lv : List (Option Value)} {st : List Value} (hd : decode cc pc = .ok (.arraylength, 1)) (k : G p l e R s m args below meth c nL cl sl A Q E σ π o (pc + 1) lv (.int (nI L) :: st)) : G p l e R s m args below meth c nL cl sl A Q E σ π o pc lv (.ref b :: st) := fun H locs ls hW hS hl => va_slen C.1.1 C.1.2.1 hX hbl hbA hS hd (k H locs ls hW hS hl)
theorem G.sld (C : gCx p s m c cc nL own Ts args E A R cl sl) {b L : Nat} {xs : Nat → Int32} (hX : va_X b L xs s s.heap) (hbl : b < s.heap.size) (hbA : ¬ A b) {i : Int32} (hin : vp_in i L) {pc : Nat} {lv : List (Option Value)} {st : List Value} (hd : decode cc pc = .ok (.iaload, 1)) (k : G p l e R s m args below meth c nL cl sl A Q E σ π o (pc + 1) lv (.int (xs i.toNatClampNeg) :: st)) : G p l e R s m args below meth c nL cl sl A Q E σ π o pc lv (.int i :: .ref b :: st) := fun H locs ls hW hS hl => va_sld C.1.1 C.1.2.1 hX hbl hbA hS hin hd (k H locs ls hW hS hl)
theorem G.iretN (C : gCx p s m c cc nL own Ts args E (gA E) R 0 0) (hk : meth.locks = false) {pc : Nat} {lv : List (Option Value)} {x : Int32} (hr : meth.sig.returnType = some .int) (hd : decode cc pc = .ok (.ireturn, 1)) : G p l e R s m args below meth c nL 0 0 (gA E) (vx_MQ below (gQN E σ π o) (gNX E) args s 0 0 (gA E)) E σ π o pc lv [.int x] :=
  fun H locs ls hW hS hl => vx_ret (W.iret C.1.1 C.1.2.1 hr (fun t ht hwm => ⟨⟨x, (), rfl, trivial, by show CW _ _ _ _ _; rw [ht]; exact hW⟩, hS.F ht⟩) hS.2.2 hd hk)
theorem G.callN (C : gCx p s m c cc nL own Ts args E (lA s) R cl sl) {b L : Nat} {xs : Nat → Int32} (hX : va_X b L xs s s.heap) (hbl : b < s.heap.size) {pc : Nat} {lv : List (Option Value)} {st : List Value} {index maxL : Nat} {y : MethodName} {bytes : ByteArray} {ret : Option FieldType} {ws : List Cond} {rm : Room} {v1 v2 : Value} (hM : CtN l y ws rm E b L xs [v1, v2] σ π o) (cw : CallB R s args own index y bytes maxL ret ws rm 0 0 2 ∧ (Cond.static y).before args s = true) (hro : (st.map fun v => v.category).sum ≤ 8) (hd : decode cc pc = .ok (.invokestatic index, 3)) (k : ∀ r : Int32, G p l e R s m args below meth c nL cl sl (lA s) Q E σ π o (pc + 3) lv (.int r :: st)) : G p l e R s m args below meth c nL cl sl (lA s) Q E σ π o pc lv (v2 :: v1 :: st) := fun H locs ls hW hS hl => vx_calli (vx_runS (As := [v1, v2]) (rest := st) C.1 hM cw ⟨gN_blind, fun U hU hwm => ⟨rfl, by rw [hU]; exact hW, gK.warm hwm C.2.1, (hX.moved hwm.alike).kept (by rw [hU]; exact hS.2.1 b hbl (Nat.not_le.mpr hbl))⟩⟩ rfl rfl hl.1 rfl (lv_room hro) hd ⟨C.2.2.2.1, C.2.2.2.2⟩) hS (fun q _ h => C.2.2.1 q h) (fun q h => C.2.2.1 q h) (fun q _ h => C.2.2.1 q h) (fun Ec ce q9 u t H1 locs1 ht hvm hp hB hz hk1 hS1 hce hcv hcl => hp.elim) (fun r' u t H1 locs1 ht hvm hp hB hz hk1 hS1 => k r' H1 locs1 ls (by rw [← ht]; exact hB) hS1 hl)
theorem gA_on {E : gEn} {h0 q : Nat} (h : gA (gOn E h0) q) : gA E q ∨ h0 ≤ q := by
  obtain ⟨i, j, hv, e⟩ := h
  by_cases hi : i = 11
  · subst hi
    have e' : q = h0 + j := e
    exact Or.inr (by omega)
  · exact Or.inl ⟨i, j, gV_on hi hv, by rw [e, gOn_ad hi]⟩
theorem gA_blind {h0 : Nat} {av : List Value} : FrameBlind (va_Pc av (fun U => U.heap.size = h0 ∧ CW E σ π o U.heap ∧ gK E U ∧ gX (gOn E h0) U ∧ gY U)) := fun a U g mk h => ⟨h.1, h.2.1, h.2.2.1, h.2.2.2.1.call, h.2.2.2.2.1.call, h.2.2.2.2.2.call⟩
/-- isAhead: its four new arrays are forgotten -/
theorem G.callA (C : gCx p s m c cc nL own Ts args E (lA s) R cl sl) (hE : E.2.2.2.2.2 = false) (hX : ∀ h0, s.heap.size ≤ h0 → gX (gOn E h0) s) (hY : gY s) {pc : Nat} {lv : List (Option Value)} {st : List Value} {index maxL mc ms : Nat} {y : MethodName} {bytes : ByteArray} {ret : Option FieldType} {ws : List Cond} {rm : Room} {v1 v2 v3 v4 v5 : Value} {P : gSt → (Nat → Nat) → Prop} (hM : ∀ h0, CtA l y ws rm E h0 [v1, v2, v3, v4, v5] σ π o P mc ms) (hP : ∀ σ' π', P σ' π' → ∀ k, k < 6 → 3 ≤ π' k ∧ π' k < 9) (cw : CallB R s args own index y bytes maxL ret ws rm mc ms 5 ∧ (Cond.static y).before args s = true) (hro : (st.map fun v => v.category).sum ≤ 8) (hd : decode cc pc = .ok (.invokestatic index, 3)) (hR : cl + mc ≤ R.cells ∧ sl + ms ≤ R.slots) (k : gCx p s m c cc nL own Ts args E (lA s) R (cl + mc) (sl + ms) → ∀ (σ' : gSt) (π' : Nat → Nat), P σ' π' → G p l e R s m args below meth c nL (cl + mc) (sl + ms) (lA s) Q E σ' π' o (pc + 3) lv (.int 1 :: st)) : G p l e R s m args below meth c nL cl sl (lA s) Q E σ π o pc lv (v5 :: v4 :: v3 :: v2 :: v1 :: st) := fun H locs ls hW hS hl => vx_calli (vx_runS (As := [v1, v2, v3, v4, v5]) (rest := st) C.1 (hM H.size) cw ⟨gA_blind, fun U hU hwm => ⟨rfl, by rw [hU], by rw [hU]; exact hW, gK.warm hwm C.2.1, gX.warmL hwm (hX H.size hS.1) (fun a ha => by rw [hU]; exact hS.2.1 a ha (Nat.not_le.mpr ha)), gY.warm hwm hY⟩⟩ rfl rfl hl.1 rfl (lv_room hro) hd hR) hS (fun q hq h => (gA_on h).elim (C.2.2.1 q) (fun w => absurd hq (Nat.not_lt.mpr w))) (fun q h => (gA_on h).elim (C.2.2.1 q) (fun w => Nat.le_trans hS.1 w)) (fun q hq h => (gA_on h).elim (C.2.2.1 q) (fun w => absurd hq (Nat.not_lt.mpr w))) (fun Ec ce q9 u t H1 locs1 ht hvm hp hB hz hk1 hS1 hce hcv hcl => hp.elim) (fun r' u t H1 locs1 ht hvm hp hB hz hk1 hS1 => by
  have e : r' = 1 := hp
  subst e
  obtain ⟨σ1, π1, hB1, hP1⟩ := hB
  exact k (C.wide hR.1 hR.2) σ1 π1 hP1 H1 locs1 ls (by rw [← ht]; exact CW_off hE (hP σ1 π1 hP1) hB1) hS1 hl)
end GLW
set_option maxRecDepth 100000 in
set_option maxHeartbeats 4000000 in
theorem k_L_cell (l : Launch) {E : gEn} {σ : gSt} {π : Nat → Nat} {o : Int64} {b L k : Nat} {xs : Nat → Int32} (hL : L ≤ 2048) (hk : k < 4000) (hbA : ¬ gA E b) : CtN l yL_cell wsL_cell ({ frames := 0, cells := 0, slots := 0, locals := 0 } : Room) E b L xs [.ref b, .int (nI k)] σ π o := by
  refine vx_ofW (cc := cL_cell) (maxL := 2) (ret := some .int) (by decide) rfl ?_
  intro p e s m args below meth c s₁ B hml hnt hv
  obtain ⟨rfl, hW, hK, hX⟩ := hv
  have hts := atoms_spec (ws := wsL_cell) B.pre
  have hfo : s.vm.findClass RL = some m.cls := findClass_of_methodNamed B.named
  rw [lg_entry_eq]
  have C : gCx p s m c cL_cell 2 RL wsL_cell _ E (gA E) ({ frames := 0, cells := 0, slots := 0, locals := 0 } : Room) 0 0 := ⟨⟨B.exec, B.bytes, hml, hfo, hts⟩, hK, fun _ h => h, Nat.zero_le _, Nat.zero_le _⟩
  have hbl : b < s.heap.size := by
    obtain ⟨scr, h1, -⟩ := hX
    exact (Array.getElem?_eq_some_iff.mp h1).1
  have hl0 : lh _ 2 [some (.ref b), some (.int (nI k))] := gLv_ok (av := [.ref b, .int (nI k)]) (n := 2) (Nat.le_of_ble_eq_true rfl)
  suffices hG : G p l e ({ frames := 0, cells := 0, slots := 0, locals := 0 } : Room) s m _ below meth c 2 0 0 (gA E) (vx_MQ below (gQN E σ π o) (gNX E) _ s 0 0 (gA E)) E σ π o 0 [some (.ref b), some (.int (nI k))] [] from hG s.heap [] _ hW va_S.rf hl0
  refine G.ildn1 C dL_cell_0 ?_
  refine G.aldn0 C dL_cell_1 ?_
  refine G.slen C hX hbl hbA dL_cell_2 ?_
  refine G.icmp_ge C 12 dL_cell_3 (by decide) (fun _ => ?_) (fun hc => ?_)
  · refine G.ldc C (v := (-1538233109)) (C.1.2.2.2.2 (.constant RL 7 (-1538233109)) (by decide +kernel)) dL_cell_12 ?_
    refine G.ildn1 C dL_cell_14 ?_
    refine G.iconst C 1 dL_cell_15 (by decide) ?_
    refine G.iadd C dL_cell_16 ?_
    refine G.imul C dL_cell_17 ?_
    exact G.iretN C B.notSynchronized B.returns dL_cell_18
  · have hkL : k < L := by
      rcases Nat.lt_or_ge k L with q | q
      · exact q
      · exact absurd (nI_leI (a := L) (b := k) (by omega) (by omega) |>.mpr q) hc
    refine G.aldn0 C dL_cell_6 ?_
    refine G.ildn1 C dL_cell_7 ?_
    refine G.sld C hX hbl hbA (show vp_in (nI k) L from vp_in_nI hkL (by omega)) dL_cell_8 ?_
    refine G.goto C 18 dL_cell_9 (by decide) ?_
    exact G.iretN C B.notSynchronized B.returns dL_cell_18
