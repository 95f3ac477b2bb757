/-! isAhead, whole: its four new arrays -/
def gOn (E : gEn) (h0 : Nat) : gEn := (E.1, fun i j => if i = 11 then h0 + j else E.2.1 i j, E.2.2.1, E.2.2.2.1, E.2.2.2.2.1, true)
theorem gOn_ad {E : gEn} {h0 i j : Nat} (h : i ≠ 11) : (gOn E h0).2.1 i j = E.2.1 i j := if_neg h
def CtA (l : Launch) (y : MethodName) (ws : List Cond) (rm : Room) (E : gEn) (h0 : Nat) (av : List Value) (σ : gSt) (π : Nat → Nat) (o : Int64) (P : gSt → (Nat → Nat) → Prop) (mc ms : Nat) : Prop :=
  vx_Met l y ws rm (va_Pc av (fun U => U.heap.size = h0 ∧ CW E σ π o U.heap ∧ gK E U ∧ gX (gOn E h0) U ∧ gY U)) (va_Qi (S := Unit) (fun x _ => x = 1) (fun _ t => ∃ σ' π', CW (gOn E h0) σ' π' o t.heap ∧ P σ' π') (gA (gOn E h0))) (gNX (gOn E h0)) mc ms (gA (gOn E h0))
theorem gV_on {E : gEn} {h0 i j : Nat} (h : i ≠ 11) (hv : gV (gOn E h0) i j) : gV E i j := by
  rcases hv with h1 | h1 | h1 | ⟨h1, -⟩
  · exact Or.inl h1
  · exact Or.inr (Or.inl h1)
  · exact Or.inr (Or.inr (Or.inl h1))
  · exact absurd h1 h
theorem gC_on {E : gEn} {h0 i j : Nat} {σ σ' : gSt} {π : Nat → Nat} {o : Int64} (h : i ≠ 11) (h91 : ¬ (i = 9 ∧ j = 1)) (hs : σ' i = σ i) : gC (gOn E h0) σ' π o i j = gC E σ π o i j := by
  unfold gC
  rw [hs]
  by_cases h9 : i < 9
  · rw [if_pos h9, if_pos h9]
    unfold gFc gFw
    simp only [gOn_ad h]
    rfl
  · rw [if_neg h9, if_neg h9]
    by_cases hi9 : i = 9
    · rw [if_pos hi9, if_pos hi9]
      by_cases h0' : j = 0
      · rw [if_pos h0', if_pos h0']; rfl
      · rw [if_neg h0', if_neg h0', if_neg (fun q => h91 ⟨hi9, q⟩), if_neg (fun q => h91 ⟨hi9, q⟩)]
        rfl
    · rw [if_neg hi9, if_neg hi9]
      rfl
theorem CW_on {E : gEn} {σ σ' : gSt} {π : Nat → Nat} {o : Int64} {H : Heap} {h0 : Nat} (hW : CW E σ π o H) (hπ : ∀ k, k < 6 → 3 ≤ π k ∧ π k < 9) (hs : ∀ i, i ≠ 11 → σ' i = σ i) (h11 : ∀ j, j < 4 → va_at E.1 vwCl (h0 + j, .inl (E.2.2.1, gLd j, .inl (σ' 11 j))) H) : CW (gOn E h0) σ' π o H := by
  intro i j hv
  by_cases h : i = 11
  · subst h
    have hj : j < 4 := by
      rcases hv with ⟨h1, -⟩ | ⟨h1, -⟩ | ⟨h1, -⟩ | ⟨-, h1, -⟩
      · omega
      · omega
      · omega
      · exact h1
    exact h11 j hj
  · have hw := hW i j (gV_on h hv)
    by_cases h91 : i = 9 ∧ j = 1
    · obtain ⟨rfl, rfl⟩ := h91
      exact ct_refs (D := E.1) hw (fun d hd => by rw [gOn_ad (by have := hπ d hd; omega)])
    · rw [gC_on h h91 (hs i h), gOn_ad h]
      exact hw
theorem CW_off {E : gEn} {σ : gSt} {π : Nat → Nat} {o : Int64} {H : Heap} {h0 : Nat} (hE : E.2.2.2.2.2 = false) (hπ : ∀ k, k < 6 → 3 ≤ π k ∧ π k < 9) (hW : CW (gOn E h0) σ π o H) : CW E σ π o H := by
  intro i j hv
  have h : i ≠ 11 := by
    rcases hv with ⟨h1, -⟩ | ⟨h1, -⟩ | ⟨h1, -⟩ | ⟨-, -, h1⟩
    · omega
    · omega
    · omega
    · rw [hE] at h1; cases h1
  have hv' : gV (gOn E h0) i j := by
    rcases hv with h1 | h1 | h1 | ⟨h1, -⟩
    · exact Or.inl h1
    · exact Or.inr (Or.inl h1)
    · exact Or.inr (Or.inr (Or.inl h1))
    · exact absurd h1 h
  have hw := hW i j hv'
  by_cases h91 : i = 9 ∧ j = 1
  · obtain ⟨rfl, rfl⟩ := h91
    exact ct_refs (D := E.1) hw (fun d hd => by rw [gOn_ad (by have := hπ d hd; omega)])
  · rw [gC_on h h91 rfl, gOn_ad h] at hw
    exact hw
theorem gK_on {E : gEn} {U : State} {h0 : Nat} (hK : gK E U) (hlt : ∀ i j, gV E i j → E.2.1 i j < h0) : gK (gOn E h0) U := by
  refine ⟨hK.1, hK.2.1, fun i j i' j' hv hv' he => ?_⟩
  by_cases h : i = 11
  · by_cases h' : i' = 11
    · subst h; subst h'
      have he' : h0 + j = h0 + j' := he
      exact ⟨rfl, by omega⟩
    · rw [gOn_ad h'] at he
      have := hlt i' j' (gV_on h' hv')
      subst h
      have he' : h0 + j = E.2.1 i' j' := he
      omega
  · by_cases h' : i' = 11
    · rw [gOn_ad h] at he
      have := hlt i j (gV_on h hv)
      subst h'
      have he' : E.2.1 i j = h0 + j' := he
      omega
    · rw [gOn_ad h, gOn_ad h'] at he
      exact hK.2.2 i j i' j' (gV_on h hv) (gV_on h' hv') he
section GFS
variable {p : Program} {l : Launch} {e : Env} {R : Room} {s : State} {m : MethodId} {args : Array Value} {below : List Frame} {meth : Method} {c : Code} {Q : State → Prop} {cc : ByteArray} {own : String} {Ts : List Cond} {nL cl sl : Nat} {E : gEn} {A : Nat → Prop} {σ : gSt} {π : Nat → Nat} {o : Int64} {h0 n : Nat} {ct : Nat → va_E}
/-- as G, with n new cells behind the world -/
def GF (p : Program) (l : Launch) (e : Env) (R : Room) (s : State) (m : MethodId) (args : Array Value) (below : List Frame) (meth : Method) (c : Code) (nL cl sl : Nat) (A : Nat → Prop) (Q : State → Prop) (E : gEn) (σ : gSt) (π : Nat → Nat) (o : Int64) (h0 n : Nat) (ct : Nat → va_E) (pc : Nat) (lv : List (Option Value)) (st : List Value) : Prop :=
  ∀ (H : Heap) (locs : List Loc) (ls : Array Slot), CW E σ π o H → RW E.1 h0 n ct H → va_S A s.heap H locs → lh ls nL lv → W p l e R s m args below meth c H locs cl sl Q (F0 m pc ls st)
theorem GF.bipush (C : CallFix p m c cc nL s args Ts own) {pc : Nat} {lv : List (Option Value)} {st : List Value} {n' : Int} (v : Int32) (hd : decode cc pc = .ok (.bipush n', 2)) (hv : (Int8.ofInt n').toInt32 = v) (k : GF p l e R s m args below meth c nL cl sl A Q E σ π o h0 n ct (pc + 2) lv (.int v :: st)) : GF p l e R s m args below meth c nL cl sl A Q E σ π o h0 n ct pc lv st :=
  fun H locs ls hW hF hS hl => lv_bipush C.1 C.2.1 hd hv (k H locs ls hW hF hS hl)
theorem GF.newi (C : CallFix p m c cc nL s args Ts own) (hK : gK E s) (harr : Cond.arrayClass .int ∈ Ts) {pc : Nat} {lv : List (Option Value)} {st : List Value} {i : Int32} (N : Nat) (hn : ¬ i < 0) (hN : i.toNatClampNeg = N) (hbytes : N * 4 ≤ 536870912) (hcells : cl + 1 ≤ R.cells) (hslots : sl + N ≤ R.slots) (hd : decode cc pc = .ok (.newarray .int, 2)) (k : GF p l e R s m args below meth c nL (cl + 1) (sl + N) A Q E σ π o h0 (n + 1) (ctU ct n (.inl (E.2.2.1, N, .inl (fun _ => 0)))) (pc + 2) lv (.ref (h0 + n) :: st)) : GF p l e R s m args below meth c nL cl sl A Q E σ π o h0 n ct pc lv (.int i :: st) :=
  fun H locs ls hW hP hS hl => by
    refine va_newaK (atype := .int) C.1 C.2.1 (C.2.2.2.2 _ harr) rfl hd rfl hn hN hbytes hcells hslots hP.1 fun H1 cA e1 z1 o1 hAr hNm => ?_
    have o2 : ∀ q, q < H.size → H1[q]? = H[q]? := fun q hq => o1 q (by rw [← hP.1]; exact hq)
    have z2 : H1.size = H.size + 1 := by rw [z1, hP.1]
    have hcA : cA = E.2.2.1 := Option.some.inj (hNm.symm.trans (hK.1.2 0 (E.2.2.1, .int) rfl).2)
    subst hcA
    exact k H1 locs ls (hW.kept fun i j hv => o2 _ (hW.lt hv)) (hP.push z2 e1 o2) (bS_push hS (by omega) o2) hl
theorem GF.ast5 (C : CallFix p m c cc nL s args Ts own) {pc : Nat} {a0 a1 a2 a3 a4 b : Option Value} {r : List (Option Value)} {st : List Value} {x : Nat} (hd : decode cc pc = .ok (.astore 5, 2)) (hn : 5 < nL) (h1 : lv1 (a0 :: a1 :: a2 :: a3 :: a4 :: b :: r) 5 = true) (k : GF p l e R s m args below meth c nL cl sl A Q E σ π o h0 n ct (pc + 2) (a0 :: a1 :: a2 :: a3 :: a4 :: some (.ref x) :: r) st) : GF p l e R s m args below meth c nL cl sl A Q E σ π o h0 n ct pc (a0 :: a1 :: a2 :: a3 :: a4 :: b :: r) (.ref x :: st) :=
  fun H locs ls hW hF hS hl => lv_astore C.1 C.2.1 hd hl hn rfl (fun ls' h' => k H locs ls' hW hF hS (lh.filt (lv := (a0 :: a1 :: a2 :: a3 :: a4 :: b :: r)) h' (fun k v hk hne => by simp only [Bool.and_eq_true]; exact ⟨by simp [hne], lv1_ok h1 hk⟩)))
theorem GF.ast6 (C : CallFix p m c cc nL s args Ts own) {pc : Nat} {a0 a1 a2 a3 a4 a5 b : Option Value} {r : List (Option Value)} {st : List Value} {x : Nat} (hd : decode cc pc = .ok (.astore 6, 2)) (hn : 6 < nL) (h1 : lv1 (a0 :: a1 :: a2 :: a3 :: a4 :: a5 :: b :: r) 6 = true) (k : GF p l e R s m args below meth c nL cl sl A Q E σ π o h0 n ct (pc + 2) (a0 :: a1 :: a2 :: a3 :: a4 :: a5 :: some (.ref x) :: r) st) : GF p l e R s m args below meth c nL cl sl A Q E σ π o h0 n ct pc (a0 :: a1 :: a2 :: a3 :: a4 :: a5 :: b :: r) (.ref x :: st) :=
  fun H locs ls hW hF hS hl => lv_astore C.1 C.2.1 hd hl hn rfl (fun ls' h' => k H locs ls' hW hF hS (lh.filt (lv := (a0 :: a1 :: a2 :: a3 :: a4 :: a5 :: b :: r)) h' (fun k v hk hne => by simp only [Bool.and_eq_true]; exact ⟨by simp [hne], lv1_ok h1 hk⟩)))
theorem GF.ast7 (C : CallFix p m c cc nL s args Ts own) {pc : Nat} {a0 a1 a2 a3 a4 a5 a6 b : Option Value} {r : List (Option Value)} {st : List Value} {x : Nat} (hd : decode cc pc = .ok (.astore 7, 2)) (hn : 7 < nL) (h1 : lv1 (a0 :: a1 :: a2 :: a3 :: a4 :: a5 :: a6 :: b :: r) 7 = true) (k : GF p l e R s m args below meth c nL cl sl A Q E σ π o h0 n ct (pc + 2) (a0 :: a1 :: a2 :: a3 :: a4 :: a5 :: a6 :: some (.ref x) :: r) st) : GF p l e R s m args below meth c nL cl sl A Q E σ π o h0 n ct pc (a0 :: a1 :: a2 :: a3 :: a4 :: a5 :: a6 :: b :: r) (.ref x :: st) :=
  fun H locs ls hW hF hS hl => lv_astore C.1 C.2.1 hd hl hn rfl (fun ls' h' => k H locs ls' hW hF hS (lh.filt (lv := (a0 :: a1 :: a2 :: a3 :: a4 :: a5 :: a6 :: b :: r)) h' (fun k v hk hne => by simp only [Bool.and_eq_true]; exact ⟨by simp [hne], lv1_ok h1 hk⟩)))
theorem GF.ast8 (C : CallFix p m c cc nL s args Ts own) {pc : Nat} {a0 a1 a2 a3 a4 a5 a6 a7 b : Option Value} {r : List (Option Value)} {st : List Value} {x : Nat} (hd : decode cc pc = .ok (.astore 8, 2)) (hn : 8 < nL) (h1 : lv1 (a0 :: a1 :: a2 :: a3 :: a4 :: a5 :: a6 :: a7 :: b :: r) 8 = true) (k : GF p l e R s m args below meth c nL cl sl A Q E σ π o h0 n ct (pc + 2) (a0 :: a1 :: a2 :: a3 :: a4 :: a5 :: a6 :: a7 :: some (.ref x) :: r) st) : GF p l e R s m args below meth c nL cl sl A Q E σ π o h0 n ct pc (a0 :: a1 :: a2 :: a3 :: a4 :: a5 :: a6 :: a7 :: b :: r) (.ref x :: st) :=
  fun H locs ls hW hF hS hl => lv_astore C.1 C.2.1 hd hl hn rfl (fun ls' h' => k H locs ls' hW hF hS (lh.filt (lv := (a0 :: a1 :: a2 :: a3 :: a4 :: a5 :: a6 :: a7 :: b :: r)) h' (fun k v hk hne => by simp only [Bool.and_eq_true]; exact ⟨by simp [hne], lv1_ok h1 hk⟩)))
end GFS
set_option maxRecDepth 100000 in
set_option maxHeartbeats 4000000 in
theorem k_L_isAhead (l : Launch) (hst : l.stackTraces = false) {E : gEn} {h0 : Nat} {σ : gSt} {π : Nat → Nat} {o : Int64} {c0 c1 c2 c9 v : cSt} {t : Int32} {P : gSt → (Nat → Nat) → Prop} (ht0 : ¬ t < 0) (ht1 : t ≤ 1439) (hπ : ∀ k, k < 6 → 3 ≤ π k ∧ π k < 9) (hA : lAh c0 v t) (hend : ∀ c1 w, P (gM σ c0 c1 c2 c9 v w) π) : CtA l yL_isAhead wsL_isAhead ({ frames := 9, cells := 36, slots := 359, locals := 206 } : Room) E h0 [.ref (E.2.1 9 0), .ref (E.2.1 10 0), .ref (E.2.1 10 1), .ref (E.2.1 10 2), .int t] (gL σ c0 c1 c2 c9 v) π o P 36 359 := by
  refine vx_ofW (cc := cL_isAhead) (maxL := 13) (ret := some .boolean) (by decide) rfl ?_
  intro p e s m args below meth c s₁ B hml hnt hv
  obtain ⟨rfl, hsz, hW, hK, hX, hY⟩ := hv
  have hts := atoms_spec (ws := wsL_isAhead) B.pre
  have hfo : s.vm.findClass RL = some m.cls := findClass_of_methodNamed B.named
  rw [lg_entry_eq]
  have C : CallFix p m c cL_isAhead 13 s _ wsL_isAhead RL := ⟨B.exec, B.bytes, hml, hfo, hts⟩
  have hK' : gK (gOn E h0) s := gK_on hK fun i j hv => by rw [← hsz]; exact hW.lt hv
  have hl0 : lh _ 13 [some (.ref ((gOn E h0).2.1 9 0)), some (.ref ((gOn E h0).2.1 10 0)), some (.ref ((gOn E h0).2.1 10 1)), some (.ref ((gOn E h0).2.1 10 2)), some (.int t), none, none, none, none, none, none, none, none] := gLv_ok (av := [.ref (E.2.1 9 0), .ref (E.2.1 10 0), .ref (E.2.1 10 1), .ref (E.2.1 10 2), .int t]) (n := 13) (Nat.le_of_ble_eq_true rfl)
  have hR0 : RW E.1 h0 0 (fun _ => .inl (E.2.2.1, 0, .inl (fun _ => 0))) s.heap := ⟨hsz, fun k hk => absurd hk (by omega)⟩
  suffices hG : GF p l e ({ frames := 9, cells := 36, slots := 359, locals := 206 } : Room) s m _ below meth c 13 0 0 (gA (gOn E h0)) (gQP below _ s (gOn E h0) o P 36 359) E (gL σ c0 c1 c2 c9 v) π o h0 0 (fun _ => .inl (E.2.2.1, 0, .inl (fun _ => 0))) 0 [some (.ref ((gOn E h0).2.1 9 0)), some (.ref ((gOn E h0).2.1 10 0)), some (.ref ((gOn E h0).2.1 10 1)), some (.ref ((gOn E h0).2.1 10 2)), some (.int t), none, none, none, none, none, none, none, none] [] from hG s.heap [] _ hW hR0 va_S.rf hl0
  have harr : Cond.arrayClass .int ∈ wsL_isAhead := by decide +kernel
  refine GF.bipush C 13 dL_isAhead_0 (by decide) ?_
  refine GF.newi C hK harr 13 (by decide) (by decide) (by decide) (Nat.le_of_ble_eq_true rfl) (Nat.le_of_ble_eq_true rfl) dL_isAhead_2 ?_
  refine GF.ast5 C dL_isAhead_4 (by omega) rfl ?_
  refine GF.bipush C 64 dL_isAhead_6 (by decide) ?_
  refine GF.newi C hK harr 64 (by decide) (by decide) (by decide) (Nat.le_of_ble_eq_true rfl) (Nat.le_of_ble_eq_true rfl) dL_isAhead_8 ?_
  refine GF.ast6 C dL_isAhead_10 (by omega) rfl ?_
  refine GF.bipush C 64 dL_isAhead_12 (by decide) ?_
  refine GF.newi C hK harr 64 (by decide) (by decide) (by decide) (Nat.le_of_ble_eq_true rfl) (Nat.le_of_ble_eq_true rfl) dL_isAhead_14 ?_
  refine GF.ast7 C dL_isAhead_16 (by omega) rfl ?_
  refine GF.bipush C 26 dL_isAhead_18 (by decide) ?_
  refine GF.newi C hK harr 26 (by decide) (by decide) (by decide) (Nat.le_of_ble_eq_true rfl) (Nat.le_of_ble_eq_true rfl) dL_isAhead_20 ?_
  refine GF.ast8 C dL_isAhead_22 (by omega) rfl ?_
  intro H locs ls hW hP hS hl
  have hW' : CW (gOn E h0) (gM σ c0 c1 c2 c9 v (fun _ _ => 0)) π o H := by
    refine CW_on hW hπ (fun i hi => ?_) (fun j hj => ?_)
    · by_cases h10 : i = 10
      · subst h10; rw [gL_10]; exact gL_10
      · unfold gM gL gT
        by_cases h9 : i = 9
        · rw [h9, gU_at, gU_at]
        · rw [gU_ne h9, gU_ne h9]
          by_cases h2 : i = 2
          · rw [h2, gU_at, gU_at]
          · rw [gU_ne h2, gU_ne h2]
            by_cases h1 : i = 1
            · rw [h1, gU_at, gU_at]
            · rw [gU_ne h1, gU_ne h1]
              by_cases h0' : i = 0
              · rw [h0', gU_at, gU_at]
              · rw [gU_ne h0', gU_ne h0', gU_ne h10, gU_ne h10, gU_ne hi]
    · rw [gM_11]
      have := hP.2 j hj
      rcases (show j = 0 ∨ j = 1 ∨ j = 2 ∨ j = 3 by omega) with rfl | rfl | rfl | rfl <;> exact this
  exact k_L_isAhead_24 l hst (E := gOn E h0) rfl ht0 ht1 hA hend ⟨C, hK', fun _ h => h, Nat.le_of_ble_eq_true rfl, Nat.le_of_ble_eq_true rfl⟩ (gZ.of hX hY) B.returns B.notSynchronized H locs ls hW' hS hl
