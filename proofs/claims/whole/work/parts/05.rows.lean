/-! fields, calls, entries, returns -/
theorem gC_co {E : gEn} {σ : gSt} {π : Nat → Nat} {o : Int64} {i : Nat} (hi : i < 9) : gC E σ π o i 0 = .inr (0, gFc E (σ i) i) := by unfold gC; rw [if_pos hi]; rfl
theorem gC_wa {E : gEn} {σ : gSt} {π : Nat → Nat} {o : Int64} {i : Nat} (hi : i < 9) : gC E σ π o i 17 = .inr (2, gFw E (σ i) i) := by unfold gC; rw [if_pos hi]; rfl
theorem gC_ma {E : gEn} {σ : gSt} {π : Nat → Nat} {o : Int64} : gC E σ π o 9 0 = .inr (3, gFm E (σ 9)) := rfl
theorem gC_re {E : gEn} {σ : gSt} {π : Nat → Nat} {o : Int64} : gC E σ π o 9 3 = .inr (1, gFr (σ 9)) := rfl
theorem gC_mo {E : gEn} {σ : gSt} {π : Nat → Nat} {o : Int64} : gC E σ π o 10 0 = .inr (4, gFd E (σ 10)) := rfl
theorem gV_c {i j : Nat} (hi : i < 9) (hj : j < 20) : gV i j := Or.inl ⟨hi, hj⟩
theorem gV_m {j : Nat} (hj : j < 4) : gV 9 j := Or.inr (Or.inl ⟨rfl, hj⟩)
theorem gV_d {j : Nat} (hj : j < 6) : gV 10 j := Or.inr (Or.inr (Or.inl ⟨rfl, hj⟩))
theorem gV_o : gV 11 0 := Or.inr (Or.inr (Or.inr ⟨rfl, by omega⟩))
theorem gN_c {i j n : Nat} (hi : i < 9) (h : (if j = 0 ∨ j = 1 ∨ j = 10 ∨ j = 17 then none else some (gLc j)) = some n) : gN i j = some n := by unfold gN; rw [if_pos hi]; exact h
theorem gO_c {i : Nat} (hi : i < 9) : gO i 0 = some 0 := by unfold gO; rw [if_pos hi]; rfl
theorem gO_w {i : Nat} (hi : i < 9) : gO i 17 = some 2 := by unfold gO; rw [if_pos hi]; rfl
theorem gO_m : gO 9 0 = some 3 := rfl
theorem gO_r : gO 9 3 = some 1 := rfl
theorem gO_d : gO 10 0 = some 4 := rfl
/-- the locals at a method's entry -/
def gLv (av : List Value) (n : Nat) : List (Option Value) := (lg_sl av).map (fun z => match z with | .val v => some v | _ => none) ++ List.replicate (n - (lg_sl av).length) none
theorem gLv_ok {av : List Value} {n : Nat} (h : (lg_sl av).length ≤ n) : lh ((lg_sl av ++ List.replicate (n - (lg_sl av).length) Slot.unset).toArray) n (gLv av n) := by
  have h0 := lv_entry av h
  refine ⟨h0.1, h0.2.1, fun q hq => ?_⟩
  have h1 := lvl_mem.mp hq
  unfold gLv at h1
  have hlen : q.1 < (lg_sl av).length := by
    rcases Nat.lt_or_ge q.1 (lg_sl av).length with z | z
    · exact z
    · rw [List.getElem?_append_right (by simpa using z)] at h1
      rw [List.getElem?_replicate] at h1
      split at h1 <;> simp at h1
  rw [List.getElem?_append_left (by simpa using hlen), List.getElem?_map] at h1
  have h2 : ((lg_sl av ++ List.replicate (n - (lg_sl av).length) Slot.unset).toArray)[q.1]? = (lg_sl av)[q.1]? := by
    rw [List.getElem?_toArray, List.getElem?_append_left hlen]
  rw [h2]
  cases hz : (lg_sl av)[q.1]? with
  | none => rw [hz] at h1; simp at h1
  | some z =>
    rw [hz] at h1
    cases z with
    | val v => simp at h1; rw [h1]
    | unset => simp at h1
    | second => simp at h1
def gQI (below : List Frame) (args : Array Value) (s : State) (r : Int32) (E : gEn) (σ' : gSt) (π' : Nat → Nat) (o' : Int64) : State → Prop := MQ below (va_Qi (S := Unit) (fun x _ => x = r) (fun _ t => CW E σ' π' o' t.heap) (gA E)) args s 0 0 (gA E)
def gQL (below : List Frame) (args : Array Value) (s : State) (r : Int64) (E : gEn) (σ' : gSt) (π' : Nat → Nat) (o' : Int64) : State → Prop := MQ below (va_Ql (S := Unit) (fun x _ => x = r) (fun _ t => CW E σ' π' o' t.heap) (gA E)) args s 0 0 (gA E)
def gQD (below : List Frame) (args : Array Value) (s : State) (r : UInt64) (E : gEn) (σ' : gSt) (π' : Nat → Nat) (o' : Int64) : State → Prop := MQ below (va_Qd (S := Unit) (fun x _ => x = r) (fun _ t => CW E σ' π' o' t.heap) (gA E)) args s 0 0 (gA E)
def gQV (below : List Frame) (args : Array Value) (s : State) (E : gEn) (σ' : gSt) (π' : Nat → Nat) (o' : Int64) : State → Prop := MQ below (va_Qv (S := Unit) (fun _ => True) (fun _ t => CW E σ' π' o' t.heap) (gA E)) args s 0 0 (gA E)
theorem pfX0_6 {E : gEn} {d : Nat → Nat → Int32} {i : Nat} {x : Int32} : gFc E (cW d 0 6 x) i = (gFc E d i).set 6 (.int x) := rfl
theorem pfX0_7 {E : gEn} {d : Nat → Nat → Int32} {i : Nat} {x : Int32} : gFc E (cW d 0 7 x) i = (gFc E d i).set 7 (.int x) := rfl
theorem pfX0_8 {E : gEn} {d : Nat → Nat → Int32} {i : Nat} {x : Int32} : gFc E (cW d 0 8 x) i = (gFc E d i).set 8 (.int x) := rfl
theorem pfX0_9 {E : gEn} {d : Nat → Nat → Int32} {i : Nat} {x : Int32} : gFc E (cW d 0 9 x) i = (gFc E d i).set 9 (.int x) := rfl
theorem pfX2_2 {E : gEn} {d : Nat → Nat → Int32} {i : Nat} {x : Int32} : gFw E (cW d 17 2 x) i = (gFw E d i).set 2 (.int x) := rfl
theorem pfX1_0 {d : Nat → Nat → Int32} {x : Int32} : gFr (cW d 3 0 x) = (gFr d).set 0 (.int x) := rfl
theorem pfX1_1 {d : Nat → Nat → Int32} {x : Int32} : gFr (cW d 3 1 x) = (gFr d).set 1 (.int x) := rfl
theorem pfX1_2 {d : Nat → Nat → Int32} {x : Int32} : gFr (cW d 3 2 x) = (gFr d).set 2 (.int x) := rfl
theorem pfX1_3 {d : Nat → Nat → Int32} {x : Int32} : gFr (cW d 3 3 x) = (gFr d).set 3 (.int x) := rfl
theorem pfX3_3 {E : gEn} {d : Nat → Nat → Int32} {x : Int32} : gFm E (cW d 0 3 x) = (gFm E d).set 3 (.int x) := rfl
theorem pfX3_5 {E : gEn} {d : Nat → Nat → Int32} {x : Int32} : gFm E (cW d 0 5 x) = (gFm E d).set 5 (.int x) := rfl
theorem pfX3_7 {E : gEn} {d : Nat → Nat → Int32} {x : Int32} : gFm E (cW d 0 7 x) = (gFm E d).set 7 (.int x) := rfl
theorem pfX4_0 {E : gEn} {d : Nat → Nat → Int32} {x : Int32} : gFd E (cW d 0 0 x) = (gFd E d).set 0 (.int x) := rfl
theorem pfX4_4 {E : gEn} {d : Nat → Nat → Int32} {x : Int32} : gFd E (cW d 0 4 x) = (gFd E d).set 4 (.int x) := rfl
theorem pfX4_6 {E : gEn} {d : Nat → Nat → Int32} {x : Int32} : gFd E (cW d 0 6 x) = (gFd E d).set 6 (.int x) := rfl
theorem pfX4_8 {E : gEn} {d : Nat → Nat → Int32} {x : Int32} : gFd E (cW d 0 8 x) = (gFd E d).set 8 (.int x) := rfl
theorem pfX4_9 {E : gEn} {d : Nat → Nat → Int32} {x : Int32} : gFd E (cW d 0 9 x) = (gFd E d).set 9 (.int x) := rfl
theorem pfX4_10 {E : gEn} {d : Nat → Nat → Int32} {x : Int32} : gFd E (cW d 0 10 x) = (gFd E d).set 10 (.int x) := rfl
theorem pfX4_11 {E : gEn} {d : Nat → Nat → Int32} {x : Int32} : gFd E (cW d 0 11 x) = (gFd E d).set 11 (.int x) := rfl
theorem bI_fit (b : Bool) : fits .boolean (.int (bI b)) = true := by cases b <;> rfl
section GL2
variable {p : Program} {l : Launch} {e : Env} {R : Room} {s : State} {m : MethodId} {args : Array Value} {below : List Frame} {meth : Method} {c : Code} {Q : State → Prop} {cc : ByteArray} {own : String} {Ts : List Cond} {nL cl sl : Nat} {E : gEn} {A : Nat → Prop} {σ σ' : gSt} {π π' : Nat → Nat} {o o' : Int64}
theorem CtI.of {y : MethodName} {ws ws' : List Cond} {rm : Room} {maxL : Nat} {ret : Option FieldType} {av : List Value} {r : Int32} (lv : List (Option Value)) (hy : plainName y.cls = true) (hw : ws = Cond.code y cc maxL ret :: ws') (hown : y.cls = own) (hlen : (lg_sl av).length ≤ maxL) (hlv : gLv av maxL = lv)
    (body : ∀ (p : Program) (e : Env) (s : State) (m : MethodId) (args : Array Value) (below : List Frame) (meth : Method) (c : Code), gCx p s m c cc maxL own ws args E (gA E) rm 0 0 → meth.sig.returnType = ret → meth.locks = false → G p l e rm s m args below meth c maxL 0 0 (gA E) (gQI below args s r E σ' π' o') E σ π o 0 lv []) : CtI l y ws rm E av σ π o r σ' π' o' := by
  refine Met.ofW (cc := cc) (maxL := maxL) (ret := ret) hy hw ?_
  intro p e s m args below meth c s₁ B hml hv
  obtain ⟨rfl, hW, hK⟩ := hv
  have hts := atoms_spec (ws := ws) B.pre
  have hfo : s.vm.findClass own = some m.cls := by rw [← hown]; exact findClass_of_methodNamed B.named
  rw [lg_entry_eq]
  have hb := body p e s m av.toArray below meth c ⟨⟨B.exec, B.bytes, hml, hfo, hts⟩, hK, fun _ h => h, Nat.zero_le _, Nat.zero_le _⟩ B.returns B.notSynchronized
  exact hb s.heap [] _ hW va_S.rf (hlv ▸ gLv_ok hlen)
theorem CtL.of {y : MethodName} {ws ws' : List Cond} {rm : Room} {maxL : Nat} {ret : Option FieldType} {av : List Value} {r : Int64} (lv : List (Option Value)) (hy : plainName y.cls = true) (hw : ws = Cond.code y cc maxL ret :: ws') (hown : y.cls = own) (hlen : (lg_sl av).length ≤ maxL) (hlv : gLv av maxL = lv)
    (body : ∀ (p : Program) (e : Env) (s : State) (m : MethodId) (args : Array Value) (below : List Frame) (meth : Method) (c : Code), gCx p s m c cc maxL own ws args E (gA E) rm 0 0 → meth.sig.returnType = ret → meth.locks = false → G p l e rm s m args below meth c maxL 0 0 (gA E) (gQL below args s r E σ' π' o') E σ π o 0 lv []) : CtL l y ws rm E av σ π o r σ' π' o' := by
  refine Met.ofW (cc := cc) (maxL := maxL) (ret := ret) hy hw ?_
  intro p e s m args below meth c s₁ B hml hv
  obtain ⟨rfl, hW, hK⟩ := hv
  have hts := atoms_spec (ws := ws) B.pre
  have hfo : s.vm.findClass own = some m.cls := by rw [← hown]; exact findClass_of_methodNamed B.named
  rw [lg_entry_eq]
  have hb := body p e s m av.toArray below meth c ⟨⟨B.exec, B.bytes, hml, hfo, hts⟩, hK, fun _ h => h, Nat.zero_le _, Nat.zero_le _⟩ B.returns B.notSynchronized
  exact hb s.heap [] _ hW va_S.rf (hlv ▸ gLv_ok hlen)
theorem CtD.of {y : MethodName} {ws ws' : List Cond} {rm : Room} {maxL : Nat} {ret : Option FieldType} {av : List Value} {r : UInt64} (lv : List (Option Value)) (hy : plainName y.cls = true) (hw : ws = Cond.code y cc maxL ret :: ws') (hown : y.cls = own) (hlen : (lg_sl av).length ≤ maxL) (hlv : gLv av maxL = lv)
    (body : ∀ (p : Program) (e : Env) (s : State) (m : MethodId) (args : Array Value) (below : List Frame) (meth : Method) (c : Code), gCx p s m c cc maxL own ws args E (gA E) rm 0 0 → meth.sig.returnType = ret → meth.locks = false → G p l e rm s m args below meth c maxL 0 0 (gA E) (gQD below args s r E σ' π' o') E σ π o 0 lv []) : CtD l y ws rm E av σ π o r σ' π' o' := by
  refine Met.ofW (cc := cc) (maxL := maxL) (ret := ret) hy hw ?_
  intro p e s m args below meth c s₁ B hml hv
  obtain ⟨rfl, hW, hK⟩ := hv
  have hts := atoms_spec (ws := ws) B.pre
  have hfo : s.vm.findClass own = some m.cls := by rw [← hown]; exact findClass_of_methodNamed B.named
  rw [lg_entry_eq]
  have hb := body p e s m av.toArray below meth c ⟨⟨B.exec, B.bytes, hml, hfo, hts⟩, hK, fun _ h => h, Nat.zero_le _, Nat.zero_le _⟩ B.returns B.notSynchronized
  exact hb s.heap [] _ hW va_S.rf (hlv ▸ gLv_ok hlen)
theorem CtV.of {y : MethodName} {ws ws' : List Cond} {rm : Room} {maxL : Nat} {ret : Option FieldType} {av : List Value} (lv : List (Option Value)) (hy : plainName y.cls = true) (hw : ws = Cond.code y cc maxL ret :: ws') (hown : y.cls = own) (hlen : (lg_sl av).length ≤ maxL) (hlv : gLv av maxL = lv)
    (body : ∀ (p : Program) (e : Env) (s : State) (m : MethodId) (args : Array Value) (below : List Frame) (meth : Method) (c : Code), gCx p s m c cc maxL own ws args E (gA E) rm 0 0 → meth.sig.returnType = ret → meth.locks = false → G p l e rm s m args below meth c maxL 0 0 (gA E) (gQV below args s E σ' π' o') E σ π o 0 lv []) : CtV l y ws rm E av σ π o σ' π' o' := by
  refine Met.ofW (cc := cc) (maxL := maxL) (ret := ret) hy hw ?_
  intro p e s m args below meth c s₁ B hml hv
  obtain ⟨rfl, hW, hK⟩ := hv
  have hts := atoms_spec (ws := ws) B.pre
  have hfo : s.vm.findClass own = some m.cls := by rw [← hown]; exact findClass_of_methodNamed B.named
  rw [lg_entry_eq]
  have hb := body p e s m av.toArray below meth c ⟨⟨B.exec, B.bytes, hml, hfo, hts⟩, hK, fun _ h => h, Nat.zero_le _, Nat.zero_le _⟩ B.returns B.notSynchronized
  exact hb s.heap [] _ hW va_S.rf (hlv ▸ gLv_ok hlen)
theorem G.iret (C : gCx p s m c cc nL own Ts args E (gA E) R 0 0) (hk : meth.locks = false) {pc : Nat} {lv : List (Option Value)} {x r : Int32} (hr : meth.sig.returnType = some .int) (hd : decode cc pc = .ok (.ireturn, 1)) (e1 : x = r) (e2 : ∀ H, CW E σ π o H → CW E σ' π' o' H) : G p l e R s m args below meth c nL 0 0 (gA E) (gQI below args s r E σ' π' o') E σ π o pc lv [.int x] := fun H locs ls hW hS hl => W.iret C.1.1 C.1.2.1 hr (fun t ht hwm => ⟨⟨x, (), rfl, e1, by show CW _ _ _ _ _; rw [ht]; exact e2 H hW⟩, hS.F ht⟩) hS.2.2 hd hk
theorem G.zret (C : gCx p s m c cc nL own Ts args E (gA E) R 0 0) (hk : meth.locks = false) {pc : Nat} {lv : List (Option Value)} {x : Int32} {b : Bool} (hr : meth.sig.returnType = some .boolean) (hd : decode cc pc = .ok (.ireturn, 1)) (e1 : x = bI b) (e2 : ∀ H, CW E σ π o H → CW E σ' π' o' H) : G p l e R s m args below meth c nL 0 0 (gA E) (gQI below args s (bI b) E σ' π' o') E σ π o pc lv [.int x] := fun H locs ls hW hS hl => W.zret C.1.1 C.1.2.1 hr (by rw [e1]; exact bI_nar b) (fun t ht hwm => ⟨⟨x, (), rfl, e1, by show CW _ _ _ _ _; rw [ht]; exact e2 H hW⟩, hS.F ht⟩) hS.2.2 hd hk
theorem G.lret (C : gCx p s m c cc nL own Ts args E (gA E) R 0 0) (hk : meth.locks = false) {pc : Nat} {lv : List (Option Value)} {x r : Int64} (hr : meth.sig.returnType = some .long) (hd : decode cc pc = .ok (.lreturn, 1)) (e1 : x = r) (e2 : ∀ H, CW E σ π o H → CW E σ' π' o' H) : G p l e R s m args below meth c nL 0 0 (gA E) (gQL below args s r E σ' π' o') E σ π o pc lv [.long x] := fun H locs ls hW hS hl => W.lret C.1.1 C.1.2.1 hr (fun t ht hwm => ⟨⟨x, (), rfl, e1, by show CW _ _ _ _ _; rw [ht]; exact e2 H hW⟩, hS.F ht⟩) hS.2.2 hd hk
theorem G.dret (C : gCx p s m c cc nL own Ts args E (gA E) R 0 0) (hk : meth.locks = false) {pc : Nat} {lv : List (Option Value)} {x r : UInt64} (hr : meth.sig.returnType = some .double) (hd : decode cc pc = .ok (.dreturn, 1)) (e1 : x = r) (e2 : ∀ H, CW E σ π o H → CW E σ' π' o' H) : G p l e R s m args below meth c nL 0 0 (gA E) (gQD below args s r E σ' π' o') E σ π o pc lv [.double x] := fun H locs ls hW hS hl => W.dret C.1.1 C.1.2.1 hr (fun t ht hwm => ⟨⟨x, (), rfl, e1, by show CW _ _ _ _ _; rw [ht]; exact e2 H hW⟩, hS.F ht⟩) hS.2.2 hd hk
theorem G.vret (C : gCx p s m c cc nL own Ts args E (gA E) R 0 0) (hk : meth.locks = false) {pc : Nat} {lv : List (Option Value)} (hr : meth.sig.returnType = none) (hd : decode cc pc = .ok (.return_, 1)) (e2 : ∀ H, CW E σ π o H → CW E σ' π' o' H) : G p l e R s m args below meth c nL 0 0 (gA E) (gQV below args s E σ' π' o') E σ π o pc lv [] := fun H locs ls hW hS hl => W.vret C.1.1 C.1.2.1 hr (fun t ht hwm => ⟨⟨(), rfl, trivial, by show CW _ _ _ _ _; rw [ht]; exact e2 H hW⟩, hS.F ht⟩) hS.2.2 hd hk
theorem G.getf (C : gCx p s m c cc nL own Ts args E A R cl sl) {pc : Nat} {lv : List (Option Value)} {st : List Value} {i j ci index : Nat} {ref Cn : String} {T : u_T} {N : Nat} {fs : List Value} {v : Value} (he : gC E σ π o i j = .inr (ci, fs)) (hv : gV i j) (hin : ∀ w ∈ u_ws Cn T N, w ∈ Ts) (hc : vwCl[ci]? = some (Cn, T, N)) (k : Nat) (hk : k < N) (hr : (T k).1 = ref) (hlink : (Cond.fieldLink own index ref (T k).2.1 (T k).2.2.1).before args s = true) (hf : fs[k]? = some v) (hd : decode cc pc = .ok (.getfield index, 3)) (kk : G p l e R s m args below meth c nL cl sl A Q E σ π o (pc + 3) lv (v :: st)) : G p l e R s m args below meth c nL cl sl A Q E σ π o pc lv (.ref (E.2.1 i j) :: st) :=
  fun H locs ls hW hS hl => va_get C.1.1 C.1.2.1 C.1.2.2.2.2 hin C.1.2.2.2.1 C.2.1.1 (hW.one hv he) 0 rfl hc k hk hlink (fun x h => by rw [← hr]; exact h) hf hd (kk H locs ls hW hS hl)
theorem G.getfN (C : gCx p s m c cc nL own Ts args E A R cl sl) {pc : Nat} {lv : List (Option Value)} {st : List Value} {i j ci index : Nat} {ref Cn : String} {T : u_T} {N : Nat} {fs : List Value} {v : Value} (he : gC E σ π o i j = .inr (ci, fs)) (hv : gV i j) (hin : ∀ w ∈ u_ws Cn T N, w ∈ Ts) (hc : vwCl[ci]? = some (Cn, T, N)) (k : Nat) (hk : k < N) (hr : (T k).1 = ref) (hlink : (Cond.fieldLinkNest own index ref (T k).2.1 (T k).2.2.1 RX3) ∈ gNst) (hf : fs[k]? = some v) (hd : decode cc pc = .ok (.getfield index, 3)) (kk : G p l e R s m args below meth c nL cl sl A Q E σ π o (pc + 3) lv (v :: st)) : G p l e R s m args below meth c nL cl sl A Q E σ π o pc lv (.ref (E.2.1 i j) :: st) :=
  fun H locs ls hW hS hl => va_getN C.1.1 C.1.2.1 C.1.2.2.2.2 hin C.1.2.2.2.1 C.2.1.1 (hW.one hv he) 0 rfl hc k hk ((C.2.1.2.1 _ hlink).use rfl) (fun x h => by rw [← hr]; exact h) hf hd (kk H locs ls hW hS hl)
theorem G.getC (C : gCx p s m c cc nL own Ts args E A R cl sl) {pc : Nat} {lv : List (Option Value)} {st : List Value} {index : Nat} {v : Value} {i : Nat} (hi : i < 9) {d : Nat → Nat → Int32} (hin : ∀ w ∈ u_ws RX0 TX0 10, w ∈ Ts) (k : Nat) (hk : k < 10) (hr : (TX0 k).1 = RX0) (hlink : (Cond.fieldLink own index RX0 (TX0 k).2.1 (TX0 k).2.2.1).before args s = true) (hf : (gFc E d i)[k]? = some v) (hd : decode cc pc = .ok (.getfield index, 3)) (kk : G p l e R s m args below meth c nL cl sl A Q E (gU σ i d) π o (pc + 3) lv (v :: st)) : G p l e R s m args below meth c nL cl sl A Q E (gU σ i d) π o pc lv (.ref (E.2.1 i 0) :: st) :=
  G.getf C (by rw [gC_co hi, gU_at]) (gV_c hi (by omega)) hin rfl k hk hr hlink hf hd kk
theorem G.getCs (C : gCx p s m c cc nL own Ts args E A R cl sl) {pc : Nat} {lv : List (Option Value)} {st : List Value} {index : Nat} {v : Value} {i : Nat} (hi : i < 9) (hin : ∀ w ∈ u_ws RX0 TX0 10, w ∈ Ts) (k : Nat) (hk : k < 10) (hr : (TX0 k).1 = RX0) (hlink : (Cond.fieldLink own index RX0 (TX0 k).2.1 (TX0 k).2.2.1).before args s = true) (hf : (gFc E (σ i) i)[k]? = some v) (hd : decode cc pc = .ok (.getfield index, 3)) (kk : G p l e R s m args below meth c nL cl sl A Q E σ π o (pc + 3) lv (v :: st)) : G p l e R s m args below meth c nL cl sl A Q E σ π o pc lv (.ref (E.2.1 i 0) :: st) :=
  G.getf C (gC_co hi) (gV_c hi (by omega)) hin rfl k hk hr hlink hf hd kk
theorem G.getW (C : gCx p s m c cc nL own Ts args E A R cl sl) {pc : Nat} {lv : List (Option Value)} {st : List Value} {index : Nat} {v : Value} {i : Nat} (hi : i < 9) {d : Nat → Nat → Int32} (hin : ∀ w ∈ u_ws RX2 TX2 3, w ∈ Ts) (k : Nat) (hk : k < 3) (hr : (TX2 k).1 = RX2) (hlink : (Cond.fieldLink own index RX2 (TX2 k).2.1 (TX2 k).2.2.1).before args s = true) (hf : (gFw E d i)[k]? = some v) (hd : decode cc pc = .ok (.getfield index, 3)) (kk : G p l e R s m args below meth c nL cl sl A Q E (gU σ i d) π o (pc + 3) lv (v :: st)) : G p l e R s m args below meth c nL cl sl A Q E (gU σ i d) π o pc lv (.ref (E.2.1 i 17) :: st) :=
  G.getf C (by rw [gC_wa hi, gU_at]) (gV_c hi (by omega)) hin rfl k hk hr hlink hf hd kk
theorem G.getWs (C : gCx p s m c cc nL own Ts args E A R cl sl) {pc : Nat} {lv : List (Option Value)} {st : List Value} {index : Nat} {v : Value} {i : Nat} (hi : i < 9) (hin : ∀ w ∈ u_ws RX2 TX2 3, w ∈ Ts) (k : Nat) (hk : k < 3) (hr : (TX2 k).1 = RX2) (hlink : (Cond.fieldLink own index RX2 (TX2 k).2.1 (TX2 k).2.2.1).before args s = true) (hf : (gFw E (σ i) i)[k]? = some v) (hd : decode cc pc = .ok (.getfield index, 3)) (kk : G p l e R s m args below meth c nL cl sl A Q E σ π o (pc + 3) lv (v :: st)) : G p l e R s m args below meth c nL cl sl A Q E σ π o pc lv (.ref (E.2.1 i 17) :: st) :=
  G.getf C (gC_wa hi) (gV_c hi (by omega)) hin rfl k hk hr hlink hf hd kk
theorem G.getR (C : gCx p s m c cc nL own Ts args E A R cl sl) {pc : Nat} {lv : List (Option Value)} {st : List Value} {index : Nat} {v : Value} {d : Nat → Nat → Int32} (hin : ∀ w ∈ u_ws RX1 TX1 4, w ∈ Ts) (k : Nat) (hk : k < 4) (hr : (TX1 k).1 = RX1) (hlink : (Cond.fieldLink own index RX1 (TX1 k).2.1 (TX1 k).2.2.1).before args s = true) (hf : (gFr d)[k]? = some v) (hd : decode cc pc = .ok (.getfield index, 3)) (kk : G p l e R s m args below meth c nL cl sl A Q E (gU σ 9 d) π o (pc + 3) lv (v :: st)) : G p l e R s m args below meth c nL cl sl A Q E (gU σ 9 d) π o pc lv (.ref (E.2.1 9 3) :: st) :=
  G.getf C (by rw [gC_re, gU_at]) (gV_m (by omega)) hin rfl k hk hr hlink hf hd kk
theorem G.getRs (C : gCx p s m c cc nL own Ts args E A R cl sl) {pc : Nat} {lv : List (Option Value)} {st : List Value} {index : Nat} {v : Value}  (hin : ∀ w ∈ u_ws RX1 TX1 4, w ∈ Ts) (k : Nat) (hk : k < 4) (hr : (TX1 k).1 = RX1) (hlink : (Cond.fieldLink own index RX1 (TX1 k).2.1 (TX1 k).2.2.1).before args s = true) (hf : (gFr (σ 9))[k]? = some v) (hd : decode cc pc = .ok (.getfield index, 3)) (kk : G p l e R s m args below meth c nL cl sl A Q E σ π o (pc + 3) lv (v :: st)) : G p l e R s m args below meth c nL cl sl A Q E σ π o pc lv (.ref (E.2.1 9 3) :: st) :=
  G.getf C gC_re (gV_m (by omega)) hin rfl k hk hr hlink hf hd kk
theorem G.getCN (C : gCx p s m c cc nL own Ts args E A R cl sl) {pc : Nat} {lv : List (Option Value)} {st : List Value} {index : Nat} {v : Value} {i : Nat} (hi : i < 9) {d : Nat → Nat → Int32} (hin : ∀ w ∈ u_ws RX0 TX0 10, w ∈ Ts) (k : Nat) (hk : k < 10) (hr : (TX0 k).1 = RX0) (hlink : (Cond.fieldLinkNest own index RX0 (TX0 k).2.1 (TX0 k).2.2.1 RX3) ∈ gNst) (hf : (gFc E d i)[k]? = some v) (hd : decode cc pc = .ok (.getfield index, 3)) (kk : G p l e R s m args below meth c nL cl sl A Q E (gU σ i d) π o (pc + 3) lv (v :: st)) : G p l e R s m args below meth c nL cl sl A Q E (gU σ i d) π o pc lv (.ref (E.2.1 i 0) :: st) :=
  G.getfN C (by rw [gC_co hi, gU_at]) (gV_c hi (by omega)) hin rfl k hk hr hlink hf hd kk
theorem G.getCsN (C : gCx p s m c cc nL own Ts args E A R cl sl) {pc : Nat} {lv : List (Option Value)} {st : List Value} {index : Nat} {v : Value} {i : Nat} (hi : i < 9) (hin : ∀ w ∈ u_ws RX0 TX0 10, w ∈ Ts) (k : Nat) (hk : k < 10) (hr : (TX0 k).1 = RX0) (hlink : (Cond.fieldLinkNest own index RX0 (TX0 k).2.1 (TX0 k).2.2.1 RX3) ∈ gNst) (hf : (gFc E (σ i) i)[k]? = some v) (hd : decode cc pc = .ok (.getfield index, 3)) (kk : G p l e R s m args below meth c nL cl sl A Q E σ π o (pc + 3) lv (v :: st)) : G p l e R s m args below meth c nL cl sl A Q E σ π o pc lv (.ref (E.2.1 i 0) :: st) :=
  G.getfN C (gC_co hi) (gV_c hi (by omega)) hin rfl k hk hr hlink hf hd kk
theorem G.getWN (C : gCx p s m c cc nL own Ts args E A R cl sl) {pc : Nat} {lv : List (Option Value)} {st : List Value} {index : Nat} {v : Value} {i : Nat} (hi : i < 9) {d : Nat → Nat → Int32} (hin : ∀ w ∈ u_ws RX2 TX2 3, w ∈ Ts) (k : Nat) (hk : k < 3) (hr : (TX2 k).1 = RX2) (hlink : (Cond.fieldLinkNest own index RX2 (TX2 k).2.1 (TX2 k).2.2.1 RX3) ∈ gNst) (hf : (gFw E d i)[k]? = some v) (hd : decode cc pc = .ok (.getfield index, 3)) (kk : G p l e R s m args below meth c nL cl sl A Q E (gU σ i d) π o (pc + 3) lv (v :: st)) : G p l e R s m args below meth c nL cl sl A Q E (gU σ i d) π o pc lv (.ref (E.2.1 i 17) :: st) :=
  G.getfN C (by rw [gC_wa hi, gU_at]) (gV_c hi (by omega)) hin rfl k hk hr hlink hf hd kk
theorem G.getWsN (C : gCx p s m c cc nL own Ts args E A R cl sl) {pc : Nat} {lv : List (Option Value)} {st : List Value} {index : Nat} {v : Value} {i : Nat} (hi : i < 9) (hin : ∀ w ∈ u_ws RX2 TX2 3, w ∈ Ts) (k : Nat) (hk : k < 3) (hr : (TX2 k).1 = RX2) (hlink : (Cond.fieldLinkNest own index RX2 (TX2 k).2.1 (TX2 k).2.2.1 RX3) ∈ gNst) (hf : (gFw E (σ i) i)[k]? = some v) (hd : decode cc pc = .ok (.getfield index, 3)) (kk : G p l e R s m args below meth c nL cl sl A Q E σ π o (pc + 3) lv (v :: st)) : G p l e R s m args below meth c nL cl sl A Q E σ π o pc lv (.ref (E.2.1 i 17) :: st) :=
  G.getfN C (gC_wa hi) (gV_c hi (by omega)) hin rfl k hk hr hlink hf hd kk
theorem G.getRN (C : gCx p s m c cc nL own Ts args E A R cl sl) {pc : Nat} {lv : List (Option Value)} {st : List Value} {index : Nat} {v : Value} {d : Nat → Nat → Int32} (hin : ∀ w ∈ u_ws RX1 TX1 4, w ∈ Ts) (k : Nat) (hk : k < 4) (hr : (TX1 k).1 = RX1) (hlink : (Cond.fieldLinkNest own index RX1 (TX1 k).2.1 (TX1 k).2.2.1 RX3) ∈ gNst) (hf : (gFr d)[k]? = some v) (hd : decode cc pc = .ok (.getfield index, 3)) (kk : G p l e R s m args below meth c nL cl sl A Q E (gU σ 9 d) π o (pc + 3) lv (v :: st)) : G p l e R s m args below meth c nL cl sl A Q E (gU σ 9 d) π o pc lv (.ref (E.2.1 9 3) :: st) :=
  G.getfN C (by rw [gC_re, gU_at]) (gV_m (by omega)) hin rfl k hk hr hlink hf hd kk
theorem G.getRsN (C : gCx p s m c cc nL own Ts args E A R cl sl) {pc : Nat} {lv : List (Option Value)} {st : List Value} {index : Nat} {v : Value}  (hin : ∀ w ∈ u_ws RX1 TX1 4, w ∈ Ts) (k : Nat) (hk : k < 4) (hr : (TX1 k).1 = RX1) (hlink : (Cond.fieldLinkNest own index RX1 (TX1 k).2.1 (TX1 k).2.2.1 RX3) ∈ gNst) (hf : (gFr (σ 9))[k]? = some v) (hd : decode cc pc = .ok (.getfield index, 3)) (kk : G p l e R s m args below meth c nL cl sl A Q E σ π o (pc + 3) lv (v :: st)) : G p l e R s m args below meth c nL cl sl A Q E σ π o pc lv (.ref (E.2.1 9 3) :: st) :=
  G.getfN C gC_re (gV_m (by omega)) hin rfl k hk hr hlink hf hd kk
theorem G.getM (C : gCx p s m c cc nL own Ts args E A R cl sl) {pc : Nat} {lv : List (Option Value)} {st : List Value} {index : Nat} {v : Value} {d : Nat → Nat → Int32} (hin : ∀ w ∈ u_ws RX3 TX3 9, w ∈ Ts) (k : Nat) (hk : k < 9) (hr : (TX3 k).1 = RX3) (hlink : (Cond.fieldLink own index RX3 (TX3 k).2.1 (TX3 k).2.2.1).before args s = true) (hf : (gFm E d)[k]? = some v) (hd : decode cc pc = .ok (.getfield index, 3)) (kk : G p l e R s m args below meth c nL cl sl A Q E (gU σ 9 d) π o (pc + 3) lv (v :: st)) : G p l e R s m args below meth c nL cl sl A Q E (gU σ 9 d) π o pc lv (.ref (E.2.1 9 0) :: st) :=
  G.getf C (by rw [gC_ma, gU_at]) (gV_m (by omega)) hin rfl k hk hr hlink hf hd kk
theorem G.getMs (C : gCx p s m c cc nL own Ts args E A R cl sl) {pc : Nat} {lv : List (Option Value)} {st : List Value} {index : Nat} {v : Value}  (hin : ∀ w ∈ u_ws RX3 TX3 9, w ∈ Ts) (k : Nat) (hk : k < 9) (hr : (TX3 k).1 = RX3) (hlink : (Cond.fieldLink own index RX3 (TX3 k).2.1 (TX3 k).2.2.1).before args s = true) (hf : (gFm E (σ 9))[k]? = some v) (hd : decode cc pc = .ok (.getfield index, 3)) (kk : G p l e R s m args below meth c nL cl sl A Q E σ π o (pc + 3) lv (v :: st)) : G p l e R s m args below meth c nL cl sl A Q E σ π o pc lv (.ref (E.2.1 9 0) :: st) :=
  G.getf C gC_ma (gV_m (by omega)) hin rfl k hk hr hlink hf hd kk
theorem G.getD (C : gCx p s m c cc nL own Ts args E A R cl sl) {pc : Nat} {lv : List (Option Value)} {st : List Value} {index : Nat} {v : Value} {d : Nat → Nat → Int32} (hin : ∀ w ∈ u_ws RX4 TX4 12, w ∈ Ts) (k : Nat) (hk : k < 12) (hr : (TX4 k).1 = RX4) (hlink : (Cond.fieldLink own index RX4 (TX4 k).2.1 (TX4 k).2.2.1).before args s = true) (hf : (gFd E d)[k]? = some v) (hd : decode cc pc = .ok (.getfield index, 3)) (kk : G p l e R s m args below meth c nL cl sl A Q E (gU σ 10 d) π o (pc + 3) lv (v :: st)) : G p l e R s m args below meth c nL cl sl A Q E (gU σ 10 d) π o pc lv (.ref (E.2.1 10 0) :: st) :=
  G.getf C (by rw [gC_mo, gU_at]) (gV_d (by omega)) hin rfl k hk hr hlink hf hd kk
theorem G.getDs (C : gCx p s m c cc nL own Ts args E A R cl sl) {pc : Nat} {lv : List (Option Value)} {st : List Value} {index : Nat} {v : Value}  (hin : ∀ w ∈ u_ws RX4 TX4 12, w ∈ Ts) (k : Nat) (hk : k < 12) (hr : (TX4 k).1 = RX4) (hlink : (Cond.fieldLink own index RX4 (TX4 k).2.1 (TX4 k).2.2.1).before args s = true) (hf : (gFd E (σ 10))[k]? = some v) (hd : decode cc pc = .ok (.getfield index, 3)) (kk : G p l e R s m args below meth c nL cl sl A Q E σ π o (pc + 3) lv (v :: st)) : G p l e R s m args below meth c nL cl sl A Q E σ π o pc lv (.ref (E.2.1 10 0) :: st) :=
  G.getf C gC_mo (gV_d (by omega)) hin rfl k hk hr hlink hf hd kk
/-- a non-final int field (or boolean) is written: what the heap holds then -/
theorem g_put {H : Heap} {locs : List Loc} {pc : Nat} {ls : Array Slot} {rest : List Value} {index ci a : Nat} {ref Cn : String} {T : u_T} {N : Nat} {fs : List Value} {v : Value} {ty : FieldType} (C : gCx p s m c cc nL own Ts args E A R cl sl) (hin : ∀ w ∈ u_ws Cn T N, w ∈ Ts) (ty0 : Nat → FieldType) (hty : ∀ k, k < N → parseFieldDescriptor (T k).2.2.1 = some (ty0 k)) (hnm : ∀ a, a < N → ∀ b, b < N → a ≠ b → (T a).2.1 ≠ (T b).2.1) (hat : va_at E.1 vwCl (a, .inr (ci, fs)) H) (hc : vwCl[ci]? = some (Cn, T, N)) (k : Nat) (hk : k < N) (hr : (T k).1 = ref) (hlink : (Cond.fieldLink own index ref (T k).2.1 (T k).2.2.1).before args s = true ∨ ∃ host, (Cond.fieldLinkNest own index ref (T k).2.1 (T k).2.2.1 host).before args s = true) (hfin : (T k).2.2.2 = false) (hd : parseFieldDescriptor (T k).2.2.1 = some ty) (hn : narrow ty v = v) (hfit : fits ty v = true) (hl : k < fs.length)
    (hdg : decode cc pc = .ok (.putfield index, 3)) (kk : ∀ (H1 : Heap) (q : Nat), va_at E.1 vwCl (a, .inr (ci, fs.set k v)) H1 → H1.size = H.size → (∀ q, q ≠ a → H1[q]? = H[q]?) → W p l e R s m args below meth c H1 (locs ++ [⟨a, q⟩]) cl sl Q (F0 m (pc + 3) ls rest)) : W p l e R s m args below meth c H locs cl sl Q (F0 m pc ls (v :: .ref a :: rest)) := by
  have hap := va_apart (own := own) C.1.2.2.2.2 hin ty0 hty hnm C.2.1.1 hc
  obtain ⟨r, h1, cell, q1, q2, q3, q4⟩ := hat
  have hr2 : r = (Cn, T, N) := Option.some.inj (h1.symm.trans hc)
  subst hr2
  obtain ⟨hS, hfc, kC, hkC, hkind⟩ := C.2.1.1.1 ci _ hc
  obtain ⟨cf, kf, fi, f, hi, hsl⟩ := hS k hk
  have hlay := C.1.2.2.2.2 _ (hin _ (u_in_lay hk))
  unfold u_lay at hlay
  rw [if_neg (by rw [hfin]; decide)] at hlay
  have hst := (u_facts hfc hkC (u_lays C.1.2.2.2.2 hin hk) hi).1
  have h6 := u_store hfc hkC hkind hlay hi hd hn hfit
  have fin : ∀ H' : Heap, H'[a]? = some (cell.setSlot f.slot v) → H'.size = H.size → (∀ q, q ≠ a → H'[q]? = H[q]?) → W p l e R s m args below meth c H' (locs ++ [⟨a, f.slot⟩]) cl sl Q (F0 m (pc + 3) ls rest) := fun H' e1 e2 e3 => by
    rw [hsl] at e1 ⊢
    exact kk H' _ ⟨_, hc, t_OB.to (V := updV (vp_V fs) k v) ⟨_, e1, q2, q3, t_set q4 hap hk v⟩ (fun j _ => vp_updV_set hl v j)⟩ e2 e3
  rcases hlink with hlink | ⟨host, hlink⟩
  · exact W.putK C.1.1 C.1.2.1 (f := f) ⟨C.1.2.2.2.1, hlink, ⟨_, _, _, by rw [← hr]; exact hi⟩, hst⟩ (by rw [q2]; exact h6) q1 q3 (by rw [hsl]; exact k2_hasslot (q4 k hk)) rfl rfl hdg fin
  · exact va_WputK C.1.1 C.1.2.1 (f := f) C.1.2.2.2.1 hlink (by rw [← hr]; exact hi) hst (by rw [q2]; exact h6) q1 q3 (by rw [hsl]; exact k2_hasslot (q4 k hk)) rfl rfl hdg fin
theorem CW.putF {H H1 : Heap} (h : CW E σ π o H) (hI : gInj E) {i j k : Nat} {v : Int32} (hv : gV i j) {x : va_E} (he : gC E (gU σ i (cW (σ i) j k v)) π o i j = x) (hat : va_at E.1 vwCl (E.2.1 i j, x) H1) (oq : ∀ q, q ≠ E.2.1 i j → H1[q]? = H[q]?) : CW E (gU σ i (cW (σ i) j k v)) π o H1 :=
  h.chg hI hv (fun i' j' hv' hne => gC_cW hne hv') he hat oq
theorem G.putCs (C : gCx p s m c cc nL own Ts args E A R cl sl) {pc : Nat} {lv : List (Option Value)} {st : List Value} {index : Nat} {x : Int32} {ty : FieldType} {i : Nat} (hi : i < 9) (hin : ∀ w ∈ u_ws RX0 TX0 10, w ∈ Ts) (k : Nat) (hk : k < 10) (hr : (TX0 k).1 = RX0) (hlink : (Cond.fieldLink own index RX0 (TX0 k).2.1 (TX0 k).2.2.1).before args s = true) (hfin : (TX0 k).2.2.2 = false) (hty : parseFieldDescriptor (TX0 k).2.2.1 = some ty) (hn : narrow ty (.int x) = .int x) (hfit : fits ty (.int x) = true) (hfs : gFc E (cW (σ i) 0 k x) i = (gFc E (σ i) i).set k (.int x)) (hd : decode cc pc = .ok (.putfield index, 3)) (kk : G p l e R s m args below meth c nL cl sl A Q E (gU σ i (cW (σ i) 0 k x)) π o (pc + 3) lv st) : G p l e R s m args below meth c nL cl sl A Q E σ π o pc lv (.int x :: .ref (E.2.1 i 0) :: st) :=
  fun H locs ls hW hS hl => by
    have hat := hW i 0 (gV_c hi (by omega))
    rw [gC_co hi] at hat
    refine g_put C hin tyX0 tyX0_ok nmX0 hat rfl k hk hr (Or.inl hlink) hfin hty hn hfit hk hd (fun H1 q h1 h2 h3 => ?_)
    refine kk H1 _ ls (hW.putF C.2.1.2.2 (gV_c hi (by omega)) ?_ h1 h3) (hS.put h2 h3 (C.2.2.1 _ ⟨_, _, (gV_c hi (by omega)), rfl⟩)) hl
    rw [gC_co hi, gU_at, hfs]
theorem G.putC (C : gCx p s m c cc nL own Ts args E A R cl sl) {pc : Nat} {lv : List (Option Value)} {st : List Value} {index : Nat} {x : Int32} {ty : FieldType} {d : Nat → Nat → Int32} {i : Nat} (hi : i < 9) (hin : ∀ w ∈ u_ws RX0 TX0 10, w ∈ Ts) (k : Nat) (hk : k < 10) (hr : (TX0 k).1 = RX0) (hlink : (Cond.fieldLink own index RX0 (TX0 k).2.1 (TX0 k).2.2.1).before args s = true) (hfin : (TX0 k).2.2.2 = false) (hty : parseFieldDescriptor (TX0 k).2.2.1 = some ty) (hn : narrow ty (.int x) = .int x) (hfit : fits ty (.int x) = true) (hfs : gFc E (cW d 0 k x) i = (gFc E d i).set k (.int x)) (hd : decode cc pc = .ok (.putfield index, 3)) (kk : G p l e R s m args below meth c nL cl sl A Q E (gU σ i (cW d 0 k x)) π o (pc + 3) lv st) : G p l e R s m args below meth c nL cl sl A Q E (gU σ i d) π o pc lv (.int x :: .ref (E.2.1 i 0) :: st) :=
  G.putCs C hi hin k hk hr hlink hfin hty hn hfit (by rw [gU_at]; exact hfs) hd (by rw [gU_at, gU_gU]; exact kk)
theorem G.putWs (C : gCx p s m c cc nL own Ts args E A R cl sl) {pc : Nat} {lv : List (Option Value)} {st : List Value} {index : Nat} {x : Int32} {ty : FieldType} {i : Nat} (hi : i < 9) (hin : ∀ w ∈ u_ws RX2 TX2 3, w ∈ Ts) (k : Nat) (hk : k < 3) (hr : (TX2 k).1 = RX2) (hlink : (Cond.fieldLink own index RX2 (TX2 k).2.1 (TX2 k).2.2.1).before args s = true) (hfin : (TX2 k).2.2.2 = false) (hty : parseFieldDescriptor (TX2 k).2.2.1 = some ty) (hn : narrow ty (.int x) = .int x) (hfit : fits ty (.int x) = true) (hfs : gFw E (cW (σ i) 17 k x) i = (gFw E (σ i) i).set k (.int x)) (hd : decode cc pc = .ok (.putfield index, 3)) (kk : G p l e R s m args below meth c nL cl sl A Q E (gU σ i (cW (σ i) 17 k x)) π o (pc + 3) lv st) : G p l e R s m args below meth c nL cl sl A Q E σ π o pc lv (.int x :: .ref (E.2.1 i 17) :: st) :=
  fun H locs ls hW hS hl => by
    have hat := hW i 17 (gV_c hi (by omega))
    rw [gC_wa hi] at hat
    refine g_put C hin tyX2 tyX2_ok nmX2 hat rfl k hk hr (Or.inl hlink) hfin hty hn hfit hk hd (fun H1 q h1 h2 h3 => ?_)
    refine kk H1 _ ls (hW.putF C.2.1.2.2 (gV_c hi (by omega)) ?_ h1 h3) (hS.put h2 h3 (C.2.2.1 _ ⟨_, _, (gV_c hi (by omega)), rfl⟩)) hl
    rw [gC_wa hi, gU_at, hfs]
theorem G.putW (C : gCx p s m c cc nL own Ts args E A R cl sl) {pc : Nat} {lv : List (Option Value)} {st : List Value} {index : Nat} {x : Int32} {ty : FieldType} {d : Nat → Nat → Int32} {i : Nat} (hi : i < 9) (hin : ∀ w ∈ u_ws RX2 TX2 3, w ∈ Ts) (k : Nat) (hk : k < 3) (hr : (TX2 k).1 = RX2) (hlink : (Cond.fieldLink own index RX2 (TX2 k).2.1 (TX2 k).2.2.1).before args s = true) (hfin : (TX2 k).2.2.2 = false) (hty : parseFieldDescriptor (TX2 k).2.2.1 = some ty) (hn : narrow ty (.int x) = .int x) (hfit : fits ty (.int x) = true) (hfs : gFw E (cW d 17 k x) i = (gFw E d i).set k (.int x)) (hd : decode cc pc = .ok (.putfield index, 3)) (kk : G p l e R s m args below meth c nL cl sl A Q E (gU σ i (cW d 17 k x)) π o (pc + 3) lv st) : G p l e R s m args below meth c nL cl sl A Q E (gU σ i d) π o pc lv (.int x :: .ref (E.2.1 i 17) :: st) :=
  G.putWs C hi hin k hk hr hlink hfin hty hn hfit (by rw [gU_at]; exact hfs) hd (by rw [gU_at, gU_gU]; exact kk)
theorem G.putWNs (C : gCx p s m c cc nL own Ts args E A R cl sl) {pc : Nat} {lv : List (Option Value)} {st : List Value} {index : Nat} {x : Int32} {ty : FieldType} {i : Nat} (hi : i < 9) (hin : ∀ w ∈ u_ws RX2 TX2 3, w ∈ Ts) (k : Nat) (hk : k < 3) (hr : (TX2 k).1 = RX2) (hlink : (Cond.fieldLinkNest own index RX2 (TX2 k).2.1 (TX2 k).2.2.1 RX3) ∈ gNst) (hfin : (TX2 k).2.2.2 = false) (hty : parseFieldDescriptor (TX2 k).2.2.1 = some ty) (hn : narrow ty (.int x) = .int x) (hfit : fits ty (.int x) = true) (hfs : gFw E (cW (σ i) 17 k x) i = (gFw E (σ i) i).set k (.int x)) (hd : decode cc pc = .ok (.putfield index, 3)) (kk : G p l e R s m args below meth c nL cl sl A Q E (gU σ i (cW (σ i) 17 k x)) π o (pc + 3) lv st) : G p l e R s m args below meth c nL cl sl A Q E σ π o pc lv (.int x :: .ref (E.2.1 i 17) :: st) :=
  fun H locs ls hW hS hl => by
    have hat := hW i 17 (gV_c hi (by omega))
    rw [gC_wa hi] at hat
    refine g_put C hin tyX2 tyX2_ok nmX2 hat rfl k hk hr (Or.inr ⟨_, (C.2.1.2.1 _ hlink).use rfl⟩) hfin hty hn hfit hk hd (fun H1 q h1 h2 h3 => ?_)
    refine kk H1 _ ls (hW.putF C.2.1.2.2 (gV_c hi (by omega)) ?_ h1 h3) (hS.put h2 h3 (C.2.2.1 _ ⟨_, _, (gV_c hi (by omega)), rfl⟩)) hl
    rw [gC_wa hi, gU_at, hfs]
theorem G.putWN (C : gCx p s m c cc nL own Ts args E A R cl sl) {pc : Nat} {lv : List (Option Value)} {st : List Value} {index : Nat} {x : Int32} {ty : FieldType} {d : Nat → Nat → Int32} {i : Nat} (hi : i < 9) (hin : ∀ w ∈ u_ws RX2 TX2 3, w ∈ Ts) (k : Nat) (hk : k < 3) (hr : (TX2 k).1 = RX2) (hlink : (Cond.fieldLinkNest own index RX2 (TX2 k).2.1 (TX2 k).2.2.1 RX3) ∈ gNst) (hfin : (TX2 k).2.2.2 = false) (hty : parseFieldDescriptor (TX2 k).2.2.1 = some ty) (hn : narrow ty (.int x) = .int x) (hfit : fits ty (.int x) = true) (hfs : gFw E (cW d 17 k x) i = (gFw E d i).set k (.int x)) (hd : decode cc pc = .ok (.putfield index, 3)) (kk : G p l e R s m args below meth c nL cl sl A Q E (gU σ i (cW d 17 k x)) π o (pc + 3) lv st) : G p l e R s m args below meth c nL cl sl A Q E (gU σ i d) π o pc lv (.int x :: .ref (E.2.1 i 17) :: st) :=
  G.putWNs C hi hin k hk hr hlink hfin hty hn hfit (by rw [gU_at]; exact hfs) hd (by rw [gU_at, gU_gU]; exact kk)
theorem G.putRs (C : gCx p s m c cc nL own Ts args E A R cl sl) {pc : Nat} {lv : List (Option Value)} {st : List Value} {index : Nat} {x : Int32} {ty : FieldType}  (hin : ∀ w ∈ u_ws RX1 TX1 4, w ∈ Ts) (k : Nat) (hk : k < 4) (hr : (TX1 k).1 = RX1) (hlink : (Cond.fieldLink own index RX1 (TX1 k).2.1 (TX1 k).2.2.1).before args s = true) (hfin : (TX1 k).2.2.2 = false) (hty : parseFieldDescriptor (TX1 k).2.2.1 = some ty) (hn : narrow ty (.int x) = .int x) (hfit : fits ty (.int x) = true) (hfs : gFr (cW (σ 9) 3 k x)  = (gFr (σ 9) ).set k (.int x)) (hd : decode cc pc = .ok (.putfield index, 3)) (kk : G p l e R s m args below meth c nL cl sl A Q E (gU σ 9 (cW (σ 9) 3 k x)) π o (pc + 3) lv st) : G p l e R s m args below meth c nL cl sl A Q E σ π o pc lv (.int x :: .ref (E.2.1 9 3) :: st) :=
  fun H locs ls hW hS hl => by
    have hat := hW 9 3 (gV_m (by omega))
    rw [gC_re] at hat
    refine g_put C hin tyX1 tyX1_ok nmX1 hat rfl k hk hr (Or.inl hlink) hfin hty hn hfit hk hd (fun H1 q h1 h2 h3 => ?_)
    refine kk H1 _ ls (hW.putF C.2.1.2.2 (gV_m (by omega)) ?_ h1 h3) (hS.put h2 h3 (C.2.2.1 _ ⟨_, _, (gV_m (by omega)), rfl⟩)) hl
    rw [gC_re, gU_at, hfs]
theorem G.putR (C : gCx p s m c cc nL own Ts args E A R cl sl) {pc : Nat} {lv : List (Option Value)} {st : List Value} {index : Nat} {x : Int32} {ty : FieldType} {d : Nat → Nat → Int32}  (hin : ∀ w ∈ u_ws RX1 TX1 4, w ∈ Ts) (k : Nat) (hk : k < 4) (hr : (TX1 k).1 = RX1) (hlink : (Cond.fieldLink own index RX1 (TX1 k).2.1 (TX1 k).2.2.1).before args s = true) (hfin : (TX1 k).2.2.2 = false) (hty : parseFieldDescriptor (TX1 k).2.2.1 = some ty) (hn : narrow ty (.int x) = .int x) (hfit : fits ty (.int x) = true) (hfs : gFr (cW d 3 k x)  = (gFr d ).set k (.int x)) (hd : decode cc pc = .ok (.putfield index, 3)) (kk : G p l e R s m args below meth c nL cl sl A Q E (gU σ 9 (cW d 3 k x)) π o (pc + 3) lv st) : G p l e R s m args below meth c nL cl sl A Q E (gU σ 9 d) π o pc lv (.int x :: .ref (E.2.1 9 3) :: st) :=
  G.putRs C hin k hk hr hlink hfin hty hn hfit (by rw [gU_at]; exact hfs) hd (by rw [gU_at, gU_gU]; exact kk)
theorem G.putMs (C : gCx p s m c cc nL own Ts args E A R cl sl) {pc : Nat} {lv : List (Option Value)} {st : List Value} {index : Nat} {x : Int32} {ty : FieldType}  (hin : ∀ w ∈ u_ws RX3 TX3 9, w ∈ Ts) (k : Nat) (hk : k < 9) (hr : (TX3 k).1 = RX3) (hlink : (Cond.fieldLink own index RX3 (TX3 k).2.1 (TX3 k).2.2.1).before args s = true) (hfin : (TX3 k).2.2.2 = false) (hty : parseFieldDescriptor (TX3 k).2.2.1 = some ty) (hn : narrow ty (.int x) = .int x) (hfit : fits ty (.int x) = true) (hfs : gFm E (cW (σ 9) 0 k x)  = (gFm E (σ 9) ).set k (.int x)) (hd : decode cc pc = .ok (.putfield index, 3)) (kk : G p l e R s m args below meth c nL cl sl A Q E (gU σ 9 (cW (σ 9) 0 k x)) π o (pc + 3) lv st) : G p l e R s m args below meth c nL cl sl A Q E σ π o pc lv (.int x :: .ref (E.2.1 9 0) :: st) :=
  fun H locs ls hW hS hl => by
    have hat := hW 9 0 (gV_m (by omega))
    rw [gC_ma] at hat
    refine g_put C hin tyX3 tyX3_ok nmX3 hat rfl k hk hr (Or.inl hlink) hfin hty hn hfit hk hd (fun H1 q h1 h2 h3 => ?_)
    refine kk H1 _ ls (hW.putF C.2.1.2.2 (gV_m (by omega)) ?_ h1 h3) (hS.put h2 h3 (C.2.2.1 _ ⟨_, _, (gV_m (by omega)), rfl⟩)) hl
    rw [gC_ma, gU_at, hfs]
theorem G.putM (C : gCx p s m c cc nL own Ts args E A R cl sl) {pc : Nat} {lv : List (Option Value)} {st : List Value} {index : Nat} {x : Int32} {ty : FieldType} {d : Nat → Nat → Int32}  (hin : ∀ w ∈ u_ws RX3 TX3 9, w ∈ Ts) (k : Nat) (hk : k < 9) (hr : (TX3 k).1 = RX3) (hlink : (Cond.fieldLink own index RX3 (TX3 k).2.1 (TX3 k).2.2.1).before args s = true) (hfin : (TX3 k).2.2.2 = false) (hty : parseFieldDescriptor (TX3 k).2.2.1 = some ty) (hn : narrow ty (.int x) = .int x) (hfit : fits ty (.int x) = true) (hfs : gFm E (cW d 0 k x)  = (gFm E d ).set k (.int x)) (hd : decode cc pc = .ok (.putfield index, 3)) (kk : G p l e R s m args below meth c nL cl sl A Q E (gU σ 9 (cW d 0 k x)) π o (pc + 3) lv st) : G p l e R s m args below meth c nL cl sl A Q E (gU σ 9 d) π o pc lv (.int x :: .ref (E.2.1 9 0) :: st) :=
  G.putMs C hin k hk hr hlink hfin hty hn hfit (by rw [gU_at]; exact hfs) hd (by rw [gU_at, gU_gU]; exact kk)
theorem G.putDs (C : gCx p s m c cc nL own Ts args E A R cl sl) {pc : Nat} {lv : List (Option Value)} {st : List Value} {index : Nat} {x : Int32} {ty : FieldType}  (hin : ∀ w ∈ u_ws RX4 TX4 12, w ∈ Ts) (k : Nat) (hk : k < 12) (hr : (TX4 k).1 = RX4) (hlink : (Cond.fieldLink own index RX4 (TX4 k).2.1 (TX4 k).2.2.1).before args s = true) (hfin : (TX4 k).2.2.2 = false) (hty : parseFieldDescriptor (TX4 k).2.2.1 = some ty) (hn : narrow ty (.int x) = .int x) (hfit : fits ty (.int x) = true) (hfs : gFd E (cW (σ 10) 0 k x)  = (gFd E (σ 10) ).set k (.int x)) (hd : decode cc pc = .ok (.putfield index, 3)) (kk : G p l e R s m args below meth c nL cl sl A Q E (gU σ 10 (cW (σ 10) 0 k x)) π o (pc + 3) lv st) : G p l e R s m args below meth c nL cl sl A Q E σ π o pc lv (.int x :: .ref (E.2.1 10 0) :: st) :=
  fun H locs ls hW hS hl => by
    have hat := hW 10 0 (gV_d (by omega))
    rw [gC_mo] at hat
    refine g_put C hin tyX4 tyX4_ok nmX4 hat rfl k hk hr (Or.inl hlink) hfin hty hn hfit hk hd (fun H1 q h1 h2 h3 => ?_)
    refine kk H1 _ ls (hW.putF C.2.1.2.2 (gV_d (by omega)) ?_ h1 h3) (hS.put h2 h3 (C.2.2.1 _ ⟨_, _, (gV_d (by omega)), rfl⟩)) hl
    rw [gC_mo, gU_at, hfs]
theorem G.putD (C : gCx p s m c cc nL own Ts args E A R cl sl) {pc : Nat} {lv : List (Option Value)} {st : List Value} {index : Nat} {x : Int32} {ty : FieldType} {d : Nat → Nat → Int32}  (hin : ∀ w ∈ u_ws RX4 TX4 12, w ∈ Ts) (k : Nat) (hk : k < 12) (hr : (TX4 k).1 = RX4) (hlink : (Cond.fieldLink own index RX4 (TX4 k).2.1 (TX4 k).2.2.1).before args s = true) (hfin : (TX4 k).2.2.2 = false) (hty : parseFieldDescriptor (TX4 k).2.2.1 = some ty) (hn : narrow ty (.int x) = .int x) (hfit : fits ty (.int x) = true) (hfs : gFd E (cW d 0 k x)  = (gFd E d ).set k (.int x)) (hd : decode cc pc = .ok (.putfield index, 3)) (kk : G p l e R s m args below meth c nL cl sl A Q E (gU σ 10 (cW d 0 k x)) π o (pc + 3) lv st) : G p l e R s m args below meth c nL cl sl A Q E (gU σ 10 d) π o pc lv (.int x :: .ref (E.2.1 10 0) :: st) :=
  G.putDs C hin k hk hr hlink hfin hty hn hfit (by rw [gU_at]; exact hfs) hd (by rw [gU_at, gU_gU]; exact kk)
theorem g_blind {av : List Value} : FrameBlind (va_Pc av (gB E σ π o)) := fun a U g mk h => ⟨h.1, h.2.1, h.2.2.call⟩
theorem g_preV {H : Heap} {i j ci : Nat} {q : vw_C} {As : List Value} (hK : gK E s) (hW : CW E σ π o H) (ho : gO i j = some ci) (hq : vwCl[ci]? = some q) : PreV s H q.1 (E.2.1 i j) (va_Pc (.ref (E.2.1 i j) :: As) (gB E σ π o)) As := by
  obtain ⟨hv, fs, he⟩ := gC_obj (E := E) (σ := σ) (π := π) (o := o) ho
  exact ⟨g_blind, va_recv hK.1 (hW.one hv he) (q0 := 0) hq rfl, fun U hU hwm => ⟨rfl, by rw [hU]; exact hW, gK.warm hwm hK⟩⟩
theorem g_preS {H : Heap} {As : List Value} (hK : gK E s) (hW : CW E σ π o H) : PreS s H (va_Pc As (gB E σ π o)) As := ⟨g_blind, fun U hU hwm => ⟨rfl, by rw [hU]; exact hW, gK.warm hwm hK⟩⟩
theorem G.callVI0 (C : gCx p s m c cc nL own Ts args E A R cl sl) {pc : Nat} {lv : List (Option Value)} {st : List Value} {index maxL : Nat} {y : MethodName} {bytes : ByteArray} {ret : Option FieldType} {ws : List Cond} {rm : Room} {i j ci : Nat} {qc : vw_C} {r : Int32} (hM : CtI l y ws rm E (.ref (E.2.1 i j) :: []) σ π o r σ' π' o') (cw : CallW R s args own qc.1 index y bytes maxL ret ws rm 0 0 0) (ho : gO i j = some ci) (hq : vwCl[ci]? = some qc) (hro : (st.map fun v => v.category).sum ≤ 8) (hd : decode cc pc = .ok (.invokevirtual index, 3)) (k : G p l e R s m args below meth c nL cl sl A Q E σ' π' o' (pc + 3) lv (.int r :: st)) : G p l e R s m args below meth c nL cl sl A Q E σ π o pc lv (.ref (E.2.1 i j) :: st) :=
  fun H locs ls hW hS hl => va_calli (va_runV (As := []) (rest := st) C.1 hM cw (g_preV C.2.1 hW ho hq) rfl rfl hl.1 rfl (lv_room hro) hd C.2.2.2) hS (fun q _ h => C.2.2.1 q h) (fun q h => C.2.2.1 q h) (fun r0 u t H1 locs1 ht hvm hpost hB hz hk1 hS1 => by
    subst hpost
    rw [ht] at hB
    exact k H1 locs1 ls hB hS1 hl)
theorem G.callVI1 (C : gCx p s m c cc nL own Ts args E A R cl sl) {pc : Nat} {lv : List (Option Value)} {st : List Value} {index maxL : Nat} {y : MethodName} {bytes : ByteArray} {ret : Option FieldType} {ws : List Cond} {rm : Room} {i j ci : Nat} {qc : vw_C} {v1 : Value} {r : Int32} (hM : CtI l y ws rm E (.ref (E.2.1 i j) :: [v1]) σ π o r σ' π' o') (cw : CallW R s args own qc.1 index y bytes maxL ret ws rm 0 0 1) (ho : gO i j = some ci) (hq : vwCl[ci]? = some qc) (hro : (st.map fun v => v.category).sum ≤ 8) (hd : decode cc pc = .ok (.invokevirtual index, 3)) (k : G p l e R s m args below meth c nL cl sl A Q E σ' π' o' (pc + 3) lv (.int r :: st)) : G p l e R s m args below meth c nL cl sl A Q E σ π o pc lv (v1 :: .ref (E.2.1 i j) :: st) :=
  fun H locs ls hW hS hl => va_calli (va_runV (As := [v1]) (rest := st) C.1 hM cw (g_preV C.2.1 hW ho hq) rfl rfl hl.1 rfl (lv_room hro) hd C.2.2.2) hS (fun q _ h => C.2.2.1 q h) (fun q h => C.2.2.1 q h) (fun r0 u t H1 locs1 ht hvm hpost hB hz hk1 hS1 => by
    subst hpost
    rw [ht] at hB
    exact k H1 locs1 ls hB hS1 hl)
theorem G.callSI1 (C : gCx p s m c cc nL own Ts args E A R cl sl) {pc : Nat} {lv : List (Option Value)} {st : List Value} {index maxL : Nat} {y : MethodName} {bytes : ByteArray} {ret : Option FieldType} {ws : List Cond} {rm : Room} {v1 : Value} {r : Int32} (hM : CtI l y ws rm E [v1] σ π o r σ' π' o') (cw : CallB R s args own index y bytes maxL ret ws rm 0 0 1 ∧ (Cond.static y).before args s = true) (hro : (st.map fun v => v.category).sum ≤ 8) (hd : decode cc pc = .ok (.invokestatic index, 3)) (k : G p l e R s m args below meth c nL cl sl A Q E σ' π' o' (pc + 3) lv (.int r :: st)) : G p l e R s m args below meth c nL cl sl A Q E σ π o pc lv (v1 :: st) :=
  fun H locs ls hW hS hl => va_calli (va_runS (As := [v1]) (rest := st) C.1 hM cw (g_preS C.2.1 hW) rfl rfl hl.1 rfl (lv_room hro) hd C.2.2.2) hS (fun q _ h => C.2.2.1 q h) (fun q h => C.2.2.1 q h) (fun r0 u t H1 locs1 ht hvm hpost hB hz hk1 hS1 => by
    subst hpost
    rw [ht] at hB
    exact k H1 locs1 ls hB hS1 hl)
theorem G.callSNI1 (C : gCx p s m c cc nL own Ts args E A R cl sl) {pc : Nat} {lv : List (Option Value)} {st : List Value} {index maxL : Nat} {y : MethodName} {bytes : ByteArray} {ret : Option FieldType} {ws : List Cond} {rm : Room} {host : String} {v1 : Value} {r : Int32} (hM : CtI l y ws rm E [v1] σ π o r σ' π' o') (cw : va_CN R s args own index y host bytes maxL ret ws rm 0 0 1 ∧ (Cond.static y).before args s = true ∧ True) (hro : (st.map fun v => v.category).sum ≤ 8) (hd : decode cc pc = .ok (.invokestatic index, 3)) (k : G p l e R s m args below meth c nL cl sl A Q E σ' π' o' (pc + 3) lv (.int r :: st)) : G p l e R s m args below meth c nL cl sl A Q E σ π o pc lv (v1 :: st) :=
  fun H locs ls hW hS hl => va_calli (va_runSN (As := [v1]) (rest := st) C.1 hM cw (g_preS C.2.1 hW) rfl rfl hl.1 rfl (lv_room hro) hd C.2.2.2) hS (fun q _ h => C.2.2.1 q h) (fun q h => C.2.2.1 q h) (fun r0 u t H1 locs1 ht hvm hpost hB hz hk1 hS1 => by
    subst hpost
    rw [ht] at hB
    exact k H1 locs1 ls hB hS1 hl)
theorem G.callVI2 (C : gCx p s m c cc nL own Ts args E A R cl sl) {pc : Nat} {lv : List (Option Value)} {st : List Value} {index maxL : Nat} {y : MethodName} {bytes : ByteArray} {ret : Option FieldType} {ws : List Cond} {rm : Room} {i j ci : Nat} {qc : vw_C} {v1 v2 : Value} {r : Int32} (hM : CtI l y ws rm E (.ref (E.2.1 i j) :: [v1, v2]) σ π o r σ' π' o') (cw : CallW R s args own qc.1 index y bytes maxL ret ws rm 0 0 2) (ho : gO i j = some ci) (hq : vwCl[ci]? = some qc) (hro : (st.map fun v => v.category).sum ≤ 8) (hd : decode cc pc = .ok (.invokevirtual index, 3)) (k : G p l e R s m args below meth c nL cl sl A Q E σ' π' o' (pc + 3) lv (.int r :: st)) : G p l e R s m args below meth c nL cl sl A Q E σ π o pc lv (v2 :: v1 :: .ref (E.2.1 i j) :: st) :=
  fun H locs ls hW hS hl => va_calli (va_runV (As := [v1, v2]) (rest := st) C.1 hM cw (g_preV C.2.1 hW ho hq) rfl rfl hl.1 rfl (lv_room hro) hd C.2.2.2) hS (fun q _ h => C.2.2.1 q h) (fun q h => C.2.2.1 q h) (fun r0 u t H1 locs1 ht hvm hpost hB hz hk1 hS1 => by
    subst hpost
    rw [ht] at hB
    exact k H1 locs1 ls hB hS1 hl)
theorem G.callSI2 (C : gCx p s m c cc nL own Ts args E A R cl sl) {pc : Nat} {lv : List (Option Value)} {st : List Value} {index maxL : Nat} {y : MethodName} {bytes : ByteArray} {ret : Option FieldType} {ws : List Cond} {rm : Room} {v1 v2 : Value} {r : Int32} (hM : CtI l y ws rm E [v1, v2] σ π o r σ' π' o') (cw : CallB R s args own index y bytes maxL ret ws rm 0 0 2 ∧ (Cond.static y).before args s = true) (hro : (st.map fun v => v.category).sum ≤ 8) (hd : decode cc pc = .ok (.invokestatic index, 3)) (k : G p l e R s m args below meth c nL cl sl A Q E σ' π' o' (pc + 3) lv (.int r :: st)) : G p l e R s m args below meth c nL cl sl A Q E σ π o pc lv (v2 :: v1 :: st) :=
  fun H locs ls hW hS hl => va_calli (va_runS (As := [v1, v2]) (rest := st) C.1 hM cw (g_preS C.2.1 hW) rfl rfl hl.1 rfl (lv_room hro) hd C.2.2.2) hS (fun q _ h => C.2.2.1 q h) (fun q h => C.2.2.1 q h) (fun r0 u t H1 locs1 ht hvm hpost hB hz hk1 hS1 => by
    subst hpost
    rw [ht] at hB
    exact k H1 locs1 ls hB hS1 hl)
theorem G.callVI3 (C : gCx p s m c cc nL own Ts args E A R cl sl) {pc : Nat} {lv : List (Option Value)} {st : List Value} {index maxL : Nat} {y : MethodName} {bytes : ByteArray} {ret : Option FieldType} {ws : List Cond} {rm : Room} {i j ci : Nat} {qc : vw_C} {v1 v2 v3 : Value} {r : Int32} (hM : CtI l y ws rm E (.ref (E.2.1 i j) :: [v1, v2, v3]) σ π o r σ' π' o') (cw : CallW R s args own qc.1 index y bytes maxL ret ws rm 0 0 3) (ho : gO i j = some ci) (hq : vwCl[ci]? = some qc) (hro : (st.map fun v => v.category).sum ≤ 8) (hd : decode cc pc = .ok (.invokevirtual index, 3)) (k : G p l e R s m args below meth c nL cl sl A Q E σ' π' o' (pc + 3) lv (.int r :: st)) : G p l e R s m args below meth c nL cl sl A Q E σ π o pc lv (v3 :: v2 :: v1 :: .ref (E.2.1 i j) :: st) :=
  fun H locs ls hW hS hl => va_calli (va_runV (As := [v1, v2, v3]) (rest := st) C.1 hM cw (g_preV C.2.1 hW ho hq) rfl rfl hl.1 rfl (lv_room hro) hd C.2.2.2) hS (fun q _ h => C.2.2.1 q h) (fun q h => C.2.2.1 q h) (fun r0 u t H1 locs1 ht hvm hpost hB hz hk1 hS1 => by
    subst hpost
    rw [ht] at hB
    exact k H1 locs1 ls hB hS1 hl)
theorem G.callSI3 (C : gCx p s m c cc nL own Ts args E A R cl sl) {pc : Nat} {lv : List (Option Value)} {st : List Value} {index maxL : Nat} {y : MethodName} {bytes : ByteArray} {ret : Option FieldType} {ws : List Cond} {rm : Room} {v1 v2 v3 : Value} {r : Int32} (hM : CtI l y ws rm E [v1, v2, v3] σ π o r σ' π' o') (cw : CallB R s args own index y bytes maxL ret ws rm 0 0 3 ∧ (Cond.static y).before args s = true) (hro : (st.map fun v => v.category).sum ≤ 8) (hd : decode cc pc = .ok (.invokestatic index, 3)) (k : G p l e R s m args below meth c nL cl sl A Q E σ' π' o' (pc + 3) lv (.int r :: st)) : G p l e R s m args below meth c nL cl sl A Q E σ π o pc lv (v3 :: v2 :: v1 :: st) :=
  fun H locs ls hW hS hl => va_calli (va_runS (As := [v1, v2, v3]) (rest := st) C.1 hM cw (g_preS C.2.1 hW) rfl rfl hl.1 rfl (lv_room hro) hd C.2.2.2) hS (fun q _ h => C.2.2.1 q h) (fun q h => C.2.2.1 q h) (fun r0 u t H1 locs1 ht hvm hpost hB hz hk1 hS1 => by
    subst hpost
    rw [ht] at hB
    exact k H1 locs1 ls hB hS1 hl)
theorem G.callVL0 (C : gCx p s m c cc nL own Ts args E A R cl sl) {pc : Nat} {lv : List (Option Value)} {st : List Value} {index maxL : Nat} {y : MethodName} {bytes : ByteArray} {ret : Option FieldType} {ws : List Cond} {rm : Room} {i j ci : Nat} {qc : vw_C} {r : Int64} (hM : CtL l y ws rm E (.ref (E.2.1 i j) :: []) σ π o r σ' π' o') (cw : CallW R s args own qc.1 index y bytes maxL ret ws rm 0 0 0) (ho : gO i j = some ci) (hq : vwCl[ci]? = some qc) (hro : (st.map fun v => v.category).sum ≤ 8) (hd : decode cc pc = .ok (.invokevirtual index, 3)) (k : G p l e R s m args below meth c nL cl sl A Q E σ' π' o' (pc + 3) lv (.long r :: st)) : G p l e R s m args below meth c nL cl sl A Q E σ π o pc lv (.ref (E.2.1 i j) :: st) :=
  fun H locs ls hW hS hl => va_calll (va_runV (As := []) (rest := st) C.1 hM cw (g_preV C.2.1 hW ho hq) rfl rfl hl.1 rfl (lv_room hro) hd C.2.2.2) hS (fun q _ h => C.2.2.1 q h) (fun q h => C.2.2.1 q h) (fun r0 u t H1 locs1 ht hvm hpost hB hz hk1 hS1 => by
    subst hpost
    rw [ht] at hB
    exact k H1 locs1 ls hB hS1 hl)
theorem G.callVL1 (C : gCx p s m c cc nL own Ts args E A R cl sl) {pc : Nat} {lv : List (Option Value)} {st : List Value} {index maxL : Nat} {y : MethodName} {bytes : ByteArray} {ret : Option FieldType} {ws : List Cond} {rm : Room} {i j ci : Nat} {qc : vw_C} {v1 : Value} {r : Int64} (hM : CtL l y ws rm E (.ref (E.2.1 i j) :: [v1]) σ π o r σ' π' o') (cw : CallW R s args own qc.1 index y bytes maxL ret ws rm 0 0 1) (ho : gO i j = some ci) (hq : vwCl[ci]? = some qc) (hro : (st.map fun v => v.category).sum ≤ 8) (hd : decode cc pc = .ok (.invokevirtual index, 3)) (k : G p l e R s m args below meth c nL cl sl A Q E σ' π' o' (pc + 3) lv (.long r :: st)) : G p l e R s m args below meth c nL cl sl A Q E σ π o pc lv (v1 :: .ref (E.2.1 i j) :: st) :=
  fun H locs ls hW hS hl => va_calll (va_runV (As := [v1]) (rest := st) C.1 hM cw (g_preV C.2.1 hW ho hq) rfl rfl hl.1 rfl (lv_room hro) hd C.2.2.2) hS (fun q _ h => C.2.2.1 q h) (fun q h => C.2.2.1 q h) (fun r0 u t H1 locs1 ht hvm hpost hB hz hk1 hS1 => by
    subst hpost
    rw [ht] at hB
    exact k H1 locs1 ls hB hS1 hl)
theorem G.callSL1 (C : gCx p s m c cc nL own Ts args E A R cl sl) {pc : Nat} {lv : List (Option Value)} {st : List Value} {index maxL : Nat} {y : MethodName} {bytes : ByteArray} {ret : Option FieldType} {ws : List Cond} {rm : Room} {v1 : Value} {r : Int64} (hM : CtL l y ws rm E [v1] σ π o r σ' π' o') (cw : CallB R s args own index y bytes maxL ret ws rm 0 0 1 ∧ (Cond.static y).before args s = true) (hro : (st.map fun v => v.category).sum ≤ 8) (hd : decode cc pc = .ok (.invokestatic index, 3)) (k : G p l e R s m args below meth c nL cl sl A Q E σ' π' o' (pc + 3) lv (.long r :: st)) : G p l e R s m args below meth c nL cl sl A Q E σ π o pc lv (v1 :: st) :=
  fun H locs ls hW hS hl => va_calll (va_runS (As := [v1]) (rest := st) C.1 hM cw (g_preS C.2.1 hW) rfl rfl hl.1 rfl (lv_room hro) hd C.2.2.2) hS (fun q _ h => C.2.2.1 q h) (fun q h => C.2.2.1 q h) (fun r0 u t H1 locs1 ht hvm hpost hB hz hk1 hS1 => by
    subst hpost
    rw [ht] at hB
    exact k H1 locs1 ls hB hS1 hl)
theorem G.callVL2 (C : gCx p s m c cc nL own Ts args E A R cl sl) {pc : Nat} {lv : List (Option Value)} {st : List Value} {index maxL : Nat} {y : MethodName} {bytes : ByteArray} {ret : Option FieldType} {ws : List Cond} {rm : Room} {i j ci : Nat} {qc : vw_C} {v1 v2 : Value} {r : Int64} (hM : CtL l y ws rm E (.ref (E.2.1 i j) :: [v1, v2]) σ π o r σ' π' o') (cw : CallW R s args own qc.1 index y bytes maxL ret ws rm 0 0 2) (ho : gO i j = some ci) (hq : vwCl[ci]? = some qc) (hro : (st.map fun v => v.category).sum ≤ 8) (hd : decode cc pc = .ok (.invokevirtual index, 3)) (k : G p l e R s m args below meth c nL cl sl A Q E σ' π' o' (pc + 3) lv (.long r :: st)) : G p l e R s m args below meth c nL cl sl A Q E σ π o pc lv (v2 :: v1 :: .ref (E.2.1 i j) :: st) :=
  fun H locs ls hW hS hl => va_calll (va_runV (As := [v1, v2]) (rest := st) C.1 hM cw (g_preV C.2.1 hW ho hq) rfl rfl hl.1 rfl (lv_room hro) hd C.2.2.2) hS (fun q _ h => C.2.2.1 q h) (fun q h => C.2.2.1 q h) (fun r0 u t H1 locs1 ht hvm hpost hB hz hk1 hS1 => by
    subst hpost
    rw [ht] at hB
    exact k H1 locs1 ls hB hS1 hl)
theorem G.callSL2 (C : gCx p s m c cc nL own Ts args E A R cl sl) {pc : Nat} {lv : List (Option Value)} {st : List Value} {index maxL : Nat} {y : MethodName} {bytes : ByteArray} {ret : Option FieldType} {ws : List Cond} {rm : Room} {v1 v2 : Value} {r : Int64} (hM : CtL l y ws rm E [v1, v2] σ π o r σ' π' o') (cw : CallB R s args own index y bytes maxL ret ws rm 0 0 2 ∧ (Cond.static y).before args s = true) (hro : (st.map fun v => v.category).sum ≤ 8) (hd : decode cc pc = .ok (.invokestatic index, 3)) (k : G p l e R s m args below meth c nL cl sl A Q E σ' π' o' (pc + 3) lv (.long r :: st)) : G p l e R s m args below meth c nL cl sl A Q E σ π o pc lv (v2 :: v1 :: st) :=
  fun H locs ls hW hS hl => va_calll (va_runS (As := [v1, v2]) (rest := st) C.1 hM cw (g_preS C.2.1 hW) rfl rfl hl.1 rfl (lv_room hro) hd C.2.2.2) hS (fun q _ h => C.2.2.1 q h) (fun q h => C.2.2.1 q h) (fun r0 u t H1 locs1 ht hvm hpost hB hz hk1 hS1 => by
    subst hpost
    rw [ht] at hB
    exact k H1 locs1 ls hB hS1 hl)
theorem G.callVL3 (C : gCx p s m c cc nL own Ts args E A R cl sl) {pc : Nat} {lv : List (Option Value)} {st : List Value} {index maxL : Nat} {y : MethodName} {bytes : ByteArray} {ret : Option FieldType} {ws : List Cond} {rm : Room} {i j ci : Nat} {qc : vw_C} {v1 v2 v3 : Value} {r : Int64} (hM : CtL l y ws rm E (.ref (E.2.1 i j) :: [v1, v2, v3]) σ π o r σ' π' o') (cw : CallW R s args own qc.1 index y bytes maxL ret ws rm 0 0 3) (ho : gO i j = some ci) (hq : vwCl[ci]? = some qc) (hro : (st.map fun v => v.category).sum ≤ 8) (hd : decode cc pc = .ok (.invokevirtual index, 3)) (k : G p l e R s m args below meth c nL cl sl A Q E σ' π' o' (pc + 3) lv (.long r :: st)) : G p l e R s m args below meth c nL cl sl A Q E σ π o pc lv (v3 :: v2 :: v1 :: .ref (E.2.1 i j) :: st) :=
  fun H locs ls hW hS hl => va_calll (va_runV (As := [v1, v2, v3]) (rest := st) C.1 hM cw (g_preV C.2.1 hW ho hq) rfl rfl hl.1 rfl (lv_room hro) hd C.2.2.2) hS (fun q _ h => C.2.2.1 q h) (fun q h => C.2.2.1 q h) (fun r0 u t H1 locs1 ht hvm hpost hB hz hk1 hS1 => by
    subst hpost
    rw [ht] at hB
    exact k H1 locs1 ls hB hS1 hl)
theorem G.callSL3 (C : gCx p s m c cc nL own Ts args E A R cl sl) {pc : Nat} {lv : List (Option Value)} {st : List Value} {index maxL : Nat} {y : MethodName} {bytes : ByteArray} {ret : Option FieldType} {ws : List Cond} {rm : Room} {v1 v2 v3 : Value} {r : Int64} (hM : CtL l y ws rm E [v1, v2, v3] σ π o r σ' π' o') (cw : CallB R s args own index y bytes maxL ret ws rm 0 0 3 ∧ (Cond.static y).before args s = true) (hro : (st.map fun v => v.category).sum ≤ 8) (hd : decode cc pc = .ok (.invokestatic index, 3)) (k : G p l e R s m args below meth c nL cl sl A Q E σ' π' o' (pc + 3) lv (.long r :: st)) : G p l e R s m args below meth c nL cl sl A Q E σ π o pc lv (v3 :: v2 :: v1 :: st) :=
  fun H locs ls hW hS hl => va_calll (va_runS (As := [v1, v2, v3]) (rest := st) C.1 hM cw (g_preS C.2.1 hW) rfl rfl hl.1 rfl (lv_room hro) hd C.2.2.2) hS (fun q _ h => C.2.2.1 q h) (fun q h => C.2.2.1 q h) (fun r0 u t H1 locs1 ht hvm hpost hB hz hk1 hS1 => by
    subst hpost
    rw [ht] at hB
    exact k H1 locs1 ls hB hS1 hl)
theorem G.callVD0 (C : gCx p s m c cc nL own Ts args E A R cl sl) {pc : Nat} {lv : List (Option Value)} {st : List Value} {index maxL : Nat} {y : MethodName} {bytes : ByteArray} {ret : Option FieldType} {ws : List Cond} {rm : Room} {i j ci : Nat} {qc : vw_C} {r : UInt64} (hM : CtD l y ws rm E (.ref (E.2.1 i j) :: []) σ π o r σ' π' o') (cw : CallW R s args own qc.1 index y bytes maxL ret ws rm 0 0 0) (ho : gO i j = some ci) (hq : vwCl[ci]? = some qc) (hro : (st.map fun v => v.category).sum ≤ 8) (hd : decode cc pc = .ok (.invokevirtual index, 3)) (k : G p l e R s m args below meth c nL cl sl A Q E σ' π' o' (pc + 3) lv (.double r :: st)) : G p l e R s m args below meth c nL cl sl A Q E σ π o pc lv (.ref (E.2.1 i j) :: st) :=
  fun H locs ls hW hS hl => va_calld (va_runV (As := []) (rest := st) C.1 hM cw (g_preV C.2.1 hW ho hq) rfl rfl hl.1 rfl (lv_room hro) hd C.2.2.2) hS (fun q _ h => C.2.2.1 q h) (fun q h => C.2.2.1 q h) (fun r0 u t H1 locs1 ht hvm hpost hB hz hk1 hS1 => by
    subst hpost
    rw [ht] at hB
    exact k H1 locs1 ls hB hS1 hl)
theorem G.callVD1 (C : gCx p s m c cc nL own Ts args E A R cl sl) {pc : Nat} {lv : List (Option Value)} {st : List Value} {index maxL : Nat} {y : MethodName} {bytes : ByteArray} {ret : Option FieldType} {ws : List Cond} {rm : Room} {i j ci : Nat} {qc : vw_C} {v1 : Value} {r : UInt64} (hM : CtD l y ws rm E (.ref (E.2.1 i j) :: [v1]) σ π o r σ' π' o') (cw : CallW R s args own qc.1 index y bytes maxL ret ws rm 0 0 1) (ho : gO i j = some ci) (hq : vwCl[ci]? = some qc) (hro : (st.map fun v => v.category).sum ≤ 8) (hd : decode cc pc = .ok (.invokevirtual index, 3)) (k : G p l e R s m args below meth c nL cl sl A Q E σ' π' o' (pc + 3) lv (.double r :: st)) : G p l e R s m args below meth c nL cl sl A Q E σ π o pc lv (v1 :: .ref (E.2.1 i j) :: st) :=
  fun H locs ls hW hS hl => va_calld (va_runV (As := [v1]) (rest := st) C.1 hM cw (g_preV C.2.1 hW ho hq) rfl rfl hl.1 rfl (lv_room hro) hd C.2.2.2) hS (fun q _ h => C.2.2.1 q h) (fun q h => C.2.2.1 q h) (fun r0 u t H1 locs1 ht hvm hpost hB hz hk1 hS1 => by
    subst hpost
    rw [ht] at hB
    exact k H1 locs1 ls hB hS1 hl)
theorem G.callSD1 (C : gCx p s m c cc nL own Ts args E A R cl sl) {pc : Nat} {lv : List (Option Value)} {st : List Value} {index maxL : Nat} {y : MethodName} {bytes : ByteArray} {ret : Option FieldType} {ws : List Cond} {rm : Room} {v1 : Value} {r : UInt64} (hM : CtD l y ws rm E [v1] σ π o r σ' π' o') (cw : CallB R s args own index y bytes maxL ret ws rm 0 0 1 ∧ (Cond.static y).before args s = true) (hro : (st.map fun v => v.category).sum ≤ 8) (hd : decode cc pc = .ok (.invokestatic index, 3)) (k : G p l e R s m args below meth c nL cl sl A Q E σ' π' o' (pc + 3) lv (.double r :: st)) : G p l e R s m args below meth c nL cl sl A Q E σ π o pc lv (v1 :: st) :=
  fun H locs ls hW hS hl => va_calld (va_runS (As := [v1]) (rest := st) C.1 hM cw (g_preS C.2.1 hW) rfl rfl hl.1 rfl (lv_room hro) hd C.2.2.2) hS (fun q _ h => C.2.2.1 q h) (fun q h => C.2.2.1 q h) (fun r0 u t H1 locs1 ht hvm hpost hB hz hk1 hS1 => by
    subst hpost
    rw [ht] at hB
    exact k H1 locs1 ls hB hS1 hl)
theorem G.callVD2 (C : gCx p s m c cc nL own Ts args E A R cl sl) {pc : Nat} {lv : List (Option Value)} {st : List Value} {index maxL : Nat} {y : MethodName} {bytes : ByteArray} {ret : Option FieldType} {ws : List Cond} {rm : Room} {i j ci : Nat} {qc : vw_C} {v1 v2 : Value} {r : UInt64} (hM : CtD l y ws rm E (.ref (E.2.1 i j) :: [v1, v2]) σ π o r σ' π' o') (cw : CallW R s args own qc.1 index y bytes maxL ret ws rm 0 0 2) (ho : gO i j = some ci) (hq : vwCl[ci]? = some qc) (hro : (st.map fun v => v.category).sum ≤ 8) (hd : decode cc pc = .ok (.invokevirtual index, 3)) (k : G p l e R s m args below meth c nL cl sl A Q E σ' π' o' (pc + 3) lv (.double r :: st)) : G p l e R s m args below meth c nL cl sl A Q E σ π o pc lv (v2 :: v1 :: .ref (E.2.1 i j) :: st) :=
  fun H locs ls hW hS hl => va_calld (va_runV (As := [v1, v2]) (rest := st) C.1 hM cw (g_preV C.2.1 hW ho hq) rfl rfl hl.1 rfl (lv_room hro) hd C.2.2.2) hS (fun q _ h => C.2.2.1 q h) (fun q h => C.2.2.1 q h) (fun r0 u t H1 locs1 ht hvm hpost hB hz hk1 hS1 => by
    subst hpost
    rw [ht] at hB
    exact k H1 locs1 ls hB hS1 hl)
theorem G.callSD2 (C : gCx p s m c cc nL own Ts args E A R cl sl) {pc : Nat} {lv : List (Option Value)} {st : List Value} {index maxL : Nat} {y : MethodName} {bytes : ByteArray} {ret : Option FieldType} {ws : List Cond} {rm : Room} {v1 v2 : Value} {r : UInt64} (hM : CtD l y ws rm E [v1, v2] σ π o r σ' π' o') (cw : CallB R s args own index y bytes maxL ret ws rm 0 0 2 ∧ (Cond.static y).before args s = true) (hro : (st.map fun v => v.category).sum ≤ 8) (hd : decode cc pc = .ok (.invokestatic index, 3)) (k : G p l e R s m args below meth c nL cl sl A Q E σ' π' o' (pc + 3) lv (.double r :: st)) : G p l e R s m args below meth c nL cl sl A Q E σ π o pc lv (v2 :: v1 :: st) :=
  fun H locs ls hW hS hl => va_calld (va_runS (As := [v1, v2]) (rest := st) C.1 hM cw (g_preS C.2.1 hW) rfl rfl hl.1 rfl (lv_room hro) hd C.2.2.2) hS (fun q _ h => C.2.2.1 q h) (fun q h => C.2.2.1 q h) (fun r0 u t H1 locs1 ht hvm hpost hB hz hk1 hS1 => by
    subst hpost
    rw [ht] at hB
    exact k H1 locs1 ls hB hS1 hl)
theorem G.callVD3 (C : gCx p s m c cc nL own Ts args E A R cl sl) {pc : Nat} {lv : List (Option Value)} {st : List Value} {index maxL : Nat} {y : MethodName} {bytes : ByteArray} {ret : Option FieldType} {ws : List Cond} {rm : Room} {i j ci : Nat} {qc : vw_C} {v1 v2 v3 : Value} {r : UInt64} (hM : CtD l y ws rm E (.ref (E.2.1 i j) :: [v1, v2, v3]) σ π o r σ' π' o') (cw : CallW R s args own qc.1 index y bytes maxL ret ws rm 0 0 3) (ho : gO i j = some ci) (hq : vwCl[ci]? = some qc) (hro : (st.map fun v => v.category).sum ≤ 8) (hd : decode cc pc = .ok (.invokevirtual index, 3)) (k : G p l e R s m args below meth c nL cl sl A Q E σ' π' o' (pc + 3) lv (.double r :: st)) : G p l e R s m args below meth c nL cl sl A Q E σ π o pc lv (v3 :: v2 :: v1 :: .ref (E.2.1 i j) :: st) :=
  fun H locs ls hW hS hl => va_calld (va_runV (As := [v1, v2, v3]) (rest := st) C.1 hM cw (g_preV C.2.1 hW ho hq) rfl rfl hl.1 rfl (lv_room hro) hd C.2.2.2) hS (fun q _ h => C.2.2.1 q h) (fun q h => C.2.2.1 q h) (fun r0 u t H1 locs1 ht hvm hpost hB hz hk1 hS1 => by
    subst hpost
    rw [ht] at hB
    exact k H1 locs1 ls hB hS1 hl)
theorem G.callSD3 (C : gCx p s m c cc nL own Ts args E A R cl sl) {pc : Nat} {lv : List (Option Value)} {st : List Value} {index maxL : Nat} {y : MethodName} {bytes : ByteArray} {ret : Option FieldType} {ws : List Cond} {rm : Room} {v1 v2 v3 : Value} {r : UInt64} (hM : CtD l y ws rm E [v1, v2, v3] σ π o r σ' π' o') (cw : CallB R s args own index y bytes maxL ret ws rm 0 0 3 ∧ (Cond.static y).before args s = true) (hro : (st.map fun v => v.category).sum ≤ 8) (hd : decode cc pc = .ok (.invokestatic index, 3)) (k : G p l e R s m args below meth c nL cl sl A Q E σ' π' o' (pc + 3) lv (.double r :: st)) : G p l e R s m args below meth c nL cl sl A Q E σ π o pc lv (v3 :: v2 :: v1 :: st) :=
  fun H locs ls hW hS hl => va_calld (va_runS (As := [v1, v2, v3]) (rest := st) C.1 hM cw (g_preS C.2.1 hW) rfl rfl hl.1 rfl (lv_room hro) hd C.2.2.2) hS (fun q _ h => C.2.2.1 q h) (fun q h => C.2.2.1 q h) (fun r0 u t H1 locs1 ht hvm hpost hB hz hk1 hS1 => by
    subst hpost
    rw [ht] at hB
    exact k H1 locs1 ls hB hS1 hl)
theorem G.callVV0 (C : gCx p s m c cc nL own Ts args E A R cl sl) {pc : Nat} {lv : List (Option Value)} {st : List Value} {index maxL : Nat} {y : MethodName} {bytes : ByteArray} {ret : Option FieldType} {ws : List Cond} {rm : Room} {i j ci : Nat} {qc : vw_C} (hM : CtV l y ws rm E (.ref (E.2.1 i j) :: []) σ π o σ' π' o') (cw : CallW R s args own qc.1 index y bytes maxL ret ws rm 0 0 0) (ho : gO i j = some ci) (hq : vwCl[ci]? = some qc) (hro : (st.map fun v => v.category).sum ≤ 8) (hd : decode cc pc = .ok (.invokevirtual index, 3)) (k : G p l e R s m args below meth c nL cl sl A Q E σ' π' o' (pc + 3) lv st) : G p l e R s m args below meth c nL cl sl A Q E σ π o pc lv (.ref (E.2.1 i j) :: st) :=
  fun H locs ls hW hS hl => va_callv (va_runV (As := []) (rest := st) C.1 hM cw (g_preV C.2.1 hW ho hq) rfl rfl hl.1 rfl (lv_room hro) hd C.2.2.2) hS (fun q _ h => C.2.2.1 q h) (fun q h => C.2.2.1 q h) (fun u t H1 locs1 ht hvm hpost hB hz hk1 hS1 => by
    rw [ht] at hB
    exact k H1 locs1 ls hB hS1 hl)
theorem G.callVV1 (C : gCx p s m c cc nL own Ts args E A R cl sl) {pc : Nat} {lv : List (Option Value)} {st : List Value} {index maxL : Nat} {y : MethodName} {bytes : ByteArray} {ret : Option FieldType} {ws : List Cond} {rm : Room} {i j ci : Nat} {qc : vw_C} {v1 : Value} (hM : CtV l y ws rm E (.ref (E.2.1 i j) :: [v1]) σ π o σ' π' o') (cw : CallW R s args own qc.1 index y bytes maxL ret ws rm 0 0 1) (ho : gO i j = some ci) (hq : vwCl[ci]? = some qc) (hro : (st.map fun v => v.category).sum ≤ 8) (hd : decode cc pc = .ok (.invokevirtual index, 3)) (k : G p l e R s m args below meth c nL cl sl A Q E σ' π' o' (pc + 3) lv st) : G p l e R s m args below meth c nL cl sl A Q E σ π o pc lv (v1 :: .ref (E.2.1 i j) :: st) :=
  fun H locs ls hW hS hl => va_callv (va_runV (As := [v1]) (rest := st) C.1 hM cw (g_preV C.2.1 hW ho hq) rfl rfl hl.1 rfl (lv_room hro) hd C.2.2.2) hS (fun q _ h => C.2.2.1 q h) (fun q h => C.2.2.1 q h) (fun u t H1 locs1 ht hvm hpost hB hz hk1 hS1 => by
    rw [ht] at hB
    exact k H1 locs1 ls hB hS1 hl)
theorem G.callSV1 (C : gCx p s m c cc nL own Ts args E A R cl sl) {pc : Nat} {lv : List (Option Value)} {st : List Value} {index maxL : Nat} {y : MethodName} {bytes : ByteArray} {ret : Option FieldType} {ws : List Cond} {rm : Room} {v1 : Value} (hM : CtV l y ws rm E [v1] σ π o σ' π' o') (cw : CallB R s args own index y bytes maxL ret ws rm 0 0 1 ∧ (Cond.static y).before args s = true) (hro : (st.map fun v => v.category).sum ≤ 8) (hd : decode cc pc = .ok (.invokestatic index, 3)) (k : G p l e R s m args below meth c nL cl sl A Q E σ' π' o' (pc + 3) lv st) : G p l e R s m args below meth c nL cl sl A Q E σ π o pc lv (v1 :: st) :=
  fun H locs ls hW hS hl => va_callv (va_runS (As := [v1]) (rest := st) C.1 hM cw (g_preS C.2.1 hW) rfl rfl hl.1 rfl (lv_room hro) hd C.2.2.2) hS (fun q _ h => C.2.2.1 q h) (fun q h => C.2.2.1 q h) (fun u t H1 locs1 ht hvm hpost hB hz hk1 hS1 => by
    rw [ht] at hB
    exact k H1 locs1 ls hB hS1 hl)
theorem G.callVV2 (C : gCx p s m c cc nL own Ts args E A R cl sl) {pc : Nat} {lv : List (Option Value)} {st : List Value} {index maxL : Nat} {y : MethodName} {bytes : ByteArray} {ret : Option FieldType} {ws : List Cond} {rm : Room} {i j ci : Nat} {qc : vw_C} {v1 v2 : Value} (hM : CtV l y ws rm E (.ref (E.2.1 i j) :: [v1, v2]) σ π o σ' π' o') (cw : CallW R s args own qc.1 index y bytes maxL ret ws rm 0 0 2) (ho : gO i j = some ci) (hq : vwCl[ci]? = some qc) (hro : (st.map fun v => v.category).sum ≤ 8) (hd : decode cc pc = .ok (.invokevirtual index, 3)) (k : G p l e R s m args below meth c nL cl sl A Q E σ' π' o' (pc + 3) lv st) : G p l e R s m args below meth c nL cl sl A Q E σ π o pc lv (v2 :: v1 :: .ref (E.2.1 i j) :: st) :=
  fun H locs ls hW hS hl => va_callv (va_runV (As := [v1, v2]) (rest := st) C.1 hM cw (g_preV C.2.1 hW ho hq) rfl rfl hl.1 rfl (lv_room hro) hd C.2.2.2) hS (fun q _ h => C.2.2.1 q h) (fun q h => C.2.2.1 q h) (fun u t H1 locs1 ht hvm hpost hB hz hk1 hS1 => by
    rw [ht] at hB
    exact k H1 locs1 ls hB hS1 hl)
theorem G.callSV2 (C : gCx p s m c cc nL own Ts args E A R cl sl) {pc : Nat} {lv : List (Option Value)} {st : List Value} {index maxL : Nat} {y : MethodName} {bytes : ByteArray} {ret : Option FieldType} {ws : List Cond} {rm : Room} {v1 v2 : Value} (hM : CtV l y ws rm E [v1, v2] σ π o σ' π' o') (cw : CallB R s args own index y bytes maxL ret ws rm 0 0 2 ∧ (Cond.static y).before args s = true) (hro : (st.map fun v => v.category).sum ≤ 8) (hd : decode cc pc = .ok (.invokestatic index, 3)) (k : G p l e R s m args below meth c nL cl sl A Q E σ' π' o' (pc + 3) lv st) : G p l e R s m args below meth c nL cl sl A Q E σ π o pc lv (v2 :: v1 :: st) :=
  fun H locs ls hW hS hl => va_callv (va_runS (As := [v1, v2]) (rest := st) C.1 hM cw (g_preS C.2.1 hW) rfl rfl hl.1 rfl (lv_room hro) hd C.2.2.2) hS (fun q _ h => C.2.2.1 q h) (fun q h => C.2.2.1 q h) (fun u t H1 locs1 ht hvm hpost hB hz hk1 hS1 => by
    rw [ht] at hB
    exact k H1 locs1 ls hB hS1 hl)
theorem G.callVV3 (C : gCx p s m c cc nL own Ts args E A R cl sl) {pc : Nat} {lv : List (Option Value)} {st : List Value} {index maxL : Nat} {y : MethodName} {bytes : ByteArray} {ret : Option FieldType} {ws : List Cond} {rm : Room} {i j ci : Nat} {qc : vw_C} {v1 v2 v3 : Value} (hM : CtV l y ws rm E (.ref (E.2.1 i j) :: [v1, v2, v3]) σ π o σ' π' o') (cw : CallW R s args own qc.1 index y bytes maxL ret ws rm 0 0 3) (ho : gO i j = some ci) (hq : vwCl[ci]? = some qc) (hro : (st.map fun v => v.category).sum ≤ 8) (hd : decode cc pc = .ok (.invokevirtual index, 3)) (k : G p l e R s m args below meth c nL cl sl A Q E σ' π' o' (pc + 3) lv st) : G p l e R s m args below meth c nL cl sl A Q E σ π o pc lv (v3 :: v2 :: v1 :: .ref (E.2.1 i j) :: st) :=
  fun H locs ls hW hS hl => va_callv (va_runV (As := [v1, v2, v3]) (rest := st) C.1 hM cw (g_preV C.2.1 hW ho hq) rfl rfl hl.1 rfl (lv_room hro) hd C.2.2.2) hS (fun q _ h => C.2.2.1 q h) (fun q h => C.2.2.1 q h) (fun u t H1 locs1 ht hvm hpost hB hz hk1 hS1 => by
    rw [ht] at hB
    exact k H1 locs1 ls hB hS1 hl)
theorem G.callSV3 (C : gCx p s m c cc nL own Ts args E A R cl sl) {pc : Nat} {lv : List (Option Value)} {st : List Value} {index maxL : Nat} {y : MethodName} {bytes : ByteArray} {ret : Option FieldType} {ws : List Cond} {rm : Room} {v1 v2 v3 : Value} (hM : CtV l y ws rm E [v1, v2, v3] σ π o σ' π' o') (cw : CallB R s args own index y bytes maxL ret ws rm 0 0 3 ∧ (Cond.static y).before args s = true) (hro : (st.map fun v => v.category).sum ≤ 8) (hd : decode cc pc = .ok (.invokestatic index, 3)) (k : G p l e R s m args below meth c nL cl sl A Q E σ' π' o' (pc + 3) lv st) : G p l e R s m args below meth c nL cl sl A Q E σ π o pc lv (v3 :: v2 :: v1 :: st) :=
  fun H locs ls hW hS hl => va_callv (va_runS (As := [v1, v2, v3]) (rest := st) C.1 hM cw (g_preS C.2.1 hW) rfl rfl hl.1 rfl (lv_room hro) hd C.2.2.2) hS (fun q _ h => C.2.2.1 q h) (fun q h => C.2.2.1 q h) (fun u t H1 locs1 ht hvm hpost hB hz hk1 hS1 => by
    rw [ht] at hB
    exact k H1 locs1 ls hB hS1 hl)
end GL2
theorem va_Nw_isHole {E : gEn} {s : State} (h : gK E s) : va_Nw (.methodLinkNest RX0 59 yX3_isHole RX3) s := h.2.1 _ (by unfold gNst; simp)
theorem CtI.eta {l : Launch} {y : MethodName} {ws : List Cond} {rm : Room} {E : gEn} {av : List Value} {σ σ' : gSt} {π π' : Nat → Nat} {o o' : Int64} {r : Int32} {i : Nat} (h : CtI l y ws rm E av (gU σ i (σ i)) π o r σ' π' o') : CtI l y ws rm E av σ π o r σ' π' o' := by rw [gU_eta] at h; exact h
theorem CtV.eta {l : Launch} {y : MethodName} {ws : List Cond} {rm : Room} {E : gEn} {av : List Value} {σ σ' : gSt} {π π' : Nat → Nat} {o o' : Int64} {i : Nat} (h : CtV l y ws rm E av (gU σ i (σ i)) π o σ' π' o') : CtV l y ws rm E av σ π o σ' π' o' := by rw [gU_eta] at h; exact h
theorem CtI.same {l : Launch} {y : MethodName} {ws : List Cond} {rm : Room} {E : gEn} {av : List Value} {σ : gSt} {π : Nat → Nat} {o : Int64} {r : Int32} {i : Nat} (h : CtI l y ws rm E av (gU σ i (σ i)) π o r (gU σ i (σ i)) π o) : CtI l y ws rm E av σ π o r σ π o := by rw [gU_eta] at h; exact h
