/-! what is thrown -/
def gStr : List (Nat × String) := [(54, "strength is not 1 to 9"), (65, "the dove cannot be bought"), (84, "the two cannot be mates"), (97, "the hole cannot be shut"), (107, "no such setting"), (110, "value is out of range"), (121, "the dove cannot come home"), (160, "there is no saved state"), (169, "there is no snapshot"), (171, "what is not 0 to 7"), (177, "what is not 0 to 2"), (182, "what is not 0 to 17"), (187, "step is below 0, or what is neither 0 nor 1"), (263, "no such hole"), (265, "time is not 0 to 1439"), (267, "no such dove")]
def xB : List Cond := [.castable "java/lang/IllegalArgumentException" "java/lang/IllegalArgumentException", .castable "java/lang/IllegalStateException" "java/lang/IllegalStateException", .castable "java/lang/IndexOutOfBoundsException" "java/lang/IndexOutOfBoundsException", .declares ⟨"java/lang/RuntimeException", "<init>", "(Ljava/lang/String;)V"⟩, .declares ⟨"java/lang/Exception", "<init>", "(Ljava/lang/String;)V"⟩, .declares ⟨"java/lang/Throwable", "<init>", "(Ljava/lang/String;)V"⟩]
theorem xB_c : ∀ w ∈ xB, (∃ a, w = .castable a a) ∨ ∃ x, w = .declares x := by
  intro w hw
  simp only [xB, List.mem_cons, List.not_mem_nil, or_false] at hw
  rcases hw with rfl | rfl | rfl | rfl | rfl | rfl <;> first | exact Or.inl ⟨_, rfl⟩ | exact Or.inr ⟨_, rfl⟩
theorem xB_t : ∀ w ∈ xB, w.onTables = true := by decide +kernel
def gX (E : gEn) (U : State) : Prop := vx_Zq Bundle.tN "UNASSIGNED_STACK" Bundle.steD (gA E) U U.heap ∧ vx_Zq Bundle.tN "SUPPRESSED_SENTINEL" Bundle.listD (gA E) U U.heap ∧ (∀ q ∈ gStr, ∃ a, vk_R RX3 q.1 q.2 a U) ∧ ∀ w ∈ xB, va_Nw w U
theorem gX.call {E : gEn} {U : State} {g : JFrame} {mk : MethodId} {a : Array Value} (h : gX E U) : gX E (U.calling g mk a) := ⟨h.1.moved (u := U) (U := U.calling g mk a) (Vm.Alike.refl U.vm), h.2.1.moved (u := U) (U := U.calling g mk a) (Vm.Alike.refl U.vm), fun q hq => (h.2.2.1 q hq).imp fun b hb => vk_R.same (u := U) (U := U.calling g mk a) rfl hb, fun w hw => va_Nw.same (u := U) (U := U.calling g mk a) (xB_t w hw) rfl (h.2.2.2 w hw)⟩
theorem gX.warm {E : gEn} {s U : State} {locs : List Loc} (hW : s.WarmedH U.vm) (h : gX E s) (hS : va_S (gA E) s.heap U.heap locs) : gX E U := ⟨(h.1.moved hW.alike).kept (fun a h1 h2 => hS.2.1 a h1 h2), (h.2.1.moved hW.alike).kept (fun a h1 h2 => hS.2.1 a h1 h2), fun q hq => (h.2.2.1 q hq).imp fun a ha => vk_R.warm hW ha, fun w hw => by
  rcases xB_c w hw with ⟨a, rfl⟩ | ⟨a, rfl⟩
  · exact va_Nw.warmC hW (h.2.2.2 _ hw)
  · exact va_Nw.warmD hW (h.2.2.2 _ hw)⟩
def gBX (E : gEn) (σ : gSt) (π : Nat → Nat) (o : Int64) : State → Prop := fun U => CW E σ π o U.heap ∧ gK E U ∧ gX E U
def gXC (E : gEn) (Ex : String) (σ' : gSt) (π' : Nat → Nat) (o' : Int64) : String → State → State → Prop := vx_X (S := Unit) (fun _ => True) (fun Ec _ t => Ec = Ex ∧ CW E σ' π' o' t.heap) (gA E)
def gQF (E : gEn) : Array Value → State → Outcome → State → Prop := va_Qv (S := Unit) (fun _ => False) (fun _ _ => True) (gA E)
/-- a call that throws -/
def CtX (l : Launch) (y : MethodName) (ws : List Cond) (rm : Room) (E : gEn) (av : List Value) (σ : gSt) (π : Nat → Nat) (o : Int64) (Ex : String) (σ' : gSt) (π' : Nat → Nat) (o' : Int64) : Prop :=
  vx_Met l y ws rm (va_Pc av (gBX E σ π o)) (gQF E) (gXC E Ex σ' π' o') 1 6 (gA E)
def gQX (below : List Frame) (args : Array Value) (s : State) (Ex : String) (E : gEn) (σ' : gSt) (π' : Nat → Nat) (o' : Int64) : State → Prop := vx_MQ below (gQF E) (gXC E Ex σ' π' o') args s 1 6 (gA E)
section GX
variable {p : Program} {l : Launch} {e : Env} {R : Room} {s : State} {m : MethodId} {args : Array Value} {below : List Frame} {meth : Method} {c : Code} {Q : State → Prop} {cc : ByteArray} {own : String} {Ts : List Cond} {nL cl sl : Nat} {E : gEn} {A : Nat → Prop} {σ σ' : gSt} {π π' : Nat → Nat} {o o' : Int64}
theorem CtX.of {y : MethodName} {ws ws' : List Cond} {rm : Room} {maxL : Nat} {ret : Option FieldType} {av : List Value} {Ex : String} (lv : List (Option Value)) (hy : plainName y.cls = true) (hw : ws = Cond.code y cc maxL ret :: ws') (hown : y.cls = own) (hlen : (lg_sl av).length ≤ maxL) (hlv : gLv av maxL = lv)
    (body : ∀ (p : Program) (e : Env) (s : State) (m : MethodId) (args : Array Value) (below : List Frame) (meth : Method) (c : Code), gCx p s m c cc maxL own ws args E (gA E) rm 0 0 → gX E s → (∀ x ∈ c.exceptionTable.toList, False) → meth.locks = false → G p l e rm s m args below meth c maxL 0 0 (gA E) (gQX below args s Ex E σ' π' o') E σ π o 0 lv []) : CtX l y ws rm E av σ π o Ex σ' π' o' := by
  refine vx_ofW (cc := cc) (maxL := maxL) (ret := ret) hy hw ?_
  intro p e s m args below meth c s₁ B hml hnt hv
  obtain ⟨rfl, hW, hK, hX⟩ := hv
  have hts := atoms_spec (ws := ws) B.pre
  have hfo : s.vm.findClass own = some m.cls := by rw [← hown]; exact findClass_of_methodNamed B.named
  rw [lg_entry_eq]
  have hb := body p e s m av.toArray below meth c ⟨⟨B.exec, B.bytes, hml, hfo, hts⟩, hK, fun _ h => h, Nat.zero_le _, Nat.zero_le _⟩ hX hnt B.notSynchronized
  exact hb s.heap [] _ hW va_S.rf (hlv ▸ gLv_ok hlen)
theorem gxc {Ex : String} {H : Heap} {locs : List Loc} {t : State} (hW : CW E σ π o H) (hS : va_S (gA E) s.heap H locs) (h1 : H.size ≤ t.heap.size) (h2 : ∀ q : Nat, q < H.size → t.heap[q]? = H[q]?) : gXC E Ex σ π o Ex s t :=
  ⟨(), trivial, ⟨rfl, hW.kept fun i j hv => h2 _ (hW.lt hv)⟩, ⟨Nat.le_trans hS.1 h1, fun q hq ha => by rw [h2 q (Nat.lt_of_lt_of_le hq hS.1)]; exact hS.2.1 q hq ha⟩⟩
theorem G.throwS (C : gCx p s m c cc nL RX3 Ts args E (gA E) R 0 0) (hX : gX E s) (hst : l.stackTraces = false) (hk : meth.locks = false) (hnt : ∀ x ∈ c.exceptionTable.toList, False) {pc : Nat} {lv : List (Option Value)} {st : List Value} {cls text : String} (names : List String) {ik is ic : Nat}
    (hin : ∀ w ∈ Cond.classLink RX3 ik cls :: Cond.initialized cls :: (vx_atS RX3 ic cls names).filter goodWord, w ∈ Ts) (hxb : ∀ w ∈ (vx_atS RX3 ic cls names).filter (fun w => !goodWord w), w ∈ xB) (hstr : (is, text) ∈ gStr) (hg : ∀ w ∈ Cond.classLink RX3 ik cls :: Cond.initialized cls :: vx_atS RX3 ic cls names, vx_ot w = true) (hfit : Bundle.fit cls = true ∧ ∀ n ∈ names, Bundle.fit n = true)
    (d0 : decode cc pc = .ok (.new ik, 3)) (d3 : decode cc (pc + 3) = .ok (.dup, 1)) (d4 : decode cc (pc + 4) = .ok (.ldc is, 2)) (d6 : decode cc (pc + 6) = .ok (.invokespecial ic, 3)) (d9 : decode cc (pc + 9) = .ok (.athrow, 1))
    (hR : names.length + 3 < R.frames ∧ (st.map fun v => v.category).sum + (13 * (names.length + 1) + 43) ≤ R.locals ∧ 1 ≤ R.cells ∧ 6 ≤ R.slots) : G p l e R s m args below meth c nL 0 0 (gA E) (gQX below args s cls E σ π o) E σ π o pc lv st := fun H locs ls hW hS hl => by
  obtain ⟨sa, hsa⟩ := hX.2.2.1 _ hstr
  exact vx_throwS (A := gA E) C.1.1 C.1.2.1 hst C.1.2.2.2.1 hfit.1 hfit.2 (C.1.2.2.2.2 _ (hin _ List.mem_cons_self)) (C.1.2.2.2.2 _ (hin _ (List.mem_cons_of_mem _ List.mem_cons_self))) hsa (vx_hat (fun w hw => C.1.2.2.2.2 w (hin w (List.mem_cons_of_mem _ (List.mem_cons_of_mem _ hw)))) hxb (fun w hw => va_Nw.use (xB_t w hw) (hX.2.2.2 w hw))) hg hX.1 hX.2.1 hS (by rw [C.1.2.2.1, hl.1]) d0 d3 d4 d6 d9 (fun x hx => (hnt x hx).elim) hR.1 hR.2.1 (by have := hR.2.2.1; omega) (by have := hR.2.2.2; omega) hk (fun t _ h1 h2 => gxc hW hS h1 h2) hS.2.2 (by omega) (by omega)
theorem G.throwSW (C : gCx p s m c cc nL RX3 Ts args E (gA E) R 0 0) (hX : gX E s) (hst : l.stackTraces = false) (hk : meth.locks = false) (hnt : ∀ x ∈ c.exceptionTable.toList, False) {pc : Nat} {lv : List (Option Value)} {st : List Value} {cls text : String} (names : List String) {ik is ic : Nat}
    (hin : ∀ w ∈ Cond.classLink RX3 ik cls :: Cond.initialized cls :: (vx_atS RX3 ic cls names).filter goodWord, w ∈ Ts) (hxb : ∀ w ∈ (vx_atS RX3 ic cls names).filter (fun w => !goodWord w), w ∈ xB) (hstr : (is, text) ∈ gStr) (hg : ∀ w ∈ Cond.classLink RX3 ik cls :: Cond.initialized cls :: vx_atS RX3 ic cls names, vx_ot w = true) (hfit : Bundle.fit cls = true ∧ ∀ n ∈ names, Bundle.fit n = true)
    (d0 : decode cc pc = .ok (.new ik, 3)) (d3 : decode cc (pc + 3) = .ok (.dup, 1)) (d4 : decode cc (pc + 4) = .ok (.ldc_w is, 3)) (d7 : decode cc (pc + 7) = .ok (.invokespecial ic, 3)) (d10 : decode cc (pc + 10) = .ok (.athrow, 1))
    (hR : names.length + 3 < R.frames ∧ (st.map fun v => v.category).sum + (13 * (names.length + 1) + 43) ≤ R.locals ∧ 1 ≤ R.cells ∧ 6 ≤ R.slots) : G p l e R s m args below meth c nL 0 0 (gA E) (gQX below args s cls E σ π o) E σ π o pc lv st := fun H locs ls hW hS hl => by
  obtain ⟨sa, hsa⟩ := hX.2.2.1 _ hstr
  exact vx_throwSW (A := gA E) C.1.1 C.1.2.1 hst C.1.2.2.2.1 hfit.1 hfit.2 (C.1.2.2.2.2 _ (hin _ List.mem_cons_self)) (C.1.2.2.2.2 _ (hin _ (List.mem_cons_of_mem _ List.mem_cons_self))) hsa (vx_hat (fun w hw => C.1.2.2.2.2 w (hin w (List.mem_cons_of_mem _ (List.mem_cons_of_mem _ hw)))) hxb (fun w hw => va_Nw.use (xB_t w hw) (hX.2.2.2 w hw))) hg hX.1 hX.2.1 hS (by rw [C.1.2.2.1, hl.1]) d0 d3 d4 d7 d10 (fun x hx => (hnt x hx).elim) hR.1 hR.2.1 (by have := hR.2.2.1; omega) (by have := hR.2.2.2; omega) hk (fun t _ h1 h2 => gxc hW hS h1 h2) hS.2.2 (by omega) (by omega)
end GX
def IOOB : String := "java/lang/IndexOutOfBoundsException"
def xNs : List String := ["java/lang/RuntimeException", "java/lang/Exception"]
theorem k_X3_needHole_x (l : Launch) {E : gEn} {σ : gSt} {π : Nat → Nat} {o : Int64} (hst : l.stackTraces = false) {x : Int32} (hx : hHole x = false) : CtX l yX3_needHole wsX3_needHole ({ frames := 6, cells := 1, slots := 6, locals := 90 } : Room) E [.int x] σ π o "java/lang/IndexOutOfBoundsException" σ π o := by
  refine CtX.of (cc := cX3_needHole) (own := RX3) (maxL := 1) (ret := none) [some (.int x)] (by decide) rfl rfl (Nat.le_of_ble_eq_true rfl) rfl ?_
  intro p e s m args below meth cd C hX hnt hlk
  refine G.ildn0 C dX3_needHole_0 ?_
  refine G.callSI1 C (k_X3_isHole l) (va_cwS 1 C.1.2.2.2.2 gX3_needHole_X3_isHole rfl rfl rfl (by decide +kernel) ⟨Nat.le_of_ble_eq_true rfl, Nat.le_of_ble_eq_true rfl⟩) (Nat.le_of_ble_eq_true rfl) dX3_needHole_1 ?_
  refine G.if_neB C 18 dX3_needHole_4 (by decide) (fun h => absurd h (by rw [hx]; decide)) (fun _ => ?_)
  exact G.throwSW C hX hst hlk hnt (text := "no such hole") ["java/lang/RuntimeException", "java/lang/Exception"] (by decide +kernel) (by decide +kernel) (by decide) (by decide +kernel) (by decide +kernel) dX3_needHole_7 dX3_needHole_10 dX3_needHole_11 dX3_needHole_14 dX3_needHole_17 ⟨by decide, by decide, by decide, by decide⟩
