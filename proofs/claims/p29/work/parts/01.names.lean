-- ===== PART A: goes FIRST, ahead of the names: the tables' words, and 'selects' of the private methods out of them =====
/-- a private method of a class that the tables say can be made, by its rows of tables_1 -/
def lw_okq (q : MethodName × Nat) : Prop := (q.1.cls ≠ "java/lang/invoke/MethodHandle" ∧ q.1.cls ≠ "java/lang/invoke/VarHandle") ∧ Cond.instantiable q.1.cls q.2 ∈ tables_1 ∧ Cond.privateMethod q.1 ∈ tables_1 ∧ Cond.instanceMethod q.1 ∈ tables_1
theorem lw_p0 : lw_okq (⟨"java/lang/Throwable", "fillInStackTrace", "(I)Ljava/lang/Throwable;"⟩, 6) := ⟨⟨by decide +kernel, by decide +kernel⟩, List.mem_of_getElem? (i := 190) (by decide +kernel), List.mem_of_getElem? (i := 188) (by decide +kernel), List.mem_of_getElem? (i := 189) (by decide +kernel)⟩
theorem lw_p1 : lw_okq (⟨"LateDoves", "save", "()V"⟩, 9) := ⟨⟨by decide +kernel, by decide +kernel⟩, List.mem_of_getElem? (i := 13) (by decide +kernel), List.mem_of_getElem? (i := 240) (by decide +kernel), List.mem_of_getElem? (i := 241) (by decide +kernel)⟩
theorem lw_p2 : lw_okq (⟨"LateDoves", "needDove", "(I)V"⟩, 9) := ⟨⟨by decide +kernel, by decide +kernel⟩, List.mem_of_getElem? (i := 13) (by decide +kernel), List.mem_of_getElem? (i := 312) (by decide +kernel), List.mem_of_getElem? (i := 313) (by decide +kernel)⟩
theorem lw_p3 : lw_okq (⟨"LateDoves", "tryHome", "(II)Z"⟩, 9) := ⟨⟨by decide +kernel, by decide +kernel⟩, List.mem_of_getElem? (i := 13) (by decide +kernel), List.mem_of_getElem? (i := 336) (by decide +kernel), List.mem_of_getElem? (i := 337) (by decide +kernel)⟩
theorem lw_p4 : lw_okq (⟨"LateDoves$Cote", "enterOwnHole", "(IZ)I"⟩, 10) := ⟨⟨by decide +kernel, by decide +kernel⟩, List.mem_of_getElem? (i := 21) (by decide +kernel), List.mem_of_getElem? (i := 349) (by decide +kernel), List.mem_of_getElem? (i := 350) (by decide +kernel)⟩
theorem lw_p5 : lw_okq (⟨"LateDoves$Cote", "shiftFrom", "(II)I"⟩, 10) := ⟨⟨by decide +kernel, by decide +kernel⟩, List.mem_of_getElem? (i := 21) (by decide +kernel), List.mem_of_getElem? (i := 354) (by decide +kernel), List.mem_of_getElem? (i := 355) (by decide +kernel)⟩
theorem lw_p6 : lw_okq (⟨"LateDoves$Cote", "sit", "(II)V"⟩, 10) := ⟨⟨by decide +kernel, by decide +kernel⟩, List.mem_of_getElem? (i := 21) (by decide +kernel), List.mem_of_getElem? (i := 358) (by decide +kernel), List.mem_of_getElem? (i := 359) (by decide +kernel)⟩
theorem lw_p7 : lw_okq (⟨"LateDoves$Cote", "settle", "(IZ)I"⟩, 10) := ⟨⟨by decide +kernel, by decide +kernel⟩, List.mem_of_getElem? (i := 21) (by decide +kernel), List.mem_of_getElem? (i := 366) (by decide +kernel), List.mem_of_getElem? (i := 367) (by decide +kernel)⟩
theorem lw_p8 : lw_okq (⟨"LateDoves$Cote", "firstFreeFor", "(I)I"⟩, 10) := ⟨⟨by decide +kernel, by decide +kernel⟩, List.mem_of_getElem? (i := 21) (by decide +kernel), List.mem_of_getElem? (i := 370) (by decide +kernel), List.mem_of_getElem? (i := 371) (by decide +kernel)⟩
theorem lw_p9 : lw_okq (⟨"LateDoves", "trialNumber", "(II)I"⟩, 9) := ⟨⟨by decide +kernel, by decide +kernel⟩, List.mem_of_getElem? (i := 13) (by decide +kernel), List.mem_of_getElem? (i := 378) (by decide +kernel), List.mem_of_getElem? (i := 379) (by decide +kernel)⟩
theorem lw_p10 : lw_okq (⟨"LateDoves", "sittingIfAllCame", "(I)I"⟩, 9) := ⟨⟨by decide +kernel, by decide +kernel⟩, List.mem_of_getElem? (i := 13) (by decide +kernel), List.mem_of_getElem? (i := 415) (by decide +kernel), List.mem_of_getElem? (i := 416) (by decide +kernel)⟩
theorem lw_p11 : lw_okq (⟨"LateDoves$Cote", "countAtDawn", "(I)V"⟩, 10) := ⟨⟨by decide +kernel, by decide +kernel⟩, List.mem_of_getElem? (i := 21) (by decide +kernel), List.mem_of_getElem? (i := 571) (by decide +kernel), List.mem_of_getElem? (i := 572) (by decide +kernel)⟩
def lw_privs_1 : List (MethodName × Nat) := [(⟨"java/lang/Throwable", "fillInStackTrace", "(I)Ljava/lang/Throwable;"⟩, 6), (⟨"LateDoves", "save", "()V"⟩, 9), (⟨"LateDoves", "needDove", "(I)V"⟩, 9), (⟨"LateDoves", "tryHome", "(II)Z"⟩, 9), (⟨"LateDoves$Cote", "enterOwnHole", "(IZ)I"⟩, 10), (⟨"LateDoves$Cote", "shiftFrom", "(II)I"⟩, 10), (⟨"LateDoves$Cote", "sit", "(II)V"⟩, 10), (⟨"LateDoves$Cote", "settle", "(IZ)I"⟩, 10), (⟨"LateDoves$Cote", "firstFreeFor", "(I)I"⟩, 10), (⟨"LateDoves", "trialNumber", "(II)I"⟩, 9), (⟨"LateDoves", "sittingIfAllCame", "(I)I"⟩, 9), (⟨"LateDoves$Cote", "countAtDawn", "(I)V"⟩, 10)]
theorem lw_r1 : ∀ q ∈ lw_privs_1, lw_okq q := List.forall_mem_cons.mpr ⟨lw_p0, List.forall_mem_cons.mpr ⟨lw_p1, List.forall_mem_cons.mpr ⟨lw_p2, List.forall_mem_cons.mpr ⟨lw_p3, List.forall_mem_cons.mpr ⟨lw_p4, List.forall_mem_cons.mpr ⟨lw_p5, List.forall_mem_cons.mpr ⟨lw_p6, List.forall_mem_cons.mpr ⟨lw_p7, List.forall_mem_cons.mpr ⟨lw_p8, List.forall_mem_cons.mpr ⟨lw_p9, List.forall_mem_cons.mpr ⟨lw_p10, List.forall_mem_cons.mpr ⟨lw_p11, fun _ h => absurd h List.not_mem_nil⟩⟩⟩⟩⟩⟩⟩⟩⟩⟩⟩⟩
def lw_privs : List (MethodName × Nat) := lw_privs_1
def lw_tbl : List Cond := k2_sels lw_privs ++ tables_1
theorem lw_privs_ok : ∀ q ∈ lw_privs, lw_okq q := lw_r1
/-- the streams that the claim lets the run draw from -/
abbrev lw_cs : List Choice := [Jvm.Choice.named "NaN.bits"]
theorem lw_bits : nanBits ∈ lw_cs := by first | decide | exact List.mem_cons_self | simp [lw_cs, nanBits]
theorem goodIn_r {big : List Cond} (ws : List Cond) (ps : List Nat) (hp : ws = ps.filterMap (fun i => big[i]?)) (h : ws.all goodWord = true) : GoodIn big ws := by
  intro w hw
  have h1 := List.all_eq_true.mp h w hw
  rw [hp] at hw
  obtain ⟨i, -, hi⟩ := List.mem_filterMap.mp hw
  have hm : w ∈ big := by first | exact List.mem_of_getElem? hi | exact List.getElem?_mem hi
  exact ⟨hm, good_of_word h1⟩
theorem goodIn_app {big a b : List Cond} (ha : GoodIn big a) (hb : GoodIn big b) : GoodIn big (a ++ b) := fun w h => (List.mem_append.mp h).elim (ha w) (hb w)
theorem goodIn_ca {big a b : List Cond} {c : Cond} (ha : GoodIn big (c :: a)) (hb : GoodIn big b) : GoodIn big (c :: (a ++ b)) := fun w h => (List.mem_cons.mp h).elim (fun e => ha w (List.mem_cons.mpr (Or.inl e))) (fun h => (List.mem_append.mp h).elim (fun h => ha w (List.mem_cons.mpr (Or.inr h))) (hb w))
theorem goodIn_sub {big ws : List Cond} (hm : ∀ w ∈ ws, w ∈ big) (h : ws.all goodWord = true) : GoodIn big ws := fun w hw => ⟨hm w hw, good_of_word (List.all_eq_true.mp h w hw)⟩



section VXA
/-! The laws vx_back, vx_callV, vx_callS, vx_callSW, vx_throw0, vx_throwS follow proofs of the library, with one case more: JvmDerived/Free/Laws.lean (Back.of_free), Shelf42/LK1.lean (callV, callS), Shelf/KitTraced.lean (throwNew0V, throwNewS). -/
/-- where a method has thrown q: the class by its name, the cell, what was written, the world -/
def vx_T (XC : String → State → State → Prop) (st : State) (q : Addr) (t : State) (mc ms : Nat) (free : Addr → Prop) : Prop :=
  ∃ (E : String) (ce : Cell) (L : List Loc), XC E st t ∧ t.heap[q]? = some ce ∧ ce.vm = .none ∧ st.vm.findClass E = some ce.cls ∧ st.WarmedH t.vm ∧ st.sameButNew ({ t with vm := st.vm } : State) L mc ms ∧ ∀ z ∈ L, free z.base
def vx_Q (Qc : Array Value → State → Outcome → State → Prop) (XC : String → State → State → Prop) (mc ms : Nat) (free : Addr → Prop) : Array Value → State → Outcome → State → Prop := fun a st o t =>
  (Qc a st o t ∧ ∃ L, FrameEnd st o t L mc ms ∧ ∀ q ∈ L, free q.base) ∨ ∃ q, o = .threw q ∧ vx_T XC st q t mc ms free
/-- a callee that returns or throws -/
def vx_Met (l : Launch) (y : MethodName) (ws : List Cond) (rm : Room) (Pc : Array Value → State → Prop) (Qc : Array Value → State → Outcome → State → Prop) (XC : String → State → State → Prop) (mc ms : Nat) (free : Addr → Prop) : Prop :=
  MetFree l y (headSpec ws rm) Pc (fun _ _ _ _ _ => True) (vx_Q Qc XC mc ms free)
def vx_Post (XC : String → State → State → Prop) (mc ms : Nat) (free : Addr → Prop) : Pt → Array Value → Addr → Pt → Prop := fun A a q B =>
  ∃ (g : JFrame) (mk : MethodId) (t : State) (L : List Loc) (E : String) (ce : Cell), B.U.heap = t.heap ∧ B.U.vm = t.vm ∧ XC E (A.U.calling g mk a) t ∧ t.heap[q]? = some ce ∧ ce.vm = .none ∧ A.U.vm.findClass E = some ce.cls ∧ B.locs = A.locs ++ L ∧ (∀ z ∈ L, free z.base) ∧ B.cells = A.cells + mc ∧ B.slots = A.slots + ms
def vx_Back (l : Launch) (R : Room) (p : Program) (e : Env) (below : List Frame) (s : State) (sargs : Array Value) (y : MethodName) (len W9 : Nat)
    (Pre : Pt → Array Value → Prop) (Post : Pt → Array Value → Option Value → Pt → Prop) (PostX : Pt → Array Value → Addr → Pt → Prop) : Prop :=
  ∀ (m : MethodId) (meth : Method) (c : Code) (A : Pt) (g : JFrame) (ig : Instr) (mk : MethodId) (a : Array Value),
    Stand p l e R s m sargs below meth c A.U A.locs A.cells A.slots → g.method = m → g.locals.size = c.maxLocals → decode c.code g.pc = .ok (ig, len) →
    2 * g.monitorRoom + (g.stack.map fun v => v.category).sum ≤ W9 → A.U.methodNamed? y = some mk → Pre A a →
    (∃ (v : Option Value) (B : Pt), Stand p l e R s m sargs below meth c B.U B.locs B.cells B.slots ∧ Post A a v B ∧
      Steps p.tables e below (doInvoke e (A.U.setTop g) [] mk a).1 (B.U.setTop { g with pc := g.pc + len, stack := v.toList ++ g.stack })) ∨
    (∃ (q : Addr) (B : Pt), Stand p l e R s m sargs below meth c B.U B.locs B.cells B.slots ∧ PostX A a q B ∧
      Steps p.tables e below (doInvoke e (A.U.setTop g) [] mk a).1 ((B.U.setTop g).pushFrame (.throwing q)))
section Payer
variable {l : Launch} {R : Room} {p : Program} {e : Env} {below : List Frame} {s : State} {sargs : Array Value} {y : MethodName} {len W9 : Nat}
theorem vx_back {ws : List Cond} {rm : Room} {Pc : Array Value → State → Prop} {Qc : Array Value → State → Outcome → State → Prop} {XC : String → State → State → Prop} {mc ms : Nat} {free : Addr → Prop} {bytes : ByteArray} {maxL : Nat} {ret : Option FieldType}
    (hM : vx_Met l y ws rm Pc Qc XC mc ms free) (hblind : FrameBlind Pc) (hrc : rm.cells = mc) (hrs : rm.slots = ms)
    (hframes : rm.frames + 1 ≤ R.frames) (hlocals : W9 + (maxL + 11) + rm.locals ≤ R.locals)
    (hws : ∀ w ∈ ws, ∀ a' U, s.WarmedH U.vm → w.before a' U = true) (hcode : Cond.code y bytes maxL ret ∈ ws) (hinit : ∀ a' U, s.WarmedH U.vm → (Cond.initialized y.cls).before a' U = true) :
    vx_Back l R p e below s sargs y len W9 (PreOf R mc ms Pc) (PostOf Qc mc ms free) (vx_Post XC mc ms free) := by
  intro m meth c A g ig mk a X hg hsize hdg hW hn hp
  have h1 : (headSpec ws rm).pre.before a A.U = true := atoms_intro fun w hw => hws w hw _ _ X.warmed
  have h2 : (Cond.code y bytes maxL ret).before a A.U = true := hws _ hcode _ _ X.warmed
  have h3 : (Cond.initialized y.cls).before a A.U = true := hinit _ _ X.warmed
  have h4 : A.cells + (headSpec ws rm).room.cells ≤ R.cells := by rw [show (headSpec ws rm).room.cells = mc from hrc]; exact hp.1
  have h5 : A.slots + (headSpec ws rm).room.slots ≤ R.slots := by rw [show (headSpec ws rm).room.slots = ms from hrs]; exact hp.2.1
  have hPc : Pc a (A.U.calling g mk a) := hblind _ _ _ _ hp.2.2
  obtain ⟨U, Ls, c0, s0⟩ := A
  dsimp only [Pt.U, Pt.locs, Pt.cells, Pt.slots] at h1 h2 h3 h4 h5 X hn hPc ⊢
  obtain ⟨methY, cY, hmY, hcY, -, hlY, -, -, -, -⟩ := Cond.code_spec hn h2
  obtain ⟨kY, hkY, -⟩ := className_of_methodNamed hn
  have hinitY : kY.init = .initialized := Cond.initialized_spec (findClass_of_methodNamed hn) hkY h3
  have h : At U g.method c below := by rw [hg]; exact X.here
  have hlocals9 : W9 + (maxL + 11) + (headSpec ws rm).room.locals ≤ R.locals := hlocals
  have happ : (headSpec ws rm).appliesLoose y e.platform (U.calling g mk a) = true :=
    Spec.appliesLoose_calling (g := g) h hdg hn hkY hinitY
      (X.room_calling (g := g) (R' := (headSpec ws rm).room) hsize hmY hcY hframes (by rw [hlY]; omega) h4 h5) h1
  obtain ⟨mid, hmid⟩ := h.above
  have hfr : (U.setTop g).frames = (.java g :: mid) ++ below := by rw [State.frames_setTop' g h.top, hmid]; rfl
  obtain ⟨o, s₂, hsteps, -, hend, hq⟩ := Steps.callFree hM p X.admits X.cas X.clock (acts := []) hfr happ hPc trivial
  have hq' : vx_Q Qc XC mc ms free a (U.calling g mk a) o s₂ := hq
  rw [State.frames_setTop' g h.top] at hend
  obtain ⟨g₀, hg0⟩ := Option.isSome_iff_exists.mp h.top
  obtain ⟨r, hr⟩ := State.topJava?_eq_some.mp hg0
  have hr' : (({ U with heap := s₂.heap, slotsUsed := s₂.slotsUsed } : State).setVm s₂.vm).frames = .java g₀ :: r := hr
  rcases hq' with ⟨hqc, L, hfe, hL⟩ | ⟨q, rfl, E, ce, L, hx, hce, hcv, hcl, hW₂, hsm, hL⟩
  · obtain ⟨⟨v, rfl⟩, hW₂, e2, q2, q3, q4, q5, q6⟩ := id hfe
    have e3 : s₂ = ({ (U.calling g mk a).setFrames s₂.frames with heap := s₂.heap, slotsUsed := s₂.slotsUsed } : State).setVm s₂.vm := by
      have : s₂ = ({ s₂ with vm := (U.calling g mk a).vm } : State).setVm s₂.vm := rfl
      rw [e2] at this
      exact this
    obtain ⟨c₂, i₂, len₂, hc₂, hd₂, hf₂⟩ := hend
    have hW' : U.WarmedH s₂.vm := hW₂
    have hcc : c₂ = c := by
      have h1 : s₂.code? g.method = U.code? g.method := by
        rw [State.code?_eq, State.code?_eq, hW'.alike.method?]
      exact Option.some.inj (hc₂.symm.trans (h1.trans h.code))
    subst hcc
    have hlen : len₂ = len := by rw [hdg] at hd₂; cases hd₂; rfl
    subst hlen
    have hs₂ : s₂ = (({ U with heap := s₂.heap, slotsUsed := s₂.slotsUsed } : State).setVm s₂.vm).setTop { g with pc := g.pc + len₂, stack := v.toList ++ g.stack } := by
      refine e3.trans ?_
      rw [hf₂, State.calling_eq h.top, State.setFrames_setFrames, State.setTop_of_frames _ hr', hr]
      rfl
    have hsame : U.sameButNew ({ U with heap := s₂.heap, slotsUsed := s₂.slotsUsed } : State) L mc ms := by
      refine ⟨?_, q2, q3, q4, q5, q6⟩
      obtain ⟨t, ht, -⟩ := State.frames_cons hr
      show ({ U with heap := s₂.heap, slotsUsed := s₂.slotsUsed } : State) = { U.setFrames U.frames with heap := s₂.heap, slotsUsed := s₂.slotsUsed }
      rw [State.setFrames_self ht]
    subst hg
    refine Or.inl ⟨v, ⟨(({ U with heap := s₂.heap, slotsUsed := s₂.slotsUsed } : State).setVm s₂.vm), Ls ++ L, c0 + mc, s0 + ms⟩,
      ⟨X.admits, X.cas, X.clock, X.frames, X.room, X.hears, X.method, X.code, (X.here.setHeapUsed s₂.heap s₂.slotsUsed).setVm hW'.alike, X.tail, State.WarmedH.trans X.warmed hW', X.limits, X.bytes, X.same.trans (hsame.setVm s.vm)⟩,
      ⟨g, mk, s₂, L, rfl, rfl, hqc, rfl, hL, rfl, rfl⟩, ?_⟩
    show Steps p.tables e below _ ((({ U with heap := s₂.heap, slotsUsed := s₂.slotsUsed } : State).setVm s₂.vm).setTop { g with pc := g.pc + len₂, stack := v.toList ++ g.stack })
    rw [← hs₂]
    exact hsteps
  · obtain ⟨e2, q2, q3, q4, q5, q6⟩ := id hsm
    have e3 : s₂ = ({ (U.calling g mk a).setFrames s₂.frames with heap := s₂.heap, slotsUsed := s₂.slotsUsed } : State).setVm s₂.vm := by
      have : s₂ = ({ s₂ with vm := (U.calling g mk a).vm } : State).setVm s₂.vm := rfl
      rw [e2] at this
      exact this
    have hf₂ : s₂.frames = .throwing q :: .java g :: U.frames.tail := hend
    have hW' : U.WarmedH s₂.vm := hW₂
    have hs₂ : s₂ = ((({ U with heap := s₂.heap, slotsUsed := s₂.slotsUsed } : State).setVm s₂.vm).setTop g).pushFrame (.throwing q) := by
      refine e3.trans ?_
      rw [hf₂, State.calling_eq h.top, State.setFrames_setFrames, State.pushFrame, State.frames_setTop _ hr', State.setTop_of_frames _ hr', State.setFrames_setFrames, hr]
      rfl
    have hsame : U.sameButNew ({ U with heap := s₂.heap, slotsUsed := s₂.slotsUsed } : State) L mc ms := by
      refine ⟨?_, q2, q3, q4, q5, q6⟩
      obtain ⟨t, ht, -⟩ := State.frames_cons hr
      show ({ U with heap := s₂.heap, slotsUsed := s₂.slotsUsed } : State) = { U.setFrames U.frames with heap := s₂.heap, slotsUsed := s₂.slotsUsed }
      rw [State.setFrames_self ht]
    subst hg
    refine Or.inr ⟨q, ⟨(({ U with heap := s₂.heap, slotsUsed := s₂.slotsUsed } : State).setVm s₂.vm), Ls ++ L, c0 + mc, s0 + ms⟩,
      ⟨X.admits, X.cas, X.clock, X.frames, X.room, X.hears, X.method, X.code, (X.here.setHeapUsed s₂.heap s₂.slotsUsed).setVm hW'.alike, X.tail, State.WarmedH.trans X.warmed hW', X.limits, X.bytes, X.same.trans (hsame.setVm s.vm)⟩,
      ⟨g, mk, s₂, L, E, ce, rfl, rfl, hx, hce, hcv, hcl, rfl, hL, rfl, rfl⟩, ?_⟩
    show Steps p.tables e below _ (((({ U with heap := s₂.heap, slotsUsed := s₂.slotsUsed } : State).setVm s₂.vm).setTop g).pushFrame (.throwing q))
    rw [← hs₂]
    exact hsteps
end Payer
section Calls
variable {p : Program} {l : Launch} {e : Env} {R : Room} {s : State} {m : MethodId} {args : Array Value} {below : List Frame} {meth : Method} {c : Code} {T : State} {locs : List Loc} {cells slots : Nat}
theorem vx_callV (X : Stand p l e R s m args below meth c T locs cells slots) (hexec : p.tables.exec = Jvm.exec) {own C : String} {index : Nat} {y : MethodName} {bytes : ByteArray} {maxL : Nat} {ret : Option FieldType}
    (hown : s.vm.findClass own = some m.cls) (hlink : (Cond.methodLink own index y).before args s = true) (hinst : (Cond.instanceMethod y).before args s = true) (hsel : (Cond.selects C y y).before args s = true)
    (hcode : (Cond.code y bytes maxL ret).before args s = true) (hy : y.cls ≠ "java/lang/invoke/MethodHandle" ∧ y.cls ≠ "java/lang/invoke/VarHandle")
    {W9 : Nat} {Pre : Pt → Array Value → Prop} {Post : Pt → Array Value → Option Value → Pt → Prop} {PostX : Pt → Array Value → Addr → Pt → Prop} (hK : vx_Back l R p e below s args y 3 W9 Pre Post PostX)
    {b : Addr} {cellB : Cell} (hcell : T.heap[b]? = some cellB) (hobj : cellB.vm.isStatics = false) (hcls : s.vm.findClass C = some cellB.cls)
    {g : JFrame} (hg : g.method = m) (hsize : g.locals.size = c.maxLocals) {argsL rest : List Value} (hlen : ∀ sig, parseMethodDescriptor y.desc = some sig → argsL.length = sig.parameters.length)
    (hstack : g.stack = argsL.reverse ++ .ref b :: rest) (hW : 2 * g.monitorRoom + (rest.map fun v => v.category).sum ≤ W9) (hdg : decode c.code g.pc = .ok (.invokevirtual index, 3))
    (hpre : ∀ vm₁, s.WarmedH vm₁ → Pre ⟨T.setVm vm₁, locs, cells, slots⟩ (Value.ref b :: argsL).toArray) :
    (∃ (v : Option Value) (vm₁ : Vm) (B : Pt), s.WarmedH vm₁ ∧ Stand p l e R s m args below meth c B.U B.locs B.cells B.slots ∧ Post ⟨T.setVm vm₁, locs, cells, slots⟩ (Value.ref b :: argsL).toArray v B ∧
      ∀ target, Steps p.tables e below (B.U.setTop { g with pc := g.pc + 3, stack := v.toList ++ rest }) target → Steps p.tables e below (T.setTop g) target) ∨
    (∃ (q : Addr) (vm₁ : Vm) (B : Pt), s.WarmedH vm₁ ∧ Stand p l e R s m args below meth c B.U B.locs B.cells B.slots ∧ PostX ⟨T.setVm vm₁, locs, cells, slots⟩ (Value.ref b :: argsL).toArray q B ∧
      Steps p.tables e below (T.setTop g) ((B.U.setTop { g with stack := rest }).pushFrame (.throwing q))) := by
  obtain ⟨mk, methM, hnamed, hmethM, hstM, habM⟩ := Cond.instanceMethod_spec hinst
  obtain ⟨methM', cM, hmethM', -, -, -, -, -, -, hsigM⟩ := Cond.code_spec hnamed hcode
  cases hmethM.symm.trans hmethM'
  obtain ⟨c2, r2, m2, q1, q2, q3, q4, kP, hkP, hkPi⟩ := Cond.selects_spec hsel
  cases hcls.symm.trans q1
  cases (State.methodFound?_of_named hnamed hy).symm.trans q2
  cases hnamed.symm.trans q3
  have hselP : selectMethod e.platform s.vm cellB.cls mk = .method mk := by rw [Launch.admits_selectMethod X.admits]; exact q4
  obtain ⟨vm₁, X₁, hstep₁⟩ := X.invokevirtual hexec hown hlink hnamed hmethM hstM hkP hkPi hy (a := b) (cell := cellB) hcell
    (fun z h => by rw [h] at hobj; cases hobj) hselP hmethM habM hkP hkPi (g := g) hg (argsL := argsL) (rest := rest) (hlen _ hsigM) hstack hdg
  rcases hK m meth c ⟨T.setVm vm₁, locs, cells, slots⟩ { g with stack := rest } (.invokevirtual index) mk (Value.ref b :: argsL).toArray X₁ hg hsize hdg hW (X₁.named hnamed) (hpre vm₁ X₁.warmed) with ⟨v, B, X', hpost, hsteps⟩ | ⟨q, B, X', hpost, hsteps⟩
  · exact Or.inl ⟨v, vm₁, B, X₁.warmed, X', hpost, fun target h => hstep₁ _ fun acts => by rw [doInvoke_state]; exact hsteps.trans h⟩
  · exact Or.inr ⟨q, vm₁, B, X₁.warmed, X', hpost, hstep₁ _ fun acts => by rw [doInvoke_state]; exact hsteps⟩
theorem vx_callS (X : Stand p l e R s m args below meth c T locs cells slots) (hexec : p.tables.exec = Jvm.exec) {own : String} {index : Nat} {y : MethodName} {bytes : ByteArray} {maxL : Nat} {ret : Option FieldType}
    (hown : s.vm.findClass own = some m.cls) (hlink : (Cond.methodLink own index y).before args s = true) (hstat : (Cond.static y).before args s = true) (hinit : (Cond.initialized y.cls).before args s = true)
    (hcode : (Cond.code y bytes maxL ret).before args s = true) (hy : y.cls ≠ "java/lang/invoke/MethodHandle" ∧ y.cls ≠ "java/lang/invoke/VarHandle")
    {W9 : Nat} {Pre : Pt → Array Value → Prop} {Post : Pt → Array Value → Option Value → Pt → Prop} {PostX : Pt → Array Value → Addr → Pt → Prop} (hK : vx_Back l R p e below s args y 3 W9 Pre Post PostX)
    {g : JFrame} (hg : g.method = m) (hsize : g.locals.size = c.maxLocals) {argsL rest : List Value} (hlen : ∀ sig, parseMethodDescriptor y.desc = some sig → argsL.length = sig.parameters.length)
    (hstack : g.stack = argsL.reverse ++ rest) (hW : 2 * g.monitorRoom + (rest.map fun v => v.category).sum ≤ W9) (hdg : decode c.code g.pc = .ok (.invokestatic index, 3))
    (hpre : ∀ vm₁, s.WarmedH vm₁ → Pre ⟨T.setVm vm₁, locs, cells, slots⟩ argsL.toArray) :
    (∃ (v : Option Value) (vm₁ : Vm) (B : Pt), s.WarmedH vm₁ ∧ Stand p l e R s m args below meth c B.U B.locs B.cells B.slots ∧ Post ⟨T.setVm vm₁, locs, cells, slots⟩ argsL.toArray v B ∧
      ∀ target, Steps p.tables e below (B.U.setTop { g with pc := g.pc + 3, stack := v.toList ++ rest }) target → Steps p.tables e below (T.setTop g) target) ∨
    (∃ (q : Addr) (vm₁ : Vm) (B : Pt), s.WarmedH vm₁ ∧ Stand p l e R s m args below meth c B.U B.locs B.cells B.slots ∧ PostX ⟨T.setVm vm₁, locs, cells, slots⟩ argsL.toArray q B ∧
      Steps p.tables e below (T.setTop g) ((B.U.setTop { g with stack := rest }).pushFrame (.throwing q))) := by
  obtain ⟨mk, hnamed⟩ := Cond.code_named hcode
  obtain ⟨methM, cM, hmethM, -, -, -, -, -, -, hsigM⟩ := Cond.code_spec hnamed hcode
  have hstatic : methM.isStatic = true := Cond.static_spec hnamed hmethM hstat
  obtain ⟨kP, hkP, -⟩ := className_of_methodNamed hnamed
  have hinitP : kP.init = .initialized := Cond.initialized_spec (findClass_of_methodNamed hnamed) hkP hinit
  obtain ⟨vm₁, X₁, hstep₁⟩ := X.invokestatic hexec hown hlink hnamed hmethM hstatic hkP hinitP hy (g := g) hg (argsL := argsL) (rest := rest) (hlen _ hsigM) hstack hdg
  rcases hK m meth c ⟨T.setVm vm₁, locs, cells, slots⟩ { g with stack := rest } (.invokestatic index) mk argsL.toArray X₁ hg hsize hdg hW (X₁.named hnamed) (hpre vm₁ X₁.warmed) with ⟨v, B, X', hpost, hsteps⟩ | ⟨q, B, X', hpost, hsteps⟩
  · exact Or.inl ⟨v, vm₁, B, X₁.warmed, X', hpost, fun target h => hstep₁ _ fun acts => by rw [doInvoke_state]; exact hsteps.trans h⟩
  · exact Or.inr ⟨q, vm₁, B, X₁.warmed, X', hpost, hstep₁ _ fun acts => by rw [doInvoke_state]; exact hsteps⟩
end Calls
theorem vx_cls {s : State} {T : State} {vm₁ : Vm} {E : String} {k : ClassId} (hW : s.WarmedH vm₁) (h : (T.setVm vm₁).vm.findClass E = some k) : s.vm.findClass E = some k := by
  have h1 : vm₁.findClass E = some k := h
  rw [hW.alike.findClass] at h1
  exact h1
/-- the method's frame g, with q thrown over it -/
def vx_W (p : Program) (l : Launch) (e : Env) (R : Room) (s : State) (m : MethodId) (args : Array Value) (below : List Frame) (meth : Method) (c : Code) (H : Heap) (locs : List Loc) (cells slots : Nat) (Q : State → Prop) (g : JFrame) (q : Addr) : Prop :=
  ∀ T : State, T.heap = H → Stand p l e R s m args below meth c T locs cells slots → ∃ t, Steps p.tables e below ((T.setTop g).pushFrame (.throwing q)) t ∧ Q t
def vx_Run (p : Program) (l : Launch) (e : Env) (R : Room) (s : State) (m : MethodId) (args : Array Value) (below : List Frame) (meth : Method) (c : Code) (H : Heap) (locs : List Loc) (cells slots mc ms : Nat) (g : JFrame) (rest : List Value) (Qa : State → Outcome → State → Prop) (XC : String → State → State → Prop) (free : Addr → Prop) : Prop :=
  ∀ T : State, T.heap = H → Stand p l e R s m args below meth c T locs cells slots →
    (∃ (v : Option Value) (st₀ t T' : State) (L : List Loc), st₀.heap = H ∧ Stand p l e R s m args below meth c T' (locs ++ L) (cells + mc) (slots + ms) ∧ (∀ q ∈ L, free q.base) ∧ T'.heap = t.heap ∧ T'.vm = t.vm ∧ Qa st₀ (.returned v) t ∧
      Goes p e below T g T' { g with pc := g.pc + 3, stack := v.toList ++ rest }) ∨
    (∃ (q : Addr) (st₀ t T' : State) (L : List Loc) (E : String) (ce : Cell), st₀.heap = H ∧ Stand p l e R s m args below meth c T' (locs ++ L) (cells + mc) (slots + ms) ∧ (∀ z ∈ L, free z.base) ∧ T'.heap = t.heap ∧ T'.vm = t.vm ∧ XC E st₀ t ∧ t.heap[q]? = some ce ∧ ce.vm = .none ∧ s.vm.findClass E = some ce.cls ∧
      Steps p.tables e below (T.setTop g) ((T'.setTop { g with stack := rest }).pushFrame (.throwing q)))
def vx_X {S : Type} (px : S → Prop) (B : String → S → State → Prop) (A : Nat → Prop) : String → State → State → Prop := fun E st t => ∃ u : S, px u ∧ B E u t ∧ va_F A st t
section Runs
variable {p : Program} {l : Launch} {e : Env} {R : Room} {s : State} {m : MethodId} {args : Array Value} {below : List Frame} {meth : Method} {c : Code} {H : Heap} {locs : List Loc} {cells slots : Nat}
variable {y : MethodName} {bytes cc : ByteArray} {maxL nL mc ms n index : Nat} {ret : Option FieldType} {ws : List Cond} {rm : Room} {Pc : Array Value → State → Prop} {Qc : Array Value → State → Outcome → State → Prop} {XC : String → State → State → Prop} {free : Addr → Prop} {Ts : List Cond} {own C : String} {b : Addr} {As rest : List Value} {g : JFrame}
theorem vx_callBack (cb : CallB R s args own index y bytes maxL ret ws rm mc ms n) (hM : vx_Met l y ws rm Pc Qc XC mc ms free) (hbl : FrameBlind Pc) : vx_Back l R p e below s args y 3 8 (PreOf R mc ms Pc) (PostOf Qc mc ms free) (vx_Post XC mc ms free) := by
  obtain ⟨hrc, hrs, hfr, hlo, hws, hcw, -, hini, -⟩ := cb
  exact vx_back (bytes := bytes) (maxL := maxL) (ret := ret) hM hbl hrc hrs hfr hlo hws hcw (fun a' U hW => word_at hW (Or.inl (by first | rfl | simp [Cond.onTables, Cond.keeps, Cond.steady])) hini)
theorem vx_runV (S : CallFix p m c cc nL s args Ts own) (hM : vx_Met l y ws rm Pc Qc XC mc ms free) (cw : CallW R s args own C index y bytes maxL ret ws rm mc ms n) (hp : PreV s H C b Pc As)
    (hg : g.method = m) (hn : As.length = n) (hsize : g.locals.size = nL) (hstack : g.stack = As.reverse ++ .ref b :: rest) (hW : 2 * g.monitorRoom + (rest.map fun v => v.category).sum ≤ 8) (hdg : decode cc g.pc = .ok (.invokevirtual index, 3)) (hf : cells + mc ≤ R.cells ∧ slots + ms ≤ R.slots) :
    vx_Run p l e R s m args below meth c H locs cells slots mc ms g rest (Qc (Value.ref b :: As).toArray) XC free := by
  have hK : vx_Back l R p e below s args y 3 8 (PreOf R mc ms Pc) (PostOf Qc mc ms free) (vx_Post XC mc ms free) := vx_callBack cw.1 hM hp.1
  obtain ⟨⟨-, -, -, -, -, -, hcode, -, hy, hlen, hl⟩, hin, hse⟩ := cw
  obtain ⟨hx, hb, hml, ho, -⟩ := S
  obtain ⟨-, ⟨cellB, hcB, hoB, hclB⟩, hPc⟩ := hp
  intro T hT X
  rcases vx_callV X hx (C := C) (bytes := bytes) (maxL := maxL) (ret := ret) ho hl hin hse hcode hy hK (by rw [hT]; exact hcB) hoB hclB hg (hsize.trans hml.symm) (argsL := As) (rest := rest) (fun sig h => hn.trans (hlen sig h)) hstack hW (by rw [hb]; exact hdg)
    (fun vm₁ hW₁ => ⟨hf.1, hf.2, hPc (T.setVm vm₁) hT hW₁⟩) with ⟨v, vm₁, ⟨U', l2, c2, s2⟩, hW₁, X', ⟨g', mk, t, L, e1, e2, hq, h1, hL, h2, h3⟩, st⟩ | ⟨q, vm₁, ⟨U', l2, c2, s2⟩, hW₁, X', ⟨g', mk, t, L, E, ce, e1, e2, hq, hce, hcv, hcl, h1, hL, h2, h3⟩, st⟩
  · dsimp only [Pt.U, Pt.locs, Pt.cells, Pt.slots] at X' e1 e2 h1 h2 h3 st
    subst h1; subst h2; subst h3
    exact Or.inl ⟨v, (T.setVm vm₁).calling g' mk (Value.ref b :: As).toArray, t, U', L, hT, X', hL, e1, e2, hq, st⟩
  · dsimp only [Pt.U, Pt.locs, Pt.cells, Pt.slots] at X' e1 e2 h1 h2 h3 st hcl
    subst h1; subst h2; subst h3
    exact Or.inr ⟨q, (T.setVm vm₁).calling g' mk (Value.ref b :: As).toArray, t, U', L, E, ce, hT, X', hL, e1, e2, hq, hce, hcv, vx_cls hW₁ hcl, st⟩
theorem vx_runS (S : CallFix p m c cc nL s args Ts own) (hM : vx_Met l y ws rm Pc Qc XC mc ms free) (cw : CallB R s args own index y bytes maxL ret ws rm mc ms n ∧ (Cond.static y).before args s = true) (hp : PreS s H Pc As)
    (hg : g.method = m) (hn : As.length = n) (hsize : g.locals.size = nL) (hstack : g.stack = As.reverse ++ rest) (hW : 2 * g.monitorRoom + (rest.map fun v => v.category).sum ≤ 8) (hdg : decode cc g.pc = .ok (.invokestatic index, 3)) (hf : cells + mc ≤ R.cells ∧ slots + ms ≤ R.slots) :
    vx_Run p l e R s m args below meth c H locs cells slots mc ms g rest (Qc As.toArray) XC free := by
  have hK : vx_Back l R p e below s args y 3 8 (PreOf R mc ms Pc) (PostOf Qc mc ms free) (vx_Post XC mc ms free) := vx_callBack cw.1 hM hp.1
  obtain ⟨⟨-, -, -, -, -, -, hcode, hini, hy, hlen, hl⟩, hstt⟩ := cw
  obtain ⟨hx, hb, hml, ho, -⟩ := S
  intro T hT X
  rcases vx_callS X hx (bytes := bytes) (maxL := maxL) (ret := ret) ho hl hstt hini hcode hy hK hg (hsize.trans hml.symm) (argsL := As) (rest := rest) (fun sig h => hn.trans (hlen sig h)) hstack hW (by rw [hb]; exact hdg)
    (fun vm₁ hW₁ => ⟨hf.1, hf.2, hp.2 (T.setVm vm₁) hT hW₁⟩) with ⟨v, vm₁, ⟨U', l2, c2, s2⟩, hW₁, X', ⟨g', mk, t, L, e1, e2, hq, h1, hL, h2, h3⟩, st⟩ | ⟨q, vm₁, ⟨U', l2, c2, s2⟩, hW₁, X', ⟨g', mk, t, L, E, ce, e1, e2, hq, hce, hcv, hcl, h1, hL, h2, h3⟩, st⟩
  · dsimp only [Pt.U, Pt.locs, Pt.cells, Pt.slots] at X' e1 e2 h1 h2 h3 st
    subst h1; subst h2; subst h3
    exact Or.inl ⟨v, (T.setVm vm₁).calling g' mk As.toArray, t, U', L, hT, X', hL, e1, e2, hq, st⟩
  · dsimp only [Pt.U, Pt.locs, Pt.cells, Pt.slots] at X' e1 e2 h1 h2 h3 st hcl
    subst h1; subst h2; subst h3
    exact Or.inr ⟨q, (T.setVm vm₁).calling g' mk As.toArray, t, U', L, E, ce, hT, X', hL, e1, e2, hq, hce, hcv, vx_cls hW₁ hcl, st⟩
end Runs
section Rows
variable {p : Program} {l : Launch} {e : Env} {R : Room} {s : State} {m : MethodId} {args : Array Value} {below : List Frame} {meth : Method} {c : Code} {H : Heap} {locs : List Loc} {cells slots : Nat} {Q : State → Prop}
variable {mc ms : Nat} {free : Addr → Prop} {A0 A1 : Nat → Prop} {H0 : Heap} {a : Array Value} {pc : Nat} {ls : Array Slot} {st0 rest : List Value}
theorem vx_keep {st₀ t T' : State} {L : List Loc} (h0 : st₀.heap = H) (e1 : T'.heap = t.heap) (hS : va_S A0 H0 H locs) (hA : ∀ q, q < H.size → A1 q → A0 q) (hf : ∀ q, free q → A0 q) (hL : ∀ q ∈ L, free q.base) (hF : va_F A1 st₀ t) :
    H.size ≤ T'.heap.size ∧ (∀ q : Nat, q < H.size → ¬ A1 q → T'.heap[q]? = H[q]?) ∧ va_S A0 H0 T'.heap (locs ++ L) := by
  obtain ⟨hz, hk⟩ := hF
  rw [h0] at hz hk
  exact ⟨by rw [e1]; exact hz, fun q h1 h2 => by rw [e1]; exact hk q h1 h2,
    ⟨Nat.le_trans hS.1 (by rw [e1]; exact hz), fun q h1 h2 => by rw [e1, hk q (Nat.lt_of_lt_of_le h1 hS.1) (fun z => h2 (hA q (Nat.lt_of_lt_of_le h1 hS.1) z))]; exact hS.2.1 q h1 h2, fun q hq => by
      rcases List.mem_append.mp hq with h | h
      · exact hS.2.2 q h
      · exact hf _ (hL q h)⟩⟩
theorem vx_calli {S SX : Type} {post : Int32 → S → Prop} {px : SX → Prop} {B : S → State → Prop} {BX : String → SX → State → Prop} {AX : Nat → Prop} (hr : vx_Run p l e R s m args below meth c H locs cells slots mc ms (F0 m pc ls st0) rest (va_Qi post B A1 a) (vx_X px BX AX) free) (hS : va_S A0 H0 H locs) (hA : ∀ q, q < H.size → A1 q → A0 q) (hf : ∀ q, free q → A0 q) (hAX : ∀ q, q < H.size → AX q → A0 q)
    (kx : ∀ (E : String) (ce : Cell) (q9 : Addr) (u : SX) (t : State) (H1 : Heap) (locs1 : List Loc), t.heap = H1 → s.vm.Alike t.vm → px u → BX E u t → H.size ≤ H1.size → (∀ q : Nat, q < H.size → ¬ AX q → H1[q]? = H[q]?) → va_S A0 H0 H1 locs1 → H1[q9]? = some ce → ce.vm = .none → s.vm.findClass E = some ce.cls → vx_W p l e R s m args below meth c H1 locs1 (cells + mc) (slots + ms) Q (F0 m pc ls rest) q9)
    (kk : ∀ (r : Int32) (u : S) (t : State) (H1 : Heap) (locs1 : List Loc), t.heap = H1 → s.vm.Alike t.vm → post r u → B u t → H.size ≤ H1.size → (∀ q : Nat, q < H.size → ¬ A1 q → H1[q]? = H[q]?) → va_S A0 H0 H1 locs1 → W p l e R s m args below meth c H1 locs1 (cells + mc) (slots + ms) Q (F0 m (pc + 3) ls (.int r :: rest))) : W p l e R s m args below meth c H locs cells slots Q (F0 m pc ls st0) := by
  intro T hT X
  rcases hr T hT X with ⟨v, st₀, t, T', L, h0, X', hL, e1, e2, ⟨⟨r, u, hv, hp, hb⟩, hF⟩, st⟩ | ⟨q, st₀, t, T', L, E, ce, h0, X', hL, e1, e2, ⟨u, hp, hb, hF⟩, hce, hcv, hcl, st⟩
  · cases hv
    obtain ⟨k1, k2, k3⟩ := vx_keep h0 e1 hS hA hf hL hF
    obtain ⟨t2, a1, b1⟩ := kk r u t T'.heap (locs ++ L) e1.symm (by rw [← e2]; exact X'.warmed.alike) hp hb k1 k2 k3 T' rfl X'
    exact ⟨t2, st t2 a1, b1⟩
  · obtain ⟨k1, k2, k3⟩ := vx_keep h0 e1 hS hAX hf hL hF
    obtain ⟨t2, a1, b1⟩ := kx E ce q u t T'.heap (locs ++ L) e1.symm (by rw [← e2]; exact X'.warmed.alike) hp hb k1 k2 k3 (by rw [e1]; exact hce) hcv hcl T' rfl X'
    exact ⟨t2, st.trans a1, b1⟩
theorem vx_calll {S SX : Type} {post : Int64 → S → Prop} {px : SX → Prop} {B : S → State → Prop} {BX : String → SX → State → Prop} {AX : Nat → Prop} (hr : vx_Run p l e R s m args below meth c H locs cells slots mc ms (F0 m pc ls st0) rest (va_Ql post B A1 a) (vx_X px BX AX) free) (hS : va_S A0 H0 H locs) (hA : ∀ q, q < H.size → A1 q → A0 q) (hf : ∀ q, free q → A0 q) (hAX : ∀ q, q < H.size → AX q → A0 q)
    (kx : ∀ (E : String) (ce : Cell) (q9 : Addr) (u : SX) (t : State) (H1 : Heap) (locs1 : List Loc), t.heap = H1 → s.vm.Alike t.vm → px u → BX E u t → H.size ≤ H1.size → (∀ q : Nat, q < H.size → ¬ AX q → H1[q]? = H[q]?) → va_S A0 H0 H1 locs1 → H1[q9]? = some ce → ce.vm = .none → s.vm.findClass E = some ce.cls → vx_W p l e R s m args below meth c H1 locs1 (cells + mc) (slots + ms) Q (F0 m pc ls rest) q9)
    (kk : ∀ (r : Int64) (u : S) (t : State) (H1 : Heap) (locs1 : List Loc), t.heap = H1 → s.vm.Alike t.vm → post r u → B u t → H.size ≤ H1.size → (∀ q : Nat, q < H.size → ¬ A1 q → H1[q]? = H[q]?) → va_S A0 H0 H1 locs1 → W p l e R s m args below meth c H1 locs1 (cells + mc) (slots + ms) Q (F0 m (pc + 3) ls (.long r :: rest))) : W p l e R s m args below meth c H locs cells slots Q (F0 m pc ls st0) := by
  intro T hT X
  rcases hr T hT X with ⟨v, st₀, t, T', L, h0, X', hL, e1, e2, ⟨⟨r, u, hv, hp, hb⟩, hF⟩, st⟩ | ⟨q, st₀, t, T', L, E, ce, h0, X', hL, e1, e2, ⟨u, hp, hb, hF⟩, hce, hcv, hcl, st⟩
  · cases hv
    obtain ⟨k1, k2, k3⟩ := vx_keep h0 e1 hS hA hf hL hF
    obtain ⟨t2, a1, b1⟩ := kk r u t T'.heap (locs ++ L) e1.symm (by rw [← e2]; exact X'.warmed.alike) hp hb k1 k2 k3 T' rfl X'
    exact ⟨t2, st t2 a1, b1⟩
  · obtain ⟨k1, k2, k3⟩ := vx_keep h0 e1 hS hAX hf hL hF
    obtain ⟨t2, a1, b1⟩ := kx E ce q u t T'.heap (locs ++ L) e1.symm (by rw [← e2]; exact X'.warmed.alike) hp hb k1 k2 k3 (by rw [e1]; exact hce) hcv hcl T' rfl X'
    exact ⟨t2, st.trans a1, b1⟩
theorem vx_callf {S SX : Type} {post : UInt32 → S → Prop} {px : SX → Prop} {B : S → State → Prop} {BX : String → SX → State → Prop} {AX : Nat → Prop} (hr : vx_Run p l e R s m args below meth c H locs cells slots mc ms (F0 m pc ls st0) rest (va_Qf post B A1 a) (vx_X px BX AX) free) (hS : va_S A0 H0 H locs) (hA : ∀ q, q < H.size → A1 q → A0 q) (hf : ∀ q, free q → A0 q) (hAX : ∀ q, q < H.size → AX q → A0 q)
    (kx : ∀ (E : String) (ce : Cell) (q9 : Addr) (u : SX) (t : State) (H1 : Heap) (locs1 : List Loc), t.heap = H1 → s.vm.Alike t.vm → px u → BX E u t → H.size ≤ H1.size → (∀ q : Nat, q < H.size → ¬ AX q → H1[q]? = H[q]?) → va_S A0 H0 H1 locs1 → H1[q9]? = some ce → ce.vm = .none → s.vm.findClass E = some ce.cls → vx_W p l e R s m args below meth c H1 locs1 (cells + mc) (slots + ms) Q (F0 m pc ls rest) q9)
    (kk : ∀ (r : UInt32) (u : S) (t : State) (H1 : Heap) (locs1 : List Loc), t.heap = H1 → s.vm.Alike t.vm → post r u → B u t → H.size ≤ H1.size → (∀ q : Nat, q < H.size → ¬ A1 q → H1[q]? = H[q]?) → va_S A0 H0 H1 locs1 → W p l e R s m args below meth c H1 locs1 (cells + mc) (slots + ms) Q (F0 m (pc + 3) ls (.float r :: rest))) : W p l e R s m args below meth c H locs cells slots Q (F0 m pc ls st0) := by
  intro T hT X
  rcases hr T hT X with ⟨v, st₀, t, T', L, h0, X', hL, e1, e2, ⟨⟨r, u, hv, hp, hb⟩, hF⟩, st⟩ | ⟨q, st₀, t, T', L, E, ce, h0, X', hL, e1, e2, ⟨u, hp, hb, hF⟩, hce, hcv, hcl, st⟩
  · cases hv
    obtain ⟨k1, k2, k3⟩ := vx_keep h0 e1 hS hA hf hL hF
    obtain ⟨t2, a1, b1⟩ := kk r u t T'.heap (locs ++ L) e1.symm (by rw [← e2]; exact X'.warmed.alike) hp hb k1 k2 k3 T' rfl X'
    exact ⟨t2, st t2 a1, b1⟩
  · obtain ⟨k1, k2, k3⟩ := vx_keep h0 e1 hS hAX hf hL hF
    obtain ⟨t2, a1, b1⟩ := kx E ce q u t T'.heap (locs ++ L) e1.symm (by rw [← e2]; exact X'.warmed.alike) hp hb k1 k2 k3 (by rw [e1]; exact hce) hcv hcl T' rfl X'
    exact ⟨t2, st.trans a1, b1⟩
theorem vx_calld {S SX : Type} {post : UInt64 → S → Prop} {px : SX → Prop} {B : S → State → Prop} {BX : String → SX → State → Prop} {AX : Nat → Prop} (hr : vx_Run p l e R s m args below meth c H locs cells slots mc ms (F0 m pc ls st0) rest (va_Qd post B A1 a) (vx_X px BX AX) free) (hS : va_S A0 H0 H locs) (hA : ∀ q, q < H.size → A1 q → A0 q) (hf : ∀ q, free q → A0 q) (hAX : ∀ q, q < H.size → AX q → A0 q)
    (kx : ∀ (E : String) (ce : Cell) (q9 : Addr) (u : SX) (t : State) (H1 : Heap) (locs1 : List Loc), t.heap = H1 → s.vm.Alike t.vm → px u → BX E u t → H.size ≤ H1.size → (∀ q : Nat, q < H.size → ¬ AX q → H1[q]? = H[q]?) → va_S A0 H0 H1 locs1 → H1[q9]? = some ce → ce.vm = .none → s.vm.findClass E = some ce.cls → vx_W p l e R s m args below meth c H1 locs1 (cells + mc) (slots + ms) Q (F0 m pc ls rest) q9)
    (kk : ∀ (r : UInt64) (u : S) (t : State) (H1 : Heap) (locs1 : List Loc), t.heap = H1 → s.vm.Alike t.vm → post r u → B u t → H.size ≤ H1.size → (∀ q : Nat, q < H.size → ¬ A1 q → H1[q]? = H[q]?) → va_S A0 H0 H1 locs1 → W p l e R s m args below meth c H1 locs1 (cells + mc) (slots + ms) Q (F0 m (pc + 3) ls (.double r :: rest))) : W p l e R s m args below meth c H locs cells slots Q (F0 m pc ls st0) := by
  intro T hT X
  rcases hr T hT X with ⟨v, st₀, t, T', L, h0, X', hL, e1, e2, ⟨⟨r, u, hv, hp, hb⟩, hF⟩, st⟩ | ⟨q, st₀, t, T', L, E, ce, h0, X', hL, e1, e2, ⟨u, hp, hb, hF⟩, hce, hcv, hcl, st⟩
  · cases hv
    obtain ⟨k1, k2, k3⟩ := vx_keep h0 e1 hS hA hf hL hF
    obtain ⟨t2, a1, b1⟩ := kk r u t T'.heap (locs ++ L) e1.symm (by rw [← e2]; exact X'.warmed.alike) hp hb k1 k2 k3 T' rfl X'
    exact ⟨t2, st t2 a1, b1⟩
  · obtain ⟨k1, k2, k3⟩ := vx_keep h0 e1 hS hAX hf hL hF
    obtain ⟨t2, a1, b1⟩ := kx E ce q u t T'.heap (locs ++ L) e1.symm (by rw [← e2]; exact X'.warmed.alike) hp hb k1 k2 k3 (by rw [e1]; exact hce) hcv hcl T' rfl X'
    exact ⟨t2, st.trans a1, b1⟩
theorem vx_callv {S SX : Type} {post : S → Prop} {px : SX → Prop} {B : S → State → Prop} {BX : String → SX → State → Prop} {AX : Nat → Prop} (hr : vx_Run p l e R s m args below meth c H locs cells slots mc ms (F0 m pc ls st0) rest (va_Qv post B A1 a) (vx_X px BX AX) free) (hS : va_S A0 H0 H locs) (hA : ∀ q, q < H.size → A1 q → A0 q) (hf : ∀ q, free q → A0 q) (hAX : ∀ q, q < H.size → AX q → A0 q)
    (kx : ∀ (E : String) (ce : Cell) (q9 : Addr) (u : SX) (t : State) (H1 : Heap) (locs1 : List Loc), t.heap = H1 → s.vm.Alike t.vm → px u → BX E u t → H.size ≤ H1.size → (∀ q : Nat, q < H.size → ¬ AX q → H1[q]? = H[q]?) → va_S A0 H0 H1 locs1 → H1[q9]? = some ce → ce.vm = .none → s.vm.findClass E = some ce.cls → vx_W p l e R s m args below meth c H1 locs1 (cells + mc) (slots + ms) Q (F0 m pc ls rest) q9)
    (kk : ∀ (u : S) (t : State) (H1 : Heap) (locs1 : List Loc), t.heap = H1 → s.vm.Alike t.vm → post u → B u t → H.size ≤ H1.size → (∀ q : Nat, q < H.size → ¬ A1 q → H1[q]? = H[q]?) → va_S A0 H0 H1 locs1 → W p l e R s m args below meth c H1 locs1 (cells + mc) (slots + ms) Q (F0 m (pc + 3) ls (rest))) : W p l e R s m args below meth c H locs cells slots Q (F0 m pc ls st0) := by
  intro T hT X
  rcases hr T hT X with ⟨v, st₀, t, T', L, h0, X', hL, e1, e2, ⟨⟨u, hv, hp, hb⟩, hF⟩, st⟩ | ⟨q, st₀, t, T', L, E, ce, h0, X', hL, e1, e2, ⟨u, hp, hb, hF⟩, hce, hcv, hcl, st⟩
  · cases hv
    obtain ⟨k1, k2, k3⟩ := vx_keep h0 e1 hS hA hf hL hF
    obtain ⟨t2, a1, b1⟩ := kk u t T'.heap (locs ++ L) e1.symm (by rw [← e2]; exact X'.warmed.alike) hp hb k1 k2 k3 T' rfl X'
    exact ⟨t2, st t2 a1, b1⟩
  · obtain ⟨k1, k2, k3⟩ := vx_keep h0 e1 hS hAX hf hL hF
    obtain ⟨t2, a1, b1⟩ := kx E ce q u t T'.heap (locs ++ L) e1.symm (by rw [← e2]; exact X'.warmed.alike) hp hb k1 k2 k3 (by rw [e1]; exact hce) hcv hcl T' rfl X'
    exact ⟨t2, st.trans a1, b1⟩
/-- caught by the row x of this method's table; the rows ahead don't take it -/
theorem vx_catch {own name : String} {E : String} {ce : Cell} {q : Addr} (hown : s.vm.findClass own = some m.cls) (pre : List ExceptionTableEntry) (x : ExceptionTableEntry) (suf : List ExceptionTableEntry) (hsplit : c.exceptionTable.toList = pre ++ x :: suf)
    (hpass : ∀ z ∈ pre, covers z pc = false ∨ (z.catchType ≠ 0 ∧ ∃ nm : String, (Cond.classLink own z.catchType nm).before args s = true ∧ va_Nc E nm s)) (hx : covers x pc = true) (h0 : x.catchType ≠ 0)
    (hlink : (Cond.classLink own x.catchType name).before args s = true) (hcast : (Cond.castable E name).before args s = true) (hcell : H[q]? = some ce) (hv : ce.vm = .none) (hcl : s.vm.findClass E = some ce.cls)
    (kk : W p l e R s m args below meth c H locs cells slots Q (F0 m x.handlerPc ls [.ref q])) : vx_W p l e R s m args below meth c H locs cells slots Q (F0 m pc ls rest) q := by
  intro T hT X
  have hpl : e.platform.magicAccessors = ({} : Platform).magicAccessors := by rw [X.admits.platform]
  obtain ⟨c3, c4, hc3, hc4, hasg⟩ := Cond.castable_spec hcast
  cases Option.some.inj (hc3.symm.trans hcl)
  obtain ⟨c5, hc5, hcl5⟩ := Cond.classLink_spec hown hlink e.platform hpl
  cases Option.some.inj (hc4.symm.trans hc5)
  obtain ⟨vm', X', st⟩ := X.thenCaughtThrough q (g := F0 m pc ls rest) rfl (Steps.refl _) (by rw [hT]; exact hcell) (by rw [hv]; rfl) (by obtain ⟨k9, h9, -⟩ := Vm.findClass_spec hcl; exact ⟨k9, h9⟩) pre x suf hsplit
    (fun z hz => by
      rcases hpass z hz with h | ⟨hz0, nm, hl1, hn1⟩
      · exact Or.inl h
      · obtain ⟨c6, hc6, hcl6⟩ := Cond.classLink_spec hown hl1 e.platform hpl
        obtain ⟨a8, b8, h1, h2, h3⟩ := hn1
        cases Option.some.inj (h1.symm.trans hcl)
        cases Option.some.inj (h2.symm.trans hc6)
        exact Or.inr ⟨hz0, _, hcl6, h3⟩) hx (Or.inr ⟨h0, c4, hcl5, hasg⟩)
  obtain ⟨t, a1, b1⟩ := kk (T.setVm vm') hT X'
  exact ⟨t, st.trans a1, b1⟩
end Rows
section Ends
variable {p : Program} {l : Launch} {e : Env} {R : Room} {s : State} {m : MethodId} {args : Array Value} {below : List Frame} {meth : Method} {c : Code} {H : Heap} {locs : List Loc} {cells slots : Nat} {Q : State → Prop}
variable {mc ms : Nat} {free : Addr → Prop} {A0 A1 : Nat → Prop} {H0 : Heap} {a : Array Value} {ls : Array Slot} {st0 rest : List Value}
variable {Qc : Array Value → State → Outcome → State → Prop} {XC : String → State → State → Prop}
/-- what a body that may throw owes at its end -/
def vx_MQ (below : List Frame) (Qc : Array Value → State → Outcome → State → Prop) (XC : String → State → State → Prop) (a : Array Value) (s : State) (mc ms : Nat) (free : Addr → Prop) : State → Prop := fun t =>
  ∃ o, t.status = .running ∧ Ended t below o ∧ vx_Q Qc XC mc ms free a s o t
theorem vx_ret {g : JFrame} {mc ms : Nat} (k : W p l e R s m args below meth c H locs cells slots (MQ below Qc args s mc ms free) g) : W p l e R s m args below meth c H locs cells slots (vx_MQ below Qc XC args s mc ms free) g := by
  intro T hT X
  obtain ⟨t, a1, o, b1, b2, b3, b4⟩ := k T hT X
  exact ⟨t, a1, o, b1, b2, Or.inl ⟨b3, b4⟩⟩
/-- not caught here: it goes on to the caller -/
theorem vx_widen {g : JFrame} {q : Addr} {k n : Nat} (h1 : cells ≤ k) (h2 : slots ≤ n) (kk : vx_W p l e R s m args below meth c H locs k n Q g q) : vx_W p l e R s m args below meth c H locs cells slots Q g q := fun T hT X => kk T hT (stand_widen X h1 h2)
theorem vx_out {pc : Nat} {E : String} {ce : Cell} {q : Addr} {mc ms : Nat} (hout : ∀ x ∈ c.exceptionTable.toList, covers x pc = false) (hlocks : meth.locks = false) (hcell : H[q]? = some ce) (hv : ce.vm = .none) (hcl : s.vm.findClass E = some ce.cls)
    (hx : ∀ t : State, t.heap = H → s.vm.Alike t.vm → XC E s t) (hf : ∀ z ∈ locs, free z.base) (hc : cells ≤ mc) (hs : slots ≤ ms) :
    vx_W p l e R s m args below meth c H locs cells slots (vx_MQ below Qc XC args s mc ms free) (F0 m pc ls rest) q := by
  intro T hT X
  obtain ⟨st1, hrun, hend, hW, hsm⟩ := X.leaveThrown q (g := F0 m pc ls rest) rfl rfl rfl hout hlocks
  have hcell9 : (T.setFrames (.throwing q :: below)).heap[q]? = some ce := by
    show T.heap[q]? = some ce
    rw [hT]; exact hcell
  exact ⟨_, st1, .threw q, hrun, hend, Or.inr ⟨q, rfl, E, ce, locs, hx _ hT hW.alike, hcell9, hv, hcl, hW, hsm.mono hc hs, hf⟩⟩
theorem vx_frame {U : State} {k n : Nat} (h : s.sameButNew ({ U with vm := s.vm } : State) locs k n) : s.heap.size ≤ U.heap.size ∧ ∀ q : Nat, q < s.heap.size → (∀ z ∈ locs, z.base ≠ q) → U.heap[q]? = s.heap[q]? := by
  obtain ⟨-, h2, -, -, -, h6⟩ := h
  refine ⟨h2, fun q hq hz => ?_⟩
  obtain ⟨c9, e1, e2, e3, e4⟩ := h6 q _ (Array.getElem?_eq_getElem hq)
  have hs : c9.slots = (s.heap[q]).slots := Array.ext_getElem? fun i => e4 i fun hm => hz _ hm rfl
  have h9 : c9 = s.heap[q] := by
    rw [hs] at e2
    exact e2
  have e5 : U.heap[q]? = some c9 := e1
  rw [e5, h9, Array.getElem?_eq_getElem hq]
/-- the words of a throw but the four that speak of the heap -/
def vx_no (w : Cond) : Bool := decide (w ≠ .isRef (.static Bundle.tN "UNASSIGNED_STACK" Bundle.steD)) && decide (w ≠ .isRef (.static Bundle.tN "SUPPRESSED_SENTINEL" Bundle.listD)) && decide (w ≠ .laysStatic Bundle.tN "UNASSIGNED_STACK" Bundle.steD) && decide (w ≠ .laysStatic Bundle.tN "SUPPRESSED_SENTINEL" Bundle.listD)
def vx_at0 (own : String) (ic : Nat) (X : String) (names : List String) : List Cond := (Bundle.ownAtoms0 own ic X names).filter vx_no
def vx_atS (own : String) (ic : Nat) (X : String) (names : List String) : List Cond := (Bundle.ownAtoms own ic X names).filter vx_no
/-- a word that the tables alone decide, or a good one -/
def vx_ot (w : Cond) : Bool := w.onTables || goodWord w
theorem vx_ot_at {args a' : Array Value} {s U : State} {w : Cond} (hW : s.WarmedH U.vm) (hvm : s.vm = U.vm) (hg : vx_ot w = true) (h : w.before args s = true) : w.before a' U = true := by
  simp only [vx_ot, Bool.or_eq_true] at hg
  rcases hg with hg | hg
  · exact va_tabs hg hvm h
  · exact word_at hW (good_of_word hg) h
/-- a list's words: the good ones out of the method's own list, the others by premises of their own -/
theorem vx_hat {args : Array Value} {s : State} {L B : List Cond} (h1 : ∀ w ∈ L.filter goodWord, w.before args s = true) (h2 : ∀ w ∈ L.filter (fun w => !goodWord w), w ∈ B) (h3 : ∀ w ∈ B, w.before args s = true) : ∀ w ∈ L, w.before args s = true := by
  intro w hw
  by_cases g : goodWord w = true
  · exact h1 w (List.mem_filter.mpr ⟨hw, g⟩)
  · refine h3 w (h2 w (List.mem_filter.mpr ⟨hw, ?_⟩))
    show (!goodWord w) = true
    cases hgw : goodWord w
    · rfl
    · exact absurd hgw g
theorem vx_c {args : Array Value} {s : State} {w : Cond} {B : List Cond} (h : w.before args s = true) (t : ∀ w ∈ B, w.before args s = true) : ∀ w' ∈ w :: B, w'.before args s = true := fun w' h' => (List.mem_cons.mp h').elim (fun e => by rw [e]; exact h) (t w')
theorem vx_n {args : Array Value} {s : State} : ∀ w ∈ ([] : List Cond), w.before args s = true := fun _ h => nomatch h
theorem vx_own {args : Array Value} {s : State} {L : List Cond} (h1 : ∀ w ∈ L.filter vx_no, w.before args s = true)
    (hU : (Cond.isRef (.static Bundle.tN "UNASSIGNED_STACK" Bundle.steD)).before args s = true) (hN : (Cond.isRef (.static Bundle.tN "SUPPRESSED_SENTINEL" Bundle.listD)).before args s = true)
    (lU : (Cond.laysStatic Bundle.tN "UNASSIGNED_STACK" Bundle.steD).before args s = true) (lN : (Cond.laysStatic Bundle.tN "SUPPRESSED_SENTINEL" Bundle.listD).before args s = true) : ∀ w ∈ L, w.before args s = true := by
  intro w hw
  by_cases e1 : w = .isRef (.static Bundle.tN "UNASSIGNED_STACK" Bundle.steD)
  · rw [e1]; exact hU
  · by_cases e2 : w = .isRef (.static Bundle.tN "SUPPRESSED_SENTINEL" Bundle.listD)
    · rw [e2]; exact hN
    · by_cases e3 : w = .laysStatic Bundle.tN "UNASSIGNED_STACK" Bundle.steD
      · rw [e3]; exact lU
      · by_cases e4 : w = .laysStatic Bundle.tN "SUPPRESSED_SENTINEL" Bundle.listD
        · rw [e4]; exact lN
        · exact h1 w (List.mem_filter.mpr ⟨hw, by unfold vx_no; rw [decide_eq_true e1, decide_eq_true e2, decide_eq_true e3, decide_eq_true e4]; rfl⟩)
/-- where a static field lies, its class's statics cell in H -/
def vx_L (C n d : String) (A : Nat → Prop) (U : State) (H : Heap) : Prop := ∃ (c : ClassId) (k : Class) (i : Nat) (f : Field) (a : Nat) (cell : Cell), U.vm.findClass C = some c ∧ U.fieldFound? C n d = some (c, k, i, f) ∧ f.isStatic = true ∧ k.statics = some a ∧ H[a]? = some cell ∧ cell.vm.isStatics = true ∧ cell.cls = c ∧ f.slot < cell.slots.size ∧ k.staticTypes[f.slot]? = some f.type ∧ ¬ A a
theorem vx_L.moved {C n d : String} {A : Nat → Prop} {u U : State} {H : Heap} (hvm : u.vm.Alike U.vm) (h : vx_L C n d A u H) : vx_L C n d A U H := by
  obtain ⟨c, k, i, f, a, cell, h1, h2, h3, h4, h5, h6, h7, h8, h9, h10⟩ := h
  obtain ⟨k', hi', he⟩ := State.fieldFound?_setVm hvm h2
  exact ⟨c, k', i, f, a, cell, by rw [hvm.findClass]; exact h1, hi', h3, by rw [he]; exact h4, h5, h6, h7, h8, by rw [he]; exact h9, h10⟩
theorem vx_L.kept {C n d : String} {A : Nat → Prop} {U : State} {H H1 : Heap} (h : vx_L C n d A U H) (hq : ∀ a : Nat, a < H.size → ¬ A a → H1[a]? = H[a]?) : vx_L C n d A U H1 := by
  obtain ⟨c, k, i, f, a, cell, h1, h2, h3, h4, h5, h6, h7, h8, h9, h10⟩ := h
  exact ⟨c, k, i, f, a, cell, h1, h2, h3, h4, by rw [hq a (Array.getElem?_eq_some_iff.mp h5).1 h10]; exact h5, h6, h7, h8, h9, h10⟩
theorem vx_L.narrow {C n d : String} {A B : Nat → Prop} {U : State} {H : Heap} (h : vx_L C n d A U H) (hAB : ∀ q, B q → A q) : vx_L C n d B U H := by
  obtain ⟨c, k, i, f, a, cell, h1, h2, h3, h4, h5, h6, h7, h8, h9, h10⟩ := h
  exact ⟨c, k, i, f, a, cell, h1, h2, h3, h4, h5, h6, h7, h8, h9, fun z => h10 (hAB _ z)⟩
theorem vx_L.word {C n d : String} {A : Nat → Prop} {s : State} {args : Array Value} (h : vx_L C n d A s s.heap) : (Cond.laysStatic C n d).before args s = true := by
  obtain ⟨c, k, i, f, a, cell, h1, h2, h3, h4, h5, h6, h7, h8, h9, -⟩ := h
  show (Cond.laysStatic C n d).holds args s none s [] = true
  exact Cond.laysStatic_of h1 h2 h3 h4 h5 h6 h7 h8 h9
/-- .. and what it holds: null or some reference -/
def vx_Zq (C n d : String) (A : Nat → Prop) (U : State) (H : Heap) : Prop := va_Zq C n d A U H ∧ vx_L C n d A U H
theorem vx_Zq.moved {C n d : String} {A : Nat → Prop} {u U : State} {H : Heap} (hvm : u.vm.Alike U.vm) (h : vx_Zq C n d A u H) : vx_Zq C n d A U H := ⟨va_Zq.moved hvm h.1, vx_L.moved hvm h.2⟩
theorem vx_Zq.kept {C n d : String} {A : Nat → Prop} {U : State} {H H1 : Heap} (h : vx_Zq C n d A U H) (hq : ∀ a : Nat, a < H.size → ¬ A a → H1[a]? = H[a]?) : vx_Zq C n d A U H1 := ⟨va_Zq.kept h.1 hq, vx_L.kept h.2 hq⟩
theorem vx_Zq.narrow {C n d : String} {A B : Nat → Prop} {U : State} {H : Heap} (h : vx_Zq C n d A U H) (hAB : ∀ q, B q → A q) : vx_Zq C n d B U H := ⟨va_Zq.narrow h.1 hAB, vx_L.narrow h.2 hAB⟩
theorem vx_Zqof {args : Array Value} {s : State} {C n d : String} {A : Nat → Prop} (hl : (Cond.laysStatic C n d).before args s = true) (hini : (Cond.initialized C).before args s = true) (h : (Cond.isRef (.static C n d)).before args s = true) (hA : ∀ a : Nat, a < s.heap.size → ¬ A a) : vx_Zq C n d A s s.heap := by
  refine ⟨va_Zqof hl hini h hA, ?_⟩
  obtain ⟨c, k, i, f, a, cell, h1, h2, h3, h4, h5, h6, h7, h8, h9⟩ := Cond.laysStatic_spec hl
  exact ⟨c, k, i, f, a, cell, h1, h2, h3, h4, h5, h6, h7, h8, h9, hA a (Array.getElem?_eq_some_iff.mp h5).1⟩
theorem vx_isRef {C n d : String} {v : Value} {A : Nat → Prop} {s : State} {args : Array Value} (h : va_Z C n d v A s s.heap) (hv : v.isRef = true) : (Cond.isRef (.static C n d)).before args s = true := by
  obtain ⟨cf, kf, fi, f, a, cell, h1, h2, h3, h4, h5, h6, h7, -⟩ := h
  have he : (Term.static C n d).eval args s none [] s = some v := by
    simp [Term.eval, State.fieldNamed?, h1, h2, h4, h5, h6, h7]
  simp only [Cond.before, Cond.holds, Cond.value, he]
  cases v <;> simp_all [Value.isRef]
theorem vx_isRefq {C n d : String} {A : Nat → Prop} {s : State} {args : Array Value} (h : va_Zq C n d A s s.heap) : (Cond.isRef (.static C n d)).before args s = true := by
  rcases h with h | ⟨t, h⟩
  · exact vx_isRef h rfl
  · exact vx_isRef h rfl
/-- the same frame, seen from here: as if the method were called anew in this heap -/
theorem vx_rebase {T : State} (X : Stand p l e R s m args below meth c T locs cells slots) {R' : Room} (hf : R'.frames ≤ R.frames) (hl : R'.locals ≤ R.locals) (hc : cells + R'.cells ≤ R.cells) (hs : slots + R'.slots ≤ R.slots) :
    Stand p l e R' ((T.setVm s.vm).setFrames (.invoking m args :: below)) m args below meth c T [] 0 0 := by
  have htop : (T.setVm s.vm).topJava?.isSome := X.here.top
  have hF : ((T.setVm s.vm).setFrames (.invoking m args :: below)).frames = .invoking m args :: below := State.frames_setFrames _ (State.cur_lt_of_top htop)
  obtain ⟨g₀, hg0⟩ := Option.isSome_iff_exists.mp htop
  obtain ⟨r, hr⟩ := State.topJava?_eq_some.mp hg0
  have hl9 : e.platform.stackLimits (T.setVm s.vm).me = e.platform.stackLimits s.me := X.limits
  have hb9 : (T.setVm s.vm).me.stackBytes = s.me.stackBytes := X.bytes
  refine ⟨X.admits, X.cas, X.clock, hF, ?_, X.hears, X.method, X.code, X.here, X.tail, X.warmed, ?_, ?_, ?_⟩
  · have h := X.room
    have hU : ((T.setVm s.vm).setFrames (.invoking m args :: below)).localsInUse = s.localsInUse := by
      rw [State.localsInUse_invoking hF (meth := meth) (c := c) X.method X.code, State.localsInUse_invoking X.frames X.method X.code]
    simp only [State.hasRoom, Bool.and_eq_true, decide_eq_true_eq] at h ⊢
    obtain ⟨⟨⟨⟨h1, h2, h3, h4, h5, h6⟩, h7⟩, h8⟩, h9⟩ := h
    rw [X.frames, List.length_cons] at h2 h3
    have q1 := X.heapSize
    have q2 := X.used
    simp only [hF, hU, List.length_cons, State.stackLimits_setFrames, State.stackBytes_setFrames, hl9, hb9]
    refine ⟨⟨⟨⟨by omega, by omega, by omega, by omega, by omega, h6⟩, ?_⟩, ?_⟩, X.book⟩
    · show T.heap.size + R'.cells ≤ e.platform.maxCells
      omega
    · show T.slotsUsed + R'.slots ≤ e.platform.maxSlots
      omega
  · rw [State.stackLimits_setFrames]; rfl
  · rw [State.stackBytes_setFrames]; rfl
  · refine ⟨?_, Nat.le_refl _, Nat.le_refl _, ?_, ?_, fun a c9 h9 => ⟨c9, h9, rfl, rfl, fun _ _ => rfl⟩⟩
    · obtain ⟨t, ht, -⟩ := State.frames_cons hr
      show T.setVm s.vm = { ((T.setVm s.vm).setFrames (.invoking m args :: below)).setFrames (T.setVm s.vm).frames with heap := T.heap, slotsUsed := T.slotsUsed }
      rw [State.setFrames_setFrames, State.setFrames_self ht]
      rfl
    · show T.slotsUsed = T.slotsUsed + ((T.heap.toList.drop T.heap.size).map (·.slots.size)).sum
      rw [List.drop_eq_nil_of_le (Nat.le_of_eq Array.length_toList)]
      rfl
    · show ((T.heap.toList.drop T.heap.size).map (·.slots.size)).sum ≤ 0
      rw [List.drop_eq_nil_of_le (Nat.le_of_eq Array.length_toList)]
      exact Nat.le_refl _
/-- 'throw new E()': new; dup; invokespecial; athrow -/
theorem vx_throw0 {cc : ByteArray} {pc : Nat} (hexec : p.tables.exec = Jvm.exec) (hb : c.code = cc) (hl : l.stackTraces = false) {own cls : String} {names : List String} {ik ic mc ms : Nat} {A : Nat → Prop}
    (hown : s.vm.findClass own = some m.cls) (hcls : Bundle.fit cls = true) (hnames : ∀ n ∈ names, Bundle.fit n = true)
    (hk : (Cond.classLink own ik cls).before args s = true) (hini : (Cond.initialized cls).before args s = true) (hat : ∀ w ∈ vx_at0 own ic cls names, w.before args s = true)
    (hgood : ∀ w ∈ Cond.classLink own ik cls :: Cond.initialized cls :: vx_at0 own ic cls names, vx_ot w = true)
    (hU : vx_Zq Bundle.tN "UNASSIGNED_STACK" Bundle.steD A s s.heap) (hN : vx_Zq Bundle.tN "SUPPRESSED_SENTINEL" Bundle.listD A s s.heap) (hS : va_S A s.heap H locs) (hsize : ls.size = c.maxLocals)
    (d0 : decode cc pc = .ok (.new ik, 3)) (d3 : decode cc (pc + 3) = .ok (.dup, 1)) (d4 : decode cc (pc + 4) = .ok (.invokespecial ic, 3)) (d7 : decode cc (pc + 7) = .ok (.athrow, 1))
    (hout : ∀ x ∈ c.exceptionTable.toList, covers x (pc + 7) = false)
    (hRframes : names.length + 3 < R.frames) (hRlocals : (rest.map fun v => v.category).sum + (13 * (names.length + 1) + 42) ≤ R.locals) (hRcells : cells + 1 ≤ R.cells) (hRslots : slots + 6 ≤ R.slots) (hlocks : meth.locks = false)
    (hx : ∀ t : State, s.vm.Alike t.vm → H.size ≤ t.heap.size → (∀ q : Nat, q < H.size → t.heap[q]? = H[q]?) → XC cls s t)
    (hf : ∀ z ∈ locs, free z.base) (hc : cells + 1 ≤ mc) (hs : slots + 6 ≤ ms) :
    W p l e R s m args below meth c H locs cells slots (vx_MQ below Qc XC args s mc ms free) (F0 m pc ls rest) := by
  intro T hT X
  have htr : e.platform.stackTraces = false := (show e.platform.stackTraces = l.stackTraces by rw [X.admits.platform]).trans hl
  have Y := vx_rebase X (R' := { frames := R.frames, locals := R.locals, cells := 1, slots := 6 }) (Nat.le_refl _) (Nat.le_refl _) hRcells hRslots
  obtain ⟨s', hA⟩ : ∃ z, z = (T.setVm s.vm).setFrames (.invoking m args :: below) := ⟨_, rfl⟩
  rw [← hA] at Y
  have hvm : s'.vm = s.vm := by rw [hA]; rfl
  have hhp : s'.heap = H := by rw [hA]; exact hT
  have hW0 : s.WarmedH s'.vm := by rw [hvm]; exact State.WarmedH.refl s
  have hat' : ∀ w ∈ vx_at0 own ic cls names, w.before args s' = true := fun w hw => vx_ot_at hW0 hvm.symm (hgood w (List.mem_cons_of_mem _ (List.mem_cons_of_mem _ hw))) (hat w hw)
  have hk' : (Cond.classLink own ik cls).before args s' = true := vx_ot_at hW0 hvm.symm (hgood _ List.mem_cons_self) hk
  have hini' : (Cond.initialized cls).before args s' = true := vx_ot_at hW0 hvm.symm (hgood _ (List.mem_cons_of_mem _ List.mem_cons_self)) hini
  have hU' : vx_Zq Bundle.tN "UNASSIGNED_STACK" Bundle.steD A s' s'.heap := by rw [hhp]; exact vx_Zq.moved hW0.alike (hU.kept hS.2.1)
  have hN' : vx_Zq Bundle.tN "SUPPRESSED_SENTINEL" Bundle.listD A s' s'.heap := by rw [hhp]; exact vx_Zq.moved hW0.alike (hN.kept hS.2.1)
  have h : ∀ w ∈ Bundle.ownAtoms0 own ic cls names, w.before args s' = true := vx_own hat' (vx_isRefq hU'.1) (vx_isRefq hN'.1) hU'.2.word hN'.2.word
  have hown' : s'.vm.findClass own = some m.cls := by rw [hvm]; exact hown
  have hins : (Cond.instantiable cls 6).before args s' = true := h _ (by simp [Bundle.ownAtoms0])
  obtain ⟨vm₁, cX, kX, hfX, hkX, -, -, X₁, st1⟩ := Y.newCold hexec (own := own) (C := cls) (index := ik) (n := 6) hown' hk' hins hini'
    (g := F0 m pc ls rest) rfl (by rw [hb]; exact d0) (Nat.le_refl _) (Nat.le_refl _)
  generalize hT1 : (T.setVm vm₁).pushCell { cls := cX, slots := kX.instanceTypes.map defaultValue, vm := .none } = T1 at X₁ st1
  have hcat : (Value.ref T.heap.size).category = 1 := rfl
  have hcellA : T1.heap[T.heap.size]? = some (freshCell cX kX) := by rw [← hT1]; exact State.heap_pushCell_size _ _
  have d3' : decode c.code (pc + 3) = .ok (.dup, 1) := by rw [hb]; exact d3
  obtain ⟨U, hsteps, hrun, hend, hW, hsame, ce, hce, hO⟩ := X₁.ctorThrow0 hexec htr (own := own) (cls := cls) (names := names) (ic := ic) hown' hcls hnames h (fun x hx => nomatch hx) hfX hkX hcellA (by rw [hhp, hT]; exact Nat.le_refl _)
    (g := { method := m, pc := pc + 4, locals := ls, stack := .ref T.heap.size :: .ref T.heap.size :: rest, locked := none }) rfl hsize rfl rfl (rest := rest) rfl
    (by rw [hb]; exact d4) (by rw [hb]; exact d7) hout hRframes (by simp only [List.map_cons, List.sum_cons, hcat]; omega) hlocks
  obtain ⟨f1, f2⟩ := vx_frame hsame
  rw [hhp] at f1 f2
  have hWs : s.WarmedH U.vm := State.WarmedH.trans hW0 hW
  have hcl : s.vm.findClass cls = some ce.cls := by
    have h9 := hO.cls
    rw [hvm] at h9
    exact h9
  have hall : s.sameButNew ({ U with vm := s.vm } : State) locs mc ms := by
    subst hA
    obtain ⟨e1, e2⟩ := hsame
    rw [State.setFrames_setFrames] at e1
    have h2 : (T.setVm s.vm).sameButNew ({ U with vm := s.vm } : State) [] (0 + 1) (0 + 6) := ⟨e1, e2⟩
    have h3 := X.same.trans h2
    rw [List.append_nil] at h3
    exact h3.mono hc hs
  refine ⟨U, ?_, .threw T.heap.size, hrun, hend, Or.inr ⟨T.heap.size, rfl, cls, ce, locs, hx U hWs.alike f1 (fun q hq => f2 q hq (fun z hz => nomatch hz)), hce, hO.vm, hcl, hWs, hall, hf⟩⟩
  refine st1 _ ?_
  show Steps p.tables e below (T1.setTop { method := m, pc := pc + 3, locals := ls, stack := .ref T.heap.size :: rest, locked := none }) _
  jvm_step X₁.here [X₁.here.top, hexec, d3', Value.category]
  exact hsteps
/-- 'throw new E("text")': new; dup; ldc; invokespecial; athrow -/
theorem vx_throwS {cc : ByteArray} {pc : Nat} (hexec : p.tables.exec = Jvm.exec) (hb : c.code = cc) (hl : l.stackTraces = false) {own cls text : String} {names : List String} {ik is ic mc ms sa : Nat} {A : Nat → Prop}
    (hown : s.vm.findClass own = some m.cls) (hcls : Bundle.fit cls = true) (hnames : ∀ n ∈ names, Bundle.fit n = true)
    (hk : (Cond.classLink own ik cls).before args s = true) (hini : (Cond.initialized cls).before args s = true) (hstr : vk_R own is text sa s) (hat : ∀ w ∈ vx_atS own ic cls names, w.before args s = true)
    (hgood : ∀ w ∈ Cond.classLink own ik cls :: Cond.initialized cls :: vx_atS own ic cls names, vx_ot w = true)
    (hU : vx_Zq Bundle.tN "UNASSIGNED_STACK" Bundle.steD A s s.heap) (hN : vx_Zq Bundle.tN "SUPPRESSED_SENTINEL" Bundle.listD A s s.heap) (hS : va_S A s.heap H locs) (hsize : ls.size = c.maxLocals)
    (d0 : decode cc pc = .ok (.new ik, 3)) (d3 : decode cc (pc + 3) = .ok (.dup, 1)) (d4 : decode cc (pc + 4) = .ok (.ldc is, 2)) (d6 : decode cc (pc + 6) = .ok (.invokespecial ic, 3)) (d9 : decode cc (pc + 9) = .ok (.athrow, 1))
    (hout : ∀ x ∈ c.exceptionTable.toList, covers x (pc + 9) = false)
    (hRframes : names.length + 3 < R.frames) (hRlocals : (rest.map fun v => v.category).sum + (13 * (names.length + 1) + 43) ≤ R.locals) (hRcells : cells + 1 ≤ R.cells) (hRslots : slots + 6 ≤ R.slots) (hlocks : meth.locks = false)
    (hx : ∀ t : State, s.vm.Alike t.vm → H.size ≤ t.heap.size → (∀ q : Nat, q < H.size → t.heap[q]? = H[q]?) → XC cls s t)
    (hf : ∀ z ∈ locs, free z.base) (hc : cells + 1 ≤ mc) (hs : slots + 6 ≤ ms) :
    W p l e R s m args below meth c H locs cells slots (vx_MQ below Qc XC args s mc ms free) (F0 m pc ls rest) := by
  intro T hT X
  have htr : e.platform.stackTraces = false := (show e.platform.stackTraces = l.stackTraces by rw [X.admits.platform]).trans hl
  have Y := vx_rebase X (R' := { frames := R.frames, locals := R.locals, cells := 1, slots := 6 }) (Nat.le_refl _) (Nat.le_refl _) hRcells hRslots
  obtain ⟨s', hA⟩ : ∃ z, z = (T.setVm s.vm).setFrames (.invoking m args :: below) := ⟨_, rfl⟩
  rw [← hA] at Y
  have hvm : s'.vm = s.vm := by rw [hA]; rfl
  have hhp : s'.heap = H := by rw [hA]; exact hT
  have hW0 : s.WarmedH s'.vm := by rw [hvm]; exact State.WarmedH.refl s
  have hat' : ∀ w ∈ vx_atS own ic cls names, w.before args s' = true := fun w hw => vx_ot_at hW0 hvm.symm (hgood w (List.mem_cons_of_mem _ (List.mem_cons_of_mem _ hw))) (hat w hw)
  have hk' : (Cond.classLink own ik cls).before args s' = true := vx_ot_at hW0 hvm.symm (hgood _ List.mem_cons_self) hk
  have hini' : (Cond.initialized cls).before args s' = true := vx_ot_at hW0 hvm.symm (hgood _ (List.mem_cons_of_mem _ List.mem_cons_self)) hini
  have hU' : vx_Zq Bundle.tN "UNASSIGNED_STACK" Bundle.steD A s' s'.heap := by rw [hhp]; exact vx_Zq.moved hW0.alike (hU.kept hS.2.1)
  have hN' : vx_Zq Bundle.tN "SUPPRESSED_SENTINEL" Bundle.listD A s' s'.heap := by rw [hhp]; exact vx_Zq.moved hW0.alike (hN.kept hS.2.1)
  have h : ∀ w ∈ Bundle.ownAtoms own ic cls names, w.before args s' = true := vx_own hat' (vx_isRefq hU'.1) (vx_isRefq hN'.1) hU'.2.word hN'.2.word
  have hown' : s'.vm.findClass own = some m.cls := by rw [hvm]; exact hown
  have hins : (Cond.instantiable cls 6).before args s' = true := h _ (by simp [Bundle.ownAtoms])
  obtain ⟨vm₁, cX, kX, hfX, hkX, -, -, X₁, st1⟩ := Y.newCold hexec (own := own) (C := cls) (index := ik) (n := 6) hown' hk' hins hini'
    (g := F0 m pc ls rest) rfl (by rw [hb]; exact d0) (Nat.le_refl _) (Nat.le_refl _)
  generalize hT1 : (T.setVm vm₁).pushCell { cls := cX, slots := kX.instanceTypes.map defaultValue, vm := .none } = T1 at X₁ st1
  have hcat : (Value.ref T.heap.size).category = 1 := rfl
  have hcellA : T1.heap[T.heap.size]? = some (freshCell cX kX) := by rw [← hT1]; exact State.heap_pushCell_size _ _
  have d3' : decode c.code (pc + 3) = .ok (.dup, 1) := by rw [hb]; exact d3
  have d4' : decode c.code (pc + 4) = .ok (.ldc is, 2) := by rw [hb]; exact d4
  have hstr' : vk_R own is text sa s' := vk_R.warm hW0 hstr
  obtain ⟨U, hsteps, hrun, hend, hW, hsame, ce, hce, hO⟩ := X₁.ctorThrowS hexec htr (own := own) (cls := cls) (names := names) (ic := ic) hown' hcls hnames h (fun x hx => nomatch hx) hfX hkX hcellA (by rw [hhp, hT]; exact Nat.le_refl _) (msg := .ref sa) rfl
    (g := { method := m, pc := pc + 6, locals := ls, stack := .ref sa :: .ref T.heap.size :: .ref T.heap.size :: rest, locked := none }) rfl hsize rfl rfl (rest := rest) rfl
    (by rw [hb]; exact d6) (by rw [hb]; exact d9) hout hRframes (by simp only [List.map_cons, List.sum_cons, hcat]; omega) hlocks
  obtain ⟨f1, f2⟩ := vx_frame hsame
  rw [hhp] at f1 f2
  have hWs : s.WarmedH U.vm := State.WarmedH.trans hW0 hW
  have hcl : s.vm.findClass cls = some ce.cls := by
    have h9 := hO.cls
    rw [hvm] at h9
    exact h9
  have hall : s.sameButNew ({ U with vm := s.vm } : State) locs mc ms := by
    subst hA
    obtain ⟨e1, e2⟩ := hsame
    rw [State.setFrames_setFrames] at e1
    have h2 : (T.setVm s.vm).sameButNew ({ U with vm := s.vm } : State) [] (0 + 1) (0 + 6) := ⟨e1, e2⟩
    have h3 := X.same.trans h2
    rw [List.append_nil] at h3
    exact h3.mono hc hs
  refine ⟨U, ?_, .threw T.heap.size, hrun, hend, Or.inr ⟨T.heap.size, rfl, cls, ce, locs, hx U hWs.alike f1 (fun q hq => f2 q hq (fun z hz => nomatch hz)), hce, hO.vm, hcl, hWs, hall, hf⟩⟩
  refine st1 _ ?_
  show Steps p.tables e below (T1.setTop { method := m, pc := pc + 3, locals := ls, stack := .ref T.heap.size :: rest, locked := none }) _
  jvm_step X₁.here [X₁.here.top, hexec, d3', Value.category]
  exact X₁.ldcString hexec (own := own) (text := text) (index := is) (a := sa) hown' hstr'.1 hstr'.2
    (g := { method := m, pc := pc + 4, locals := ls, stack := .ref T.heap.size :: .ref T.heap.size :: rest, locked := none }) rfl d4' _ hsteps
/-- 'throw new E("text")', the text by a wide index -/
theorem vx_throwSW {cc : ByteArray} {pc : Nat} (hexec : p.tables.exec = Jvm.exec) (hb : c.code = cc) (hl : l.stackTraces = false) {own cls text : String} {names : List String} {ik is ic mc ms sa : Nat} {A : Nat → Prop}
    (hown : s.vm.findClass own = some m.cls) (hcls : Bundle.fit cls = true) (hnames : ∀ n ∈ names, Bundle.fit n = true)
    (hk : (Cond.classLink own ik cls).before args s = true) (hini : (Cond.initialized cls).before args s = true) (hstr : vk_R own is text sa s) (hat : ∀ w ∈ vx_atS own ic cls names, w.before args s = true)
    (hgood : ∀ w ∈ Cond.classLink own ik cls :: Cond.initialized cls :: vx_atS own ic cls names, vx_ot w = true)
    (hU : vx_Zq Bundle.tN "UNASSIGNED_STACK" Bundle.steD A s s.heap) (hN : vx_Zq Bundle.tN "SUPPRESSED_SENTINEL" Bundle.listD A s s.heap) (hS : va_S A s.heap H locs) (hsize : ls.size = c.maxLocals)
    (d0 : decode cc pc = .ok (.new ik, 3)) (d3 : decode cc (pc + 3) = .ok (.dup, 1)) (d4 : decode cc (pc + 4) = .ok (.ldc_w is, 3)) (d7 : decode cc (pc + 7) = .ok (.invokespecial ic, 3)) (d10 : decode cc (pc + 10) = .ok (.athrow, 1))
    (hout : ∀ x ∈ c.exceptionTable.toList, covers x (pc + 10) = false)
    (hRframes : names.length + 3 < R.frames) (hRlocals : (rest.map fun v => v.category).sum + (13 * (names.length + 1) + 43) ≤ R.locals) (hRcells : cells + 1 ≤ R.cells) (hRslots : slots + 6 ≤ R.slots) (hlocks : meth.locks = false)
    (hx : ∀ t : State, s.vm.Alike t.vm → H.size ≤ t.heap.size → (∀ q : Nat, q < H.size → t.heap[q]? = H[q]?) → XC cls s t)
    (hf : ∀ z ∈ locs, free z.base) (hc : cells + 1 ≤ mc) (hs : slots + 6 ≤ ms) :
    W p l e R s m args below meth c H locs cells slots (vx_MQ below Qc XC args s mc ms free) (F0 m pc ls rest) := by
  intro T hT X
  have htr : e.platform.stackTraces = false := (show e.platform.stackTraces = l.stackTraces by rw [X.admits.platform]).trans hl
  have Y := vx_rebase X (R' := { frames := R.frames, locals := R.locals, cells := 1, slots := 6 }) (Nat.le_refl _) (Nat.le_refl _) hRcells hRslots
  obtain ⟨s', hA⟩ : ∃ z, z = (T.setVm s.vm).setFrames (.invoking m args :: below) := ⟨_, rfl⟩
  rw [← hA] at Y
  have hvm : s'.vm = s.vm := by rw [hA]; rfl
  have hhp : s'.heap = H := by rw [hA]; exact hT
  have hW0 : s.WarmedH s'.vm := by rw [hvm]; exact State.WarmedH.refl s
  have hat' : ∀ w ∈ vx_atS own ic cls names, w.before args s' = true := fun w hw => vx_ot_at hW0 hvm.symm (hgood w (List.mem_cons_of_mem _ (List.mem_cons_of_mem _ hw))) (hat w hw)
  have hk' : (Cond.classLink own ik cls).before args s' = true := vx_ot_at hW0 hvm.symm (hgood _ List.mem_cons_self) hk
  have hini' : (Cond.initialized cls).before args s' = true := vx_ot_at hW0 hvm.symm (hgood _ (List.mem_cons_of_mem _ List.mem_cons_self)) hini
  have hU' : vx_Zq Bundle.tN "UNASSIGNED_STACK" Bundle.steD A s' s'.heap := by rw [hhp]; exact vx_Zq.moved hW0.alike (hU.kept hS.2.1)
  have hN' : vx_Zq Bundle.tN "SUPPRESSED_SENTINEL" Bundle.listD A s' s'.heap := by rw [hhp]; exact vx_Zq.moved hW0.alike (hN.kept hS.2.1)
  have h : ∀ w ∈ Bundle.ownAtoms own ic cls names, w.before args s' = true := vx_own hat' (vx_isRefq hU'.1) (vx_isRefq hN'.1) hU'.2.word hN'.2.word
  have hown' : s'.vm.findClass own = some m.cls := by rw [hvm]; exact hown
  have hins : (Cond.instantiable cls 6).before args s' = true := h _ (by simp [Bundle.ownAtoms])
  obtain ⟨vm₁, cX, kX, hfX, hkX, -, -, X₁, st1⟩ := Y.newCold hexec (own := own) (C := cls) (index := ik) (n := 6) hown' hk' hins hini'
    (g := F0 m pc ls rest) rfl (by rw [hb]; exact d0) (Nat.le_refl _) (Nat.le_refl _)
  generalize hT1 : (T.setVm vm₁).pushCell { cls := cX, slots := kX.instanceTypes.map defaultValue, vm := .none } = T1 at X₁ st1
  have hcat : (Value.ref T.heap.size).category = 1 := rfl
  have hcellA : T1.heap[T.heap.size]? = some (freshCell cX kX) := by rw [← hT1]; exact State.heap_pushCell_size _ _
  have d3' : decode c.code (pc + 3) = .ok (.dup, 1) := by rw [hb]; exact d3
  have d4' : decode c.code (pc + 4) = .ok (.ldc_w is, 3) := by rw [hb]; exact d4
  have hstr' : vk_R own is text sa s' := vk_R.warm hW0 hstr
  obtain ⟨U, hsteps, hrun, hend, hW, hsame, ce, hce, hO⟩ := X₁.ctorThrowS hexec htr (own := own) (cls := cls) (names := names) (ic := ic) hown' hcls hnames h (fun x hx => nomatch hx) hfX hkX hcellA (by rw [hhp, hT]; exact Nat.le_refl _) (msg := .ref sa) rfl
    (g := { method := m, pc := pc + 7, locals := ls, stack := .ref sa :: .ref T.heap.size :: .ref T.heap.size :: rest, locked := none }) rfl hsize rfl rfl (rest := rest) rfl
    (by rw [hb]; exact d7) (by rw [hb]; exact d10) hout hRframes (by simp only [List.map_cons, List.sum_cons, hcat]; omega) hlocks
  obtain ⟨f1, f2⟩ := vx_frame hsame
  rw [hhp] at f1 f2
  have hWs : s.WarmedH U.vm := State.WarmedH.trans hW0 hW
  have hcl : s.vm.findClass cls = some ce.cls := by
    have h9 := hO.cls
    rw [hvm] at h9
    exact h9
  have hall : s.sameButNew ({ U with vm := s.vm } : State) locs mc ms := by
    subst hA
    obtain ⟨e1, e2⟩ := hsame
    rw [State.setFrames_setFrames] at e1
    have h2 : (T.setVm s.vm).sameButNew ({ U with vm := s.vm } : State) [] (0 + 1) (0 + 6) := ⟨e1, e2⟩
    have h3 := X.same.trans h2
    rw [List.append_nil] at h3
    exact h3.mono hc hs
  refine ⟨U, ?_, .threw T.heap.size, hrun, hend, Or.inr ⟨T.heap.size, rfl, cls, ce, locs, hx U hWs.alike f1 (fun q hq => f2 q hq (fun z hz => nomatch hz)), hce, hO.vm, hcl, hWs, hall, hf⟩⟩
  refine st1 _ ?_
  show Steps p.tables e below (T1.setTop { method := m, pc := pc + 3, locals := ls, stack := .ref T.heap.size :: rest, locked := none }) _
  jvm_step X₁.here [X₁.here.top, hexec, d3', Value.category]
  exact X₁.ldcStringW hexec (own := own) (text := text) (index := is) (a := sa) hown' hstr'.1 hstr'.2
    (g := { method := m, pc := pc + 4, locals := ls, stack := .ref T.heap.size :: .ref T.heap.size :: rest, locked := none }) rfl d4' _ hsteps
end Ends
section Bodies
variable {l : Launch}
theorem vx_ofW {y : MethodName} {ws ws' : List Cond} {rm : Room} {Pc : Array Value → State → Prop} {Qc : Array Value → State → Outcome → State → Prop} {XC : String → State → State → Prop} {mc ms : Nat} {free : Addr → Prop} {cc : ByteArray} {maxL : Nat} {ret : Option FieldType}
    (hy : plainName y.cls = true) (hw : ws = Cond.code y cc maxL ret :: ws')
    (body : ∀ p e s m args below meth c s₁, BodyLoose p l y (headSpec ws rm) cc maxL ret e s m args below meth c s₁ → c.maxLocals = maxL → (∀ x ∈ c.exceptionTable.toList, False) → Pc args s →
      W p l e (headSpec ws rm).room s m args below meth c s.heap [] 0 0 (vx_MQ below Qc XC args s mc ms free) (entryFrame m args maxL)) : vx_Met l y ws rm Pc Qc XC mc ms free := by
  refine MetFree.of_bodyS (code := cc) (maxLocals := maxL) (ret := ret) hy ?_ ?_
  · intro args s m h hn
    obtain ⟨meth, c, h1, h2, h3, h4, h5, h6, -, -⟩ := Cond.code_spec hn (atoms_spec (ws := ws) h _ (by rw [hw]; exact List.mem_cons_self))
    exact ⟨meth, c, h1, h2, h3, h4, h5, h6⟩
  · intro p e s m args below meth c s₁ B hml hP _
    have hh0 : s₁.heap = s.heap := by rw [B.state]; rfl
    have ht : ∀ x ∈ c.exceptionTable.toList, False := by
      obtain ⟨meth9, c9, h1, h2, -, -, -, -, h7, -⟩ := Cond.code_spec B.named (atoms_spec (ws := ws) B.pre _ (by rw [hw]; exact List.mem_cons_self))
      cases Option.some.inj (h1.symm.trans B.method)
      cases Option.some.inj (h2.symm.trans (Stand.of_body B).code)
      intro x hx
      rw [Array.isEmpty_iff.mp h7] at hx
      cases hx
    obtain ⟨t, a1, o, b1, b2, b3⟩ := body p e s m args below meth c s₁ B hml ht hP s₁ hh0 (Stand.of_body B)
    exact ⟨t, o, a1, b1, b2, b3⟩
/-- the table of a body with handlers -/
theorem vx_table {p : Program} {x y : MethodName} {S : Spec} {cc bytes : ByteArray} {maxL maxL' : Nat} {ret ret' : Option FieldType} {e : Env} {s s₁ : State} {m : MethodId} {args : Array Value} {below : List Frame} {meth : Method} {c : Code} {hh : List (Nat × Nat × Nat × Nat)}
    (B : BodyLoose p l y S cc maxL ret e s m args below meth c s₁) (h : (Cond.codeWith y bytes maxL' ret' hh).before args s = true) : c.exceptionTable.toList = tableOf hh := by
  obtain ⟨m9, meth9, c9, hn9, h1, h2, -, -, h6, -⟩ := Cond.codeWith_spec h
  cases Option.some.inj (hn9.symm.trans B.named)
  cases Option.some.inj (h1.symm.trans B.method)
  cases Option.some.inj (h2.symm.trans (Stand.of_body B).code)
  rw [← h6, table_eq]
end Bodies
end VXA
section VXS
variable {p : Program} {l : Launch} {e : Env} {R : Room} {s : State} {m : MethodId} {args : Array Value} {below : List Frame} {meth : Method} {c : Code} {T : State} {H : Heap} {locs : List Loc} {cells slots : Nat}
abbrev vx_CSW (R : Room) (s : State) (args : Array Value) (own : String) (index : Nat) (y : MethodName) (bytes : ByteArray) (maxL : Nat) (ret : Option FieldType) (hh : List (Nat × Nat × Nat × Nat)) (ws : List Cond) (rm : Room) (mc ms n : Nat) : Prop :=
  (rm.cells = mc ∧ rm.slots = ms ∧ rm.frames + 1 ≤ R.frames ∧ 8 + (maxL + 11) + rm.locals ≤ R.locals ∧ (∀ w ∈ ws, ∀ (a' : Array Value) (U : State), s.WarmedH U.vm → w.before a' U = true) ∧ Cond.codeWith y bytes maxL ret hh ∈ ws) ∧
  (Cond.codeWith y bytes maxL ret hh).before args s = true ∧ (Cond.initialized y.cls).before args s = true ∧ (y.cls ≠ "java/lang/invoke/MethodHandle" ∧ y.cls ≠ "java/lang/invoke/VarHandle") ∧
  (∀ sig, parseMethodDescriptor y.desc = some sig → n = sig.parameters.length) ∧ (Cond.methodLink own index y).before args s = true ∧ (Cond.static y).before args s = true
theorem vx_cwSW {own : String} {index maxL mc ms : Nat} {y : MethodName} {bytes : ByteArray} {ret : Option FieldType} {hh : List (Nat × Nat × Nat × Nat)} {Ts ws ws' : List Cond} {rm : Room} (n : Nat) (ht : ∀ w ∈ Ts, w.before args s = true) (hT : GoodIn Ts (va_wsS own index y ws)) (hw : ws = Cond.codeWith y bytes maxL ret hh :: ws') (hrc : rm.cells = mc) (hrs : rm.slots = ms)
    (hd : y.cls ≠ "java/lang/invoke/MethodHandle" ∧ y.cls ≠ "java/lang/invoke/VarHandle" ∧ (parseMethodDescriptor y.desc).map (fun d => d.parameters.length) = some n) (hR : rm.frames + 1 ≤ R.frames ∧ 8 + (maxL + 11) + rm.locals ≤ R.locals) :
    vx_CSW R s args own index y bytes maxL ret hh ws rm mc ms n := by
  have ok : ∀ w ∈ va_wsS own index y ws, w.before args s = true := fun w h => ht w (hT w h).1
  have hG : GoodIn Ts ws := fun w h => hT w (by unfold va_wsS; exact List.mem_append_right _ h)
  have hc : Cond.codeWith y bytes maxL ret hh ∈ ws := by rw [hw]; exact List.mem_cons_self
  refine ⟨⟨hrc, hrs, hR.1, hR.2, pay_in ht hG, hc⟩, ht _ (hG _ hc).1, ok _ (by simp [va_wsS]), ⟨hd.1, hd.2.1⟩, fun sig h => ?_, ok _ (by simp [va_wsS]), ok _ (by simp [va_wsS])⟩
  have h2 := hd.2.2
  rw [h] at h2
  exact (Option.some.inj h2).symm
theorem vx_callSW (X : Stand p l e R s m args below meth c T locs cells slots) (hexec : p.tables.exec = Jvm.exec) {own : String} {index : Nat} {y : MethodName} {bytes : ByteArray} {maxL : Nat} {ret : Option FieldType} {hh : List (Nat × Nat × Nat × Nat)}
    (hown : s.vm.findClass own = some m.cls) (hlink : (Cond.methodLink own index y).before args s = true) (hstat : (Cond.static y).before args s = true) (hinit : (Cond.initialized y.cls).before args s = true)
    (hcode : (Cond.codeWith y bytes maxL ret hh).before args s = true) (hy : y.cls ≠ "java/lang/invoke/MethodHandle" ∧ y.cls ≠ "java/lang/invoke/VarHandle")
    {W9 : Nat} {Pre : Pt → Array Value → Prop} {Post : Pt → Array Value → Option Value → Pt → Prop} (hK : Back l R p e below s args y 3 W9 Pre Post)
    {g : JFrame} (hg : g.method = m) (hsize : g.locals.size = c.maxLocals) {argsL rest : List Value} (hlen : ∀ sig, parseMethodDescriptor y.desc = some sig → argsL.length = sig.parameters.length)
    (hstack : g.stack = argsL.reverse ++ rest) (hW : 2 * g.monitorRoom + (rest.map fun v => v.category).sum ≤ W9) (hdg : decode c.code g.pc = .ok (.invokestatic index, 3))
    (hpre : ∀ vm₁, s.WarmedH vm₁ → Pre ⟨T.setVm vm₁, locs, cells, slots⟩ argsL.toArray) :
    ∃ (v : Option Value) (vm₁ : Vm) (B : Pt), s.WarmedH vm₁ ∧ Stand p l e R s m args below meth c B.U B.locs B.cells B.slots ∧ Post ⟨T.setVm vm₁, locs, cells, slots⟩ argsL.toArray v B ∧
      ∀ target, Steps p.tables e below (B.U.setTop { g with pc := g.pc + 3, stack := v.toList ++ rest }) target → Steps p.tables e below (T.setTop g) target := by
  obtain ⟨mk, methM, cM, hnamed, hmethM, -, -, -, -, -, -, hsigM⟩ := Cond.codeWith_spec hcode
  have hstatic : methM.isStatic = true := Cond.static_spec hnamed hmethM hstat
  obtain ⟨kP, hkP, -⟩ := className_of_methodNamed hnamed
  have hinitP : kP.init = .initialized := Cond.initialized_spec (findClass_of_methodNamed hnamed) hkP hinit
  obtain ⟨vm₁, X₁, hstep₁⟩ := X.invokestatic hexec hown hlink hnamed hmethM hstatic hkP hinitP hy (g := g) hg (argsL := argsL) (rest := rest) (hlen _ hsigM) hstack hdg
  obtain ⟨v, B, X', hpost, hsteps⟩ := hK m meth c ⟨T.setVm vm₁, locs, cells, slots⟩ { g with stack := rest } (.invokestatic index) mk argsL.toArray X₁ hg hsize hdg hW (X₁.named hnamed) (hpre vm₁ X₁.warmed)
  exact ⟨v, vm₁, B, X₁.warmed, X', hpost, fun target h => hstep₁ _ fun acts => by rw [doInvoke_state]; exact hsteps.trans h⟩
theorem vx_runSW {y : MethodName} {bytes cc : ByteArray} {maxL nL mc ms n index : Nat} {ret : Option FieldType} {hh : List (Nat × Nat × Nat × Nat)} {ws : List Cond} {rm : Room} {Pc : Array Value → State → Prop} {Qc : Array Value → State → Outcome → State → Prop} {free : Addr → Prop} {Ts : List Cond} {own : String} {As rest : List Value} {g : JFrame}
    (S : CallFix p m c cc nL s args Ts own) (hM : Met l y ws rm Pc Qc mc ms free) (cw : vx_CSW R s args own index y bytes maxL ret hh ws rm mc ms n) (hp : PreS s H Pc As)
    (hg : g.method = m) (hn : As.length = n) (hsize : g.locals.size = nL) (hstack : g.stack = As.reverse ++ rest) (hW : 2 * g.monitorRoom + (rest.map fun v => v.category).sum ≤ 8) (hdg : decode cc g.pc = .ok (.invokestatic index, 3)) (hf : cells + mc ≤ R.cells ∧ slots + ms ≤ R.slots) :
    va_Run p l e R s m args below meth c H locs cells slots mc ms g rest (Qc As.toArray) (free) := by
  obtain ⟨⟨hrc, hrs, hfr, hlo, hws, hcw⟩, hcode, hini, hy, hlen, hl, hstt⟩ := cw
  have hK : Back l R p e below s args y 3 8 (PreOf R mc ms Pc) (PostOf Qc mc ms free) := va_backW (hh := hh) (bytes := bytes) (maxL := maxL) (ret := ret) hM hp.1 hrc hrs hfr hlo hws hcw (fun a' U hW => word_at hW (Or.inl (by first | rfl | simp [Cond.onTables, Cond.keeps, Cond.steady])) hini)
  obtain ⟨hx, hb, hml, ho, -⟩ := S
  intro T hT X
  obtain ⟨v, vm₁, ⟨U', l2, c2, s2⟩, hW₁, X', ⟨g', mk, t, L, e1, e2, hq, h1, hL, h2, h3⟩, st⟩ := vx_callSW X hx (hh := hh) (bytes := bytes) (maxL := maxL) (ret := ret) ho hl hstt hini hcode hy hK hg (hsize.trans hml.symm) (argsL := As) (rest := rest) (fun sig h => hn.trans (hlen sig h)) hstack hW (by rw [hb]; exact hdg)
    (fun vm₁ hW₁ => ⟨hf.1, hf.2, hp.2 (T.setVm vm₁) hT hW₁⟩)
  dsimp only [Pt.U, Pt.locs, Pt.cells, Pt.slots] at X' e1 e2 h1 h2 h3 st
  subst h1; subst h2; subst h3
  exact ⟨v, (T.setVm vm₁).calling g' mk As.toArray, t, U', L, hT, X', hL, e1, e2, hq, st⟩
/-- not caught here, past rows that name other classes: it goes on to the caller -/
theorem vx_outP {p : Program} {l : Launch} {e : Env} {R : Room} {s : State} {m : MethodId} {args : Array Value} {below : List Frame} {meth : Method} {c : Code} {H : Heap} {locs : List Loc} {cells slots : Nat} {free : Addr → Prop} {ls : Array Slot} {rest : List Value} {Qc : Array Value → State → Outcome → State → Prop} {XC : String → State → State → Prop}
    {pc : Nat} {own E : String} {ce : Cell} {q : Addr} {mc ms : Nat} (hown : s.vm.findClass own = some m.cls) (hlocks : meth.locks = false)
    (hpass : ∀ z ∈ c.exceptionTable.toList, covers z pc = false ∨ (z.catchType ≠ 0 ∧ ∃ nm : String, (Cond.classLink own z.catchType nm).before args s = true ∧ va_Nc E nm s)) (hcell : H[q]? = some ce) (hv : ce.vm = .none) (hcl : s.vm.findClass E = some ce.cls)
    (hx : ∀ t : State, t.heap = H → s.vm.Alike t.vm → XC E s t) (hf : ∀ z ∈ locs, free z.base) (hc : cells ≤ mc) (hs : slots ≤ ms) :
    vx_W p l e R s m args below meth c H locs cells slots (vx_MQ below Qc XC args s mc ms free) (F0 m pc ls rest) q := by
  intro T hT X
  have hpl : e.platform.magicAccessors = ({} : Platform).magicAccessors := by rw [X.admits.platform]
  obtain ⟨vm', hW', X', st⟩ := X.outThrough hlocks q (g := F0 m pc ls rest) rfl rfl rfl (cell := ce) (by rw [hT]; exact hcell) (by rw [hv]; rfl)
    (by obtain ⟨k9, h9, -⟩ := Vm.findClass_spec hcl; exact ⟨k9, h9⟩) (fun z hz => by
      rcases hpass z hz with h | ⟨hz0, nm, hl1, hn1⟩
      · exact Or.inl h
      · obtain ⟨c6, hc6, hcl6⟩ := Cond.classLink_spec hown hl1 e.platform hpl
        obtain ⟨a8, b8, h1, h2, h3⟩ := hn1
        cases Option.some.inj (h1.symm.trans hcl)
        cases Option.some.inj (h2.symm.trans hc6)
        exact Or.inr ⟨hz0, _, hcl6, h3⟩)
  obtain ⟨g₀, hfr⟩ := X'.frames_eq
  have hcell9 : ((T.setVm vm').setFrames (.throwing q :: below)).heap[q]? = some ce := by
    show T.heap[q]? = some ce
    rw [hT]; exact hcell
  have hend : Ended ((T.setVm vm').setFrames (.throwing q :: below)) below (.threw q) := State.frames_setFrames _ (State.cur_lt_of_frames hfr)
  refine ⟨(T.setVm vm').setFrames (.throwing q :: below), ?_, .threw q, X'.here.running, hend, Or.inr ⟨q, rfl, E, ce, locs, hx _ hT (X'.ends _).1.alike, hcell9, hv, hcl, (X'.ends _).1, (X'.ends _).2.mono hc hs, hf⟩⟩
  rw [X.pushThrowing_eq]
  exact st
/-- a thing of a world lies in the heap -/
theorem vx_lt {D : va_G} {cl : List vw_C} {ws : va_W} {H1 : Heap} (h : va_P D cl ws H1) {k : Nat} {q : Nat × va_E} (hk : ws[k]? = some q) : q.1 < H1.size := (h k q hk).lt
end VXS
section VXH
/-! vx_backW, vx_callVX, vx_callSX, vx_callVW, vx_runVW, vx_runVX, vx_runSX, vx_ofWH follow the same proofs as their sisters above (Free/Laws.lean, Shelf42/LK1.lean); vx_outP calls Shelf42/NT130.lean (outThrough). -/
section
variable {l : Launch} {R : Room} {p : Program} {e : Env} {below : List Frame} {s : State} {sargs : Array Value} {y : MethodName} {len W9 : Nat}
theorem vx_backW {ws : List Cond} {rm : Room} {Pc : Array Value → State → Prop} {Qc : Array Value → State → Outcome → State → Prop} {XC : String → State → State → Prop} {mc ms : Nat} {free : Addr → Prop} {bytes : ByteArray} {maxL : Nat} {ret : Option FieldType} {hh : List (Nat × Nat × Nat × Nat)}
    (hM : vx_Met l y ws rm Pc Qc XC mc ms free) (hblind : FrameBlind Pc) (hrc : rm.cells = mc) (hrs : rm.slots = ms)
    (hframes : rm.frames + 1 ≤ R.frames) (hlocals : W9 + (maxL + 11) + rm.locals ≤ R.locals)
    (hws : ∀ w ∈ ws, ∀ a' U, s.WarmedH U.vm → w.before a' U = true) (hcode : Cond.codeWith y bytes maxL ret hh ∈ ws) (hinit : ∀ a' U, s.WarmedH U.vm → (Cond.initialized y.cls).before a' U = true) :
    vx_Back l R p e below s sargs y len W9 (PreOf R mc ms Pc) (PostOf Qc mc ms free) (vx_Post XC mc ms free) := by
  intro m meth c A g ig mk a X hg hsize hdg hW hn hp
  have h1 : (headSpec ws rm).pre.before a A.U = true := atoms_intro fun w hw => hws w hw _ _ X.warmed
  have h2 : (Cond.codeWith y bytes maxL ret hh).before a A.U = true := hws _ hcode _ _ X.warmed
  have h3 : (Cond.initialized y.cls).before a A.U = true := hinit _ _ X.warmed
  have h4 : A.cells + (headSpec ws rm).room.cells ≤ R.cells := by rw [show (headSpec ws rm).room.cells = mc from hrc]; exact hp.1
  have h5 : A.slots + (headSpec ws rm).room.slots ≤ R.slots := by rw [show (headSpec ws rm).room.slots = ms from hrs]; exact hp.2.1
  have hPc : Pc a (A.U.calling g mk a) := hblind _ _ _ _ hp.2.2
  obtain ⟨U, Ls, c0, s0⟩ := A
  dsimp only [Pt.U, Pt.locs, Pt.cells, Pt.slots] at h1 h2 h3 h4 h5 X hn hPc ⊢
  obtain ⟨m9, methY, cY, hn9, hmY, hcY, -, hlY, -⟩ := Cond.codeWith_spec h2
  cases Option.some.inj (hn9.symm.trans hn)
  obtain ⟨kY, hkY, -⟩ := className_of_methodNamed hn
  have hinitY : kY.init = .initialized := Cond.initialized_spec (findClass_of_methodNamed hn) hkY h3
  have h : At U g.method c below := by rw [hg]; exact X.here
  have hlocals9 : W9 + (maxL + 11) + (headSpec ws rm).room.locals ≤ R.locals := hlocals
  have happ : (headSpec ws rm).appliesLoose y e.platform (U.calling g mk a) = true :=
    Spec.appliesLoose_calling (g := g) h hdg hn hkY hinitY
      (X.room_calling (g := g) (R' := (headSpec ws rm).room) hsize hmY hcY hframes (by rw [hlY]; omega) h4 h5) h1
  obtain ⟨mid, hmid⟩ := h.above
  have hfr : (U.setTop g).frames = (.java g :: mid) ++ below := by rw [State.frames_setTop' g h.top, hmid]; rfl
  obtain ⟨o, s₂, hsteps, -, hend, hq⟩ := Steps.callFree hM p X.admits X.cas X.clock (acts := []) hfr happ hPc trivial
  have hq' : vx_Q Qc XC mc ms free a (U.calling g mk a) o s₂ := hq
  rw [State.frames_setTop' g h.top] at hend
  obtain ⟨g₀, hg0⟩ := Option.isSome_iff_exists.mp h.top
  obtain ⟨r, hr⟩ := State.topJava?_eq_some.mp hg0
  have hr' : (({ U with heap := s₂.heap, slotsUsed := s₂.slotsUsed } : State).setVm s₂.vm).frames = .java g₀ :: r := hr
  rcases hq' with ⟨hqc, L, hfe, hL⟩ | ⟨q, rfl, E, ce, L, hx, hce, hcv, hcl, hW₂, hsm, hL⟩
  · obtain ⟨⟨v, rfl⟩, hW₂, e2, q2, q3, q4, q5, q6⟩ := id hfe
    have e3 : s₂ = ({ (U.calling g mk a).setFrames s₂.frames with heap := s₂.heap, slotsUsed := s₂.slotsUsed } : State).setVm s₂.vm := by
      have : s₂ = ({ s₂ with vm := (U.calling g mk a).vm } : State).setVm s₂.vm := rfl
      rw [e2] at this
      exact this
    obtain ⟨c₂, i₂, len₂, hc₂, hd₂, hf₂⟩ := hend
    have hW' : U.WarmedH s₂.vm := hW₂
    have hcc : c₂ = c := by
      have h1 : s₂.code? g.method = U.code? g.method := by
        rw [State.code?_eq, State.code?_eq, hW'.alike.method?]
      exact Option.some.inj (hc₂.symm.trans (h1.trans h.code))
    subst hcc
    have hlen : len₂ = len := by rw [hdg] at hd₂; cases hd₂; rfl
    subst hlen
    have hs₂ : s₂ = (({ U with heap := s₂.heap, slotsUsed := s₂.slotsUsed } : State).setVm s₂.vm).setTop { g with pc := g.pc + len₂, stack := v.toList ++ g.stack } := by
      refine e3.trans ?_
      rw [hf₂, State.calling_eq h.top, State.setFrames_setFrames, State.setTop_of_frames _ hr', hr]
      rfl
    have hsame : U.sameButNew ({ U with heap := s₂.heap, slotsUsed := s₂.slotsUsed } : State) L mc ms := by
      refine ⟨?_, q2, q3, q4, q5, q6⟩
      obtain ⟨t, ht, -⟩ := State.frames_cons hr
      show ({ U with heap := s₂.heap, slotsUsed := s₂.slotsUsed } : State) = { U.setFrames U.frames with heap := s₂.heap, slotsUsed := s₂.slotsUsed }
      rw [State.setFrames_self ht]
    subst hg
    refine Or.inl ⟨v, ⟨(({ U with heap := s₂.heap, slotsUsed := s₂.slotsUsed } : State).setVm s₂.vm), Ls ++ L, c0 + mc, s0 + ms⟩,
      ⟨X.admits, X.cas, X.clock, X.frames, X.room, X.hears, X.method, X.code, (X.here.setHeapUsed s₂.heap s₂.slotsUsed).setVm hW'.alike, X.tail, State.WarmedH.trans X.warmed hW', X.limits, X.bytes, X.same.trans (hsame.setVm s.vm)⟩,
      ⟨g, mk, s₂, L, rfl, rfl, hqc, rfl, hL, rfl, rfl⟩, ?_⟩
    show Steps p.tables e below _ ((({ U with heap := s₂.heap, slotsUsed := s₂.slotsUsed } : State).setVm s₂.vm).setTop { g with pc := g.pc + len₂, stack := v.toList ++ g.stack })
    rw [← hs₂]
    exact hsteps
  · obtain ⟨e2, q2, q3, q4, q5, q6⟩ := id hsm
    have e3 : s₂ = ({ (U.calling g mk a).setFrames s₂.frames with heap := s₂.heap, slotsUsed := s₂.slotsUsed } : State).setVm s₂.vm := by
      have : s₂ = ({ s₂ with vm := (U.calling g mk a).vm } : State).setVm s₂.vm := rfl
      rw [e2] at this
      exact this
    have hf₂ : s₂.frames = .throwing q :: .java g :: U.frames.tail := hend
    have hW' : U.WarmedH s₂.vm := hW₂
    have hs₂ : s₂ = ((({ U with heap := s₂.heap, slotsUsed := s₂.slotsUsed } : State).setVm s₂.vm).setTop g).pushFrame (.throwing q) := by
      refine e3.trans ?_
      rw [hf₂, State.calling_eq h.top, State.setFrames_setFrames, State.pushFrame, State.frames_setTop _ hr', State.setTop_of_frames _ hr', State.setFrames_setFrames, hr]
      rfl
    have hsame : U.sameButNew ({ U with heap := s₂.heap, slotsUsed := s₂.slotsUsed } : State) L mc ms := by
      refine ⟨?_, q2, q3, q4, q5, q6⟩
      obtain ⟨t, ht, -⟩ := State.frames_cons hr
      show ({ U with heap := s₂.heap, slotsUsed := s₂.slotsUsed } : State) = { U.setFrames U.frames with heap := s₂.heap, slotsUsed := s₂.slotsUsed }
      rw [State.setFrames_self ht]
    subst hg
    refine Or.inr ⟨q, ⟨(({ U with heap := s₂.heap, slotsUsed := s₂.slotsUsed } : State).setVm s₂.vm), Ls ++ L, c0 + mc, s0 + ms⟩,
      ⟨X.admits, X.cas, X.clock, X.frames, X.room, X.hears, X.method, X.code, (X.here.setHeapUsed s₂.heap s₂.slotsUsed).setVm hW'.alike, X.tail, State.WarmedH.trans X.warmed hW', X.limits, X.bytes, X.same.trans (hsame.setVm s.vm)⟩,
      ⟨g, mk, s₂, L, E, ce, rfl, rfl, hx, hce, hcv, hcl, rfl, hL, rfl, rfl⟩, ?_⟩
    show Steps p.tables e below _ (((({ U with heap := s₂.heap, slotsUsed := s₂.slotsUsed } : State).setVm s₂.vm).setTop g).pushFrame (.throwing q))
    rw [← hs₂]
    exact hsteps
end
variable {p : Program} {l : Launch} {e : Env} {R : Room} {s : State} {m : MethodId} {args : Array Value} {below : List Frame} {meth : Method} {c : Code} {T : State} {H : Heap} {locs : List Loc} {cells slots : Nat}
theorem vx_callVX (X : Stand p l e R s m args below meth c T locs cells slots) (hexec : p.tables.exec = Jvm.exec) {own C : String} {index : Nat} {y : MethodName} {bytes : ByteArray} {maxL : Nat} {ret : Option FieldType} {hh : List (Nat × Nat × Nat × Nat)}
    (hown : s.vm.findClass own = some m.cls) (hlink : (Cond.methodLink own index y).before args s = true) (hinst : (Cond.instanceMethod y).before args s = true) (hsel : (Cond.selects C y y).before args s = true)
    (hcode : (Cond.codeWith y bytes maxL ret hh).before args s = true) (hy : y.cls ≠ "java/lang/invoke/MethodHandle" ∧ y.cls ≠ "java/lang/invoke/VarHandle")
    {W9 : Nat} {Pre : Pt → Array Value → Prop} {Post : Pt → Array Value → Option Value → Pt → Prop} {PostX : Pt → Array Value → Addr → Pt → Prop} (hK : vx_Back l R p e below s args y 3 W9 Pre Post PostX)
    {b : Addr} {cellB : Cell} (hcell : T.heap[b]? = some cellB) (hobj : cellB.vm.isStatics = false) (hcls : s.vm.findClass C = some cellB.cls)
    {g : JFrame} (hg : g.method = m) (hsize : g.locals.size = c.maxLocals) {argsL rest : List Value} (hlen : ∀ sig, parseMethodDescriptor y.desc = some sig → argsL.length = sig.parameters.length)
    (hstack : g.stack = argsL.reverse ++ .ref b :: rest) (hW : 2 * g.monitorRoom + (rest.map fun v => v.category).sum ≤ W9) (hdg : decode c.code g.pc = .ok (.invokevirtual index, 3))
    (hpre : ∀ vm₁, s.WarmedH vm₁ → Pre ⟨T.setVm vm₁, locs, cells, slots⟩ (Value.ref b :: argsL).toArray) :
    (∃ (v : Option Value) (vm₁ : Vm) (B : Pt), s.WarmedH vm₁ ∧ Stand p l e R s m args below meth c B.U B.locs B.cells B.slots ∧ Post ⟨T.setVm vm₁, locs, cells, slots⟩ (Value.ref b :: argsL).toArray v B ∧
      ∀ target, Steps p.tables e below (B.U.setTop { g with pc := g.pc + 3, stack := v.toList ++ rest }) target → Steps p.tables e below (T.setTop g) target) ∨
    (∃ (q : Addr) (vm₁ : Vm) (B : Pt), s.WarmedH vm₁ ∧ Stand p l e R s m args below meth c B.U B.locs B.cells B.slots ∧ PostX ⟨T.setVm vm₁, locs, cells, slots⟩ (Value.ref b :: argsL).toArray q B ∧
      Steps p.tables e below (T.setTop g) ((B.U.setTop { g with stack := rest }).pushFrame (.throwing q))) := by
  obtain ⟨mk, methM, hnamed, hmethM, hstM, habM⟩ := Cond.instanceMethod_spec hinst
  obtain ⟨m8, methM', cM, hn8, hmethM', -, -, -, -, -, -, hsigM⟩ := Cond.codeWith_spec hcode
  cases Option.some.inj (hn8.symm.trans hnamed)
  cases hmethM.symm.trans hmethM'
  obtain ⟨c2, r2, m2, q1, q2, q3, q4, kP, hkP, hkPi⟩ := Cond.selects_spec hsel
  cases hcls.symm.trans q1
  cases (State.methodFound?_of_named hnamed hy).symm.trans q2
  cases hnamed.symm.trans q3
  have hselP : selectMethod e.platform s.vm cellB.cls mk = .method mk := by rw [Launch.admits_selectMethod X.admits]; exact q4
  obtain ⟨vm₁, X₁, hstep₁⟩ := X.invokevirtual hexec hown hlink hnamed hmethM hstM hkP hkPi hy (a := b) (cell := cellB) hcell
    (fun z h => by rw [h] at hobj; cases hobj) hselP hmethM habM hkP hkPi (g := g) hg (argsL := argsL) (rest := rest) (hlen _ hsigM) hstack hdg
  rcases hK m meth c ⟨T.setVm vm₁, locs, cells, slots⟩ { g with stack := rest } (.invokevirtual index) mk (Value.ref b :: argsL).toArray X₁ hg hsize hdg hW (X₁.named hnamed) (hpre vm₁ X₁.warmed) with ⟨v, B, X', hpost, hsteps⟩ | ⟨q, B, X', hpost, hsteps⟩
  · exact Or.inl ⟨v, vm₁, B, X₁.warmed, X', hpost, fun target h => hstep₁ _ fun acts => by rw [doInvoke_state]; exact hsteps.trans h⟩
  · exact Or.inr ⟨q, vm₁, B, X₁.warmed, X', hpost, hstep₁ _ fun acts => by rw [doInvoke_state]; exact hsteps⟩
theorem vx_callSX (X : Stand p l e R s m args below meth c T locs cells slots) (hexec : p.tables.exec = Jvm.exec) {own : String} {index : Nat} {y : MethodName} {bytes : ByteArray} {maxL : Nat} {ret : Option FieldType} {hh : List (Nat × Nat × Nat × Nat)}
    (hown : s.vm.findClass own = some m.cls) (hlink : (Cond.methodLink own index y).before args s = true) (hstat : (Cond.static y).before args s = true) (hinit : (Cond.initialized y.cls).before args s = true)
    (hcode : (Cond.codeWith y bytes maxL ret hh).before args s = true) (hy : y.cls ≠ "java/lang/invoke/MethodHandle" ∧ y.cls ≠ "java/lang/invoke/VarHandle")
    {W9 : Nat} {Pre : Pt → Array Value → Prop} {Post : Pt → Array Value → Option Value → Pt → Prop} {PostX : Pt → Array Value → Addr → Pt → Prop} (hK : vx_Back l R p e below s args y 3 W9 Pre Post PostX)
    {g : JFrame} (hg : g.method = m) (hsize : g.locals.size = c.maxLocals) {argsL rest : List Value} (hlen : ∀ sig, parseMethodDescriptor y.desc = some sig → argsL.length = sig.parameters.length)
    (hstack : g.stack = argsL.reverse ++ rest) (hW : 2 * g.monitorRoom + (rest.map fun v => v.category).sum ≤ W9) (hdg : decode c.code g.pc = .ok (.invokestatic index, 3))
    (hpre : ∀ vm₁, s.WarmedH vm₁ → Pre ⟨T.setVm vm₁, locs, cells, slots⟩ argsL.toArray) :
    (∃ (v : Option Value) (vm₁ : Vm) (B : Pt), s.WarmedH vm₁ ∧ Stand p l e R s m args below meth c B.U B.locs B.cells B.slots ∧ Post ⟨T.setVm vm₁, locs, cells, slots⟩ argsL.toArray v B ∧
      ∀ target, Steps p.tables e below (B.U.setTop { g with pc := g.pc + 3, stack := v.toList ++ rest }) target → Steps p.tables e below (T.setTop g) target) ∨
    (∃ (q : Addr) (vm₁ : Vm) (B : Pt), s.WarmedH vm₁ ∧ Stand p l e R s m args below meth c B.U B.locs B.cells B.slots ∧ PostX ⟨T.setVm vm₁, locs, cells, slots⟩ argsL.toArray q B ∧
      Steps p.tables e below (T.setTop g) ((B.U.setTop { g with stack := rest }).pushFrame (.throwing q))) := by
  obtain ⟨mk, methM, cM, hnamed, hmethM, -, -, -, -, -, -, hsigM⟩ := Cond.codeWith_spec hcode
  have hstatic : methM.isStatic = true := Cond.static_spec hnamed hmethM hstat
  obtain ⟨kP, hkP, -⟩ := className_of_methodNamed hnamed
  have hinitP : kP.init = .initialized := Cond.initialized_spec (findClass_of_methodNamed hnamed) hkP hinit
  obtain ⟨vm₁, X₁, hstep₁⟩ := X.invokestatic hexec hown hlink hnamed hmethM hstatic hkP hinitP hy (g := g) hg (argsL := argsL) (rest := rest) (hlen _ hsigM) hstack hdg
  rcases hK m meth c ⟨T.setVm vm₁, locs, cells, slots⟩ { g with stack := rest } (.invokestatic index) mk argsL.toArray X₁ hg hsize hdg hW (X₁.named hnamed) (hpre vm₁ X₁.warmed) with ⟨v, B, X', hpost, hsteps⟩ | ⟨q, B, X', hpost, hsteps⟩
  · exact Or.inl ⟨v, vm₁, B, X₁.warmed, X', hpost, fun target h => hstep₁ _ fun acts => by rw [doInvoke_state]; exact hsteps.trans h⟩
  · exact Or.inr ⟨q, vm₁, B, X₁.warmed, X', hpost, hstep₁ _ fun acts => by rw [doInvoke_state]; exact hsteps⟩
theorem vx_callVW (X : Stand p l e R s m args below meth c T locs cells slots) (hexec : p.tables.exec = Jvm.exec) {own C : String} {index : Nat} {y : MethodName} {bytes : ByteArray} {maxL : Nat} {ret : Option FieldType} {hh : List (Nat × Nat × Nat × Nat)}
    (hown : s.vm.findClass own = some m.cls) (hlink : (Cond.methodLink own index y).before args s = true) (hinst : (Cond.instanceMethod y).before args s = true) (hsel : (Cond.selects C y y).before args s = true)
    (hcode : (Cond.codeWith y bytes maxL ret hh).before args s = true) (hy : y.cls ≠ "java/lang/invoke/MethodHandle" ∧ y.cls ≠ "java/lang/invoke/VarHandle")
    {W9 : Nat} {Pre : Pt → Array Value → Prop} {Post : Pt → Array Value → Option Value → Pt → Prop} (hK : Back l R p e below s args y 3 W9 Pre Post)
    {b : Addr} {cellB : Cell} (hcell : T.heap[b]? = some cellB) (hobj : cellB.vm.isStatics = false) (hcls : s.vm.findClass C = some cellB.cls)
    {g : JFrame} (hg : g.method = m) (hsize : g.locals.size = c.maxLocals) {argsL rest : List Value} (hlen : ∀ sig, parseMethodDescriptor y.desc = some sig → argsL.length = sig.parameters.length)
    (hstack : g.stack = argsL.reverse ++ .ref b :: rest) (hW : 2 * g.monitorRoom + (rest.map fun v => v.category).sum ≤ W9) (hdg : decode c.code g.pc = .ok (.invokevirtual index, 3))
    (hpre : ∀ vm₁, s.WarmedH vm₁ → Pre ⟨T.setVm vm₁, locs, cells, slots⟩ (Value.ref b :: argsL).toArray) :
    ∃ (v : Option Value) (vm₁ : Vm) (B : Pt), s.WarmedH vm₁ ∧ Stand p l e R s m args below meth c B.U B.locs B.cells B.slots ∧ Post ⟨T.setVm vm₁, locs, cells, slots⟩ (Value.ref b :: argsL).toArray v B ∧
      ∀ target, Steps p.tables e below (B.U.setTop { g with pc := g.pc + 3, stack := v.toList ++ rest }) target → Steps p.tables e below (T.setTop g) target := by
  obtain ⟨mk, methM, hnamed, hmethM, hstM, habM⟩ := Cond.instanceMethod_spec hinst
  obtain ⟨m8, methM', cM, hn8, hmethM', -, -, -, -, -, -, hsigM⟩ := Cond.codeWith_spec hcode
  cases Option.some.inj (hn8.symm.trans hnamed)
  cases hmethM.symm.trans hmethM'
  obtain ⟨c2, r2, m2, q1, q2, q3, q4, kP, hkP, hkPi⟩ := Cond.selects_spec hsel
  cases hcls.symm.trans q1
  cases (State.methodFound?_of_named hnamed hy).symm.trans q2
  cases hnamed.symm.trans q3
  have hselP : selectMethod e.platform s.vm cellB.cls mk = .method mk := by rw [Launch.admits_selectMethod X.admits]; exact q4
  obtain ⟨vm₁, X₁, hstep₁⟩ := X.invokevirtual hexec hown hlink hnamed hmethM hstM hkP hkPi hy (a := b) (cell := cellB) hcell
    (fun z h => by rw [h] at hobj; cases hobj) hselP hmethM habM hkP hkPi (g := g) hg (argsL := argsL) (rest := rest) (hlen _ hsigM) hstack hdg
  obtain ⟨v, B, X', hpost, hsteps⟩ := hK m meth c ⟨T.setVm vm₁, locs, cells, slots⟩ { g with stack := rest } (.invokevirtual index) mk (Value.ref b :: argsL).toArray X₁ hg hsize hdg hW (X₁.named hnamed) (hpre vm₁ X₁.warmed)
  exact ⟨v, vm₁, B, X₁.warmed, X', hpost, fun target h => hstep₁ _ fun acts => by rw [doInvoke_state]; exact hsteps.trans h⟩
abbrev vx_CVW (R : Room) (s : State) (args : Array Value) (own C : String) (index : Nat) (y : MethodName) (bytes : ByteArray) (maxL : Nat) (ret : Option FieldType) (hh : List (Nat × Nat × Nat × Nat)) (ws : List Cond) (rm : Room) (mc ms n : Nat) : Prop :=
  (rm.cells = mc ∧ rm.slots = ms ∧ rm.frames + 1 ≤ R.frames ∧ 8 + (maxL + 11) + rm.locals ≤ R.locals ∧ (∀ w ∈ ws, ∀ (a' : Array Value) (U : State), s.WarmedH U.vm → w.before a' U = true) ∧ Cond.codeWith y bytes maxL ret hh ∈ ws) ∧
  (Cond.codeWith y bytes maxL ret hh).before args s = true ∧ (Cond.initialized y.cls).before args s = true ∧ (y.cls ≠ "java/lang/invoke/MethodHandle" ∧ y.cls ≠ "java/lang/invoke/VarHandle") ∧
  (∀ sig, parseMethodDescriptor y.desc = some sig → n = sig.parameters.length) ∧ (Cond.methodLink own index y).before args s = true ∧ (Cond.instanceMethod y).before args s = true ∧ (Cond.selects C y y).before args s = true
theorem vx_cwVW {own C : String} {index maxL mc ms : Nat} {y : MethodName} {bytes : ByteArray} {ret : Option FieldType} {hh : List (Nat × Nat × Nat × Nat)} {Ts ws ws' : List Cond} {rm : Room} (n : Nat) (ht : ∀ w ∈ Ts, w.before args s = true) (hT : GoodIn Ts (wsV own index C y ws)) (hw : ws = Cond.codeWith y bytes maxL ret hh :: ws') (hrc : rm.cells = mc) (hrs : rm.slots = ms)
    (hd : y.cls = C ∧ y.cls ≠ "java/lang/invoke/MethodHandle" ∧ y.cls ≠ "java/lang/invoke/VarHandle" ∧ (parseMethodDescriptor y.desc).map (fun d => d.parameters.length) = some n) (hR : rm.frames + 1 ≤ R.frames ∧ 8 + (maxL + 11) + rm.locals ≤ R.locals) :
    vx_CVW R s args own C index y bytes maxL ret hh ws rm mc ms n := by
  obtain ⟨hC, hd⟩ := hd
  subst hC
  have ok : ∀ w ∈ wsV own index y.cls y ws, w.before args s = true := fun w h => ht w (hT w h).1
  have hG : GoodIn Ts ws := fun w h => hT w (by unfold wsV; exact List.mem_append_right _ h)
  have hc : Cond.codeWith y bytes maxL ret hh ∈ ws := by rw [hw]; exact List.mem_cons_self
  refine ⟨⟨hrc, hrs, hR.1, hR.2, pay_in ht hG, hc⟩, ht _ (hG _ hc).1, ok _ (by simp [wsV]), ⟨hd.1, hd.2.1⟩, fun sig h => ?_, ok _ (by simp [wsV]), ok _ (by simp [wsV]), ok _ (by simp [wsV])⟩
  have h2 := hd.2.2
  rw [h] at h2
  exact (Option.some.inj h2).symm
theorem vx_runVW {y : MethodName} {bytes cc : ByteArray} {maxL nL mc ms n index : Nat} {ret : Option FieldType} {hh : List (Nat × Nat × Nat × Nat)} {ws : List Cond} {rm : Room} {Pc : Array Value → State → Prop} {Qc : Array Value → State → Outcome → State → Prop} {free : Addr → Prop} {Ts : List Cond} {own C : String} {b : Addr} {As rest : List Value} {g : JFrame}
    (S : CallFix p m c cc nL s args Ts own) (hM : Met l y ws rm Pc Qc mc ms free) (cw : vx_CVW R s args own C index y bytes maxL ret hh ws rm mc ms n) (hp : PreV s H C b Pc As)
    (hg : g.method = m) (hn : As.length = n) (hsize : g.locals.size = nL) (hstack : g.stack = As.reverse ++ .ref b :: rest) (hW : 2 * g.monitorRoom + (rest.map fun v => v.category).sum ≤ 8) (hdg : decode cc g.pc = .ok (.invokevirtual index, 3)) (hf : cells + mc ≤ R.cells ∧ slots + ms ≤ R.slots) :
    va_Run p l e R s m args below meth c H locs cells slots mc ms g rest (Qc (Value.ref b :: As).toArray) free := by
  obtain ⟨⟨hrc, hrs, hfr, hlo, hws, hcw⟩, hcode, hini, hy, hlen, hl, hin, hse⟩ := cw
  have hK : Back l R p e below s args y 3 8 (PreOf R mc ms Pc) (PostOf Qc mc ms free) := va_backW (hh := hh) (bytes := bytes) (maxL := maxL) (ret := ret) hM hp.1 hrc hrs hfr hlo hws hcw (fun a' U hW => word_at hW (Or.inl (by first | rfl | simp [Cond.onTables, Cond.keeps, Cond.steady])) hini)
  obtain ⟨hx, hb, hml, ho, -⟩ := S
  obtain ⟨-, ⟨cellB, hcB, hoB, hclB⟩, hPc⟩ := hp
  intro T hT X
  obtain ⟨v, vm₁, ⟨U', l2, c2, s2⟩, hW₁, X', ⟨g', mk, t, L, e1, e2, hq, h1, hL, h2, h3⟩, st⟩ := vx_callVW X hx (C := C) (hh := hh) (bytes := bytes) (maxL := maxL) (ret := ret) ho hl hin hse hcode hy hK (by rw [hT]; exact hcB) hoB hclB hg (hsize.trans hml.symm) (argsL := As) (rest := rest) (fun sig h => hn.trans (hlen sig h)) hstack hW (by rw [hb]; exact hdg)
    (fun vm₁ hW₁ => ⟨hf.1, hf.2, hPc (T.setVm vm₁) hT hW₁⟩)
  dsimp only [Pt.U, Pt.locs, Pt.cells, Pt.slots] at X' e1 e2 h1 h2 h3 st
  subst h1; subst h2; subst h3
  exact ⟨v, (T.setVm vm₁).calling g' mk (Value.ref b :: As).toArray, t, U', L, hT, X', hL, e1, e2, hq, st⟩
section
variable {y : MethodName} {bytes cc : ByteArray} {maxL nL mc ms n index : Nat} {ret : Option FieldType} {ws : List Cond} {rm : Room} {Pc : Array Value → State → Prop} {Qc : Array Value → State → Outcome → State → Prop} {XC : String → State → State → Prop} {free : Addr → Prop} {Ts : List Cond} {own C : String} {b : Addr} {As rest : List Value} {g : JFrame}
theorem vx_runVX {hh : List (Nat × Nat × Nat × Nat)} (S : CallFix p m c cc nL s args Ts own) (hM : vx_Met l y ws rm Pc Qc XC mc ms free) (cw : vx_CVW R s args own C index y bytes maxL ret hh ws rm mc ms n) (hp : PreV s H C b Pc As)
    (hg : g.method = m) (hn : As.length = n) (hsize : g.locals.size = nL) (hstack : g.stack = As.reverse ++ .ref b :: rest) (hW : 2 * g.monitorRoom + (rest.map fun v => v.category).sum ≤ 8) (hdg : decode cc g.pc = .ok (.invokevirtual index, 3)) (hf : cells + mc ≤ R.cells ∧ slots + ms ≤ R.slots) :
    vx_Run p l e R s m args below meth c H locs cells slots mc ms g rest (Qc (Value.ref b :: As).toArray) XC free := by
  obtain ⟨⟨hrc, hrs, hfr, hlo, hws, hcw⟩, hcode, hini, hy, hlen, hl, hin, hse⟩ := cw
  have hK : vx_Back l R p e below s args y 3 8 (PreOf R mc ms Pc) (PostOf Qc mc ms free) (vx_Post XC mc ms free) := vx_backW (hh := hh) (bytes := bytes) (maxL := maxL) (ret := ret) hM hp.1 hrc hrs hfr hlo hws hcw (fun a' U hW => word_at hW (Or.inl (by first | rfl | simp [Cond.onTables, Cond.keeps, Cond.steady])) hini)
  obtain ⟨hx, hb, hml, ho, -⟩ := S
  obtain ⟨-, ⟨cellB, hcB, hoB, hclB⟩, hPc⟩ := hp
  intro T hT X
  rcases vx_callVX X hx (C := C) (hh := hh) (bytes := bytes) (maxL := maxL) (ret := ret) ho hl hin hse hcode hy hK (by rw [hT]; exact hcB) hoB hclB hg (hsize.trans hml.symm) (argsL := As) (rest := rest) (fun sig h => hn.trans (hlen sig h)) hstack hW (by rw [hb]; exact hdg)
    (fun vm₁ hW₁ => ⟨hf.1, hf.2, hPc (T.setVm vm₁) hT hW₁⟩) with ⟨v, vm₁, ⟨U', l2, c2, s2⟩, hW₁, X', ⟨g', mk, t, L, e1, e2, hq, h1, hL, h2, h3⟩, st⟩ | ⟨q, vm₁, ⟨U', l2, c2, s2⟩, hW₁, X', ⟨g', mk, t, L, E, ce, e1, e2, hq, hce, hcv, hcl, h1, hL, h2, h3⟩, st⟩
  · dsimp only [Pt.U, Pt.locs, Pt.cells, Pt.slots] at X' e1 e2 h1 h2 h3 st
    subst h1; subst h2; subst h3
    exact Or.inl ⟨v, (T.setVm vm₁).calling g' mk (Value.ref b :: As).toArray, t, U', L, hT, X', hL, e1, e2, hq, st⟩
  · dsimp only [Pt.U, Pt.locs, Pt.cells, Pt.slots] at X' e1 e2 h1 h2 h3 st hcl
    subst h1; subst h2; subst h3
    exact Or.inr ⟨q, (T.setVm vm₁).calling g' mk (Value.ref b :: As).toArray, t, U', L, E, ce, hT, X', hL, e1, e2, hq, hce, hcv, vx_cls hW₁ hcl, st⟩
theorem vx_runSX {hh : List (Nat × Nat × Nat × Nat)} (S : CallFix p m c cc nL s args Ts own) (hM : vx_Met l y ws rm Pc Qc XC mc ms free) (cw : vx_CSW R s args own index y bytes maxL ret hh ws rm mc ms n) (hp : PreS s H Pc As)
    (hg : g.method = m) (hn : As.length = n) (hsize : g.locals.size = nL) (hstack : g.stack = As.reverse ++ rest) (hW : 2 * g.monitorRoom + (rest.map fun v => v.category).sum ≤ 8) (hdg : decode cc g.pc = .ok (.invokestatic index, 3)) (hf : cells + mc ≤ R.cells ∧ slots + ms ≤ R.slots) :
    vx_Run p l e R s m args below meth c H locs cells slots mc ms g rest (Qc As.toArray) XC free := by
  obtain ⟨⟨hrc, hrs, hfr, hlo, hws, hcw⟩, hcode, hini, hy, hlen, hl, hstt⟩ := cw
  have hK : vx_Back l R p e below s args y 3 8 (PreOf R mc ms Pc) (PostOf Qc mc ms free) (vx_Post XC mc ms free) := vx_backW (hh := hh) (bytes := bytes) (maxL := maxL) (ret := ret) hM hp.1 hrc hrs hfr hlo hws hcw (fun a' U hW => word_at hW (Or.inl (by first | rfl | simp [Cond.onTables, Cond.keeps, Cond.steady])) hini)
  obtain ⟨hx, hb, hml, ho, -⟩ := S
  intro T hT X
  rcases vx_callSX X hx (hh := hh) (bytes := bytes) (maxL := maxL) (ret := ret) ho hl hstt hini hcode hy hK hg (hsize.trans hml.symm) (argsL := As) (rest := rest) (fun sig h => hn.trans (hlen sig h)) hstack hW (by rw [hb]; exact hdg)
    (fun vm₁ hW₁ => ⟨hf.1, hf.2, hp.2 (T.setVm vm₁) hT hW₁⟩) with ⟨v, vm₁, ⟨U', l2, c2, s2⟩, hW₁, X', ⟨g', mk, t, L, e1, e2, hq, h1, hL, h2, h3⟩, st⟩ | ⟨q, vm₁, ⟨U', l2, c2, s2⟩, hW₁, X', ⟨g', mk, t, L, E, ce, e1, e2, hq, hce, hcv, hcl, h1, hL, h2, h3⟩, st⟩
  · dsimp only [Pt.U, Pt.locs, Pt.cells, Pt.slots] at X' e1 e2 h1 h2 h3 st
    subst h1; subst h2; subst h3
    exact Or.inl ⟨v, (T.setVm vm₁).calling g' mk As.toArray, t, U', L, hT, X', hL, e1, e2, hq, st⟩
  · dsimp only [Pt.U, Pt.locs, Pt.cells, Pt.slots] at X' e1 e2 h1 h2 h3 st hcl
    subst h1; subst h2; subst h3
    exact Or.inr ⟨q, (T.setVm vm₁).calling g' mk As.toArray, t, U', L, E, ce, hT, X', hL, e1, e2, hq, hce, hcv, vx_cls hW₁ hcl, st⟩
end
end VXH
theorem vx_ofWH {l : Launch} {y : MethodName} {ws ws' : List Cond} {rm : Room} {Pc : Array Value → State → Prop} {Qc : Array Value → State → Outcome → State → Prop} {XC : String → State → State → Prop} {mc ms : Nat} {free : Addr → Prop} {cc : ByteArray} {maxL : Nat} {ret : Option FieldType} {hh : List (Nat × Nat × Nat × Nat)}
    (hy : plainName y.cls = true) (hw : ws = Cond.codeWith y cc maxL ret hh :: ws')
    (body : ∀ p e s m args below meth c s₁, BodyLoose p l y (headSpec ws rm) cc maxL ret e s m args below meth c s₁ → c.maxLocals = maxL → Pc args s →
      W p l e (headSpec ws rm).room s m args below meth c s.heap [] 0 0 (vx_MQ below Qc XC args s mc ms free) (entryFrame m args maxL)) : vx_Met l y ws rm Pc Qc XC mc ms free := by
  refine MetFree.of_bodyS (code := cc) (maxLocals := maxL) (ret := ret) hy ?_ ?_
  · intro args s m h hn
    obtain ⟨m9, meth, c, hn9, h1, h2, h3, h4, -, h5, h6, -⟩ := Cond.codeWith_spec (atoms_spec (ws := ws) h _ (by rw [hw]; exact List.mem_cons_self))
    cases hn.symm.trans hn9
    exact ⟨meth, c, h1, h2, h3, h4, h5, h6⟩
  · intro p e s m args below meth c s₁ B hml hP _
    have hh0 : s₁.heap = s.heap := by rw [B.state]; rfl
    obtain ⟨t, a1, o, b1, b2, b3⟩ := body p e s m args below meth c s₁ B hml hP s₁ hh0 (Stand.of_body B)
    exact ⟨t, o, a1, b1, b2, b3⟩
def RX0 : String := "LateDoves$Cote"
def TX0 : u_T := fun k => match k with
  | 0 => ("LateDoves$Cote", "doves", "[[I", true)
  | 1 => ("LateDoves$Cote", "holes", "[[I", true)
  | 2 => ("LateDoves$Cote", "settings", "[I", true)
  | 3 => ("LateDoves$Cote", "atDawn", "[I", true)
  | 4 => ("LateDoves$Cote", "stop", "[I", true)
  | 5 => ("LateDoves$Cote", "way", "LLateDoves$Way;", true)
  | 6 => ("LateDoves$Cote", "day", "I", false)
  | 7 => ("LateDoves$Cote", "time", "I", false)
  | 8 => ("LateDoves$Cote", "shifts", "I", false)
  | _ => ("LateDoves$Cote", "quarrels", "I", false)
def tyX0 : Nat → FieldType := fun k => match k with
  | 0 => .array (.array .int)
  | 1 => .array (.array .int)
  | 2 => .array .int
  | 3 => .array .int
  | 4 => .array .int
  | 5 => .object "LateDoves$Way"
  | 6 => .int
  | 7 => .int
  | 8 => .int
  | _ => .int
abbrev wsX00 : List Cond := u_ws RX0 TX0 10
theorem nmX0 : ∀ a, a < 10 → ∀ b, b < 10 → a ≠ b → (TX0 a).2.1 ≠ (TX0 b).2.1 := by decide +kernel
theorem tyX0_ok : ∀ k, k < 10 → parseFieldDescriptor (TX0 k).2.2.1 = some (tyX0 k) := by decide +kernel
abbrev cX0_init : ByteArray := prog_2_method_1_code
def yX0_init : MethodName := ⟨RX0, "<init>", "()V"⟩
abbrev cX0_copyFrom : ByteArray := prog_2_method_2_code
def yX0_copyFrom : MethodName := ⟨RX0, "copyFrom", "(LLateDoves$Cote;)V"⟩
abbrev cX0_exists : ByteArray := prog_2_method_3_code
def yX0_exists : MethodName := ⟨RX0, "exists", "(I)Z"⟩
abbrev cX0_isOpen : ByteArray := prog_2_method_4_code
def yX0_isOpen : MethodName := ⟨RX0, "isOpen", "(I)Z"⟩
abbrev cX0_isFree : ByteArray := prog_2_method_5_code
def yX0_isFree : MethodName := ⟨RX0, "isFree", "(I)Z"⟩
abbrev cX0_numberOf : ByteArray := prog_2_method_6_code
def yX0_numberOf : MethodName := ⟨RX0, "numberOf", "(I)I"⟩
abbrev cX0_doveCount : ByteArray := prog_2_method_7_code
def yX0_doveCount : MethodName := ⟨RX0, "doveCount", "()I"⟩
abbrev cX0_sittingByDoves : ByteArray := prog_2_method_8_code
def yX0_sittingByDoves : MethodName := ⟨RX0, "sittingByDoves", "()I"⟩
abbrev cX0_sittingByHoles : ByteArray := prog_2_method_9_code
def yX0_sittingByHoles : MethodName := ⟨RX0, "sittingByHoles", "()I"⟩
abbrev cX0_placedAt : ByteArray := prog_2_method_10_code
def yX0_placedAt : MethodName := ⟨RX0, "placedAt", "(I)I"⟩
abbrev cX0_inOwnHoles : ByteArray := prog_2_method_11_code
def yX0_inOwnHoles : MethodName := ⟨RX0, "inOwnHoles", "()I"⟩
abbrev cX0_openHoles : ByteArray := prog_2_method_12_code
def yX0_openHoles : MethodName := ⟨RX0, "openHoles", "()I"⟩
abbrev cX0_pairs : ByteArray := prog_2_method_13_code
def yX0_pairs : MethodName := ⟨RX0, "pairs", "()I"⟩
abbrev cX0_reasonNotHome : ByteArray := prog_2_method_14_code
def yX0_reasonNotHome : MethodName := ⟨RX0, "reasonNotHome", "(II)I"⟩
abbrev cX0_reasonNotToShut : ByteArray := prog_2_method_15_code
def yX0_reasonNotToShut : MethodName := ⟨RX0, "reasonNotToShut", "(I)I"⟩
abbrev cX0_reasonNotToBuy : ByteArray := prog_2_method_16_code
def yX0_reasonNotToBuy : MethodName := ⟨RX0, "reasonNotToBuy", "(I)I"⟩
abbrev cX0_reasonNotToPair : ByteArray := prog_2_method_17_code
def yX0_reasonNotToPair : MethodName := ⟨RX0, "reasonNotToPair", "(II)I"⟩
abbrev cX0_addDove : ByteArray := prog_2_method_18_code
def yX0_addDove : MethodName := ⟨RX0, "addDove", "(II)I"⟩
abbrev cX0_removeDove : ByteArray := prog_2_method_19_code
def yX0_removeDove : MethodName := ⟨RX0, "removeDove", "(I)I"⟩
abbrev cX0_pair : ByteArray := prog_2_method_20_code
def yX0_pair : MethodName := ⟨RX0, "pair", "(II)V"⟩
abbrev cX0_setOpen : ByteArray := prog_2_method_21_code
def yX0_setOpen : MethodName := ⟨RX0, "setOpen", "(II)V"⟩
abbrev cX0_comeHome : ByteArray := prog_2_method_23_code
def yX0_comeHome : MethodName := ⟨RX0, "comeHome", "(II)I"⟩
abbrev cX0_enterOwnHole : ByteArray := prog_2_method_24_code
def yX0_enterOwnHole : MethodName := ⟨RX0, "enterOwnHole", "(IZ)I"⟩
abbrev cX0_settle : ByteArray := prog_2_method_25_code
def yX0_settle : MethodName := ⟨RX0, "settle", "(IZ)I"⟩
abbrev cX0_firstFreeFor : ByteArray := prog_2_method_26_code
def yX0_firstFreeFor : MethodName := ⟨RX0, "firstFreeFor", "(I)I"⟩
abbrev cX0_shiftFrom : ByteArray := prog_2_method_27_code
def yX0_shiftFrom : MethodName := ⟨RX0, "shiftFrom", "(II)I"⟩
abbrev cX0_sit : ByteArray := prog_2_method_28_code
def yX0_sit : MethodName := ⟨RX0, "sit", "(II)V"⟩
abbrev cX0_endNight : ByteArray := prog_2_method_29_code
def yX0_endNight : MethodName := ⟨RX0, "endNight", "()I"⟩
abbrev cX0_countAtDawn : ByteArray := prog_2_method_30_code
def yX0_countAtDawn : MethodName := ⟨RX0, "countAtDawn", "(I)V"⟩
def RX1 : String := "LateDoves$PartReader"
def TX1 : u_T := fun k => match k with
  | 0 => ("LateDoves$PartReader", "stage", "I", false)
  | 1 => ("LateDoves$PartReader", "kind", "I", false)
  | 2 => ("LateDoves$PartReader", "first", "I", false)
  | _ => ("LateDoves$PartReader", "second", "I", false)
def tyX1 : Nat → FieldType := fun k => match k with
  | 0 => .int
  | 1 => .int
  | 2 => .int
  | _ => .int
abbrev wsX10 : List Cond := u_ws RX1 TX1 4
theorem nmX1 : ∀ a, a < 4 → ∀ b, b < 4 → a ≠ b → (TX1 a).2.1 ≠ (TX1 b).2.1 := by decide +kernel
theorem tyX1_ok : ∀ k, k < 4 → parseFieldDescriptor (TX1 k).2.2.1 = some (tyX1 k) := by decide +kernel
abbrev cX1_init : ByteArray := prog_3_method_1_code
def yX1_init : MethodName := ⟨RX1, "<init>", "()V"⟩
def RX2 : String := "LateDoves$Way"
def TX2 : u_T := fun k => match k with
  | 0 => ("LateDoves$Way", "who", "[I", true)
  | 1 => ("LateDoves$Way", "where", "[I", true)
  | _ => ("LateDoves$Way", "size", "I", false)
def tyX2 : Nat → FieldType := fun k => match k with
  | 0 => .array .int
  | 1 => .array .int
  | _ => .int
abbrev wsX20 : List Cond := u_ws RX2 TX2 3
theorem nmX2 : ∀ a, a < 3 → ∀ b, b < 3 → a ≠ b → (TX2 a).2.1 ≠ (TX2 b).2.1 := by decide +kernel
theorem tyX2_ok : ∀ k, k < 3 → parseFieldDescriptor (TX2 k).2.2.1 = some (tyX2 k) := by decide +kernel
abbrev cX2_init : ByteArray := prog_4_method_1_code
def yX2_init : MethodName := ⟨RX2, "<init>", "()V"⟩
abbrev cX2_copyFrom : ByteArray := prog_4_method_2_code
def yX2_copyFrom : MethodName := ⟨RX2, "copyFrom", "(LLateDoves$Way;)V"⟩
abbrev cX2_note : ByteArray := prog_4_method_3_code
def yX2_note : MethodName := ⟨RX2, "note", "(II)V"⟩
def RX3 : String := "LateDoves"
def TX3 : u_T := fun k => match k with
  | 0 => ("LateDoves", "now", "LLateDoves$Cote;", true)
  | 1 => ("LateDoves", "trial", "LLateDoves$Cote;", true)
  | 2 => ("LateDoves", "snapshot", "LLateDoves$Cote;", true)
  | 3 => ("LateDoves", "hasSnapshot", "Z", false)
  | 4 => ("LateDoves", "saved", "[LLateDoves$Cote;", true)
  | 5 => ("LateDoves", "savedCount", "I", false)
  | 6 => ("LateDoves", "buffer", "[I", true)
  | 7 => ("LateDoves", "length", "I", false)
  | _ => ("LateDoves", "reader", "LLateDoves$PartReader;", true)
def tyX3 : Nat → FieldType := fun k => match k with
  | 0 => .object "LateDoves$Cote"
  | 1 => .object "LateDoves$Cote"
  | 2 => .object "LateDoves$Cote"
  | 3 => .boolean
  | 4 => .array (.object "LateDoves$Cote")
  | 5 => .int
  | 6 => .array .int
  | 7 => .int
  | _ => .object "LateDoves$PartReader"
abbrev wsX30 : List Cond := u_ws RX3 TX3 9
theorem nmX3 : ∀ a, a < 9 → ∀ b, b < 9 → a ≠ b → (TX3 a).2.1 ≠ (TX3 b).2.1 := by decide +kernel
theorem tyX3_ok : ∀ k, k < 9 → parseFieldDescriptor (TX3 k).2.2.1 = some (tyX3 k) := by decide +kernel
abbrev cX3_init : ByteArray := prog_1_method_1_code
def yX3_init : MethodName := ⟨RX3, "<init>", "()V"⟩
abbrev cX3_buy : ByteArray := prog_1_method_2_code
def yX3_buy : MethodName := ⟨RX3, "buy", "(II)I"⟩
abbrev cX3_sell : ByteArray := prog_1_method_3_code
def yX3_sell : MethodName := ⟨RX3, "sell", "(I)I"⟩
abbrev cX3_mate : ByteArray := prog_1_method_4_code
def yX3_mate : MethodName := ⟨RX3, "mate", "(II)I"⟩
abbrev cX3_shut : ByteArray := prog_1_method_5_code
def yX3_shut : MethodName := ⟨RX3, "shut", "(I)I"⟩
abbrev cX3_open : ByteArray := prog_1_method_6_code
def yX3_open : MethodName := ⟨RX3, "open", "(I)I"⟩
abbrev cX3_set : ByteArray := prog_1_method_7_code
def yX3_set : MethodName := ⟨RX3, "set", "(II)I"⟩
abbrev cX3_home : ByteArray := prog_1_method_8_code
def yX3_home : MethodName := ⟨RX3, "home", "(II)I"⟩
abbrev cX3_dawn : ByteArray := prog_1_method_9_code
def yX3_dawn : MethodName := ⟨RX3, "dawn", "()I"⟩
abbrev cX3_undo : ByteArray := prog_1_method_15_code
def yX3_undo : MethodName := ⟨RX3, "undo", "()I"⟩
abbrev cX3_restore : ByteArray := prog_1_method_17_code
def yX3_restore : MethodName := ⟨RX3, "restore", "()I"⟩
abbrev cX3_dove : ByteArray := prog_1_method_18_code
def yX3_dove : MethodName := ⟨RX3, "dove", "(II)I"⟩
abbrev cX3_hole : ByteArray := prog_1_method_19_code
def yX3_hole : MethodName := ⟨RX3, "hole", "(II)I"⟩
abbrev cX3_count : ByteArray := prog_1_method_20_code
def yX3_count : MethodName := ⟨RX3, "count", "(I)I"⟩
abbrev cX3_step : ByteArray := prog_1_method_21_code
def yX3_step : MethodName := ⟨RX3, "step", "(II)I"⟩
abbrev cX3_whyNot : ByteArray := prog_1_method_22_code
def yX3_whyNot : MethodName := ⟨RX3, "whyNot", "(II)I"⟩
abbrev cX3_ifHome : ByteArray := prog_1_method_23_code
def yX3_ifHome : MethodName := ⟨RX3, "ifHome", "(III)I"⟩
abbrev cX3_freeHole : ByteArray := prog_1_method_24_code
def yX3_freeHole : MethodName := ⟨RX3, "freeHole", "()I"⟩
abbrev cX3_lateIsAsGood : ByteArray := prog_1_method_25_code
def yX3_lateIsAsGood : MethodName := ⟨RX3, "lateIsAsGood", "()I"⟩
abbrev cX3_homeShare : ByteArray := prog_1_method_26_code
def yX3_homeShare : MethodName := ⟨RX3, "homeShare", "()D"⟩
abbrev cX3_isHole : ByteArray := prog_1_method_28_code
def yX3_isHole : MethodName := ⟨RX3, "isHole", "(I)Z"⟩
abbrev cX3_needHole : ByteArray := prog_1_method_29_code
def yX3_needHole : MethodName := ⟨RX3, "needHole", "(I)V"⟩
abbrev cX3_needTime : ByteArray := prog_1_method_30_code
def yX3_needTime : MethodName := ⟨RX3, "needTime", "(I)V"⟩
abbrev cX3_needDove : ByteArray := prog_1_method_31_code
def yX3_needDove : MethodName := ⟨RX3, "needDove", "(I)V"⟩
abbrev cX3_save : ByteArray := prog_1_method_32_code
def yX3_save : MethodName := ⟨RX3, "save", "()V"⟩
abbrev cX3_tryHome : ByteArray := prog_1_method_38_code
def yX3_tryHome : MethodName := ⟨RX3, "tryHome", "(II)Z"⟩
abbrev cX3_trialNumber : ByteArray := prog_1_method_39_code
def yX3_trialNumber : MethodName := ⟨RX3, "trialNumber", "(II)I"⟩
abbrev cX3_sittingIfAllCame : ByteArray := prog_1_method_40_code
def yX3_sittingIfAllCame : MethodName := ⟨RX3, "sittingIfAllCame", "(I)I"⟩
def RX4 : String := "LateDovesModel"
def TX4 : u_T := fun k => match k with
  | _ => ("", "", "", false)
def tyX4 : Nat → FieldType := fun k => match k with
  | _ => .int
abbrev wsX40 : List Cond := u_ws RX4 TX4 0
theorem nmX4 : ∀ a, a < 0 → ∀ b, b < 0 → a ≠ b → (TX4 a).2.1 ≠ (TX4 b).2.1 := by decide +kernel
theorem tyX4_ok : ∀ k, k < 0 → parseFieldDescriptor (TX4 k).2.2.1 = some (tyX4 k) := by decide +kernel
def RJ0 : String := "java/lang/String"
def TJ0 : u_T := fun k => match k with
  | _ => ("", "", "", false)
def tyJ0 : Nat → FieldType := fun k => match k with
  | _ => .int
abbrev wsJ00 : List Cond := u_ws RJ0 TJ0 0
theorem nmJ0 : ∀ a, a < 0 → ∀ b, b < 0 → a ≠ b → (TJ0 a).2.1 ≠ (TJ0 b).2.1 := by decide +kernel
theorem tyJ0_ok : ∀ k, k < 0 → parseFieldDescriptor (TJ0 k).2.2.1 = some (tyJ0 k) := by decide +kernel
def RJ10 : String := "java/lang/System"
def TJ10 : u_T := fun k => match k with
  | _ => ("", "", "", false)
def tyJ10 : Nat → FieldType := fun k => match k with
  | _ => .int
abbrev wsJ100 : List Cond := u_ws RJ10 TJ10 0
theorem nmJ10 : ∀ a, a < 0 → ∀ b, b < 0 → a ≠ b → (TJ10 a).2.1 ≠ (TJ10 b).2.1 := by decide +kernel
theorem tyJ10_ok : ∀ k, k < 0 → parseFieldDescriptor (TJ10 k).2.2.1 = some (tyJ10 k) := by decide +kernel
def RL : String := "LateDovesLaw"
abbrev cL_cell : ByteArray := method_2_code
def yL_cell : MethodName := ⟨RL, "cell", "([II)I"⟩
abbrev cL_low : ByteArray := method_3_code
def yL_low : MethodName := ⟨RL, "low", "(II)I"⟩
abbrev cL_buy : ByteArray := method_4_code
def yL_buy : MethodName := ⟨RL, "buy", "(LLateDoves;II)I"⟩
abbrev cL_sell : ByteArray := method_5_code
def yL_sell : MethodName := ⟨RL, "sell", "(LLateDoves;I)I"⟩
abbrev cL_mate : ByteArray := method_6_code
def yL_mate : MethodName := ⟨RL, "mate", "(LLateDoves;II)I"⟩
abbrev cL_shut : ByteArray := method_7_code
def yL_shut : MethodName := ⟨RL, "shut", "(LLateDoves;I)I"⟩
abbrev cL_open : ByteArray := method_8_code
def yL_open : MethodName := ⟨RL, "open", "(LLateDoves;I)I"⟩
abbrev cL_set : ByteArray := method_9_code
def yL_set : MethodName := ⟨RL, "set", "(LLateDoves;II)I"⟩
abbrev cL_home : ByteArray := method_10_code
def yL_home : MethodName := ⟨RL, "home", "(LLateDoves;II)I"⟩
abbrev cL_undo : ByteArray := method_11_code
def yL_undo : MethodName := ⟨RL, "undo", "(LLateDoves;)I"⟩
abbrev cL_restore : ByteArray := method_12_code
def yL_restore : MethodName := ⟨RL, "restore", "(LLateDoves;)I"⟩
abbrev cL_dove : ByteArray := method_13_code
def yL_dove : MethodName := ⟨RL, "dove", "(LLateDoves;II)I"⟩
abbrev cL_hole : ByteArray := method_14_code
def yL_hole : MethodName := ⟨RL, "hole", "(LLateDoves;II)I"⟩
abbrev cL_whyNot : ByteArray := method_15_code
def yL_whyNot : MethodName := ⟨RL, "whyNot", "(LLateDoves;II)I"⟩
abbrev cL_ifHome : ByteArray := method_16_code
def yL_ifHome : MethodName := ⟨RL, "ifHome", "(LLateDoves;III)I"⟩
abbrev cL_step : ByteArray := method_17_code
def yL_step : MethodName := ⟨RL, "step", "(LLateDoves;II)I"⟩
abbrev cL_is : ByteArray := method_18_code
def yL_is : MethodName := ⟨RL, "is", "([II)Z"⟩
abbrev cL_sits : ByteArray := method_19_code
def yL_sits : MethodName := ⟨RL, "sits", "([I[II)I"⟩
abbrev cL_owner : ByteArray := method_20_code
def yL_owner : MethodName := ⟨RL, "owner", "([I[II)I"⟩
abbrev cL_free : ByteArray := method_21_code
def yL_free : MethodName := ⟨RL, "free", "([I[I)I"⟩
abbrev cL_look : ByteArray := method_22_code
def yL_look : MethodName := ⟨RL, "look", "([I[II)I"⟩
abbrev cL_sit : ByteArray := method_23_code
def yL_sit : MethodName := ⟨RL, "sit", "([I[I[III)V"⟩
abbrev cL_shift : ByteArray := method_24_code
def yL_shift : MethodName := ⟨RL, "shift", "([I[I[III)V"⟩
abbrev cL_comes : ByteArray := method_25_code
def yL_comes : MethodName := ⟨RL, "comes", "([I[I[I[III)I"⟩
abbrev cL_many : ByteArray := method_26_code
def yL_many : MethodName := ⟨RL, "many", "([I[III)I"⟩
abbrev cL_copy : ByteArray := method_27_code
def yL_copy : MethodName := ⟨RL, "copy", "([I[I)V"⟩
abbrev cL_isAhead : ByteArray := method_28_code
def yL_isAhead : MethodName := ⟨RL, "isAhead", "(LLateDoves;[I[I[II)Z"⟩
abbrev cL_isSo : ByteArray := method_29_code
def yL_isSo : MethodName := ⟨RL, "isSo", "(LLateDoves;[I[I[I[I)Z"⟩
abbrev cL_doves : ByteArray := method_30_code
def yL_doves : MethodName := ⟨RL, "doves", "(LLateDoves;II[I[I[I)Z"⟩
abbrev cL_evening : ByteArray := method_31_code
def yL_evening : MethodName := ⟨RL, "evening", "(LLateDoves;II[I[I[I[I)Z"⟩
abbrev cL_law : ByteArray := code
def yL_law : MethodName := ⟨RL, "law", "([I)Z"⟩
def wsX2_init : List Cond := .code yX2_init cX2_init 1 none :: ([.methodLink RX2 3 objectInit, .instanceMethod objectInit, .code objectInit ⟨#[0xb1]⟩ 1 none, .arrayClass .int, .fieldLink RX2 9 "LateDoves$Way" "who" "[I", .fieldLink RX2 15 "LateDoves$Way" "where" "[I", .fieldLink RX2 18 "LateDoves$Way" "size" "I"] ++ wsX20)
def wsX0_init : List Cond := .code yX0_init cX0_init 2 none :: ([.methodLink RX0 3 objectInit, .instanceMethod objectInit, .code objectInit ⟨#[0xb1]⟩ 1 none, .classLink RX0 9 "[[I", .arrayClass .int, .fieldLink RX0 11 "LateDoves$Cote" "doves" "[[I", .fieldLink RX0 16 "LateDoves$Cote" "holes" "[[I", .fieldLink RX0 19 "LateDoves$Cote" "settings" "[I", .fieldLink RX0 23 "LateDoves$Cote" "atDawn" "[I", .fieldLink RX0 26 "LateDoves$Cote" "stop" "[I", .classLink RX0 29 RX2, .instantiable RX2 3, .initialized RX2, .fieldLink RX0 32 "LateDoves$Cote" "way" "LLateDoves$Way;", .methodLink RX0 31 yX2_init, .instanceMethod yX2_init, .code yX2_init cX2_init 1 none, .methodLink RX2 3 objectInit, .fieldLink RX2 9 "LateDoves$Way" "who" "[I", .fieldLink RX2 15 "LateDoves$Way" "where" "[I", .fieldLink RX2 18 "LateDoves$Way" "size" "I"] ++ wsX00 ++ wsX20)
def wsX2_copyFrom : List Cond := .code yX2_copyFrom cX2_copyFrom 2 none :: ([.fieldLink RX2 9 "LateDoves$Way" "who" "[I", .methodLink RX2 22 arraycopyName, .native arraycopyName, .static arraycopyName, .initialized "java/lang/System", .fieldLink RX2 15 "LateDoves$Way" "where" "[I", .fieldLink RX2 18 "LateDoves$Way" "size" "I"] ++ wsX20)
def wsX0_copyFrom : List Cond := .code yX0_copyFrom cX0_copyFrom 3 none :: ([.fieldLink RX0 11 "LateDoves$Cote" "doves" "[[I", .methodLink RX0 36 arraycopyName, .native arraycopyName, .static arraycopyName, .initialized "java/lang/System", .fieldLink RX0 16 "LateDoves$Cote" "holes" "[[I", .fieldLink RX0 19 "LateDoves$Cote" "settings" "[I", .fieldLink RX0 23 "LateDoves$Cote" "atDawn" "[I", .fieldLink RX0 26 "LateDoves$Cote" "stop" "[I", .fieldLink RX0 32 "LateDoves$Cote" "way" "LLateDoves$Way;", .fieldLink RX0 46 "LateDoves$Cote" "day" "I", .fieldLink RX0 50 "LateDoves$Cote" "time" "I", .fieldLink RX0 53 "LateDoves$Cote" "shifts" "I", .fieldLink RX0 56 "LateDoves$Cote" "quarrels" "I", .methodLink RX0 42 yX2_copyFrom, .instanceMethod yX2_copyFrom, .selects RX2 yX2_copyFrom yX2_copyFrom, .initialized RX2, .code yX2_copyFrom cX2_copyFrom 2 none, .fieldLink RX2 9 "LateDoves$Way" "who" "[I", .methodLink RX2 22 arraycopyName, .fieldLink RX2 15 "LateDoves$Way" "where" "[I", .fieldLink RX2 18 "LateDoves$Way" "size" "I"] ++ wsX00 ++ wsX20)
def wsX0_exists : List Cond := .code yX0_exists cX0_exists 2 (some .boolean) :: ([.fieldLink RX0 11 "LateDoves$Cote" "doves" "[[I"] ++ wsX00)
def wsX3_isHole : List Cond := .code yX3_isHole cX3_isHole 1 (some .boolean) :: ([])
def wsX0_isOpen : List Cond := .code yX0_isOpen cX0_isOpen 2 (some .boolean) :: ([.fieldLink RX0 16 "LateDoves$Cote" "holes" "[[I", .static yX3_isHole, .initialized RX3, .code yX3_isHole cX3_isHole 1 (some .boolean)] ++ wsX00)
def wsX0_isFree : List Cond := .code yX0_isFree cX0_isFree 2 (some .boolean) :: ([.fieldLink RX0 16 "LateDoves$Cote" "holes" "[[I", .static yX3_isHole, .initialized RX3, .code yX3_isHole cX3_isHole 1 (some .boolean)] ++ wsX00)
def wsX0_doveCount : List Cond := .code yX0_doveCount cX0_doveCount 3 (some .int) :: ([.methodLink RX0 83 yX0_exists, .instanceMethod yX0_exists, .selects RX0 yX0_exists yX0_exists, .initialized RX0, .code yX0_exists cX0_exists 2 (some .boolean), .fieldLink RX0 11 "LateDoves$Cote" "doves" "[[I"] ++ wsX00)
def wsX0_placedAt : List Cond := .code yX0_placedAt cX0_placedAt 4 (some .int) :: ([.fieldLink RX0 11 "LateDoves$Cote" "doves" "[[I", .methodLink RX0 83 yX0_exists, .instanceMethod yX0_exists, .selects RX0 yX0_exists yX0_exists, .initialized RX0, .code yX0_exists cX0_exists 2 (some .boolean)] ++ wsX00)
def wsX0_sittingByDoves : List Cond := .code yX0_sittingByDoves cX0_sittingByDoves 1 (some .int) :: ([.methodLink RX0 63 yX0_doveCount, .instanceMethod yX0_doveCount, .selects RX0 yX0_doveCount yX0_doveCount, .initialized RX0, .code yX0_doveCount cX0_doveCount 3 (some .int), .methodLink RX0 83 yX0_exists, .instanceMethod yX0_exists, .selects RX0 yX0_exists yX0_exists, .code yX0_exists cX0_exists 2 (some .boolean), .fieldLink RX0 11 "LateDoves$Cote" "doves" "[[I", .methodLink RX0 73 yX0_placedAt, .instanceMethod yX0_placedAt, .selects RX0 yX0_placedAt yX0_placedAt, .code yX0_placedAt cX0_placedAt 4 (some .int)] ++ wsX00)
def wsX0_sittingByHoles : List Cond := .code yX0_sittingByHoles cX0_sittingByHoles 3 (some .int) :: ([.fieldLink RX0 16 "LateDoves$Cote" "holes" "[[I"] ++ wsX00)
def wsX0_openHoles : List Cond := .code yX0_openHoles cX0_openHoles 3 (some .int) :: ([.methodLink RX0 86 yX0_isOpen, .instanceMethod yX0_isOpen, .selects RX0 yX0_isOpen yX0_isOpen, .initialized RX0, .code yX0_isOpen cX0_isOpen 2 (some .boolean), .fieldLink RX0 16 "LateDoves$Cote" "holes" "[[I", .static yX3_isHole, .initialized RX3, .code yX3_isHole cX3_isHole 1 (some .boolean)] ++ wsX00)
def wsX0_pairs : List Cond := .code yX0_pairs cX0_pairs 3 (some .int) :: ([.fieldLink RX0 11 "LateDoves$Cote" "doves" "[[I", .methodLink RX0 83 yX0_exists, .instanceMethod yX0_exists, .selects RX0 yX0_exists yX0_exists, .initialized RX0, .code yX0_exists cX0_exists 2 (some .boolean)] ++ wsX00)
def wsX0_numberOf_r1 : List Cond := [Cond.fieldLink RX0 46 "LateDoves$Cote" "day" "I", Cond.fieldLink RX0 50 "LateDoves$Cote" "time" "I", Cond.fieldLink RX0 53 "LateDoves$Cote" "shifts" "I", Cond.fieldLink RX0 56 "LateDoves$Cote" "quarrels" "I", Cond.fieldLink RX0 23 "LateDoves$Cote" "atDawn" "[I", Cond.fieldLink RX0 19 "LateDoves$Cote" "settings" "[I", Cond.methodLink RX0 63 yX0_doveCount, Cond.instanceMethod yX0_doveCount, Cond.selects RX0 yX0_doveCount yX0_doveCount, Cond.initialized RX0, Cond.code yX0_doveCount cX0_doveCount 3 (some .int), Cond.methodLink RX0 83 yX0_exists, Cond.instanceMethod yX0_exists, Cond.selects RX0 yX0_exists yX0_exists, Cond.code yX0_exists cX0_exists 2 (some .boolean), Cond.fieldLink RX0 11 "LateDoves$Cote" "doves" "[[I", Cond.methodLink RX0 67 yX0_sittingByDoves, Cond.instanceMethod yX0_sittingByDoves, Cond.selects RX0 yX0_sittingByDoves yX0_sittingByDoves, Cond.code yX0_sittingByDoves cX0_sittingByDoves 1 (some .int), Cond.methodLink RX0 73 yX0_placedAt, Cond.instanceMethod yX0_placedAt, Cond.selects RX0 yX0_placedAt yX0_placedAt, Cond.code yX0_placedAt cX0_placedAt 4 (some .int)]
def wsX0_numberOf_r2 : List Cond := [Cond.methodLink RX0 70 yX0_sittingByHoles, Cond.instanceMethod yX0_sittingByHoles, Cond.selects RX0 yX0_sittingByHoles yX0_sittingByHoles, Cond.code yX0_sittingByHoles cX0_sittingByHoles 3 (some .int), Cond.fieldLink RX0 16 "LateDoves$Cote" "holes" "[[I", Cond.methodLink RX0 77 yX0_openHoles, Cond.instanceMethod yX0_openHoles, Cond.selects RX0 yX0_openHoles yX0_openHoles, Cond.code yX0_openHoles cX0_openHoles 3 (some .int), Cond.methodLink RX0 86 yX0_isOpen, Cond.instanceMethod yX0_isOpen, Cond.selects RX0 yX0_isOpen yX0_isOpen, Cond.code yX0_isOpen cX0_isOpen 2 (some .boolean), Cond.static yX3_isHole, Cond.initialized RX3, Cond.code yX3_isHole cX3_isHole 1 (some .boolean), Cond.methodLink RX0 80 yX0_pairs, Cond.instanceMethod yX0_pairs, Cond.selects RX0 yX0_pairs yX0_pairs, Cond.code yX0_pairs cX0_pairs 3 (some .int)]
def wsX0_numberOf : List Cond := .code yX0_numberOf cX0_numberOf 2 (some .int) :: ((wsX0_numberOf_r1 ++ wsX0_numberOf_r2) ++ wsX00)
def wsX0_inOwnHoles : List Cond := .code yX0_inOwnHoles cX0_inOwnHoles 3 (some .int) :: ([.fieldLink RX0 11 "LateDoves$Cote" "doves" "[[I", .methodLink RX0 83 yX0_exists, .instanceMethod yX0_exists, .selects RX0 yX0_exists yX0_exists, .initialized RX0, .code yX0_exists cX0_exists 2 (some .boolean)] ++ wsX00)
def wsX0_reasonNotHome : List Cond := .code yX0_reasonNotHome cX0_reasonNotHome 3 (some .int) :: ([.fieldLink RX0 11 "LateDoves$Cote" "doves" "[[I", .fieldLink RX0 50 "LateDoves$Cote" "time" "I"] ++ wsX00)
def wsX0_reasonNotToShut : List Cond := .code yX0_reasonNotToShut cX0_reasonNotToShut 2 (some .int) :: ([.fieldLink RX0 16 "LateDoves$Cote" "holes" "[[I", .static yX3_isHole, .initialized RX3, .code yX3_isHole cX3_isHole 1 (some .boolean), .methodLink RX0 86 yX0_isOpen, .instanceMethod yX0_isOpen, .selects RX0 yX0_isOpen yX0_isOpen, .initialized RX0, .code yX0_isOpen cX0_isOpen 2 (some .boolean)] ++ wsX00)
def wsX0_reasonNotToBuy : List Cond := .code yX0_reasonNotToBuy cX0_reasonNotToBuy 2 (some .int) :: ([.fieldLink RX0 16 "LateDoves$Cote" "holes" "[[I", .methodLink RX0 63 yX0_doveCount, .instanceMethod yX0_doveCount, .selects RX0 yX0_doveCount yX0_doveCount, .initialized RX0, .code yX0_doveCount cX0_doveCount 3 (some .int), .methodLink RX0 83 yX0_exists, .instanceMethod yX0_exists, .selects RX0 yX0_exists yX0_exists, .code yX0_exists cX0_exists 2 (some .boolean), .fieldLink RX0 11 "LateDoves$Cote" "doves" "[[I", .static yX3_isHole, .initialized RX3, .code yX3_isHole cX3_isHole 1 (some .boolean), .methodLink RX0 86 yX0_isOpen, .instanceMethod yX0_isOpen, .selects RX0 yX0_isOpen yX0_isOpen, .code yX0_isOpen cX0_isOpen 2 (some .boolean)] ++ wsX00)
def wsX0_reasonNotToPair : List Cond := .code yX0_reasonNotToPair cX0_reasonNotToPair 4 (some .int) :: ([.fieldLink RX0 11 "LateDoves$Cote" "doves" "[[I"] ++ wsX00)
def wsX0_addDove : List Cond := .code yX0_addDove cX0_addDove 4 (some .int) :: ([.fieldLink RX0 11 "LateDoves$Cote" "doves" "[[I", .fieldLink RX0 16 "LateDoves$Cote" "holes" "[[I", .methodLink RX0 83 yX0_exists, .instanceMethod yX0_exists, .selects RX0 yX0_exists yX0_exists, .initialized RX0, .code yX0_exists cX0_exists 2 (some .boolean)] ++ wsX00)
def wsX0_removeDove : List Cond := .code yX0_removeDove cX0_removeDove 6 (some .int) :: ([.fieldLink RX0 11 "LateDoves$Cote" "doves" "[[I", .fieldLink RX0 16 "LateDoves$Cote" "holes" "[[I", .static yX3_isHole, .initialized RX3, .code yX3_isHole cX3_isHole 1 (some .boolean), .methodLink RX0 83 yX0_exists, .instanceMethod yX0_exists, .selects RX0 yX0_exists yX0_exists, .initialized RX0, .code yX0_exists cX0_exists 2 (some .boolean)] ++ wsX00)
def wsX0_pair : List Cond := .code yX0_pair cX0_pair 3 none :: ([.fieldLink RX0 11 "LateDoves$Cote" "doves" "[[I"] ++ wsX00)
def wsX0_setOpen : List Cond := .code yX0_setOpen cX0_setOpen 3 none :: ([.fieldLink RX0 16 "LateDoves$Cote" "holes" "[[I", .static yX3_isHole, .initialized RX3, .code yX3_isHole cX3_isHole 1 (some .boolean)] ++ wsX00)
def wsX2_note : List Cond := .code yX2_note cX2_note 3 none :: ([.fieldLink RX2 18 "LateDoves$Way" "size" "I", .fieldLink RX2 9 "LateDoves$Way" "who" "[I", .fieldLink RX2 15 "LateDoves$Way" "where" "[I"] ++ wsX20)
def wsX0_sit : List Cond := .code yX0_sit cX0_sit 3 none :: ([.fieldLink RX0 11 "LateDoves$Cote" "doves" "[[I", .fieldLink RX0 16 "LateDoves$Cote" "holes" "[[I", .fieldLink RX0 32 "LateDoves$Cote" "way" "LLateDoves$Way;", .static yX3_isHole, .initialized RX3, .code yX3_isHole cX3_isHole 1 (some .boolean), .methodLink RX0 113 yX2_note, .instanceMethod yX2_note, .selects RX2 yX2_note yX2_note, .initialized RX2, .code yX2_note cX2_note 3 none, .fieldLink RX2 18 "LateDoves$Way" "size" "I", .fieldLink RX2 9 "LateDoves$Way" "who" "[I", .fieldLink RX2 15 "LateDoves$Way" "where" "[I"] ++ wsX00 ++ wsX20)
def wsX0_shiftFrom : List Cond := .code yX0_shiftFrom cX0_shiftFrom 4 (some .int) :: ([.fieldLink RX0 16 "LateDoves$Cote" "holes" "[[I", .fieldLink RX0 53 "LateDoves$Cote" "shifts" "I", .fieldLink RX0 11 "LateDoves$Cote" "doves" "[[I", .fieldLink RX0 56 "LateDoves$Cote" "quarrels" "I", .methodLink RX0 103 yX0_sit, .instanceMethod yX0_sit, .selects RX0 yX0_sit yX0_sit, .initialized RX0, .code yX0_sit cX0_sit 3 none, .fieldLink RX0 32 "LateDoves$Cote" "way" "LLateDoves$Way;", .static yX3_isHole, .initialized RX3, .code yX3_isHole cX3_isHole 1 (some .boolean), .methodLink RX0 113 yX2_note, .instanceMethod yX2_note, .selects RX2 yX2_note yX2_note, .initialized RX2, .code yX2_note cX2_note 3 none, .fieldLink RX2 18 "LateDoves$Way" "size" "I", .fieldLink RX2 9 "LateDoves$Way" "who" "[I", .fieldLink RX2 15 "LateDoves$Way" "where" "[I"] ++ wsX00 ++ wsX20)
def wsX0_enterOwnHole_r1 : List Cond := [Cond.fieldLink RX0 11 "LateDoves$Cote" "doves" "[[I", Cond.fieldLink RX0 16 "LateDoves$Cote" "holes" "[[I", Cond.methodLink RX0 83 yX0_exists, Cond.instanceMethod yX0_exists, Cond.selects RX0 yX0_exists yX0_exists, Cond.initialized RX0, Cond.code yX0_exists cX0_exists 2 (some .boolean), Cond.methodLink RX0 99 yX0_shiftFrom, Cond.instanceMethod yX0_shiftFrom, Cond.selects RX0 yX0_shiftFrom yX0_shiftFrom, Cond.code yX0_shiftFrom cX0_shiftFrom 4 (some .int), Cond.fieldLink RX0 53 "LateDoves$Cote" "shifts" "I", Cond.fieldLink RX0 56 "LateDoves$Cote" "quarrels" "I", Cond.methodLink RX0 103 yX0_sit, Cond.instanceMethod yX0_sit, Cond.selects RX0 yX0_sit yX0_sit, Cond.code yX0_sit cX0_sit 3 none, Cond.fieldLink RX0 32 "LateDoves$Cote" "way" "LLateDoves$Way;", Cond.static yX3_isHole, Cond.initialized RX3, Cond.code yX3_isHole cX3_isHole 1 (some .boolean), Cond.methodLink RX0 113 yX2_note, Cond.instanceMethod yX2_note, Cond.selects RX2 yX2_note yX2_note]
def wsX0_enterOwnHole_r2 : List Cond := [Cond.initialized RX2, Cond.code yX2_note cX2_note 3 none, Cond.fieldLink RX2 18 "LateDoves$Way" "size" "I", Cond.fieldLink RX2 9 "LateDoves$Way" "who" "[I", Cond.fieldLink RX2 15 "LateDoves$Way" "where" "[I"]
def wsX0_enterOwnHole : List Cond := .code yX0_enterOwnHole cX0_enterOwnHole 5 (some .int) :: ((wsX0_enterOwnHole_r1 ++ wsX0_enterOwnHole_r2) ++ wsX00 ++ wsX20)
def wsX0_firstFreeFor : List Cond := .code yX0_firstFreeFor cX0_firstFreeFor 6 (some .int) :: ([.fieldLink RX0 11 "LateDoves$Cote" "doves" "[[I", .methodLink RX0 83 yX0_exists, .instanceMethod yX0_exists, .selects RX0 yX0_exists yX0_exists, .initialized RX0, .code yX0_exists cX0_exists 2 (some .boolean), .static yX3_isHole, .initialized RX3, .code yX3_isHole cX3_isHole 1 (some .boolean), .methodLink RX0 110 yX0_isFree, .instanceMethod yX0_isFree, .selects RX0 yX0_isFree yX0_isFree, .code yX0_isFree cX0_isFree 2 (some .boolean), .fieldLink RX0 16 "LateDoves$Cote" "holes" "[[I"] ++ wsX00)
def wsX0_settle_r1 : List Cond := [Cond.fieldLink RX0 11 "LateDoves$Cote" "doves" "[[I", Cond.fieldLink RX0 16 "LateDoves$Cote" "holes" "[[I", Cond.methodLink RX0 107 yX0_firstFreeFor, Cond.instanceMethod yX0_firstFreeFor, Cond.selects RX0 yX0_firstFreeFor yX0_firstFreeFor, Cond.initialized RX0, Cond.code yX0_firstFreeFor cX0_firstFreeFor 6 (some .int), Cond.methodLink RX0 83 yX0_exists, Cond.instanceMethod yX0_exists, Cond.selects RX0 yX0_exists yX0_exists, Cond.code yX0_exists cX0_exists 2 (some .boolean), Cond.static yX3_isHole, Cond.initialized RX3, Cond.code yX3_isHole cX3_isHole 1 (some .boolean), Cond.methodLink RX0 110 yX0_isFree, Cond.instanceMethod yX0_isFree, Cond.selects RX0 yX0_isFree yX0_isFree, Cond.code yX0_isFree cX0_isFree 2 (some .boolean), Cond.methodLink RX0 103 yX0_sit, Cond.instanceMethod yX0_sit, Cond.selects RX0 yX0_sit yX0_sit, Cond.code yX0_sit cX0_sit 3 none, Cond.fieldLink RX0 32 "LateDoves$Cote" "way" "LLateDoves$Way;", Cond.methodLink RX0 113 yX2_note]
def wsX0_settle_r2 : List Cond := [Cond.instanceMethod yX2_note, Cond.selects RX2 yX2_note yX2_note, Cond.initialized RX2, Cond.code yX2_note cX2_note 3 none, Cond.fieldLink RX2 18 "LateDoves$Way" "size" "I", Cond.fieldLink RX2 9 "LateDoves$Way" "who" "[I", Cond.fieldLink RX2 15 "LateDoves$Way" "where" "[I", Cond.methodLink RX0 86 yX0_isOpen, Cond.instanceMethod yX0_isOpen, Cond.selects RX0 yX0_isOpen yX0_isOpen, Cond.code yX0_isOpen cX0_isOpen 2 (some .boolean), Cond.methodLink RX0 99 yX0_shiftFrom, Cond.instanceMethod yX0_shiftFrom, Cond.selects RX0 yX0_shiftFrom yX0_shiftFrom, Cond.code yX0_shiftFrom cX0_shiftFrom 4 (some .int), Cond.fieldLink RX0 53 "LateDoves$Cote" "shifts" "I", Cond.fieldLink RX0 56 "LateDoves$Cote" "quarrels" "I"]
def wsX0_settle : List Cond := .code yX0_settle cX0_settle 6 (some .int) :: ((wsX0_settle_r1 ++ wsX0_settle_r2) ++ wsX00 ++ wsX20)
def wsX0_comeHome_r1 : List Cond := [Cond.fieldLink RX0 50 "LateDoves$Cote" "time" "I", Cond.fieldLink RX0 32 "LateDoves$Cote" "way" "LLateDoves$Way;", Cond.fieldLink RX0 53 "LateDoves$Cote" "shifts" "I", Cond.fieldLink RX0 19 "LateDoves$Cote" "settings" "[I", Cond.fieldLink RX0 11 "LateDoves$Cote" "doves" "[[I", Cond.methodLink RX0 86 yX0_isOpen, Cond.instanceMethod yX0_isOpen, Cond.selects RX0 yX0_isOpen yX0_isOpen, Cond.initialized RX0, Cond.code yX0_isOpen cX0_isOpen 2 (some .boolean), Cond.fieldLink RX0 16 "LateDoves$Cote" "holes" "[[I", Cond.static yX3_isHole, Cond.initialized RX3, Cond.code yX3_isHole cX3_isHole 1 (some .boolean), Cond.methodLink RX0 92 yX0_enterOwnHole, Cond.instanceMethod yX0_enterOwnHole, Cond.selects RX0 yX0_enterOwnHole yX0_enterOwnHole, Cond.code yX0_enterOwnHole cX0_enterOwnHole 5 (some .int), Cond.methodLink RX0 83 yX0_exists, Cond.instanceMethod yX0_exists, Cond.selects RX0 yX0_exists yX0_exists, Cond.code yX0_exists cX0_exists 2 (some .boolean), Cond.methodLink RX0 99 yX0_shiftFrom, Cond.instanceMethod yX0_shiftFrom]
def wsX0_comeHome_r2 : List Cond := [Cond.selects RX0 yX0_shiftFrom yX0_shiftFrom, Cond.code yX0_shiftFrom cX0_shiftFrom 4 (some .int), Cond.fieldLink RX0 56 "LateDoves$Cote" "quarrels" "I", Cond.methodLink RX0 103 yX0_sit, Cond.instanceMethod yX0_sit, Cond.selects RX0 yX0_sit yX0_sit, Cond.code yX0_sit cX0_sit 3 none, Cond.methodLink RX0 113 yX2_note, Cond.instanceMethod yX2_note, Cond.selects RX2 yX2_note yX2_note, Cond.initialized RX2, Cond.code yX2_note cX2_note 3 none, Cond.fieldLink RX2 18 "LateDoves$Way" "size" "I", Cond.fieldLink RX2 9 "LateDoves$Way" "who" "[I", Cond.fieldLink RX2 15 "LateDoves$Way" "where" "[I", Cond.methodLink RX0 96 yX0_settle, Cond.instanceMethod yX0_settle, Cond.selects RX0 yX0_settle yX0_settle, Cond.code yX0_settle cX0_settle 6 (some .int), Cond.methodLink RX0 107 yX0_firstFreeFor, Cond.instanceMethod yX0_firstFreeFor, Cond.selects RX0 yX0_firstFreeFor yX0_firstFreeFor, Cond.code yX0_firstFreeFor cX0_firstFreeFor 6 (some .int), Cond.methodLink RX0 110 yX0_isFree]
def wsX0_comeHome_r3 : List Cond := [Cond.instanceMethod yX0_isFree, Cond.selects RX0 yX0_isFree yX0_isFree, Cond.code yX0_isFree cX0_isFree 2 (some .boolean)]
def wsX0_comeHome : List Cond := .code yX0_comeHome cX0_comeHome 8 (some .int) :: ((wsX0_comeHome_r1 ++ (wsX0_comeHome_r2 ++ wsX0_comeHome_r3)) ++ wsX00 ++ wsX20)
def wsX0_countAtDawn : List Cond := .code yX0_countAtDawn cX0_countAtDawn 3 none :: ([.fieldLink RX0 11 "LateDoves$Cote" "doves" "[[I", .fieldLink RX0 23 "LateDoves$Cote" "atDawn" "[I"] ++ wsX00)
def wsX0_endNight : List Cond := .code yX0_endNight cX0_endNight 2 (some .int) :: ([.fieldLink RX0 23 "LateDoves$Cote" "atDawn" "[I", .fieldLink RX0 11 "LateDoves$Cote" "doves" "[[I", .fieldLink RX0 16 "LateDoves$Cote" "holes" "[[I", .fieldLink RX0 46 "LateDoves$Cote" "day" "I", .fieldLink RX0 50 "LateDoves$Cote" "time" "I", .methodLink RX0 83 yX0_exists, .instanceMethod yX0_exists, .selects RX0 yX0_exists yX0_exists, .initialized RX0, .code yX0_exists cX0_exists 2 (some .boolean), .methodLink RX0 116 yX0_countAtDawn, .instanceMethod yX0_countAtDawn, .selects RX0 yX0_countAtDawn yX0_countAtDawn, .code yX0_countAtDawn cX0_countAtDawn 3 none] ++ wsX00)
def wsX1_init : List Cond := .code yX1_init cX1_init 1 none :: ([.methodLink RX1 3 objectInit, .instanceMethod objectInit, .code objectInit ⟨#[0xb1]⟩ 1 none, .fieldLink RX1 11 "LateDoves$PartReader" "stage" "I", .fieldLink RX1 15 "LateDoves$PartReader" "kind" "I", .fieldLink RX1 18 "LateDoves$PartReader" "first" "I", .fieldLink RX1 21 "LateDoves$PartReader" "second" "I"] ++ wsX10)
def wsX3_init_r1 : List Cond := [Cond.methodLink RX3 1 objectInit, Cond.instanceMethod objectInit, Cond.code objectInit ⟨#[0xb1]⟩ 1 none, Cond.classLink RX3 7 RX0, Cond.instantiable RX0 10, Cond.initialized RX0, Cond.fieldLink RX3 10 "LateDoves" "now" "LLateDoves$Cote;", Cond.fieldLink RX3 16 "LateDoves" "trial" "LLateDoves$Cote;", Cond.fieldLink RX3 19 "LateDoves" "snapshot" "LLateDoves$Cote;", Cond.fieldLink RX3 22 "LateDoves" "hasSnapshot" "Z", Cond.fieldLink RX3 26 "LateDoves" "saved" "[LLateDoves$Cote;", Cond.fieldLink RX3 30 "LateDoves" "savedCount" "I", Cond.arrayClass .int, Cond.fieldLink RX3 34 "LateDoves" "buffer" "[I", Cond.fieldLink RX3 38 "LateDoves" "length" "I", Cond.classLink RX3 41 RX1, Cond.instantiable RX1 4, Cond.initialized RX1, Cond.fieldLink RX3 44 "LateDoves" "reader" "LLateDoves$PartReader;", Cond.methodLink RX3 9 yX0_init, Cond.instanceMethod yX0_init, Cond.code yX0_init cX0_init 2 none, Cond.methodLink RX0 3 objectInit, Cond.classLink RX0 9 "[[I"]
def wsX3_init_r2 : List Cond := [Cond.fieldLink RX0 11 "LateDoves$Cote" "doves" "[[I", Cond.fieldLink RX0 16 "LateDoves$Cote" "holes" "[[I", Cond.fieldLink RX0 19 "LateDoves$Cote" "settings" "[I", Cond.fieldLink RX0 23 "LateDoves$Cote" "atDawn" "[I", Cond.fieldLink RX0 26 "LateDoves$Cote" "stop" "[I", Cond.classLink RX0 29 RX2, Cond.instantiable RX2 3, Cond.initialized RX2, Cond.fieldLink RX0 32 "LateDoves$Cote" "way" "LLateDoves$Way;", Cond.methodLink RX0 31 yX2_init, Cond.instanceMethod yX2_init, Cond.code yX2_init cX2_init 1 none, Cond.methodLink RX2 3 objectInit, Cond.fieldLink RX2 9 "LateDoves$Way" "who" "[I", Cond.fieldLink RX2 15 "LateDoves$Way" "where" "[I", Cond.fieldLink RX2 18 "LateDoves$Way" "size" "I", Cond.methodLink RX3 43 yX1_init, Cond.instanceMethod yX1_init, Cond.code yX1_init cX1_init 1 none, Cond.methodLink RX1 3 objectInit, Cond.fieldLink RX1 11 "LateDoves$PartReader" "stage" "I", Cond.fieldLink RX1 15 "LateDoves$PartReader" "kind" "I", Cond.fieldLink RX1 18 "LateDoves$PartReader" "first" "I", Cond.fieldLink RX1 21 "LateDoves$PartReader" "second" "I"]
def wsX3_init : List Cond := .code yX3_init cX3_init 2 none :: ((wsX3_init_r1 ++ wsX3_init_r2) ++ wsX00 ++ wsX30 ++ wsX10 ++ wsX20)
def wsX3_needHole : List Cond := .code yX3_needHole cX3_needHole 1 none :: ([.classLink RX3 105 "java/lang/IndexOutOfBoundsException", .initialized "java/lang/IndexOutOfBoundsException", .methodLink RX3 260 yX3_isHole, .static yX3_isHole, .initialized RX3, .code yX3_isHole cX3_isHole 1 (some .boolean)] ++ (vx_atS RX3 109 "java/lang/IndexOutOfBoundsException" ["java/lang/RuntimeException", "java/lang/Exception"]).filter goodWord)
def wsX3_save_r1 : List Cond := [Cond.fieldLink RX3 30 "LateDoves" "savedCount" "I", Cond.fieldLink RX3 26 "LateDoves" "saved" "[LLateDoves$Cote;", Cond.fieldLink RX3 10 "LateDoves" "now" "LLateDoves$Cote;", Cond.methodLink RX3 162 yX0_copyFrom, Cond.instanceMethod yX0_copyFrom, Cond.selects RX0 yX0_copyFrom yX0_copyFrom, Cond.initialized RX0, Cond.code yX0_copyFrom cX0_copyFrom 3 none, Cond.fieldLink RX0 11 "LateDoves$Cote" "doves" "[[I", Cond.methodLink RX0 36 arraycopyName, Cond.native arraycopyName, Cond.static arraycopyName, Cond.initialized "java/lang/System", Cond.fieldLink RX0 16 "LateDoves$Cote" "holes" "[[I", Cond.fieldLink RX0 19 "LateDoves$Cote" "settings" "[I", Cond.fieldLink RX0 23 "LateDoves$Cote" "atDawn" "[I", Cond.fieldLink RX0 26 "LateDoves$Cote" "stop" "[I", Cond.fieldLink RX0 32 "LateDoves$Cote" "way" "LLateDoves$Way;", Cond.fieldLink RX0 46 "LateDoves$Cote" "day" "I", Cond.fieldLink RX0 50 "LateDoves$Cote" "time" "I", Cond.fieldLink RX0 53 "LateDoves$Cote" "shifts" "I", Cond.fieldLink RX0 56 "LateDoves$Cote" "quarrels" "I", Cond.methodLink RX0 42 yX2_copyFrom, Cond.instanceMethod yX2_copyFrom]
def wsX3_save_r2 : List Cond := [Cond.selects RX2 yX2_copyFrom yX2_copyFrom, Cond.initialized RX2, Cond.code yX2_copyFrom cX2_copyFrom 2 none, Cond.fieldLink RX2 9 "LateDoves$Way" "who" "[I", Cond.methodLink RX2 22 arraycopyName, Cond.fieldLink RX2 15 "LateDoves$Way" "where" "[I", Cond.fieldLink RX2 18 "LateDoves$Way" "size" "I"]
def wsX3_save : List Cond := .code yX3_save cX3_save 3 none :: ((wsX3_save_r1 ++ wsX3_save_r2) ++ wsX30 ++ wsX00 ++ wsX20)
def wsX3_buy_r1 : List Cond := [Cond.classLink RX3 52 "java/lang/IllegalArgumentException", Cond.initialized "java/lang/IllegalArgumentException", Cond.classLink RX3 63 "java/lang/IllegalStateException", Cond.initialized "java/lang/IllegalStateException", Cond.fieldLink RX3 10 "LateDoves" "now" "LLateDoves$Cote;", Cond.methodLink RX3 48 yX3_needHole, Cond.static yX3_needHole, Cond.initialized RX3, Cond.code yX3_needHole cX3_needHole 1 none, Cond.classLink RX3 105 "java/lang/IndexOutOfBoundsException", Cond.initialized "java/lang/IndexOutOfBoundsException", Cond.methodLink RX3 260 yX3_isHole, Cond.static yX3_isHole, Cond.code yX3_isHole cX3_isHole 1 (some .boolean), Cond.methodLink RX3 59 yX0_reasonNotToBuy, Cond.instanceMethod yX0_reasonNotToBuy, Cond.selects RX0 yX0_reasonNotToBuy yX0_reasonNotToBuy, Cond.initialized RX0, Cond.code yX0_reasonNotToBuy cX0_reasonNotToBuy 2 (some .int), Cond.fieldLink RX0 16 "LateDoves$Cote" "holes" "[[I", Cond.methodLink RX0 63 yX0_doveCount, Cond.instanceMethod yX0_doveCount, Cond.selects RX0 yX0_doveCount yX0_doveCount, Cond.code yX0_doveCount cX0_doveCount 3 (some .int)]
def wsX3_buy_r2 : List Cond := [Cond.methodLink RX0 83 yX0_exists, Cond.instanceMethod yX0_exists, Cond.selects RX0 yX0_exists yX0_exists, Cond.code yX0_exists cX0_exists 2 (some .boolean), Cond.fieldLink RX0 11 "LateDoves$Cote" "doves" "[[I", Cond.methodLink RX0 86 yX0_isOpen, Cond.instanceMethod yX0_isOpen, Cond.selects RX0 yX0_isOpen yX0_isOpen, Cond.code yX0_isOpen cX0_isOpen 2 (some .boolean), Cond.methodLink RX3 68 yX3_save, Cond.instanceMethod yX3_save, Cond.selects RX3 yX3_save yX3_save, Cond.code yX3_save cX3_save 3 none, Cond.fieldLink RX3 30 "LateDoves" "savedCount" "I", Cond.fieldLink RX3 26 "LateDoves" "saved" "[LLateDoves$Cote;", Cond.methodLink RX3 162 yX0_copyFrom, Cond.instanceMethod yX0_copyFrom, Cond.selects RX0 yX0_copyFrom yX0_copyFrom, Cond.code yX0_copyFrom cX0_copyFrom 3 none, Cond.methodLink RX0 36 arraycopyName, Cond.native arraycopyName, Cond.static arraycopyName, Cond.initialized "java/lang/System", Cond.fieldLink RX0 19 "LateDoves$Cote" "settings" "[I"]
def wsX3_buy_r3 : List Cond := [Cond.fieldLink RX0 23 "LateDoves$Cote" "atDawn" "[I", Cond.fieldLink RX0 26 "LateDoves$Cote" "stop" "[I", Cond.fieldLink RX0 32 "LateDoves$Cote" "way" "LLateDoves$Way;", Cond.fieldLink RX0 46 "LateDoves$Cote" "day" "I", Cond.fieldLink RX0 50 "LateDoves$Cote" "time" "I", Cond.fieldLink RX0 53 "LateDoves$Cote" "shifts" "I", Cond.fieldLink RX0 56 "LateDoves$Cote" "quarrels" "I", Cond.methodLink RX0 42 yX2_copyFrom, Cond.instanceMethod yX2_copyFrom, Cond.selects RX2 yX2_copyFrom yX2_copyFrom, Cond.initialized RX2, Cond.code yX2_copyFrom cX2_copyFrom 2 none, Cond.fieldLink RX2 9 "LateDoves$Way" "who" "[I", Cond.methodLink RX2 22 arraycopyName, Cond.fieldLink RX2 15 "LateDoves$Way" "where" "[I", Cond.fieldLink RX2 18 "LateDoves$Way" "size" "I", Cond.methodLink RX3 71 yX0_addDove, Cond.instanceMethod yX0_addDove, Cond.selects RX0 yX0_addDove yX0_addDove, Cond.code yX0_addDove cX0_addDove 4 (some .int)]
def wsX3_buy : List Cond := .code yX3_buy cX3_buy 3 (some .int) :: ((wsX3_buy_r1 ++ (wsX3_buy_r2 ++ wsX3_buy_r3)) ++ wsX30 ++ wsX00 ++ wsX20 ++ (vx_atS RX3 56 "java/lang/IllegalArgumentException" ["java/lang/RuntimeException", "java/lang/Exception"]).filter goodWord ++ (vx_atS RX3 67 "java/lang/IllegalStateException" ["java/lang/RuntimeException", "java/lang/Exception"]).filter goodWord ++ (vx_atS RX3 109 "java/lang/IndexOutOfBoundsException" ["java/lang/RuntimeException", "java/lang/Exception"]).filter goodWord)
def wsX3_needDove : List Cond := .code yX3_needDove cX3_needDove 2 none :: ([.classLink RX3 105 "java/lang/IndexOutOfBoundsException", .initialized "java/lang/IndexOutOfBoundsException", .fieldLink RX3 10 "LateDoves" "now" "LLateDoves$Cote;", .methodLink RX3 235 yX0_exists, .instanceMethod yX0_exists, .selects RX0 yX0_exists yX0_exists, .initialized RX0, .code yX0_exists cX0_exists 2 (some .boolean), .fieldLink RX0 11 "LateDoves$Cote" "doves" "[[I"] ++ wsX30 ++ wsX00 ++ (vx_atS RX3 109 "java/lang/IndexOutOfBoundsException" ["java/lang/RuntimeException", "java/lang/Exception"]).filter goodWord)
def wsX3_sell_r1 : List Cond := [Cond.fieldLink RX3 10 "LateDoves" "now" "LLateDoves$Cote;", Cond.methodLink RX3 75 yX3_needDove, Cond.instanceMethod yX3_needDove, Cond.selects RX3 yX3_needDove yX3_needDove, Cond.initialized RX3, Cond.code yX3_needDove cX3_needDove 2 none, Cond.classLink RX3 105 "java/lang/IndexOutOfBoundsException", Cond.initialized "java/lang/IndexOutOfBoundsException", Cond.methodLink RX3 235 yX0_exists, Cond.instanceMethod yX0_exists, Cond.selects RX0 yX0_exists yX0_exists, Cond.initialized RX0, Cond.code yX0_exists cX0_exists 2 (some .boolean), Cond.fieldLink RX0 11 "LateDoves$Cote" "doves" "[[I", Cond.methodLink RX3 68 yX3_save, Cond.instanceMethod yX3_save, Cond.selects RX3 yX3_save yX3_save, Cond.code yX3_save cX3_save 3 none, Cond.fieldLink RX3 30 "LateDoves" "savedCount" "I", Cond.fieldLink RX3 26 "LateDoves" "saved" "[LLateDoves$Cote;", Cond.methodLink RX3 162 yX0_copyFrom, Cond.instanceMethod yX0_copyFrom, Cond.selects RX0 yX0_copyFrom yX0_copyFrom, Cond.code yX0_copyFrom cX0_copyFrom 3 none]
def wsX3_sell_r2 : List Cond := [Cond.methodLink RX0 36 arraycopyName, Cond.native arraycopyName, Cond.static arraycopyName, Cond.initialized "java/lang/System", Cond.fieldLink RX0 16 "LateDoves$Cote" "holes" "[[I", Cond.fieldLink RX0 19 "LateDoves$Cote" "settings" "[I", Cond.fieldLink RX0 23 "LateDoves$Cote" "atDawn" "[I", Cond.fieldLink RX0 26 "LateDoves$Cote" "stop" "[I", Cond.fieldLink RX0 32 "LateDoves$Cote" "way" "LLateDoves$Way;", Cond.fieldLink RX0 46 "LateDoves$Cote" "day" "I", Cond.fieldLink RX0 50 "LateDoves$Cote" "time" "I", Cond.fieldLink RX0 53 "LateDoves$Cote" "shifts" "I", Cond.fieldLink RX0 56 "LateDoves$Cote" "quarrels" "I", Cond.methodLink RX0 42 yX2_copyFrom, Cond.instanceMethod yX2_copyFrom, Cond.selects RX2 yX2_copyFrom yX2_copyFrom, Cond.initialized RX2, Cond.code yX2_copyFrom cX2_copyFrom 2 none, Cond.fieldLink RX2 9 "LateDoves$Way" "who" "[I", Cond.methodLink RX2 22 arraycopyName, Cond.fieldLink RX2 15 "LateDoves$Way" "where" "[I", Cond.fieldLink RX2 18 "LateDoves$Way" "size" "I", Cond.methodLink RX3 78 yX0_removeDove, Cond.instanceMethod yX0_removeDove]
def wsX3_sell_r3 : List Cond := [Cond.selects RX0 yX0_removeDove yX0_removeDove, Cond.code yX0_removeDove cX0_removeDove 6 (some .int), Cond.static yX3_isHole, Cond.code yX3_isHole cX3_isHole 1 (some .boolean), Cond.methodLink RX0 83 yX0_exists]
def wsX3_sell : List Cond := .code yX3_sell cX3_sell 2 (some .int) :: ((wsX3_sell_r1 ++ (wsX3_sell_r2 ++ wsX3_sell_r3)) ++ wsX30 ++ wsX00 ++ wsX20 ++ (vx_atS RX3 109 "java/lang/IndexOutOfBoundsException" ["java/lang/RuntimeException", "java/lang/Exception"]).filter goodWord)
def wsX3_mate_r1 : List Cond := [Cond.classLink RX3 63 "java/lang/IllegalStateException", Cond.initialized "java/lang/IllegalStateException", Cond.fieldLink RX3 10 "LateDoves" "now" "LLateDoves$Cote;", Cond.methodLink RX3 75 yX3_needDove, Cond.instanceMethod yX3_needDove, Cond.selects RX3 yX3_needDove yX3_needDove, Cond.initialized RX3, Cond.code yX3_needDove cX3_needDove 2 none, Cond.classLink RX3 105 "java/lang/IndexOutOfBoundsException", Cond.initialized "java/lang/IndexOutOfBoundsException", Cond.methodLink RX3 235 yX0_exists, Cond.instanceMethod yX0_exists, Cond.selects RX0 yX0_exists yX0_exists, Cond.initialized RX0, Cond.code yX0_exists cX0_exists 2 (some .boolean), Cond.fieldLink RX0 11 "LateDoves$Cote" "doves" "[[I", Cond.methodLink RX3 81 yX0_reasonNotToPair, Cond.instanceMethod yX0_reasonNotToPair, Cond.selects RX0 yX0_reasonNotToPair yX0_reasonNotToPair, Cond.code yX0_reasonNotToPair cX0_reasonNotToPair 4 (some .int), Cond.methodLink RX3 68 yX3_save, Cond.instanceMethod yX3_save, Cond.selects RX3 yX3_save yX3_save, Cond.code yX3_save cX3_save 3 none]
def wsX3_mate_r2 : List Cond := [Cond.fieldLink RX3 30 "LateDoves" "savedCount" "I", Cond.fieldLink RX3 26 "LateDoves" "saved" "[LLateDoves$Cote;", Cond.methodLink RX3 162 yX0_copyFrom, Cond.instanceMethod yX0_copyFrom, Cond.selects RX0 yX0_copyFrom yX0_copyFrom, Cond.code yX0_copyFrom cX0_copyFrom 3 none, Cond.methodLink RX0 36 arraycopyName, Cond.native arraycopyName, Cond.static arraycopyName, Cond.initialized "java/lang/System", Cond.fieldLink RX0 16 "LateDoves$Cote" "holes" "[[I", Cond.fieldLink RX0 19 "LateDoves$Cote" "settings" "[I", Cond.fieldLink RX0 23 "LateDoves$Cote" "atDawn" "[I", Cond.fieldLink RX0 26 "LateDoves$Cote" "stop" "[I", Cond.fieldLink RX0 32 "LateDoves$Cote" "way" "LLateDoves$Way;", Cond.fieldLink RX0 46 "LateDoves$Cote" "day" "I", Cond.fieldLink RX0 50 "LateDoves$Cote" "time" "I", Cond.fieldLink RX0 53 "LateDoves$Cote" "shifts" "I", Cond.fieldLink RX0 56 "LateDoves$Cote" "quarrels" "I", Cond.methodLink RX0 42 yX2_copyFrom, Cond.instanceMethod yX2_copyFrom, Cond.selects RX2 yX2_copyFrom yX2_copyFrom, Cond.initialized RX2, Cond.code yX2_copyFrom cX2_copyFrom 2 none]
def wsX3_mate_r3 : List Cond := [Cond.fieldLink RX2 9 "LateDoves$Way" "who" "[I", Cond.methodLink RX2 22 arraycopyName, Cond.fieldLink RX2 15 "LateDoves$Way" "where" "[I", Cond.fieldLink RX2 18 "LateDoves$Way" "size" "I", Cond.methodLink RX3 86 yX0_pair, Cond.instanceMethod yX0_pair, Cond.selects RX0 yX0_pair yX0_pair, Cond.code yX0_pair cX0_pair 3 none, Cond.methodLink RX3 90 yX0_pairs, Cond.instanceMethod yX0_pairs, Cond.selects RX0 yX0_pairs yX0_pairs, Cond.code yX0_pairs cX0_pairs 3 (some .int), Cond.methodLink RX0 83 yX0_exists]
def wsX3_mate : List Cond := .code yX3_mate cX3_mate 3 (some .int) :: ((wsX3_mate_r1 ++ (wsX3_mate_r2 ++ wsX3_mate_r3)) ++ wsX30 ++ wsX00 ++ wsX20 ++ (vx_atS RX3 67 "java/lang/IllegalStateException" ["java/lang/RuntimeException", "java/lang/Exception"]).filter goodWord ++ (vx_atS RX3 109 "java/lang/IndexOutOfBoundsException" ["java/lang/RuntimeException", "java/lang/Exception"]).filter goodWord)
def wsX3_shut_r1 : List Cond := [Cond.classLink RX3 63 "java/lang/IllegalStateException", Cond.initialized "java/lang/IllegalStateException", Cond.fieldLink RX3 10 "LateDoves" "now" "LLateDoves$Cote;", Cond.methodLink RX3 48 yX3_needHole, Cond.static yX3_needHole, Cond.initialized RX3, Cond.code yX3_needHole cX3_needHole 1 none, Cond.classLink RX3 105 "java/lang/IndexOutOfBoundsException", Cond.initialized "java/lang/IndexOutOfBoundsException", Cond.methodLink RX3 260 yX3_isHole, Cond.static yX3_isHole, Cond.code yX3_isHole cX3_isHole 1 (some .boolean), Cond.methodLink RX3 94 yX0_reasonNotToShut, Cond.instanceMethod yX0_reasonNotToShut, Cond.selects RX0 yX0_reasonNotToShut yX0_reasonNotToShut, Cond.initialized RX0, Cond.code yX0_reasonNotToShut cX0_reasonNotToShut 2 (some .int), Cond.fieldLink RX0 16 "LateDoves$Cote" "holes" "[[I", Cond.methodLink RX0 86 yX0_isOpen, Cond.instanceMethod yX0_isOpen, Cond.selects RX0 yX0_isOpen yX0_isOpen, Cond.code yX0_isOpen cX0_isOpen 2 (some .boolean), Cond.methodLink RX3 68 yX3_save, Cond.instanceMethod yX3_save]
def wsX3_shut_r2 : List Cond := [Cond.selects RX3 yX3_save yX3_save, Cond.code yX3_save cX3_save 3 none, Cond.fieldLink RX3 30 "LateDoves" "savedCount" "I", Cond.fieldLink RX3 26 "LateDoves" "saved" "[LLateDoves$Cote;", Cond.methodLink RX3 162 yX0_copyFrom, Cond.instanceMethod yX0_copyFrom, Cond.selects RX0 yX0_copyFrom yX0_copyFrom, Cond.code yX0_copyFrom cX0_copyFrom 3 none, Cond.fieldLink RX0 11 "LateDoves$Cote" "doves" "[[I", Cond.methodLink RX0 36 arraycopyName, Cond.native arraycopyName, Cond.static arraycopyName, Cond.initialized "java/lang/System", Cond.fieldLink RX0 19 "LateDoves$Cote" "settings" "[I", Cond.fieldLink RX0 23 "LateDoves$Cote" "atDawn" "[I", Cond.fieldLink RX0 26 "LateDoves$Cote" "stop" "[I", Cond.fieldLink RX0 32 "LateDoves$Cote" "way" "LLateDoves$Way;", Cond.fieldLink RX0 46 "LateDoves$Cote" "day" "I", Cond.fieldLink RX0 50 "LateDoves$Cote" "time" "I", Cond.fieldLink RX0 53 "LateDoves$Cote" "shifts" "I", Cond.fieldLink RX0 56 "LateDoves$Cote" "quarrels" "I", Cond.methodLink RX0 42 yX2_copyFrom, Cond.instanceMethod yX2_copyFrom, Cond.selects RX2 yX2_copyFrom yX2_copyFrom]
def wsX3_shut_r3 : List Cond := [Cond.initialized RX2, Cond.code yX2_copyFrom cX2_copyFrom 2 none, Cond.fieldLink RX2 9 "LateDoves$Way" "who" "[I", Cond.methodLink RX2 22 arraycopyName, Cond.fieldLink RX2 15 "LateDoves$Way" "where" "[I", Cond.fieldLink RX2 18 "LateDoves$Way" "size" "I", Cond.methodLink RX3 99 yX0_setOpen, Cond.instanceMethod yX0_setOpen, Cond.selects RX0 yX0_setOpen yX0_setOpen, Cond.code yX0_setOpen cX0_setOpen 3 none, Cond.methodLink RX3 102 yX0_openHoles, Cond.instanceMethod yX0_openHoles, Cond.selects RX0 yX0_openHoles yX0_openHoles, Cond.code yX0_openHoles cX0_openHoles 3 (some .int)]
def wsX3_shut : List Cond := .code yX3_shut cX3_shut 2 (some .int) :: ((wsX3_shut_r1 ++ (wsX3_shut_r2 ++ wsX3_shut_r3)) ++ wsX30 ++ wsX00 ++ wsX20 ++ (vx_atS RX3 67 "java/lang/IllegalStateException" ["java/lang/RuntimeException", "java/lang/Exception"]).filter goodWord ++ (vx_atS RX3 109 "java/lang/IndexOutOfBoundsException" ["java/lang/RuntimeException", "java/lang/Exception"]).filter goodWord)
def wsX3_open_r1 : List Cond := [Cond.fieldLink RX3 10 "LateDoves" "now" "LLateDoves$Cote;", Cond.methodLink RX3 48 yX3_needHole, Cond.static yX3_needHole, Cond.initialized RX3, Cond.code yX3_needHole cX3_needHole 1 none, Cond.classLink RX3 105 "java/lang/IndexOutOfBoundsException", Cond.initialized "java/lang/IndexOutOfBoundsException", Cond.methodLink RX3 260 yX3_isHole, Cond.static yX3_isHole, Cond.code yX3_isHole cX3_isHole 1 (some .boolean), Cond.methodLink RX3 68 yX3_save, Cond.instanceMethod yX3_save, Cond.selects RX3 yX3_save yX3_save, Cond.code yX3_save cX3_save 3 none, Cond.fieldLink RX3 30 "LateDoves" "savedCount" "I", Cond.fieldLink RX3 26 "LateDoves" "saved" "[LLateDoves$Cote;", Cond.methodLink RX3 162 yX0_copyFrom, Cond.instanceMethod yX0_copyFrom, Cond.selects RX0 yX0_copyFrom yX0_copyFrom, Cond.initialized RX0, Cond.code yX0_copyFrom cX0_copyFrom 3 none, Cond.fieldLink RX0 11 "LateDoves$Cote" "doves" "[[I", Cond.methodLink RX0 36 arraycopyName, Cond.native arraycopyName]
def wsX3_open_r2 : List Cond := [Cond.static arraycopyName, Cond.initialized "java/lang/System", Cond.fieldLink RX0 16 "LateDoves$Cote" "holes" "[[I", Cond.fieldLink RX0 19 "LateDoves$Cote" "settings" "[I", Cond.fieldLink RX0 23 "LateDoves$Cote" "atDawn" "[I", Cond.fieldLink RX0 26 "LateDoves$Cote" "stop" "[I", Cond.fieldLink RX0 32 "LateDoves$Cote" "way" "LLateDoves$Way;", Cond.fieldLink RX0 46 "LateDoves$Cote" "day" "I", Cond.fieldLink RX0 50 "LateDoves$Cote" "time" "I", Cond.fieldLink RX0 53 "LateDoves$Cote" "shifts" "I", Cond.fieldLink RX0 56 "LateDoves$Cote" "quarrels" "I", Cond.methodLink RX0 42 yX2_copyFrom, Cond.instanceMethod yX2_copyFrom, Cond.selects RX2 yX2_copyFrom yX2_copyFrom, Cond.initialized RX2, Cond.code yX2_copyFrom cX2_copyFrom 2 none, Cond.fieldLink RX2 9 "LateDoves$Way" "who" "[I", Cond.methodLink RX2 22 arraycopyName, Cond.fieldLink RX2 15 "LateDoves$Way" "where" "[I", Cond.fieldLink RX2 18 "LateDoves$Way" "size" "I", Cond.methodLink RX3 99 yX0_setOpen, Cond.instanceMethod yX0_setOpen, Cond.selects RX0 yX0_setOpen yX0_setOpen, Cond.code yX0_setOpen cX0_setOpen 3 none]
def wsX3_open_r3 : List Cond := [Cond.methodLink RX3 102 yX0_openHoles, Cond.instanceMethod yX0_openHoles, Cond.selects RX0 yX0_openHoles yX0_openHoles, Cond.code yX0_openHoles cX0_openHoles 3 (some .int), Cond.methodLink RX0 86 yX0_isOpen, Cond.instanceMethod yX0_isOpen, Cond.selects RX0 yX0_isOpen yX0_isOpen, Cond.code yX0_isOpen cX0_isOpen 2 (some .boolean)]
def wsX3_open : List Cond := .code yX3_open cX3_open 2 (some .int) :: ((wsX3_open_r1 ++ (wsX3_open_r2 ++ wsX3_open_r3)) ++ wsX30 ++ wsX00 ++ wsX20 ++ (vx_atS RX3 109 "java/lang/IndexOutOfBoundsException" ["java/lang/RuntimeException", "java/lang/Exception"]).filter goodWord)
def wsX3_set_r1 : List Cond := [Cond.classLink RX3 105 "java/lang/IndexOutOfBoundsException", Cond.initialized "java/lang/IndexOutOfBoundsException", Cond.classLink RX3 52 "java/lang/IllegalArgumentException", Cond.initialized "java/lang/IllegalArgumentException", Cond.fieldLink RX3 10 "LateDoves" "now" "LLateDoves$Cote;", Cond.methodLink RX3 68 yX3_save, Cond.instanceMethod yX3_save, Cond.selects RX3 yX3_save yX3_save, Cond.initialized RX3, Cond.code yX3_save cX3_save 3 none, Cond.fieldLink RX3 30 "LateDoves" "savedCount" "I", Cond.fieldLink RX3 26 "LateDoves" "saved" "[LLateDoves$Cote;", Cond.methodLink RX3 162 yX0_copyFrom, Cond.instanceMethod yX0_copyFrom, Cond.selects RX0 yX0_copyFrom yX0_copyFrom, Cond.initialized RX0, Cond.code yX0_copyFrom cX0_copyFrom 3 none, Cond.fieldLink RX0 11 "LateDoves$Cote" "doves" "[[I", Cond.methodLink RX0 36 arraycopyName, Cond.native arraycopyName, Cond.static arraycopyName, Cond.initialized "java/lang/System", Cond.fieldLink RX0 16 "LateDoves$Cote" "holes" "[[I", Cond.fieldLink RX0 19 "LateDoves$Cote" "settings" "[I"]
def wsX3_set_r2 : List Cond := [Cond.fieldLink RX0 23 "LateDoves$Cote" "atDawn" "[I", Cond.fieldLink RX0 26 "LateDoves$Cote" "stop" "[I", Cond.fieldLink RX0 32 "LateDoves$Cote" "way" "LLateDoves$Way;", Cond.fieldLink RX0 46 "LateDoves$Cote" "day" "I", Cond.fieldLink RX0 50 "LateDoves$Cote" "time" "I", Cond.fieldLink RX0 53 "LateDoves$Cote" "shifts" "I", Cond.fieldLink RX0 56 "LateDoves$Cote" "quarrels" "I", Cond.methodLink RX0 42 yX2_copyFrom, Cond.instanceMethod yX2_copyFrom, Cond.selects RX2 yX2_copyFrom yX2_copyFrom, Cond.initialized RX2, Cond.code yX2_copyFrom cX2_copyFrom 2 none, Cond.fieldLink RX2 9 "LateDoves$Way" "who" "[I", Cond.methodLink RX2 22 arraycopyName, Cond.fieldLink RX2 15 "LateDoves$Way" "where" "[I", Cond.fieldLink RX2 18 "LateDoves$Way" "size" "I"]
def wsX3_set : List Cond := .code yX3_set cX3_set 5 (some .int) :: ((wsX3_set_r1 ++ wsX3_set_r2) ++ wsX30 ++ wsX00 ++ wsX20 ++ (vx_atS RX3 109 "java/lang/IndexOutOfBoundsException" ["java/lang/RuntimeException", "java/lang/Exception"]).filter goodWord ++ (vx_atS RX3 56 "java/lang/IllegalArgumentException" ["java/lang/RuntimeException", "java/lang/Exception"]).filter goodWord)
def wsX3_needTime : List Cond := .code yX3_needTime cX3_needTime 1 none :: ([.classLink RX3 52 "java/lang/IllegalArgumentException", .initialized "java/lang/IllegalArgumentException"] ++ (vx_atS RX3 56 "java/lang/IllegalArgumentException" ["java/lang/RuntimeException", "java/lang/Exception"]).filter goodWord)
def wsX3_home_r1 : List Cond := [Cond.classLink RX3 63 "java/lang/IllegalStateException", Cond.initialized "java/lang/IllegalStateException", Cond.fieldLink RX3 10 "LateDoves" "now" "LLateDoves$Cote;", Cond.methodLink RX3 75 yX3_needDove, Cond.instanceMethod yX3_needDove, Cond.selects RX3 yX3_needDove yX3_needDove, Cond.initialized RX3, Cond.code yX3_needDove cX3_needDove 2 none, Cond.classLink RX3 105 "java/lang/IndexOutOfBoundsException", Cond.initialized "java/lang/IndexOutOfBoundsException", Cond.methodLink RX3 235 yX0_exists, Cond.instanceMethod yX0_exists, Cond.selects RX0 yX0_exists yX0_exists, Cond.initialized RX0, Cond.code yX0_exists cX0_exists 2 (some .boolean), Cond.fieldLink RX0 11 "LateDoves$Cote" "doves" "[[I", Cond.methodLink RX3 115 yX3_needTime, Cond.static yX3_needTime, Cond.code yX3_needTime cX3_needTime 1 none, Cond.classLink RX3 52 "java/lang/IllegalArgumentException", Cond.initialized "java/lang/IllegalArgumentException", Cond.methodLink RX3 118 yX0_reasonNotHome, Cond.instanceMethod yX0_reasonNotHome, Cond.selects RX0 yX0_reasonNotHome yX0_reasonNotHome]
def wsX3_home_r2 : List Cond := [Cond.code yX0_reasonNotHome cX0_reasonNotHome 3 (some .int), Cond.fieldLink RX0 50 "LateDoves$Cote" "time" "I", Cond.methodLink RX3 68 yX3_save, Cond.instanceMethod yX3_save, Cond.selects RX3 yX3_save yX3_save, Cond.code yX3_save cX3_save 3 none, Cond.fieldLink RX3 30 "LateDoves" "savedCount" "I", Cond.fieldLink RX3 26 "LateDoves" "saved" "[LLateDoves$Cote;", Cond.methodLink RX3 162 yX0_copyFrom, Cond.instanceMethod yX0_copyFrom, Cond.selects RX0 yX0_copyFrom yX0_copyFrom, Cond.code yX0_copyFrom cX0_copyFrom 3 none, Cond.methodLink RX0 36 arraycopyName, Cond.native arraycopyName, Cond.static arraycopyName, Cond.initialized "java/lang/System", Cond.fieldLink RX0 16 "LateDoves$Cote" "holes" "[[I", Cond.fieldLink RX0 19 "LateDoves$Cote" "settings" "[I", Cond.fieldLink RX0 23 "LateDoves$Cote" "atDawn" "[I", Cond.fieldLink RX0 26 "LateDoves$Cote" "stop" "[I", Cond.fieldLink RX0 32 "LateDoves$Cote" "way" "LLateDoves$Way;", Cond.fieldLink RX0 46 "LateDoves$Cote" "day" "I", Cond.fieldLink RX0 53 "LateDoves$Cote" "shifts" "I", Cond.fieldLink RX0 56 "LateDoves$Cote" "quarrels" "I"]
def wsX3_home_r3 : List Cond := [Cond.methodLink RX0 42 yX2_copyFrom, Cond.instanceMethod yX2_copyFrom, Cond.selects RX2 yX2_copyFrom yX2_copyFrom, Cond.initialized RX2, Cond.code yX2_copyFrom cX2_copyFrom 2 none, Cond.fieldLink RX2 9 "LateDoves$Way" "who" "[I", Cond.methodLink RX2 22 arraycopyName, Cond.fieldLink RX2 15 "LateDoves$Way" "where" "[I", Cond.fieldLink RX2 18 "LateDoves$Way" "size" "I", Cond.methodLink RX3 123 yX0_comeHome, Cond.instanceMethod yX0_comeHome, Cond.selects RX0 yX0_comeHome yX0_comeHome, Cond.code yX0_comeHome cX0_comeHome 8 (some .int), Cond.methodLink RX0 86 yX0_isOpen, Cond.instanceMethod yX0_isOpen, Cond.selects RX0 yX0_isOpen yX0_isOpen, Cond.code yX0_isOpen cX0_isOpen 2 (some .boolean), Cond.static yX3_isHole, Cond.code yX3_isHole cX3_isHole 1 (some .boolean), Cond.methodLink RX0 92 yX0_enterOwnHole, Cond.instanceMethod yX0_enterOwnHole, Cond.selects RX0 yX0_enterOwnHole yX0_enterOwnHole, Cond.code yX0_enterOwnHole cX0_enterOwnHole 5 (some .int), Cond.methodLink RX0 83 yX0_exists]
def wsX3_home_r4 : List Cond := [Cond.methodLink RX0 99 yX0_shiftFrom, Cond.instanceMethod yX0_shiftFrom, Cond.selects RX0 yX0_shiftFrom yX0_shiftFrom, Cond.code yX0_shiftFrom cX0_shiftFrom 4 (some .int), Cond.methodLink RX0 103 yX0_sit, Cond.instanceMethod yX0_sit, Cond.selects RX0 yX0_sit yX0_sit, Cond.code yX0_sit cX0_sit 3 none, Cond.methodLink RX0 113 yX2_note, Cond.instanceMethod yX2_note, Cond.selects RX2 yX2_note yX2_note, Cond.code yX2_note cX2_note 3 none, Cond.methodLink RX0 96 yX0_settle, Cond.instanceMethod yX0_settle, Cond.selects RX0 yX0_settle yX0_settle, Cond.code yX0_settle cX0_settle 6 (some .int), Cond.methodLink RX0 107 yX0_firstFreeFor, Cond.instanceMethod yX0_firstFreeFor, Cond.selects RX0 yX0_firstFreeFor yX0_firstFreeFor, Cond.code yX0_firstFreeFor cX0_firstFreeFor 6 (some .int), Cond.methodLink RX0 110 yX0_isFree, Cond.instanceMethod yX0_isFree, Cond.selects RX0 yX0_isFree yX0_isFree, Cond.code yX0_isFree cX0_isFree 2 (some .boolean)]
def wsX3_home : List Cond := .code yX3_home cX3_home 3 (some .int) :: ((wsX3_home_r1 ++ (wsX3_home_r2 ++ (wsX3_home_r3 ++ wsX3_home_r4))) ++ wsX30 ++ wsX00 ++ wsX20 ++ (vx_atS RX3 67 "java/lang/IllegalStateException" ["java/lang/RuntimeException", "java/lang/Exception"]).filter goodWord ++ (vx_atS RX3 109 "java/lang/IndexOutOfBoundsException" ["java/lang/RuntimeException", "java/lang/Exception"]).filter goodWord ++ (vx_atS RX3 56 "java/lang/IllegalArgumentException" ["java/lang/RuntimeException", "java/lang/Exception"]).filter goodWord)
def wsX3_dawn_r1 : List Cond := [Cond.fieldLink RX3 10 "LateDoves" "now" "LLateDoves$Cote;", Cond.methodLink RX3 68 yX3_save, Cond.instanceMethod yX3_save, Cond.selects RX3 yX3_save yX3_save, Cond.initialized RX3, Cond.code yX3_save cX3_save 3 none, Cond.fieldLink RX3 30 "LateDoves" "savedCount" "I", Cond.fieldLink RX3 26 "LateDoves" "saved" "[LLateDoves$Cote;", Cond.methodLink RX3 162 yX0_copyFrom, Cond.instanceMethod yX0_copyFrom, Cond.selects RX0 yX0_copyFrom yX0_copyFrom, Cond.initialized RX0, Cond.code yX0_copyFrom cX0_copyFrom 3 none, Cond.fieldLink RX0 11 "LateDoves$Cote" "doves" "[[I", Cond.methodLink RX0 36 arraycopyName, Cond.native arraycopyName, Cond.static arraycopyName, Cond.initialized "java/lang/System", Cond.fieldLink RX0 16 "LateDoves$Cote" "holes" "[[I", Cond.fieldLink RX0 19 "LateDoves$Cote" "settings" "[I", Cond.fieldLink RX0 23 "LateDoves$Cote" "atDawn" "[I", Cond.fieldLink RX0 26 "LateDoves$Cote" "stop" "[I", Cond.fieldLink RX0 32 "LateDoves$Cote" "way" "LLateDoves$Way;", Cond.fieldLink RX0 46 "LateDoves$Cote" "day" "I"]
def wsX3_dawn_r2 : List Cond := [Cond.fieldLink RX0 50 "LateDoves$Cote" "time" "I", Cond.fieldLink RX0 53 "LateDoves$Cote" "shifts" "I", Cond.fieldLink RX0 56 "LateDoves$Cote" "quarrels" "I", Cond.methodLink RX0 42 yX2_copyFrom, Cond.instanceMethod yX2_copyFrom, Cond.selects RX2 yX2_copyFrom yX2_copyFrom, Cond.initialized RX2, Cond.code yX2_copyFrom cX2_copyFrom 2 none, Cond.fieldLink RX2 9 "LateDoves$Way" "who" "[I", Cond.methodLink RX2 22 arraycopyName, Cond.fieldLink RX2 15 "LateDoves$Way" "where" "[I", Cond.fieldLink RX2 18 "LateDoves$Way" "size" "I", Cond.methodLink RX3 126 yX0_endNight, Cond.instanceMethod yX0_endNight, Cond.selects RX0 yX0_endNight yX0_endNight, Cond.code yX0_endNight cX0_endNight 2 (some .int), Cond.methodLink RX0 83 yX0_exists, Cond.instanceMethod yX0_exists, Cond.selects RX0 yX0_exists yX0_exists, Cond.code yX0_exists cX0_exists 2 (some .boolean), Cond.methodLink RX0 116 yX0_countAtDawn, Cond.instanceMethod yX0_countAtDawn, Cond.selects RX0 yX0_countAtDawn yX0_countAtDawn, Cond.code yX0_countAtDawn cX0_countAtDawn 3 none]
def wsX3_dawn : List Cond := .code yX3_dawn cX3_dawn 1 (some .int) :: ((wsX3_dawn_r1 ++ wsX3_dawn_r2) ++ wsX30 ++ wsX00 ++ wsX20)
def wsX3_undo_r1 : List Cond := [Cond.classLink RX3 63 "java/lang/IllegalStateException", Cond.initialized "java/lang/IllegalStateException", Cond.fieldLink RX3 30 "LateDoves" "savedCount" "I", Cond.fieldLink RX3 10 "LateDoves" "now" "LLateDoves$Cote;", Cond.fieldLink RX3 26 "LateDoves" "saved" "[LLateDoves$Cote;", Cond.methodLink RX3 162 yX0_copyFrom, Cond.instanceMethod yX0_copyFrom, Cond.selects RX0 yX0_copyFrom yX0_copyFrom, Cond.initialized RX0, Cond.code yX0_copyFrom cX0_copyFrom 3 none, Cond.fieldLink RX0 11 "LateDoves$Cote" "doves" "[[I", Cond.methodLink RX0 36 arraycopyName, Cond.native arraycopyName, Cond.static arraycopyName, Cond.initialized "java/lang/System", Cond.fieldLink RX0 16 "LateDoves$Cote" "holes" "[[I", Cond.fieldLink RX0 19 "LateDoves$Cote" "settings" "[I", Cond.fieldLink RX0 23 "LateDoves$Cote" "atDawn" "[I", Cond.fieldLink RX0 26 "LateDoves$Cote" "stop" "[I", Cond.fieldLink RX0 32 "LateDoves$Cote" "way" "LLateDoves$Way;", Cond.fieldLink RX0 46 "LateDoves$Cote" "day" "I", Cond.fieldLink RX0 50 "LateDoves$Cote" "time" "I", Cond.fieldLink RX0 53 "LateDoves$Cote" "shifts" "I", Cond.fieldLink RX0 56 "LateDoves$Cote" "quarrels" "I"]
def wsX3_undo_r2 : List Cond := [Cond.methodLink RX0 42 yX2_copyFrom, Cond.instanceMethod yX2_copyFrom, Cond.selects RX2 yX2_copyFrom yX2_copyFrom, Cond.initialized RX2, Cond.code yX2_copyFrom cX2_copyFrom 2 none, Cond.fieldLink RX2 9 "LateDoves$Way" "who" "[I", Cond.methodLink RX2 22 arraycopyName, Cond.fieldLink RX2 15 "LateDoves$Way" "where" "[I", Cond.fieldLink RX2 18 "LateDoves$Way" "size" "I"]
def wsX3_undo : List Cond := .code yX3_undo cX3_undo 1 (some .int) :: ((wsX3_undo_r1 ++ wsX3_undo_r2) ++ wsX30 ++ wsX00 ++ wsX20 ++ (vx_atS RX3 67 "java/lang/IllegalStateException" ["java/lang/RuntimeException", "java/lang/Exception"]).filter goodWord)
def wsX3_restore_r1 : List Cond := [Cond.classLink RX3 63 "java/lang/IllegalStateException", Cond.initialized "java/lang/IllegalStateException", Cond.fieldLink RX3 22 "LateDoves" "hasSnapshot" "Z", Cond.fieldLink RX3 10 "LateDoves" "now" "LLateDoves$Cote;", Cond.fieldLink RX3 19 "LateDoves" "snapshot" "LLateDoves$Cote;", Cond.methodLink RX3 68 yX3_save, Cond.instanceMethod yX3_save, Cond.selects RX3 yX3_save yX3_save, Cond.initialized RX3, Cond.code yX3_save cX3_save 3 none, Cond.fieldLink RX3 30 "LateDoves" "savedCount" "I", Cond.fieldLink RX3 26 "LateDoves" "saved" "[LLateDoves$Cote;", Cond.methodLink RX3 162 yX0_copyFrom, Cond.instanceMethod yX0_copyFrom, Cond.selects RX0 yX0_copyFrom yX0_copyFrom, Cond.initialized RX0, Cond.code yX0_copyFrom cX0_copyFrom 3 none, Cond.fieldLink RX0 11 "LateDoves$Cote" "doves" "[[I", Cond.methodLink RX0 36 arraycopyName, Cond.native arraycopyName, Cond.static arraycopyName, Cond.initialized "java/lang/System", Cond.fieldLink RX0 16 "LateDoves$Cote" "holes" "[[I", Cond.fieldLink RX0 19 "LateDoves$Cote" "settings" "[I"]
def wsX3_restore_r2 : List Cond := [Cond.fieldLink RX0 23 "LateDoves$Cote" "atDawn" "[I", Cond.fieldLink RX0 26 "LateDoves$Cote" "stop" "[I", Cond.fieldLink RX0 32 "LateDoves$Cote" "way" "LLateDoves$Way;", Cond.fieldLink RX0 46 "LateDoves$Cote" "day" "I", Cond.fieldLink RX0 50 "LateDoves$Cote" "time" "I", Cond.fieldLink RX0 53 "LateDoves$Cote" "shifts" "I", Cond.fieldLink RX0 56 "LateDoves$Cote" "quarrels" "I", Cond.methodLink RX0 42 yX2_copyFrom, Cond.instanceMethod yX2_copyFrom, Cond.selects RX2 yX2_copyFrom yX2_copyFrom, Cond.initialized RX2, Cond.code yX2_copyFrom cX2_copyFrom 2 none, Cond.fieldLink RX2 9 "LateDoves$Way" "who" "[I", Cond.methodLink RX2 22 arraycopyName, Cond.fieldLink RX2 15 "LateDoves$Way" "where" "[I", Cond.fieldLink RX2 18 "LateDoves$Way" "size" "I"]
def wsX3_restore : List Cond := .code yX3_restore cX3_restore 1 (some .int) :: ((wsX3_restore_r1 ++ wsX3_restore_r2) ++ wsX30 ++ wsX00 ++ wsX20 ++ (vx_atS RX3 67 "java/lang/IllegalStateException" ["java/lang/RuntimeException", "java/lang/Exception"]).filter goodWord)
def wsX3_dove : List Cond := .code yX3_dove cX3_dove 3 (some .int) :: ([.classLink RX3 52 "java/lang/IllegalArgumentException", .initialized "java/lang/IllegalArgumentException", .fieldLink RX3 10 "LateDoves" "now" "LLateDoves$Cote;", .methodLink RX3 75 yX3_needDove, .instanceMethod yX3_needDove, .selects RX3 yX3_needDove yX3_needDove, .initialized RX3, .code yX3_needDove cX3_needDove 2 none, .classLink RX3 105 "java/lang/IndexOutOfBoundsException", .initialized "java/lang/IndexOutOfBoundsException", .methodLink RX3 235 yX0_exists, .instanceMethod yX0_exists, .selects RX0 yX0_exists yX0_exists, .initialized RX0, .code yX0_exists cX0_exists 2 (some .boolean), .fieldLink RX0 11 "LateDoves$Cote" "doves" "[[I"] ++ wsX30 ++ wsX00 ++ (vx_atS RX3 56 "java/lang/IllegalArgumentException" ["java/lang/RuntimeException", "java/lang/Exception"]).filter goodWord ++ (vx_atS RX3 109 "java/lang/IndexOutOfBoundsException" ["java/lang/RuntimeException", "java/lang/Exception"]).filter goodWord)
def wsX3_hole : List Cond := .code yX3_hole cX3_hole 3 (some .int) :: ([.classLink RX3 52 "java/lang/IllegalArgumentException", .initialized "java/lang/IllegalArgumentException", .fieldLink RX3 10 "LateDoves" "now" "LLateDoves$Cote;", .methodLink RX3 48 yX3_needHole, .static yX3_needHole, .initialized RX3, .code yX3_needHole cX3_needHole 1 none, .classLink RX3 105 "java/lang/IndexOutOfBoundsException", .initialized "java/lang/IndexOutOfBoundsException", .methodLink RX3 260 yX3_isHole, .static yX3_isHole, .code yX3_isHole cX3_isHole 1 (some .boolean)] ++ wsX30 ++ wsX00 ++ (vx_atS RX3 56 "java/lang/IllegalArgumentException" ["java/lang/RuntimeException", "java/lang/Exception"]).filter goodWord ++ (vx_atS RX3 109 "java/lang/IndexOutOfBoundsException" ["java/lang/RuntimeException", "java/lang/Exception"]).filter goodWord)
def wsX3_count_r1 : List Cond := [Cond.classLink RX3 52 "java/lang/IllegalArgumentException", Cond.initialized "java/lang/IllegalArgumentException", Cond.fieldLink RX3 30 "LateDoves" "savedCount" "I", Cond.fieldLink RX3 10 "LateDoves" "now" "LLateDoves$Cote;", Cond.methodLink RX3 184 yX0_numberOf, Cond.instanceMethod yX0_numberOf, Cond.selects RX0 yX0_numberOf yX0_numberOf, Cond.initialized RX0, Cond.code yX0_numberOf cX0_numberOf 2 (some .int), Cond.fieldLink RX0 46 "LateDoves$Cote" "day" "I", Cond.fieldLink RX0 50 "LateDoves$Cote" "time" "I", Cond.fieldLink RX0 53 "LateDoves$Cote" "shifts" "I", Cond.fieldLink RX0 56 "LateDoves$Cote" "quarrels" "I", Cond.fieldLink RX0 23 "LateDoves$Cote" "atDawn" "[I", Cond.fieldLink RX0 19 "LateDoves$Cote" "settings" "[I", Cond.methodLink RX0 63 yX0_doveCount, Cond.instanceMethod yX0_doveCount, Cond.selects RX0 yX0_doveCount yX0_doveCount, Cond.code yX0_doveCount cX0_doveCount 3 (some .int), Cond.methodLink RX0 83 yX0_exists, Cond.instanceMethod yX0_exists, Cond.selects RX0 yX0_exists yX0_exists, Cond.code yX0_exists cX0_exists 2 (some .boolean), Cond.fieldLink RX0 11 "LateDoves$Cote" "doves" "[[I"]
def wsX3_count_r2 : List Cond := [Cond.methodLink RX0 67 yX0_sittingByDoves, Cond.instanceMethod yX0_sittingByDoves, Cond.selects RX0 yX0_sittingByDoves yX0_sittingByDoves, Cond.code yX0_sittingByDoves cX0_sittingByDoves 1 (some .int), Cond.methodLink RX0 73 yX0_placedAt, Cond.instanceMethod yX0_placedAt, Cond.selects RX0 yX0_placedAt yX0_placedAt, Cond.code yX0_placedAt cX0_placedAt 4 (some .int), Cond.methodLink RX0 70 yX0_sittingByHoles, Cond.instanceMethod yX0_sittingByHoles, Cond.selects RX0 yX0_sittingByHoles yX0_sittingByHoles, Cond.code yX0_sittingByHoles cX0_sittingByHoles 3 (some .int), Cond.fieldLink RX0 16 "LateDoves$Cote" "holes" "[[I", Cond.methodLink RX0 77 yX0_openHoles, Cond.instanceMethod yX0_openHoles, Cond.selects RX0 yX0_openHoles yX0_openHoles, Cond.code yX0_openHoles cX0_openHoles 3 (some .int), Cond.methodLink RX0 86 yX0_isOpen, Cond.instanceMethod yX0_isOpen, Cond.selects RX0 yX0_isOpen yX0_isOpen, Cond.code yX0_isOpen cX0_isOpen 2 (some .boolean), Cond.static yX3_isHole, Cond.initialized RX3, Cond.code yX3_isHole cX3_isHole 1 (some .boolean)]
def wsX3_count_r3 : List Cond := [Cond.methodLink RX0 80 yX0_pairs, Cond.instanceMethod yX0_pairs, Cond.selects RX0 yX0_pairs yX0_pairs, Cond.code yX0_pairs cX0_pairs 3 (some .int)]
def wsX3_count : List Cond := .code yX3_count cX3_count 2 (some .int) :: ((wsX3_count_r1 ++ (wsX3_count_r2 ++ wsX3_count_r3)) ++ wsX30 ++ wsX00 ++ (vx_atS RX3 56 "java/lang/IllegalArgumentException" ["java/lang/RuntimeException", "java/lang/Exception"]).filter goodWord)
def wsX3_step : List Cond := .code yX3_step cX3_step 3 (some .int) :: ([.classLink RX3 52 "java/lang/IllegalArgumentException", .initialized "java/lang/IllegalArgumentException", .fieldLink RX3 10 "LateDoves" "now" "LLateDoves$Cote;"] ++ wsX30 ++ wsX00 ++ wsX20 ++ (vx_atS RX3 56 "java/lang/IllegalArgumentException" ["java/lang/RuntimeException", "java/lang/Exception"]).filter goodWord)
def wsX3_whyNot : List Cond := .code yX3_whyNot cX3_whyNot 3 (some .int) :: ([.fieldLink RX3 10 "LateDoves" "now" "LLateDoves$Cote;", .methodLink RX3 75 yX3_needDove, .instanceMethod yX3_needDove, .selects RX3 yX3_needDove yX3_needDove, .initialized RX3, .code yX3_needDove cX3_needDove 2 none, .classLink RX3 105 "java/lang/IndexOutOfBoundsException", .initialized "java/lang/IndexOutOfBoundsException", .methodLink RX3 235 yX0_exists, .instanceMethod yX0_exists, .selects RX0 yX0_exists yX0_exists, .initialized RX0, .code yX0_exists cX0_exists 2 (some .boolean), .fieldLink RX0 11 "LateDoves$Cote" "doves" "[[I", .methodLink RX3 115 yX3_needTime, .static yX3_needTime, .code yX3_needTime cX3_needTime 1 none, .classLink RX3 52 "java/lang/IllegalArgumentException", .initialized "java/lang/IllegalArgumentException", .methodLink RX3 118 yX0_reasonNotHome, .instanceMethod yX0_reasonNotHome, .selects RX0 yX0_reasonNotHome yX0_reasonNotHome, .code yX0_reasonNotHome cX0_reasonNotHome 3 (some .int), .fieldLink RX0 50 "LateDoves$Cote" "time" "I"] ++ wsX30 ++ wsX00 ++ (vx_atS RX3 109 "java/lang/IndexOutOfBoundsException" ["java/lang/RuntimeException", "java/lang/Exception"]).filter goodWord ++ (vx_atS RX3 56 "java/lang/IllegalArgumentException" ["java/lang/RuntimeException", "java/lang/Exception"]).filter goodWord)
def wsX3_tryHome_r1 : List Cond := [Cond.fieldLink RX3 10 "LateDoves" "now" "LLateDoves$Cote;", Cond.fieldLink RX3 16 "LateDoves" "trial" "LLateDoves$Cote;", Cond.methodLink RX3 118 yX0_reasonNotHome, Cond.instanceMethod yX0_reasonNotHome, Cond.selects RX0 yX0_reasonNotHome yX0_reasonNotHome, Cond.initialized RX0, Cond.code yX0_reasonNotHome cX0_reasonNotHome 3 (some .int), Cond.fieldLink RX0 11 "LateDoves$Cote" "doves" "[[I", Cond.fieldLink RX0 50 "LateDoves$Cote" "time" "I", Cond.methodLink RX3 162 yX0_copyFrom, Cond.instanceMethod yX0_copyFrom, Cond.selects RX0 yX0_copyFrom yX0_copyFrom, Cond.code yX0_copyFrom cX0_copyFrom 3 none, Cond.methodLink RX0 36 arraycopyName, Cond.native arraycopyName, Cond.static arraycopyName, Cond.initialized "java/lang/System", Cond.fieldLink RX0 16 "LateDoves$Cote" "holes" "[[I", Cond.fieldLink RX0 19 "LateDoves$Cote" "settings" "[I", Cond.fieldLink RX0 23 "LateDoves$Cote" "atDawn" "[I", Cond.fieldLink RX0 26 "LateDoves$Cote" "stop" "[I", Cond.fieldLink RX0 32 "LateDoves$Cote" "way" "LLateDoves$Way;", Cond.fieldLink RX0 46 "LateDoves$Cote" "day" "I", Cond.fieldLink RX0 53 "LateDoves$Cote" "shifts" "I"]
def wsX3_tryHome_r2 : List Cond := [Cond.fieldLink RX0 56 "LateDoves$Cote" "quarrels" "I", Cond.methodLink RX0 42 yX2_copyFrom, Cond.instanceMethod yX2_copyFrom, Cond.selects RX2 yX2_copyFrom yX2_copyFrom, Cond.initialized RX2, Cond.code yX2_copyFrom cX2_copyFrom 2 none, Cond.fieldLink RX2 9 "LateDoves$Way" "who" "[I", Cond.methodLink RX2 22 arraycopyName, Cond.fieldLink RX2 15 "LateDoves$Way" "where" "[I", Cond.fieldLink RX2 18 "LateDoves$Way" "size" "I", Cond.methodLink RX3 123 yX0_comeHome, Cond.instanceMethod yX0_comeHome, Cond.selects RX0 yX0_comeHome yX0_comeHome, Cond.code yX0_comeHome cX0_comeHome 8 (some .int), Cond.methodLink RX0 86 yX0_isOpen, Cond.instanceMethod yX0_isOpen, Cond.selects RX0 yX0_isOpen yX0_isOpen, Cond.code yX0_isOpen cX0_isOpen 2 (some .boolean), Cond.static yX3_isHole, Cond.initialized RX3, Cond.code yX3_isHole cX3_isHole 1 (some .boolean), Cond.methodLink RX0 92 yX0_enterOwnHole, Cond.instanceMethod yX0_enterOwnHole, Cond.selects RX0 yX0_enterOwnHole yX0_enterOwnHole]
def wsX3_tryHome_r3 : List Cond := [Cond.code yX0_enterOwnHole cX0_enterOwnHole 5 (some .int), Cond.methodLink RX0 83 yX0_exists, Cond.instanceMethod yX0_exists, Cond.selects RX0 yX0_exists yX0_exists, Cond.code yX0_exists cX0_exists 2 (some .boolean), Cond.methodLink RX0 99 yX0_shiftFrom, Cond.instanceMethod yX0_shiftFrom, Cond.selects RX0 yX0_shiftFrom yX0_shiftFrom, Cond.code yX0_shiftFrom cX0_shiftFrom 4 (some .int), Cond.methodLink RX0 103 yX0_sit, Cond.instanceMethod yX0_sit, Cond.selects RX0 yX0_sit yX0_sit, Cond.code yX0_sit cX0_sit 3 none, Cond.methodLink RX0 113 yX2_note, Cond.instanceMethod yX2_note, Cond.selects RX2 yX2_note yX2_note, Cond.code yX2_note cX2_note 3 none, Cond.methodLink RX0 96 yX0_settle, Cond.instanceMethod yX0_settle, Cond.selects RX0 yX0_settle yX0_settle, Cond.code yX0_settle cX0_settle 6 (some .int), Cond.methodLink RX0 107 yX0_firstFreeFor, Cond.instanceMethod yX0_firstFreeFor, Cond.selects RX0 yX0_firstFreeFor yX0_firstFreeFor]
def wsX3_tryHome_r4 : List Cond := [Cond.code yX0_firstFreeFor cX0_firstFreeFor 6 (some .int), Cond.methodLink RX0 110 yX0_isFree, Cond.instanceMethod yX0_isFree, Cond.selects RX0 yX0_isFree yX0_isFree, Cond.code yX0_isFree cX0_isFree 2 (some .boolean)]
def wsX3_tryHome : List Cond := .code yX3_tryHome cX3_tryHome 3 (some .boolean) :: ((wsX3_tryHome_r1 ++ (wsX3_tryHome_r2 ++ (wsX3_tryHome_r3 ++ wsX3_tryHome_r4))) ++ wsX30 ++ wsX00 ++ wsX20)
def wsX3_trialNumber : List Cond := .code yX3_trialNumber cX3_trialNumber 3 (some .int) :: ([.fieldLink RX3 16 "LateDoves" "trial" "LLateDoves$Cote;", .fieldLink RX3 10 "LateDoves" "now" "LLateDoves$Cote;", .methodLink RX3 293 yX0_placedAt, .instanceMethod yX0_placedAt, .selects RX0 yX0_placedAt yX0_placedAt, .initialized RX0, .code yX0_placedAt cX0_placedAt 4 (some .int), .fieldLink RX0 11 "LateDoves$Cote" "doves" "[[I", .methodLink RX0 83 yX0_exists, .instanceMethod yX0_exists, .selects RX0 yX0_exists yX0_exists, .code yX0_exists cX0_exists 2 (some .boolean)] ++ wsX30 ++ wsX00)
def wsX3_ifHome_r1 : List Cond := [Cond.classLink RX3 52 "java/lang/IllegalArgumentException", Cond.initialized "java/lang/IllegalArgumentException", Cond.methodLink RX3 75 yX3_needDove, Cond.instanceMethod yX3_needDove, Cond.selects RX3 yX3_needDove yX3_needDove, Cond.initialized RX3, Cond.code yX3_needDove cX3_needDove 2 none, Cond.classLink RX3 105 "java/lang/IndexOutOfBoundsException", Cond.initialized "java/lang/IndexOutOfBoundsException", Cond.fieldLink RX3 10 "LateDoves" "now" "LLateDoves$Cote;", Cond.methodLink RX3 235 yX0_exists, Cond.instanceMethod yX0_exists, Cond.selects RX0 yX0_exists yX0_exists, Cond.initialized RX0, Cond.code yX0_exists cX0_exists 2 (some .boolean), Cond.fieldLink RX0 11 "LateDoves$Cote" "doves" "[[I", Cond.methodLink RX3 115 yX3_needTime, Cond.static yX3_needTime, Cond.code yX3_needTime cX3_needTime 1 none, Cond.methodLink RX3 204 yX3_tryHome, Cond.instanceMethod yX3_tryHome, Cond.selects RX3 yX3_tryHome yX3_tryHome, Cond.code yX3_tryHome cX3_tryHome 3 (some .boolean), Cond.fieldLink RX3 16 "LateDoves" "trial" "LLateDoves$Cote;"]
def wsX3_ifHome_r2 : List Cond := [Cond.methodLink RX3 118 yX0_reasonNotHome, Cond.instanceMethod yX0_reasonNotHome, Cond.selects RX0 yX0_reasonNotHome yX0_reasonNotHome, Cond.code yX0_reasonNotHome cX0_reasonNotHome 3 (some .int), Cond.fieldLink RX0 50 "LateDoves$Cote" "time" "I", Cond.methodLink RX3 162 yX0_copyFrom, Cond.instanceMethod yX0_copyFrom, Cond.selects RX0 yX0_copyFrom yX0_copyFrom, Cond.code yX0_copyFrom cX0_copyFrom 3 none, Cond.methodLink RX0 36 arraycopyName, Cond.native arraycopyName, Cond.static arraycopyName, Cond.initialized "java/lang/System", Cond.fieldLink RX0 16 "LateDoves$Cote" "holes" "[[I", Cond.fieldLink RX0 19 "LateDoves$Cote" "settings" "[I", Cond.fieldLink RX0 23 "LateDoves$Cote" "atDawn" "[I", Cond.fieldLink RX0 26 "LateDoves$Cote" "stop" "[I", Cond.fieldLink RX0 32 "LateDoves$Cote" "way" "LLateDoves$Way;", Cond.fieldLink RX0 46 "LateDoves$Cote" "day" "I", Cond.fieldLink RX0 53 "LateDoves$Cote" "shifts" "I", Cond.fieldLink RX0 56 "LateDoves$Cote" "quarrels" "I", Cond.methodLink RX0 42 yX2_copyFrom, Cond.instanceMethod yX2_copyFrom, Cond.selects RX2 yX2_copyFrom yX2_copyFrom]
def wsX3_ifHome_r3 : List Cond := [Cond.initialized RX2, Cond.code yX2_copyFrom cX2_copyFrom 2 none, Cond.fieldLink RX2 9 "LateDoves$Way" "who" "[I", Cond.methodLink RX2 22 arraycopyName, Cond.fieldLink RX2 15 "LateDoves$Way" "where" "[I", Cond.fieldLink RX2 18 "LateDoves$Way" "size" "I", Cond.methodLink RX3 123 yX0_comeHome, Cond.instanceMethod yX0_comeHome, Cond.selects RX0 yX0_comeHome yX0_comeHome, Cond.code yX0_comeHome cX0_comeHome 8 (some .int), Cond.methodLink RX0 86 yX0_isOpen, Cond.instanceMethod yX0_isOpen, Cond.selects RX0 yX0_isOpen yX0_isOpen, Cond.code yX0_isOpen cX0_isOpen 2 (some .boolean), Cond.static yX3_isHole, Cond.code yX3_isHole cX3_isHole 1 (some .boolean), Cond.methodLink RX0 92 yX0_enterOwnHole, Cond.instanceMethod yX0_enterOwnHole, Cond.selects RX0 yX0_enterOwnHole yX0_enterOwnHole, Cond.code yX0_enterOwnHole cX0_enterOwnHole 5 (some .int), Cond.methodLink RX0 83 yX0_exists, Cond.methodLink RX0 99 yX0_shiftFrom, Cond.instanceMethod yX0_shiftFrom, Cond.selects RX0 yX0_shiftFrom yX0_shiftFrom]
def wsX3_ifHome_r4 : List Cond := [Cond.code yX0_shiftFrom cX0_shiftFrom 4 (some .int), Cond.methodLink RX0 103 yX0_sit, Cond.instanceMethod yX0_sit, Cond.selects RX0 yX0_sit yX0_sit, Cond.code yX0_sit cX0_sit 3 none, Cond.methodLink RX0 113 yX2_note, Cond.instanceMethod yX2_note, Cond.selects RX2 yX2_note yX2_note, Cond.code yX2_note cX2_note 3 none, Cond.methodLink RX0 96 yX0_settle, Cond.instanceMethod yX0_settle, Cond.selects RX0 yX0_settle yX0_settle, Cond.code yX0_settle cX0_settle 6 (some .int), Cond.methodLink RX0 107 yX0_firstFreeFor, Cond.instanceMethod yX0_firstFreeFor, Cond.selects RX0 yX0_firstFreeFor yX0_firstFreeFor, Cond.code yX0_firstFreeFor cX0_firstFreeFor 6 (some .int), Cond.methodLink RX0 110 yX0_isFree, Cond.instanceMethod yX0_isFree, Cond.selects RX0 yX0_isFree yX0_isFree, Cond.code yX0_isFree cX0_isFree 2 (some .boolean), Cond.methodLink RX3 208 yX3_trialNumber, Cond.instanceMethod yX3_trialNumber, Cond.selects RX3 yX3_trialNumber yX3_trialNumber]
def wsX3_ifHome_r5 : List Cond := [Cond.code yX3_trialNumber cX3_trialNumber 3 (some .int), Cond.methodLink RX3 293 yX0_placedAt, Cond.instanceMethod yX0_placedAt, Cond.selects RX0 yX0_placedAt yX0_placedAt, Cond.code yX0_placedAt cX0_placedAt 4 (some .int)]
def wsX3_ifHome : List Cond := .code yX3_ifHome cX3_ifHome 4 (some .int) :: ((wsX3_ifHome_r1 ++ (wsX3_ifHome_r2 ++ (wsX3_ifHome_r3 ++ (wsX3_ifHome_r4 ++ wsX3_ifHome_r5)))) ++ wsX30 ++ wsX00 ++ wsX20 ++ (vx_atS RX3 56 "java/lang/IllegalArgumentException" ["java/lang/RuntimeException", "java/lang/Exception"]).filter goodWord ++ (vx_atS RX3 109 "java/lang/IndexOutOfBoundsException" ["java/lang/RuntimeException", "java/lang/Exception"]).filter goodWord)
def wsX3_freeHole : List Cond := .code yX3_freeHole cX3_freeHole 2 (some .int) :: ([.fieldLink RX3 10 "LateDoves" "now" "LLateDoves$Cote;", .methodLink RX3 211 yX0_isOpen, .instanceMethod yX0_isOpen, .selects RX0 yX0_isOpen yX0_isOpen, .initialized RX0, .code yX0_isOpen cX0_isOpen 2 (some .boolean), .fieldLink RX0 16 "LateDoves$Cote" "holes" "[[I", .static yX3_isHole, .initialized RX3, .code yX3_isHole cX3_isHole 1 (some .boolean)] ++ wsX30 ++ wsX00)
def wsX3_sittingIfAllCame_r1 : List Cond := [Cond.fieldLink RX3 16 "LateDoves" "trial" "LLateDoves$Cote;", Cond.fieldLink RX3 10 "LateDoves" "now" "LLateDoves$Cote;", Cond.methodLink RX3 162 yX0_copyFrom, Cond.instanceMethod yX0_copyFrom, Cond.selects RX0 yX0_copyFrom yX0_copyFrom, Cond.initialized RX0, Cond.code yX0_copyFrom cX0_copyFrom 3 none, Cond.fieldLink RX0 11 "LateDoves$Cote" "doves" "[[I", Cond.methodLink RX0 36 arraycopyName, Cond.native arraycopyName, Cond.static arraycopyName, Cond.initialized "java/lang/System", Cond.fieldLink RX0 16 "LateDoves$Cote" "holes" "[[I", Cond.fieldLink RX0 19 "LateDoves$Cote" "settings" "[I", Cond.fieldLink RX0 23 "LateDoves$Cote" "atDawn" "[I", Cond.fieldLink RX0 26 "LateDoves$Cote" "stop" "[I", Cond.fieldLink RX0 32 "LateDoves$Cote" "way" "LLateDoves$Way;", Cond.fieldLink RX0 46 "LateDoves$Cote" "day" "I", Cond.fieldLink RX0 50 "LateDoves$Cote" "time" "I", Cond.fieldLink RX0 53 "LateDoves$Cote" "shifts" "I", Cond.fieldLink RX0 56 "LateDoves$Cote" "quarrels" "I", Cond.methodLink RX0 42 yX2_copyFrom, Cond.instanceMethod yX2_copyFrom, Cond.selects RX2 yX2_copyFrom yX2_copyFrom]
def wsX3_sittingIfAllCame_r2 : List Cond := [Cond.initialized RX2, Cond.code yX2_copyFrom cX2_copyFrom 2 none, Cond.fieldLink RX2 9 "LateDoves$Way" "who" "[I", Cond.methodLink RX2 22 arraycopyName, Cond.fieldLink RX2 15 "LateDoves$Way" "where" "[I", Cond.fieldLink RX2 18 "LateDoves$Way" "size" "I", Cond.methodLink RX3 235 yX0_exists, Cond.instanceMethod yX0_exists, Cond.selects RX0 yX0_exists yX0_exists, Cond.code yX0_exists cX0_exists 2 (some .boolean), Cond.methodLink RX3 123 yX0_comeHome, Cond.instanceMethod yX0_comeHome, Cond.selects RX0 yX0_comeHome yX0_comeHome, Cond.code yX0_comeHome cX0_comeHome 8 (some .int), Cond.methodLink RX0 86 yX0_isOpen, Cond.instanceMethod yX0_isOpen, Cond.selects RX0 yX0_isOpen yX0_isOpen, Cond.code yX0_isOpen cX0_isOpen 2 (some .boolean), Cond.static yX3_isHole, Cond.initialized RX3, Cond.code yX3_isHole cX3_isHole 1 (some .boolean), Cond.methodLink RX0 92 yX0_enterOwnHole, Cond.instanceMethod yX0_enterOwnHole, Cond.selects RX0 yX0_enterOwnHole yX0_enterOwnHole]
def wsX3_sittingIfAllCame_r3 : List Cond := [Cond.code yX0_enterOwnHole cX0_enterOwnHole 5 (some .int), Cond.methodLink RX0 83 yX0_exists, Cond.methodLink RX0 99 yX0_shiftFrom, Cond.instanceMethod yX0_shiftFrom, Cond.selects RX0 yX0_shiftFrom yX0_shiftFrom, Cond.code yX0_shiftFrom cX0_shiftFrom 4 (some .int), Cond.methodLink RX0 103 yX0_sit, Cond.instanceMethod yX0_sit, Cond.selects RX0 yX0_sit yX0_sit, Cond.code yX0_sit cX0_sit 3 none, Cond.methodLink RX0 113 yX2_note, Cond.instanceMethod yX2_note, Cond.selects RX2 yX2_note yX2_note, Cond.code yX2_note cX2_note 3 none, Cond.methodLink RX0 96 yX0_settle, Cond.instanceMethod yX0_settle, Cond.selects RX0 yX0_settle yX0_settle, Cond.code yX0_settle cX0_settle 6 (some .int), Cond.methodLink RX0 107 yX0_firstFreeFor, Cond.instanceMethod yX0_firstFreeFor, Cond.selects RX0 yX0_firstFreeFor yX0_firstFreeFor, Cond.code yX0_firstFreeFor cX0_firstFreeFor 6 (some .int), Cond.methodLink RX0 110 yX0_isFree, Cond.instanceMethod yX0_isFree]
def wsX3_sittingIfAllCame_r4 : List Cond := [Cond.selects RX0 yX0_isFree yX0_isFree, Cond.code yX0_isFree cX0_isFree 2 (some .boolean), Cond.methodLink RX3 296 yX0_sittingByDoves, Cond.instanceMethod yX0_sittingByDoves, Cond.selects RX0 yX0_sittingByDoves yX0_sittingByDoves, Cond.code yX0_sittingByDoves cX0_sittingByDoves 1 (some .int), Cond.methodLink RX0 63 yX0_doveCount, Cond.instanceMethod yX0_doveCount, Cond.selects RX0 yX0_doveCount yX0_doveCount, Cond.code yX0_doveCount cX0_doveCount 3 (some .int), Cond.methodLink RX0 73 yX0_placedAt, Cond.instanceMethod yX0_placedAt, Cond.selects RX0 yX0_placedAt yX0_placedAt, Cond.code yX0_placedAt cX0_placedAt 4 (some .int)]
def wsX3_sittingIfAllCame : List Cond := .code yX3_sittingIfAllCame cX3_sittingIfAllCame 3 (some .int) :: ((wsX3_sittingIfAllCame_r1 ++ (wsX3_sittingIfAllCame_r2 ++ (wsX3_sittingIfAllCame_r3 ++ wsX3_sittingIfAllCame_r4))) ++ wsX30 ++ wsX00 ++ wsX20)
def wsX3_lateIsAsGood_r1 : List Cond := [Cond.fieldLink RX3 10 "LateDoves" "now" "LLateDoves$Cote;", Cond.methodLink RX3 214 yX3_sittingIfAllCame, Cond.instanceMethod yX3_sittingIfAllCame, Cond.selects RX3 yX3_sittingIfAllCame yX3_sittingIfAllCame, Cond.initialized RX3, Cond.code yX3_sittingIfAllCame cX3_sittingIfAllCame 3 (some .int), Cond.fieldLink RX3 16 "LateDoves" "trial" "LLateDoves$Cote;", Cond.methodLink RX3 162 yX0_copyFrom, Cond.instanceMethod yX0_copyFrom, Cond.selects RX0 yX0_copyFrom yX0_copyFrom, Cond.initialized RX0, Cond.code yX0_copyFrom cX0_copyFrom 3 none, Cond.fieldLink RX0 11 "LateDoves$Cote" "doves" "[[I", Cond.methodLink RX0 36 arraycopyName, Cond.native arraycopyName, Cond.static arraycopyName, Cond.initialized "java/lang/System", Cond.fieldLink RX0 16 "LateDoves$Cote" "holes" "[[I", Cond.fieldLink RX0 19 "LateDoves$Cote" "settings" "[I", Cond.fieldLink RX0 23 "LateDoves$Cote" "atDawn" "[I", Cond.fieldLink RX0 26 "LateDoves$Cote" "stop" "[I", Cond.fieldLink RX0 32 "LateDoves$Cote" "way" "LLateDoves$Way;", Cond.fieldLink RX0 46 "LateDoves$Cote" "day" "I", Cond.fieldLink RX0 50 "LateDoves$Cote" "time" "I"]
def wsX3_lateIsAsGood_r2 : List Cond := [Cond.fieldLink RX0 53 "LateDoves$Cote" "shifts" "I", Cond.fieldLink RX0 56 "LateDoves$Cote" "quarrels" "I", Cond.methodLink RX0 42 yX2_copyFrom, Cond.instanceMethod yX2_copyFrom, Cond.selects RX2 yX2_copyFrom yX2_copyFrom, Cond.initialized RX2, Cond.code yX2_copyFrom cX2_copyFrom 2 none, Cond.fieldLink RX2 9 "LateDoves$Way" "who" "[I", Cond.methodLink RX2 22 arraycopyName, Cond.fieldLink RX2 15 "LateDoves$Way" "where" "[I", Cond.fieldLink RX2 18 "LateDoves$Way" "size" "I", Cond.methodLink RX3 235 yX0_exists, Cond.instanceMethod yX0_exists, Cond.selects RX0 yX0_exists yX0_exists, Cond.code yX0_exists cX0_exists 2 (some .boolean), Cond.methodLink RX3 123 yX0_comeHome, Cond.instanceMethod yX0_comeHome, Cond.selects RX0 yX0_comeHome yX0_comeHome, Cond.code yX0_comeHome cX0_comeHome 8 (some .int), Cond.methodLink RX0 86 yX0_isOpen, Cond.instanceMethod yX0_isOpen, Cond.selects RX0 yX0_isOpen yX0_isOpen, Cond.code yX0_isOpen cX0_isOpen 2 (some .boolean), Cond.static yX3_isHole]
def wsX3_lateIsAsGood_r3 : List Cond := [Cond.code yX3_isHole cX3_isHole 1 (some .boolean), Cond.methodLink RX0 92 yX0_enterOwnHole, Cond.instanceMethod yX0_enterOwnHole, Cond.selects RX0 yX0_enterOwnHole yX0_enterOwnHole, Cond.code yX0_enterOwnHole cX0_enterOwnHole 5 (some .int), Cond.methodLink RX0 83 yX0_exists, Cond.methodLink RX0 99 yX0_shiftFrom, Cond.instanceMethod yX0_shiftFrom, Cond.selects RX0 yX0_shiftFrom yX0_shiftFrom, Cond.code yX0_shiftFrom cX0_shiftFrom 4 (some .int), Cond.methodLink RX0 103 yX0_sit, Cond.instanceMethod yX0_sit, Cond.selects RX0 yX0_sit yX0_sit, Cond.code yX0_sit cX0_sit 3 none, Cond.methodLink RX0 113 yX2_note, Cond.instanceMethod yX2_note, Cond.selects RX2 yX2_note yX2_note, Cond.code yX2_note cX2_note 3 none, Cond.methodLink RX0 96 yX0_settle, Cond.instanceMethod yX0_settle, Cond.selects RX0 yX0_settle yX0_settle, Cond.code yX0_settle cX0_settle 6 (some .int), Cond.methodLink RX0 107 yX0_firstFreeFor, Cond.instanceMethod yX0_firstFreeFor]
def wsX3_lateIsAsGood_r4 : List Cond := [Cond.selects RX0 yX0_firstFreeFor yX0_firstFreeFor, Cond.code yX0_firstFreeFor cX0_firstFreeFor 6 (some .int), Cond.methodLink RX0 110 yX0_isFree, Cond.instanceMethod yX0_isFree, Cond.selects RX0 yX0_isFree yX0_isFree, Cond.code yX0_isFree cX0_isFree 2 (some .boolean), Cond.methodLink RX3 296 yX0_sittingByDoves, Cond.instanceMethod yX0_sittingByDoves, Cond.selects RX0 yX0_sittingByDoves yX0_sittingByDoves, Cond.code yX0_sittingByDoves cX0_sittingByDoves 1 (some .int), Cond.methodLink RX0 63 yX0_doveCount, Cond.instanceMethod yX0_doveCount, Cond.selects RX0 yX0_doveCount yX0_doveCount, Cond.code yX0_doveCount cX0_doveCount 3 (some .int), Cond.methodLink RX0 73 yX0_placedAt, Cond.instanceMethod yX0_placedAt, Cond.selects RX0 yX0_placedAt yX0_placedAt, Cond.code yX0_placedAt cX0_placedAt 4 (some .int)]
def wsX3_lateIsAsGood : List Cond := .code yX3_lateIsAsGood cX3_lateIsAsGood 1 (some .int) :: ((wsX3_lateIsAsGood_r1 ++ (wsX3_lateIsAsGood_r2 ++ (wsX3_lateIsAsGood_r3 ++ wsX3_lateIsAsGood_r4))) ++ wsX30 ++ wsX00 ++ wsX20)
def wsX3_homeShare : List Cond := .code yX3_homeShare cX3_homeShare 2 (some .double) :: ([.fieldLink RX3 10 "LateDoves" "now" "LLateDoves$Cote;", .methodLink RX3 220 yX0_doveCount, .instanceMethod yX0_doveCount, .selects RX0 yX0_doveCount yX0_doveCount, .initialized RX0, .code yX0_doveCount cX0_doveCount 3 (some .int), .methodLink RX0 83 yX0_exists, .instanceMethod yX0_exists, .selects RX0 yX0_exists yX0_exists, .code yX0_exists cX0_exists 2 (some .boolean), .fieldLink RX0 11 "LateDoves$Cote" "doves" "[[I", .methodLink RX3 223 yX0_inOwnHoles, .instanceMethod yX0_inOwnHoles, .selects RX0 yX0_inOwnHoles yX0_inOwnHoles, .code yX0_inOwnHoles cX0_inOwnHoles 3 (some .int)] ++ wsX30 ++ wsX00)
def wsL_cell : List Cond := .code yL_cell cL_cell 2 (some .int) :: ([.constant RL 7 (-1538233109)])
def wsL_low : List Cond := .code yL_low cL_low 2 (some .int) :: ([.constant RL 8 (2147483647)])
def wsL_buy_r1 : List Cond := [Cond.classLink RL 15 "java/lang/IndexOutOfBoundsException", Cond.classLink RL 17 "java/lang/IllegalArgumentException", Cond.classLink RL 19 "java/lang/IllegalStateException", Cond.methodLink RL 9 yX3_buy, Cond.instanceMethod yX3_buy, Cond.selects RX3 yX3_buy yX3_buy, Cond.initialized RX3, Cond.code yX3_buy cX3_buy 3 (some .int), Cond.classLink RX3 52 "java/lang/IllegalArgumentException", Cond.initialized "java/lang/IllegalArgumentException", Cond.classLink RX3 63 "java/lang/IllegalStateException", Cond.initialized "java/lang/IllegalStateException", Cond.fieldLink RX3 10 "LateDoves" "now" "LLateDoves$Cote;", Cond.methodLink RX3 48 yX3_needHole, Cond.static yX3_needHole, Cond.code yX3_needHole cX3_needHole 1 none, Cond.classLink RX3 105 "java/lang/IndexOutOfBoundsException", Cond.initialized "java/lang/IndexOutOfBoundsException", Cond.methodLink RX3 260 yX3_isHole, Cond.static yX3_isHole, Cond.code yX3_isHole cX3_isHole 1 (some .boolean), Cond.methodLink RX3 59 yX0_reasonNotToBuy, Cond.instanceMethod yX0_reasonNotToBuy, Cond.selects RX0 yX0_reasonNotToBuy yX0_reasonNotToBuy]
def wsL_buy_r2 : List Cond := [Cond.initialized RX0, Cond.code yX0_reasonNotToBuy cX0_reasonNotToBuy 2 (some .int), Cond.fieldLink RX0 16 "LateDoves$Cote" "holes" "[[I", Cond.methodLink RX0 63 yX0_doveCount, Cond.instanceMethod yX0_doveCount, Cond.selects RX0 yX0_doveCount yX0_doveCount, Cond.code yX0_doveCount cX0_doveCount 3 (some .int), Cond.methodLink RX0 83 yX0_exists, Cond.instanceMethod yX0_exists, Cond.selects RX0 yX0_exists yX0_exists, Cond.code yX0_exists cX0_exists 2 (some .boolean), Cond.fieldLink RX0 11 "LateDoves$Cote" "doves" "[[I", Cond.methodLink RX0 86 yX0_isOpen, Cond.instanceMethod yX0_isOpen, Cond.selects RX0 yX0_isOpen yX0_isOpen, Cond.code yX0_isOpen cX0_isOpen 2 (some .boolean), Cond.methodLink RX3 68 yX3_save, Cond.instanceMethod yX3_save, Cond.selects RX3 yX3_save yX3_save, Cond.code yX3_save cX3_save 3 none, Cond.fieldLink RX3 30 "LateDoves" "savedCount" "I", Cond.fieldLink RX3 26 "LateDoves" "saved" "[LLateDoves$Cote;", Cond.methodLink RX3 162 yX0_copyFrom, Cond.instanceMethod yX0_copyFrom]
def wsL_buy_r3 : List Cond := [Cond.selects RX0 yX0_copyFrom yX0_copyFrom, Cond.code yX0_copyFrom cX0_copyFrom 3 none, Cond.methodLink RX0 36 arraycopyName, Cond.native arraycopyName, Cond.static arraycopyName, Cond.initialized "java/lang/System", Cond.fieldLink RX0 19 "LateDoves$Cote" "settings" "[I", Cond.fieldLink RX0 23 "LateDoves$Cote" "atDawn" "[I", Cond.fieldLink RX0 26 "LateDoves$Cote" "stop" "[I", Cond.fieldLink RX0 32 "LateDoves$Cote" "way" "LLateDoves$Way;", Cond.fieldLink RX0 46 "LateDoves$Cote" "day" "I", Cond.fieldLink RX0 50 "LateDoves$Cote" "time" "I", Cond.fieldLink RX0 53 "LateDoves$Cote" "shifts" "I", Cond.fieldLink RX0 56 "LateDoves$Cote" "quarrels" "I", Cond.methodLink RX0 42 yX2_copyFrom, Cond.instanceMethod yX2_copyFrom, Cond.selects RX2 yX2_copyFrom yX2_copyFrom, Cond.initialized RX2, Cond.code yX2_copyFrom cX2_copyFrom 2 none, Cond.fieldLink RX2 9 "LateDoves$Way" "who" "[I", Cond.methodLink RX2 22 arraycopyName, Cond.fieldLink RX2 15 "LateDoves$Way" "where" "[I", Cond.fieldLink RX2 18 "LateDoves$Way" "size" "I", Cond.methodLink RX3 71 yX0_addDove]
def wsL_buy_r4 : List Cond := [Cond.instanceMethod yX0_addDove, Cond.selects RX0 yX0_addDove yX0_addDove, Cond.code yX0_addDove cX0_addDove 4 (some .int)]
def wsL_buy : List Cond := .codeWith yL_buy cL_buy 5 (some .int) [(0, 7, 10, 15), (0, 7, 15, 17), (0, 7, 20, 19)] :: ((wsL_buy_r1 ++ (wsL_buy_r2 ++ (wsL_buy_r3 ++ wsL_buy_r4))) ++ wsX30 ++ wsX00 ++ wsX20 ++ (vx_atS RX3 56 "java/lang/IllegalArgumentException" ["java/lang/RuntimeException", "java/lang/Exception"]).filter goodWord ++ (vx_atS RX3 67 "java/lang/IllegalStateException" ["java/lang/RuntimeException", "java/lang/Exception"]).filter goodWord ++ (vx_atS RX3 109 "java/lang/IndexOutOfBoundsException" ["java/lang/RuntimeException", "java/lang/Exception"]).filter goodWord)
def wsL_sell_r1 : List Cond := [Cond.classLink RL 15 "java/lang/IndexOutOfBoundsException", Cond.methodLink RL 21 yX3_sell, Cond.instanceMethod yX3_sell, Cond.selects RX3 yX3_sell yX3_sell, Cond.initialized RX3, Cond.code yX3_sell cX3_sell 2 (some .int), Cond.fieldLink RX3 10 "LateDoves" "now" "LLateDoves$Cote;", Cond.methodLink RX3 75 yX3_needDove, Cond.instanceMethod yX3_needDove, Cond.selects RX3 yX3_needDove yX3_needDove, Cond.code yX3_needDove cX3_needDove 2 none, Cond.classLink RX3 105 "java/lang/IndexOutOfBoundsException", Cond.initialized "java/lang/IndexOutOfBoundsException", Cond.methodLink RX3 235 yX0_exists, Cond.instanceMethod yX0_exists, Cond.selects RX0 yX0_exists yX0_exists, Cond.initialized RX0, Cond.code yX0_exists cX0_exists 2 (some .boolean), Cond.fieldLink RX0 11 "LateDoves$Cote" "doves" "[[I", Cond.methodLink RX3 68 yX3_save, Cond.instanceMethod yX3_save, Cond.selects RX3 yX3_save yX3_save, Cond.code yX3_save cX3_save 3 none, Cond.fieldLink RX3 30 "LateDoves" "savedCount" "I"]
def wsL_sell_r2 : List Cond := [Cond.fieldLink RX3 26 "LateDoves" "saved" "[LLateDoves$Cote;", Cond.methodLink RX3 162 yX0_copyFrom, Cond.instanceMethod yX0_copyFrom, Cond.selects RX0 yX0_copyFrom yX0_copyFrom, Cond.code yX0_copyFrom cX0_copyFrom 3 none, Cond.methodLink RX0 36 arraycopyName, Cond.native arraycopyName, Cond.static arraycopyName, Cond.initialized "java/lang/System", Cond.fieldLink RX0 16 "LateDoves$Cote" "holes" "[[I", Cond.fieldLink RX0 19 "LateDoves$Cote" "settings" "[I", Cond.fieldLink RX0 23 "LateDoves$Cote" "atDawn" "[I", Cond.fieldLink RX0 26 "LateDoves$Cote" "stop" "[I", Cond.fieldLink RX0 32 "LateDoves$Cote" "way" "LLateDoves$Way;", Cond.fieldLink RX0 46 "LateDoves$Cote" "day" "I", Cond.fieldLink RX0 50 "LateDoves$Cote" "time" "I", Cond.fieldLink RX0 53 "LateDoves$Cote" "shifts" "I", Cond.fieldLink RX0 56 "LateDoves$Cote" "quarrels" "I", Cond.methodLink RX0 42 yX2_copyFrom, Cond.instanceMethod yX2_copyFrom, Cond.selects RX2 yX2_copyFrom yX2_copyFrom, Cond.initialized RX2, Cond.code yX2_copyFrom cX2_copyFrom 2 none, Cond.fieldLink RX2 9 "LateDoves$Way" "who" "[I"]
def wsL_sell_r3 : List Cond := [Cond.methodLink RX2 22 arraycopyName, Cond.fieldLink RX2 15 "LateDoves$Way" "where" "[I", Cond.fieldLink RX2 18 "LateDoves$Way" "size" "I", Cond.methodLink RX3 78 yX0_removeDove, Cond.instanceMethod yX0_removeDove, Cond.selects RX0 yX0_removeDove yX0_removeDove, Cond.code yX0_removeDove cX0_removeDove 6 (some .int), Cond.static yX3_isHole, Cond.code yX3_isHole cX3_isHole 1 (some .boolean), Cond.methodLink RX0 83 yX0_exists]
def wsL_sell : List Cond := .codeWith yL_sell cL_sell 4 (some .int) [(0, 6, 9, 15)] :: ((wsL_sell_r1 ++ (wsL_sell_r2 ++ wsL_sell_r3)) ++ wsX30 ++ wsX00 ++ wsX20 ++ (vx_atS RX3 109 "java/lang/IndexOutOfBoundsException" ["java/lang/RuntimeException", "java/lang/Exception"]).filter goodWord)
def wsL_mate_r1 : List Cond := [Cond.classLink RL 15 "java/lang/IndexOutOfBoundsException", Cond.classLink RL 19 "java/lang/IllegalStateException", Cond.methodLink RL 25 yX3_mate, Cond.instanceMethod yX3_mate, Cond.selects RX3 yX3_mate yX3_mate, Cond.initialized RX3, Cond.code yX3_mate cX3_mate 3 (some .int), Cond.classLink RX3 63 "java/lang/IllegalStateException", Cond.initialized "java/lang/IllegalStateException", Cond.fieldLink RX3 10 "LateDoves" "now" "LLateDoves$Cote;", Cond.methodLink RX3 75 yX3_needDove, Cond.instanceMethod yX3_needDove, Cond.selects RX3 yX3_needDove yX3_needDove, Cond.code yX3_needDove cX3_needDove 2 none, Cond.classLink RX3 105 "java/lang/IndexOutOfBoundsException", Cond.initialized "java/lang/IndexOutOfBoundsException", Cond.methodLink RX3 235 yX0_exists, Cond.instanceMethod yX0_exists, Cond.selects RX0 yX0_exists yX0_exists, Cond.initialized RX0, Cond.code yX0_exists cX0_exists 2 (some .boolean), Cond.fieldLink RX0 11 "LateDoves$Cote" "doves" "[[I", Cond.methodLink RX3 81 yX0_reasonNotToPair, Cond.instanceMethod yX0_reasonNotToPair]
def wsL_mate_r2 : List Cond := [Cond.selects RX0 yX0_reasonNotToPair yX0_reasonNotToPair, Cond.code yX0_reasonNotToPair cX0_reasonNotToPair 4 (some .int), Cond.methodLink RX3 68 yX3_save, Cond.instanceMethod yX3_save, Cond.selects RX3 yX3_save yX3_save, Cond.code yX3_save cX3_save 3 none, Cond.fieldLink RX3 30 "LateDoves" "savedCount" "I", Cond.fieldLink RX3 26 "LateDoves" "saved" "[LLateDoves$Cote;", Cond.methodLink RX3 162 yX0_copyFrom, Cond.instanceMethod yX0_copyFrom, Cond.selects RX0 yX0_copyFrom yX0_copyFrom, Cond.code yX0_copyFrom cX0_copyFrom 3 none, Cond.methodLink RX0 36 arraycopyName, Cond.native arraycopyName, Cond.static arraycopyName, Cond.initialized "java/lang/System", Cond.fieldLink RX0 16 "LateDoves$Cote" "holes" "[[I", Cond.fieldLink RX0 19 "LateDoves$Cote" "settings" "[I", Cond.fieldLink RX0 23 "LateDoves$Cote" "atDawn" "[I", Cond.fieldLink RX0 26 "LateDoves$Cote" "stop" "[I", Cond.fieldLink RX0 32 "LateDoves$Cote" "way" "LLateDoves$Way;", Cond.fieldLink RX0 46 "LateDoves$Cote" "day" "I", Cond.fieldLink RX0 50 "LateDoves$Cote" "time" "I", Cond.fieldLink RX0 53 "LateDoves$Cote" "shifts" "I"]
def wsL_mate_r3 : List Cond := [Cond.fieldLink RX0 56 "LateDoves$Cote" "quarrels" "I", Cond.methodLink RX0 42 yX2_copyFrom, Cond.instanceMethod yX2_copyFrom, Cond.selects RX2 yX2_copyFrom yX2_copyFrom, Cond.initialized RX2, Cond.code yX2_copyFrom cX2_copyFrom 2 none, Cond.fieldLink RX2 9 "LateDoves$Way" "who" "[I", Cond.methodLink RX2 22 arraycopyName, Cond.fieldLink RX2 15 "LateDoves$Way" "where" "[I", Cond.fieldLink RX2 18 "LateDoves$Way" "size" "I", Cond.methodLink RX3 86 yX0_pair, Cond.instanceMethod yX0_pair, Cond.selects RX0 yX0_pair yX0_pair, Cond.code yX0_pair cX0_pair 3 none, Cond.methodLink RX3 90 yX0_pairs, Cond.instanceMethod yX0_pairs, Cond.selects RX0 yX0_pairs yX0_pairs, Cond.code yX0_pairs cX0_pairs 3 (some .int), Cond.methodLink RX0 83 yX0_exists]
def wsL_mate : List Cond := .codeWith yL_mate cL_mate 5 (some .int) [(0, 7, 10, 15), (0, 7, 15, 19)] :: ((wsL_mate_r1 ++ (wsL_mate_r2 ++ wsL_mate_r3)) ++ wsX30 ++ wsX00 ++ wsX20 ++ (vx_atS RX3 67 "java/lang/IllegalStateException" ["java/lang/RuntimeException", "java/lang/Exception"]).filter goodWord ++ (vx_atS RX3 109 "java/lang/IndexOutOfBoundsException" ["java/lang/RuntimeException", "java/lang/Exception"]).filter goodWord)
def wsL_shut_r1 : List Cond := [Cond.classLink RL 15 "java/lang/IndexOutOfBoundsException", Cond.classLink RL 19 "java/lang/IllegalStateException", Cond.methodLink RL 28 yX3_shut, Cond.instanceMethod yX3_shut, Cond.selects RX3 yX3_shut yX3_shut, Cond.initialized RX3, Cond.code yX3_shut cX3_shut 2 (some .int), Cond.classLink RX3 63 "java/lang/IllegalStateException", Cond.initialized "java/lang/IllegalStateException", Cond.fieldLink RX3 10 "LateDoves" "now" "LLateDoves$Cote;", Cond.methodLink RX3 48 yX3_needHole, Cond.static yX3_needHole, Cond.code yX3_needHole cX3_needHole 1 none, Cond.classLink RX3 105 "java/lang/IndexOutOfBoundsException", Cond.initialized "java/lang/IndexOutOfBoundsException", Cond.methodLink RX3 260 yX3_isHole, Cond.static yX3_isHole, Cond.code yX3_isHole cX3_isHole 1 (some .boolean), Cond.methodLink RX3 94 yX0_reasonNotToShut, Cond.instanceMethod yX0_reasonNotToShut, Cond.selects RX0 yX0_reasonNotToShut yX0_reasonNotToShut, Cond.initialized RX0, Cond.code yX0_reasonNotToShut cX0_reasonNotToShut 2 (some .int), Cond.fieldLink RX0 16 "LateDoves$Cote" "holes" "[[I"]
def wsL_shut_r2 : List Cond := [Cond.methodLink RX0 86 yX0_isOpen, Cond.instanceMethod yX0_isOpen, Cond.selects RX0 yX0_isOpen yX0_isOpen, Cond.code yX0_isOpen cX0_isOpen 2 (some .boolean), Cond.methodLink RX3 68 yX3_save, Cond.instanceMethod yX3_save, Cond.selects RX3 yX3_save yX3_save, Cond.code yX3_save cX3_save 3 none, Cond.fieldLink RX3 30 "LateDoves" "savedCount" "I", Cond.fieldLink RX3 26 "LateDoves" "saved" "[LLateDoves$Cote;", Cond.methodLink RX3 162 yX0_copyFrom, Cond.instanceMethod yX0_copyFrom, Cond.selects RX0 yX0_copyFrom yX0_copyFrom, Cond.code yX0_copyFrom cX0_copyFrom 3 none, Cond.fieldLink RX0 11 "LateDoves$Cote" "doves" "[[I", Cond.methodLink RX0 36 arraycopyName, Cond.native arraycopyName, Cond.static arraycopyName, Cond.initialized "java/lang/System", Cond.fieldLink RX0 19 "LateDoves$Cote" "settings" "[I", Cond.fieldLink RX0 23 "LateDoves$Cote" "atDawn" "[I", Cond.fieldLink RX0 26 "LateDoves$Cote" "stop" "[I", Cond.fieldLink RX0 32 "LateDoves$Cote" "way" "LLateDoves$Way;", Cond.fieldLink RX0 46 "LateDoves$Cote" "day" "I"]
def wsL_shut_r3 : List Cond := [Cond.fieldLink RX0 50 "LateDoves$Cote" "time" "I", Cond.fieldLink RX0 53 "LateDoves$Cote" "shifts" "I", Cond.fieldLink RX0 56 "LateDoves$Cote" "quarrels" "I", Cond.methodLink RX0 42 yX2_copyFrom, Cond.instanceMethod yX2_copyFrom, Cond.selects RX2 yX2_copyFrom yX2_copyFrom, Cond.initialized RX2, Cond.code yX2_copyFrom cX2_copyFrom 2 none, Cond.fieldLink RX2 9 "LateDoves$Way" "who" "[I", Cond.methodLink RX2 22 arraycopyName, Cond.fieldLink RX2 15 "LateDoves$Way" "where" "[I", Cond.fieldLink RX2 18 "LateDoves$Way" "size" "I", Cond.methodLink RX3 99 yX0_setOpen, Cond.instanceMethod yX0_setOpen, Cond.selects RX0 yX0_setOpen yX0_setOpen, Cond.code yX0_setOpen cX0_setOpen 3 none, Cond.methodLink RX3 102 yX0_openHoles, Cond.instanceMethod yX0_openHoles, Cond.selects RX0 yX0_openHoles yX0_openHoles, Cond.code yX0_openHoles cX0_openHoles 3 (some .int)]
def wsL_shut : List Cond := .codeWith yL_shut cL_shut 4 (some .int) [(0, 6, 9, 15), (0, 6, 13, 19)] :: ((wsL_shut_r1 ++ (wsL_shut_r2 ++ wsL_shut_r3)) ++ wsX30 ++ wsX00 ++ wsX20 ++ (vx_atS RX3 67 "java/lang/IllegalStateException" ["java/lang/RuntimeException", "java/lang/Exception"]).filter goodWord ++ (vx_atS RX3 109 "java/lang/IndexOutOfBoundsException" ["java/lang/RuntimeException", "java/lang/Exception"]).filter goodWord)
def wsL_open_r1 : List Cond := [Cond.classLink RL 15 "java/lang/IndexOutOfBoundsException", Cond.methodLink RL 31 yX3_open, Cond.instanceMethod yX3_open, Cond.selects RX3 yX3_open yX3_open, Cond.initialized RX3, Cond.code yX3_open cX3_open 2 (some .int), Cond.fieldLink RX3 10 "LateDoves" "now" "LLateDoves$Cote;", Cond.methodLink RX3 48 yX3_needHole, Cond.static yX3_needHole, Cond.code yX3_needHole cX3_needHole 1 none, Cond.classLink RX3 105 "java/lang/IndexOutOfBoundsException", Cond.initialized "java/lang/IndexOutOfBoundsException", Cond.methodLink RX3 260 yX3_isHole, Cond.static yX3_isHole, Cond.code yX3_isHole cX3_isHole 1 (some .boolean), Cond.methodLink RX3 68 yX3_save, Cond.instanceMethod yX3_save, Cond.selects RX3 yX3_save yX3_save, Cond.code yX3_save cX3_save 3 none, Cond.fieldLink RX3 30 "LateDoves" "savedCount" "I", Cond.fieldLink RX3 26 "LateDoves" "saved" "[LLateDoves$Cote;", Cond.methodLink RX3 162 yX0_copyFrom, Cond.instanceMethod yX0_copyFrom, Cond.selects RX0 yX0_copyFrom yX0_copyFrom]
def wsL_open_r2 : List Cond := [Cond.initialized RX0, Cond.code yX0_copyFrom cX0_copyFrom 3 none, Cond.fieldLink RX0 11 "LateDoves$Cote" "doves" "[[I", Cond.methodLink RX0 36 arraycopyName, Cond.native arraycopyName, Cond.static arraycopyName, Cond.initialized "java/lang/System", Cond.fieldLink RX0 16 "LateDoves$Cote" "holes" "[[I", Cond.fieldLink RX0 19 "LateDoves$Cote" "settings" "[I", Cond.fieldLink RX0 23 "LateDoves$Cote" "atDawn" "[I", Cond.fieldLink RX0 26 "LateDoves$Cote" "stop" "[I", Cond.fieldLink RX0 32 "LateDoves$Cote" "way" "LLateDoves$Way;", Cond.fieldLink RX0 46 "LateDoves$Cote" "day" "I", Cond.fieldLink RX0 50 "LateDoves$Cote" "time" "I", Cond.fieldLink RX0 53 "LateDoves$Cote" "shifts" "I", Cond.fieldLink RX0 56 "LateDoves$Cote" "quarrels" "I", Cond.methodLink RX0 42 yX2_copyFrom, Cond.instanceMethod yX2_copyFrom, Cond.selects RX2 yX2_copyFrom yX2_copyFrom, Cond.initialized RX2, Cond.code yX2_copyFrom cX2_copyFrom 2 none, Cond.fieldLink RX2 9 "LateDoves$Way" "who" "[I", Cond.methodLink RX2 22 arraycopyName, Cond.fieldLink RX2 15 "LateDoves$Way" "where" "[I"]
def wsL_open_r3 : List Cond := [Cond.fieldLink RX2 18 "LateDoves$Way" "size" "I", Cond.methodLink RX3 99 yX0_setOpen, Cond.instanceMethod yX0_setOpen, Cond.selects RX0 yX0_setOpen yX0_setOpen, Cond.code yX0_setOpen cX0_setOpen 3 none, Cond.methodLink RX3 102 yX0_openHoles, Cond.instanceMethod yX0_openHoles, Cond.selects RX0 yX0_openHoles yX0_openHoles, Cond.code yX0_openHoles cX0_openHoles 3 (some .int), Cond.methodLink RX0 86 yX0_isOpen, Cond.instanceMethod yX0_isOpen, Cond.selects RX0 yX0_isOpen yX0_isOpen, Cond.code yX0_isOpen cX0_isOpen 2 (some .boolean)]
def wsL_open : List Cond := .codeWith yL_open cL_open 4 (some .int) [(0, 6, 9, 15)] :: ((wsL_open_r1 ++ (wsL_open_r2 ++ wsL_open_r3)) ++ wsX30 ++ wsX00 ++ wsX20 ++ (vx_atS RX3 109 "java/lang/IndexOutOfBoundsException" ["java/lang/RuntimeException", "java/lang/Exception"]).filter goodWord)
def wsL_set_r1 : List Cond := [Cond.classLink RL 15 "java/lang/IndexOutOfBoundsException", Cond.classLink RL 17 "java/lang/IllegalArgumentException", Cond.methodLink RL 34 yX3_set, Cond.instanceMethod yX3_set, Cond.selects RX3 yX3_set yX3_set, Cond.initialized RX3, Cond.code yX3_set cX3_set 5 (some .int), Cond.classLink RX3 105 "java/lang/IndexOutOfBoundsException", Cond.initialized "java/lang/IndexOutOfBoundsException", Cond.classLink RX3 52 "java/lang/IllegalArgumentException", Cond.initialized "java/lang/IllegalArgumentException", Cond.fieldLink RX3 10 "LateDoves" "now" "LLateDoves$Cote;", Cond.methodLink RX3 68 yX3_save, Cond.instanceMethod yX3_save, Cond.selects RX3 yX3_save yX3_save, Cond.code yX3_save cX3_save 3 none, Cond.fieldLink RX3 30 "LateDoves" "savedCount" "I", Cond.fieldLink RX3 26 "LateDoves" "saved" "[LLateDoves$Cote;", Cond.methodLink RX3 162 yX0_copyFrom, Cond.instanceMethod yX0_copyFrom, Cond.selects RX0 yX0_copyFrom yX0_copyFrom, Cond.initialized RX0, Cond.code yX0_copyFrom cX0_copyFrom 3 none, Cond.fieldLink RX0 11 "LateDoves$Cote" "doves" "[[I"]
def wsL_set_r2 : List Cond := [Cond.methodLink RX0 36 arraycopyName, Cond.native arraycopyName, Cond.static arraycopyName, Cond.initialized "java/lang/System", Cond.fieldLink RX0 16 "LateDoves$Cote" "holes" "[[I", Cond.fieldLink RX0 19 "LateDoves$Cote" "settings" "[I", Cond.fieldLink RX0 23 "LateDoves$Cote" "atDawn" "[I", Cond.fieldLink RX0 26 "LateDoves$Cote" "stop" "[I", Cond.fieldLink RX0 32 "LateDoves$Cote" "way" "LLateDoves$Way;", Cond.fieldLink RX0 46 "LateDoves$Cote" "day" "I", Cond.fieldLink RX0 50 "LateDoves$Cote" "time" "I", Cond.fieldLink RX0 53 "LateDoves$Cote" "shifts" "I", Cond.fieldLink RX0 56 "LateDoves$Cote" "quarrels" "I", Cond.methodLink RX0 42 yX2_copyFrom, Cond.instanceMethod yX2_copyFrom, Cond.selects RX2 yX2_copyFrom yX2_copyFrom, Cond.initialized RX2, Cond.code yX2_copyFrom cX2_copyFrom 2 none, Cond.fieldLink RX2 9 "LateDoves$Way" "who" "[I", Cond.methodLink RX2 22 arraycopyName, Cond.fieldLink RX2 15 "LateDoves$Way" "where" "[I", Cond.fieldLink RX2 18 "LateDoves$Way" "size" "I"]
def wsL_set : List Cond := .codeWith yL_set cL_set 5 (some .int) [(0, 7, 10, 15), (0, 7, 15, 17)] :: ((wsL_set_r1 ++ wsL_set_r2) ++ wsX30 ++ wsX00 ++ wsX20 ++ (vx_atS RX3 109 "java/lang/IndexOutOfBoundsException" ["java/lang/RuntimeException", "java/lang/Exception"]).filter goodWord ++ (vx_atS RX3 56 "java/lang/IllegalArgumentException" ["java/lang/RuntimeException", "java/lang/Exception"]).filter goodWord)
def wsL_home_r1 : List Cond := [Cond.classLink RL 15 "java/lang/IndexOutOfBoundsException", Cond.classLink RL 17 "java/lang/IllegalArgumentException", Cond.classLink RL 19 "java/lang/IllegalStateException", Cond.methodLink RL 37 yX3_home, Cond.instanceMethod yX3_home, Cond.selects RX3 yX3_home yX3_home, Cond.initialized RX3, Cond.code yX3_home cX3_home 3 (some .int), Cond.classLink RX3 63 "java/lang/IllegalStateException", Cond.initialized "java/lang/IllegalStateException", Cond.fieldLink RX3 10 "LateDoves" "now" "LLateDoves$Cote;", Cond.methodLink RX3 75 yX3_needDove, Cond.instanceMethod yX3_needDove, Cond.selects RX3 yX3_needDove yX3_needDove, Cond.code yX3_needDove cX3_needDove 2 none, Cond.classLink RX3 105 "java/lang/IndexOutOfBoundsException", Cond.initialized "java/lang/IndexOutOfBoundsException", Cond.methodLink RX3 235 yX0_exists, Cond.instanceMethod yX0_exists, Cond.selects RX0 yX0_exists yX0_exists, Cond.initialized RX0, Cond.code yX0_exists cX0_exists 2 (some .boolean), Cond.fieldLink RX0 11 "LateDoves$Cote" "doves" "[[I", Cond.methodLink RX3 115 yX3_needTime]
def wsL_home_r2 : List Cond := [Cond.static yX3_needTime, Cond.code yX3_needTime cX3_needTime 1 none, Cond.classLink RX3 52 "java/lang/IllegalArgumentException", Cond.initialized "java/lang/IllegalArgumentException", Cond.methodLink RX3 118 yX0_reasonNotHome, Cond.instanceMethod yX0_reasonNotHome, Cond.selects RX0 yX0_reasonNotHome yX0_reasonNotHome, Cond.code yX0_reasonNotHome cX0_reasonNotHome 3 (some .int), Cond.fieldLink RX0 50 "LateDoves$Cote" "time" "I", Cond.methodLink RX3 68 yX3_save, Cond.instanceMethod yX3_save, Cond.selects RX3 yX3_save yX3_save, Cond.code yX3_save cX3_save 3 none, Cond.fieldLink RX3 30 "LateDoves" "savedCount" "I", Cond.fieldLink RX3 26 "LateDoves" "saved" "[LLateDoves$Cote;", Cond.methodLink RX3 162 yX0_copyFrom, Cond.instanceMethod yX0_copyFrom, Cond.selects RX0 yX0_copyFrom yX0_copyFrom, Cond.code yX0_copyFrom cX0_copyFrom 3 none, Cond.methodLink RX0 36 arraycopyName, Cond.native arraycopyName, Cond.static arraycopyName, Cond.initialized "java/lang/System", Cond.fieldLink RX0 16 "LateDoves$Cote" "holes" "[[I"]
def wsL_home_r3 : List Cond := [Cond.fieldLink RX0 19 "LateDoves$Cote" "settings" "[I", Cond.fieldLink RX0 23 "LateDoves$Cote" "atDawn" "[I", Cond.fieldLink RX0 26 "LateDoves$Cote" "stop" "[I", Cond.fieldLink RX0 32 "LateDoves$Cote" "way" "LLateDoves$Way;", Cond.fieldLink RX0 46 "LateDoves$Cote" "day" "I", Cond.fieldLink RX0 53 "LateDoves$Cote" "shifts" "I", Cond.fieldLink RX0 56 "LateDoves$Cote" "quarrels" "I", Cond.methodLink RX0 42 yX2_copyFrom, Cond.instanceMethod yX2_copyFrom, Cond.selects RX2 yX2_copyFrom yX2_copyFrom, Cond.initialized RX2, Cond.code yX2_copyFrom cX2_copyFrom 2 none, Cond.fieldLink RX2 9 "LateDoves$Way" "who" "[I", Cond.methodLink RX2 22 arraycopyName, Cond.fieldLink RX2 15 "LateDoves$Way" "where" "[I", Cond.fieldLink RX2 18 "LateDoves$Way" "size" "I", Cond.methodLink RX3 123 yX0_comeHome, Cond.instanceMethod yX0_comeHome, Cond.selects RX0 yX0_comeHome yX0_comeHome, Cond.code yX0_comeHome cX0_comeHome 8 (some .int), Cond.methodLink RX0 86 yX0_isOpen, Cond.instanceMethod yX0_isOpen, Cond.selects RX0 yX0_isOpen yX0_isOpen, Cond.code yX0_isOpen cX0_isOpen 2 (some .boolean)]
def wsL_home_r4 : List Cond := [Cond.static yX3_isHole, Cond.code yX3_isHole cX3_isHole 1 (some .boolean), Cond.methodLink RX0 92 yX0_enterOwnHole, Cond.instanceMethod yX0_enterOwnHole, Cond.selects RX0 yX0_enterOwnHole yX0_enterOwnHole, Cond.code yX0_enterOwnHole cX0_enterOwnHole 5 (some .int), Cond.methodLink RX0 83 yX0_exists, Cond.methodLink RX0 99 yX0_shiftFrom, Cond.instanceMethod yX0_shiftFrom, Cond.selects RX0 yX0_shiftFrom yX0_shiftFrom, Cond.code yX0_shiftFrom cX0_shiftFrom 4 (some .int), Cond.methodLink RX0 103 yX0_sit, Cond.instanceMethod yX0_sit, Cond.selects RX0 yX0_sit yX0_sit, Cond.code yX0_sit cX0_sit 3 none, Cond.methodLink RX0 113 yX2_note, Cond.instanceMethod yX2_note, Cond.selects RX2 yX2_note yX2_note, Cond.code yX2_note cX2_note 3 none, Cond.methodLink RX0 96 yX0_settle, Cond.instanceMethod yX0_settle, Cond.selects RX0 yX0_settle yX0_settle, Cond.code yX0_settle cX0_settle 6 (some .int), Cond.methodLink RX0 107 yX0_firstFreeFor]
def wsL_home_r5 : List Cond := [Cond.instanceMethod yX0_firstFreeFor, Cond.selects RX0 yX0_firstFreeFor yX0_firstFreeFor, Cond.code yX0_firstFreeFor cX0_firstFreeFor 6 (some .int), Cond.methodLink RX0 110 yX0_isFree, Cond.instanceMethod yX0_isFree, Cond.selects RX0 yX0_isFree yX0_isFree, Cond.code yX0_isFree cX0_isFree 2 (some .boolean)]
def wsL_home : List Cond := .codeWith yL_home cL_home 5 (some .int) [(0, 7, 10, 15), (0, 7, 15, 17), (0, 7, 20, 19)] :: ((wsL_home_r1 ++ (wsL_home_r2 ++ (wsL_home_r3 ++ (wsL_home_r4 ++ wsL_home_r5)))) ++ wsX30 ++ wsX00 ++ wsX20 ++ (vx_atS RX3 67 "java/lang/IllegalStateException" ["java/lang/RuntimeException", "java/lang/Exception"]).filter goodWord ++ (vx_atS RX3 109 "java/lang/IndexOutOfBoundsException" ["java/lang/RuntimeException", "java/lang/Exception"]).filter goodWord ++ (vx_atS RX3 56 "java/lang/IllegalArgumentException" ["java/lang/RuntimeException", "java/lang/Exception"]).filter goodWord)
def wsL_undo_r1 : List Cond := [Cond.classLink RL 19 "java/lang/IllegalStateException", Cond.methodLink RL 40 yX3_undo, Cond.instanceMethod yX3_undo, Cond.selects RX3 yX3_undo yX3_undo, Cond.initialized RX3, Cond.code yX3_undo cX3_undo 1 (some .int), Cond.classLink RX3 63 "java/lang/IllegalStateException", Cond.initialized "java/lang/IllegalStateException", Cond.fieldLink RX3 30 "LateDoves" "savedCount" "I", Cond.fieldLink RX3 10 "LateDoves" "now" "LLateDoves$Cote;", Cond.fieldLink RX3 26 "LateDoves" "saved" "[LLateDoves$Cote;", Cond.methodLink RX3 162 yX0_copyFrom, Cond.instanceMethod yX0_copyFrom, Cond.selects RX0 yX0_copyFrom yX0_copyFrom, Cond.initialized RX0, Cond.code yX0_copyFrom cX0_copyFrom 3 none, Cond.fieldLink RX0 11 "LateDoves$Cote" "doves" "[[I", Cond.methodLink RX0 36 arraycopyName, Cond.native arraycopyName, Cond.static arraycopyName, Cond.initialized "java/lang/System", Cond.fieldLink RX0 16 "LateDoves$Cote" "holes" "[[I", Cond.fieldLink RX0 19 "LateDoves$Cote" "settings" "[I", Cond.fieldLink RX0 23 "LateDoves$Cote" "atDawn" "[I"]
def wsL_undo_r2 : List Cond := [Cond.fieldLink RX0 26 "LateDoves$Cote" "stop" "[I", Cond.fieldLink RX0 32 "LateDoves$Cote" "way" "LLateDoves$Way;", Cond.fieldLink RX0 46 "LateDoves$Cote" "day" "I", Cond.fieldLink RX0 50 "LateDoves$Cote" "time" "I", Cond.fieldLink RX0 53 "LateDoves$Cote" "shifts" "I", Cond.fieldLink RX0 56 "LateDoves$Cote" "quarrels" "I", Cond.methodLink RX0 42 yX2_copyFrom, Cond.instanceMethod yX2_copyFrom, Cond.selects RX2 yX2_copyFrom yX2_copyFrom, Cond.initialized RX2, Cond.code yX2_copyFrom cX2_copyFrom 2 none, Cond.fieldLink RX2 9 "LateDoves$Way" "who" "[I", Cond.methodLink RX2 22 arraycopyName, Cond.fieldLink RX2 15 "LateDoves$Way" "where" "[I", Cond.fieldLink RX2 18 "LateDoves$Way" "size" "I"]
def wsL_undo : List Cond := .codeWith yL_undo cL_undo 3 (some .int) [(0, 5, 8, 19)] :: ((wsL_undo_r1 ++ wsL_undo_r2) ++ wsX30 ++ wsX00 ++ wsX20 ++ (vx_atS RX3 67 "java/lang/IllegalStateException" ["java/lang/RuntimeException", "java/lang/Exception"]).filter goodWord)
def wsL_restore_r1 : List Cond := [Cond.classLink RL 19 "java/lang/IllegalStateException", Cond.methodLink RL 44 yX3_restore, Cond.instanceMethod yX3_restore, Cond.selects RX3 yX3_restore yX3_restore, Cond.initialized RX3, Cond.code yX3_restore cX3_restore 1 (some .int), Cond.classLink RX3 63 "java/lang/IllegalStateException", Cond.initialized "java/lang/IllegalStateException", Cond.fieldLink RX3 22 "LateDoves" "hasSnapshot" "Z", Cond.fieldLink RX3 10 "LateDoves" "now" "LLateDoves$Cote;", Cond.fieldLink RX3 19 "LateDoves" "snapshot" "LLateDoves$Cote;", Cond.methodLink RX3 68 yX3_save, Cond.instanceMethod yX3_save, Cond.selects RX3 yX3_save yX3_save, Cond.code yX3_save cX3_save 3 none, Cond.fieldLink RX3 30 "LateDoves" "savedCount" "I", Cond.fieldLink RX3 26 "LateDoves" "saved" "[LLateDoves$Cote;", Cond.methodLink RX3 162 yX0_copyFrom, Cond.instanceMethod yX0_copyFrom, Cond.selects RX0 yX0_copyFrom yX0_copyFrom, Cond.initialized RX0, Cond.code yX0_copyFrom cX0_copyFrom 3 none, Cond.fieldLink RX0 11 "LateDoves$Cote" "doves" "[[I", Cond.methodLink RX0 36 arraycopyName]
def wsL_restore_r2 : List Cond := [Cond.native arraycopyName, Cond.static arraycopyName, Cond.initialized "java/lang/System", Cond.fieldLink RX0 16 "LateDoves$Cote" "holes" "[[I", Cond.fieldLink RX0 19 "LateDoves$Cote" "settings" "[I", Cond.fieldLink RX0 23 "LateDoves$Cote" "atDawn" "[I", Cond.fieldLink RX0 26 "LateDoves$Cote" "stop" "[I", Cond.fieldLink RX0 32 "LateDoves$Cote" "way" "LLateDoves$Way;", Cond.fieldLink RX0 46 "LateDoves$Cote" "day" "I", Cond.fieldLink RX0 50 "LateDoves$Cote" "time" "I", Cond.fieldLink RX0 53 "LateDoves$Cote" "shifts" "I", Cond.fieldLink RX0 56 "LateDoves$Cote" "quarrels" "I", Cond.methodLink RX0 42 yX2_copyFrom, Cond.instanceMethod yX2_copyFrom, Cond.selects RX2 yX2_copyFrom yX2_copyFrom, Cond.initialized RX2, Cond.code yX2_copyFrom cX2_copyFrom 2 none, Cond.fieldLink RX2 9 "LateDoves$Way" "who" "[I", Cond.methodLink RX2 22 arraycopyName, Cond.fieldLink RX2 15 "LateDoves$Way" "where" "[I", Cond.fieldLink RX2 18 "LateDoves$Way" "size" "I"]
def wsL_restore : List Cond := .codeWith yL_restore cL_restore 3 (some .int) [(0, 5, 8, 19)] :: ((wsL_restore_r1 ++ wsL_restore_r2) ++ wsX30 ++ wsX00 ++ wsX20 ++ (vx_atS RX3 67 "java/lang/IllegalStateException" ["java/lang/RuntimeException", "java/lang/Exception"]).filter goodWord)
def wsL_dove : List Cond := .codeWith yL_dove cL_dove 5 (some .int) [(0, 7, 10, 15), (0, 7, 15, 17)] :: ([.classLink RL 15 "java/lang/IndexOutOfBoundsException", .classLink RL 17 "java/lang/IllegalArgumentException", .methodLink RL 47 yX3_dove, .instanceMethod yX3_dove, .selects RX3 yX3_dove yX3_dove, .initialized RX3, .code yX3_dove cX3_dove 3 (some .int), .classLink RX3 52 "java/lang/IllegalArgumentException", .initialized "java/lang/IllegalArgumentException", .fieldLink RX3 10 "LateDoves" "now" "LLateDoves$Cote;", .methodLink RX3 75 yX3_needDove, .instanceMethod yX3_needDove, .selects RX3 yX3_needDove yX3_needDove, .code yX3_needDove cX3_needDove 2 none, .classLink RX3 105 "java/lang/IndexOutOfBoundsException", .initialized "java/lang/IndexOutOfBoundsException", .methodLink RX3 235 yX0_exists, .instanceMethod yX0_exists, .selects RX0 yX0_exists yX0_exists, .initialized RX0, .code yX0_exists cX0_exists 2 (some .boolean), .fieldLink RX0 11 "LateDoves$Cote" "doves" "[[I"] ++ wsX30 ++ wsX00 ++ (vx_atS RX3 56 "java/lang/IllegalArgumentException" ["java/lang/RuntimeException", "java/lang/Exception"]).filter goodWord ++ (vx_atS RX3 109 "java/lang/IndexOutOfBoundsException" ["java/lang/RuntimeException", "java/lang/Exception"]).filter goodWord)
def wsL_hole : List Cond := .codeWith yL_hole cL_hole 5 (some .int) [(0, 7, 10, 15), (0, 7, 15, 17)] :: ([.classLink RL 15 "java/lang/IndexOutOfBoundsException", .classLink RL 17 "java/lang/IllegalArgumentException", .methodLink RL 50 yX3_hole, .instanceMethod yX3_hole, .selects RX3 yX3_hole yX3_hole, .initialized RX3, .code yX3_hole cX3_hole 3 (some .int), .classLink RX3 52 "java/lang/IllegalArgumentException", .initialized "java/lang/IllegalArgumentException", .fieldLink RX3 10 "LateDoves" "now" "LLateDoves$Cote;", .methodLink RX3 48 yX3_needHole, .static yX3_needHole, .code yX3_needHole cX3_needHole 1 none, .classLink RX3 105 "java/lang/IndexOutOfBoundsException", .initialized "java/lang/IndexOutOfBoundsException", .methodLink RX3 260 yX3_isHole, .static yX3_isHole, .code yX3_isHole cX3_isHole 1 (some .boolean)] ++ wsX30 ++ wsX00 ++ (vx_atS RX3 56 "java/lang/IllegalArgumentException" ["java/lang/RuntimeException", "java/lang/Exception"]).filter goodWord ++ (vx_atS RX3 109 "java/lang/IndexOutOfBoundsException" ["java/lang/RuntimeException", "java/lang/Exception"]).filter goodWord)
def wsL_whyNot_r1 : List Cond := [Cond.classLink RL 15 "java/lang/IndexOutOfBoundsException", Cond.classLink RL 17 "java/lang/IllegalArgumentException", Cond.methodLink RL 53 yX3_whyNot, Cond.instanceMethod yX3_whyNot, Cond.selects RX3 yX3_whyNot yX3_whyNot, Cond.initialized RX3, Cond.code yX3_whyNot cX3_whyNot 3 (some .int), Cond.fieldLink RX3 10 "LateDoves" "now" "LLateDoves$Cote;", Cond.methodLink RX3 75 yX3_needDove, Cond.instanceMethod yX3_needDove, Cond.selects RX3 yX3_needDove yX3_needDove, Cond.code yX3_needDove cX3_needDove 2 none, Cond.classLink RX3 105 "java/lang/IndexOutOfBoundsException", Cond.initialized "java/lang/IndexOutOfBoundsException", Cond.methodLink RX3 235 yX0_exists, Cond.instanceMethod yX0_exists, Cond.selects RX0 yX0_exists yX0_exists, Cond.initialized RX0, Cond.code yX0_exists cX0_exists 2 (some .boolean), Cond.fieldLink RX0 11 "LateDoves$Cote" "doves" "[[I", Cond.methodLink RX3 115 yX3_needTime, Cond.static yX3_needTime, Cond.code yX3_needTime cX3_needTime 1 none, Cond.classLink RX3 52 "java/lang/IllegalArgumentException"]
def wsL_whyNot_r2 : List Cond := [Cond.initialized "java/lang/IllegalArgumentException", Cond.methodLink RX3 118 yX0_reasonNotHome, Cond.instanceMethod yX0_reasonNotHome, Cond.selects RX0 yX0_reasonNotHome yX0_reasonNotHome, Cond.code yX0_reasonNotHome cX0_reasonNotHome 3 (some .int), Cond.fieldLink RX0 50 "LateDoves$Cote" "time" "I"]
def wsL_whyNot : List Cond := .codeWith yL_whyNot cL_whyNot 5 (some .int) [(0, 7, 10, 15), (0, 7, 15, 17)] :: ((wsL_whyNot_r1 ++ wsL_whyNot_r2) ++ wsX30 ++ wsX00 ++ (vx_atS RX3 109 "java/lang/IndexOutOfBoundsException" ["java/lang/RuntimeException", "java/lang/Exception"]).filter goodWord ++ (vx_atS RX3 56 "java/lang/IllegalArgumentException" ["java/lang/RuntimeException", "java/lang/Exception"]).filter goodWord)
def wsL_ifHome_r1 : List Cond := [Cond.classLink RL 15 "java/lang/IndexOutOfBoundsException", Cond.classLink RL 17 "java/lang/IllegalArgumentException", Cond.methodLink RL 56 yX3_ifHome, Cond.instanceMethod yX3_ifHome, Cond.selects RX3 yX3_ifHome yX3_ifHome, Cond.initialized RX3, Cond.code yX3_ifHome cX3_ifHome 4 (some .int), Cond.classLink RX3 52 "java/lang/IllegalArgumentException", Cond.initialized "java/lang/IllegalArgumentException", Cond.methodLink RX3 75 yX3_needDove, Cond.instanceMethod yX3_needDove, Cond.selects RX3 yX3_needDove yX3_needDove, Cond.code yX3_needDove cX3_needDove 2 none, Cond.classLink RX3 105 "java/lang/IndexOutOfBoundsException", Cond.initialized "java/lang/IndexOutOfBoundsException", Cond.fieldLink RX3 10 "LateDoves" "now" "LLateDoves$Cote;", Cond.methodLink RX3 235 yX0_exists, Cond.instanceMethod yX0_exists, Cond.selects RX0 yX0_exists yX0_exists, Cond.initialized RX0, Cond.code yX0_exists cX0_exists 2 (some .boolean), Cond.fieldLink RX0 11 "LateDoves$Cote" "doves" "[[I", Cond.methodLink RX3 115 yX3_needTime, Cond.static yX3_needTime]
def wsL_ifHome_r2 : List Cond := [Cond.code yX3_needTime cX3_needTime 1 none, Cond.methodLink RX3 204 yX3_tryHome, Cond.instanceMethod yX3_tryHome, Cond.selects RX3 yX3_tryHome yX3_tryHome, Cond.code yX3_tryHome cX3_tryHome 3 (some .boolean), Cond.fieldLink RX3 16 "LateDoves" "trial" "LLateDoves$Cote;", Cond.methodLink RX3 118 yX0_reasonNotHome, Cond.instanceMethod yX0_reasonNotHome, Cond.selects RX0 yX0_reasonNotHome yX0_reasonNotHome, Cond.code yX0_reasonNotHome cX0_reasonNotHome 3 (some .int), Cond.fieldLink RX0 50 "LateDoves$Cote" "time" "I", Cond.methodLink RX3 162 yX0_copyFrom, Cond.instanceMethod yX0_copyFrom, Cond.selects RX0 yX0_copyFrom yX0_copyFrom, Cond.code yX0_copyFrom cX0_copyFrom 3 none, Cond.methodLink RX0 36 arraycopyName, Cond.native arraycopyName, Cond.static arraycopyName, Cond.initialized "java/lang/System", Cond.fieldLink RX0 16 "LateDoves$Cote" "holes" "[[I", Cond.fieldLink RX0 19 "LateDoves$Cote" "settings" "[I", Cond.fieldLink RX0 23 "LateDoves$Cote" "atDawn" "[I", Cond.fieldLink RX0 26 "LateDoves$Cote" "stop" "[I", Cond.fieldLink RX0 32 "LateDoves$Cote" "way" "LLateDoves$Way;"]
def wsL_ifHome_r3 : List Cond := [Cond.fieldLink RX0 46 "LateDoves$Cote" "day" "I", Cond.fieldLink RX0 53 "LateDoves$Cote" "shifts" "I", Cond.fieldLink RX0 56 "LateDoves$Cote" "quarrels" "I", Cond.methodLink RX0 42 yX2_copyFrom, Cond.instanceMethod yX2_copyFrom, Cond.selects RX2 yX2_copyFrom yX2_copyFrom, Cond.initialized RX2, Cond.code yX2_copyFrom cX2_copyFrom 2 none, Cond.fieldLink RX2 9 "LateDoves$Way" "who" "[I", Cond.methodLink RX2 22 arraycopyName, Cond.fieldLink RX2 15 "LateDoves$Way" "where" "[I", Cond.fieldLink RX2 18 "LateDoves$Way" "size" "I", Cond.methodLink RX3 123 yX0_comeHome, Cond.instanceMethod yX0_comeHome, Cond.selects RX0 yX0_comeHome yX0_comeHome, Cond.code yX0_comeHome cX0_comeHome 8 (some .int), Cond.methodLink RX0 86 yX0_isOpen, Cond.instanceMethod yX0_isOpen, Cond.selects RX0 yX0_isOpen yX0_isOpen, Cond.code yX0_isOpen cX0_isOpen 2 (some .boolean), Cond.static yX3_isHole, Cond.code yX3_isHole cX3_isHole 1 (some .boolean), Cond.methodLink RX0 92 yX0_enterOwnHole, Cond.instanceMethod yX0_enterOwnHole]
def wsL_ifHome_r4 : List Cond := [Cond.selects RX0 yX0_enterOwnHole yX0_enterOwnHole, Cond.code yX0_enterOwnHole cX0_enterOwnHole 5 (some .int), Cond.methodLink RX0 83 yX0_exists, Cond.methodLink RX0 99 yX0_shiftFrom, Cond.instanceMethod yX0_shiftFrom, Cond.selects RX0 yX0_shiftFrom yX0_shiftFrom, Cond.code yX0_shiftFrom cX0_shiftFrom 4 (some .int), Cond.methodLink RX0 103 yX0_sit, Cond.instanceMethod yX0_sit, Cond.selects RX0 yX0_sit yX0_sit, Cond.code yX0_sit cX0_sit 3 none, Cond.methodLink RX0 113 yX2_note, Cond.instanceMethod yX2_note, Cond.selects RX2 yX2_note yX2_note, Cond.code yX2_note cX2_note 3 none, Cond.methodLink RX0 96 yX0_settle, Cond.instanceMethod yX0_settle, Cond.selects RX0 yX0_settle yX0_settle, Cond.code yX0_settle cX0_settle 6 (some .int), Cond.methodLink RX0 107 yX0_firstFreeFor, Cond.instanceMethod yX0_firstFreeFor, Cond.selects RX0 yX0_firstFreeFor yX0_firstFreeFor, Cond.code yX0_firstFreeFor cX0_firstFreeFor 6 (some .int), Cond.methodLink RX0 110 yX0_isFree]
def wsL_ifHome_r5 : List Cond := [Cond.instanceMethod yX0_isFree, Cond.selects RX0 yX0_isFree yX0_isFree, Cond.code yX0_isFree cX0_isFree 2 (some .boolean), Cond.methodLink RX3 208 yX3_trialNumber, Cond.instanceMethod yX3_trialNumber, Cond.selects RX3 yX3_trialNumber yX3_trialNumber, Cond.code yX3_trialNumber cX3_trialNumber 3 (some .int), Cond.methodLink RX3 293 yX0_placedAt, Cond.instanceMethod yX0_placedAt, Cond.selects RX0 yX0_placedAt yX0_placedAt, Cond.code yX0_placedAt cX0_placedAt 4 (some .int)]
def wsL_ifHome : List Cond := .codeWith yL_ifHome cL_ifHome 6 (some .int) [(0, 9, 12, 15), (0, 9, 17, 17)] :: ((wsL_ifHome_r1 ++ (wsL_ifHome_r2 ++ (wsL_ifHome_r3 ++ (wsL_ifHome_r4 ++ wsL_ifHome_r5)))) ++ wsX30 ++ wsX00 ++ wsX20 ++ (vx_atS RX3 56 "java/lang/IllegalArgumentException" ["java/lang/RuntimeException", "java/lang/Exception"]).filter goodWord ++ (vx_atS RX3 109 "java/lang/IndexOutOfBoundsException" ["java/lang/RuntimeException", "java/lang/Exception"]).filter goodWord)
def wsL_step : List Cond := .codeWith yL_step cL_step 5 (some .int) [(0, 7, 10, 17)] :: ([.classLink RL 17 "java/lang/IllegalArgumentException", .methodLink RL 60 yX3_step, .instanceMethod yX3_step, .selects RX3 yX3_step yX3_step, .initialized RX3, .code yX3_step cX3_step 3 (some .int), .classLink RX3 52 "java/lang/IllegalArgumentException", .initialized "java/lang/IllegalArgumentException", .fieldLink RX3 10 "LateDoves" "now" "LLateDoves$Cote;"] ++ wsX30 ++ wsX00 ++ wsX20 ++ (vx_atS RX3 56 "java/lang/IllegalArgumentException" ["java/lang/RuntimeException", "java/lang/Exception"]).filter goodWord)
def wsL_is : List Cond := .code yL_is cL_is 2 (some .boolean) :: ([])
def wsL_sits : List Cond := .code yL_sits cL_sits 4 (some .int) :: ([.methodLink RL 63 yL_is, .static yL_is, .initialized RL, .code yL_is cL_is 2 (some .boolean)])
def wsL_owner : List Cond := .code yL_owner cL_owner 4 (some .int) :: ([.methodLink RL 63 yL_is, .static yL_is, .initialized RL, .code yL_is cL_is 2 (some .boolean)])
def wsL_free : List Cond := .code yL_free cL_free 4 (some .int) :: ([.constant RL 69 (16777215), .methodLink RL 63 yL_is, .static yL_is, .initialized RL, .code yL_is cL_is 2 (some .boolean)])
def wsL_look : List Cond := .code yL_look cL_look 8 (some .int) :: ([.methodLink RL 70 yL_free, .static yL_free, .initialized RL, .code yL_free cL_free 4 (some .int), .constant RL 69 (16777215), .methodLink RL 63 yL_is, .static yL_is, .code yL_is cL_is 2 (some .boolean)])
def wsL_sit : List Cond := .code yL_sit cL_sit 5 none :: ([])
def wsL_shift : List Cond := .code yL_shift cL_shift 5 none :: ([])
def wsL_comes : List Cond := .code yL_comes cL_comes 12 (some .int) :: ([.methodLink RL 74 yL_sits, .static yL_sits, .initialized RL, .code yL_sits cL_sits 4 (some .int), .methodLink RL 63 yL_is, .static yL_is, .code yL_is cL_is 2 (some .boolean), .methodLink RL 78 yL_shift, .static yL_shift, .code yL_shift cL_shift 5 none, .methodLink RL 82 yL_sit, .static yL_sit, .code yL_sit cL_sit 5 none, .methodLink RL 85 yL_look, .static yL_look, .code yL_look cL_look 8 (some .int), .methodLink RL 70 yL_free, .static yL_free, .code yL_free cL_free 4 (some .int), .constant RL 69 (16777215)])
def wsL_many : List Cond := .code yL_many cL_many 6 (some .int) :: ([.methodLink RL 63 yL_is, .static yL_is, .initialized RL, .code yL_is cL_is 2 (some .boolean)])
def wsL_copy : List Cond := .code yL_copy cL_copy 3 none :: ([])
def wsL_isAhead_r1 : List Cond := [Cond.arrayClass .int, Cond.methodLink RL 63 yL_is, Cond.static yL_is, Cond.initialized RL, Cond.code yL_is cL_is 2 (some .boolean), Cond.methodLink RL 88 yL_whyNot, Cond.static yL_whyNot, Cond.codeWith yL_whyNot cL_whyNot 5 (some .int) [(0, 7, 10, 15), (0, 7, 15, 17)], Cond.classLink RL 15 "java/lang/IndexOutOfBoundsException", Cond.classLink RL 17 "java/lang/IllegalArgumentException", Cond.methodLink RL 53 yX3_whyNot, Cond.instanceMethod yX3_whyNot, Cond.selects RX3 yX3_whyNot yX3_whyNot, Cond.initialized RX3, Cond.code yX3_whyNot cX3_whyNot 3 (some .int), Cond.fieldLink RX3 10 "LateDoves" "now" "LLateDoves$Cote;", Cond.methodLink RX3 75 yX3_needDove, Cond.instanceMethod yX3_needDove, Cond.selects RX3 yX3_needDove yX3_needDove, Cond.code yX3_needDove cX3_needDove 2 none, Cond.classLink RX3 105 "java/lang/IndexOutOfBoundsException", Cond.initialized "java/lang/IndexOutOfBoundsException", Cond.methodLink RX3 235 yX0_exists, Cond.instanceMethod yX0_exists]
def wsL_isAhead_r2 : List Cond := [Cond.selects RX0 yX0_exists yX0_exists, Cond.initialized RX0, Cond.code yX0_exists cX0_exists 2 (some .boolean), Cond.fieldLink RX0 11 "LateDoves$Cote" "doves" "[[I", Cond.methodLink RX3 115 yX3_needTime, Cond.static yX3_needTime, Cond.code yX3_needTime cX3_needTime 1 none, Cond.classLink RX3 52 "java/lang/IllegalArgumentException", Cond.initialized "java/lang/IllegalArgumentException", Cond.methodLink RX3 118 yX0_reasonNotHome, Cond.instanceMethod yX0_reasonNotHome, Cond.selects RX0 yX0_reasonNotHome yX0_reasonNotHome, Cond.code yX0_reasonNotHome cX0_reasonNotHome 3 (some .int), Cond.fieldLink RX0 50 "LateDoves$Cote" "time" "I", Cond.methodLink RL 91 yL_ifHome, Cond.static yL_ifHome, Cond.codeWith yL_ifHome cL_ifHome 6 (some .int) [(0, 9, 12, 15), (0, 9, 17, 17)], Cond.methodLink RL 56 yX3_ifHome, Cond.instanceMethod yX3_ifHome, Cond.selects RX3 yX3_ifHome yX3_ifHome, Cond.code yX3_ifHome cX3_ifHome 4 (some .int), Cond.methodLink RX3 204 yX3_tryHome, Cond.instanceMethod yX3_tryHome, Cond.selects RX3 yX3_tryHome yX3_tryHome]
def wsL_isAhead_r3 : List Cond := [Cond.code yX3_tryHome cX3_tryHome 3 (some .boolean), Cond.fieldLink RX3 16 "LateDoves" "trial" "LLateDoves$Cote;", Cond.methodLink RX3 162 yX0_copyFrom, Cond.instanceMethod yX0_copyFrom, Cond.selects RX0 yX0_copyFrom yX0_copyFrom, Cond.code yX0_copyFrom cX0_copyFrom 3 none, Cond.methodLink RX0 36 arraycopyName, Cond.native arraycopyName, Cond.static arraycopyName, Cond.initialized "java/lang/System", Cond.fieldLink RX0 16 "LateDoves$Cote" "holes" "[[I", Cond.fieldLink RX0 19 "LateDoves$Cote" "settings" "[I", Cond.fieldLink RX0 23 "LateDoves$Cote" "atDawn" "[I", Cond.fieldLink RX0 26 "LateDoves$Cote" "stop" "[I", Cond.fieldLink RX0 32 "LateDoves$Cote" "way" "LLateDoves$Way;", Cond.fieldLink RX0 46 "LateDoves$Cote" "day" "I", Cond.fieldLink RX0 53 "LateDoves$Cote" "shifts" "I", Cond.fieldLink RX0 56 "LateDoves$Cote" "quarrels" "I", Cond.methodLink RX0 42 yX2_copyFrom, Cond.instanceMethod yX2_copyFrom, Cond.selects RX2 yX2_copyFrom yX2_copyFrom, Cond.initialized RX2, Cond.code yX2_copyFrom cX2_copyFrom 2 none, Cond.fieldLink RX2 9 "LateDoves$Way" "who" "[I"]
def wsL_isAhead_r4 : List Cond := [Cond.methodLink RX2 22 arraycopyName, Cond.fieldLink RX2 15 "LateDoves$Way" "where" "[I", Cond.fieldLink RX2 18 "LateDoves$Way" "size" "I", Cond.methodLink RX3 123 yX0_comeHome, Cond.instanceMethod yX0_comeHome, Cond.selects RX0 yX0_comeHome yX0_comeHome, Cond.code yX0_comeHome cX0_comeHome 8 (some .int), Cond.methodLink RX0 86 yX0_isOpen, Cond.instanceMethod yX0_isOpen, Cond.selects RX0 yX0_isOpen yX0_isOpen, Cond.code yX0_isOpen cX0_isOpen 2 (some .boolean), Cond.static yX3_isHole, Cond.code yX3_isHole cX3_isHole 1 (some .boolean), Cond.methodLink RX0 92 yX0_enterOwnHole, Cond.instanceMethod yX0_enterOwnHole, Cond.selects RX0 yX0_enterOwnHole yX0_enterOwnHole, Cond.code yX0_enterOwnHole cX0_enterOwnHole 5 (some .int), Cond.methodLink RX0 83 yX0_exists, Cond.methodLink RX0 99 yX0_shiftFrom, Cond.instanceMethod yX0_shiftFrom, Cond.selects RX0 yX0_shiftFrom yX0_shiftFrom, Cond.code yX0_shiftFrom cX0_shiftFrom 4 (some .int), Cond.methodLink RX0 103 yX0_sit, Cond.instanceMethod yX0_sit]
def wsL_isAhead_r5 : List Cond := [Cond.selects RX0 yX0_sit yX0_sit, Cond.code yX0_sit cX0_sit 3 none, Cond.methodLink RX0 113 yX2_note, Cond.instanceMethod yX2_note, Cond.selects RX2 yX2_note yX2_note, Cond.code yX2_note cX2_note 3 none, Cond.methodLink RX0 96 yX0_settle, Cond.instanceMethod yX0_settle, Cond.selects RX0 yX0_settle yX0_settle, Cond.code yX0_settle cX0_settle 6 (some .int), Cond.methodLink RX0 107 yX0_firstFreeFor, Cond.instanceMethod yX0_firstFreeFor, Cond.selects RX0 yX0_firstFreeFor yX0_firstFreeFor, Cond.code yX0_firstFreeFor cX0_firstFreeFor 6 (some .int), Cond.methodLink RX0 110 yX0_isFree, Cond.instanceMethod yX0_isFree, Cond.selects RX0 yX0_isFree yX0_isFree, Cond.code yX0_isFree cX0_isFree 2 (some .boolean), Cond.methodLink RX3 208 yX3_trialNumber, Cond.instanceMethod yX3_trialNumber, Cond.selects RX3 yX3_trialNumber yX3_trialNumber, Cond.code yX3_trialNumber cX3_trialNumber 3 (some .int), Cond.methodLink RX3 293 yX0_placedAt, Cond.instanceMethod yX0_placedAt]
def wsL_isAhead_r6 : List Cond := [Cond.selects RX0 yX0_placedAt yX0_placedAt, Cond.code yX0_placedAt cX0_placedAt 4 (some .int), Cond.methodLink RL 94 yL_copy, Cond.static yL_copy, Cond.code yL_copy cL_copy 3 none, Cond.methodLink RL 98 yL_comes, Cond.static yL_comes, Cond.code yL_comes cL_comes 12 (some .int), Cond.methodLink RL 74 yL_sits, Cond.static yL_sits, Cond.code yL_sits cL_sits 4 (some .int), Cond.methodLink RL 78 yL_shift, Cond.static yL_shift, Cond.code yL_shift cL_shift 5 none, Cond.methodLink RL 82 yL_sit, Cond.static yL_sit, Cond.code yL_sit cL_sit 5 none, Cond.methodLink RL 85 yL_look, Cond.static yL_look, Cond.code yL_look cL_look 8 (some .int), Cond.methodLink RL 70 yL_free, Cond.static yL_free, Cond.code yL_free cL_free 4 (some .int), Cond.constant RL 69 (16777215)]
def wsL_isAhead_r7 : List Cond := [Cond.methodLink RL 102 yL_many, Cond.static yL_many, Cond.code yL_many cL_many 6 (some .int), Cond.methodLink RL 106 yX3_lateIsAsGood, Cond.instanceMethod yX3_lateIsAsGood, Cond.selects RX3 yX3_lateIsAsGood yX3_lateIsAsGood, Cond.code yX3_lateIsAsGood cX3_lateIsAsGood 1 (some .int), Cond.methodLink RX3 214 yX3_sittingIfAllCame, Cond.instanceMethod yX3_sittingIfAllCame, Cond.selects RX3 yX3_sittingIfAllCame yX3_sittingIfAllCame, Cond.code yX3_sittingIfAllCame cX3_sittingIfAllCame 3 (some .int), Cond.methodLink RX3 296 yX0_sittingByDoves, Cond.instanceMethod yX0_sittingByDoves, Cond.selects RX0 yX0_sittingByDoves yX0_sittingByDoves, Cond.code yX0_sittingByDoves cX0_sittingByDoves 1 (some .int), Cond.methodLink RX0 63 yX0_doveCount, Cond.instanceMethod yX0_doveCount, Cond.selects RX0 yX0_doveCount yX0_doveCount, Cond.code yX0_doveCount cX0_doveCount 3 (some .int), Cond.methodLink RX0 73 yX0_placedAt]
def wsL_isAhead : List Cond := .code yL_isAhead cL_isAhead 13 (some .boolean) :: ((wsL_isAhead_r1 ++ (wsL_isAhead_r2 ++ (wsL_isAhead_r3 ++ (wsL_isAhead_r4 ++ (wsL_isAhead_r5 ++ (wsL_isAhead_r6 ++ wsL_isAhead_r7)))))) ++ wsX30 ++ wsX00 ++ wsX20 ++ (vx_atS RX3 109 "java/lang/IndexOutOfBoundsException" ["java/lang/RuntimeException", "java/lang/Exception"]).filter goodWord ++ (vx_atS RX3 56 "java/lang/IllegalArgumentException" ["java/lang/RuntimeException", "java/lang/Exception"]).filter goodWord)
def wsL_isSo_r1 : List Cond := [Cond.methodLink RL 63 yL_is, Cond.static yL_is, Cond.initialized RL, Cond.code yL_is cL_is 2 (some .boolean), Cond.methodLink RL 109 yL_dove, Cond.static yL_dove, Cond.codeWith yL_dove cL_dove 5 (some .int) [(0, 7, 10, 15), (0, 7, 15, 17)], Cond.classLink RL 15 "java/lang/IndexOutOfBoundsException", Cond.classLink RL 17 "java/lang/IllegalArgumentException", Cond.methodLink RL 47 yX3_dove, Cond.instanceMethod yX3_dove, Cond.selects RX3 yX3_dove yX3_dove, Cond.initialized RX3, Cond.code yX3_dove cX3_dove 3 (some .int), Cond.classLink RX3 52 "java/lang/IllegalArgumentException", Cond.initialized "java/lang/IllegalArgumentException", Cond.fieldLink RX3 10 "LateDoves" "now" "LLateDoves$Cote;", Cond.methodLink RX3 75 yX3_needDove, Cond.instanceMethod yX3_needDove, Cond.selects RX3 yX3_needDove yX3_needDove, Cond.code yX3_needDove cX3_needDove 2 none, Cond.classLink RX3 105 "java/lang/IndexOutOfBoundsException", Cond.initialized "java/lang/IndexOutOfBoundsException", Cond.methodLink RX3 235 yX0_exists]
def wsL_isSo_r2 : List Cond := [Cond.instanceMethod yX0_exists, Cond.selects RX0 yX0_exists yX0_exists, Cond.initialized RX0, Cond.code yX0_exists cX0_exists 2 (some .boolean), Cond.fieldLink RX0 11 "LateDoves$Cote" "doves" "[[I", Cond.methodLink RL 50 yX3_hole, Cond.instanceMethod yX3_hole, Cond.selects RX3 yX3_hole yX3_hole, Cond.code yX3_hole cX3_hole 3 (some .int), Cond.methodLink RX3 48 yX3_needHole, Cond.static yX3_needHole, Cond.code yX3_needHole cX3_needHole 1 none, Cond.methodLink RX3 260 yX3_isHole, Cond.static yX3_isHole, Cond.code yX3_isHole cX3_isHole 1 (some .boolean), Cond.methodLink RL 74 yL_sits, Cond.static yL_sits, Cond.code yL_sits cL_sits 4 (some .int), Cond.methodLink RL 111 yL_owner, Cond.static yL_owner, Cond.code yL_owner cL_owner 4 (some .int), Cond.methodLink RL 60 yX3_step, Cond.instanceMethod yX3_step, Cond.selects RX3 yX3_step yX3_step]
def wsL_isSo_r3 : List Cond := [Cond.code yX3_step cX3_step 3 (some .int), Cond.methodLink RL 114 yX3_count, Cond.instanceMethod yX3_count, Cond.selects RX3 yX3_count yX3_count, Cond.code yX3_count cX3_count 2 (some .int), Cond.fieldLink RX3 30 "LateDoves" "savedCount" "I", Cond.methodLink RX3 184 yX0_numberOf, Cond.instanceMethod yX0_numberOf, Cond.selects RX0 yX0_numberOf yX0_numberOf, Cond.code yX0_numberOf cX0_numberOf 2 (some .int), Cond.fieldLink RX0 46 "LateDoves$Cote" "day" "I", Cond.fieldLink RX0 50 "LateDoves$Cote" "time" "I", Cond.fieldLink RX0 53 "LateDoves$Cote" "shifts" "I", Cond.fieldLink RX0 56 "LateDoves$Cote" "quarrels" "I", Cond.fieldLink RX0 23 "LateDoves$Cote" "atDawn" "[I", Cond.fieldLink RX0 19 "LateDoves$Cote" "settings" "[I", Cond.methodLink RX0 63 yX0_doveCount, Cond.instanceMethod yX0_doveCount, Cond.selects RX0 yX0_doveCount yX0_doveCount, Cond.code yX0_doveCount cX0_doveCount 3 (some .int), Cond.methodLink RX0 83 yX0_exists, Cond.methodLink RX0 67 yX0_sittingByDoves, Cond.instanceMethod yX0_sittingByDoves, Cond.selects RX0 yX0_sittingByDoves yX0_sittingByDoves]
def wsL_isSo_r4 : List Cond := [Cond.code yX0_sittingByDoves cX0_sittingByDoves 1 (some .int), Cond.methodLink RX0 73 yX0_placedAt, Cond.instanceMethod yX0_placedAt, Cond.selects RX0 yX0_placedAt yX0_placedAt, Cond.code yX0_placedAt cX0_placedAt 4 (some .int), Cond.methodLink RX0 70 yX0_sittingByHoles, Cond.instanceMethod yX0_sittingByHoles, Cond.selects RX0 yX0_sittingByHoles yX0_sittingByHoles, Cond.code yX0_sittingByHoles cX0_sittingByHoles 3 (some .int), Cond.fieldLink RX0 16 "LateDoves$Cote" "holes" "[[I", Cond.methodLink RX0 77 yX0_openHoles, Cond.instanceMethod yX0_openHoles, Cond.selects RX0 yX0_openHoles yX0_openHoles, Cond.code yX0_openHoles cX0_openHoles 3 (some .int), Cond.methodLink RX0 86 yX0_isOpen, Cond.instanceMethod yX0_isOpen, Cond.selects RX0 yX0_isOpen yX0_isOpen, Cond.code yX0_isOpen cX0_isOpen 2 (some .boolean), Cond.methodLink RX0 80 yX0_pairs, Cond.instanceMethod yX0_pairs, Cond.selects RX0 yX0_pairs yX0_pairs, Cond.code yX0_pairs cX0_pairs 3 (some .int), Cond.methodLink RL 102 yL_many, Cond.static yL_many]
def wsL_isSo_r5 : List Cond := [Cond.code yL_many cL_many 6 (some .int), Cond.methodLink RL 117 yX3_freeHole, Cond.instanceMethod yX3_freeHole, Cond.selects RX3 yX3_freeHole yX3_freeHole, Cond.code yX3_freeHole cX3_freeHole 2 (some .int), Cond.methodLink RX3 211 yX0_isOpen, Cond.methodLink RL 120 yX3_homeShare, Cond.instanceMethod yX3_homeShare, Cond.selects RX3 yX3_homeShare yX3_homeShare, Cond.code yX3_homeShare cX3_homeShare 2 (some .double), Cond.methodLink RX3 220 yX0_doveCount, Cond.methodLink RX3 223 yX0_inOwnHoles, Cond.instanceMethod yX0_inOwnHoles, Cond.selects RX0 yX0_inOwnHoles yX0_inOwnHoles, Cond.code yX0_inOwnHoles cX0_inOwnHoles 3 (some .int)]
def wsL_isSo : List Cond := .code yL_isSo cL_isSo 12 (some .boolean) :: ((wsL_isSo_r1 ++ (wsL_isSo_r2 ++ (wsL_isSo_r3 ++ (wsL_isSo_r4 ++ wsL_isSo_r5)))) ++ wsX30 ++ wsX00 ++ wsX20 ++ (vx_atS RX3 56 "java/lang/IllegalArgumentException" ["java/lang/RuntimeException", "java/lang/Exception"]).filter goodWord ++ (vx_atS RX3 109 "java/lang/IndexOutOfBoundsException" ["java/lang/RuntimeException", "java/lang/Exception"]).filter goodWord)
def wsL_doves_r1 : List Cond := [Cond.constant RL 127 (65535), Cond.methodLink RL 124 yL_low, Cond.static yL_low, Cond.initialized RL, Cond.code yL_low cL_low 2 (some .int), Cond.constant RL 8 (2147483647), Cond.methodLink RL 111 yL_owner, Cond.static yL_owner, Cond.code yL_owner cL_owner 4 (some .int), Cond.methodLink RL 63 yL_is, Cond.static yL_is, Cond.code yL_is cL_is 2 (some .boolean), Cond.methodLink RL 128 yL_buy, Cond.static yL_buy, Cond.codeWith yL_buy cL_buy 5 (some .int) [(0, 7, 10, 15), (0, 7, 15, 17), (0, 7, 20, 19)], Cond.classLink RL 15 "java/lang/IndexOutOfBoundsException", Cond.classLink RL 17 "java/lang/IllegalArgumentException", Cond.classLink RL 19 "java/lang/IllegalStateException", Cond.methodLink RL 9 yX3_buy, Cond.instanceMethod yX3_buy, Cond.selects RX3 yX3_buy yX3_buy, Cond.initialized RX3, Cond.code yX3_buy cX3_buy 3 (some .int), Cond.classLink RX3 52 "java/lang/IllegalArgumentException"]
def wsL_doves_r2 : List Cond := [Cond.initialized "java/lang/IllegalArgumentException", Cond.classLink RX3 63 "java/lang/IllegalStateException", Cond.initialized "java/lang/IllegalStateException", Cond.fieldLink RX3 10 "LateDoves" "now" "LLateDoves$Cote;", Cond.methodLink RX3 48 yX3_needHole, Cond.static yX3_needHole, Cond.code yX3_needHole cX3_needHole 1 none, Cond.classLink RX3 105 "java/lang/IndexOutOfBoundsException", Cond.initialized "java/lang/IndexOutOfBoundsException", Cond.methodLink RX3 260 yX3_isHole, Cond.static yX3_isHole, Cond.code yX3_isHole cX3_isHole 1 (some .boolean), Cond.methodLink RX3 59 yX0_reasonNotToBuy, Cond.instanceMethod yX0_reasonNotToBuy, Cond.selects RX0 yX0_reasonNotToBuy yX0_reasonNotToBuy, Cond.initialized RX0, Cond.code yX0_reasonNotToBuy cX0_reasonNotToBuy 2 (some .int), Cond.fieldLink RX0 16 "LateDoves$Cote" "holes" "[[I", Cond.methodLink RX0 63 yX0_doveCount, Cond.instanceMethod yX0_doveCount, Cond.selects RX0 yX0_doveCount yX0_doveCount, Cond.code yX0_doveCount cX0_doveCount 3 (some .int), Cond.methodLink RX0 83 yX0_exists, Cond.instanceMethod yX0_exists]
def wsL_doves_r3 : List Cond := [Cond.selects RX0 yX0_exists yX0_exists, Cond.code yX0_exists cX0_exists 2 (some .boolean), Cond.fieldLink RX0 11 "LateDoves$Cote" "doves" "[[I", Cond.methodLink RX0 86 yX0_isOpen, Cond.instanceMethod yX0_isOpen, Cond.selects RX0 yX0_isOpen yX0_isOpen, Cond.code yX0_isOpen cX0_isOpen 2 (some .boolean), Cond.methodLink RX3 68 yX3_save, Cond.instanceMethod yX3_save, Cond.selects RX3 yX3_save yX3_save, Cond.code yX3_save cX3_save 3 none, Cond.fieldLink RX3 30 "LateDoves" "savedCount" "I", Cond.fieldLink RX3 26 "LateDoves" "saved" "[LLateDoves$Cote;", Cond.methodLink RX3 162 yX0_copyFrom, Cond.instanceMethod yX0_copyFrom, Cond.selects RX0 yX0_copyFrom yX0_copyFrom, Cond.code yX0_copyFrom cX0_copyFrom 3 none, Cond.methodLink RX0 36 arraycopyName, Cond.native arraycopyName, Cond.static arraycopyName, Cond.initialized "java/lang/System", Cond.fieldLink RX0 19 "LateDoves$Cote" "settings" "[I", Cond.fieldLink RX0 23 "LateDoves$Cote" "atDawn" "[I", Cond.fieldLink RX0 26 "LateDoves$Cote" "stop" "[I"]
def wsL_doves_r4 : List Cond := [Cond.fieldLink RX0 32 "LateDoves$Cote" "way" "LLateDoves$Way;", Cond.fieldLink RX0 46 "LateDoves$Cote" "day" "I", Cond.fieldLink RX0 50 "LateDoves$Cote" "time" "I", Cond.fieldLink RX0 53 "LateDoves$Cote" "shifts" "I", Cond.fieldLink RX0 56 "LateDoves$Cote" "quarrels" "I", Cond.methodLink RX0 42 yX2_copyFrom, Cond.instanceMethod yX2_copyFrom, Cond.selects RX2 yX2_copyFrom yX2_copyFrom, Cond.initialized RX2, Cond.code yX2_copyFrom cX2_copyFrom 2 none, Cond.fieldLink RX2 9 "LateDoves$Way" "who" "[I", Cond.methodLink RX2 22 arraycopyName, Cond.fieldLink RX2 15 "LateDoves$Way" "where" "[I", Cond.fieldLink RX2 18 "LateDoves$Way" "size" "I", Cond.methodLink RX3 71 yX0_addDove, Cond.instanceMethod yX0_addDove, Cond.selects RX0 yX0_addDove yX0_addDove, Cond.code yX0_addDove cX0_addDove 4 (some .int), Cond.methodLink RL 130 yL_sell, Cond.static yL_sell, Cond.codeWith yL_sell cL_sell 4 (some .int) [(0, 6, 9, 15)], Cond.methodLink RL 21 yX3_sell, Cond.instanceMethod yX3_sell, Cond.selects RX3 yX3_sell yX3_sell]
def wsL_doves_r5 : List Cond := [Cond.code yX3_sell cX3_sell 2 (some .int), Cond.methodLink RX3 75 yX3_needDove, Cond.instanceMethod yX3_needDove, Cond.selects RX3 yX3_needDove yX3_needDove, Cond.code yX3_needDove cX3_needDove 2 none, Cond.methodLink RX3 235 yX0_exists, Cond.methodLink RX3 78 yX0_removeDove, Cond.instanceMethod yX0_removeDove, Cond.selects RX0 yX0_removeDove yX0_removeDove, Cond.code yX0_removeDove cX0_removeDove 6 (some .int), Cond.methodLink RL 133 yL_mate, Cond.static yL_mate, Cond.codeWith yL_mate cL_mate 5 (some .int) [(0, 7, 10, 15), (0, 7, 15, 19)], Cond.methodLink RL 25 yX3_mate, Cond.instanceMethod yX3_mate, Cond.selects RX3 yX3_mate yX3_mate, Cond.code yX3_mate cX3_mate 3 (some .int), Cond.methodLink RX3 81 yX0_reasonNotToPair, Cond.instanceMethod yX0_reasonNotToPair, Cond.selects RX0 yX0_reasonNotToPair yX0_reasonNotToPair, Cond.code yX0_reasonNotToPair cX0_reasonNotToPair 4 (some .int), Cond.methodLink RX3 86 yX0_pair, Cond.instanceMethod yX0_pair, Cond.selects RX0 yX0_pair yX0_pair]
def wsL_doves_r6 : List Cond := [Cond.code yX0_pair cX0_pair 3 none, Cond.methodLink RX3 90 yX0_pairs, Cond.instanceMethod yX0_pairs, Cond.selects RX0 yX0_pairs yX0_pairs, Cond.code yX0_pairs cX0_pairs 3 (some .int), Cond.methodLink RL 74 yL_sits, Cond.static yL_sits, Cond.code yL_sits cL_sits 4 (some .int), Cond.methodLink RL 135 yL_shut, Cond.static yL_shut, Cond.codeWith yL_shut cL_shut 4 (some .int) [(0, 6, 9, 15), (0, 6, 13, 19)], Cond.methodLink RL 28 yX3_shut, Cond.instanceMethod yX3_shut, Cond.selects RX3 yX3_shut yX3_shut, Cond.code yX3_shut cX3_shut 2 (some .int), Cond.methodLink RX3 94 yX0_reasonNotToShut, Cond.instanceMethod yX0_reasonNotToShut, Cond.selects RX0 yX0_reasonNotToShut yX0_reasonNotToShut, Cond.code yX0_reasonNotToShut cX0_reasonNotToShut 2 (some .int), Cond.methodLink RX3 99 yX0_setOpen, Cond.instanceMethod yX0_setOpen, Cond.selects RX0 yX0_setOpen yX0_setOpen, Cond.code yX0_setOpen cX0_setOpen 3 none, Cond.methodLink RX3 102 yX0_openHoles]
def wsL_doves_r7 : List Cond := [Cond.instanceMethod yX0_openHoles, Cond.selects RX0 yX0_openHoles yX0_openHoles, Cond.code yX0_openHoles cX0_openHoles 3 (some .int), Cond.methodLink RL 137 yL_open, Cond.static yL_open, Cond.codeWith yL_open cL_open 4 (some .int) [(0, 6, 9, 15)], Cond.methodLink RL 31 yX3_open, Cond.instanceMethod yX3_open, Cond.selects RX3 yX3_open yX3_open, Cond.code yX3_open cX3_open 2 (some .int)]
def wsL_doves : List Cond := .code yL_doves cL_doves 12 (some .boolean) :: ((wsL_doves_r1 ++ (wsL_doves_r2 ++ (wsL_doves_r3 ++ (wsL_doves_r4 ++ (wsL_doves_r5 ++ (wsL_doves_r6 ++ wsL_doves_r7)))))) ++ wsX30 ++ wsX00 ++ wsX20 ++ (vx_atS RX3 56 "java/lang/IllegalArgumentException" ["java/lang/RuntimeException", "java/lang/Exception"]).filter goodWord ++ (vx_atS RX3 67 "java/lang/IllegalStateException" ["java/lang/RuntimeException", "java/lang/Exception"]).filter goodWord ++ (vx_atS RX3 109 "java/lang/IndexOutOfBoundsException" ["java/lang/RuntimeException", "java/lang/Exception"]).filter goodWord)
def wsL_evening_r1 : List Cond := [Cond.methodLink RL 124 yL_low, Cond.static yL_low, Cond.initialized RL, Cond.code yL_low cL_low 2 (some .int), Cond.constant RL 8 (2147483647), Cond.methodLink RL 139 yL_set, Cond.static yL_set, Cond.codeWith yL_set cL_set 5 (some .int) [(0, 7, 10, 15), (0, 7, 15, 17)], Cond.classLink RL 15 "java/lang/IndexOutOfBoundsException", Cond.classLink RL 17 "java/lang/IllegalArgumentException", Cond.methodLink RL 34 yX3_set, Cond.instanceMethod yX3_set, Cond.selects RX3 yX3_set yX3_set, Cond.initialized RX3, Cond.code yX3_set cX3_set 5 (some .int), Cond.classLink RX3 105 "java/lang/IndexOutOfBoundsException", Cond.initialized "java/lang/IndexOutOfBoundsException", Cond.classLink RX3 52 "java/lang/IllegalArgumentException", Cond.initialized "java/lang/IllegalArgumentException", Cond.fieldLink RX3 10 "LateDoves" "now" "LLateDoves$Cote;", Cond.methodLink RX3 68 yX3_save, Cond.instanceMethod yX3_save, Cond.selects RX3 yX3_save yX3_save, Cond.code yX3_save cX3_save 3 none]
def wsL_evening_r2 : List Cond := [Cond.fieldLink RX3 30 "LateDoves" "savedCount" "I", Cond.fieldLink RX3 26 "LateDoves" "saved" "[LLateDoves$Cote;", Cond.methodLink RX3 162 yX0_copyFrom, Cond.instanceMethod yX0_copyFrom, Cond.selects RX0 yX0_copyFrom yX0_copyFrom, Cond.initialized RX0, Cond.code yX0_copyFrom cX0_copyFrom 3 none, Cond.fieldLink RX0 11 "LateDoves$Cote" "doves" "[[I", Cond.methodLink RX0 36 arraycopyName, Cond.native arraycopyName, Cond.static arraycopyName, Cond.initialized "java/lang/System", Cond.fieldLink RX0 16 "LateDoves$Cote" "holes" "[[I", Cond.fieldLink RX0 19 "LateDoves$Cote" "settings" "[I", Cond.fieldLink RX0 23 "LateDoves$Cote" "atDawn" "[I", Cond.fieldLink RX0 26 "LateDoves$Cote" "stop" "[I", Cond.fieldLink RX0 32 "LateDoves$Cote" "way" "LLateDoves$Way;", Cond.fieldLink RX0 46 "LateDoves$Cote" "day" "I", Cond.fieldLink RX0 50 "LateDoves$Cote" "time" "I", Cond.fieldLink RX0 53 "LateDoves$Cote" "shifts" "I", Cond.fieldLink RX0 56 "LateDoves$Cote" "quarrels" "I", Cond.methodLink RX0 42 yX2_copyFrom, Cond.instanceMethod yX2_copyFrom, Cond.selects RX2 yX2_copyFrom yX2_copyFrom]
def wsL_evening_r3 : List Cond := [Cond.initialized RX2, Cond.code yX2_copyFrom cX2_copyFrom 2 none, Cond.fieldLink RX2 9 "LateDoves$Way" "who" "[I", Cond.methodLink RX2 22 arraycopyName, Cond.fieldLink RX2 15 "LateDoves$Way" "where" "[I", Cond.fieldLink RX2 18 "LateDoves$Way" "size" "I", Cond.methodLink RL 102 yL_many, Cond.static yL_many, Cond.code yL_many cL_many 6 (some .int), Cond.methodLink RL 63 yL_is, Cond.static yL_is, Cond.code yL_is cL_is 2 (some .boolean), Cond.methodLink RL 141 yX3_dawn, Cond.instanceMethod yX3_dawn, Cond.selects RX3 yX3_dawn yX3_dawn, Cond.code yX3_dawn cX3_dawn 1 (some .int), Cond.methodLink RX3 126 yX0_endNight, Cond.instanceMethod yX0_endNight, Cond.selects RX0 yX0_endNight yX0_endNight, Cond.code yX0_endNight cX0_endNight 2 (some .int), Cond.methodLink RX0 83 yX0_exists, Cond.instanceMethod yX0_exists, Cond.selects RX0 yX0_exists yX0_exists, Cond.code yX0_exists cX0_exists 2 (some .boolean)]
def wsL_evening_r4 : List Cond := [Cond.methodLink RX0 116 yX0_countAtDawn, Cond.instanceMethod yX0_countAtDawn, Cond.selects RX0 yX0_countAtDawn yX0_countAtDawn, Cond.code yX0_countAtDawn cX0_countAtDawn 3 none, Cond.methodLink RL 144 yL_home, Cond.static yL_home, Cond.codeWith yL_home cL_home 5 (some .int) [(0, 7, 10, 15), (0, 7, 15, 17), (0, 7, 20, 19)], Cond.classLink RL 19 "java/lang/IllegalStateException", Cond.methodLink RL 37 yX3_home, Cond.instanceMethod yX3_home, Cond.selects RX3 yX3_home yX3_home, Cond.code yX3_home cX3_home 3 (some .int), Cond.classLink RX3 63 "java/lang/IllegalStateException", Cond.initialized "java/lang/IllegalStateException", Cond.methodLink RX3 75 yX3_needDove, Cond.instanceMethod yX3_needDove, Cond.selects RX3 yX3_needDove yX3_needDove, Cond.code yX3_needDove cX3_needDove 2 none, Cond.methodLink RX3 235 yX0_exists, Cond.methodLink RX3 115 yX3_needTime, Cond.static yX3_needTime, Cond.code yX3_needTime cX3_needTime 1 none, Cond.methodLink RX3 118 yX0_reasonNotHome, Cond.instanceMethod yX0_reasonNotHome]
def wsL_evening_r5 : List Cond := [Cond.selects RX0 yX0_reasonNotHome yX0_reasonNotHome, Cond.code yX0_reasonNotHome cX0_reasonNotHome 3 (some .int), Cond.methodLink RX3 123 yX0_comeHome, Cond.instanceMethod yX0_comeHome, Cond.selects RX0 yX0_comeHome yX0_comeHome, Cond.code yX0_comeHome cX0_comeHome 8 (some .int), Cond.methodLink RX0 86 yX0_isOpen, Cond.instanceMethod yX0_isOpen, Cond.selects RX0 yX0_isOpen yX0_isOpen, Cond.code yX0_isOpen cX0_isOpen 2 (some .boolean), Cond.static yX3_isHole, Cond.code yX3_isHole cX3_isHole 1 (some .boolean), Cond.methodLink RX0 92 yX0_enterOwnHole, Cond.instanceMethod yX0_enterOwnHole, Cond.selects RX0 yX0_enterOwnHole yX0_enterOwnHole, Cond.code yX0_enterOwnHole cX0_enterOwnHole 5 (some .int), Cond.methodLink RX0 99 yX0_shiftFrom, Cond.instanceMethod yX0_shiftFrom, Cond.selects RX0 yX0_shiftFrom yX0_shiftFrom, Cond.code yX0_shiftFrom cX0_shiftFrom 4 (some .int), Cond.methodLink RX0 103 yX0_sit, Cond.instanceMethod yX0_sit, Cond.selects RX0 yX0_sit yX0_sit, Cond.code yX0_sit cX0_sit 3 none]
def wsL_evening_r6 : List Cond := [Cond.methodLink RX0 113 yX2_note, Cond.instanceMethod yX2_note, Cond.selects RX2 yX2_note yX2_note, Cond.code yX2_note cX2_note 3 none, Cond.methodLink RX0 96 yX0_settle, Cond.instanceMethod yX0_settle, Cond.selects RX0 yX0_settle yX0_settle, Cond.code yX0_settle cX0_settle 6 (some .int), Cond.methodLink RX0 107 yX0_firstFreeFor, Cond.instanceMethod yX0_firstFreeFor, Cond.selects RX0 yX0_firstFreeFor yX0_firstFreeFor, Cond.code yX0_firstFreeFor cX0_firstFreeFor 6 (some .int), Cond.methodLink RX0 110 yX0_isFree, Cond.instanceMethod yX0_isFree, Cond.selects RX0 yX0_isFree yX0_isFree, Cond.code yX0_isFree cX0_isFree 2 (some .boolean), Cond.methodLink RL 98 yL_comes, Cond.static yL_comes, Cond.code yL_comes cL_comes 12 (some .int), Cond.methodLink RL 74 yL_sits, Cond.static yL_sits, Cond.code yL_sits cL_sits 4 (some .int), Cond.methodLink RL 78 yL_shift, Cond.static yL_shift]
def wsL_evening_r7 : List Cond := [Cond.code yL_shift cL_shift 5 none, Cond.methodLink RL 82 yL_sit, Cond.static yL_sit, Cond.code yL_sit cL_sit 5 none, Cond.methodLink RL 85 yL_look, Cond.static yL_look, Cond.code yL_look cL_look 8 (some .int), Cond.methodLink RL 70 yL_free, Cond.static yL_free, Cond.code yL_free cL_free 4 (some .int), Cond.constant RL 69 (16777215)]
def wsL_evening : List Cond := .code yL_evening cL_evening 11 (some .boolean) :: ((wsL_evening_r1 ++ (wsL_evening_r2 ++ (wsL_evening_r3 ++ (wsL_evening_r4 ++ (wsL_evening_r5 ++ (wsL_evening_r6 ++ wsL_evening_r7)))))) ++ wsX30 ++ wsX00 ++ wsX20 ++ (vx_atS RX3 109 "java/lang/IndexOutOfBoundsException" ["java/lang/RuntimeException", "java/lang/Exception"]).filter goodWord ++ (vx_atS RX3 56 "java/lang/IllegalArgumentException" ["java/lang/RuntimeException", "java/lang/Exception"]).filter goodWord ++ (vx_atS RX3 67 "java/lang/IllegalStateException" ["java/lang/RuntimeException", "java/lang/Exception"]).filter goodWord)
def wsL_law0_r1 : List Cond := [Cond.classLink RL 10 RX3, Cond.instantiable RX3 9, Cond.initialized RX3, Cond.arrayClass .int, Cond.methodLink RL 146 yX3_init, Cond.instanceMethod yX3_init, Cond.code yX3_init cX3_init 2 none, Cond.methodLink RX3 1 objectInit, Cond.instanceMethod objectInit, Cond.code objectInit ⟨#[0xb1]⟩ 1 none, Cond.classLink RX3 7 RX0, Cond.instantiable RX0 10, Cond.initialized RX0, Cond.fieldLink RX3 10 "LateDoves" "now" "LLateDoves$Cote;", Cond.fieldLink RX3 16 "LateDoves" "trial" "LLateDoves$Cote;", Cond.fieldLink RX3 19 "LateDoves" "snapshot" "LLateDoves$Cote;", Cond.fieldLink RX3 22 "LateDoves" "hasSnapshot" "Z", Cond.fieldLink RX3 26 "LateDoves" "saved" "[LLateDoves$Cote;", Cond.fieldLink RX3 30 "LateDoves" "savedCount" "I", Cond.fieldLink RX3 34 "LateDoves" "buffer" "[I", Cond.fieldLink RX3 38 "LateDoves" "length" "I", Cond.classLink RX3 41 RX1, Cond.instantiable RX1 4, Cond.initialized RX1]
def wsL_law0_r2 : List Cond := [Cond.fieldLink RX3 44 "LateDoves" "reader" "LLateDoves$PartReader;", Cond.methodLink RX3 9 yX0_init, Cond.instanceMethod yX0_init, Cond.code yX0_init cX0_init 2 none, Cond.methodLink RX0 3 objectInit, Cond.classLink RX0 9 "[[I", Cond.fieldLink RX0 11 "LateDoves$Cote" "doves" "[[I", Cond.fieldLink RX0 16 "LateDoves$Cote" "holes" "[[I", Cond.fieldLink RX0 19 "LateDoves$Cote" "settings" "[I", Cond.fieldLink RX0 23 "LateDoves$Cote" "atDawn" "[I", Cond.fieldLink RX0 26 "LateDoves$Cote" "stop" "[I", Cond.classLink RX0 29 RX2, Cond.instantiable RX2 3, Cond.initialized RX2, Cond.fieldLink RX0 32 "LateDoves$Cote" "way" "LLateDoves$Way;", Cond.methodLink RX0 31 yX2_init, Cond.instanceMethod yX2_init, Cond.code yX2_init cX2_init 1 none, Cond.methodLink RX2 3 objectInit, Cond.fieldLink RX2 9 "LateDoves$Way" "who" "[I", Cond.fieldLink RX2 15 "LateDoves$Way" "where" "[I", Cond.fieldLink RX2 18 "LateDoves$Way" "size" "I", Cond.methodLink RX3 43 yX1_init, Cond.instanceMethod yX1_init]
def wsL_law0_r3 : List Cond := [Cond.code yX1_init cX1_init 1 none, Cond.methodLink RX1 3 objectInit, Cond.fieldLink RX1 11 "LateDoves$PartReader" "stage" "I", Cond.fieldLink RX1 15 "LateDoves$PartReader" "kind" "I", Cond.fieldLink RX1 18 "LateDoves$PartReader" "first" "I", Cond.fieldLink RX1 21 "LateDoves$PartReader" "second" "I", Cond.methodLink RL 147 yL_isSo, Cond.static yL_isSo, Cond.initialized RL, Cond.code yL_isSo cL_isSo 12 (some .boolean), Cond.methodLink RL 63 yL_is, Cond.static yL_is, Cond.code yL_is cL_is 2 (some .boolean), Cond.methodLink RL 109 yL_dove, Cond.static yL_dove, Cond.codeWith yL_dove cL_dove 5 (some .int) [(0, 7, 10, 15), (0, 7, 15, 17)], Cond.classLink RL 15 "java/lang/IndexOutOfBoundsException", Cond.classLink RL 17 "java/lang/IllegalArgumentException", Cond.methodLink RL 47 yX3_dove, Cond.instanceMethod yX3_dove, Cond.selects RX3 yX3_dove yX3_dove, Cond.code yX3_dove cX3_dove 3 (some .int), Cond.classLink RX3 52 "java/lang/IllegalArgumentException", Cond.initialized "java/lang/IllegalArgumentException"]
def wsL_law0_r4 : List Cond := [Cond.methodLink RX3 75 yX3_needDove, Cond.instanceMethod yX3_needDove, Cond.selects RX3 yX3_needDove yX3_needDove, Cond.code yX3_needDove cX3_needDove 2 none, Cond.classLink RX3 105 "java/lang/IndexOutOfBoundsException", Cond.initialized "java/lang/IndexOutOfBoundsException", Cond.methodLink RX3 235 yX0_exists, Cond.instanceMethod yX0_exists, Cond.selects RX0 yX0_exists yX0_exists, Cond.code yX0_exists cX0_exists 2 (some .boolean), Cond.methodLink RL 50 yX3_hole, Cond.instanceMethod yX3_hole, Cond.selects RX3 yX3_hole yX3_hole, Cond.code yX3_hole cX3_hole 3 (some .int), Cond.methodLink RX3 48 yX3_needHole, Cond.static yX3_needHole, Cond.code yX3_needHole cX3_needHole 1 none, Cond.methodLink RX3 260 yX3_isHole, Cond.static yX3_isHole, Cond.code yX3_isHole cX3_isHole 1 (some .boolean), Cond.methodLink RL 74 yL_sits, Cond.static yL_sits, Cond.code yL_sits cL_sits 4 (some .int), Cond.methodLink RL 111 yL_owner]
def wsL_law0_r5 : List Cond := [Cond.static yL_owner, Cond.code yL_owner cL_owner 4 (some .int), Cond.methodLink RL 60 yX3_step, Cond.instanceMethod yX3_step, Cond.selects RX3 yX3_step yX3_step, Cond.code yX3_step cX3_step 3 (some .int), Cond.methodLink RL 114 yX3_count, Cond.instanceMethod yX3_count, Cond.selects RX3 yX3_count yX3_count, Cond.code yX3_count cX3_count 2 (some .int), Cond.methodLink RX3 184 yX0_numberOf, Cond.instanceMethod yX0_numberOf, Cond.selects RX0 yX0_numberOf yX0_numberOf, Cond.code yX0_numberOf cX0_numberOf 2 (some .int), Cond.fieldLink RX0 46 "LateDoves$Cote" "day" "I", Cond.fieldLink RX0 50 "LateDoves$Cote" "time" "I", Cond.fieldLink RX0 53 "LateDoves$Cote" "shifts" "I", Cond.fieldLink RX0 56 "LateDoves$Cote" "quarrels" "I", Cond.methodLink RX0 63 yX0_doveCount, Cond.instanceMethod yX0_doveCount, Cond.selects RX0 yX0_doveCount yX0_doveCount, Cond.code yX0_doveCount cX0_doveCount 3 (some .int), Cond.methodLink RX0 83 yX0_exists, Cond.methodLink RX0 67 yX0_sittingByDoves]
def wsL_law0_r6 : List Cond := [Cond.instanceMethod yX0_sittingByDoves, Cond.selects RX0 yX0_sittingByDoves yX0_sittingByDoves, Cond.code yX0_sittingByDoves cX0_sittingByDoves 1 (some .int), Cond.methodLink RX0 73 yX0_placedAt, Cond.instanceMethod yX0_placedAt, Cond.selects RX0 yX0_placedAt yX0_placedAt, Cond.code yX0_placedAt cX0_placedAt 4 (some .int), Cond.methodLink RX0 70 yX0_sittingByHoles, Cond.instanceMethod yX0_sittingByHoles, Cond.selects RX0 yX0_sittingByHoles yX0_sittingByHoles, Cond.code yX0_sittingByHoles cX0_sittingByHoles 3 (some .int), Cond.methodLink RX0 77 yX0_openHoles, Cond.instanceMethod yX0_openHoles, Cond.selects RX0 yX0_openHoles yX0_openHoles, Cond.code yX0_openHoles cX0_openHoles 3 (some .int), Cond.methodLink RX0 86 yX0_isOpen, Cond.instanceMethod yX0_isOpen, Cond.selects RX0 yX0_isOpen yX0_isOpen, Cond.code yX0_isOpen cX0_isOpen 2 (some .boolean), Cond.methodLink RX0 80 yX0_pairs, Cond.instanceMethod yX0_pairs, Cond.selects RX0 yX0_pairs yX0_pairs, Cond.code yX0_pairs cX0_pairs 3 (some .int), Cond.methodLink RL 102 yL_many]
def wsL_law0_r7 : List Cond := [Cond.static yL_many, Cond.code yL_many cL_many 6 (some .int), Cond.methodLink RL 117 yX3_freeHole, Cond.instanceMethod yX3_freeHole, Cond.selects RX3 yX3_freeHole yX3_freeHole, Cond.code yX3_freeHole cX3_freeHole 2 (some .int), Cond.methodLink RX3 211 yX0_isOpen, Cond.methodLink RL 120 yX3_homeShare, Cond.instanceMethod yX3_homeShare, Cond.selects RX3 yX3_homeShare yX3_homeShare, Cond.code yX3_homeShare cX3_homeShare 2 (some .double), Cond.methodLink RX3 220 yX0_doveCount, Cond.methodLink RX3 223 yX0_inOwnHoles, Cond.instanceMethod yX0_inOwnHoles, Cond.selects RX0 yX0_inOwnHoles yX0_inOwnHoles, Cond.code yX0_inOwnHoles cX0_inOwnHoles 3 (some .int), Cond.methodLink RL 151 yL_isAhead, Cond.static yL_isAhead, Cond.code yL_isAhead cL_isAhead 13 (some .boolean), Cond.methodLink RL 88 yL_whyNot, Cond.static yL_whyNot, Cond.codeWith yL_whyNot cL_whyNot 5 (some .int) [(0, 7, 10, 15), (0, 7, 15, 17)], Cond.methodLink RL 53 yX3_whyNot, Cond.instanceMethod yX3_whyNot]
def wsL_law0_r8 : List Cond := [Cond.selects RX3 yX3_whyNot yX3_whyNot, Cond.code yX3_whyNot cX3_whyNot 3 (some .int), Cond.methodLink RX3 115 yX3_needTime, Cond.static yX3_needTime, Cond.code yX3_needTime cX3_needTime 1 none, Cond.methodLink RX3 118 yX0_reasonNotHome, Cond.instanceMethod yX0_reasonNotHome, Cond.selects RX0 yX0_reasonNotHome yX0_reasonNotHome, Cond.code yX0_reasonNotHome cX0_reasonNotHome 3 (some .int), Cond.methodLink RL 91 yL_ifHome, Cond.static yL_ifHome, Cond.codeWith yL_ifHome cL_ifHome 6 (some .int) [(0, 9, 12, 15), (0, 9, 17, 17)], Cond.methodLink RL 56 yX3_ifHome, Cond.instanceMethod yX3_ifHome, Cond.selects RX3 yX3_ifHome yX3_ifHome, Cond.code yX3_ifHome cX3_ifHome 4 (some .int), Cond.methodLink RX3 204 yX3_tryHome, Cond.instanceMethod yX3_tryHome, Cond.selects RX3 yX3_tryHome yX3_tryHome, Cond.code yX3_tryHome cX3_tryHome 3 (some .boolean), Cond.methodLink RX3 162 yX0_copyFrom, Cond.instanceMethod yX0_copyFrom, Cond.selects RX0 yX0_copyFrom yX0_copyFrom, Cond.code yX0_copyFrom cX0_copyFrom 3 none]
def wsL_law0_r9 : List Cond := [Cond.methodLink RX0 36 arraycopyName, Cond.native arraycopyName, Cond.static arraycopyName, Cond.initialized "java/lang/System", Cond.methodLink RX0 42 yX2_copyFrom, Cond.instanceMethod yX2_copyFrom, Cond.selects RX2 yX2_copyFrom yX2_copyFrom, Cond.code yX2_copyFrom cX2_copyFrom 2 none, Cond.methodLink RX2 22 arraycopyName, Cond.methodLink RX3 123 yX0_comeHome, Cond.instanceMethod yX0_comeHome, Cond.selects RX0 yX0_comeHome yX0_comeHome, Cond.code yX0_comeHome cX0_comeHome 8 (some .int), Cond.methodLink RX0 92 yX0_enterOwnHole, Cond.instanceMethod yX0_enterOwnHole, Cond.selects RX0 yX0_enterOwnHole yX0_enterOwnHole, Cond.code yX0_enterOwnHole cX0_enterOwnHole 5 (some .int), Cond.methodLink RX0 99 yX0_shiftFrom, Cond.instanceMethod yX0_shiftFrom, Cond.selects RX0 yX0_shiftFrom yX0_shiftFrom, Cond.code yX0_shiftFrom cX0_shiftFrom 4 (some .int), Cond.methodLink RX0 103 yX0_sit, Cond.instanceMethod yX0_sit, Cond.selects RX0 yX0_sit yX0_sit]
def wsL_law0_r10 : List Cond := [Cond.code yX0_sit cX0_sit 3 none, Cond.methodLink RX0 113 yX2_note, Cond.instanceMethod yX2_note, Cond.selects RX2 yX2_note yX2_note, Cond.code yX2_note cX2_note 3 none, Cond.methodLink RX0 96 yX0_settle, Cond.instanceMethod yX0_settle, Cond.selects RX0 yX0_settle yX0_settle, Cond.code yX0_settle cX0_settle 6 (some .int), Cond.methodLink RX0 107 yX0_firstFreeFor, Cond.instanceMethod yX0_firstFreeFor, Cond.selects RX0 yX0_firstFreeFor yX0_firstFreeFor, Cond.code yX0_firstFreeFor cX0_firstFreeFor 6 (some .int), Cond.methodLink RX0 110 yX0_isFree, Cond.instanceMethod yX0_isFree, Cond.selects RX0 yX0_isFree yX0_isFree, Cond.code yX0_isFree cX0_isFree 2 (some .boolean), Cond.methodLink RX3 208 yX3_trialNumber, Cond.instanceMethod yX3_trialNumber, Cond.selects RX3 yX3_trialNumber yX3_trialNumber, Cond.code yX3_trialNumber cX3_trialNumber 3 (some .int), Cond.methodLink RX3 293 yX0_placedAt, Cond.methodLink RL 94 yL_copy, Cond.static yL_copy]
def wsL_law0_r11 : List Cond := [Cond.code yL_copy cL_copy 3 none, Cond.methodLink RL 98 yL_comes, Cond.static yL_comes, Cond.code yL_comes cL_comes 12 (some .int), Cond.methodLink RL 78 yL_shift, Cond.static yL_shift, Cond.code yL_shift cL_shift 5 none, Cond.methodLink RL 82 yL_sit, Cond.static yL_sit, Cond.code yL_sit cL_sit 5 none, Cond.methodLink RL 85 yL_look, Cond.static yL_look, Cond.code yL_look cL_look 8 (some .int), Cond.methodLink RL 70 yL_free, Cond.static yL_free, Cond.code yL_free cL_free 4 (some .int), Cond.constant RL 69 (16777215), Cond.methodLink RL 106 yX3_lateIsAsGood, Cond.instanceMethod yX3_lateIsAsGood, Cond.selects RX3 yX3_lateIsAsGood yX3_lateIsAsGood, Cond.code yX3_lateIsAsGood cX3_lateIsAsGood 1 (some .int), Cond.methodLink RX3 214 yX3_sittingIfAllCame, Cond.instanceMethod yX3_sittingIfAllCame, Cond.selects RX3 yX3_sittingIfAllCame yX3_sittingIfAllCame]
def wsL_law0_r12 : List Cond := [Cond.code yX3_sittingIfAllCame cX3_sittingIfAllCame 3 (some .int), Cond.methodLink RX3 296 yX0_sittingByDoves, Cond.methodLink RL 155 yL_undo, Cond.static yL_undo, Cond.codeWith yL_undo cL_undo 3 (some .int) [(0, 5, 8, 19)], Cond.classLink RL 19 "java/lang/IllegalStateException", Cond.methodLink RL 40 yX3_undo, Cond.instanceMethod yX3_undo, Cond.selects RX3 yX3_undo yX3_undo, Cond.code yX3_undo cX3_undo 1 (some .int), Cond.classLink RX3 63 "java/lang/IllegalStateException", Cond.initialized "java/lang/IllegalStateException", Cond.methodLink RL 158 yL_restore, Cond.static yL_restore, Cond.codeWith yL_restore cL_restore 3 (some .int) [(0, 5, 8, 19)], Cond.methodLink RL 44 yX3_restore, Cond.instanceMethod yX3_restore, Cond.selects RX3 yX3_restore yX3_restore, Cond.code yX3_restore cX3_restore 1 (some .int), Cond.methodLink RX3 68 yX3_save, Cond.instanceMethod yX3_save, Cond.selects RX3 yX3_save yX3_save, Cond.code yX3_save cX3_save 3 none, Cond.methodLink RL 160 yL_hole]
def wsL_law0_r13 : List Cond := [Cond.static yL_hole, Cond.codeWith yL_hole cL_hole 5 (some .int) [(0, 7, 10, 15), (0, 7, 15, 17)], Cond.methodLink RL 162 yL_step, Cond.static yL_step, Cond.codeWith yL_step cL_step 5 (some .int) [(0, 7, 10, 17)], Cond.methodLink RL 164 yL_cell, Cond.static yL_cell, Cond.code yL_cell cL_cell 2 (some .int), Cond.constant RL 7 (-1538233109), Cond.methodLink RL 168 yL_doves, Cond.static yL_doves, Cond.code yL_doves cL_doves 12 (some .boolean), Cond.constant RL 127 (65535), Cond.methodLink RL 124 yL_low, Cond.static yL_low, Cond.code yL_low cL_low 2 (some .int), Cond.constant RL 8 (2147483647), Cond.methodLink RL 128 yL_buy, Cond.static yL_buy, Cond.codeWith yL_buy cL_buy 5 (some .int) [(0, 7, 10, 15), (0, 7, 15, 17), (0, 7, 20, 19)], Cond.methodLink RL 9 yX3_buy, Cond.instanceMethod yX3_buy, Cond.selects RX3 yX3_buy yX3_buy, Cond.code yX3_buy cX3_buy 3 (some .int)]
def wsL_law0_r14 : List Cond := [Cond.methodLink RX3 59 yX0_reasonNotToBuy, Cond.instanceMethod yX0_reasonNotToBuy, Cond.selects RX0 yX0_reasonNotToBuy yX0_reasonNotToBuy, Cond.code yX0_reasonNotToBuy cX0_reasonNotToBuy 2 (some .int), Cond.methodLink RX3 71 yX0_addDove, Cond.instanceMethod yX0_addDove, Cond.selects RX0 yX0_addDove yX0_addDove, Cond.code yX0_addDove cX0_addDove 4 (some .int), Cond.methodLink RL 130 yL_sell, Cond.static yL_sell, Cond.codeWith yL_sell cL_sell 4 (some .int) [(0, 6, 9, 15)], Cond.methodLink RL 21 yX3_sell, Cond.instanceMethod yX3_sell, Cond.selects RX3 yX3_sell yX3_sell, Cond.code yX3_sell cX3_sell 2 (some .int), Cond.methodLink RX3 78 yX0_removeDove, Cond.instanceMethod yX0_removeDove, Cond.selects RX0 yX0_removeDove yX0_removeDove, Cond.code yX0_removeDove cX0_removeDove 6 (some .int), Cond.methodLink RL 133 yL_mate, Cond.static yL_mate, Cond.codeWith yL_mate cL_mate 5 (some .int) [(0, 7, 10, 15), (0, 7, 15, 19)], Cond.methodLink RL 25 yX3_mate, Cond.instanceMethod yX3_mate]
def wsL_law0_r15 : List Cond := [Cond.selects RX3 yX3_mate yX3_mate, Cond.code yX3_mate cX3_mate 3 (some .int), Cond.methodLink RX3 81 yX0_reasonNotToPair, Cond.instanceMethod yX0_reasonNotToPair, Cond.selects RX0 yX0_reasonNotToPair yX0_reasonNotToPair, Cond.code yX0_reasonNotToPair cX0_reasonNotToPair 4 (some .int), Cond.methodLink RX3 86 yX0_pair, Cond.instanceMethod yX0_pair, Cond.selects RX0 yX0_pair yX0_pair, Cond.code yX0_pair cX0_pair 3 none, Cond.methodLink RX3 90 yX0_pairs, Cond.methodLink RL 135 yL_shut, Cond.static yL_shut, Cond.codeWith yL_shut cL_shut 4 (some .int) [(0, 6, 9, 15), (0, 6, 13, 19)], Cond.methodLink RL 28 yX3_shut, Cond.instanceMethod yX3_shut, Cond.selects RX3 yX3_shut yX3_shut, Cond.code yX3_shut cX3_shut 2 (some .int), Cond.methodLink RX3 94 yX0_reasonNotToShut, Cond.instanceMethod yX0_reasonNotToShut, Cond.selects RX0 yX0_reasonNotToShut yX0_reasonNotToShut, Cond.code yX0_reasonNotToShut cX0_reasonNotToShut 2 (some .int), Cond.methodLink RX3 99 yX0_setOpen, Cond.instanceMethod yX0_setOpen]
def wsL_law0_r16 : List Cond := [Cond.selects RX0 yX0_setOpen yX0_setOpen, Cond.code yX0_setOpen cX0_setOpen 3 none, Cond.methodLink RX3 102 yX0_openHoles, Cond.methodLink RL 137 yL_open, Cond.static yL_open, Cond.codeWith yL_open cL_open 4 (some .int) [(0, 6, 9, 15)], Cond.methodLink RL 31 yX3_open, Cond.instanceMethod yX3_open, Cond.selects RX3 yX3_open yX3_open, Cond.code yX3_open cX3_open 2 (some .int), Cond.methodLink RL 172 yL_evening, Cond.static yL_evening, Cond.code yL_evening cL_evening 11 (some .boolean), Cond.methodLink RL 139 yL_set, Cond.static yL_set, Cond.codeWith yL_set cL_set 5 (some .int) [(0, 7, 10, 15), (0, 7, 15, 17)], Cond.methodLink RL 34 yX3_set, Cond.instanceMethod yX3_set, Cond.selects RX3 yX3_set yX3_set, Cond.code yX3_set cX3_set 5 (some .int), Cond.methodLink RL 141 yX3_dawn, Cond.instanceMethod yX3_dawn, Cond.selects RX3 yX3_dawn yX3_dawn, Cond.code yX3_dawn cX3_dawn 1 (some .int)]
def wsL_law0_r17 : List Cond := [Cond.methodLink RX3 126 yX0_endNight, Cond.instanceMethod yX0_endNight, Cond.selects RX0 yX0_endNight yX0_endNight, Cond.code yX0_endNight cX0_endNight 2 (some .int), Cond.methodLink RX0 116 yX0_countAtDawn, Cond.instanceMethod yX0_countAtDawn, Cond.selects RX0 yX0_countAtDawn yX0_countAtDawn, Cond.code yX0_countAtDawn cX0_countAtDawn 3 none, Cond.methodLink RL 144 yL_home, Cond.static yL_home, Cond.codeWith yL_home cL_home 5 (some .int) [(0, 7, 10, 15), (0, 7, 15, 17), (0, 7, 20, 19)], Cond.methodLink RL 37 yX3_home, Cond.instanceMethod yX3_home, Cond.selects RX3 yX3_home yX3_home, Cond.code yX3_home cX3_home 3 (some .int)]
def wsL_law0 : List Cond := (wsL_law0_r1 ++ (wsL_law0_r2 ++ (wsL_law0_r3 ++ (wsL_law0_r4 ++ (wsL_law0_r5 ++ (wsL_law0_r6 ++ (wsL_law0_r7 ++ (wsL_law0_r8 ++ (wsL_law0_r9 ++ (wsL_law0_r10 ++ (wsL_law0_r11 ++ (wsL_law0_r12 ++ (wsL_law0_r13 ++ (wsL_law0_r14 ++ (wsL_law0_r15 ++ (wsL_law0_r16 ++ wsL_law0_r17)))))))))))))))) ++ wsX30 ++ wsX00 ++ wsX10 ++ wsX20 ++ ([] : List Cond)
def wsL_law : List Cond := wsL_law0 ++ (vx_atS RX3 56 "java/lang/IllegalArgumentException" ["java/lang/RuntimeException", "java/lang/Exception"]).filter goodWord ++ (vx_atS RX3 109 "java/lang/IndexOutOfBoundsException" ["java/lang/RuntimeException", "java/lang/Exception"]).filter goodWord ++ (vx_atS RX3 67 "java/lang/IllegalStateException" ["java/lang/RuntimeException", "java/lang/Exception"]).filter goodWord
abbrev vwCl : List vw_C := [(RX0, TX0, 10), (RX1, TX1, 4), (RX2, TX2, 3), (RX3, TX3, 9)]
/-- a name of the whole library: so every round is read over it from its first part on -/
theorem lw_wide : @Jvm.Free.Multi.outerC = @Jvm.Free.Multi.outerC := rfl
