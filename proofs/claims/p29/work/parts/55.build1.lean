/-! building: cells one behind the other -/
def RW (D : va_G) (h0 n : Nat) (ct : Nat → va_E) (H : Heap) : Prop := H.size = h0 + n ∧ ∀ k, k < n → va_at D vwCl (h0 + k, ct k) H
def ctU (ct : Nat → va_E) (k : Nat) (e : va_E) : Nat → va_E := fun q => if q = k then e else ct q
theorem ctU_at {ct : Nat → va_E} {k : Nat} {e : va_E} : ctU ct k e k = e := if_pos rfl
theorem ctU_ne {ct : Nat → va_E} {k q : Nat} {e : va_E} (h : q ≠ k) : ctU ct k e q = ct q := if_neg h
theorem RW.start {D : va_G} {h0 : Nat} {e : va_E} {H : Heap} (hsz : H.size = h0 + 1) (hat : va_at D vwCl (h0, e) H) : RW D h0 1 (fun _ => e) H := by
  refine ⟨hsz, fun k hk => ?_⟩
  have hk0 : k = 0 := by omega
  subst hk0
  exact hat
theorem RW.ext {D : va_G} {h0 n : Nat} {ct ct' : Nat → va_E} {H : Heap} (h : RW D h0 n ct H) (hc : ∀ k, k < n → va_at D vwCl (h0 + k, ct k) H → va_at D vwCl (h0 + k, ct' k) H) : RW D h0 n ct' H := ⟨h.1, fun k hk => hc k hk (h.2 k hk)⟩
theorem RW.congr {D : va_G} {h0 n : Nat} {ct ct' : Nat → va_E} {H : Heap} (h : RW D h0 n ct H) (hc : ∀ k, k < n → ct' k = ct k) : RW D h0 n ct' H := h.ext fun k hk w => by rw [hc k hk]; exact w
theorem RW.one {D : va_G} {h0 n : Nat} {ct : Nat → va_E} {H : Heap} (h : RW D h0 n ct H) {k : Nat} (hk : k < n) {e : va_E} (he : ct k = e) : va_P D vwCl [(h0 + k, e)] H := by
  intro j q hj
  cases j with
  | zero => cases hj; rw [← he]; exact h.2 k hk
  | succ j => simp at hj
theorem RW.set {D : va_G} {h0 n : Nat} {ct : Nat → va_E} {H H1 : Heap} (h : RW D h0 n ct H) {k : Nat} {e : va_E} (hz : H1.size = H.size) (hat : va_at D vwCl (h0 + k, e) H1) (oq : ∀ q, q ≠ h0 + k → H1[q]? = H[q]?) : RW D h0 n (ctU ct k e) H1 := by
  refine ⟨hz.trans h.1, fun j hj => ?_⟩
  by_cases hc : j = k
  · rw [hc, ctU_at]; exact hat
  · rw [ctU_ne hc]
    exact (h.2 j hj).kept (oq _ (fun w => hc (by have w' : h0 + j = h0 + k := w; omega)))
theorem RW.push {D : va_G} {h0 n : Nat} {ct : Nat → va_E} {H H1 : Heap} (h : RW D h0 n ct H) {e : va_E} (hz : H1.size = H.size + 1) (hat : va_at D vwCl (h0 + n, e) H1) (oq : ∀ q, q < H.size → H1[q]? = H[q]?) : RW D h0 (n + 1) (ctU ct n e) H1 := by
  refine ⟨by rw [hz, h.1]; omega, fun j hj => ?_⟩
  by_cases hc : j = n
  · rw [hc, ctU_at]; exact hat
  · rw [ctU_ne hc]
    exact (h.2 j (by omega)).kept (oq _ (by rw [h.1]; show h0 + j < h0 + n; omega))
def bA (h0 : Nat) : Nat → Prop := fun q => h0 ≤ q
theorem bS_push {A : Nat → Prop} {H0 H H1 : Heap} {locs : List Loc} (h : va_S A H0 H locs) (hz : H.size ≤ H1.size) (oq : ∀ q, q < H.size → H1[q]? = H[q]?) : va_S A H0 H1 locs :=
  ⟨Nat.le_trans h.1 hz, fun x h1 h2 => (oq x (Nat.lt_of_lt_of_le h1 h.1)).trans (h.2.1 x h1 h2), h.2.2⟩
/-- a tail laid behind -/
def ctJ (ct : Nat → va_E) (n : Nat) (ct2 : Nat → va_E) : Nat → va_E := fun q => if q < n then ct q else ct2 (q - n)
theorem RW.join {D : va_G} {b0 n n2 : Nat} {ct ct2 : Nat → va_E} {H H1 : Heap} (h : RW D b0 (n + 1) ct H) (h2 : RW D (b0 + n) n2 ct2 H1) (oq : ∀ q, q < H.size → ¬ bA (b0 + n) q → H1[q]? = H[q]?) : RW D b0 (n + n2) (ctJ ct n ct2) H1 := by
  refine ⟨by rw [h2.1]; omega, fun j hj => ?_⟩
  unfold ctJ
  by_cases hc : j < n
  · rw [if_pos hc]
    exact (h.2 j (by omega)).kept (oq _ (by rw [h.1]; show b0 + j < _; omega) (by show ¬ b0 + n ≤ b0 + j; omega))
  · rw [if_neg hc]
    have := h2.2 (j - n) (by omega)
    rw [show b0 + n + (j - n) = b0 + j by omega] at this
    exact this
theorem ct_ints {D : va_G} {H : Heap} {a : Nat} {cA : ClassId} {n : Nat} {f g : Nat → Int32} (h : va_at D vwCl (a, .inl (cA, n, .inl f)) H) (hf : ∀ d, d < n → f d = g d) : va_at D vwCl (a, .inl (cA, n, .inl g)) H := by
  show H[a]? = some (vp_cell _ _)
  rw [← gCell_ext hf]; exact h
theorem ct_refs {D : va_G} {H : Heap} {a : Nat} {cA : ClassId} {n : Nat} {f g : Nat → Option Nat} (h : va_at D vwCl (a, .inl (cA, n, .inr (.inr (.inr (.inr f))))) H) (hf : ∀ d, d < n → f d = g d) : va_at D vwCl (a, .inl (cA, n, .inr (.inr (.inr (.inr g))))) H := by
  have e : vp_cell cA (n, .inr (.inr (.inr (.inr f)))) = vp_cell cA (n, .inr (.inr (.inr (.inr g)))) := by
    rw [vp_cell_q, vp_cell_q]
    unfold arrV
    congr 1
    apply Array.ext
    · simp
    · intro k h1 h2
      simp at h1 h2 ⊢
      rw [hf k h1]
  show H[a]? = some (vp_cell _ _)
  rw [← e]; exact h
/-- what a constructor may use -/
def bTy (cI cII cQ : ClassId) : List (ClassId × FieldType) := [(cI, .int), (cII, .array .int), (cQ, .object RX0)]
def bG (D : va_G) (cI cII cQ : ClassId) (U : State) : Prop := va_K D vwCl (bTy cI cII cQ) U ∧ va_AOA .int U ∧ va_AO RX0 U
theorem bG.moved {D : va_G} {cI cII cQ : ClassId} {u U : State} (hvm : u.vm.Alike U.vm) (h : bG D cI cII cQ u) : bG D cI cII cQ U := by
  refine ⟨va_K.moved hvm h.1, ?_, va_AO.moved hvm h.2.2⟩
  have := Cond.arrayOver_setVmC (args := #[]) (s := u) hvm (.array .int)
  have h2 : (Cond.arrayOver (.array .int)).before #[] (u.setVm U.vm) = true := by rw [this]; exact h.2.1
  exact h2
theorem bG.call {D : va_G} {cI cII cQ : ClassId} {U : State} {g : JFrame} {mk : MethodId} {a : Array Value} (h : bG D cI cII cQ U) : bG D cI cII cQ (U.calling g mk a) := bG.moved (u := U) (U := U.calling g mk a) (Vm.Alike.refl U.vm) h
section BW
variable {p : Program} {l : Launch} {e : Env} {R : Room} {s : State} {m : MethodId} {args : Array Value} {below : List Frame} {meth : Method} {c : Code} {H : Heap} {locs : List Loc} {cells slots : Nat} {Q : State → Prop} {cc : ByteArray} {pc : Nat} {ls : Array Slot} {rest : List Value} {D : va_G} {A : Nat → Prop} {tys : List (ClassId × FieldType)} {H0 : Heap} {h0 n : Nat} {ct : Nat → va_E} {cI cII cQ : ClassId}
theorem b_new (hexec : p.tables.exec = Jvm.exec) (hb : c.code = cc) {own C : String} {T : u_T} {N ci index : Nat} {Ts : List Cond} (hts : ∀ w ∈ Ts, w.before args s = true) (hin : ∀ w ∈ u_ws C T N, w ∈ Ts) (ty : Nat → FieldType) (hty : ∀ k, k < N → parseFieldDescriptor (T k).2.2.1 = some (ty k)) (hown : s.vm.findClass own = some m.cls) (hcl : (Cond.classLink own index C).before args s = true) (hinst : (Cond.instantiable C N).before args s = true) (hini : (Cond.initialized C).before args s = true)
    (hK : va_K D vwCl tys s) (hP : RW D h0 n ct H) (hS : va_S A H0 H locs) (hc : vwCl[ci]? = some (C, T, N)) {fs : List Value} (hfs : ∀ j, j < N → defaultValue (ty j) = vp_V fs j) (hcells : cells + 1 ≤ R.cells) (hslots : slots + N ≤ R.slots) (hdg : decode cc pc = .ok (.new index, 3))
    (kk : ∀ (H1 : Heap), RW D h0 (n + 1) (ctU ct n (.inr (ci, fs))) H1 → va_S A H0 H1 locs →
      W p l e R s m args below meth c H1 locs (cells + 1) (slots + N) Q (F0 m (pc + 3) ls (.ref (h0 + n) :: rest))) : W p l e R s m args below meth c H locs cells slots Q (F0 m pc ls rest) := by
  have hKn := hK.1 ci _ hc
  refine W.newcK hexec hb hown hcl hinst hini rfl hdg hcells hslots hKn.2.1 hP.1 fun H1 kC hkC e1 z1 o1 => ?_
  have o2 : ∀ q, q < H.size → H1[q]? = H[q]? := fun q hq => o1 q (by rw [← hP.1]; exact hq)
  have z2 : H1.size = H.size + 1 := by rw [z1, hP.1]
  exact kk H1 (hP.push z2 ⟨_, hc, (u_born ty hts hin hKn hkC e1 hty).to hfs⟩ o2) (bS_push hS (by omega) o2)
theorem b_newi (hexec : p.tables.exec = Jvm.exec) (hb : c.code = cc) (harr : (Cond.arrayClass .int).before args s = true) (hK : va_K D vwCl (bTy cI cII cQ) s) (hP : RW D h0 n ct H) (hS : va_S A H0 H locs)
    {i : Int32} {N' : Nat} (hn : ¬ i < 0) (hN : i.toNatClampNeg = N') (hbytes : N' * 4 ≤ 536870912) (hcells : cells + 1 ≤ R.cells) (hslots : slots + N' ≤ R.slots) (hdg : decode cc pc = .ok (.newarray .int, 2))
    (kk : ∀ (H1 : Heap), RW D h0 (n + 1) (ctU ct n (.inl (cI, N', .inl (fun _ => 0)))) H1 → va_S A H0 H1 locs →
      W p l e R s m args below meth c H1 locs (cells + 1) (slots + N') Q (F0 m (pc + 2) ls (.ref (h0 + n) :: rest))) : W p l e R s m args below meth c H locs cells slots Q (F0 m pc ls (.int i :: rest)) := by
  refine va_newaK (atype := .int) hexec hb harr rfl hdg rfl hn hN hbytes hcells hslots hP.1 fun H1 cA e1 z1 o1 hAr hNm => ?_
  have o2 : ∀ q, q < H.size → H1[q]? = H[q]? := fun q hq => o1 q (by rw [← hP.1]; exact hq)
  have z2 : H1.size = H.size + 1 := by rw [z1, hP.1]
  have hcA : cA = cI := Option.some.inj (hNm.symm.trans (hK.2 0 (cI, .int) rfl).2)
  subst hcA
  exact kk H1 (hP.push z2 e1 o2) (bS_push hS (by omega) o2)
theorem b_putF (hexec : p.tables.exec = Jvm.exec) (hb : c.code = cc) {own ref C : String} {T : u_T} {N ci index : Nat} {Ts : List Cond} (hts : ∀ w ∈ Ts, w.before args s = true) (hin : ∀ w ∈ u_ws C T N, w ∈ Ts) (ty0 : Nat → FieldType) (hty : ∀ k, k < N → parseFieldDescriptor (T k).2.2.1 = some (ty0 k)) (hnm : ∀ a, a < N → ∀ b, b < N → a ≠ b → (T a).2.1 ≠ (T b).2.1) (hown : s.vm.findClass own = some m.cls) (hK : va_K D vwCl tys s) (hP : RW D h0 n ct H) (hS0 : va_S (bA h0) H0 H locs) (q0 : Nat) (hq0 : q0 < n) {fs : List Value} (he : ct q0 = .inr (ci, fs)) (hc : vwCl[ci]? = some (C, T, N)) (k : Nat) (hk : k < N) (hlink : (Cond.fieldLink own index ref (T k).2.1 (T k).2.2.1).before args s = true) (hsame : ∀ x, s.fieldFound? (T k).1 (T k).2.1 (T k).2.2.1 = some x → s.fieldFound? ref (T k).2.1 (T k).2.2.1 = some x) (hfin : (T k).2.2.2 = true) (hin2 : meth.name = "<init>") (hdecl : (T k).1 = own) {ty : FieldType} {v : Value} (hd : parseFieldDescriptor (T k).2.2.1 = some ty) (hn : narrow ty v = v) (hfit : fits ty v = true) (hl : k < fs.length)
    (hdg : decode cc pc = .ok (.putfield index, 3)) (kk : ∀ (H1 : Heap) (locs1 : List Loc), RW D h0 n (ctU ct q0 (.inr (ci, fs.set k v))) H1 → va_S (bA h0) H0 H1 locs1 → W p l e R s m args below meth c H1 locs1 cells slots Q (F0 m (pc + 3) ls rest)) : W p l e R s m args below meth c H locs cells slots Q (F0 m pc ls (v :: .ref (h0 + q0) :: rest)) := by
  have hap := va_apart (own := own) hts hin ty0 hty hnm hK hc
  have hat := hP.2 q0 hq0
  rw [he] at hat
  obtain ⟨r, h1, cell, q1, q2, q3, q4⟩ := hat
  have hr : r = (C, T, N) := Option.some.inj (h1.symm.trans hc)
  subst hr
  obtain ⟨hS, hfc, kC, hkC, hkind⟩ := hK.1 ci _ hc
  obtain ⟨cf, kf, fi, f, hi, hsl⟩ := hS k hk
  have hlay := hts _ (hin _ (u_in_lay hk))
  unfold u_lay at hlay
  rw [if_pos hfin] at hlay
  have hst := (u_facts hfc hkC (u_lays hts hin hk) hi).1
  have hcf : m.cls = cf := by
    obtain ⟨_, _, c', _, _, _, -, -, hf', -, -, -, hown2, -⟩ := Cond.laysFinal_spec hlay
    have e1 : c' = cf := by have := hi.symm.trans hf'; simp at this; exact this.1.symm
    rw [hdecl] at hown2
    rw [← e1]; exact Option.some.inj (hown.symm.trans hown2)
  have h6 := u_fits hfc hkC hkind (Or.inr hlay) hi hd hn hfit
  refine W.putFinK hexec hb hown hlink (hsame _ hi) hst hcf hin2 (by rw [q2]; exact h6) q1 q3 (by rw [hsl]; exact k2_hasslot (q4 k hk)) rfl rfl hdg fun H' e1 e2 e3 => ?_
  rw [hsl] at e1 ⊢
  exact kk H' _ (hP.set e2 ⟨_, hc, t_OB.to (V := updV (vp_V fs) k v) ⟨_, e1, q2, q3, t_set q4 hap hk v⟩ (fun j _ => vp_updV_set hl v j)⟩ e3) (hS0.put e2 e3 (Nat.le_add_right h0 q0))
theorem b_put (hexec : p.tables.exec = Jvm.exec) (hb : c.code = cc) {own ref C : String} {T : u_T} {N ci index : Nat} {Ts : List Cond} (hts : ∀ w ∈ Ts, w.before args s = true) (hin : ∀ w ∈ u_ws C T N, w ∈ Ts) (ty0 : Nat → FieldType) (hty : ∀ k, k < N → parseFieldDescriptor (T k).2.2.1 = some (ty0 k)) (hnm : ∀ a, a < N → ∀ b, b < N → a ≠ b → (T a).2.1 ≠ (T b).2.1) (hown : s.vm.findClass own = some m.cls) (hK : va_K D vwCl tys s) (hP : RW D h0 n ct H) (hS0 : va_S (bA h0) H0 H locs) (q0 : Nat) (hq0 : q0 < n) {fs : List Value} (he : ct q0 = .inr (ci, fs)) (hc : vwCl[ci]? = some (C, T, N)) (k : Nat) (hk : k < N) (hlink : (Cond.fieldLink own index ref (T k).2.1 (T k).2.2.1).before args s = true) (hsame : ∀ x, s.fieldFound? (T k).1 (T k).2.1 (T k).2.2.1 = some x → s.fieldFound? ref (T k).2.1 (T k).2.2.1 = some x) (hfin : (T k).2.2.2 = false) {ty : FieldType} {v : Value} (hd : parseFieldDescriptor (T k).2.2.1 = some ty) (hn : narrow ty v = v) (hfit : fits ty v = true) (hl : k < fs.length)
    (hdg : decode cc pc = .ok (.putfield index, 3)) (kk : ∀ (H1 : Heap) (locs1 : List Loc), RW D h0 n (ctU ct q0 (.inr (ci, fs.set k v))) H1 → va_S (bA h0) H0 H1 locs1 → W p l e R s m args below meth c H1 locs1 cells slots Q (F0 m (pc + 3) ls rest)) : W p l e R s m args below meth c H locs cells slots Q (F0 m pc ls (v :: .ref (h0 + q0) :: rest)) := by
  have hap := va_apart (own := own) hts hin ty0 hty hnm hK hc
  have hat := hP.2 q0 hq0
  rw [he] at hat
  obtain ⟨r, h1, cell, q1, q2, q3, q4⟩ := hat
  have hr : r = (C, T, N) := Option.some.inj (h1.symm.trans hc)
  subst hr
  obtain ⟨hS, hfc, kC, hkC, hkind⟩ := hK.1 ci _ hc
  obtain ⟨cf, kf, fi, f, hi, hsl⟩ := hS k hk
  have hlay := hts _ (hin _ (u_in_lay hk))
  unfold u_lay at hlay
  rw [if_neg (by rw [hfin]; decide)] at hlay
  have hst := (u_facts hfc hkC (u_lays hts hin hk) hi).1
  have h6 := u_store hfc hkC hkind hlay hi hd hn hfit
  refine W.putK hexec hb (f := f) ⟨hown, hlink, ⟨_, _, _, hsame _ hi⟩, hst⟩ (by rw [q2]; exact h6) q1 q3 (by rw [hsl]; exact k2_hasslot (q4 k hk)) rfl rfl hdg fun H' e1 e2 e3 => ?_
  rw [hsl] at e1 ⊢
  exact kk H' _ (hP.set e2 ⟨_, hc, t_OB.to (V := updV (vp_V fs) k v) ⟨_, e1, q2, q3, t_set q4 hap hk v⟩ (fun j _ => vp_updV_set hl v j)⟩ e3) (hS0.put e2 e3 (Nat.le_add_right h0 q0))
theorem b_iast (hexec : p.tables.exec = Jvm.exec) (hb : c.code = cc) (hK : va_K D vwCl (bTy cI cII cQ) s) (hP : RW D h0 n ct H) (hS : va_S (bA h0) H0 H locs) (q0 : Nat) (hq0 : q0 < n) {N : Nat} {f : Nat → Int32} (he : ct q0 = .inl (cI, N, .inl f)) {i x : Int32} (hin : vp_in i N) (hdg : decode cc pc = .ok (.iastore, 1))
    (kk : ∀ (H1 : Heap) (locs1 : List Loc), RW D h0 n (ctU ct q0 (.inl (cI, N, .inl (zU f i.toNatClampNeg x)))) H1 → va_S (bA h0) H0 H1 locs1 → W p l e R s m args below meth c H1 locs1 cells slots Q (F0 m (pc + 1) ls rest)) : W p l e R s m args below meth c H locs cells slots Q (F0 m pc ls (.int x :: .int i :: .ref (h0 + q0) :: rest)) := by
  have hat := hP.2 q0 hq0
  rw [he] at hat
  refine W.iast hexec hb hat ((hK.2 0 (cI, .int) rfl).1 N (fun j => .int (f j))) (fun q => by cases q) (by show ¬ (i < 0 ∨ (arrV _ _ _).slots.size ≤ _); rw [arrV_size]; exact hin) rfl rfl hdg fun H1 e z oq => ?_
  refine kk H1 _ (hP.set z ?_ oq) (hS.put z oq (Nat.le_add_right h0 q0))
  show H1[h0 + q0]? = some (vp_cell _ _)
  rw [e]
  rw [vp_cell_i, vp_cell_i, arrV_store]
  congr 2
  funext q
  by_cases hq : q = i.toNatClampNeg
  · subst hq
    simp [updV, zU]
  · simp [updV, zU, hq]
theorem b_aald (hexec : p.tables.exec = Jvm.exec) (hb : c.code = cc) (hK : va_K D vwCl (bTy cI cII cQ) s) (hP : RW D h0 n ct H) (q0 : Nat) (hq0 : q0 < n) {N : Nat} {f : Nat → Option Nat} (he : ct q0 = .inl (cII, N, .inr (.inr (.inr (.inr f))))) {i : Int32} {a : Nat} (hin : vp_in i N) (ha : f i.toNatClampNeg = some a) (hdg : decode cc pc = .ok (.aaload, 1))
    (kk : W p l e R s m args below meth c H locs cells slots Q (F0 m (pc + 1) ls (.ref a :: rest))) : W p l e R s m args below meth c H locs cells slots Q (F0 m pc ls (.int i :: .ref (h0 + q0) :: rest)) := by
  have hat := hP.2 q0 hq0
  rw [he] at hat
  have hlt : i.toNatClampNeg < N := Nat.not_le.mp fun q => hin (Or.inr q)
  exact W.aald (v := .ref a) (ty := .array .int) hexec hb hat ((hK.2 1 (cII, .array .int) rfl).1 N (fun k => va_rf (f k))) rfl (fun q => by cases q) (by show ¬ (i < 0 ∨ (arrV _ _ _).slots.size ≤ _); rw [arrV_size]; exact hin) (by show (arrV _ _ _).slots[_]? = _; rw [arrV_read _ _ hlt, ha]; rfl) rfl rfl hdg kk
theorem b_mna (hexec : p.tables.exec = Jvm.exec) (hb : c.code = cc) {own : String} {index : Nat} (hown : s.vm.findClass own = some m.cls) (hclink : (Cond.classLink own index "[[I").before args s = true) (harr : (Cond.arrayClass .int).before args s = true) (hG : bG D cI cII cQ s) (hP : RW D h0 n ct H) (hS : va_S A H0 H locs)
    {i k : Int32} {N' K' : Nat} (hn : ¬ i < 0) (hk : ¬ k < 0) (hN : i.toNatClampNeg = N') (hM : k.toNatClampNeg = K') (hb1 : N' * 4 ≤ 536870912) (hb2 : K' * 4 ≤ 536870912) (hcells : cells + (1 + N') ≤ R.cells) (hslots : slots + (N' + N' * K') ≤ R.slots) (hdg : decode cc pc = .ok (.multianewarray index 2, 4))
    (kk : ∀ (H1 : Heap), RW D h0 (n + (1 + N')) (ctJ ct n (fun q => if q = 0 then .inl (cII, N', .inr (.inr (.inr (.inr (fun j => if j < N' then some (h0 + n + 1 + j) else none))))) else .inl (cI, K', .inl (fun _ => 0)))) H1 → va_S A H0 H1 locs →
      W p l e R s m args below meth c H1 locs (cells + 1 + N') (slots + N' + N' * K') Q (F0 m (pc + 4) ls (.ref (h0 + n) :: rest))) : W p l e R s m args below meth c H locs cells slots Q (F0 m pc ls (.int k :: .int i :: rest)) := by
  subst hN
  subst hM
  obtain ⟨hK, hAOA, -⟩ := hG
  intro T hT Xs
  obtain ⟨vm₁, cA, comp, -, fA, fC, hO, -, X', step⟩ := Xs.multianewarray2F (ty := .int) hexec hown hclink (va_AOA.use hAOA) harr (g := F0 m pc ls (.int k :: .int i :: rest)) rfl (by rw [hb]; exact hdg) rfl hn hk hb1 hb2 (by omega) rfl rfl hcells hslots
  have ecA : cA = cII := Option.some.inj (fA.symm.trans (hK.2 1 (cII, .array .int) rfl).2)
  have ecI : comp = cI := Option.some.inj (fC.symm.trans (hK.2 0 (cI, .int) rfl).2)
  subst ecA ecI
  generalize hF : Jvm.Free.Multi.fill (T.setVm vm₁) cA comp i.toNatClampNeg k.toNatClampNeg (defaultValue .int) i.toNatClampNeg = F at X' step
  have hTh : (T.setVm vm₁).heap = H := hT
  obtain ⟨f1, f2, -, -⟩ := Jvm.Free.Multi.fill_facts (T.setVm vm₁) cA comp i.toNatClampNeg k.toNatClampNeg (defaultValue .int) i.toNatClampNeg
  rw [hF, hTh] at f1 f2
  have hold : ∀ x : Nat, x < H.size → F.heap[x]? = H[x]? := fun x hx => by
    have := Jvm.Free.Multi.fill_old (T.setVm vm₁) cA comp i.toNatClampNeg k.toNatClampNeg (defaultValue .int) (a := x) (by rw [hTh]; exact hx) i.toNatClampNeg
    rw [hF, hTh] at this
    exact this
  have hrow : ∀ j : Nat, j < i.toNatClampNeg → F.heap[H.size + 1 + j]? = some (vp_cell comp (k.toNatClampNeg, .inl (fun _ => 0))) := fun j hj => by
    have := Jvm.Free.Multi.fill_inner (T.setVm vm₁) cA comp i.toNatClampNeg k.toNatClampNeg (defaultValue .int) i.toNatClampNeg j hj
    rw [hF, hTh] at this
    rw [this]
    rw [vp_cell_i, ← arrV_new]
    rfl
  have hout : Jvm.Free.Multi.outerC cA i.toNatClampNeg H.size i.toNatClampNeg = vp_cell cA (i.toNatClampNeg, .inr (.inr (.inr (.inr (fun j => if j < i.toNatClampNeg then some (H.size + 1 + j) else none))))) := by
    rw [vp_cell_q]
    exact vr_outer cA i.toNatClampNeg H.size i.toNatClampNeg
  rw [hout] at f2
  have hz := hP.1
  have hRW : RW D h0 (n + (1 + i.toNatClampNeg)) (ctJ ct n (fun q => if q = 0 then .inl (cA, i.toNatClampNeg, .inr (.inr (.inr (.inr (fun j => if j < i.toNatClampNeg then some (h0 + n + 1 + j) else none))))) else .inl (comp, k.toNatClampNeg, .inl (fun _ => 0)))) F.heap := by
    refine ⟨by rw [f1]; omega, fun j hj => ?_⟩
    unfold ctJ
    by_cases hc : j < n
    · rw [if_pos hc]
      exact (hP.2 j hc).kept (hold _ (by rw [hz]; show h0 + j < _; omega))
    · rw [if_neg hc]
      by_cases h0' : j - n = 0
      · dsimp only
        rw [if_pos h0']
        show F.heap[h0 + j]? = some (vp_cell _ _)
        rw [show h0 + j = H.size by omega, f2, hz]
      · dsimp only
        rw [if_neg h0']
        show F.heap[h0 + j]? = some (vp_cell _ _)
        have := hrow (j - n - 1) (by omega)
        rw [show H.size + 1 + (j - n - 1) = h0 + j by omega] at this
        exact this
  obtain ⟨t, a1, b1⟩ := kk F.heap hRW (bS_push hS (by rw [f1]; omega) hold) F rfl X'
  refine ⟨t, step t ?_, b1⟩
  have e : T.heap.size = h0 + n := by rw [hT]; exact hz
  rw [e]
  exact a1
theorem b_anew (hexec : p.tables.exec = Jvm.exec) (hb : c.code = cc) {own : String} {index : Nat} (hown : s.vm.findClass own = some m.cls) (hclink : (Cond.classLink own index RX0).before args s = true) (hG : bG D cI cII cQ s) (hP : RW D h0 n ct H) (hS : va_S A H0 H locs)
    {i : Int32} {N' : Nat} (hn : ¬ i < 0) (hN : i.toNatClampNeg = N') (hbytes : N' * 4 ≤ 536870912) (hcells : cells + 1 ≤ R.cells) (hslots : slots + N' ≤ R.slots) (hdg : decode cc pc = .ok (.anewarray index, 3))
    (kk : ∀ (H1 : Heap), RW D h0 (n + 1) (ctU ct n (.inl (cQ, N', .inr (.inr (.inr (.inr (fun _ => none))))))) H1 → va_S A H0 H1 locs →
      W p l e R s m args below meth c H1 locs (cells + 1) (slots + N') Q (F0 m (pc + 3) ls (.ref (h0 + n) :: rest))) : W p l e R s m args below meth c H locs cells slots Q (F0 m pc ls (.int i :: rest)) := by
  subst hN
  obtain ⟨hK, -, hAO⟩ := hG
  refine W.anew hexec hb hown hclink (va_AO.use hAO) rfl hdg rfl hn hbytes hcells hslots fun cA kA comp f1 f2 f3 f4 => ?_
  have hcA : cA = cQ := by
    obtain ⟨kA', comp', -, -, -, k4⟩ := (hK.2 2 (cQ, .object RX0) rfl).2
    exact Option.some.inj (f1.symm.trans k4)
  subst hcA
  have hz := hP.1
  rw [hz]
  generalize hH1 : H.push ({ cls := cA, slots := Array.replicate i.toNatClampNeg .null, vm := .none } : Cell) = H1
  have z1 : H1.size = H.size + 1 := by rw [← hH1, Array.size_push]
  have e1 : H1[H.size]? = some (arrV cA i.toNatClampNeg (fun _ => .null)) := by rw [← hH1, Array.getElem?_push_size, ← arrV_new]
  have o1 : ∀ q : Nat, q < H.size → H1[q]? = H[q]? := fun q hq => by rw [← hH1, Array.getElem?_push, if_neg (Nat.ne_of_lt hq)]
  refine kk H1 (hP.push z1 ?_ o1) (bS_push hS (by omega) o1)
  show H1[h0 + n]? = some (vp_cell _ _)
  rw [vp_cell_q, ← hz]
  exact e1
theorem b_aast (hexec : p.tables.exec = Jvm.exec) (hb : c.code = cc) (hK : va_K D vwCl (bTy cI cII cQ) s) (hP : RW D h0 n ct H) (hS : va_S (bA h0) H0 H locs) (q0 qk : Nat) (hq0 : q0 < n) (hqk : qk < n) {N : Nat} {f : Nat → Option Nat} {vs : List Value} (he : ct q0 = .inl (cQ, N, .inr (.inr (.inr (.inr f))))) (hv : ct qk = .inr (0, vs)) {i : Int32} (hin : vp_in i N) (hdg : decode cc pc = .ok (.aastore, 1))
    (kk : ∀ (H1 : Heap) (locs1 : List Loc), RW D h0 n (ctU ct q0 (.inl (cQ, N, .inr (.inr (.inr (.inr (va_up f i.toNatClampNeg (some (h0 + qk)))))))) ) H1 → va_S (bA h0) H0 H1 locs1 → W p l e R s m args below meth c H1 locs1 cells slots Q (F0 m (pc + 1) ls rest)) : W p l e R s m args below meth c H locs cells slots Q (F0 m pc ls (.ref (h0 + qk) :: .int i :: .ref (h0 + q0) :: rest)) := by
  have hlt : i.toNatClampNeg < N := Nat.not_le.mp fun q => hin (Or.inr q)
  have h00 : ¬ i < 0 := fun q => hin (Or.inl q)
  have hat := hP.2 q0 hq0
  rw [he] at hat
  have hat2 := hP.2 qk hqk
  rw [hv] at hat2
  obtain ⟨r', hr', cellV, g1, g2, g3, -⟩ := hat2
  have hc : vwCl[0]? = some (RX0, TX0, 10) := rfl
  have hcls := (hK.1 0 _ hc).2
  obtain ⟨kA, comp, k1, k2, k3, -⟩ := (hK.2 2 (cQ, .object RX0) rfl).2
  have hcomp : comp = D.1 0 := Option.some.inj (k3.symm.trans hcls.1)
  subst hcomp
  obtain ⟨kC, hkC, -⟩ := hcls.2
  refine W.aast hexec hb hat (fun q h => by cases h) (fun h => by cases h) k1 k2 rfl hkC ⟨h00, by show _ < (arrV _ _ _).slots.size; rw [arrV_size]; exact hlt⟩ g1 (fun q h => by rw [g3] at h; cases h) (by rw [g2]; exact hkC) (by rw [g2]; exact va_assign hcls) rfl rfl hdg fun H1 e z oq => ?_
  refine kk H1 _ (hP.set z ?_ oq) (hS.put z oq (Nat.le_add_right h0 q0))
  show H1[h0 + q0]? = some (vp_cell _ _)
  rw [e]
  rw [vp_cell_q, vp_cell_q, arrV_store]
  congr 2
  funext q
  by_cases hq : q = i.toNatClampNeg
  · subst hq
    simp [updV, va_up, va_rf]
  · simp [updV, va_up, hq]
/-- a constructor's contract: the object at h0 is the newest cell; behind it n cells stand from h0 on -/
def NI (l : Launch) (y : MethodName) (ws : List Cond) (rm : Room) (D : va_G) (cI cII cQ : ClassId) (h0 ci : Nat) (fs : List Value) (n : Nat) (ct : Nat → va_E) (mc ms : Nat) : Prop :=
  Met l y ws rm (va_Pc [.ref h0] (fun U => U.heap.size = h0 + 1 ∧ va_at D vwCl (h0, .inr (ci, fs)) U.heap ∧ bG D cI cII cQ U)) (va_Qv (S := Unit) (fun _ => True) (fun _ t => RW D h0 n ct t.heap) (bA h0)) mc ms (bA h0)
theorem b_init {own : String} {Ts : List Cond} {nL : Nat} {y : MethodName} {ws : List Cond} {rm : Room} {bytes : ByteArray} {maxL index ci n0 n2 mc ms : Nat} {fs : List Value} {ct2 : Nat → va_E} (S : CallFix p m c cc nL s args Ts own) (hM : NI l y ws rm D cI cII cQ (h0 + n0) ci fs n2 ct2 mc ms) (cw : CallB R s args own index y bytes maxL none ws rm mc ms 0 ∧ y.name = "<init>" ∧ (Cond.instanceMethod y).before args s = true) (hG : bG D cI cII cQ s) (hP : RW D h0 (n0 + 1) ct H) (he : ct n0 = .inr (ci, fs)) (hS : va_S (bA h0) H0 H locs) (hsize : ls.size = nL) (hW : (rest.map fun v => v.category).sum ≤ 8) (hdg : decode cc pc = .ok (.invokespecial index, 3)) (hf : cells + mc ≤ R.cells ∧ slots + ms ≤ R.slots)
    (kk : ∀ (H1 : Heap) (locs1 : List Loc), RW D h0 (n0 + n2) (ctJ ct n0 ct2) H1 → va_S (bA h0) H0 H1 locs1 → W p l e R s m args below meth c H1 locs1 (cells + mc) (slots + ms) Q (F0 m (pc + 3) ls rest)) : W p l e R s m args below meth c H locs cells slots Q (F0 m pc ls (.ref (h0 + n0) :: rest)) := by
  have hz := hP.1
  have hat := hP.2 n0 (by omega)
  rw [he] at hat
  refine va_callv (va_runI (As := []) (rest := rest) S hM cw ⟨fun a U g mk q => ⟨q.1, q.2.1, q.2.2.1, q.2.2.2.call⟩, fun U hU hwm => ⟨rfl, by rw [hU, hz]; rfl, by rw [hU]; exact hat, hG.moved hwm.alike⟩⟩ rfl rfl hsize rfl (lv_room hW) hdg hf) hS (fun q _ h => Nat.le_trans (Nat.le_add_right h0 n0) h) (fun q h => Nat.le_trans (Nat.le_add_right h0 n0) h) (fun u t H1 locs1 ht hvm hw hB hz1 hk1 hS1 => ?_)
  have hB' : RW D (h0 + n0) n2 ct2 H1 := by rw [← ht]; exact hB
  exact kk H1 locs1 (hP.join hB' hk1) hS1
end BW
