/-! the world: every cell of the system at fixed addresses; the judgement G (a walk over that world) and its rows -/
/-- machine numbers of classes, the addresses by block and place, the array classes int[], int[][], Cote[]; whether block 11 is there -/
abbrev gEn : Type := va_G × (Nat → Nat → Nat) × ClassId × ClassId × ClassId × Bool
abbrev gSt : Type := Nat → Nat → Nat → Int32
/-- blocks: 0..8 cotes, 9 the LateDoves object with its array, buffer, reader; 10 the law's g, a, b, t; 11 the law's g2, a2, b2, t2, where they are -/
def gV (E : gEn) (i j : Nat) : Prop := (i < 9 ∧ j < 20) ∨ (i = 9 ∧ j < 4) ∨ (i = 10 ∧ j < 4) ∨ (i = 11 ∧ j < 4 ∧ E.2.2.2.2.2 = true)
def gLd (j : Nat) : Nat := if j = 0 then 13 else if j = 3 then 26 else 64
def gLc (j : Nat) : Nat := if j < 10 then 16 else if j < 14 then 24 else if j = 14 then 2 else if j = 15 then 4 else if j = 16 then 2 else 25
/-- the length of the int array at a place -/
def gN (i j : Nat) : Option Nat := if i < 9 then (if j = 0 ∨ j = 1 ∨ j = 10 ∨ j = 17 then none else some (gLc j)) else if i = 9 then (if j = 2 then some 60 else none) else some (gLd j)
/-- the class of the object at a place -/
def gO (i j : Nat) : Option Nat := if i < 9 then (if j = 0 then some 0 else if j = 17 then some 2 else none) else if i = 9 then (if j = 0 then some 3 else if j = 3 then some 1 else none) else none
def gFc (E : gEn) (c : Nat → Nat → Int32) (i : Nat) : List Value := [.ref (E.2.1 i 1), .ref (E.2.1 i 10), .ref (E.2.1 i 14), .ref (E.2.1 i 15), .ref (E.2.1 i 16), .ref (E.2.1 i 17), .int (c 0 6), .int (c 0 7), .int (c 0 8), .int (c 0 9)]
def gFw (E : gEn) (c : Nat → Nat → Int32) (i : Nat) : List Value := [.ref (E.2.1 i 18), .ref (E.2.1 i 19), .int (c 17 2)]
def gFm (E : gEn) (c : Nat → Nat → Int32) : List Value := [.ref (E.2.1 0 0), .ref (E.2.1 1 0), .ref (E.2.1 2 0), .int (c 0 3), .ref (E.2.1 9 1), .int (c 0 5), .ref (E.2.1 9 2), .int (c 0 7), .ref (E.2.1 9 3)]
def gFr (c : Nat → Nat → Int32) : List Value := [.int (c 3 0), .int (c 3 1), .int (c 3 2), .int (c 3 3)]
/-- what the cell at a place holds -/
def gC (E : gEn) (σ : gSt) (π : Nat → Nat) (o : Int64) (i j : Nat) : va_E :=
  if i < 9 then
    (if j = 0 then .inr (0, gFc E (σ i) i)
     else if j = 1 then .inl (E.2.2.2.1, 8, .inr (.inr (.inr (.inr (fun k => some (E.2.1 i (2 + k)))))))
     else if j = 10 then .inl (E.2.2.2.1, 3, .inr (.inr (.inr (.inr (fun k => some (E.2.1 i (11 + k)))))))
     else if j = 17 then .inr (2, gFw E (σ i) i)
     else .inl (E.2.2.1, gLc j, .inl (σ i j)))
  else if i = 9 then
    (if j = 0 then .inr (3, gFm E (σ i))
     else if j = 1 then .inl (E.2.2.2.2.1, 6, .inr (.inr (.inr (.inr (fun k => some (E.2.1 (π k) 0))))))
     else if j = 2 then .inl (E.2.2.1, 60, .inl (σ i j))
     else .inr (1, gFr (σ i)))
  else .inl (E.2.2.1, gLd j, .inl (σ i j))
def CW (E : gEn) (σ : gSt) (π : Nat → Nat) (o : Int64) (H : Heap) : Prop := ∀ i j, gV E i j → va_at E.1 vwCl (E.2.1 i j, gC E σ π o i j) H
def gA (E : gEn) : Nat → Prop := fun q => ∃ i j, gV E i j ∧ q = E.2.1 i j
def gInj (E : gEn) : Prop := ∀ i j i' j', gV E i j → gV E i' j' → E.2.1 i j = E.2.1 i' j' → i = i' ∧ j = j'
def gTy (E : gEn) : List (ClassId × FieldType) := [(E.2.2.1, .int), (E.2.2.2.1, .array .int), (E.2.2.2.2.1, .object RX0)]
/-- the words of nest mates' private members -/
def gNst : List Cond := [.fieldLinkNest RX3 112 RX0 "settings" "[I" RX3, .fieldLinkNest RX3 166 RX0 "day" "I" RX3, .fieldLinkNest RX3 173 RX0 "doves" "[[I" RX3, .fieldLinkNest RX3 179 RX0 "holes" "[[I" RX3, .fieldLinkNest RX3 189 RX0 "way" "LLateDoves$Way;" RX3, .fieldLinkNest RX3 193 RX2 "size" "I" RX3, .fieldLinkNest RX3 198 RX2 "who" "[I" RX3, .fieldLinkNest RX3 201 RX2 "where" "[I" RX3, .fieldLinkNest RX3 217 RX0 "time" "I" RX3, .fieldLinkNest RX3 290 RX0 "shifts" "I" RX3, .fieldLinkNest RX0 89 RX2 "size" "I" RX3, .methodLinkNest RX0 59 yX3_isHole RX3]
def gK (E : gEn) (U : State) : Prop := va_K E.1 vwCl (gTy E) U ∧ (∀ w ∈ gNst, va_Nw w U) ∧ gInj E
theorem gNst_warm {s U : State} (hW : s.WarmedH U.vm) (h : ∀ w ∈ gNst, va_Nw w s) : ∀ w ∈ gNst, va_Nw w U := by
  have H : ∀ w ∈ gNst, (∃ a i b n d h, w = Cond.fieldLinkNest a i b n d h) ∨ (∃ a i x h, w = Cond.methodLinkNest a i x h) := by
    intro w hw
    simp only [gNst, List.mem_cons, List.not_mem_nil, or_false] at hw
    rcases hw with rfl | rfl | rfl | rfl | rfl | rfl | rfl | rfl | rfl | rfl | rfl | rfl | rfl | rfl | rfl | rfl <;> first | exact Or.inl ⟨_, _, _, _, _, _, rfl⟩ | exact Or.inr ⟨_, _, _, _, rfl⟩
  intro w hw
  rcases H w hw with ⟨a, i, b, n, d, h2, rfl⟩ | ⟨a, i, x, h2, rfl⟩
  · exact va_Nw.warmF hW (h _ hw)
  · exact va_Nw.warmM hW (h _ hw)
theorem gNst_tab : ∀ w ∈ gNst, w.onTables = true := by decide +kernel
theorem gK.warm {E : gEn} {s U : State} (hW : s.WarmedH U.vm) (h : gK E s) : gK E U := ⟨va_K.moved hW.alike h.1, gNst_warm hW h.2.1, h.2.2⟩
theorem gK.call {E : gEn} {U : State} {g : JFrame} {mk : MethodId} {a : Array Value} (h : gK E U) : gK E (U.calling g mk a) := ⟨va_K.moved (u := U) (U := U.calling g mk a) (Vm.Alike.refl U.vm) h.1, fun w hw => va_Nw.same (u := U) (U := U.calling g mk a) (gNst_tab w hw) rfl (h.2.1 w hw), h.2.2⟩
def gU (σ : gSt) (i : Nat) (c : Nat → Nat → Int32) : gSt := fun i' => if i' = i then c else σ i'
def cW (c : Nat → Nat → Int32) (j d : Nat) (v : Int32) : Nat → Nat → Int32 := fun j' d' => if j' = j then (if d' = d then v else c j' d') else c j' d'
theorem gU_at (σ : gSt) (i : Nat) (c : Nat → Nat → Int32) : gU σ i c i = c := if_pos rfl
theorem gU_ne {σ : gSt} {i i' : Nat} {c : Nat → Nat → Int32} (h : i' ≠ i) : gU σ i c i' = σ i' := if_neg h
theorem gU_eta (σ : gSt) (i : Nat) : gU σ i (σ i) = σ := by
  funext i'
  by_cases h : i' = i
  · subst h; exact gU_at ..
  · exact gU_ne h
theorem gU_gU (σ : gSt) (i : Nat) (c c' : Nat → Nat → Int32) : gU (gU σ i c) i c' = gU σ i c' := by
  funext i'
  by_cases h : i' = i
  · subst h; rw [gU_at, gU_at]
  · rw [gU_ne h, gU_ne h, gU_ne h]
theorem gU_comm (σ : gSt) {i i' : Nat} (hn : i ≠ i') (c c' : Nat → Nat → Int32) : gU (gU σ i c) i' c' = gU (gU σ i' c') i c := by
  funext k
  by_cases h : k = i
  · subst h; rw [gU_ne hn, gU_at, gU_at]
  · by_cases h' : k = i'
    · subst h'; rw [gU_at, gU_ne h, gU_at]
    · rw [gU_ne h', gU_ne h, gU_ne h, gU_ne h']
theorem gC_arr {E : gEn} {σ : gSt} {π : Nat → Nat} {o : Int64} {i j n : Nat} (h : gN i j = some n) (hv : gV E i j) : gC E σ π o i j = .inl (E.2.2.1, n, .inl (σ i j)) := by
  unfold gN at h
  unfold gC
  unfold gV at hv
  split at h
  · rename_i hi
    rw [if_pos hi]
    split at h
    · cases h
    · rename_i hj
      rw [if_neg (fun q => hj (Or.inl q)), if_neg (fun q => hj (Or.inr (Or.inl q))), if_neg (fun q => hj (Or.inr (Or.inr (Or.inl q)))), if_neg (fun q => hj (Or.inr (Or.inr (Or.inr q))))]
      cases h; rfl
  · rename_i hi
    rw [if_neg hi]
    split at h
    · rename_i hi9
      rw [if_pos hi9]
      split at h
      · rename_i hj
        subst hj
        cases h
        rfl
      · cases h
    · rename_i hi9
      rw [if_neg hi9]
      cases h; rfl
theorem gC_obj {E : gEn} {σ : gSt} {π : Nat → Nat} {o : Int64} {i j ci : Nat} (h : gO i j = some ci) : gV E i j ∧ ∃ fs, gC E σ π o i j = .inr (ci, fs) := by
  unfold gO at h
  unfold gC gV
  split at h
  · rename_i hi
    rw [if_pos hi]
    split at h
    · rename_i hj; subst hj; cases h; exact ⟨Or.inl ⟨hi, by omega⟩, _, rfl⟩
    · split at h
      · rename_i hj; subst hj; cases h; exact ⟨Or.inl ⟨hi, by omega⟩, _, rfl⟩
      · cases h
  · rename_i hi
    rw [if_neg hi]
    split at h
    · rename_i hi9
      rw [if_pos hi9]
      split at h
      · rename_i hj; subst hj; cases h; exact ⟨Or.inr (Or.inl ⟨hi9, by omega⟩), _, rfl⟩
      · split at h
        · rename_i hj; subst hj; cases h; exact ⟨Or.inr (Or.inl ⟨hi9, by omega⟩), _, rfl⟩
        · cases h
    · rename_i hi9
      rw [if_neg hi9]
      cases h
theorem CW.one {E : gEn} {σ : gSt} {π : Nat → Nat} {o : Int64} {H : Heap} (h : CW E σ π o H) {i j : Nat} (hv : gV E i j) {e : va_E} (he : gC E σ π o i j = e) : va_P E.1 vwCl [(E.2.1 i j, e)] H := by
  intro k q hk
  cases k with
  | zero => cases hk; rw [← he]; exact h i j hv
  | succ k => simp at hk
theorem CW.lt {E : gEn} {σ : gSt} {π : Nat → Nat} {o : Int64} {H : Heap} (h : CW E σ π o H) {i j : Nat} (hv : gV E i j) : E.2.1 i j < H.size := (h i j hv).lt
theorem CW.kept {E : gEn} {σ : gSt} {π : Nat → Nat} {o : Int64} {H H1 : Heap} (h : CW E σ π o H) (hq : ∀ i j, gV E i j → H1[E.2.1 i j]? = H[E.2.1 i j]?) : CW E σ π o H1 := fun i j hv => (h i j hv).kept (hq i j hv)
theorem CW.chg {E : gEn} {σ σ' : gSt} {π π' : Nat → Nat} {o o' : Int64} {H H1 : Heap} (h : CW E σ π o H) (hI : gInj E) {i j : Nat} (hv : gV E i j) (hne : ∀ i' j', gV E i' j' → ¬(i' = i ∧ j' = j) → gC E σ' π' o' i' j' = gC E σ π o i' j') {e : va_E} (he : gC E σ' π' o' i j = e) (hat : va_at E.1 vwCl (E.2.1 i j, e) H1) (oq : ∀ q, q ≠ E.2.1 i j → H1[q]? = H[q]?) : CW E σ' π' o' H1 := by
  intro i' j' hv'
  by_cases hh : i' = i ∧ j' = j
  · obtain ⟨rfl, rfl⟩ := hh; rw [he]; exact hat
  · rw [hne i' j' hv' hh]
    exact (h i' j' hv').kept (oq _ (fun q => hh (hI i' j' i j hv' hv q)))
theorem gCell_ext {cA : ClassId} {n : Nat} {f g : Nat → Int32} (h : ∀ d, d < n → f d = g d) : vp_cell cA (n, .inl f) = vp_cell cA (n, .inl g) := by
  rw [vp_cell_i, vp_cell_i]
  unfold arrV
  congr 1
  apply Array.ext
  · simp
  · intro k h1 h2
    simp at h1 h2 ⊢
    exact h k h1
/-- cells of other places keep what they hold -/
theorem gC_cW {E : gEn} {σ : gSt} {π : Nat → Nat} {o : Int64} {i j d i' j' : Nat} {v : Int32} (hne : ¬(i' = i ∧ j' = j)) (hv' : gV E i' j') : gC E (gU σ i (cW (σ i) j d v)) π o i' j' = gC E σ π o i' j' := by
  by_cases hi : i' = i
  · subst hi
    have hj : j' ≠ j := fun q => hne ⟨rfl, q⟩
    have e : ∀ k, cW (σ i') j d v j' k = σ i' j' k := fun k => by simp [cW, hj]
    have e2 : cW (σ i') j d v j' = σ i' j' := funext e
    unfold gC
    rw [gU_at, e2]
    unfold gV at hv'
    by_cases h9 : i' < 9
    · rw [if_pos h9, if_pos h9]
      by_cases h0 : j' = 0
      · subst h0; simp only [gFc, e, if_true]
      · by_cases h17 : j' = 17
        · subst h17; simp [gFw, e]
        · simp only [h0, h17, if_false]
    · rw [if_neg h9, if_neg h9]
      by_cases hi9 : i' = 9
      · rw [if_pos hi9, if_pos hi9]
        have hjj : j' = 0 ∨ j' = 1 ∨ j' = 2 ∨ j' = 3 := by omega
        rcases hjj with rfl | rfl | rfl | rfl
        · simp only [gFm, e, if_true]
        · rfl
        · rfl
        · simp [gFr, e]
      · rw [if_neg hi9, if_neg hi9]
  · unfold gC
    rw [gU_ne hi]
/-- an int array's place is written -/
theorem CW.put {E : gEn} {σ : gSt} {π : Nat → Nat} {o : Int64} {H H1 : Heap} (h : CW E σ π o H) (hI : gInj E) {i j n d : Nat} {v : Int32} (hv : gV E i j) (hn : gN i j = some n) (hat : H1[E.2.1 i j]? = some (vp_cell E.2.2.1 (n, .inl (upd (σ i j) d v)))) (oq : ∀ q, q ≠ E.2.1 i j → H1[q]? = H[q]?) : CW E (gU σ i (cW (σ i) j d v)) π o H1 := by
  refine h.chg hI hv (fun i' j' hv' hne => gC_cW hne hv') (gC_arr hn hv) ?_ oq
  show H1[_]? = some (vp_cell _ _)
  rw [hat]
  congr 2
  congr 2
  funext k
  rw [gU_at]
  simp [cW, upd]
/-- an int array gets another one's contents, as far as its length goes -/
theorem CW.fill {E : gEn} {σ : gSt} {π : Nat → Nat} {o : Int64} {H H1 : Heap} (h : CW E σ π o H) (hI : gInj E) {i j n : Nat} {f g : Nat → Int32} (hv : gV E i j) (hn : gN i j = some n) (hat : H1[E.2.1 i j]? = some (vp_cell E.2.2.1 (n, .inl f))) (hf : ∀ d, d < n → f d = g d) (oq : ∀ q, q ≠ E.2.1 i j → H1[q]? = H[q]?) (hne : ∀ i' j', gV E i' j' → ¬(i' = i ∧ j' = j) → gC E (gU σ i (fun j' => if j' = j then g else σ i j')) π o i' j' = gC E σ π o i' j') : CW E (gU σ i (fun j' => if j' = j then g else σ i j')) π o H1 := by
  refine h.chg hI hv hne (gC_arr hn hv) ?_ oq
  show H1[_]? = some (vp_cell _ _)
  rw [hat, gCell_ext hf, gU_at, if_pos rfl]
def ix (x : Int32) : Nat := x.toNatClampNeg
theorem ix_nI {n : Nat} (h : n < 2 ^ 31) : ix (nI n) = n := nI_clamp h
def bI (b : Bool) : Int32 := if b = true then 1 else 0
theorem bI_t : bI true = 1 := rfl
theorem bI_f : bI false = 0 := rfl
theorem bI_0 {b : Bool} : bI b = 0 ↔ b = false := by cases b <;> decide
theorem bI_n0 {b : Bool} : ¬ bI b = 0 ↔ b = true := by cases b <;> decide
theorem bI_nar (b : Bool) : narrow .boolean (.int (bI b)) = .int (bI b) := by cases b <;> rfl
def gB (E : gEn) (σ : gSt) (π : Nat → Nat) (o : Int64) : State → Prop := fun U => CW E σ π o U.heap ∧ gK E U
def CtI (l : Launch) (y : MethodName) (ws : List Cond) (rm : Room) (E : gEn) (av : List Value) (σ : gSt) (π : Nat → Nat) (o : Int64) (r : Int32) (σ' : gSt) (π' : Nat → Nat) (o' : Int64) : Prop :=
  Met l y ws rm (va_Pc av (gB E σ π o)) (va_Qi (S := Unit) (fun x _ => x = r) (fun _ t => CW E σ' π' o' t.heap) (gA E)) 0 0 (gA E)
def CtL (l : Launch) (y : MethodName) (ws : List Cond) (rm : Room) (E : gEn) (av : List Value) (σ : gSt) (π : Nat → Nat) (o : Int64) (r : Int64) (σ' : gSt) (π' : Nat → Nat) (o' : Int64) : Prop :=
  Met l y ws rm (va_Pc av (gB E σ π o)) (va_Ql (S := Unit) (fun x _ => x = r) (fun _ t => CW E σ' π' o' t.heap) (gA E)) 0 0 (gA E)
def CtD (l : Launch) (y : MethodName) (ws : List Cond) (rm : Room) (E : gEn) (av : List Value) (σ : gSt) (π : Nat → Nat) (o : Int64) (r : UInt64) (σ' : gSt) (π' : Nat → Nat) (o' : Int64) : Prop :=
  Met l y ws rm (va_Pc av (gB E σ π o)) (va_Qd (S := Unit) (fun x _ => x = r) (fun _ t => CW E σ' π' o' t.heap) (gA E)) 0 0 (gA E)
def CtV (l : Launch) (y : MethodName) (ws : List Cond) (rm : Room) (E : gEn) (av : List Value) (σ : gSt) (π : Nat → Nat) (o : Int64) (σ' : gSt) (π' : Nat → Nat) (o' : Int64) : Prop :=
  Met l y ws rm (va_Pc av (gB E σ π o)) (va_Qv (S := Unit) (fun _ => True) (fun _ t => CW E σ' π' o' t.heap) (gA E)) 0 0 (gA E)
/-- the locals, by place; none: not known -/
def lvl (lv : List (Option Value)) : List (Nat × Value) := (List.range lv.length).filterMap (fun k => (lv.getD k none).map (fun v => (k, v)))
theorem lvl_mem {lv : List (Option Value)} {k : Nat} {v : Value} : (k, v) ∈ lvl lv ↔ lv[k]? = some (some v) := by
  unfold lvl
  rw [List.mem_filterMap]
  constructor
  · rintro ⟨i, hi, h⟩
    rw [List.mem_range] at hi
    rw [List.getD_eq_getElem?_getD, List.getElem?_eq_getElem hi] at h
    cases hx : lv[i] with
    | none => rw [hx] at h; simp at h
    | some y =>
      rw [hx] at h
      simp at h
      obtain ⟨rfl, rfl⟩ := h
      rw [List.getElem?_eq_getElem hi, hx]
  · intro h
    have hi : k < lv.length := (List.getElem?_eq_some_iff.mp h).1
    refine ⟨k, List.mem_range.mpr hi, ?_⟩
    rw [List.getD_eq_getElem?_getD, h]
    rfl
def lh (ls : Array Slot) (n : Nat) (lv : List (Option Value)) : Prop := lv_has ls n (lvl lv)
theorem lh.at {ls : Array Slot} {n : Nat} {lv : List (Option Value)} (h : lh ls n lv) {k : Nat} {v : Value} (hk : lv[k]? = some (some v)) : ls[k]? = some (.val v) := h.2.2 (k, v) (lvl_mem.mpr hk)
theorem lh.less {ls : Array Slot} {n : Nat} {lv lv' : List (Option Value)} (h : lh ls n lv) (hl : ∀ (k : Nat) (v : Value), lv'[k]? = some (some v) → lv[k]? = some (some v)) : lh ls n lv' := ⟨h.1, h.2.1, fun q hq => h.2.2 q (lvl_mem.mpr (hl q.1 q.2 (lvl_mem.mp hq)))⟩
theorem lh.filt {ls : Array Slot} {n i : Nat} {lv : List (Option Value)} {x : Value} {f : Nat × Value → Bool} (h : lv_has ls n ((i, x) :: (lvl lv).filter f)) (hf : ∀ (k : Nat) (v : Value), lv[k]? = some (some v) → k ≠ i → f (k, v) = true) : lh ls n (lv.set i (some x)) := by
  refine ⟨h.1, h.2.1, fun q hq => h.2.2 q ?_⟩
  have h1 := lvl_mem.mp hq
  by_cases hk : q.1 = i
  · rw [hk] at h1
    have hl : i < lv.length := by
      have := (List.getElem?_eq_some_iff.mp h1).1
      simpa using this
    rw [List.getElem?_set_self hl] at h1
    have e : q = (i, x) := by
      obtain ⟨a, b⟩ := q
      simp at hk h1 ⊢
      exact ⟨hk, h1.symm⟩
    rw [e]; exact List.mem_cons_self
  · rw [List.getElem?_set_ne (Ne.symm hk)] at h1
    exact List.mem_cons_of_mem _ (List.mem_filter.mpr ⟨lvl_mem.mpr h1, hf _ _ h1 hk⟩)
/-- no value of two slots ends at place i -/
def lv1 (lv : List (Option Value)) (i : Nat) : Bool := match i with
  | 0 => true
  | k + 1 => match lv.getD k none with
    | none => true
    | some v => v.category == 1
theorem lv1_ok {lv : List (Option Value)} {i k : Nat} {v : Value} (h : lv1 lv i = true) (hk : lv[k]? = some (some v)) : (!(k + 1 == i && v.category == 2)) = true := by
  cases i with
  | zero => simp
  | succ i =>
    by_cases e : k = i
    · subst e
      simp only [lv1, List.getD_eq_getElem?_getD, hk] at h
      simp at h
      simp [h]
    · simp [e]
theorem lh2 {ls : Array Slot} {n i : Nat} {lv : List (Option Value)} {x : Value} (h : lv_has ls n ((i, x) :: (lvl lv).filter (fun q => !(q.1 == i) && (!(q.1 == i + 1) && !(q.1 + 1 == i && q.2.category == 2))))) (h1 : lv1 lv i = true) : lh ls n ((lv.set i (some x)).set (i + 1) none) := by
  refine ⟨h.1, h.2.1, fun q hq => h.2.2 q ?_⟩
  have h2 := lvl_mem.mp hq
  by_cases hk1 : q.1 = i + 1
  · rw [hk1] at h2
    have hl : i + 1 < (lv.set i (some x)).length := by
      have := (List.getElem?_eq_some_iff.mp h2).1
      simpa using this
    rw [List.getElem?_set_self hl] at h2
    cases h2
  · rw [List.getElem?_set_ne (Ne.symm hk1)] at h2
    by_cases hk : q.1 = i
    · rw [hk] at h2
      have hl : i < lv.length := by
        have := (List.getElem?_eq_some_iff.mp h2).1
        simpa using this
      rw [List.getElem?_set_self hl] at h2
      have e : q = (i, x) := by
        obtain ⟨a, b⟩ := q
        simp at hk h2 ⊢
        exact ⟨hk, h2.symm⟩
      rw [e]; exact List.mem_cons_self
    · rw [List.getElem?_set_ne (Ne.symm hk)] at h2
      refine List.mem_cons_of_mem _ (List.mem_filter.mpr ⟨lvl_mem.mpr h2, ?_⟩)
      have := lv1_ok h1 h2
      simp only [Bool.and_eq_true]
      exact ⟨by simp [hk], by simp [hk1], this⟩
section GL
variable {p : Program} {l : Launch} {e : Env} {R : Room} {s : State} {m : MethodId} {args : Array Value} {below : List Frame} {meth : Method} {c : Code} {Q : State → Prop} {cc : ByteArray} {own : String} {Ts : List Cond} {nL cl sl : Nat} {E : gEn} {A : Nat → Prop} {σ σ' : gSt} {π π' : Nat → Nat} {o o' : Int64}
/-- what a method's walk stands on -/
def gCx (p : Program) (s : State) (m : MethodId) (c : Code) (cc : ByteArray) (nL : Nat) (own : String) (Ts : List Cond) (args : Array Value) (E : gEn) (A : Nat → Prop) (R : Room) (cl sl : Nat) : Prop := CallFix p m c cc nL s args Ts own ∧ gK E s ∧ (∀ q, gA E q → A q) ∧ cl ≤ R.cells ∧ sl ≤ R.slots
def G (p : Program) (l : Launch) (e : Env) (R : Room) (s : State) (m : MethodId) (args : Array Value) (below : List Frame) (meth : Method) (c : Code) (nL cl sl : Nat) (A : Nat → Prop) (Q : State → Prop) (E : gEn) (σ : gSt) (π : Nat → Nat) (o : Int64) (pc : Nat) (lv : List (Option Value)) (st : List Value) : Prop :=
  ∀ (H : Heap) (locs : List Loc) (ls : Array Slot), CW E σ π o H → va_S A s.heap H locs → lh ls nL lv → W p l e R s m args below meth c H locs cl sl Q (F0 m pc ls st)
theorem G.cast {pc : Nat} {lv lv' : List (Option Value)} {st st' : List Value} (h : G p l e R s m args below meth c nL cl sl A Q E σ' π' o' pc lv' st') (e1 : σ = σ') (e2 : π = π') (e3 : o = o') (e4 : lv = lv') (e5 : st = st') : G p l e R s m args below meth c nL cl sl A Q E σ π o pc lv st := by
  subst e1; subst e2; subst e3; subst e4; subst e5; exact h
theorem G.less {pc : Nat} {lv lv' : List (Option Value)} {st : List Value} (hl : ∀ (k : Nat) (v : Value), lv'[k]? = some (some v) → lv[k]? = some (some v)) (h : G p l e R s m args below meth c nL cl sl A Q E σ π o pc lv' st) : G p l e R s m args below meth c nL cl sl A Q E σ π o pc lv st :=
  fun H locs ls hW hS hl0 => h H locs ls hW hS (hl0.less hl)
theorem G.iconst (C : gCx p s m c cc nL own Ts args E A R cl sl) {pc : Nat}  {lv : List (Option Value)} {st : List Value} {n : Int} (v : Int32) (hd : decode cc pc = .ok (.iconst n, 1)) (hv : Int32.ofInt n = v) (k : G p l e R s m args below meth c nL cl sl A Q E σ π o (pc + 1) lv (.int v :: st)) : G p l e R s m args below meth c nL cl sl A Q E σ π o pc lv st :=
  fun H locs ls hW hS hl => lv_iconst C.1.1 C.1.2.1 hd hv (k H locs ls hW hS hl)
theorem G.bipush (C : gCx p s m c cc nL own Ts args E A R cl sl) {pc : Nat}  {lv : List (Option Value)} {st : List Value} {n : Int} (v : Int32) (hd : decode cc pc = .ok (.bipush n, 2)) (hv : (Int8.ofInt n).toInt32 = v) (k : G p l e R s m args below meth c nL cl sl A Q E σ π o (pc + 2) lv (.int v :: st)) : G p l e R s m args below meth c nL cl sl A Q E σ π o pc lv st :=
  fun H locs ls hW hS hl => lv_bipush C.1.1 C.1.2.1 hd hv (k H locs ls hW hS hl)
theorem G.sipush (C : gCx p s m c cc nL own Ts args E A R cl sl) {pc : Nat}  {lv : List (Option Value)} {st : List Value} {n : Int} (v : Int32) (hd : decode cc pc = .ok (.sipush n, 3)) (hv : (Int16.ofInt n).toInt32 = v) (k : G p l e R s m args below meth c nL cl sl A Q E σ π o (pc + 3) lv (.int v :: st)) : G p l e R s m args below meth c nL cl sl A Q E σ π o pc lv st :=
  fun H locs ls hW hS hl => lv_sipush C.1.1 C.1.2.1 hd hv (k H locs ls hW hS hl)
theorem G.lconst (C : gCx p s m c cc nL own Ts args E A R cl sl) {pc : Nat}  {lv : List (Option Value)} {st : List Value} {n : Fin 2} (v : Int64) (hd : decode cc pc = .ok (.lconst n, 1)) (hv : Int64.ofNat (n : Nat) = v) (k : G p l e R s m args below meth c nL cl sl A Q E σ π o (pc + 1) lv (.long v :: st)) : G p l e R s m args below meth c nL cl sl A Q E σ π o pc lv st :=
  fun H locs ls hW hS hl => lv_lconst C.1.1 C.1.2.1 hd hv (k H locs ls hW hS hl)
theorem G.ldc2 (C : gCx p s m c cc nL own Ts args E A R cl sl) {pc : Nat}  {lv : List (Option Value)} {st : List Value} {index : Nat} {v : Int64} (hc : (Jvm.Cond.constantLong own index v).before args s = true) (hd : decode cc pc = .ok (.ldc2_w index, 3)) (k : G p l e R s m args below meth c nL cl sl A Q E σ π o (pc + 3) lv (.long v :: st)) : G p l e R s m args below meth c nL cl sl A Q E σ π o pc lv st :=
  fun H locs ls hW hS hl => lv_ldc2 C.1.1 C.1.2.1 C.1.2.2.2.1 hc hd (k H locs ls hW hS hl)
theorem G.goto (C : gCx p s m c cc nL own Ts args E A R cl sl) {pc : Nat}  {lv : List (Option Value)} {st : List Value} {off : Int} (tgt : Nat) (hd : decode cc pc = .ok (.goto off, 3)) (ht : (pc : Int) + off = (tgt : Int)) (k : G p l e R s m args below meth c nL cl sl A Q E σ π o tgt lv st) : G p l e R s m args below meth c nL cl sl A Q E σ π o pc lv st :=
  fun H locs ls hW hS hl => lv_goto C.1.1 C.1.2.1 hd ht (k H locs ls hW hS hl)
theorem G.ild0 (C : gCx p s m c cc nL own Ts args E A R cl sl) {pc : Nat}   {r : List (Option Value)} {st : List Value} {x : Int32} (hd : decode cc pc = .ok (.iload 0, 2)) (k : G p l e R s m args below meth c nL cl sl A Q E σ π o (pc + 2) (some (.int x) :: r) (.int x :: st)) : G p l e R s m args below meth c nL cl sl A Q E σ π o pc (some (.int x) :: r) st :=
  fun H locs ls hW hS hl => lv_iload C.1.1 C.1.2.1 hd (hl.at rfl) (k H locs ls hW hS hl)
theorem G.ildn0 (C : gCx p s m c cc nL own Ts args E A R cl sl) {pc : Nat}   {r : List (Option Value)} {st : List Value} {x : Int32} (hd : decode cc pc = .ok (.iload_n 0, 1)) (k : G p l e R s m args below meth c nL cl sl A Q E σ π o (pc + 1) (some (.int x) :: r) (.int x :: st)) : G p l e R s m args below meth c nL cl sl A Q E σ π o pc (some (.int x) :: r) st :=
  fun H locs ls hW hS hl => lv_iload_n C.1.1 C.1.2.1 hd rfl (hl.at rfl) (k H locs ls hW hS hl)
theorem G.ist0 (C : gCx p s m c cc nL own Ts args E A R cl sl) {pc : Nat}  { b : Option Value} {r : List (Option Value)} {st : List Value} {x : Int32} (hd : decode cc pc = .ok (.istore 0, 2)) (hn : 0 < nL) (h1 : lv1 (b :: r) 0 = true) (k : G p l e R s m args below meth c nL cl sl A Q E σ π o (pc + 2) (some (.int x) :: r) st) : G p l e R s m args below meth c nL cl sl A Q E σ π o pc (b :: r) (.int x :: st) :=
  fun H locs ls hW hS hl => lv_istore C.1.1 C.1.2.1 hd hl hn rfl (fun ls' h' => k H locs ls' hW hS (lh.filt (lv := (b :: r)) h' (fun k v hk hne => by simp only [Bool.and_eq_true]; exact ⟨by simp [hne], lv1_ok h1 hk⟩)))
theorem G.istn0 (C : gCx p s m c cc nL own Ts args E A R cl sl) {pc : Nat}  { b : Option Value} {r : List (Option Value)} {st : List Value} {x : Int32} (hd : decode cc pc = .ok (.istore_n 0, 1)) (hn : 0 < nL) (h1 : lv1 (b :: r) 0 = true) (k : G p l e R s m args below meth c nL cl sl A Q E σ π o (pc + 1) (some (.int x) :: r) st) : G p l e R s m args below meth c nL cl sl A Q E σ π o pc (b :: r) (.int x :: st) :=
  fun H locs ls hW hS hl => lv_istore_n (i := 0) C.1.1 C.1.2.1 hd rfl hl hn rfl (fun ls' h' => k H locs ls' hW hS (lh.filt (lv := (b :: r)) h' (fun k v hk hne => by simp only [Bool.and_eq_true]; exact ⟨by simp [hne], lv1_ok h1 hk⟩)))
theorem G.ild1 (C : gCx p s m c cc nL own Ts args E A R cl sl) {pc : Nat}  {a0 : Option Value} {r : List (Option Value)} {st : List Value} {x : Int32} (hd : decode cc pc = .ok (.iload 1, 2)) (k : G p l e R s m args below meth c nL cl sl A Q E σ π o (pc + 2) (a0 :: some (.int x) :: r) (.int x :: st)) : G p l e R s m args below meth c nL cl sl A Q E σ π o pc (a0 :: some (.int x) :: r) st :=
  fun H locs ls hW hS hl => lv_iload C.1.1 C.1.2.1 hd (hl.at rfl) (k H locs ls hW hS hl)
theorem G.ildn1 (C : gCx p s m c cc nL own Ts args E A R cl sl) {pc : Nat}  {a0 : Option Value} {r : List (Option Value)} {st : List Value} {x : Int32} (hd : decode cc pc = .ok (.iload_n 1, 1)) (k : G p l e R s m args below meth c nL cl sl A Q E σ π o (pc + 1) (a0 :: some (.int x) :: r) (.int x :: st)) : G p l e R s m args below meth c nL cl sl A Q E σ π o pc (a0 :: some (.int x) :: r) st :=
  fun H locs ls hW hS hl => lv_iload_n C.1.1 C.1.2.1 hd rfl (hl.at rfl) (k H locs ls hW hS hl)
theorem G.ist1 (C : gCx p s m c cc nL own Ts args E A R cl sl) {pc : Nat}  {a0 b : Option Value} {r : List (Option Value)} {st : List Value} {x : Int32} (hd : decode cc pc = .ok (.istore 1, 2)) (hn : 1 < nL) (h1 : lv1 (a0 :: b :: r) 1 = true) (k : G p l e R s m args below meth c nL cl sl A Q E σ π o (pc + 2) (a0 :: some (.int x) :: r) st) : G p l e R s m args below meth c nL cl sl A Q E σ π o pc (a0 :: b :: r) (.int x :: st) :=
  fun H locs ls hW hS hl => lv_istore C.1.1 C.1.2.1 hd hl hn rfl (fun ls' h' => k H locs ls' hW hS (lh.filt (lv := (a0 :: b :: r)) h' (fun k v hk hne => by simp only [Bool.and_eq_true]; exact ⟨by simp [hne], lv1_ok h1 hk⟩)))
theorem G.istn1 (C : gCx p s m c cc nL own Ts args E A R cl sl) {pc : Nat}  {a0 b : Option Value} {r : List (Option Value)} {st : List Value} {x : Int32} (hd : decode cc pc = .ok (.istore_n 1, 1)) (hn : 1 < nL) (h1 : lv1 (a0 :: b :: r) 1 = true) (k : G p l e R s m args below meth c nL cl sl A Q E σ π o (pc + 1) (a0 :: some (.int x) :: r) st) : G p l e R s m args below meth c nL cl sl A Q E σ π o pc (a0 :: b :: r) (.int x :: st) :=
  fun H locs ls hW hS hl => lv_istore_n (i := 1) C.1.1 C.1.2.1 hd rfl hl hn rfl (fun ls' h' => k H locs ls' hW hS (lh.filt (lv := (a0 :: b :: r)) h' (fun k v hk hne => by simp only [Bool.and_eq_true]; exact ⟨by simp [hne], lv1_ok h1 hk⟩)))
theorem G.ild2 (C : gCx p s m c cc nL own Ts args E A R cl sl) {pc : Nat}  {a0 a1 : Option Value} {r : List (Option Value)} {st : List Value} {x : Int32} (hd : decode cc pc = .ok (.iload 2, 2)) (k : G p l e R s m args below meth c nL cl sl A Q E σ π o (pc + 2) (a0 :: a1 :: some (.int x) :: r) (.int x :: st)) : G p l e R s m args below meth c nL cl sl A Q E σ π o pc (a0 :: a1 :: some (.int x) :: r) st :=
  fun H locs ls hW hS hl => lv_iload C.1.1 C.1.2.1 hd (hl.at rfl) (k H locs ls hW hS hl)
theorem G.ildn2 (C : gCx p s m c cc nL own Ts args E A R cl sl) {pc : Nat}  {a0 a1 : Option Value} {r : List (Option Value)} {st : List Value} {x : Int32} (hd : decode cc pc = .ok (.iload_n 2, 1)) (k : G p l e R s m args below meth c nL cl sl A Q E σ π o (pc + 1) (a0 :: a1 :: some (.int x) :: r) (.int x :: st)) : G p l e R s m args below meth c nL cl sl A Q E σ π o pc (a0 :: a1 :: some (.int x) :: r) st :=
  fun H locs ls hW hS hl => lv_iload_n C.1.1 C.1.2.1 hd rfl (hl.at rfl) (k H locs ls hW hS hl)
theorem G.ist2 (C : gCx p s m c cc nL own Ts args E A R cl sl) {pc : Nat}  {a0 a1 b : Option Value} {r : List (Option Value)} {st : List Value} {x : Int32} (hd : decode cc pc = .ok (.istore 2, 2)) (hn : 2 < nL) (h1 : lv1 (a0 :: a1 :: b :: r) 2 = true) (k : G p l e R s m args below meth c nL cl sl A Q E σ π o (pc + 2) (a0 :: a1 :: some (.int x) :: r) st) : G p l e R s m args below meth c nL cl sl A Q E σ π o pc (a0 :: a1 :: b :: r) (.int x :: st) :=
  fun H locs ls hW hS hl => lv_istore C.1.1 C.1.2.1 hd hl hn rfl (fun ls' h' => k H locs ls' hW hS (lh.filt (lv := (a0 :: a1 :: b :: r)) h' (fun k v hk hne => by simp only [Bool.and_eq_true]; exact ⟨by simp [hne], lv1_ok h1 hk⟩)))
theorem G.istn2 (C : gCx p s m c cc nL own Ts args E A R cl sl) {pc : Nat}  {a0 a1 b : Option Value} {r : List (Option Value)} {st : List Value} {x : Int32} (hd : decode cc pc = .ok (.istore_n 2, 1)) (hn : 2 < nL) (h1 : lv1 (a0 :: a1 :: b :: r) 2 = true) (k : G p l e R s m args below meth c nL cl sl A Q E σ π o (pc + 1) (a0 :: a1 :: some (.int x) :: r) st) : G p l e R s m args below meth c nL cl sl A Q E σ π o pc (a0 :: a1 :: b :: r) (.int x :: st) :=
  fun H locs ls hW hS hl => lv_istore_n (i := 2) C.1.1 C.1.2.1 hd rfl hl hn rfl (fun ls' h' => k H locs ls' hW hS (lh.filt (lv := (a0 :: a1 :: b :: r)) h' (fun k v hk hne => by simp only [Bool.and_eq_true]; exact ⟨by simp [hne], lv1_ok h1 hk⟩)))
theorem G.ild3 (C : gCx p s m c cc nL own Ts args E A R cl sl) {pc : Nat}  {a0 a1 a2 : Option Value} {r : List (Option Value)} {st : List Value} {x : Int32} (hd : decode cc pc = .ok (.iload 3, 2)) (k : G p l e R s m args below meth c nL cl sl A Q E σ π o (pc + 2) (a0 :: a1 :: a2 :: some (.int x) :: r) (.int x :: st)) : G p l e R s m args below meth c nL cl sl A Q E σ π o pc (a0 :: a1 :: a2 :: some (.int x) :: r) st :=
  fun H locs ls hW hS hl => lv_iload C.1.1 C.1.2.1 hd (hl.at rfl) (k H locs ls hW hS hl)
theorem G.ildn3 (C : gCx p s m c cc nL own Ts args E A R cl sl) {pc : Nat}  {a0 a1 a2 : Option Value} {r : List (Option Value)} {st : List Value} {x : Int32} (hd : decode cc pc = .ok (.iload_n 3, 1)) (k : G p l e R s m args below meth c nL cl sl A Q E σ π o (pc + 1) (a0 :: a1 :: a2 :: some (.int x) :: r) (.int x :: st)) : G p l e R s m args below meth c nL cl sl A Q E σ π o pc (a0 :: a1 :: a2 :: some (.int x) :: r) st :=
  fun H locs ls hW hS hl => lv_iload_n C.1.1 C.1.2.1 hd rfl (hl.at rfl) (k H locs ls hW hS hl)
theorem G.ist3 (C : gCx p s m c cc nL own Ts args E A R cl sl) {pc : Nat}  {a0 a1 a2 b : Option Value} {r : List (Option Value)} {st : List Value} {x : Int32} (hd : decode cc pc = .ok (.istore 3, 2)) (hn : 3 < nL) (h1 : lv1 (a0 :: a1 :: a2 :: b :: r) 3 = true) (k : G p l e R s m args below meth c nL cl sl A Q E σ π o (pc + 2) (a0 :: a1 :: a2 :: some (.int x) :: r) st) : G p l e R s m args below meth c nL cl sl A Q E σ π o pc (a0 :: a1 :: a2 :: b :: r) (.int x :: st) :=
  fun H locs ls hW hS hl => lv_istore C.1.1 C.1.2.1 hd hl hn rfl (fun ls' h' => k H locs ls' hW hS (lh.filt (lv := (a0 :: a1 :: a2 :: b :: r)) h' (fun k v hk hne => by simp only [Bool.and_eq_true]; exact ⟨by simp [hne], lv1_ok h1 hk⟩)))
theorem G.istn3 (C : gCx p s m c cc nL own Ts args E A R cl sl) {pc : Nat}  {a0 a1 a2 b : Option Value} {r : List (Option Value)} {st : List Value} {x : Int32} (hd : decode cc pc = .ok (.istore_n 3, 1)) (hn : 3 < nL) (h1 : lv1 (a0 :: a1 :: a2 :: b :: r) 3 = true) (k : G p l e R s m args below meth c nL cl sl A Q E σ π o (pc + 1) (a0 :: a1 :: a2 :: some (.int x) :: r) st) : G p l e R s m args below meth c nL cl sl A Q E σ π o pc (a0 :: a1 :: a2 :: b :: r) (.int x :: st) :=
  fun H locs ls hW hS hl => lv_istore_n (i := 3) C.1.1 C.1.2.1 hd rfl hl hn rfl (fun ls' h' => k H locs ls' hW hS (lh.filt (lv := (a0 :: a1 :: a2 :: b :: r)) h' (fun k v hk hne => by simp only [Bool.and_eq_true]; exact ⟨by simp [hne], lv1_ok h1 hk⟩)))
theorem G.ild4 (C : gCx p s m c cc nL own Ts args E A R cl sl) {pc : Nat}  {a0 a1 a2 a3 : Option Value} {r : List (Option Value)} {st : List Value} {x : Int32} (hd : decode cc pc = .ok (.iload 4, 2)) (k : G p l e R s m args below meth c nL cl sl A Q E σ π o (pc + 2) (a0 :: a1 :: a2 :: a3 :: some (.int x) :: r) (.int x :: st)) : G p l e R s m args below meth c nL cl sl A Q E σ π o pc (a0 :: a1 :: a2 :: a3 :: some (.int x) :: r) st :=
  fun H locs ls hW hS hl => lv_iload C.1.1 C.1.2.1 hd (hl.at rfl) (k H locs ls hW hS hl)
theorem G.ist4 (C : gCx p s m c cc nL own Ts args E A R cl sl) {pc : Nat}  {a0 a1 a2 a3 b : Option Value} {r : List (Option Value)} {st : List Value} {x : Int32} (hd : decode cc pc = .ok (.istore 4, 2)) (hn : 4 < nL) (h1 : lv1 (a0 :: a1 :: a2 :: a3 :: b :: r) 4 = true) (k : G p l e R s m args below meth c nL cl sl A Q E σ π o (pc + 2) (a0 :: a1 :: a2 :: a3 :: some (.int x) :: r) st) : G p l e R s m args below meth c nL cl sl A Q E σ π o pc (a0 :: a1 :: a2 :: a3 :: b :: r) (.int x :: st) :=
  fun H locs ls hW hS hl => lv_istore C.1.1 C.1.2.1 hd hl hn rfl (fun ls' h' => k H locs ls' hW hS (lh.filt (lv := (a0 :: a1 :: a2 :: a3 :: b :: r)) h' (fun k v hk hne => by simp only [Bool.and_eq_true]; exact ⟨by simp [hne], lv1_ok h1 hk⟩)))
theorem G.ild5 (C : gCx p s m c cc nL own Ts args E A R cl sl) {pc : Nat}  {a0 a1 a2 a3 a4 : Option Value} {r : List (Option Value)} {st : List Value} {x : Int32} (hd : decode cc pc = .ok (.iload 5, 2)) (k : G p l e R s m args below meth c nL cl sl A Q E σ π o (pc + 2) (a0 :: a1 :: a2 :: a3 :: a4 :: some (.int x) :: r) (.int x :: st)) : G p l e R s m args below meth c nL cl sl A Q E σ π o pc (a0 :: a1 :: a2 :: a3 :: a4 :: some (.int x) :: r) st :=
  fun H locs ls hW hS hl => lv_iload C.1.1 C.1.2.1 hd (hl.at rfl) (k H locs ls hW hS hl)
theorem G.ist5 (C : gCx p s m c cc nL own Ts args E A R cl sl) {pc : Nat}  {a0 a1 a2 a3 a4 b : Option Value} {r : List (Option Value)} {st : List Value} {x : Int32} (hd : decode cc pc = .ok (.istore 5, 2)) (hn : 5 < nL) (h1 : lv1 (a0 :: a1 :: a2 :: a3 :: a4 :: b :: r) 5 = true) (k : G p l e R s m args below meth c nL cl sl A Q E σ π o (pc + 2) (a0 :: a1 :: a2 :: a3 :: a4 :: some (.int x) :: r) st) : G p l e R s m args below meth c nL cl sl A Q E σ π o pc (a0 :: a1 :: a2 :: a3 :: a4 :: b :: r) (.int x :: st) :=
  fun H locs ls hW hS hl => lv_istore C.1.1 C.1.2.1 hd hl hn rfl (fun ls' h' => k H locs ls' hW hS (lh.filt (lv := (a0 :: a1 :: a2 :: a3 :: a4 :: b :: r)) h' (fun k v hk hne => by simp only [Bool.and_eq_true]; exact ⟨by simp [hne], lv1_ok h1 hk⟩)))
theorem G.ild6 (C : gCx p s m c cc nL own Ts args E A R cl sl) {pc : Nat}  {a0 a1 a2 a3 a4 a5 : Option Value} {r : List (Option Value)} {st : List Value} {x : Int32} (hd : decode cc pc = .ok (.iload 6, 2)) (k : G p l e R s m args below meth c nL cl sl A Q E σ π o (pc + 2) (a0 :: a1 :: a2 :: a3 :: a4 :: a5 :: some (.int x) :: r) (.int x :: st)) : G p l e R s m args below meth c nL cl sl A Q E σ π o pc (a0 :: a1 :: a2 :: a3 :: a4 :: a5 :: some (.int x) :: r) st :=
  fun H locs ls hW hS hl => lv_iload C.1.1 C.1.2.1 hd (hl.at rfl) (k H locs ls hW hS hl)
theorem G.ist6 (C : gCx p s m c cc nL own Ts args E A R cl sl) {pc : Nat}  {a0 a1 a2 a3 a4 a5 b : Option Value} {r : List (Option Value)} {st : List Value} {x : Int32} (hd : decode cc pc = .ok (.istore 6, 2)) (hn : 6 < nL) (h1 : lv1 (a0 :: a1 :: a2 :: a3 :: a4 :: a5 :: b :: r) 6 = true) (k : G p l e R s m args below meth c nL cl sl A Q E σ π o (pc + 2) (a0 :: a1 :: a2 :: a3 :: a4 :: a5 :: some (.int x) :: r) st) : G p l e R s m args below meth c nL cl sl A Q E σ π o pc (a0 :: a1 :: a2 :: a3 :: a4 :: a5 :: b :: r) (.int x :: st) :=
  fun H locs ls hW hS hl => lv_istore C.1.1 C.1.2.1 hd hl hn rfl (fun ls' h' => k H locs ls' hW hS (lh.filt (lv := (a0 :: a1 :: a2 :: a3 :: a4 :: a5 :: b :: r)) h' (fun k v hk hne => by simp only [Bool.and_eq_true]; exact ⟨by simp [hne], lv1_ok h1 hk⟩)))
theorem G.ild7 (C : gCx p s m c cc nL own Ts args E A R cl sl) {pc : Nat}  {a0 a1 a2 a3 a4 a5 a6 : Option Value} {r : List (Option Value)} {st : List Value} {x : Int32} (hd : decode cc pc = .ok (.iload 7, 2)) (k : G p l e R s m args below meth c nL cl sl A Q E σ π o (pc + 2) (a0 :: a1 :: a2 :: a3 :: a4 :: a5 :: a6 :: some (.int x) :: r) (.int x :: st)) : G p l e R s m args below meth c nL cl sl A Q E σ π o pc (a0 :: a1 :: a2 :: a3 :: a4 :: a5 :: a6 :: some (.int x) :: r) st :=
  fun H locs ls hW hS hl => lv_iload C.1.1 C.1.2.1 hd (hl.at rfl) (k H locs ls hW hS hl)
theorem G.ist7 (C : gCx p s m c cc nL own Ts args E A R cl sl) {pc : Nat}  {a0 a1 a2 a3 a4 a5 a6 b : Option Value} {r : List (Option Value)} {st : List Value} {x : Int32} (hd : decode cc pc = .ok (.istore 7, 2)) (hn : 7 < nL) (h1 : lv1 (a0 :: a1 :: a2 :: a3 :: a4 :: a5 :: a6 :: b :: r) 7 = true) (k : G p l e R s m args below meth c nL cl sl A Q E σ π o (pc + 2) (a0 :: a1 :: a2 :: a3 :: a4 :: a5 :: a6 :: some (.int x) :: r) st) : G p l e R s m args below meth c nL cl sl A Q E σ π o pc (a0 :: a1 :: a2 :: a3 :: a4 :: a5 :: a6 :: b :: r) (.int x :: st) :=
  fun H locs ls hW hS hl => lv_istore C.1.1 C.1.2.1 hd hl hn rfl (fun ls' h' => k H locs ls' hW hS (lh.filt (lv := (a0 :: a1 :: a2 :: a3 :: a4 :: a5 :: a6 :: b :: r)) h' (fun k v hk hne => by simp only [Bool.and_eq_true]; exact ⟨by simp [hne], lv1_ok h1 hk⟩)))
theorem G.ild8 (C : gCx p s m c cc nL own Ts args E A R cl sl) {pc : Nat}  {a0 a1 a2 a3 a4 a5 a6 a7 : Option Value} {r : List (Option Value)} {st : List Value} {x : Int32} (hd : decode cc pc = .ok (.iload 8, 2)) (k : G p l e R s m args below meth c nL cl sl A Q E σ π o (pc + 2) (a0 :: a1 :: a2 :: a3 :: a4 :: a5 :: a6 :: a7 :: some (.int x) :: r) (.int x :: st)) : G p l e R s m args below meth c nL cl sl A Q E σ π o pc (a0 :: a1 :: a2 :: a3 :: a4 :: a5 :: a6 :: a7 :: some (.int x) :: r) st :=
  fun H locs ls hW hS hl => lv_iload C.1.1 C.1.2.1 hd (hl.at rfl) (k H locs ls hW hS hl)
theorem G.ist8 (C : gCx p s m c cc nL own Ts args E A R cl sl) {pc : Nat}  {a0 a1 a2 a3 a4 a5 a6 a7 b : Option Value} {r : List (Option Value)} {st : List Value} {x : Int32} (hd : decode cc pc = .ok (.istore 8, 2)) (hn : 8 < nL) (h1 : lv1 (a0 :: a1 :: a2 :: a3 :: a4 :: a5 :: a6 :: a7 :: b :: r) 8 = true) (k : G p l e R s m args below meth c nL cl sl A Q E σ π o (pc + 2) (a0 :: a1 :: a2 :: a3 :: a4 :: a5 :: a6 :: a7 :: some (.int x) :: r) st) : G p l e R s m args below meth c nL cl sl A Q E σ π o pc (a0 :: a1 :: a2 :: a3 :: a4 :: a5 :: a6 :: a7 :: b :: r) (.int x :: st) :=
  fun H locs ls hW hS hl => lv_istore C.1.1 C.1.2.1 hd hl hn rfl (fun ls' h' => k H locs ls' hW hS (lh.filt (lv := (a0 :: a1 :: a2 :: a3 :: a4 :: a5 :: a6 :: a7 :: b :: r)) h' (fun k v hk hne => by simp only [Bool.and_eq_true]; exact ⟨by simp [hne], lv1_ok h1 hk⟩)))
theorem G.ild9 (C : gCx p s m c cc nL own Ts args E A R cl sl) {pc : Nat}  {a0 a1 a2 a3 a4 a5 a6 a7 a8 : Option Value} {r : List (Option Value)} {st : List Value} {x : Int32} (hd : decode cc pc = .ok (.iload 9, 2)) (k : G p l e R s m args below meth c nL cl sl A Q E σ π o (pc + 2) (a0 :: a1 :: a2 :: a3 :: a4 :: a5 :: a6 :: a7 :: a8 :: some (.int x) :: r) (.int x :: st)) : G p l e R s m args below meth c nL cl sl A Q E σ π o pc (a0 :: a1 :: a2 :: a3 :: a4 :: a5 :: a6 :: a7 :: a8 :: some (.int x) :: r) st :=
  fun H locs ls hW hS hl => lv_iload C.1.1 C.1.2.1 hd (hl.at rfl) (k H locs ls hW hS hl)
theorem G.ist9 (C : gCx p s m c cc nL own Ts args E A R cl sl) {pc : Nat}  {a0 a1 a2 a3 a4 a5 a6 a7 a8 b : Option Value} {r : List (Option Value)} {st : List Value} {x : Int32} (hd : decode cc pc = .ok (.istore 9, 2)) (hn : 9 < nL) (h1 : lv1 (a0 :: a1 :: a2 :: a3 :: a4 :: a5 :: a6 :: a7 :: a8 :: b :: r) 9 = true) (k : G p l e R s m args below meth c nL cl sl A Q E σ π o (pc + 2) (a0 :: a1 :: a2 :: a3 :: a4 :: a5 :: a6 :: a7 :: a8 :: some (.int x) :: r) st) : G p l e R s m args below meth c nL cl sl A Q E σ π o pc (a0 :: a1 :: a2 :: a3 :: a4 :: a5 :: a6 :: a7 :: a8 :: b :: r) (.int x :: st) :=
  fun H locs ls hW hS hl => lv_istore C.1.1 C.1.2.1 hd hl hn rfl (fun ls' h' => k H locs ls' hW hS (lh.filt (lv := (a0 :: a1 :: a2 :: a3 :: a4 :: a5 :: a6 :: a7 :: a8 :: b :: r)) h' (fun k v hk hne => by simp only [Bool.and_eq_true]; exact ⟨by simp [hne], lv1_ok h1 hk⟩)))
theorem G.iinc0 (C : gCx p s m c cc nL own Ts args E A R cl sl) {pc : Nat}   {r : List (Option Value)} {st : List Value} {x : Int32} {n : Int} (v : Int32) (hd : decode cc pc = .ok (.iinc 0 n, 3)) (hn : 0 < nL) (h1 : lv1 (some (.int x) :: r) 0 = true) (hv : x + Int32.ofInt n = v) (k : G p l e R s m args below meth c nL cl sl A Q E σ π o (pc + 3) (some (.int v) :: r) st) : G p l e R s m args below meth c nL cl sl A Q E σ π o pc (some (.int x) :: r) st :=
  fun H locs ls hW hS hl => by
    obtain ⟨k0, hk0⟩ := List.getElem?_of_mem (lvl_mem (lv := (some (.int x) :: r)) (k := 0) (v := .int x) |>.mpr rfl)
    exact lv_iinc C.1.1 C.1.2.1 hd hl hk0 hv hn rfl (fun ls' h' => k H locs ls' hW hS (lh.filt (lv := (some (.int x) :: r)) h' (fun k v hk hne => by simp only [Bool.and_eq_true]; exact ⟨by simp [hne], lv1_ok h1 hk⟩)))
theorem G.iincN0 (C : gCx p s m c cc nL own Ts args E A R cl sl) {pc : Nat}   {r : List (Option Value)} {st : List Value} {x : Nat} (hd : decode cc pc = .ok (.iinc 0 1, 3)) (hn : 0 < nL) (h1 : lv1 (some (.int (nI x)) :: r) 0 = true) (k : G p l e R s m args below meth c nL cl sl A Q E σ π o (pc + 3) (some (.int (nI (x + 1))) :: r) st) : G p l e R s m args below meth c nL cl sl A Q E σ π o pc (some (.int (nI x)) :: r) st :=
  G.iinc0 C (nI (x + 1)) hd hn h1 (nI_1 x) k
theorem G.iinc1 (C : gCx p s m c cc nL own Ts args E A R cl sl) {pc : Nat}  {a0 : Option Value} {r : List (Option Value)} {st : List Value} {x : Int32} {n : Int} (v : Int32) (hd : decode cc pc = .ok (.iinc 1 n, 3)) (hn : 1 < nL) (h1 : lv1 (a0 :: some (.int x) :: r) 1 = true) (hv : x + Int32.ofInt n = v) (k : G p l e R s m args below meth c nL cl sl A Q E σ π o (pc + 3) (a0 :: some (.int v) :: r) st) : G p l e R s m args below meth c nL cl sl A Q E σ π o pc (a0 :: some (.int x) :: r) st :=
  fun H locs ls hW hS hl => by
    obtain ⟨k0, hk0⟩ := List.getElem?_of_mem (lvl_mem (lv := (a0 :: some (.int x) :: r)) (k := 1) (v := .int x) |>.mpr rfl)
    exact lv_iinc C.1.1 C.1.2.1 hd hl hk0 hv hn rfl (fun ls' h' => k H locs ls' hW hS (lh.filt (lv := (a0 :: some (.int x) :: r)) h' (fun k v hk hne => by simp only [Bool.and_eq_true]; exact ⟨by simp [hne], lv1_ok h1 hk⟩)))
theorem G.iincN1 (C : gCx p s m c cc nL own Ts args E A R cl sl) {pc : Nat}  {a0 : Option Value} {r : List (Option Value)} {st : List Value} {x : Nat} (hd : decode cc pc = .ok (.iinc 1 1, 3)) (hn : 1 < nL) (h1 : lv1 (a0 :: some (.int (nI x)) :: r) 1 = true) (k : G p l e R s m args below meth c nL cl sl A Q E σ π o (pc + 3) (a0 :: some (.int (nI (x + 1))) :: r) st) : G p l e R s m args below meth c nL cl sl A Q E σ π o pc (a0 :: some (.int (nI x)) :: r) st :=
  G.iinc1 C (nI (x + 1)) hd hn h1 (nI_1 x) k
theorem G.iinc2 (C : gCx p s m c cc nL own Ts args E A R cl sl) {pc : Nat}  {a0 a1 : Option Value} {r : List (Option Value)} {st : List Value} {x : Int32} {n : Int} (v : Int32) (hd : decode cc pc = .ok (.iinc 2 n, 3)) (hn : 2 < nL) (h1 : lv1 (a0 :: a1 :: some (.int x) :: r) 2 = true) (hv : x + Int32.ofInt n = v) (k : G p l e R s m args below meth c nL cl sl A Q E σ π o (pc + 3) (a0 :: a1 :: some (.int v) :: r) st) : G p l e R s m args below meth c nL cl sl A Q E σ π o pc (a0 :: a1 :: some (.int x) :: r) st :=
  fun H locs ls hW hS hl => by
    obtain ⟨k0, hk0⟩ := List.getElem?_of_mem (lvl_mem (lv := (a0 :: a1 :: some (.int x) :: r)) (k := 2) (v := .int x) |>.mpr rfl)
    exact lv_iinc C.1.1 C.1.2.1 hd hl hk0 hv hn rfl (fun ls' h' => k H locs ls' hW hS (lh.filt (lv := (a0 :: a1 :: some (.int x) :: r)) h' (fun k v hk hne => by simp only [Bool.and_eq_true]; exact ⟨by simp [hne], lv1_ok h1 hk⟩)))
theorem G.iincN2 (C : gCx p s m c cc nL own Ts args E A R cl sl) {pc : Nat}  {a0 a1 : Option Value} {r : List (Option Value)} {st : List Value} {x : Nat} (hd : decode cc pc = .ok (.iinc 2 1, 3)) (hn : 2 < nL) (h1 : lv1 (a0 :: a1 :: some (.int (nI x)) :: r) 2 = true) (k : G p l e R s m args below meth c nL cl sl A Q E σ π o (pc + 3) (a0 :: a1 :: some (.int (nI (x + 1))) :: r) st) : G p l e R s m args below meth c nL cl sl A Q E σ π o pc (a0 :: a1 :: some (.int (nI x)) :: r) st :=
  G.iinc2 C (nI (x + 1)) hd hn h1 (nI_1 x) k
theorem G.iinc3 (C : gCx p s m c cc nL own Ts args E A R cl sl) {pc : Nat}  {a0 a1 a2 : Option Value} {r : List (Option Value)} {st : List Value} {x : Int32} {n : Int} (v : Int32) (hd : decode cc pc = .ok (.iinc 3 n, 3)) (hn : 3 < nL) (h1 : lv1 (a0 :: a1 :: a2 :: some (.int x) :: r) 3 = true) (hv : x + Int32.ofInt n = v) (k : G p l e R s m args below meth c nL cl sl A Q E σ π o (pc + 3) (a0 :: a1 :: a2 :: some (.int v) :: r) st) : G p l e R s m args below meth c nL cl sl A Q E σ π o pc (a0 :: a1 :: a2 :: some (.int x) :: r) st :=
  fun H locs ls hW hS hl => by
    obtain ⟨k0, hk0⟩ := List.getElem?_of_mem (lvl_mem (lv := (a0 :: a1 :: a2 :: some (.int x) :: r)) (k := 3) (v := .int x) |>.mpr rfl)
    exact lv_iinc C.1.1 C.1.2.1 hd hl hk0 hv hn rfl (fun ls' h' => k H locs ls' hW hS (lh.filt (lv := (a0 :: a1 :: a2 :: some (.int x) :: r)) h' (fun k v hk hne => by simp only [Bool.and_eq_true]; exact ⟨by simp [hne], lv1_ok h1 hk⟩)))
theorem G.iincN3 (C : gCx p s m c cc nL own Ts args E A R cl sl) {pc : Nat}  {a0 a1 a2 : Option Value} {r : List (Option Value)} {st : List Value} {x : Nat} (hd : decode cc pc = .ok (.iinc 3 1, 3)) (hn : 3 < nL) (h1 : lv1 (a0 :: a1 :: a2 :: some (.int (nI x)) :: r) 3 = true) (k : G p l e R s m args below meth c nL cl sl A Q E σ π o (pc + 3) (a0 :: a1 :: a2 :: some (.int (nI (x + 1))) :: r) st) : G p l e R s m args below meth c nL cl sl A Q E σ π o pc (a0 :: a1 :: a2 :: some (.int (nI x)) :: r) st :=
  G.iinc3 C (nI (x + 1)) hd hn h1 (nI_1 x) k
theorem G.iinc4 (C : gCx p s m c cc nL own Ts args E A R cl sl) {pc : Nat}  {a0 a1 a2 a3 : Option Value} {r : List (Option Value)} {st : List Value} {x : Int32} {n : Int} (v : Int32) (hd : decode cc pc = .ok (.iinc 4 n, 3)) (hn : 4 < nL) (h1 : lv1 (a0 :: a1 :: a2 :: a3 :: some (.int x) :: r) 4 = true) (hv : x + Int32.ofInt n = v) (k : G p l e R s m args below meth c nL cl sl A Q E σ π o (pc + 3) (a0 :: a1 :: a2 :: a3 :: some (.int v) :: r) st) : G p l e R s m args below meth c nL cl sl A Q E σ π o pc (a0 :: a1 :: a2 :: a3 :: some (.int x) :: r) st :=
  fun H locs ls hW hS hl => by
    obtain ⟨k0, hk0⟩ := List.getElem?_of_mem (lvl_mem (lv := (a0 :: a1 :: a2 :: a3 :: some (.int x) :: r)) (k := 4) (v := .int x) |>.mpr rfl)
    exact lv_iinc C.1.1 C.1.2.1 hd hl hk0 hv hn rfl (fun ls' h' => k H locs ls' hW hS (lh.filt (lv := (a0 :: a1 :: a2 :: a3 :: some (.int x) :: r)) h' (fun k v hk hne => by simp only [Bool.and_eq_true]; exact ⟨by simp [hne], lv1_ok h1 hk⟩)))
theorem G.iincN4 (C : gCx p s m c cc nL own Ts args E A R cl sl) {pc : Nat}  {a0 a1 a2 a3 : Option Value} {r : List (Option Value)} {st : List Value} {x : Nat} (hd : decode cc pc = .ok (.iinc 4 1, 3)) (hn : 4 < nL) (h1 : lv1 (a0 :: a1 :: a2 :: a3 :: some (.int (nI x)) :: r) 4 = true) (k : G p l e R s m args below meth c nL cl sl A Q E σ π o (pc + 3) (a0 :: a1 :: a2 :: a3 :: some (.int (nI (x + 1))) :: r) st) : G p l e R s m args below meth c nL cl sl A Q E σ π o pc (a0 :: a1 :: a2 :: a3 :: some (.int (nI x)) :: r) st :=
  G.iinc4 C (nI (x + 1)) hd hn h1 (nI_1 x) k
theorem G.iinc5 (C : gCx p s m c cc nL own Ts args E A R cl sl) {pc : Nat}  {a0 a1 a2 a3 a4 : Option Value} {r : List (Option Value)} {st : List Value} {x : Int32} {n : Int} (v : Int32) (hd : decode cc pc = .ok (.iinc 5 n, 3)) (hn : 5 < nL) (h1 : lv1 (a0 :: a1 :: a2 :: a3 :: a4 :: some (.int x) :: r) 5 = true) (hv : x + Int32.ofInt n = v) (k : G p l e R s m args below meth c nL cl sl A Q E σ π o (pc + 3) (a0 :: a1 :: a2 :: a3 :: a4 :: some (.int v) :: r) st) : G p l e R s m args below meth c nL cl sl A Q E σ π o pc (a0 :: a1 :: a2 :: a3 :: a4 :: some (.int x) :: r) st :=
  fun H locs ls hW hS hl => by
    obtain ⟨k0, hk0⟩ := List.getElem?_of_mem (lvl_mem (lv := (a0 :: a1 :: a2 :: a3 :: a4 :: some (.int x) :: r)) (k := 5) (v := .int x) |>.mpr rfl)
    exact lv_iinc C.1.1 C.1.2.1 hd hl hk0 hv hn rfl (fun ls' h' => k H locs ls' hW hS (lh.filt (lv := (a0 :: a1 :: a2 :: a3 :: a4 :: some (.int x) :: r)) h' (fun k v hk hne => by simp only [Bool.and_eq_true]; exact ⟨by simp [hne], lv1_ok h1 hk⟩)))
theorem G.iincN5 (C : gCx p s m c cc nL own Ts args E A R cl sl) {pc : Nat}  {a0 a1 a2 a3 a4 : Option Value} {r : List (Option Value)} {st : List Value} {x : Nat} (hd : decode cc pc = .ok (.iinc 5 1, 3)) (hn : 5 < nL) (h1 : lv1 (a0 :: a1 :: a2 :: a3 :: a4 :: some (.int (nI x)) :: r) 5 = true) (k : G p l e R s m args below meth c nL cl sl A Q E σ π o (pc + 3) (a0 :: a1 :: a2 :: a3 :: a4 :: some (.int (nI (x + 1))) :: r) st) : G p l e R s m args below meth c nL cl sl A Q E σ π o pc (a0 :: a1 :: a2 :: a3 :: a4 :: some (.int (nI x)) :: r) st :=
  G.iinc5 C (nI (x + 1)) hd hn h1 (nI_1 x) k
theorem G.iinc6 (C : gCx p s m c cc nL own Ts args E A R cl sl) {pc : Nat}  {a0 a1 a2 a3 a4 a5 : Option Value} {r : List (Option Value)} {st : List Value} {x : Int32} {n : Int} (v : Int32) (hd : decode cc pc = .ok (.iinc 6 n, 3)) (hn : 6 < nL) (h1 : lv1 (a0 :: a1 :: a2 :: a3 :: a4 :: a5 :: some (.int x) :: r) 6 = true) (hv : x + Int32.ofInt n = v) (k : G p l e R s m args below meth c nL cl sl A Q E σ π o (pc + 3) (a0 :: a1 :: a2 :: a3 :: a4 :: a5 :: some (.int v) :: r) st) : G p l e R s m args below meth c nL cl sl A Q E σ π o pc (a0 :: a1 :: a2 :: a3 :: a4 :: a5 :: some (.int x) :: r) st :=
  fun H locs ls hW hS hl => by
    obtain ⟨k0, hk0⟩ := List.getElem?_of_mem (lvl_mem (lv := (a0 :: a1 :: a2 :: a3 :: a4 :: a5 :: some (.int x) :: r)) (k := 6) (v := .int x) |>.mpr rfl)
    exact lv_iinc C.1.1 C.1.2.1 hd hl hk0 hv hn rfl (fun ls' h' => k H locs ls' hW hS (lh.filt (lv := (a0 :: a1 :: a2 :: a3 :: a4 :: a5 :: some (.int x) :: r)) h' (fun k v hk hne => by simp only [Bool.and_eq_true]; exact ⟨by simp [hne], lv1_ok h1 hk⟩)))
theorem G.iincN6 (C : gCx p s m c cc nL own Ts args E A R cl sl) {pc : Nat}  {a0 a1 a2 a3 a4 a5 : Option Value} {r : List (Option Value)} {st : List Value} {x : Nat} (hd : decode cc pc = .ok (.iinc 6 1, 3)) (hn : 6 < nL) (h1 : lv1 (a0 :: a1 :: a2 :: a3 :: a4 :: a5 :: some (.int (nI x)) :: r) 6 = true) (k : G p l e R s m args below meth c nL cl sl A Q E σ π o (pc + 3) (a0 :: a1 :: a2 :: a3 :: a4 :: a5 :: some (.int (nI (x + 1))) :: r) st) : G p l e R s m args below meth c nL cl sl A Q E σ π o pc (a0 :: a1 :: a2 :: a3 :: a4 :: a5 :: some (.int (nI x)) :: r) st :=
  G.iinc6 C (nI (x + 1)) hd hn h1 (nI_1 x) k
theorem G.iinc7 (C : gCx p s m c cc nL own Ts args E A R cl sl) {pc : Nat}  {a0 a1 a2 a3 a4 a5 a6 : Option Value} {r : List (Option Value)} {st : List Value} {x : Int32} {n : Int} (v : Int32) (hd : decode cc pc = .ok (.iinc 7 n, 3)) (hn : 7 < nL) (h1 : lv1 (a0 :: a1 :: a2 :: a3 :: a4 :: a5 :: a6 :: some (.int x) :: r) 7 = true) (hv : x + Int32.ofInt n = v) (k : G p l e R s m args below meth c nL cl sl A Q E σ π o (pc + 3) (a0 :: a1 :: a2 :: a3 :: a4 :: a5 :: a6 :: some (.int v) :: r) st) : G p l e R s m args below meth c nL cl sl A Q E σ π o pc (a0 :: a1 :: a2 :: a3 :: a4 :: a5 :: a6 :: some (.int x) :: r) st :=
  fun H locs ls hW hS hl => by
    obtain ⟨k0, hk0⟩ := List.getElem?_of_mem (lvl_mem (lv := (a0 :: a1 :: a2 :: a3 :: a4 :: a5 :: a6 :: some (.int x) :: r)) (k := 7) (v := .int x) |>.mpr rfl)
    exact lv_iinc C.1.1 C.1.2.1 hd hl hk0 hv hn rfl (fun ls' h' => k H locs ls' hW hS (lh.filt (lv := (a0 :: a1 :: a2 :: a3 :: a4 :: a5 :: a6 :: some (.int x) :: r)) h' (fun k v hk hne => by simp only [Bool.and_eq_true]; exact ⟨by simp [hne], lv1_ok h1 hk⟩)))
theorem G.iincN7 (C : gCx p s m c cc nL own Ts args E A R cl sl) {pc : Nat}  {a0 a1 a2 a3 a4 a5 a6 : Option Value} {r : List (Option Value)} {st : List Value} {x : Nat} (hd : decode cc pc = .ok (.iinc 7 1, 3)) (hn : 7 < nL) (h1 : lv1 (a0 :: a1 :: a2 :: a3 :: a4 :: a5 :: a6 :: some (.int (nI x)) :: r) 7 = true) (k : G p l e R s m args below meth c nL cl sl A Q E σ π o (pc + 3) (a0 :: a1 :: a2 :: a3 :: a4 :: a5 :: a6 :: some (.int (nI (x + 1))) :: r) st) : G p l e R s m args below meth c nL cl sl A Q E σ π o pc (a0 :: a1 :: a2 :: a3 :: a4 :: a5 :: a6 :: some (.int (nI x)) :: r) st :=
  G.iinc7 C (nI (x + 1)) hd hn h1 (nI_1 x) k
theorem G.iinc8 (C : gCx p s m c cc nL own Ts args E A R cl sl) {pc : Nat}  {a0 a1 a2 a3 a4 a5 a6 a7 : Option Value} {r : List (Option Value)} {st : List Value} {x : Int32} {n : Int} (v : Int32) (hd : decode cc pc = .ok (.iinc 8 n, 3)) (hn : 8 < nL) (h1 : lv1 (a0 :: a1 :: a2 :: a3 :: a4 :: a5 :: a6 :: a7 :: some (.int x) :: r) 8 = true) (hv : x + Int32.ofInt n = v) (k : G p l e R s m args below meth c nL cl sl A Q E σ π o (pc + 3) (a0 :: a1 :: a2 :: a3 :: a4 :: a5 :: a6 :: a7 :: some (.int v) :: r) st) : G p l e R s m args below meth c nL cl sl A Q E σ π o pc (a0 :: a1 :: a2 :: a3 :: a4 :: a5 :: a6 :: a7 :: some (.int x) :: r) st :=
  fun H locs ls hW hS hl => by
    obtain ⟨k0, hk0⟩ := List.getElem?_of_mem (lvl_mem (lv := (a0 :: a1 :: a2 :: a3 :: a4 :: a5 :: a6 :: a7 :: some (.int x) :: r)) (k := 8) (v := .int x) |>.mpr rfl)
    exact lv_iinc C.1.1 C.1.2.1 hd hl hk0 hv hn rfl (fun ls' h' => k H locs ls' hW hS (lh.filt (lv := (a0 :: a1 :: a2 :: a3 :: a4 :: a5 :: a6 :: a7 :: some (.int x) :: r)) h' (fun k v hk hne => by simp only [Bool.and_eq_true]; exact ⟨by simp [hne], lv1_ok h1 hk⟩)))
theorem G.iincN8 (C : gCx p s m c cc nL own Ts args E A R cl sl) {pc : Nat}  {a0 a1 a2 a3 a4 a5 a6 a7 : Option Value} {r : List (Option Value)} {st : List Value} {x : Nat} (hd : decode cc pc = .ok (.iinc 8 1, 3)) (hn : 8 < nL) (h1 : lv1 (a0 :: a1 :: a2 :: a3 :: a4 :: a5 :: a6 :: a7 :: some (.int (nI x)) :: r) 8 = true) (k : G p l e R s m args below meth c nL cl sl A Q E σ π o (pc + 3) (a0 :: a1 :: a2 :: a3 :: a4 :: a5 :: a6 :: a7 :: some (.int (nI (x + 1))) :: r) st) : G p l e R s m args below meth c nL cl sl A Q E σ π o pc (a0 :: a1 :: a2 :: a3 :: a4 :: a5 :: a6 :: a7 :: some (.int (nI x)) :: r) st :=
  G.iinc8 C (nI (x + 1)) hd hn h1 (nI_1 x) k
theorem G.iinc9 (C : gCx p s m c cc nL own Ts args E A R cl sl) {pc : Nat}  {a0 a1 a2 a3 a4 a5 a6 a7 a8 : Option Value} {r : List (Option Value)} {st : List Value} {x : Int32} {n : Int} (v : Int32) (hd : decode cc pc = .ok (.iinc 9 n, 3)) (hn : 9 < nL) (h1 : lv1 (a0 :: a1 :: a2 :: a3 :: a4 :: a5 :: a6 :: a7 :: a8 :: some (.int x) :: r) 9 = true) (hv : x + Int32.ofInt n = v) (k : G p l e R s m args below meth c nL cl sl A Q E σ π o (pc + 3) (a0 :: a1 :: a2 :: a3 :: a4 :: a5 :: a6 :: a7 :: a8 :: some (.int v) :: r) st) : G p l e R s m args below meth c nL cl sl A Q E σ π o pc (a0 :: a1 :: a2 :: a3 :: a4 :: a5 :: a6 :: a7 :: a8 :: some (.int x) :: r) st :=
  fun H locs ls hW hS hl => by
    obtain ⟨k0, hk0⟩ := List.getElem?_of_mem (lvl_mem (lv := (a0 :: a1 :: a2 :: a3 :: a4 :: a5 :: a6 :: a7 :: a8 :: some (.int x) :: r)) (k := 9) (v := .int x) |>.mpr rfl)
    exact lv_iinc C.1.1 C.1.2.1 hd hl hk0 hv hn rfl (fun ls' h' => k H locs ls' hW hS (lh.filt (lv := (a0 :: a1 :: a2 :: a3 :: a4 :: a5 :: a6 :: a7 :: a8 :: some (.int x) :: r)) h' (fun k v hk hne => by simp only [Bool.and_eq_true]; exact ⟨by simp [hne], lv1_ok h1 hk⟩)))
theorem G.iincN9 (C : gCx p s m c cc nL own Ts args E A R cl sl) {pc : Nat}  {a0 a1 a2 a3 a4 a5 a6 a7 a8 : Option Value} {r : List (Option Value)} {st : List Value} {x : Nat} (hd : decode cc pc = .ok (.iinc 9 1, 3)) (hn : 9 < nL) (h1 : lv1 (a0 :: a1 :: a2 :: a3 :: a4 :: a5 :: a6 :: a7 :: a8 :: some (.int (nI x)) :: r) 9 = true) (k : G p l e R s m args below meth c nL cl sl A Q E σ π o (pc + 3) (a0 :: a1 :: a2 :: a3 :: a4 :: a5 :: a6 :: a7 :: a8 :: some (.int (nI (x + 1))) :: r) st) : G p l e R s m args below meth c nL cl sl A Q E σ π o pc (a0 :: a1 :: a2 :: a3 :: a4 :: a5 :: a6 :: a7 :: a8 :: some (.int (nI x)) :: r) st :=
  G.iinc9 C (nI (x + 1)) hd hn h1 (nI_1 x) k
theorem G.ald0 (C : gCx p s m c cc nL own Ts args E A R cl sl) {pc : Nat}   {r : List (Option Value)} {st : List Value} {x : Nat} (hd : decode cc pc = .ok (.aload 0, 2)) (k : G p l e R s m args below meth c nL cl sl A Q E σ π o (pc + 2) (some (.ref x) :: r) (.ref x :: st)) : G p l e R s m args below meth c nL cl sl A Q E σ π o pc (some (.ref x) :: r) st :=
  fun H locs ls hW hS hl => lv_aload C.1.1 C.1.2.1 hd (hl.at rfl) (k H locs ls hW hS hl)
theorem G.aldn0 (C : gCx p s m c cc nL own Ts args E A R cl sl) {pc : Nat}   {r : List (Option Value)} {st : List Value} {x : Nat} (hd : decode cc pc = .ok (.aload_n 0, 1)) (k : G p l e R s m args below meth c nL cl sl A Q E σ π o (pc + 1) (some (.ref x) :: r) (.ref x :: st)) : G p l e R s m args below meth c nL cl sl A Q E σ π o pc (some (.ref x) :: r) st :=
  fun H locs ls hW hS hl => lv_aload_n C.1.1 C.1.2.1 hd rfl (hl.at rfl) (k H locs ls hW hS hl)
theorem G.ast0 (C : gCx p s m c cc nL own Ts args E A R cl sl) {pc : Nat}  { b : Option Value} {r : List (Option Value)} {st : List Value} {x : Nat} (hd : decode cc pc = .ok (.astore 0, 2)) (hn : 0 < nL) (h1 : lv1 (b :: r) 0 = true) (k : G p l e R s m args below meth c nL cl sl A Q E σ π o (pc + 2) (some (.ref x) :: r) st) : G p l e R s m args below meth c nL cl sl A Q E σ π o pc (b :: r) (.ref x :: st) :=
  fun H locs ls hW hS hl => lv_astore C.1.1 C.1.2.1 hd hl hn rfl (fun ls' h' => k H locs ls' hW hS (lh.filt (lv := (b :: r)) h' (fun k v hk hne => by simp only [Bool.and_eq_true]; exact ⟨by simp [hne], lv1_ok h1 hk⟩)))
theorem G.astn0 (C : gCx p s m c cc nL own Ts args E A R cl sl) {pc : Nat}  { b : Option Value} {r : List (Option Value)} {st : List Value} {x : Nat} (hd : decode cc pc = .ok (.astore_n 0, 1)) (hn : 0 < nL) (h1 : lv1 (b :: r) 0 = true) (k : G p l e R s m args below meth c nL cl sl A Q E σ π o (pc + 1) (some (.ref x) :: r) st) : G p l e R s m args below meth c nL cl sl A Q E σ π o pc (b :: r) (.ref x :: st) :=
  fun H locs ls hW hS hl => lv_astore_n (i := 0) C.1.1 C.1.2.1 hd rfl hl hn rfl (fun ls' h' => k H locs ls' hW hS (lh.filt (lv := (b :: r)) h' (fun k v hk hne => by simp only [Bool.and_eq_true]; exact ⟨by simp [hne], lv1_ok h1 hk⟩)))
theorem G.ald1 (C : gCx p s m c cc nL own Ts args E A R cl sl) {pc : Nat}  {a0 : Option Value} {r : List (Option Value)} {st : List Value} {x : Nat} (hd : decode cc pc = .ok (.aload 1, 2)) (k : G p l e R s m args below meth c nL cl sl A Q E σ π o (pc + 2) (a0 :: some (.ref x) :: r) (.ref x :: st)) : G p l e R s m args below meth c nL cl sl A Q E σ π o pc (a0 :: some (.ref x) :: r) st :=
  fun H locs ls hW hS hl => lv_aload C.1.1 C.1.2.1 hd (hl.at rfl) (k H locs ls hW hS hl)
theorem G.aldn1 (C : gCx p s m c cc nL own Ts args E A R cl sl) {pc : Nat}  {a0 : Option Value} {r : List (Option Value)} {st : List Value} {x : Nat} (hd : decode cc pc = .ok (.aload_n 1, 1)) (k : G p l e R s m args below meth c nL cl sl A Q E σ π o (pc + 1) (a0 :: some (.ref x) :: r) (.ref x :: st)) : G p l e R s m args below meth c nL cl sl A Q E σ π o pc (a0 :: some (.ref x) :: r) st :=
  fun H locs ls hW hS hl => lv_aload_n C.1.1 C.1.2.1 hd rfl (hl.at rfl) (k H locs ls hW hS hl)
theorem G.ast1 (C : gCx p s m c cc nL own Ts args E A R cl sl) {pc : Nat}  {a0 b : Option Value} {r : List (Option Value)} {st : List Value} {x : Nat} (hd : decode cc pc = .ok (.astore 1, 2)) (hn : 1 < nL) (h1 : lv1 (a0 :: b :: r) 1 = true) (k : G p l e R s m args below meth c nL cl sl A Q E σ π o (pc + 2) (a0 :: some (.ref x) :: r) st) : G p l e R s m args below meth c nL cl sl A Q E σ π o pc (a0 :: b :: r) (.ref x :: st) :=
  fun H locs ls hW hS hl => lv_astore C.1.1 C.1.2.1 hd hl hn rfl (fun ls' h' => k H locs ls' hW hS (lh.filt (lv := (a0 :: b :: r)) h' (fun k v hk hne => by simp only [Bool.and_eq_true]; exact ⟨by simp [hne], lv1_ok h1 hk⟩)))
theorem G.astn1 (C : gCx p s m c cc nL own Ts args E A R cl sl) {pc : Nat}  {a0 b : Option Value} {r : List (Option Value)} {st : List Value} {x : Nat} (hd : decode cc pc = .ok (.astore_n 1, 1)) (hn : 1 < nL) (h1 : lv1 (a0 :: b :: r) 1 = true) (k : G p l e R s m args below meth c nL cl sl A Q E σ π o (pc + 1) (a0 :: some (.ref x) :: r) st) : G p l e R s m args below meth c nL cl sl A Q E σ π o pc (a0 :: b :: r) (.ref x :: st) :=
  fun H locs ls hW hS hl => lv_astore_n (i := 1) C.1.1 C.1.2.1 hd rfl hl hn rfl (fun ls' h' => k H locs ls' hW hS (lh.filt (lv := (a0 :: b :: r)) h' (fun k v hk hne => by simp only [Bool.and_eq_true]; exact ⟨by simp [hne], lv1_ok h1 hk⟩)))
theorem G.ald2 (C : gCx p s m c cc nL own Ts args E A R cl sl) {pc : Nat}  {a0 a1 : Option Value} {r : List (Option Value)} {st : List Value} {x : Nat} (hd : decode cc pc = .ok (.aload 2, 2)) (k : G p l e R s m args below meth c nL cl sl A Q E σ π o (pc + 2) (a0 :: a1 :: some (.ref x) :: r) (.ref x :: st)) : G p l e R s m args below meth c nL cl sl A Q E σ π o pc (a0 :: a1 :: some (.ref x) :: r) st :=
  fun H locs ls hW hS hl => lv_aload C.1.1 C.1.2.1 hd (hl.at rfl) (k H locs ls hW hS hl)
theorem G.aldn2 (C : gCx p s m c cc nL own Ts args E A R cl sl) {pc : Nat}  {a0 a1 : Option Value} {r : List (Option Value)} {st : List Value} {x : Nat} (hd : decode cc pc = .ok (.aload_n 2, 1)) (k : G p l e R s m args below meth c nL cl sl A Q E σ π o (pc + 1) (a0 :: a1 :: some (.ref x) :: r) (.ref x :: st)) : G p l e R s m args below meth c nL cl sl A Q E σ π o pc (a0 :: a1 :: some (.ref x) :: r) st :=
  fun H locs ls hW hS hl => lv_aload_n C.1.1 C.1.2.1 hd rfl (hl.at rfl) (k H locs ls hW hS hl)
theorem G.ast2 (C : gCx p s m c cc nL own Ts args E A R cl sl) {pc : Nat}  {a0 a1 b : Option Value} {r : List (Option Value)} {st : List Value} {x : Nat} (hd : decode cc pc = .ok (.astore 2, 2)) (hn : 2 < nL) (h1 : lv1 (a0 :: a1 :: b :: r) 2 = true) (k : G p l e R s m args below meth c nL cl sl A Q E σ π o (pc + 2) (a0 :: a1 :: some (.ref x) :: r) st) : G p l e R s m args below meth c nL cl sl A Q E σ π o pc (a0 :: a1 :: b :: r) (.ref x :: st) :=
  fun H locs ls hW hS hl => lv_astore C.1.1 C.1.2.1 hd hl hn rfl (fun ls' h' => k H locs ls' hW hS (lh.filt (lv := (a0 :: a1 :: b :: r)) h' (fun k v hk hne => by simp only [Bool.and_eq_true]; exact ⟨by simp [hne], lv1_ok h1 hk⟩)))
theorem G.astn2 (C : gCx p s m c cc nL own Ts args E A R cl sl) {pc : Nat}  {a0 a1 b : Option Value} {r : List (Option Value)} {st : List Value} {x : Nat} (hd : decode cc pc = .ok (.astore_n 2, 1)) (hn : 2 < nL) (h1 : lv1 (a0 :: a1 :: b :: r) 2 = true) (k : G p l e R s m args below meth c nL cl sl A Q E σ π o (pc + 1) (a0 :: a1 :: some (.ref x) :: r) st) : G p l e R s m args below meth c nL cl sl A Q E σ π o pc (a0 :: a1 :: b :: r) (.ref x :: st) :=
  fun H locs ls hW hS hl => lv_astore_n (i := 2) C.1.1 C.1.2.1 hd rfl hl hn rfl (fun ls' h' => k H locs ls' hW hS (lh.filt (lv := (a0 :: a1 :: b :: r)) h' (fun k v hk hne => by simp only [Bool.and_eq_true]; exact ⟨by simp [hne], lv1_ok h1 hk⟩)))
theorem G.ald3 (C : gCx p s m c cc nL own Ts args E A R cl sl) {pc : Nat}  {a0 a1 a2 : Option Value} {r : List (Option Value)} {st : List Value} {x : Nat} (hd : decode cc pc = .ok (.aload 3, 2)) (k : G p l e R s m args below meth c nL cl sl A Q E σ π o (pc + 2) (a0 :: a1 :: a2 :: some (.ref x) :: r) (.ref x :: st)) : G p l e R s m args below meth c nL cl sl A Q E σ π o pc (a0 :: a1 :: a2 :: some (.ref x) :: r) st :=
  fun H locs ls hW hS hl => lv_aload C.1.1 C.1.2.1 hd (hl.at rfl) (k H locs ls hW hS hl)
theorem G.aldn3 (C : gCx p s m c cc nL own Ts args E A R cl sl) {pc : Nat}  {a0 a1 a2 : Option Value} {r : List (Option Value)} {st : List Value} {x : Nat} (hd : decode cc pc = .ok (.aload_n 3, 1)) (k : G p l e R s m args below meth c nL cl sl A Q E σ π o (pc + 1) (a0 :: a1 :: a2 :: some (.ref x) :: r) (.ref x :: st)) : G p l e R s m args below meth c nL cl sl A Q E σ π o pc (a0 :: a1 :: a2 :: some (.ref x) :: r) st :=
  fun H locs ls hW hS hl => lv_aload_n C.1.1 C.1.2.1 hd rfl (hl.at rfl) (k H locs ls hW hS hl)
theorem G.ast3 (C : gCx p s m c cc nL own Ts args E A R cl sl) {pc : Nat}  {a0 a1 a2 b : Option Value} {r : List (Option Value)} {st : List Value} {x : Nat} (hd : decode cc pc = .ok (.astore 3, 2)) (hn : 3 < nL) (h1 : lv1 (a0 :: a1 :: a2 :: b :: r) 3 = true) (k : G p l e R s m args below meth c nL cl sl A Q E σ π o (pc + 2) (a0 :: a1 :: a2 :: some (.ref x) :: r) st) : G p l e R s m args below meth c nL cl sl A Q E σ π o pc (a0 :: a1 :: a2 :: b :: r) (.ref x :: st) :=
  fun H locs ls hW hS hl => lv_astore C.1.1 C.1.2.1 hd hl hn rfl (fun ls' h' => k H locs ls' hW hS (lh.filt (lv := (a0 :: a1 :: a2 :: b :: r)) h' (fun k v hk hne => by simp only [Bool.and_eq_true]; exact ⟨by simp [hne], lv1_ok h1 hk⟩)))
theorem G.astn3 (C : gCx p s m c cc nL own Ts args E A R cl sl) {pc : Nat}  {a0 a1 a2 b : Option Value} {r : List (Option Value)} {st : List Value} {x : Nat} (hd : decode cc pc = .ok (.astore_n 3, 1)) (hn : 3 < nL) (h1 : lv1 (a0 :: a1 :: a2 :: b :: r) 3 = true) (k : G p l e R s m args below meth c nL cl sl A Q E σ π o (pc + 1) (a0 :: a1 :: a2 :: some (.ref x) :: r) st) : G p l e R s m args below meth c nL cl sl A Q E σ π o pc (a0 :: a1 :: a2 :: b :: r) (.ref x :: st) :=
  fun H locs ls hW hS hl => lv_astore_n (i := 3) C.1.1 C.1.2.1 hd rfl hl hn rfl (fun ls' h' => k H locs ls' hW hS (lh.filt (lv := (a0 :: a1 :: a2 :: b :: r)) h' (fun k v hk hne => by simp only [Bool.and_eq_true]; exact ⟨by simp [hne], lv1_ok h1 hk⟩)))
theorem G.ald4 (C : gCx p s m c cc nL own Ts args E A R cl sl) {pc : Nat}  {a0 a1 a2 a3 : Option Value} {r : List (Option Value)} {st : List Value} {x : Nat} (hd : decode cc pc = .ok (.aload 4, 2)) (k : G p l e R s m args below meth c nL cl sl A Q E σ π o (pc + 2) (a0 :: a1 :: a2 :: a3 :: some (.ref x) :: r) (.ref x :: st)) : G p l e R s m args below meth c nL cl sl A Q E σ π o pc (a0 :: a1 :: a2 :: a3 :: some (.ref x) :: r) st :=
  fun H locs ls hW hS hl => lv_aload C.1.1 C.1.2.1 hd (hl.at rfl) (k H locs ls hW hS hl)
theorem G.ast4 (C : gCx p s m c cc nL own Ts args E A R cl sl) {pc : Nat}  {a0 a1 a2 a3 b : Option Value} {r : List (Option Value)} {st : List Value} {x : Nat} (hd : decode cc pc = .ok (.astore 4, 2)) (hn : 4 < nL) (h1 : lv1 (a0 :: a1 :: a2 :: a3 :: b :: r) 4 = true) (k : G p l e R s m args below meth c nL cl sl A Q E σ π o (pc + 2) (a0 :: a1 :: a2 :: a3 :: some (.ref x) :: r) st) : G p l e R s m args below meth c nL cl sl A Q E σ π o pc (a0 :: a1 :: a2 :: a3 :: b :: r) (.ref x :: st) :=
  fun H locs ls hW hS hl => lv_astore C.1.1 C.1.2.1 hd hl hn rfl (fun ls' h' => k H locs ls' hW hS (lh.filt (lv := (a0 :: a1 :: a2 :: a3 :: b :: r)) h' (fun k v hk hne => by simp only [Bool.and_eq_true]; exact ⟨by simp [hne], lv1_ok h1 hk⟩)))
theorem G.ald5 (C : gCx p s m c cc nL own Ts args E A R cl sl) {pc : Nat}  {a0 a1 a2 a3 a4 : Option Value} {r : List (Option Value)} {st : List Value} {x : Nat} (hd : decode cc pc = .ok (.aload 5, 2)) (k : G p l e R s m args below meth c nL cl sl A Q E σ π o (pc + 2) (a0 :: a1 :: a2 :: a3 :: a4 :: some (.ref x) :: r) (.ref x :: st)) : G p l e R s m args below meth c nL cl sl A Q E σ π o pc (a0 :: a1 :: a2 :: a3 :: a4 :: some (.ref x) :: r) st :=
  fun H locs ls hW hS hl => lv_aload C.1.1 C.1.2.1 hd (hl.at rfl) (k H locs ls hW hS hl)
theorem G.ast5 (C : gCx p s m c cc nL own Ts args E A R cl sl) {pc : Nat}  {a0 a1 a2 a3 a4 b : Option Value} {r : List (Option Value)} {st : List Value} {x : Nat} (hd : decode cc pc = .ok (.astore 5, 2)) (hn : 5 < nL) (h1 : lv1 (a0 :: a1 :: a2 :: a3 :: a4 :: b :: r) 5 = true) (k : G p l e R s m args below meth c nL cl sl A Q E σ π o (pc + 2) (a0 :: a1 :: a2 :: a3 :: a4 :: some (.ref x) :: r) st) : G p l e R s m args below meth c nL cl sl A Q E σ π o pc (a0 :: a1 :: a2 :: a3 :: a4 :: b :: r) (.ref x :: st) :=
  fun H locs ls hW hS hl => lv_astore C.1.1 C.1.2.1 hd hl hn rfl (fun ls' h' => k H locs ls' hW hS (lh.filt (lv := (a0 :: a1 :: a2 :: a3 :: a4 :: b :: r)) h' (fun k v hk hne => by simp only [Bool.and_eq_true]; exact ⟨by simp [hne], lv1_ok h1 hk⟩)))
theorem G.ald6 (C : gCx p s m c cc nL own Ts args E A R cl sl) {pc : Nat}  {a0 a1 a2 a3 a4 a5 : Option Value} {r : List (Option Value)} {st : List Value} {x : Nat} (hd : decode cc pc = .ok (.aload 6, 2)) (k : G p l e R s m args below meth c nL cl sl A Q E σ π o (pc + 2) (a0 :: a1 :: a2 :: a3 :: a4 :: a5 :: some (.ref x) :: r) (.ref x :: st)) : G p l e R s m args below meth c nL cl sl A Q E σ π o pc (a0 :: a1 :: a2 :: a3 :: a4 :: a5 :: some (.ref x) :: r) st :=
  fun H locs ls hW hS hl => lv_aload C.1.1 C.1.2.1 hd (hl.at rfl) (k H locs ls hW hS hl)
theorem G.ast6 (C : gCx p s m c cc nL own Ts args E A R cl sl) {pc : Nat}  {a0 a1 a2 a3 a4 a5 b : Option Value} {r : List (Option Value)} {st : List Value} {x : Nat} (hd : decode cc pc = .ok (.astore 6, 2)) (hn : 6 < nL) (h1 : lv1 (a0 :: a1 :: a2 :: a3 :: a4 :: a5 :: b :: r) 6 = true) (k : G p l e R s m args below meth c nL cl sl A Q E σ π o (pc + 2) (a0 :: a1 :: a2 :: a3 :: a4 :: a5 :: some (.ref x) :: r) st) : G p l e R s m args below meth c nL cl sl A Q E σ π o pc (a0 :: a1 :: a2 :: a3 :: a4 :: a5 :: b :: r) (.ref x :: st) :=
  fun H locs ls hW hS hl => lv_astore C.1.1 C.1.2.1 hd hl hn rfl (fun ls' h' => k H locs ls' hW hS (lh.filt (lv := (a0 :: a1 :: a2 :: a3 :: a4 :: a5 :: b :: r)) h' (fun k v hk hne => by simp only [Bool.and_eq_true]; exact ⟨by simp [hne], lv1_ok h1 hk⟩)))
theorem G.ald7 (C : gCx p s m c cc nL own Ts args E A R cl sl) {pc : Nat}  {a0 a1 a2 a3 a4 a5 a6 : Option Value} {r : List (Option Value)} {st : List Value} {x : Nat} (hd : decode cc pc = .ok (.aload 7, 2)) (k : G p l e R s m args below meth c nL cl sl A Q E σ π o (pc + 2) (a0 :: a1 :: a2 :: a3 :: a4 :: a5 :: a6 :: some (.ref x) :: r) (.ref x :: st)) : G p l e R s m args below meth c nL cl sl A Q E σ π o pc (a0 :: a1 :: a2 :: a3 :: a4 :: a5 :: a6 :: some (.ref x) :: r) st :=
  fun H locs ls hW hS hl => lv_aload C.1.1 C.1.2.1 hd (hl.at rfl) (k H locs ls hW hS hl)
theorem G.ast7 (C : gCx p s m c cc nL own Ts args E A R cl sl) {pc : Nat}  {a0 a1 a2 a3 a4 a5 a6 b : Option Value} {r : List (Option Value)} {st : List Value} {x : Nat} (hd : decode cc pc = .ok (.astore 7, 2)) (hn : 7 < nL) (h1 : lv1 (a0 :: a1 :: a2 :: a3 :: a4 :: a5 :: a6 :: b :: r) 7 = true) (k : G p l e R s m args below meth c nL cl sl A Q E σ π o (pc + 2) (a0 :: a1 :: a2 :: a3 :: a4 :: a5 :: a6 :: some (.ref x) :: r) st) : G p l e R s m args below meth c nL cl sl A Q E σ π o pc (a0 :: a1 :: a2 :: a3 :: a4 :: a5 :: a6 :: b :: r) (.ref x :: st) :=
  fun H locs ls hW hS hl => lv_astore C.1.1 C.1.2.1 hd hl hn rfl (fun ls' h' => k H locs ls' hW hS (lh.filt (lv := (a0 :: a1 :: a2 :: a3 :: a4 :: a5 :: a6 :: b :: r)) h' (fun k v hk hne => by simp only [Bool.and_eq_true]; exact ⟨by simp [hne], lv1_ok h1 hk⟩)))
theorem G.ald8 (C : gCx p s m c cc nL own Ts args E A R cl sl) {pc : Nat}  {a0 a1 a2 a3 a4 a5 a6 a7 : Option Value} {r : List (Option Value)} {st : List Value} {x : Nat} (hd : decode cc pc = .ok (.aload 8, 2)) (k : G p l e R s m args below meth c nL cl sl A Q E σ π o (pc + 2) (a0 :: a1 :: a2 :: a3 :: a4 :: a5 :: a6 :: a7 :: some (.ref x) :: r) (.ref x :: st)) : G p l e R s m args below meth c nL cl sl A Q E σ π o pc (a0 :: a1 :: a2 :: a3 :: a4 :: a5 :: a6 :: a7 :: some (.ref x) :: r) st :=
  fun H locs ls hW hS hl => lv_aload C.1.1 C.1.2.1 hd (hl.at rfl) (k H locs ls hW hS hl)
theorem G.ast8 (C : gCx p s m c cc nL own Ts args E A R cl sl) {pc : Nat}  {a0 a1 a2 a3 a4 a5 a6 a7 b : Option Value} {r : List (Option Value)} {st : List Value} {x : Nat} (hd : decode cc pc = .ok (.astore 8, 2)) (hn : 8 < nL) (h1 : lv1 (a0 :: a1 :: a2 :: a3 :: a4 :: a5 :: a6 :: a7 :: b :: r) 8 = true) (k : G p l e R s m args below meth c nL cl sl A Q E σ π o (pc + 2) (a0 :: a1 :: a2 :: a3 :: a4 :: a5 :: a6 :: a7 :: some (.ref x) :: r) st) : G p l e R s m args below meth c nL cl sl A Q E σ π o pc (a0 :: a1 :: a2 :: a3 :: a4 :: a5 :: a6 :: a7 :: b :: r) (.ref x :: st) :=
  fun H locs ls hW hS hl => lv_astore C.1.1 C.1.2.1 hd hl hn rfl (fun ls' h' => k H locs ls' hW hS (lh.filt (lv := (a0 :: a1 :: a2 :: a3 :: a4 :: a5 :: a6 :: a7 :: b :: r)) h' (fun k v hk hne => by simp only [Bool.and_eq_true]; exact ⟨by simp [hne], lv1_ok h1 hk⟩)))
theorem G.ald9 (C : gCx p s m c cc nL own Ts args E A R cl sl) {pc : Nat}  {a0 a1 a2 a3 a4 a5 a6 a7 a8 : Option Value} {r : List (Option Value)} {st : List Value} {x : Nat} (hd : decode cc pc = .ok (.aload 9, 2)) (k : G p l e R s m args below meth c nL cl sl A Q E σ π o (pc + 2) (a0 :: a1 :: a2 :: a3 :: a4 :: a5 :: a6 :: a7 :: a8 :: some (.ref x) :: r) (.ref x :: st)) : G p l e R s m args below meth c nL cl sl A Q E σ π o pc (a0 :: a1 :: a2 :: a3 :: a4 :: a5 :: a6 :: a7 :: a8 :: some (.ref x) :: r) st :=
  fun H locs ls hW hS hl => lv_aload C.1.1 C.1.2.1 hd (hl.at rfl) (k H locs ls hW hS hl)
theorem G.ast9 (C : gCx p s m c cc nL own Ts args E A R cl sl) {pc : Nat}  {a0 a1 a2 a3 a4 a5 a6 a7 a8 b : Option Value} {r : List (Option Value)} {st : List Value} {x : Nat} (hd : decode cc pc = .ok (.astore 9, 2)) (hn : 9 < nL) (h1 : lv1 (a0 :: a1 :: a2 :: a3 :: a4 :: a5 :: a6 :: a7 :: a8 :: b :: r) 9 = true) (k : G p l e R s m args below meth c nL cl sl A Q E σ π o (pc + 2) (a0 :: a1 :: a2 :: a3 :: a4 :: a5 :: a6 :: a7 :: a8 :: some (.ref x) :: r) st) : G p l e R s m args below meth c nL cl sl A Q E σ π o pc (a0 :: a1 :: a2 :: a3 :: a4 :: a5 :: a6 :: a7 :: a8 :: b :: r) (.ref x :: st) :=
  fun H locs ls hW hS hl => lv_astore C.1.1 C.1.2.1 hd hl hn rfl (fun ls' h' => k H locs ls' hW hS (lh.filt (lv := (a0 :: a1 :: a2 :: a3 :: a4 :: a5 :: a6 :: a7 :: a8 :: b :: r)) h' (fun k v hk hne => by simp only [Bool.and_eq_true]; exact ⟨by simp [hne], lv1_ok h1 hk⟩)))
theorem G.lld0 (C : gCx p s m c cc nL own Ts args E A R cl sl) {pc : Nat}   {r : List (Option Value)} {st : List Value} {x : Int64} (hd : decode cc pc = .ok (.lload 0, 2)) (k : G p l e R s m args below meth c nL cl sl A Q E σ π o (pc + 2) (some (.long x) :: r) (.long x :: st)) : G p l e R s m args below meth c nL cl sl A Q E σ π o pc (some (.long x) :: r) st :=
  fun H locs ls hW hS hl => lv_lload C.1.1 C.1.2.1 hd (hl.at rfl) (k H locs ls hW hS hl)
theorem G.lldn0 (C : gCx p s m c cc nL own Ts args E A R cl sl) {pc : Nat}   {r : List (Option Value)} {st : List Value} {x : Int64} (hd : decode cc pc = .ok (.lload_n 0, 1)) (k : G p l e R s m args below meth c nL cl sl A Q E σ π o (pc + 1) (some (.long x) :: r) (.long x :: st)) : G p l e R s m args below meth c nL cl sl A Q E σ π o pc (some (.long x) :: r) st :=
  fun H locs ls hW hS hl => lv_lload_n C.1.1 C.1.2.1 hd rfl (hl.at rfl) (k H locs ls hW hS hl)
theorem G.lst0 (C : gCx p s m c cc nL own Ts args E A R cl sl) {pc : Nat}  { b b2 : Option Value} {r : List (Option Value)} {st : List Value} {x : Int64} (hd : decode cc pc = .ok (.lstore 0, 2)) (hn : 0 + 1 < nL) (h1 : lv1 (b :: b2 :: r) 0 = true) (k : G p l e R s m args below meth c nL cl sl A Q E σ π o (pc + 2) (some (.long x) :: none :: r) st) : G p l e R s m args below meth c nL cl sl A Q E σ π o pc (b :: b2 :: r) (.long x :: st) :=
  fun H locs ls hW hS hl => lv_lstore C.1.1 C.1.2.1 hd hl hn rfl (fun ls' h' => k H locs ls' hW hS (lh2 (lv := (b :: b2 :: r)) (i := 0) h' h1))
theorem G.lstn0 (C : gCx p s m c cc nL own Ts args E A R cl sl) {pc : Nat}  { b b2 : Option Value} {r : List (Option Value)} {st : List Value} {x : Int64} (hd : decode cc pc = .ok (.lstore_n 0, 1)) (hn : 0 + 1 < nL) (h1 : lv1 (b :: b2 :: r) 0 = true) (k : G p l e R s m args below meth c nL cl sl A Q E σ π o (pc + 1) (some (.long x) :: none :: r) st) : G p l e R s m args below meth c nL cl sl A Q E σ π o pc (b :: b2 :: r) (.long x :: st) :=
  fun H locs ls hW hS hl => lv_lstore_n (i := 0) C.1.1 C.1.2.1 hd rfl hl hn rfl (fun ls' h' => k H locs ls' hW hS (lh2 (lv := (b :: b2 :: r)) (i := 0) h' h1))
theorem G.lld1 (C : gCx p s m c cc nL own Ts args E A R cl sl) {pc : Nat}  {a0 : Option Value} {r : List (Option Value)} {st : List Value} {x : Int64} (hd : decode cc pc = .ok (.lload 1, 2)) (k : G p l e R s m args below meth c nL cl sl A Q E σ π o (pc + 2) (a0 :: some (.long x) :: r) (.long x :: st)) : G p l e R s m args below meth c nL cl sl A Q E σ π o pc (a0 :: some (.long x) :: r) st :=
  fun H locs ls hW hS hl => lv_lload C.1.1 C.1.2.1 hd (hl.at rfl) (k H locs ls hW hS hl)
theorem G.lldn1 (C : gCx p s m c cc nL own Ts args E A R cl sl) {pc : Nat}  {a0 : Option Value} {r : List (Option Value)} {st : List Value} {x : Int64} (hd : decode cc pc = .ok (.lload_n 1, 1)) (k : G p l e R s m args below meth c nL cl sl A Q E σ π o (pc + 1) (a0 :: some (.long x) :: r) (.long x :: st)) : G p l e R s m args below meth c nL cl sl A Q E σ π o pc (a0 :: some (.long x) :: r) st :=
  fun H locs ls hW hS hl => lv_lload_n C.1.1 C.1.2.1 hd rfl (hl.at rfl) (k H locs ls hW hS hl)
theorem G.lst1 (C : gCx p s m c cc nL own Ts args E A R cl sl) {pc : Nat}  {a0 b b2 : Option Value} {r : List (Option Value)} {st : List Value} {x : Int64} (hd : decode cc pc = .ok (.lstore 1, 2)) (hn : 1 + 1 < nL) (h1 : lv1 (a0 :: b :: b2 :: r) 1 = true) (k : G p l e R s m args below meth c nL cl sl A Q E σ π o (pc + 2) (a0 :: some (.long x) :: none :: r) st) : G p l e R s m args below meth c nL cl sl A Q E σ π o pc (a0 :: b :: b2 :: r) (.long x :: st) :=
  fun H locs ls hW hS hl => lv_lstore C.1.1 C.1.2.1 hd hl hn rfl (fun ls' h' => k H locs ls' hW hS (lh2 (lv := (a0 :: b :: b2 :: r)) (i := 1) h' h1))
theorem G.lstn1 (C : gCx p s m c cc nL own Ts args E A R cl sl) {pc : Nat}  {a0 b b2 : Option Value} {r : List (Option Value)} {st : List Value} {x : Int64} (hd : decode cc pc = .ok (.lstore_n 1, 1)) (hn : 1 + 1 < nL) (h1 : lv1 (a0 :: b :: b2 :: r) 1 = true) (k : G p l e R s m args below meth c nL cl sl A Q E σ π o (pc + 1) (a0 :: some (.long x) :: none :: r) st) : G p l e R s m args below meth c nL cl sl A Q E σ π o pc (a0 :: b :: b2 :: r) (.long x :: st) :=
  fun H locs ls hW hS hl => lv_lstore_n (i := 1) C.1.1 C.1.2.1 hd rfl hl hn rfl (fun ls' h' => k H locs ls' hW hS (lh2 (lv := (a0 :: b :: b2 :: r)) (i := 1) h' h1))
theorem G.lld2 (C : gCx p s m c cc nL own Ts args E A R cl sl) {pc : Nat}  {a0 a1 : Option Value} {r : List (Option Value)} {st : List Value} {x : Int64} (hd : decode cc pc = .ok (.lload 2, 2)) (k : G p l e R s m args below meth c nL cl sl A Q E σ π o (pc + 2) (a0 :: a1 :: some (.long x) :: r) (.long x :: st)) : G p l e R s m args below meth c nL cl sl A Q E σ π o pc (a0 :: a1 :: some (.long x) :: r) st :=
  fun H locs ls hW hS hl => lv_lload C.1.1 C.1.2.1 hd (hl.at rfl) (k H locs ls hW hS hl)
theorem G.lldn2 (C : gCx p s m c cc nL own Ts args E A R cl sl) {pc : Nat}  {a0 a1 : Option Value} {r : List (Option Value)} {st : List Value} {x : Int64} (hd : decode cc pc = .ok (.lload_n 2, 1)) (k : G p l e R s m args below meth c nL cl sl A Q E σ π o (pc + 1) (a0 :: a1 :: some (.long x) :: r) (.long x :: st)) : G p l e R s m args below meth c nL cl sl A Q E σ π o pc (a0 :: a1 :: some (.long x) :: r) st :=
  fun H locs ls hW hS hl => lv_lload_n C.1.1 C.1.2.1 hd rfl (hl.at rfl) (k H locs ls hW hS hl)
theorem G.lst2 (C : gCx p s m c cc nL own Ts args E A R cl sl) {pc : Nat}  {a0 a1 b b2 : Option Value} {r : List (Option Value)} {st : List Value} {x : Int64} (hd : decode cc pc = .ok (.lstore 2, 2)) (hn : 2 + 1 < nL) (h1 : lv1 (a0 :: a1 :: b :: b2 :: r) 2 = true) (k : G p l e R s m args below meth c nL cl sl A Q E σ π o (pc + 2) (a0 :: a1 :: some (.long x) :: none :: r) st) : G p l e R s m args below meth c nL cl sl A Q E σ π o pc (a0 :: a1 :: b :: b2 :: r) (.long x :: st) :=
  fun H locs ls hW hS hl => lv_lstore C.1.1 C.1.2.1 hd hl hn rfl (fun ls' h' => k H locs ls' hW hS (lh2 (lv := (a0 :: a1 :: b :: b2 :: r)) (i := 2) h' h1))
theorem G.lstn2 (C : gCx p s m c cc nL own Ts args E A R cl sl) {pc : Nat}  {a0 a1 b b2 : Option Value} {r : List (Option Value)} {st : List Value} {x : Int64} (hd : decode cc pc = .ok (.lstore_n 2, 1)) (hn : 2 + 1 < nL) (h1 : lv1 (a0 :: a1 :: b :: b2 :: r) 2 = true) (k : G p l e R s m args below meth c nL cl sl A Q E σ π o (pc + 1) (a0 :: a1 :: some (.long x) :: none :: r) st) : G p l e R s m args below meth c nL cl sl A Q E σ π o pc (a0 :: a1 :: b :: b2 :: r) (.long x :: st) :=
  fun H locs ls hW hS hl => lv_lstore_n (i := 2) C.1.1 C.1.2.1 hd rfl hl hn rfl (fun ls' h' => k H locs ls' hW hS (lh2 (lv := (a0 :: a1 :: b :: b2 :: r)) (i := 2) h' h1))
theorem G.lld3 (C : gCx p s m c cc nL own Ts args E A R cl sl) {pc : Nat}  {a0 a1 a2 : Option Value} {r : List (Option Value)} {st : List Value} {x : Int64} (hd : decode cc pc = .ok (.lload 3, 2)) (k : G p l e R s m args below meth c nL cl sl A Q E σ π o (pc + 2) (a0 :: a1 :: a2 :: some (.long x) :: r) (.long x :: st)) : G p l e R s m args below meth c nL cl sl A Q E σ π o pc (a0 :: a1 :: a2 :: some (.long x) :: r) st :=
  fun H locs ls hW hS hl => lv_lload C.1.1 C.1.2.1 hd (hl.at rfl) (k H locs ls hW hS hl)
theorem G.lldn3 (C : gCx p s m c cc nL own Ts args E A R cl sl) {pc : Nat}  {a0 a1 a2 : Option Value} {r : List (Option Value)} {st : List Value} {x : Int64} (hd : decode cc pc = .ok (.lload_n 3, 1)) (k : G p l e R s m args below meth c nL cl sl A Q E σ π o (pc + 1) (a0 :: a1 :: a2 :: some (.long x) :: r) (.long x :: st)) : G p l e R s m args below meth c nL cl sl A Q E σ π o pc (a0 :: a1 :: a2 :: some (.long x) :: r) st :=
  fun H locs ls hW hS hl => lv_lload_n C.1.1 C.1.2.1 hd rfl (hl.at rfl) (k H locs ls hW hS hl)
theorem G.lst3 (C : gCx p s m c cc nL own Ts args E A R cl sl) {pc : Nat}  {a0 a1 a2 b b2 : Option Value} {r : List (Option Value)} {st : List Value} {x : Int64} (hd : decode cc pc = .ok (.lstore 3, 2)) (hn : 3 + 1 < nL) (h1 : lv1 (a0 :: a1 :: a2 :: b :: b2 :: r) 3 = true) (k : G p l e R s m args below meth c nL cl sl A Q E σ π o (pc + 2) (a0 :: a1 :: a2 :: some (.long x) :: none :: r) st) : G p l e R s m args below meth c nL cl sl A Q E σ π o pc (a0 :: a1 :: a2 :: b :: b2 :: r) (.long x :: st) :=
  fun H locs ls hW hS hl => lv_lstore C.1.1 C.1.2.1 hd hl hn rfl (fun ls' h' => k H locs ls' hW hS (lh2 (lv := (a0 :: a1 :: a2 :: b :: b2 :: r)) (i := 3) h' h1))
theorem G.lstn3 (C : gCx p s m c cc nL own Ts args E A R cl sl) {pc : Nat}  {a0 a1 a2 b b2 : Option Value} {r : List (Option Value)} {st : List Value} {x : Int64} (hd : decode cc pc = .ok (.lstore_n 3, 1)) (hn : 3 + 1 < nL) (h1 : lv1 (a0 :: a1 :: a2 :: b :: b2 :: r) 3 = true) (k : G p l e R s m args below meth c nL cl sl A Q E σ π o (pc + 1) (a0 :: a1 :: a2 :: some (.long x) :: none :: r) st) : G p l e R s m args below meth c nL cl sl A Q E σ π o pc (a0 :: a1 :: a2 :: b :: b2 :: r) (.long x :: st) :=
  fun H locs ls hW hS hl => lv_lstore_n (i := 3) C.1.1 C.1.2.1 hd rfl hl hn rfl (fun ls' h' => k H locs ls' hW hS (lh2 (lv := (a0 :: a1 :: a2 :: b :: b2 :: r)) (i := 3) h' h1))
theorem G.lld4 (C : gCx p s m c cc nL own Ts args E A R cl sl) {pc : Nat}  {a0 a1 a2 a3 : Option Value} {r : List (Option Value)} {st : List Value} {x : Int64} (hd : decode cc pc = .ok (.lload 4, 2)) (k : G p l e R s m args below meth c nL cl sl A Q E σ π o (pc + 2) (a0 :: a1 :: a2 :: a3 :: some (.long x) :: r) (.long x :: st)) : G p l e R s m args below meth c nL cl sl A Q E σ π o pc (a0 :: a1 :: a2 :: a3 :: some (.long x) :: r) st :=
  fun H locs ls hW hS hl => lv_lload C.1.1 C.1.2.1 hd (hl.at rfl) (k H locs ls hW hS hl)
theorem G.lst4 (C : gCx p s m c cc nL own Ts args E A R cl sl) {pc : Nat}  {a0 a1 a2 a3 b b2 : Option Value} {r : List (Option Value)} {st : List Value} {x : Int64} (hd : decode cc pc = .ok (.lstore 4, 2)) (hn : 4 + 1 < nL) (h1 : lv1 (a0 :: a1 :: a2 :: a3 :: b :: b2 :: r) 4 = true) (k : G p l e R s m args below meth c nL cl sl A Q E σ π o (pc + 2) (a0 :: a1 :: a2 :: a3 :: some (.long x) :: none :: r) st) : G p l e R s m args below meth c nL cl sl A Q E σ π o pc (a0 :: a1 :: a2 :: a3 :: b :: b2 :: r) (.long x :: st) :=
  fun H locs ls hW hS hl => lv_lstore C.1.1 C.1.2.1 hd hl hn rfl (fun ls' h' => k H locs ls' hW hS (lh2 (lv := (a0 :: a1 :: a2 :: a3 :: b :: b2 :: r)) (i := 4) h' h1))
theorem G.lld5 (C : gCx p s m c cc nL own Ts args E A R cl sl) {pc : Nat}  {a0 a1 a2 a3 a4 : Option Value} {r : List (Option Value)} {st : List Value} {x : Int64} (hd : decode cc pc = .ok (.lload 5, 2)) (k : G p l e R s m args below meth c nL cl sl A Q E σ π o (pc + 2) (a0 :: a1 :: a2 :: a3 :: a4 :: some (.long x) :: r) (.long x :: st)) : G p l e R s m args below meth c nL cl sl A Q E σ π o pc (a0 :: a1 :: a2 :: a3 :: a4 :: some (.long x) :: r) st :=
  fun H locs ls hW hS hl => lv_lload C.1.1 C.1.2.1 hd (hl.at rfl) (k H locs ls hW hS hl)
theorem G.lst5 (C : gCx p s m c cc nL own Ts args E A R cl sl) {pc : Nat}  {a0 a1 a2 a3 a4 b b2 : Option Value} {r : List (Option Value)} {st : List Value} {x : Int64} (hd : decode cc pc = .ok (.lstore 5, 2)) (hn : 5 + 1 < nL) (h1 : lv1 (a0 :: a1 :: a2 :: a3 :: a4 :: b :: b2 :: r) 5 = true) (k : G p l e R s m args below meth c nL cl sl A Q E σ π o (pc + 2) (a0 :: a1 :: a2 :: a3 :: a4 :: some (.long x) :: none :: r) st) : G p l e R s m args below meth c nL cl sl A Q E σ π o pc (a0 :: a1 :: a2 :: a3 :: a4 :: b :: b2 :: r) (.long x :: st) :=
  fun H locs ls hW hS hl => lv_lstore C.1.1 C.1.2.1 hd hl hn rfl (fun ls' h' => k H locs ls' hW hS (lh2 (lv := (a0 :: a1 :: a2 :: a3 :: a4 :: b :: b2 :: r)) (i := 5) h' h1))
theorem G.lld6 (C : gCx p s m c cc nL own Ts args E A R cl sl) {pc : Nat}  {a0 a1 a2 a3 a4 a5 : Option Value} {r : List (Option Value)} {st : List Value} {x : Int64} (hd : decode cc pc = .ok (.lload 6, 2)) (k : G p l e R s m args below meth c nL cl sl A Q E σ π o (pc + 2) (a0 :: a1 :: a2 :: a3 :: a4 :: a5 :: some (.long x) :: r) (.long x :: st)) : G p l e R s m args below meth c nL cl sl A Q E σ π o pc (a0 :: a1 :: a2 :: a3 :: a4 :: a5 :: some (.long x) :: r) st :=
  fun H locs ls hW hS hl => lv_lload C.1.1 C.1.2.1 hd (hl.at rfl) (k H locs ls hW hS hl)
theorem G.lst6 (C : gCx p s m c cc nL own Ts args E A R cl sl) {pc : Nat}  {a0 a1 a2 a3 a4 a5 b b2 : Option Value} {r : List (Option Value)} {st : List Value} {x : Int64} (hd : decode cc pc = .ok (.lstore 6, 2)) (hn : 6 + 1 < nL) (h1 : lv1 (a0 :: a1 :: a2 :: a3 :: a4 :: a5 :: b :: b2 :: r) 6 = true) (k : G p l e R s m args below meth c nL cl sl A Q E σ π o (pc + 2) (a0 :: a1 :: a2 :: a3 :: a4 :: a5 :: some (.long x) :: none :: r) st) : G p l e R s m args below meth c nL cl sl A Q E σ π o pc (a0 :: a1 :: a2 :: a3 :: a4 :: a5 :: b :: b2 :: r) (.long x :: st) :=
  fun H locs ls hW hS hl => lv_lstore C.1.1 C.1.2.1 hd hl hn rfl (fun ls' h' => k H locs ls' hW hS (lh2 (lv := (a0 :: a1 :: a2 :: a3 :: a4 :: a5 :: b :: b2 :: r)) (i := 6) h' h1))
theorem G.lld7 (C : gCx p s m c cc nL own Ts args E A R cl sl) {pc : Nat}  {a0 a1 a2 a3 a4 a5 a6 : Option Value} {r : List (Option Value)} {st : List Value} {x : Int64} (hd : decode cc pc = .ok (.lload 7, 2)) (k : G p l e R s m args below meth c nL cl sl A Q E σ π o (pc + 2) (a0 :: a1 :: a2 :: a3 :: a4 :: a5 :: a6 :: some (.long x) :: r) (.long x :: st)) : G p l e R s m args below meth c nL cl sl A Q E σ π o pc (a0 :: a1 :: a2 :: a3 :: a4 :: a5 :: a6 :: some (.long x) :: r) st :=
  fun H locs ls hW hS hl => lv_lload C.1.1 C.1.2.1 hd (hl.at rfl) (k H locs ls hW hS hl)
theorem G.lst7 (C : gCx p s m c cc nL own Ts args E A R cl sl) {pc : Nat}  {a0 a1 a2 a3 a4 a5 a6 b b2 : Option Value} {r : List (Option Value)} {st : List Value} {x : Int64} (hd : decode cc pc = .ok (.lstore 7, 2)) (hn : 7 + 1 < nL) (h1 : lv1 (a0 :: a1 :: a2 :: a3 :: a4 :: a5 :: a6 :: b :: b2 :: r) 7 = true) (k : G p l e R s m args below meth c nL cl sl A Q E σ π o (pc + 2) (a0 :: a1 :: a2 :: a3 :: a4 :: a5 :: a6 :: some (.long x) :: none :: r) st) : G p l e R s m args below meth c nL cl sl A Q E σ π o pc (a0 :: a1 :: a2 :: a3 :: a4 :: a5 :: a6 :: b :: b2 :: r) (.long x :: st) :=
  fun H locs ls hW hS hl => lv_lstore C.1.1 C.1.2.1 hd hl hn rfl (fun ls' h' => k H locs ls' hW hS (lh2 (lv := (a0 :: a1 :: a2 :: a3 :: a4 :: a5 :: a6 :: b :: b2 :: r)) (i := 7) h' h1))
theorem G.lld8 (C : gCx p s m c cc nL own Ts args E A R cl sl) {pc : Nat}  {a0 a1 a2 a3 a4 a5 a6 a7 : Option Value} {r : List (Option Value)} {st : List Value} {x : Int64} (hd : decode cc pc = .ok (.lload 8, 2)) (k : G p l e R s m args below meth c nL cl sl A Q E σ π o (pc + 2) (a0 :: a1 :: a2 :: a3 :: a4 :: a5 :: a6 :: a7 :: some (.long x) :: r) (.long x :: st)) : G p l e R s m args below meth c nL cl sl A Q E σ π o pc (a0 :: a1 :: a2 :: a3 :: a4 :: a5 :: a6 :: a7 :: some (.long x) :: r) st :=
  fun H locs ls hW hS hl => lv_lload C.1.1 C.1.2.1 hd (hl.at rfl) (k H locs ls hW hS hl)
theorem G.lst8 (C : gCx p s m c cc nL own Ts args E A R cl sl) {pc : Nat}  {a0 a1 a2 a3 a4 a5 a6 a7 b b2 : Option Value} {r : List (Option Value)} {st : List Value} {x : Int64} (hd : decode cc pc = .ok (.lstore 8, 2)) (hn : 8 + 1 < nL) (h1 : lv1 (a0 :: a1 :: a2 :: a3 :: a4 :: a5 :: a6 :: a7 :: b :: b2 :: r) 8 = true) (k : G p l e R s m args below meth c nL cl sl A Q E σ π o (pc + 2) (a0 :: a1 :: a2 :: a3 :: a4 :: a5 :: a6 :: a7 :: some (.long x) :: none :: r) st) : G p l e R s m args below meth c nL cl sl A Q E σ π o pc (a0 :: a1 :: a2 :: a3 :: a4 :: a5 :: a6 :: a7 :: b :: b2 :: r) (.long x :: st) :=
  fun H locs ls hW hS hl => lv_lstore C.1.1 C.1.2.1 hd hl hn rfl (fun ls' h' => k H locs ls' hW hS (lh2 (lv := (a0 :: a1 :: a2 :: a3 :: a4 :: a5 :: a6 :: a7 :: b :: b2 :: r)) (i := 8) h' h1))
theorem G.lld9 (C : gCx p s m c cc nL own Ts args E A R cl sl) {pc : Nat}  {a0 a1 a2 a3 a4 a5 a6 a7 a8 : Option Value} {r : List (Option Value)} {st : List Value} {x : Int64} (hd : decode cc pc = .ok (.lload 9, 2)) (k : G p l e R s m args below meth c nL cl sl A Q E σ π o (pc + 2) (a0 :: a1 :: a2 :: a3 :: a4 :: a5 :: a6 :: a7 :: a8 :: some (.long x) :: r) (.long x :: st)) : G p l e R s m args below meth c nL cl sl A Q E σ π o pc (a0 :: a1 :: a2 :: a3 :: a4 :: a5 :: a6 :: a7 :: a8 :: some (.long x) :: r) st :=
  fun H locs ls hW hS hl => lv_lload C.1.1 C.1.2.1 hd (hl.at rfl) (k H locs ls hW hS hl)
theorem G.lst9 (C : gCx p s m c cc nL own Ts args E A R cl sl) {pc : Nat}  {a0 a1 a2 a3 a4 a5 a6 a7 a8 b b2 : Option Value} {r : List (Option Value)} {st : List Value} {x : Int64} (hd : decode cc pc = .ok (.lstore 9, 2)) (hn : 9 + 1 < nL) (h1 : lv1 (a0 :: a1 :: a2 :: a3 :: a4 :: a5 :: a6 :: a7 :: a8 :: b :: b2 :: r) 9 = true) (k : G p l e R s m args below meth c nL cl sl A Q E σ π o (pc + 2) (a0 :: a1 :: a2 :: a3 :: a4 :: a5 :: a6 :: a7 :: a8 :: some (.long x) :: none :: r) st) : G p l e R s m args below meth c nL cl sl A Q E σ π o pc (a0 :: a1 :: a2 :: a3 :: a4 :: a5 :: a6 :: a7 :: a8 :: b :: b2 :: r) (.long x :: st) :=
  fun H locs ls hW hS hl => lv_lstore C.1.1 C.1.2.1 hd hl hn rfl (fun ls' h' => k H locs ls' hW hS (lh2 (lv := (a0 :: a1 :: a2 :: a3 :: a4 :: a5 :: a6 :: a7 :: a8 :: b :: b2 :: r)) (i := 9) h' h1))
theorem G.dld0 (C : gCx p s m c cc nL own Ts args E A R cl sl) {pc : Nat}   {r : List (Option Value)} {st : List Value} {x : UInt64} (hd : decode cc pc = .ok (.dload 0, 2)) (k : G p l e R s m args below meth c nL cl sl A Q E σ π o (pc + 2) (some (.double x) :: r) (.double x :: st)) : G p l e R s m args below meth c nL cl sl A Q E σ π o pc (some (.double x) :: r) st :=
  fun H locs ls hW hS hl => lv_dload C.1.1 C.1.2.1 hd (hl.at rfl) (k H locs ls hW hS hl)
theorem G.dldn0 (C : gCx p s m c cc nL own Ts args E A R cl sl) {pc : Nat}   {r : List (Option Value)} {st : List Value} {x : UInt64} (hd : decode cc pc = .ok (.dload_n 0, 1)) (k : G p l e R s m args below meth c nL cl sl A Q E σ π o (pc + 1) (some (.double x) :: r) (.double x :: st)) : G p l e R s m args below meth c nL cl sl A Q E σ π o pc (some (.double x) :: r) st :=
  fun H locs ls hW hS hl => lv_dload_n C.1.1 C.1.2.1 hd rfl (hl.at rfl) (k H locs ls hW hS hl)
theorem G.dst0 (C : gCx p s m c cc nL own Ts args E A R cl sl) {pc : Nat}  { b b2 : Option Value} {r : List (Option Value)} {st : List Value} {x : UInt64} (hd : decode cc pc = .ok (.dstore 0, 2)) (hn : 0 + 1 < nL) (h1 : lv1 (b :: b2 :: r) 0 = true) (k : G p l e R s m args below meth c nL cl sl A Q E σ π o (pc + 2) (some (.double x) :: none :: r) st) : G p l e R s m args below meth c nL cl sl A Q E σ π o pc (b :: b2 :: r) (.double x :: st) :=
  fun H locs ls hW hS hl => lv_dstore C.1.1 C.1.2.1 hd hl hn rfl (fun ls' h' => k H locs ls' hW hS (lh2 (lv := (b :: b2 :: r)) (i := 0) h' h1))
theorem G.dstn0 (C : gCx p s m c cc nL own Ts args E A R cl sl) {pc : Nat}  { b b2 : Option Value} {r : List (Option Value)} {st : List Value} {x : UInt64} (hd : decode cc pc = .ok (.dstore_n 0, 1)) (hn : 0 + 1 < nL) (h1 : lv1 (b :: b2 :: r) 0 = true) (k : G p l e R s m args below meth c nL cl sl A Q E σ π o (pc + 1) (some (.double x) :: none :: r) st) : G p l e R s m args below meth c nL cl sl A Q E σ π o pc (b :: b2 :: r) (.double x :: st) :=
  fun H locs ls hW hS hl => lv_dstore_n (i := 0) C.1.1 C.1.2.1 hd rfl hl hn rfl (fun ls' h' => k H locs ls' hW hS (lh2 (lv := (b :: b2 :: r)) (i := 0) h' h1))
theorem G.dld1 (C : gCx p s m c cc nL own Ts args E A R cl sl) {pc : Nat}  {a0 : Option Value} {r : List (Option Value)} {st : List Value} {x : UInt64} (hd : decode cc pc = .ok (.dload 1, 2)) (k : G p l e R s m args below meth c nL cl sl A Q E σ π o (pc + 2) (a0 :: some (.double x) :: r) (.double x :: st)) : G p l e R s m args below meth c nL cl sl A Q E σ π o pc (a0 :: some (.double x) :: r) st :=
  fun H locs ls hW hS hl => lv_dload C.1.1 C.1.2.1 hd (hl.at rfl) (k H locs ls hW hS hl)
theorem G.dldn1 (C : gCx p s m c cc nL own Ts args E A R cl sl) {pc : Nat}  {a0 : Option Value} {r : List (Option Value)} {st : List Value} {x : UInt64} (hd : decode cc pc = .ok (.dload_n 1, 1)) (k : G p l e R s m args below meth c nL cl sl A Q E σ π o (pc + 1) (a0 :: some (.double x) :: r) (.double x :: st)) : G p l e R s m args below meth c nL cl sl A Q E σ π o pc (a0 :: some (.double x) :: r) st :=
  fun H locs ls hW hS hl => lv_dload_n C.1.1 C.1.2.1 hd rfl (hl.at rfl) (k H locs ls hW hS hl)
theorem G.dst1 (C : gCx p s m c cc nL own Ts args E A R cl sl) {pc : Nat}  {a0 b b2 : Option Value} {r : List (Option Value)} {st : List Value} {x : UInt64} (hd : decode cc pc = .ok (.dstore 1, 2)) (hn : 1 + 1 < nL) (h1 : lv1 (a0 :: b :: b2 :: r) 1 = true) (k : G p l e R s m args below meth c nL cl sl A Q E σ π o (pc + 2) (a0 :: some (.double x) :: none :: r) st) : G p l e R s m args below meth c nL cl sl A Q E σ π o pc (a0 :: b :: b2 :: r) (.double x :: st) :=
  fun H locs ls hW hS hl => lv_dstore C.1.1 C.1.2.1 hd hl hn rfl (fun ls' h' => k H locs ls' hW hS (lh2 (lv := (a0 :: b :: b2 :: r)) (i := 1) h' h1))
theorem G.dstn1 (C : gCx p s m c cc nL own Ts args E A R cl sl) {pc : Nat}  {a0 b b2 : Option Value} {r : List (Option Value)} {st : List Value} {x : UInt64} (hd : decode cc pc = .ok (.dstore_n 1, 1)) (hn : 1 + 1 < nL) (h1 : lv1 (a0 :: b :: b2 :: r) 1 = true) (k : G p l e R s m args below meth c nL cl sl A Q E σ π o (pc + 1) (a0 :: some (.double x) :: none :: r) st) : G p l e R s m args below meth c nL cl sl A Q E σ π o pc (a0 :: b :: b2 :: r) (.double x :: st) :=
  fun H locs ls hW hS hl => lv_dstore_n (i := 1) C.1.1 C.1.2.1 hd rfl hl hn rfl (fun ls' h' => k H locs ls' hW hS (lh2 (lv := (a0 :: b :: b2 :: r)) (i := 1) h' h1))
theorem G.dld2 (C : gCx p s m c cc nL own Ts args E A R cl sl) {pc : Nat}  {a0 a1 : Option Value} {r : List (Option Value)} {st : List Value} {x : UInt64} (hd : decode cc pc = .ok (.dload 2, 2)) (k : G p l e R s m args below meth c nL cl sl A Q E σ π o (pc + 2) (a0 :: a1 :: some (.double x) :: r) (.double x :: st)) : G p l e R s m args below meth c nL cl sl A Q E σ π o pc (a0 :: a1 :: some (.double x) :: r) st :=
  fun H locs ls hW hS hl => lv_dload C.1.1 C.1.2.1 hd (hl.at rfl) (k H locs ls hW hS hl)
theorem G.dldn2 (C : gCx p s m c cc nL own Ts args E A R cl sl) {pc : Nat}  {a0 a1 : Option Value} {r : List (Option Value)} {st : List Value} {x : UInt64} (hd : decode cc pc = .ok (.dload_n 2, 1)) (k : G p l e R s m args below meth c nL cl sl A Q E σ π o (pc + 1) (a0 :: a1 :: some (.double x) :: r) (.double x :: st)) : G p l e R s m args below meth c nL cl sl A Q E σ π o pc (a0 :: a1 :: some (.double x) :: r) st :=
  fun H locs ls hW hS hl => lv_dload_n C.1.1 C.1.2.1 hd rfl (hl.at rfl) (k H locs ls hW hS hl)
theorem G.dst2 (C : gCx p s m c cc nL own Ts args E A R cl sl) {pc : Nat}  {a0 a1 b b2 : Option Value} {r : List (Option Value)} {st : List Value} {x : UInt64} (hd : decode cc pc = .ok (.dstore 2, 2)) (hn : 2 + 1 < nL) (h1 : lv1 (a0 :: a1 :: b :: b2 :: r) 2 = true) (k : G p l e R s m args below meth c nL cl sl A Q E σ π o (pc + 2) (a0 :: a1 :: some (.double x) :: none :: r) st) : G p l e R s m args below meth c nL cl sl A Q E σ π o pc (a0 :: a1 :: b :: b2 :: r) (.double x :: st) :=
  fun H locs ls hW hS hl => lv_dstore C.1.1 C.1.2.1 hd hl hn rfl (fun ls' h' => k H locs ls' hW hS (lh2 (lv := (a0 :: a1 :: b :: b2 :: r)) (i := 2) h' h1))
theorem G.dstn2 (C : gCx p s m c cc nL own Ts args E A R cl sl) {pc : Nat}  {a0 a1 b b2 : Option Value} {r : List (Option Value)} {st : List Value} {x : UInt64} (hd : decode cc pc = .ok (.dstore_n 2, 1)) (hn : 2 + 1 < nL) (h1 : lv1 (a0 :: a1 :: b :: b2 :: r) 2 = true) (k : G p l e R s m args below meth c nL cl sl A Q E σ π o (pc + 1) (a0 :: a1 :: some (.double x) :: none :: r) st) : G p l e R s m args below meth c nL cl sl A Q E σ π o pc (a0 :: a1 :: b :: b2 :: r) (.double x :: st) :=
  fun H locs ls hW hS hl => lv_dstore_n (i := 2) C.1.1 C.1.2.1 hd rfl hl hn rfl (fun ls' h' => k H locs ls' hW hS (lh2 (lv := (a0 :: a1 :: b :: b2 :: r)) (i := 2) h' h1))
theorem G.dld3 (C : gCx p s m c cc nL own Ts args E A R cl sl) {pc : Nat}  {a0 a1 a2 : Option Value} {r : List (Option Value)} {st : List Value} {x : UInt64} (hd : decode cc pc = .ok (.dload 3, 2)) (k : G p l e R s m args below meth c nL cl sl A Q E σ π o (pc + 2) (a0 :: a1 :: a2 :: some (.double x) :: r) (.double x :: st)) : G p l e R s m args below meth c nL cl sl A Q E σ π o pc (a0 :: a1 :: a2 :: some (.double x) :: r) st :=
  fun H locs ls hW hS hl => lv_dload C.1.1 C.1.2.1 hd (hl.at rfl) (k H locs ls hW hS hl)
theorem G.dldn3 (C : gCx p s m c cc nL own Ts args E A R cl sl) {pc : Nat}  {a0 a1 a2 : Option Value} {r : List (Option Value)} {st : List Value} {x : UInt64} (hd : decode cc pc = .ok (.dload_n 3, 1)) (k : G p l e R s m args below meth c nL cl sl A Q E σ π o (pc + 1) (a0 :: a1 :: a2 :: some (.double x) :: r) (.double x :: st)) : G p l e R s m args below meth c nL cl sl A Q E σ π o pc (a0 :: a1 :: a2 :: some (.double x) :: r) st :=
  fun H locs ls hW hS hl => lv_dload_n C.1.1 C.1.2.1 hd rfl (hl.at rfl) (k H locs ls hW hS hl)
theorem G.dst3 (C : gCx p s m c cc nL own Ts args E A R cl sl) {pc : Nat}  {a0 a1 a2 b b2 : Option Value} {r : List (Option Value)} {st : List Value} {x : UInt64} (hd : decode cc pc = .ok (.dstore 3, 2)) (hn : 3 + 1 < nL) (h1 : lv1 (a0 :: a1 :: a2 :: b :: b2 :: r) 3 = true) (k : G p l e R s m args below meth c nL cl sl A Q E σ π o (pc + 2) (a0 :: a1 :: a2 :: some (.double x) :: none :: r) st) : G p l e R s m args below meth c nL cl sl A Q E σ π o pc (a0 :: a1 :: a2 :: b :: b2 :: r) (.double x :: st) :=
  fun H locs ls hW hS hl => lv_dstore C.1.1 C.1.2.1 hd hl hn rfl (fun ls' h' => k H locs ls' hW hS (lh2 (lv := (a0 :: a1 :: a2 :: b :: b2 :: r)) (i := 3) h' h1))
theorem G.dstn3 (C : gCx p s m c cc nL own Ts args E A R cl sl) {pc : Nat}  {a0 a1 a2 b b2 : Option Value} {r : List (Option Value)} {st : List Value} {x : UInt64} (hd : decode cc pc = .ok (.dstore_n 3, 1)) (hn : 3 + 1 < nL) (h1 : lv1 (a0 :: a1 :: a2 :: b :: b2 :: r) 3 = true) (k : G p l e R s m args below meth c nL cl sl A Q E σ π o (pc + 1) (a0 :: a1 :: a2 :: some (.double x) :: none :: r) st) : G p l e R s m args below meth c nL cl sl A Q E σ π o pc (a0 :: a1 :: a2 :: b :: b2 :: r) (.double x :: st) :=
  fun H locs ls hW hS hl => lv_dstore_n (i := 3) C.1.1 C.1.2.1 hd rfl hl hn rfl (fun ls' h' => k H locs ls' hW hS (lh2 (lv := (a0 :: a1 :: a2 :: b :: b2 :: r)) (i := 3) h' h1))
theorem G.dld4 (C : gCx p s m c cc nL own Ts args E A R cl sl) {pc : Nat}  {a0 a1 a2 a3 : Option Value} {r : List (Option Value)} {st : List Value} {x : UInt64} (hd : decode cc pc = .ok (.dload 4, 2)) (k : G p l e R s m args below meth c nL cl sl A Q E σ π o (pc + 2) (a0 :: a1 :: a2 :: a3 :: some (.double x) :: r) (.double x :: st)) : G p l e R s m args below meth c nL cl sl A Q E σ π o pc (a0 :: a1 :: a2 :: a3 :: some (.double x) :: r) st :=
  fun H locs ls hW hS hl => lv_dload C.1.1 C.1.2.1 hd (hl.at rfl) (k H locs ls hW hS hl)
theorem G.dst4 (C : gCx p s m c cc nL own Ts args E A R cl sl) {pc : Nat}  {a0 a1 a2 a3 b b2 : Option Value} {r : List (Option Value)} {st : List Value} {x : UInt64} (hd : decode cc pc = .ok (.dstore 4, 2)) (hn : 4 + 1 < nL) (h1 : lv1 (a0 :: a1 :: a2 :: a3 :: b :: b2 :: r) 4 = true) (k : G p l e R s m args below meth c nL cl sl A Q E σ π o (pc + 2) (a0 :: a1 :: a2 :: a3 :: some (.double x) :: none :: r) st) : G p l e R s m args below meth c nL cl sl A Q E σ π o pc (a0 :: a1 :: a2 :: a3 :: b :: b2 :: r) (.double x :: st) :=
  fun H locs ls hW hS hl => lv_dstore C.1.1 C.1.2.1 hd hl hn rfl (fun ls' h' => k H locs ls' hW hS (lh2 (lv := (a0 :: a1 :: a2 :: a3 :: b :: b2 :: r)) (i := 4) h' h1))
theorem G.dld5 (C : gCx p s m c cc nL own Ts args E A R cl sl) {pc : Nat}  {a0 a1 a2 a3 a4 : Option Value} {r : List (Option Value)} {st : List Value} {x : UInt64} (hd : decode cc pc = .ok (.dload 5, 2)) (k : G p l e R s m args below meth c nL cl sl A Q E σ π o (pc + 2) (a0 :: a1 :: a2 :: a3 :: a4 :: some (.double x) :: r) (.double x :: st)) : G p l e R s m args below meth c nL cl sl A Q E σ π o pc (a0 :: a1 :: a2 :: a3 :: a4 :: some (.double x) :: r) st :=
  fun H locs ls hW hS hl => lv_dload C.1.1 C.1.2.1 hd (hl.at rfl) (k H locs ls hW hS hl)
theorem G.dst5 (C : gCx p s m c cc nL own Ts args E A R cl sl) {pc : Nat}  {a0 a1 a2 a3 a4 b b2 : Option Value} {r : List (Option Value)} {st : List Value} {x : UInt64} (hd : decode cc pc = .ok (.dstore 5, 2)) (hn : 5 + 1 < nL) (h1 : lv1 (a0 :: a1 :: a2 :: a3 :: a4 :: b :: b2 :: r) 5 = true) (k : G p l e R s m args below meth c nL cl sl A Q E σ π o (pc + 2) (a0 :: a1 :: a2 :: a3 :: a4 :: some (.double x) :: none :: r) st) : G p l e R s m args below meth c nL cl sl A Q E σ π o pc (a0 :: a1 :: a2 :: a3 :: a4 :: b :: b2 :: r) (.double x :: st) :=
  fun H locs ls hW hS hl => lv_dstore C.1.1 C.1.2.1 hd hl hn rfl (fun ls' h' => k H locs ls' hW hS (lh2 (lv := (a0 :: a1 :: a2 :: a3 :: a4 :: b :: b2 :: r)) (i := 5) h' h1))
theorem G.dld6 (C : gCx p s m c cc nL own Ts args E A R cl sl) {pc : Nat}  {a0 a1 a2 a3 a4 a5 : Option Value} {r : List (Option Value)} {st : List Value} {x : UInt64} (hd : decode cc pc = .ok (.dload 6, 2)) (k : G p l e R s m args below meth c nL cl sl A Q E σ π o (pc + 2) (a0 :: a1 :: a2 :: a3 :: a4 :: a5 :: some (.double x) :: r) (.double x :: st)) : G p l e R s m args below meth c nL cl sl A Q E σ π o pc (a0 :: a1 :: a2 :: a3 :: a4 :: a5 :: some (.double x) :: r) st :=
  fun H locs ls hW hS hl => lv_dload C.1.1 C.1.2.1 hd (hl.at rfl) (k H locs ls hW hS hl)
theorem G.dst6 (C : gCx p s m c cc nL own Ts args E A R cl sl) {pc : Nat}  {a0 a1 a2 a3 a4 a5 b b2 : Option Value} {r : List (Option Value)} {st : List Value} {x : UInt64} (hd : decode cc pc = .ok (.dstore 6, 2)) (hn : 6 + 1 < nL) (h1 : lv1 (a0 :: a1 :: a2 :: a3 :: a4 :: a5 :: b :: b2 :: r) 6 = true) (k : G p l e R s m args below meth c nL cl sl A Q E σ π o (pc + 2) (a0 :: a1 :: a2 :: a3 :: a4 :: a5 :: some (.double x) :: none :: r) st) : G p l e R s m args below meth c nL cl sl A Q E σ π o pc (a0 :: a1 :: a2 :: a3 :: a4 :: a5 :: b :: b2 :: r) (.double x :: st) :=
  fun H locs ls hW hS hl => lv_dstore C.1.1 C.1.2.1 hd hl hn rfl (fun ls' h' => k H locs ls' hW hS (lh2 (lv := (a0 :: a1 :: a2 :: a3 :: a4 :: a5 :: b :: b2 :: r)) (i := 6) h' h1))
theorem G.dld7 (C : gCx p s m c cc nL own Ts args E A R cl sl) {pc : Nat}  {a0 a1 a2 a3 a4 a5 a6 : Option Value} {r : List (Option Value)} {st : List Value} {x : UInt64} (hd : decode cc pc = .ok (.dload 7, 2)) (k : G p l e R s m args below meth c nL cl sl A Q E σ π o (pc + 2) (a0 :: a1 :: a2 :: a3 :: a4 :: a5 :: a6 :: some (.double x) :: r) (.double x :: st)) : G p l e R s m args below meth c nL cl sl A Q E σ π o pc (a0 :: a1 :: a2 :: a3 :: a4 :: a5 :: a6 :: some (.double x) :: r) st :=
  fun H locs ls hW hS hl => lv_dload C.1.1 C.1.2.1 hd (hl.at rfl) (k H locs ls hW hS hl)
theorem G.dst7 (C : gCx p s m c cc nL own Ts args E A R cl sl) {pc : Nat}  {a0 a1 a2 a3 a4 a5 a6 b b2 : Option Value} {r : List (Option Value)} {st : List Value} {x : UInt64} (hd : decode cc pc = .ok (.dstore 7, 2)) (hn : 7 + 1 < nL) (h1 : lv1 (a0 :: a1 :: a2 :: a3 :: a4 :: a5 :: a6 :: b :: b2 :: r) 7 = true) (k : G p l e R s m args below meth c nL cl sl A Q E σ π o (pc + 2) (a0 :: a1 :: a2 :: a3 :: a4 :: a5 :: a6 :: some (.double x) :: none :: r) st) : G p l e R s m args below meth c nL cl sl A Q E σ π o pc (a0 :: a1 :: a2 :: a3 :: a4 :: a5 :: a6 :: b :: b2 :: r) (.double x :: st) :=
  fun H locs ls hW hS hl => lv_dstore C.1.1 C.1.2.1 hd hl hn rfl (fun ls' h' => k H locs ls' hW hS (lh2 (lv := (a0 :: a1 :: a2 :: a3 :: a4 :: a5 :: a6 :: b :: b2 :: r)) (i := 7) h' h1))
theorem G.dld8 (C : gCx p s m c cc nL own Ts args E A R cl sl) {pc : Nat}  {a0 a1 a2 a3 a4 a5 a6 a7 : Option Value} {r : List (Option Value)} {st : List Value} {x : UInt64} (hd : decode cc pc = .ok (.dload 8, 2)) (k : G p l e R s m args below meth c nL cl sl A Q E σ π o (pc + 2) (a0 :: a1 :: a2 :: a3 :: a4 :: a5 :: a6 :: a7 :: some (.double x) :: r) (.double x :: st)) : G p l e R s m args below meth c nL cl sl A Q E σ π o pc (a0 :: a1 :: a2 :: a3 :: a4 :: a5 :: a6 :: a7 :: some (.double x) :: r) st :=
  fun H locs ls hW hS hl => lv_dload C.1.1 C.1.2.1 hd (hl.at rfl) (k H locs ls hW hS hl)
theorem G.dst8 (C : gCx p s m c cc nL own Ts args E A R cl sl) {pc : Nat}  {a0 a1 a2 a3 a4 a5 a6 a7 b b2 : Option Value} {r : List (Option Value)} {st : List Value} {x : UInt64} (hd : decode cc pc = .ok (.dstore 8, 2)) (hn : 8 + 1 < nL) (h1 : lv1 (a0 :: a1 :: a2 :: a3 :: a4 :: a5 :: a6 :: a7 :: b :: b2 :: r) 8 = true) (k : G p l e R s m args below meth c nL cl sl A Q E σ π o (pc + 2) (a0 :: a1 :: a2 :: a3 :: a4 :: a5 :: a6 :: a7 :: some (.double x) :: none :: r) st) : G p l e R s m args below meth c nL cl sl A Q E σ π o pc (a0 :: a1 :: a2 :: a3 :: a4 :: a5 :: a6 :: a7 :: b :: b2 :: r) (.double x :: st) :=
  fun H locs ls hW hS hl => lv_dstore C.1.1 C.1.2.1 hd hl hn rfl (fun ls' h' => k H locs ls' hW hS (lh2 (lv := (a0 :: a1 :: a2 :: a3 :: a4 :: a5 :: a6 :: a7 :: b :: b2 :: r)) (i := 8) h' h1))
theorem G.dld9 (C : gCx p s m c cc nL own Ts args E A R cl sl) {pc : Nat}  {a0 a1 a2 a3 a4 a5 a6 a7 a8 : Option Value} {r : List (Option Value)} {st : List Value} {x : UInt64} (hd : decode cc pc = .ok (.dload 9, 2)) (k : G p l e R s m args below meth c nL cl sl A Q E σ π o (pc + 2) (a0 :: a1 :: a2 :: a3 :: a4 :: a5 :: a6 :: a7 :: a8 :: some (.double x) :: r) (.double x :: st)) : G p l e R s m args below meth c nL cl sl A Q E σ π o pc (a0 :: a1 :: a2 :: a3 :: a4 :: a5 :: a6 :: a7 :: a8 :: some (.double x) :: r) st :=
  fun H locs ls hW hS hl => lv_dload C.1.1 C.1.2.1 hd (hl.at rfl) (k H locs ls hW hS hl)
theorem G.dst9 (C : gCx p s m c cc nL own Ts args E A R cl sl) {pc : Nat}  {a0 a1 a2 a3 a4 a5 a6 a7 a8 b b2 : Option Value} {r : List (Option Value)} {st : List Value} {x : UInt64} (hd : decode cc pc = .ok (.dstore 9, 2)) (hn : 9 + 1 < nL) (h1 : lv1 (a0 :: a1 :: a2 :: a3 :: a4 :: a5 :: a6 :: a7 :: a8 :: b :: b2 :: r) 9 = true) (k : G p l e R s m args below meth c nL cl sl A Q E σ π o (pc + 2) (a0 :: a1 :: a2 :: a3 :: a4 :: a5 :: a6 :: a7 :: a8 :: some (.double x) :: none :: r) st) : G p l e R s m args below meth c nL cl sl A Q E σ π o pc (a0 :: a1 :: a2 :: a3 :: a4 :: a5 :: a6 :: a7 :: a8 :: b :: b2 :: r) (.double x :: st) :=
  fun H locs ls hW hS hl => lv_dstore C.1.1 C.1.2.1 hd hl hn rfl (fun ls' h' => k H locs ls' hW hS (lh2 (lv := (a0 :: a1 :: a2 :: a3 :: a4 :: a5 :: a6 :: a7 :: a8 :: b :: b2 :: r)) (i := 9) h' h1))
theorem G.iadd (C : gCx p s m c cc nL own Ts args E A R cl sl) {pc : Nat}  {lv : List (Option Value)} {st : List Value} {x y : Int32} (hd : decode cc pc = .ok (.iadd, 1)) (k : G p l e R s m args below meth c nL cl sl A Q E σ π o (pc + 1) lv (.int (x + y) :: st)) : G p l e R s m args below meth c nL cl sl A Q E σ π o pc lv (.int y :: .int x :: st) :=
  fun H locs ls hW hS hl => lv_iadd C.1.1 C.1.2.1 hd (k H locs ls hW hS hl)
theorem G.isub (C : gCx p s m c cc nL own Ts args E A R cl sl) {pc : Nat}  {lv : List (Option Value)} {st : List Value} {x y : Int32} (hd : decode cc pc = .ok (.isub, 1)) (k : G p l e R s m args below meth c nL cl sl A Q E σ π o (pc + 1) lv (.int (x - y) :: st)) : G p l e R s m args below meth c nL cl sl A Q E σ π o pc lv (.int y :: .int x :: st) :=
  fun H locs ls hW hS hl => lv_isub C.1.1 C.1.2.1 hd (k H locs ls hW hS hl)
theorem G.imul (C : gCx p s m c cc nL own Ts args E A R cl sl) {pc : Nat}  {lv : List (Option Value)} {st : List Value} {x y : Int32} (hd : decode cc pc = .ok (.imul, 1)) (k : G p l e R s m args below meth c nL cl sl A Q E σ π o (pc + 1) lv (.int (x * y) :: st)) : G p l e R s m args below meth c nL cl sl A Q E σ π o pc lv (.int y :: .int x :: st) :=
  fun H locs ls hW hS hl => lv_imul C.1.1 C.1.2.1 hd (k H locs ls hW hS hl)
theorem G.iand (C : gCx p s m c cc nL own Ts args E A R cl sl) {pc : Nat}  {lv : List (Option Value)} {st : List Value} {x y : Int32} (hd : decode cc pc = .ok (.iand, 1)) (k : G p l e R s m args below meth c nL cl sl A Q E σ π o (pc + 1) lv (.int (x &&& y) :: st)) : G p l e R s m args below meth c nL cl sl A Q E σ π o pc lv (.int y :: .int x :: st) :=
  fun H locs ls hW hS hl => lv_iand C.1.1 C.1.2.1 hd (k H locs ls hW hS hl)
theorem G.ladd (C : gCx p s m c cc nL own Ts args E A R cl sl) {pc : Nat}  {lv : List (Option Value)} {st : List Value} {x y : Int64} (hd : decode cc pc = .ok (.ladd, 1)) (k : G p l e R s m args below meth c nL cl sl A Q E σ π o (pc + 1) lv (.long (x + y) :: st)) : G p l e R s m args below meth c nL cl sl A Q E σ π o pc lv (.long y :: .long x :: st) :=
  fun H locs ls hW hS hl => lv_ladd C.1.1 C.1.2.1 hd (k H locs ls hW hS hl)
theorem G.lsub (C : gCx p s m c cc nL own Ts args E A R cl sl) {pc : Nat}  {lv : List (Option Value)} {st : List Value} {x y : Int64} (hd : decode cc pc = .ok (.lsub, 1)) (k : G p l e R s m args below meth c nL cl sl A Q E σ π o (pc + 1) lv (.long (x - y) :: st)) : G p l e R s m args below meth c nL cl sl A Q E σ π o pc lv (.long y :: .long x :: st) :=
  fun H locs ls hW hS hl => lv_lsub C.1.1 C.1.2.1 hd (k H locs ls hW hS hl)
theorem G.lmul (C : gCx p s m c cc nL own Ts args E A R cl sl) {pc : Nat}  {lv : List (Option Value)} {st : List Value} {x y : Int64} (hd : decode cc pc = .ok (.lmul, 1)) (k : G p l e R s m args below meth c nL cl sl A Q E σ π o (pc + 1) lv (.long (x * y) :: st)) : G p l e R s m args below meth c nL cl sl A Q E σ π o pc lv (.long y :: .long x :: st) :=
  fun H locs ls hW hS hl => lv_lmul C.1.1 C.1.2.1 hd (k H locs ls hW hS hl)
theorem G.irem (C : gCx p s m c cc nL own Ts args E A R cl sl) {pc : Nat}  {lv : List (Option Value)} {st : List Value} {x y : Int32} (hd : decode cc pc = .ok (.irem, 1)) (hne : ¬ y = 0) (k : G p l e R s m args below meth c nL cl sl A Q E σ π o (pc + 1) lv (.int (x - x / y * y) :: st)) : G p l e R s m args below meth c nL cl sl A Q E σ π o pc lv (.int y :: .int x :: st) :=
  fun H locs ls hW hS hl => lv_irem C.1.1 C.1.2.1 hd hne (k H locs ls hW hS hl)
theorem G.idiv (C : gCx p s m c cc nL own Ts args E A R cl sl) {pc : Nat}  {lv : List (Option Value)} {st : List Value} {x y : Int32} (hd : decode cc pc = .ok (.idiv, 1)) (hne : ¬ y = 0) (k : G p l e R s m args below meth c nL cl sl A Q E σ π o (pc + 1) lv (.int (x / y) :: st)) : G p l e R s m args below meth c nL cl sl A Q E σ π o pc lv (.int y :: .int x :: st) :=
  fun H locs ls hW hS hl => lv_idiv C.1.1 C.1.2.1 hd hne (k H locs ls hW hS hl)
theorem G.i2l (C : gCx p s m c cc nL own Ts args E A R cl sl) {pc : Nat}  {lv : List (Option Value)} {st : List Value} {x : Int32} (hd : decode cc pc = .ok (.i2l, 1)) (k : G p l e R s m args below meth c nL cl sl A Q E σ π o (pc + 1) lv (.long x.toInt64 :: st)) : G p l e R s m args below meth c nL cl sl A Q E σ π o pc lv (.int x :: st) :=
  fun H locs ls hW hS hl => lv_i2l C.1.1 C.1.2.1 hd rfl (k H locs ls hW hS hl)
theorem G.i2d (C : gCx p s m c cc nL own Ts args E A R cl sl) {pc : Nat}  {lv : List (Option Value)} {st : List Value} {x : Int32} (hd : decode cc pc = .ok (.i2d, 1)) (k : G p l e R s m args below meth c nL cl sl A Q E σ π o (pc + 1) lv (.double (FP.i2d x) :: st)) : G p l e R s m args below meth c nL cl sl A Q E σ π o pc lv (.int x :: st) :=
  fun H locs ls hW hS hl => lv_i2d C.1.1 C.1.2.1 hd (k H locs ls hW hS hl)
theorem G.ddiv (C : gCx p s m c cc nL own Ts args E A R cl sl) {pc : Nat}  {lv : List (Option Value)} {st : List Value} {x y : UInt64} (hd : decode cc pc = .ok (.ddiv, 1)) (hne : vf_n64 (FP.ddiv x y)) (k : G p l e R s m args below meth c nL cl sl A Q E σ π o (pc + 1) lv (.double (FP.ddiv x y) :: st)) : G p l e R s m args below meth c nL cl sl A Q E σ π o pc lv (.double y :: .double x :: st) :=
  fun H locs ls hW hS hl => lv_ddiv C.1.1 C.1.2.1 hd hne (k H locs ls hW hS hl)
theorem G.dup (C : gCx p s m c cc nL own Ts args E A R cl sl) {pc : Nat}  {lv : List (Option Value)} {st : List Value} {v : Value} (hd : decode cc pc = .ok (.dup, 1)) (hc : v.category = 1) (k : G p l e R s m args below meth c nL cl sl A Q E σ π o (pc + 1) lv (v :: v :: st)) : G p l e R s m args below meth c nL cl sl A Q E σ π o pc lv (v :: st) :=
  fun H locs ls hW hS hl => lv_dup C.1.1 C.1.2.1 hd hc (k H locs ls hW hS hl)
theorem G.pop (C : gCx p s m c cc nL own Ts args E A R cl sl) {pc : Nat}  {lv : List (Option Value)} {st : List Value} {v : Value} (hd : decode cc pc = .ok (.pop, 1)) (hc : v.category = 1) (k : G p l e R s m args below meth c nL cl sl A Q E σ π o (pc + 1) lv st) : G p l e R s m args below meth c nL cl sl A Q E σ π o pc lv (v :: st) :=
  fun H locs ls hW hS hl => lv_pop C.1.1 C.1.2.1 hd hc (k H locs ls hW hS hl)
theorem G.topI {pc : Nat} {lv : List (Option Value)} {st : List Value} {x : Int32} (y : Int32) (h : x = y) (k : G p l e R s m args below meth c nL cl sl A Q E σ π o pc lv (.int y :: st)) : G p l e R s m args below meth c nL cl sl A Q E σ π o pc lv (.int x :: st) := by
  subst h; exact k
theorem G.dup2 (C : gCx p s m c cc nL own Ts args E A R cl sl) {pc : Nat}  {lv : List (Option Value)} {st : List Value} {v v2 : Value} (hd : decode cc pc = .ok (.dup2, 1)) (hc : v.category = 1) (hc2 : v2.category = 1) (k : G p l e R s m args below meth c nL cl sl A Q E σ π o (pc + 1) lv (v :: v2 :: v :: v2 :: st)) : G p l e R s m args below meth c nL cl sl A Q E σ π o pc lv (v :: v2 :: st) :=
  fun H locs ls hW hS hl => lv_dup2_11 C.1.1 C.1.2.1 hd hc hc2 (k H locs ls hW hS hl)
theorem G.icmp_eq (C : gCx p s m c cc nL own Ts args E A R cl sl) {pc : Nat}  {lv : List (Option Value)} {st : List Value} {x y : Int32} {off : Int} (tgt : Nat) (hd : decode cc pc = .ok (.if_icmp .eq off, 3)) (ht : (pc : Int) + off = (tgt : Int)) (kt : x = y → G p l e R s m args below meth c nL cl sl A Q E σ π o tgt lv st) (kf : ¬ (x = y) → G p l e R s m args below meth c nL cl sl A Q E σ π o (pc + 3) lv st) : G p l e R s m args below meth c nL cl sl A Q E σ π o pc lv (.int y :: .int x :: st) :=
  fun H locs ls hW hS hl => lv_icmp_eq C.1.1 C.1.2.1 hd ht (fun h => kt h H locs ls hW hS hl) (fun h => kf h H locs ls hW hS hl)
theorem G.icmp_ne (C : gCx p s m c cc nL own Ts args E A R cl sl) {pc : Nat}  {lv : List (Option Value)} {st : List Value} {x y : Int32} {off : Int} (tgt : Nat) (hd : decode cc pc = .ok (.if_icmp .ne off, 3)) (ht : (pc : Int) + off = (tgt : Int)) (kt : ¬ x = y → G p l e R s m args below meth c nL cl sl A Q E σ π o tgt lv st) (kf : x = y → G p l e R s m args below meth c nL cl sl A Q E σ π o (pc + 3) lv st) : G p l e R s m args below meth c nL cl sl A Q E σ π o pc lv (.int y :: .int x :: st) :=
  fun H locs ls hW hS hl => lv_icmp_ne C.1.1 C.1.2.1 hd ht (fun h => kt h H locs ls hW hS hl) (fun h => kf h H locs ls hW hS hl)
theorem G.icmp_lt (C : gCx p s m c cc nL own Ts args E A R cl sl) {pc : Nat}  {lv : List (Option Value)} {st : List Value} {x y : Int32} {off : Int} (tgt : Nat) (hd : decode cc pc = .ok (.if_icmp .lt off, 3)) (ht : (pc : Int) + off = (tgt : Int)) (kt : x < y → G p l e R s m args below meth c nL cl sl A Q E σ π o tgt lv st) (kf : ¬ (x < y) → G p l e R s m args below meth c nL cl sl A Q E σ π o (pc + 3) lv st) : G p l e R s m args below meth c nL cl sl A Q E σ π o pc lv (.int y :: .int x :: st) :=
  fun H locs ls hW hS hl => lv_icmp_lt C.1.1 C.1.2.1 hd ht (fun h => kt h H locs ls hW hS hl) (fun h => kf h H locs ls hW hS hl)
theorem G.icmp_ge (C : gCx p s m c cc nL own Ts args E A R cl sl) {pc : Nat}  {lv : List (Option Value)} {st : List Value} {x y : Int32} {off : Int} (tgt : Nat) (hd : decode cc pc = .ok (.if_icmp .ge off, 3)) (ht : (pc : Int) + off = (tgt : Int)) (kt : y ≤ x → G p l e R s m args below meth c nL cl sl A Q E σ π o tgt lv st) (kf : ¬ (y ≤ x) → G p l e R s m args below meth c nL cl sl A Q E σ π o (pc + 3) lv st) : G p l e R s m args below meth c nL cl sl A Q E σ π o pc lv (.int y :: .int x :: st) :=
  fun H locs ls hW hS hl => lv_icmp_ge C.1.1 C.1.2.1 hd ht (fun h => kt h H locs ls hW hS hl) (fun h => kf h H locs ls hW hS hl)
theorem G.icmp_gt (C : gCx p s m c cc nL own Ts args E A R cl sl) {pc : Nat}  {lv : List (Option Value)} {st : List Value} {x y : Int32} {off : Int} (tgt : Nat) (hd : decode cc pc = .ok (.if_icmp .gt off, 3)) (ht : (pc : Int) + off = (tgt : Int)) (kt : y < x → G p l e R s m args below meth c nL cl sl A Q E σ π o tgt lv st) (kf : ¬ (y < x) → G p l e R s m args below meth c nL cl sl A Q E σ π o (pc + 3) lv st) : G p l e R s m args below meth c nL cl sl A Q E σ π o pc lv (.int y :: .int x :: st) :=
  fun H locs ls hW hS hl => lv_icmp_gt C.1.1 C.1.2.1 hd ht (fun h => kt h H locs ls hW hS hl) (fun h => kf h H locs ls hW hS hl)
theorem G.icmp_le (C : gCx p s m c cc nL own Ts args E A R cl sl) {pc : Nat}  {lv : List (Option Value)} {st : List Value} {x y : Int32} {off : Int} (tgt : Nat) (hd : decode cc pc = .ok (.if_icmp .le off, 3)) (ht : (pc : Int) + off = (tgt : Int)) (kt : x ≤ y → G p l e R s m args below meth c nL cl sl A Q E σ π o tgt lv st) (kf : ¬ (x ≤ y) → G p l e R s m args below meth c nL cl sl A Q E σ π o (pc + 3) lv st) : G p l e R s m args below meth c nL cl sl A Q E σ π o pc lv (.int y :: .int x :: st) :=
  fun H locs ls hW hS hl => lv_icmp_le C.1.1 C.1.2.1 hd ht (fun h => kt h H locs ls hW hS hl) (fun h => kf h H locs ls hW hS hl)
theorem G.if_eq (C : gCx p s m c cc nL own Ts args E A R cl sl) {pc : Nat}  {lv : List (Option Value)} {st : List Value} {x : Int32} {off : Int} (tgt : Nat) (hd : decode cc pc = .ok (.ifCond .eq off, 3)) (ht : (pc : Int) + off = (tgt : Int)) (kt : x = 0 → G p l e R s m args below meth c nL cl sl A Q E σ π o tgt lv st) (kf : ¬ (x = 0) → G p l e R s m args below meth c nL cl sl A Q E σ π o (pc + 3) lv st) : G p l e R s m args below meth c nL cl sl A Q E σ π o pc lv (.int x :: st) :=
  fun H locs ls hW hS hl => lv_if_eq C.1.1 C.1.2.1 hd ht (fun h => kt h H locs ls hW hS hl) (fun h => kf h H locs ls hW hS hl)
theorem G.if_ne (C : gCx p s m c cc nL own Ts args E A R cl sl) {pc : Nat}  {lv : List (Option Value)} {st : List Value} {x : Int32} {off : Int} (tgt : Nat) (hd : decode cc pc = .ok (.ifCond .ne off, 3)) (ht : (pc : Int) + off = (tgt : Int)) (kt : ¬ x = 0 → G p l e R s m args below meth c nL cl sl A Q E σ π o tgt lv st) (kf : x = 0 → G p l e R s m args below meth c nL cl sl A Q E σ π o (pc + 3) lv st) : G p l e R s m args below meth c nL cl sl A Q E σ π o pc lv (.int x :: st) :=
  fun H locs ls hW hS hl => lv_if_ne C.1.1 C.1.2.1 hd ht (fun h => kt h H locs ls hW hS hl) (fun h => kf h H locs ls hW hS hl)
theorem G.if_lt (C : gCx p s m c cc nL own Ts args E A R cl sl) {pc : Nat}  {lv : List (Option Value)} {st : List Value} {x : Int32} {off : Int} (tgt : Nat) (hd : decode cc pc = .ok (.ifCond .lt off, 3)) (ht : (pc : Int) + off = (tgt : Int)) (kt : x < 0 → G p l e R s m args below meth c nL cl sl A Q E σ π o tgt lv st) (kf : ¬ (x < 0) → G p l e R s m args below meth c nL cl sl A Q E σ π o (pc + 3) lv st) : G p l e R s m args below meth c nL cl sl A Q E σ π o pc lv (.int x :: st) :=
  fun H locs ls hW hS hl => lv_if_lt C.1.1 C.1.2.1 hd ht (fun h => kt h H locs ls hW hS hl) (fun h => kf h H locs ls hW hS hl)
theorem G.if_ge (C : gCx p s m c cc nL own Ts args E A R cl sl) {pc : Nat}  {lv : List (Option Value)} {st : List Value} {x : Int32} {off : Int} (tgt : Nat) (hd : decode cc pc = .ok (.ifCond .ge off, 3)) (ht : (pc : Int) + off = (tgt : Int)) (kt : 0 ≤ x → G p l e R s m args below meth c nL cl sl A Q E σ π o tgt lv st) (kf : ¬ (0 ≤ x) → G p l e R s m args below meth c nL cl sl A Q E σ π o (pc + 3) lv st) : G p l e R s m args below meth c nL cl sl A Q E σ π o pc lv (.int x :: st) :=
  fun H locs ls hW hS hl => lv_if_ge C.1.1 C.1.2.1 hd ht (fun h => kt h H locs ls hW hS hl) (fun h => kf h H locs ls hW hS hl)
theorem G.if_gt (C : gCx p s m c cc nL own Ts args E A R cl sl) {pc : Nat}  {lv : List (Option Value)} {st : List Value} {x : Int32} {off : Int} (tgt : Nat) (hd : decode cc pc = .ok (.ifCond .gt off, 3)) (ht : (pc : Int) + off = (tgt : Int)) (kt : 0 < x → G p l e R s m args below meth c nL cl sl A Q E σ π o tgt lv st) (kf : ¬ (0 < x) → G p l e R s m args below meth c nL cl sl A Q E σ π o (pc + 3) lv st) : G p l e R s m args below meth c nL cl sl A Q E σ π o pc lv (.int x :: st) :=
  fun H locs ls hW hS hl => lv_if_gt C.1.1 C.1.2.1 hd ht (fun h => kt h H locs ls hW hS hl) (fun h => kf h H locs ls hW hS hl)
theorem G.if_le (C : gCx p s m c cc nL own Ts args E A R cl sl) {pc : Nat}  {lv : List (Option Value)} {st : List Value} {x : Int32} {off : Int} (tgt : Nat) (hd : decode cc pc = .ok (.ifCond .le off, 3)) (ht : (pc : Int) + off = (tgt : Int)) (kt : x ≤ 0 → G p l e R s m args below meth c nL cl sl A Q E σ π o tgt lv st) (kf : ¬ (x ≤ 0) → G p l e R s m args below meth c nL cl sl A Q E σ π o (pc + 3) lv st) : G p l e R s m args below meth c nL cl sl A Q E σ π o pc lv (.int x :: st) :=
  fun H locs ls hW hS hl => lv_if_le C.1.1 C.1.2.1 hd ht (fun h => kt h H locs ls hW hS hl) (fun h => kf h H locs ls hW hS hl)
theorem G.if_eqB (C : gCx p s m c cc nL own Ts args E A R cl sl) {pc : Nat}  {lv : List (Option Value)} {st : List Value} {b : Bool} {off : Int} (tgt : Nat) (hd : decode cc pc = .ok (.ifCond .eq off, 3)) (ht : (pc : Int) + off = (tgt : Int)) (kt : b = false → G p l e R s m args below meth c nL cl sl A Q E σ π o tgt lv st) (kf : b = true → G p l e R s m args below meth c nL cl sl A Q E σ π o (pc + 3) lv st) : G p l e R s m args below meth c nL cl sl A Q E σ π o pc lv (.int (bI b) :: st) :=
  G.if_eq C tgt hd ht (fun h => kt (bI_0.mp h)) (fun h => kf (bI_n0.mp h))
theorem G.if_neB (C : gCx p s m c cc nL own Ts args E A R cl sl) {pc : Nat}  {lv : List (Option Value)} {st : List Value} {b : Bool} {off : Int} (tgt : Nat) (hd : decode cc pc = .ok (.ifCond .ne off, 3)) (ht : (pc : Int) + off = (tgt : Int)) (kt : b = true → G p l e R s m args below meth c nL cl sl A Q E σ π o tgt lv st) (kf : b = false → G p l e R s m args below meth c nL cl sl A Q E σ π o (pc + 3) lv st) : G p l e R s m args below meth c nL cl sl A Q E σ π o pc lv (.int (bI b) :: st) :=
  G.if_ne C tgt hd ht (fun h => kt (bI_n0.mp h)) (fun h => kf (bI_0.mp h))
theorem G.tabIn (C : gCx p s m c cc nL own Ts args E A R cl sl) {pc : Nat}  {lv : List (Option Value)} {st : List Value} {dflt lo hi : Int} {offs : Array Int} {len : Nat} {x : Int32} {off : Int} (tgt : Nat) (hd : decode cc pc = .ok (.tableswitch dflt lo hi offs, len)) (h1 : ¬ x.toInt < lo) (h2 : ¬ hi < x.toInt) (ho : offs[(x.toInt - lo).toNat]? = some off) (ht : (pc : Int) + off = (tgt : Int)) (k : G p l e R s m args below meth c nL cl sl A Q E σ π o tgt lv st) : G p l e R s m args below meth c nL cl sl A Q E σ π o pc lv (.int x :: st) :=
  fun H locs ls hW hS hl => lv_tableIn C.1.1 C.1.2.1 hd h1 h2 ho ht (k H locs ls hW hS hl)
theorem G.tabOut (C : gCx p s m c cc nL own Ts args E A R cl sl) {pc : Nat}  {lv : List (Option Value)} {st : List Value} {dflt lo hi : Int} {offs : Array Int} {len : Nat} {x : Int32} (tgt : Nat) (hd : decode cc pc = .ok (.tableswitch dflt lo hi offs, len)) (h : x.toInt < lo ∨ hi < x.toInt) (ht : (pc : Int) + dflt = (tgt : Int)) (k : G p l e R s m args below meth c nL cl sl A Q E σ π o tgt lv st) : G p l e R s m args below meth c nL cl sl A Q E σ π o pc lv (.int x :: st) :=
  fun H locs ls hW hS hl => lv_tableOut C.1.1 C.1.2.1 hd h ht (k H locs ls hW hS hl)
theorem G.lookup (C : gCx p s m c cc nL own Ts args E A R cl sl) {pc : Nat}  {lv : List (Option Value)} {st : List Value} {dflt : Int} {ps : Array (Int × Int)} {len : Nat} {x : Int32} {off : Int} (tgt : Nat) (hd : decode cc pc = .ok (.lookupswitch dflt ps, len)) (hp : (ps.toList.zip (ps.toList.drop 1)).all (fun (a, next) => a.1 < next.1) = true) (ho : Op.lookupswitch.offset ps.toList dflt x.toInt = off) (ht : (pc : Int) + off = (tgt : Int)) (k : G p l e R s m args below meth c nL cl sl A Q E σ π o tgt lv st) : G p l e R s m args below meth c nL cl sl A Q E σ π o pc lv (.int x :: st) :=
  fun H locs ls hW hS hl => lv_lookup C.1.1 C.1.2.1 hd hp ho ht (k H locs ls hW hS hl)
theorem G.iald (C : gCx p s m c cc nL own Ts args E A R cl sl) {pc : Nat}  {lv : List (Option Value)} {st : List Value} {i j n d0 : Nat} {x : Int32} (hn : gN i j = some n) (hv : gV E i j) (hx : vp_in x n) (hk : ix x = d0) (hd : decode cc pc = .ok (.iaload, 1)) (k : G p l e R s m args below meth c nL cl sl A Q E σ π o (pc + 1) lv (.int (σ i j d0) :: st)) : G p l e R s m args below meth c nL cl sl A Q E σ π o pc lv (.int x :: .ref (E.2.1 i j) :: st) :=
  fun H locs ls hW hS hl => by
    subst hk
    exact va_iald C.1.1 C.1.2.1 C.2.1.1 (hW.one hv (gC_arr hn hv)) 0 0 rfl rfl hx hd (k H locs ls hW hS hl)
theorem G.ialdU (C : gCx p s m c cc nL own Ts args E A R cl sl) {pc : Nat}  {lv : List (Option Value)} {st : List Value} {i j n d0 : Nat} {x : Int32} {d : Nat → Nat → Int32} (hn : gN i j = some n) (hv : gV E i j) (hx : vp_in x n) (hk : ix x = d0) (hd : decode cc pc = .ok (.iaload, 1)) (k : G p l e R s m args below meth c nL cl sl A Q E (gU σ i d) π o (pc + 1) lv (.int (d j d0) :: st)) : G p l e R s m args below meth c nL cl sl A Q E (gU σ i d) π o pc lv (.int x :: .ref (E.2.1 i j) :: st) :=
  G.iald C hn hv hx hk hd (by rw [gU_at]; exact k)
theorem G.iast (C : gCx p s m c cc nL own Ts args E A R cl sl) {pc : Nat}  {lv : List (Option Value)} {st : List Value} {i j n d0 : Nat} {x y : Int32} (hn : gN i j = some n) (hv : gV E i j) (hx : vp_in x n) (hk : ix x = d0) (hd : decode cc pc = .ok (.iastore, 1)) (k : G p l e R s m args below meth c nL cl sl A Q E (gU σ i (cW (σ i) j d0 y)) π o (pc + 1) lv st) : G p l e R s m args below meth c nL cl sl A Q E σ π o pc lv (.int y :: .int x :: .ref (E.2.1 i j) :: st) :=
  fun H locs ls hW hS hl => by
    subst hk
    have h1 : H[E.2.1 i j]? = some (vp_cell E.2.2.1 (n, .inl (σ i j))) := by
      have := hW i j hv
      rw [gC_arr hn hv] at this
      exact this
    refine W.iast C.1.1 C.1.2.1 h1 ((C.2.1.1.2 0 (E.2.2.1, .int) rfl).1 n (fun d => .int (σ i j d))) (fun q => by cases q) (by show ¬ (x < 0 ∨ (arrV _ _ _).slots.size ≤ _); rw [arrV_size]; exact hx) rfl rfl hd fun H1 e1 z oq => ?_
    refine k H1 _ ls (hW.put C.2.1.2.2 hv hn ?_ oq) (hS.put z oq (C.2.2.1 _ ⟨i, j, hv, rfl⟩)) hl
    rw [e1]
    rw [vp_cell_i, vp_cell_i, arrV_store]
    congr 2
    funext q
    by_cases hq : q = x.toNatClampNeg
    · subst hq
      simp [updV, upd, ix]
    · simp [updV, upd, hq, ix]
theorem G.iastU (C : gCx p s m c cc nL own Ts args E A R cl sl) {pc : Nat}  {lv : List (Option Value)} {st : List Value} {i j n d0 : Nat} {x y : Int32} {d : Nat → Nat → Int32} (hn : gN i j = some n) (hv : gV E i j) (hx : vp_in x n) (hk : ix x = d0) (hd : decode cc pc = .ok (.iastore, 1)) (k : G p l e R s m args below meth c nL cl sl A Q E (gU σ i (cW d j d0 y)) π o (pc + 1) lv st) : G p l e R s m args below meth c nL cl sl A Q E (gU σ i d) π o pc lv (.int y :: .int x :: .ref (E.2.1 i j) :: st) :=
  G.iast C hn hv hx hk hd (by rw [gU_at, gU_gU]; exact k)
theorem G.aaldD (C : gCx p s m c cc nL own Ts args E A R cl sl) {pc : Nat}  {lv : List (Option Value)} {st : List Value} {i : Nat} {x : Int32} (hi : i < 9) (j : Nat) (hx : vp_in x 8) (hj : 2 + ix x = j) (hd : decode cc pc = .ok (.aaload, 1)) (k : G p l e R s m args below meth c nL cl sl A Q E σ π o (pc + 1) lv (.ref (E.2.1 i j) :: st)) : G p l e R s m args below meth c nL cl sl A Q E σ π o pc lv (.int x :: .ref (E.2.1 i 1) :: st) :=
  fun H locs ls hW hS hl => by
    subst hj
    have hP := hW i 1 (Or.inl ⟨hi, by omega⟩)
    unfold gC at hP
    rw [if_pos hi] at hP
    have hlt : x.toNatClampNeg < 8 := Nat.not_le.mp fun q => hx (Or.inr q)
    exact W.aald (v := .ref (E.2.1 i (2 + ix x))) (ty := .array .int) C.1.1 C.1.2.1 hP ((C.2.1.1.2 1 (E.2.2.2.1, .array .int) rfl).1 8 (fun k => va_rf (some (E.2.1 i (2 + k))))) rfl (fun q => by cases q) (by show ¬ (x < 0 ∨ (arrV _ _ _).slots.size ≤ _); rw [arrV_size]; exact hx) (by show (arrV _ _ _).slots[_]? = _; rw [arrV_read _ _ hlt]; rfl) rfl rfl hd (k H locs ls hW hS hl)
theorem G.aaldH (C : gCx p s m c cc nL own Ts args E A R cl sl) {pc : Nat}  {lv : List (Option Value)} {st : List Value} {i : Nat} {x : Int32} (hi : i < 9) (j : Nat) (hx : vp_in x 3) (hj : 11 + ix x = j) (hd : decode cc pc = .ok (.aaload, 1)) (k : G p l e R s m args below meth c nL cl sl A Q E σ π o (pc + 1) lv (.ref (E.2.1 i j) :: st)) : G p l e R s m args below meth c nL cl sl A Q E σ π o pc lv (.int x :: .ref (E.2.1 i 10) :: st) :=
  fun H locs ls hW hS hl => by
    subst hj
    have hP := hW i 10 (Or.inl ⟨hi, by omega⟩)
    unfold gC at hP
    rw [if_pos hi] at hP
    have hlt : x.toNatClampNeg < 3 := Nat.not_le.mp fun q => hx (Or.inr q)
    exact W.aald (v := .ref (E.2.1 i (11 + ix x))) (ty := .array .int) C.1.1 C.1.2.1 hP ((C.2.1.1.2 1 (E.2.2.2.1, .array .int) rfl).1 3 (fun k => va_rf (some (E.2.1 i (11 + k))))) rfl (fun q => by cases q) (by show ¬ (x < 0 ∨ (arrV _ _ _).slots.size ≤ _); rw [arrV_size]; exact hx) (by show (arrV _ _ _).slots[_]? = _; rw [arrV_read _ _ hlt]; rfl) rfl rfl hd (k H locs ls hW hS hl)
/-- less is known of the locals -/
def gSub : List (Option Value) → List (Option Value) → Prop
  | [], _ => True
  | none :: r, [] => gSub r []
  | none :: r, _ :: r' => gSub r r'
  | some v :: r, a :: r' => a = some v ∧ gSub r r'
  | some _ :: _, [] => False
theorem gSub_ok : ∀ (a b : List (Option Value)), gSub a b → ∀ (k : Nat) (v : Value), a[k]? = some (some v) → b[k]? = some (some v)
  | [], _, _, k, v, h => by simp at h
  | none :: r, [], hs, k, v, h => by
    cases k with
    | zero => simp at h
    | succ k => have := gSub_ok r [] hs k v (by simpa using h); simp at this
  | none :: r, x :: r', hs, k, v, h => by
    cases k with
    | zero => simp at h
    | succ k => have := gSub_ok r r' hs k v (by simpa using h); simpa using this
  | some w :: r, [], hs, k, v, h => hs.elim
  | some w :: r, x :: r', hs, k, v, h => by
    cases k with
    | zero => obtain ⟨h1, -⟩ := hs; simp at h; subst h1; subst h; rfl
    | succ k => have := gSub_ok r r' hs.2 k v (by simpa using h); simpa using this
theorem G.back {pc : Nat} {lv lv' : List (Option Value)} {st : List Value} (h : G p l e R s m args below meth c nL cl sl A Q E σ' π o pc lv' st) (e1 : σ = σ') (hl : gSub lv' lv) : G p l e R s m args below meth c nL cl sl A Q E σ π o pc lv st := by
  subst e1
  exact G.less (gSub_ok _ _ hl) h
end GL
