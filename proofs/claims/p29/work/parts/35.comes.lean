/-! the law's coming home -/
def lBes (v : cSt) (k : Nat) : Nat := (ix (v 1 (4 * k)) + 1) % 24
def lOth (v : cSt) (k : Nat) : Int32 := lSits v (nI (lBes v k))
def lCan (v : cSt) (b : Int32) (k : Nat) : Bool := decide (¬ 0 ≤ lLook v k) && (decide (lBit (v 0 1) (lBes v k) = false) && (decide (¬ lOth v k < 0) && (decide (¬ v 1 (4 * k + 1) ≤ v 1 (4 * ix (lOth v k) + 1)) && decide (¬ v 0 5 ≤ v 0 6 - b))))
def lSt2 (v : cSt) (b : Int32) (k : Nat) : cSt := if lCan v b k = true then lSit (lShift v k (ix (lOth v k))) k (nI (lBes v k)) (ix (v 0 12)) else lSit v k (if lLook v k < 0 then 24 else lLook v k) (ix (v 0 12))
def lSt1 (v : cSt) (b : Int32) (k : Nat) : Int32 := if lCan v b k = true then lOth v k else -1
def lRun (b : Int32) : Nat → cSt → Int32 → cSt
  | 0, v, _ => v
  | n + 1, v, x => if x < 0 then v else lRun b n (lSt2 v b (ix x)) (lSt1 v b (ix x))
def lOK (v : cSt) (k : Nat) : Prop := (∃ w, w < 24 ∧ v 1 (4 * k) = nI w) ∧ (0 ≤ v 1 (4 * k + 3) → ∃ m0, m0 < 16 ∧ v 1 (4 * k + 3) = nI m0) ∧ (∃ s0, s0 < 26 ∧ v 0 12 = nI s0)
def lPath (b : Int32) : Nat → cSt → Int32 → Prop
  | 0, _, x => x < 0
  | n + 1, v, x => x < 0 ∨ ∃ k, k < 16 ∧ x = nI k ∧ lOK v k ∧ lPath b n (lSt2 v b k) (lSt1 v b k)
theorem lFst_or {P : Nat → Bool} : ∀ n k, n + k ≤ 16 → lFst P n k = -1 ∨ ∃ j, j < 16 ∧ lFst P n k = nI j ∧ P j = true
  | 0, _, _ => Or.inl rfl
  | n + 1, k, h => by
    unfold lFst
    by_cases hp : P k = true
    · rw [if_pos hp]; exact Or.inr ⟨k, by omega, rfl, hp⟩
    · rw [if_neg hp]; exact lFst_or n (k + 1) (by omega)
theorem lSits_or {v : cSt} {x : Int32} (h : ¬ lSits v x < 0) : ∃ j, j < 16 ∧ lSits v x = nI j := by
  rcases lFst_or (P := fun k => lIs v k && decide (v 1 (4 * k + 2) = x)) 16 0 (Nat.le_refl 16) with e | ⟨j, hj, e, -⟩
  · exact absurd (show lSits v x < 0 by unfold lSits; rw [e]; decide) h
  · exact ⟨j, hj, e⟩
theorem lShift_0 {v : cSt} {k j q : Nat} (h6 : q ≠ 6) (h7 : q ≠ 7) : lShift v k j 0 q = v 0 q := by
  unfold lShift; simp [cW, h6, h7]
theorem lShift_4 {v : cSt} {k j q : Nat} : lShift v k j 1 (4 * q) = v 1 (4 * q) := by
  unfold lShift
  simp [cW, show ¬ 4 * q = 4 * j + 2 by omega]
theorem cW_4 {v : cSt} {j q : Nat} {x : Int32} : cW v 1 (4 * j + 2) x 1 (4 * q) = v 1 (4 * q) := by
  simp [cW, show ¬ 4 * q = 4 * j + 2 by omega]
set_option maxRecDepth 100000 in
set_option maxHeartbeats 4000000 in
theorem k_L_comes_t (l : Launch) {E : gEn} {σ : gSt} {π : Nat → Nat} {o : Int64} {i : Nat} (hl : 10 ≤ i) (hv : ∀ j, j < 4 → gV E i j) {v : cSt} {b0 r y0 : Int32} {σ1 : gSt} {k j0 w0 s0 : Nat} (hk : k < 16) (hj : j0 < 16) (hs : v 0 12 = nI s0) (hs0 : s0 < 26) {p : Program} {e : Env} {s : State} {m : MethodId} {args : Array Value} {below : List Frame} {meth : Method} {cd : Code} (C : gCx p s m cd cL_comes 12 RL wsL_comes args E (gA E) ({ frames := 3, cells := 0, slots := 0, locals := 71 } : Room) 0 0) (hrt : meth.sig.returnType = (some .int)) (hlk : meth.locks = false) (hy : y0 < 0) (ih : G p l e ({ frames := 3, cells := 0, slots := 0, locals := 71 } : Room) s m args below meth cd 12 0 0 (gA E) (gQI below args s (r) E σ1 π o) E (gU σ i (lSit (lShift v k j0) k (nI w0) s0)) π o 147 [some (.ref (E.2.1 i 0)), some (.ref (E.2.1 i 1)), some (.ref (E.2.1 i 2)), some (.ref (E.2.1 i 3)), none, none, some (.int b0), some (.int (nI j0)), none, none, none, none] []) : G p l e ({ frames := 3, cells := 0, slots := 0, locals := 71 } : Room) s m args below meth cd 12 0 0 (gA E) (gQI below args s (r) E σ1 π o) E (gU σ i v) π o 241 [some (.ref (E.2.1 i 0)), some (.ref (E.2.1 i 1)), some (.ref (E.2.1 i 2)), some (.ref (E.2.1 i 3)), none, none, some (.int b0), some (.int (nI k)), some (.int y0), some (.int (nI w0)), some (.int (nI j0)), none] [.int 1] := by
  refine G.ist11 C dL_comes_241 (by omega) rfl ?_
  refine G.ild11 C dL_comes_243 ?_
  refine G.if_eq C 258 dL_comes_245 (by decide) (fun h => absurd h (by decide)) (fun _ => ?_)
  refine G.aldn0 C dL_comes_248 ?_
  refine G.aldn1 C dL_comes_249 ?_
  refine G.aldn2 C dL_comes_250 ?_
  refine G.ild7 C dL_comes_251 ?_
  refine G.ild10 C dL_comes_253 ?_
  refine G.callSV5 C (k_L_shift l hl hv (by omega) (by omega)) (va_cwS 5 C.1.2.2.2.2 gL_comes_L_shift rfl rfl rfl (by decide +kernel) ⟨Nat.le_of_ble_eq_true rfl, Nat.le_of_ble_eq_true rfl⟩) (Nat.le_of_ble_eq_true rfl) dL_comes_255 ?_
  refine G.aldn0 C dL_comes_258 ?_
  refine G.aldn1 C dL_comes_259 ?_
  refine G.aldn3 C dL_comes_260 ?_
  refine G.ild7 C dL_comes_261 ?_
  refine G.ild8 C dL_comes_263 ?_
  refine G.if_lt C 273 dL_comes_265 (by decide) (fun h265 => ?_) (fun h265 => absurd (hy) h265)
  refine G.ild11 C dL_comes_273 ?_
  refine G.if_eq C 283 dL_comes_275 (by decide) (fun h => absurd h (by decide)) (fun _ => ?_)
  refine G.ild9 C dL_comes_278 ?_
  refine G.goto C 285 dL_comes_280 (by decide) ?_
  refine G.callSV5 C (k_L_sit l hl hv hk (by rw [lShift_0 (by decide) (by decide)]; exact hs) hs0) (va_cwS 5 C.1.2.2.2.2 gL_comes_L_sit rfl rfl rfl (by decide +kernel) ⟨Nat.le_of_ble_eq_true rfl, Nat.le_of_ble_eq_true rfl⟩) (Nat.le_of_ble_eq_true rfl) dL_comes_285 ?_
  refine G.ild11 C dL_comes_288 ?_
  refine G.if_eq C 298 dL_comes_290 (by decide) (fun h => absurd h (by decide)) (fun _ => ?_)
  refine G.ild10 C dL_comes_293 ?_
  refine G.goto C 299 dL_comes_295 (by decide) ?_
  refine G.ist7 C dL_comes_299 (by omega) rfl ?_
  refine G.goto C 147 dL_comes_301 (by decide) ?_
  exact G.back ih rfl ⟨rfl, rfl, rfl, rfl, rfl, rfl, trivial⟩
set_option maxRecDepth 100000 in
set_option maxHeartbeats 4000000 in
theorem k_L_comes_f (l : Launch) {E : gEn} {σ : gSt} {π : Nat → Nat} {o : Int64} {i : Nat} (hl : 10 ≤ i) (hv : ∀ j, j < 4 → gV E i j) {v : cSt} {b0 r y0 z0 : Int32} {σ1 : gSt} {k j0 w0 s0 : Nat} (hk : k < 16) (hs : v 0 12 = nI s0) (hs0 : s0 < 26) {p : Program} {e : Env} {s : State} {m : MethodId} {args : Array Value} {below : List Frame} {meth : Method} {cd : Code} (C : gCx p s m cd cL_comes 12 RL wsL_comes args E (gA E) ({ frames := 3, cells := 0, slots := 0, locals := 71 } : Room) 0 0) (hrt : meth.sig.returnType = (some .int)) (hlk : meth.locks = false) (ih : G p l e ({ frames := 3, cells := 0, slots := 0, locals := 71 } : Room) s m args below meth cd 12 0 0 (gA E) (gQI below args s (r) E σ1 π o) E (gU σ i (lSit v k (if y0 < 0 then 24 else y0) s0)) π o 147 [some (.ref (E.2.1 i 0)), some (.ref (E.2.1 i 1)), some (.ref (E.2.1 i 2)), some (.ref (E.2.1 i 3)), none, none, some (.int b0), some (.int (-1)), none, none, none, none] []) : G p l e ({ frames := 3, cells := 0, slots := 0, locals := 71 } : Room) s m args below meth cd 12 0 0 (gA E) (gQI below args s (r) E σ1 π o) E (gU σ i v) π o 241 [some (.ref (E.2.1 i 0)), some (.ref (E.2.1 i 1)), some (.ref (E.2.1 i 2)), some (.ref (E.2.1 i 3)), none, none, some (.int b0), some (.int (nI k)), some (.int y0), some (.int (nI w0)), some (.int z0), none] [.int 0] := by
  refine G.ist11 C dL_comes_241 (by omega) rfl ?_
  refine G.ild11 C dL_comes_243 ?_
  refine G.if_eq C 258 dL_comes_245 (by decide) (fun _ => ?_) (fun h => absurd (by decide) h)
  refine G.aldn0 C dL_comes_258 ?_
  refine G.aldn1 C dL_comes_259 ?_
  refine G.aldn3 C dL_comes_260 ?_
  refine G.ild7 C dL_comes_261 ?_
  refine G.ild8 C dL_comes_263 ?_
  refine G.if_lt C 273 dL_comes_265 (by decide) (fun h265 => ?_) (fun h265 => ?_)
  · refine G.ild11 C dL_comes_273 ?_
    refine G.if_eq C 283 dL_comes_275 (by decide) (fun _ => ?_) (fun h => absurd (by decide) h)
    refine G.bipush C 24 dL_comes_283 (by decide) ?_
    refine G.callSV5 C (k_L_sit l hl hv hk hs hs0) (va_cwS 5 C.1.2.2.2.2 gL_comes_L_sit rfl rfl rfl (by decide +kernel) ⟨Nat.le_of_ble_eq_true rfl, Nat.le_of_ble_eq_true rfl⟩) (Nat.le_of_ble_eq_true rfl) dL_comes_285 ?_
    refine G.ild11 C dL_comes_288 ?_
    refine G.if_eq C 298 dL_comes_290 (by decide) (fun _ => ?_) (fun h => absurd (by decide) h)
    refine G.iconst C (-1) dL_comes_298 (by decide) ?_
    refine G.ist7 C dL_comes_299 (by omega) rfl ?_
    refine G.goto C 147 dL_comes_301 (by decide) ?_
    exact G.back ih (by rw [if_pos h265]) ⟨rfl, rfl, rfl, rfl, rfl, rfl, trivial⟩
  · refine G.ild8 C dL_comes_268 ?_
    refine G.goto C 285 dL_comes_270 (by decide) ?_
    refine G.callSV5 C (k_L_sit l hl hv hk hs hs0) (va_cwS 5 C.1.2.2.2.2 gL_comes_L_sit rfl rfl rfl (by decide +kernel) ⟨Nat.le_of_ble_eq_true rfl, Nat.le_of_ble_eq_true rfl⟩) (Nat.le_of_ble_eq_true rfl) dL_comes_285 ?_
    refine G.ild11 C dL_comes_288 ?_
    refine G.if_eq C 298 dL_comes_290 (by decide) (fun _ => ?_) (fun h => absurd (by decide) h)
    refine G.iconst C (-1) dL_comes_298 (by decide) ?_
    refine G.ist7 C dL_comes_299 (by omega) rfl ?_
    refine G.goto C 147 dL_comes_301 (by decide) ?_
    exact G.back ih (by rw [if_neg h265]) ⟨rfl, rfl, rfl, rfl, rfl, rfl, trivial⟩
set_option maxRecDepth 100000 in
set_option maxHeartbeats 4000000 in
theorem k_L_comes_end (l : Launch) {E : gEn} {σ : gSt} {π : Nat → Nat} {o : Int64} {i : Nat} (hl : 10 ≤ i) (hv : ∀ j, j < 4 → gV E i j) {v : cSt} {b0 x : Int32} {v' : cSt} {p : Program} {e : Env} {s : State} {m : MethodId} {args : Array Value} {below : List Frame} {meth : Method} {cd : Code} (C : gCx p s m cd cL_comes 12 RL wsL_comes args E (gA E) ({ frames := 3, cells := 0, slots := 0, locals := 71 } : Room) 0 0) (hrt : meth.sig.returnType = (some .int)) (hlk : meth.locks = false) (hx : x < 0) (hz : v' = v) : G p l e ({ frames := 3, cells := 0, slots := 0, locals := 71 } : Room) s m args below meth cd 12 0 0 (gA E) (gQI below args s (v' 0 6 - b0) E (gU σ i v') π o) E (gU σ i v) π o 147 [some (.ref (E.2.1 i 0)), some (.ref (E.2.1 i 1)), some (.ref (E.2.1 i 2)), some (.ref (E.2.1 i 3)), none, none, some (.int b0), some (.int x), none, none, none, none] [] := by
  refine G.ild7 C dL_comes_147 ?_
  refine G.if_lt C 304 dL_comes_149 (by decide) (fun h149 => ?_) (fun h149 => absurd (hx) h149)
  refine G.aldn0 C dL_comes_304 ?_
  refine G.bipush C 6 dL_comes_305 (by decide) ?_
  refine G.ialdU C (n := 13) (j := 0) (d0 := 6) (gN_l hl rfl) (hv _ (by omega)) (by unfold vp_in; decide) (by decide) dL_comes_307 ?_
  refine G.ild6 C dL_comes_308 ?_
  refine G.isub C dL_comes_310 ?_
  exact G.iret C hlk hrt dL_comes_311 (by rw [hz]) (by intro H h; rw [hz]; exact h)
set_option maxRecDepth 100000 in
set_option maxHeartbeats 4000000 in
theorem k_L_comes_loop (l : Launch) {E : gEn} {σ : gSt} {π : Nat → Nat} {o : Int64} {i : Nat} (hl : 10 ≤ i) (hv : ∀ j, j < 4 → gV E i j) {b0 : Int32} {p : Program} {e : Env} {s : State} {m : MethodId} {args : Array Value} {below : List Frame} {meth : Method} {cd : Code} (C : gCx p s m cd cL_comes 12 RL wsL_comes args E (gA E) ({ frames := 3, cells := 0, slots := 0, locals := 71 } : Room) 0 0) (hrt : meth.sig.returnType = (some .int)) (hlk : meth.locks = false) : ∀ (n : Nat) (v : cSt) (x : Int32), lPath b0 n v x → G p l e ({ frames := 3, cells := 0, slots := 0, locals := 71 } : Room) s m args below meth cd 12 0 0 (gA E) (gQI below args s (lRun b0 n v x 0 6 - b0) E (gU σ i (lRun b0 n v x)) π o) E (gU σ i v) π o 147 [some (.ref (E.2.1 i 0)), some (.ref (E.2.1 i 1)), some (.ref (E.2.1 i 2)), some (.ref (E.2.1 i 3)), none, none, some (.int b0), some (.int x), none, none, none, none] []
  | 0, v, x, hp => k_L_comes_end l hl hv C hrt hlk hp rfl
  | n + 1, v, x, hp => by
    rcases hp with hp | ⟨k, hk, rfl, ⟨⟨w0, hw, ew⟩, hm, s0, hs0, hs⟩, hp⟩
    · exact k_L_comes_end l hl hv C hrt hlk hp (by rw [lRun, if_pos hp])
    have ih := k_L_comes_loop l (e := e) (below := below) (σ := σ) (π := π) (o := o) hl hv C hrt hlk n _ _ hp
    obtain ⟨wb, ewb⟩ : ∃ wb, lBes v k = wb := ⟨_, rfl⟩
    have hwb : wb < 24 := by rw [← ewb]; exact Nat.mod_lt _ (by omega)
    have eo2 : decide (lBit (v 0 1) (lBes v k) = false) = decide (lBit (v 0 1) wb = false) := by rw [ewb]
    rw [show lRun b0 (n + 1) v (nI k) = lRun b0 n (lSt2 v b0 k) (lSt1 v b0 k) by rw [lRun, if_neg (nI_pos (by omega)), ix_nI (by omega)]]
    refine G.ild7 C dL_comes_147 ?_
    refine G.if_lt C 304 dL_comes_149 (by decide) (fun h149 => absurd h149 (nI_pos (by omega))) (fun h149 => ?_)
    refine G.aldn0 C dL_comes_152 ?_
    refine G.aldn1 C dL_comes_153 ?_
    refine G.ild7 C dL_comes_154 ?_
    refine G.callSI3 C (k_L_look l hl hv hk ew hw hm) (va_cwS 3 C.1.2.2.2.2 gL_comes_L_look rfl rfl rfl (by decide +kernel) ⟨Nat.le_of_ble_eq_true rfl, Nat.le_of_ble_eq_true rfl⟩) (Nat.le_of_ble_eq_true rfl) dL_comes_156 ?_
    refine G.ist8 C dL_comes_159 (by omega) rfl ?_
    refine G.aldn1 C dL_comes_161 ?_
    refine G.iconst C 4 dL_comes_162 (by decide) ?_
    refine G.ild7 C dL_comes_163 ?_
    refine G.imul C dL_comes_165 ?_
    refine G.topI (nI (4 * k)) (pk_mul _ _) ?_
    refine G.ialdU C (n := 64) (j := 1) (d0 := (4 * k)) (gN_l hl rfl) (hv _ (by omega)) (by first | assumption | exact vp_in_nI (by omega) (by omega) | (unfold vp_in; decide)) (ix_nI (by omega)) dL_comes_166 ?_
    refine G.topI (nI w0) ew ?_
    refine G.iconst C 1 dL_comes_167 (by decide) ?_
    refine G.iadd C dL_comes_168 ?_
    refine G.topI (nI (w0 + 1)) (nI_add _ _) ?_
    refine G.bipush C 24 dL_comes_169 (by decide) ?_
    refine G.irem C dL_comes_171 (by decide) ?_
    refine G.topI (nI wb) (by rw [← ewb, lBes, ew, ix_nI (by omega)]; exact pk_rem (a := w0 + 1) (d := 24) (by omega) (by omega) (by omega)) ?_
    refine G.ist9 C dL_comes_172 (by omega) rfl ?_
    refine G.aldn0 C dL_comes_174 ?_
    refine G.aldn1 C dL_comes_175 ?_
    refine G.ild9 C dL_comes_176 ?_
    refine G.callSI3 C (k_L_sits l hl hv) (va_cwS 3 C.1.2.2.2.2 gL_comes_L_sits rfl rfl rfl (by decide +kernel) ⟨Nat.le_of_ble_eq_true rfl, Nat.le_of_ble_eq_true rfl⟩) (Nat.le_of_ble_eq_true rfl) dL_comes_178 ?_
    refine G.topI (lOth v k) (by rw [lOth, ewb]) ?_
    refine G.ist10 C dL_comes_181 (by omega) rfl ?_
    refine G.ild8 C dL_comes_183 ?_
    refine G.if_ge C 240 dL_comes_185 (by decide) (fun h185 => ?_) (fun h185 => ?_)
    · refine G.iconst C 0 dL_comes_240 (by decide) ?_
      have hcan : lCan v b0 k = false := by rw [lCan, decide_eq_false (fun w => w h185)]; rfl
      rw [show lSt2 v b0 k = lSit v k (if lLook v k < 0 then 24 else lLook v k) s0 by rw [lSt2, if_neg (by rw [hcan]; decide), hs, ix_nI (by omega)], show lSt1 v b0 k = -1 by rw [lSt1, if_neg (by rw [hcan]; decide)]] at ih ⊢
      exact k_L_comes_f l (j0 := 0) hl hv hk hs hs0 C hrt hlk ih
    · refine G.aldn0 C dL_comes_188 ?_
      refine G.iconst C 1 dL_comes_189 (by decide) ?_
      refine G.ialdU C (n := 13) (j := 0) (d0 := 1) (gN_l hl rfl) (hv _ (by omega)) (by unfold vp_in; decide) (by decide) dL_comes_190 ?_
      refine G.ild9 C dL_comes_191 ?_
      refine G.ishr C dL_comes_193 ?_
      refine G.iconst C 1 dL_comes_194 (by decide) ?_
      refine G.iand C dL_comes_195 ?_
      refine G.topI (bI (lBit (v 0 1) wb)) (lBit_sh (by omega)) ?_
      refine G.if_neB C 240 dL_comes_196 (by decide) (fun h196 => ?_) (fun h196 => ?_)
      · refine G.iconst C 0 dL_comes_240 (by decide) ?_
        have hcan : lCan v b0 k = false := by rw [lCan, ewb, h196]; simp
        rw [show lSt2 v b0 k = lSit v k (if lLook v k < 0 then 24 else lLook v k) s0 by rw [lSt2, if_neg (by rw [hcan]; decide), hs, ix_nI (by omega)], show lSt1 v b0 k = -1 by rw [lSt1, if_neg (by rw [hcan]; decide)]] at ih ⊢
        exact k_L_comes_f l (j0 := 0) hl hv hk hs hs0 C hrt hlk ih
      · refine G.ild10 C dL_comes_199 ?_
        refine G.if_lt C 240 dL_comes_201 (by decide) (fun h201 => ?_) (fun h201 => ?_)
        · refine G.iconst C 0 dL_comes_240 (by decide) ?_
          have hcan : lCan v b0 k = false := by rw [lCan, decide_eq_false (p := ¬ lOth v k < 0) (fun w => w h201)]; simp
          rw [show lSt2 v b0 k = lSit v k (if lLook v k < 0 then 24 else lLook v k) s0 by rw [lSt2, if_neg (by rw [hcan]; decide), hs, ix_nI (by omega)], show lSt1 v b0 k = -1 by rw [lSt1, if_neg (by rw [hcan]; decide)]] at ih ⊢
          exact k_L_comes_f l (j0 := 0) hl hv hk hs hs0 C hrt hlk ih
        · obtain ⟨j0, hj0, ej⟩ : ∃ j0, j0 < 16 ∧ lOth v k = nI j0 := lSits_or h201
          rw [ej]
          refine G.aldn1 C dL_comes_204 ?_
          refine G.iconst C 4 dL_comes_205 (by decide) ?_
          refine G.ild10 C dL_comes_206 ?_
          refine G.imul C dL_comes_208 ?_
          refine G.topI (nI (4 * j0)) (pk_mul _ _) ?_
          refine G.iconst C 1 dL_comes_209 (by decide) ?_
          refine G.iadd C dL_comes_210 ?_
          refine G.topI (nI ((4 * j0) + 1)) (nI_add _ _) ?_
          refine G.ialdU C (n := 64) (j := 1) (d0 := ((4 * j0) + 1)) (gN_l hl rfl) (hv _ (by omega)) (by first | assumption | exact vp_in_nI (by omega) (by omega) | (unfold vp_in; decide)) (ix_nI (by omega)) dL_comes_211 ?_
          refine G.aldn1 C dL_comes_212 ?_
          refine G.iconst C 4 dL_comes_213 (by decide) ?_
          refine G.ild7 C dL_comes_214 ?_
          refine G.imul C dL_comes_216 ?_
          refine G.topI (nI (4 * k)) (pk_mul _ _) ?_
          refine G.iconst C 1 dL_comes_217 (by decide) ?_
          refine G.iadd C dL_comes_218 ?_
          refine G.topI (nI ((4 * k) + 1)) (nI_add _ _) ?_
          refine G.ialdU C (n := 64) (j := 1) (d0 := ((4 * k) + 1)) (gN_l hl rfl) (hv _ (by omega)) (by first | assumption | exact vp_in_nI (by omega) (by omega) | (unfold vp_in; decide)) (ix_nI (by omega)) dL_comes_219 ?_
          refine G.icmp_ge C 240 dL_comes_220 (by decide) (fun h220 => ?_) (fun h220 => ?_)
          · refine G.iconst C 0 dL_comes_240 (by decide) ?_
            have hcan : lCan v b0 k = false := by rw [lCan, ej, ix_nI (by omega), decide_eq_false (p := ¬ v 1 (4 * k + 1) ≤ v 1 (4 * j0 + 1)) (fun w => w h220)]; simp
            rw [show lSt2 v b0 k = lSit v k (if lLook v k < 0 then 24 else lLook v k) s0 by rw [lSt2, if_neg (by rw [hcan]; decide), hs, ix_nI (by omega)], show lSt1 v b0 k = -1 by rw [lSt1, if_neg (by rw [hcan]; decide)]] at ih ⊢
            exact k_L_comes_f l (j0 := 0) hl hv hk hs hs0 C hrt hlk ih
          · refine G.aldn0 C dL_comes_223 ?_
            refine G.bipush C 6 dL_comes_224 (by decide) ?_
            refine G.ialdU C (n := 13) (j := 0) (d0 := 6) (gN_l hl rfl) (hv _ (by omega)) (by unfold vp_in; decide) (by decide) dL_comes_226 ?_
            refine G.ild6 C dL_comes_227 ?_
            refine G.isub C dL_comes_229 ?_
            refine G.aldn0 C dL_comes_230 ?_
            refine G.iconst C 5 dL_comes_231 (by decide) ?_
            refine G.ialdU C (n := 13) (j := 0) (d0 := 5) (gN_l hl rfl) (hv _ (by omega)) (by unfold vp_in; decide) (by decide) dL_comes_232 ?_
            refine G.icmp_ge C 240 dL_comes_233 (by decide) (fun h233 => ?_) (fun h233 => ?_)
            · refine G.iconst C 0 dL_comes_240 (by decide) ?_
              have hcan : lCan v b0 k = false := by rw [lCan, decide_eq_false (p := ¬ v 0 5 ≤ v 0 6 - b0) (fun w => w h233)]; simp
              rw [show lSt2 v b0 k = lSit v k (if lLook v k < 0 then 24 else lLook v k) s0 by rw [lSt2, if_neg (by rw [hcan]; decide), hs, ix_nI (by omega)], show lSt1 v b0 k = -1 by rw [lSt1, if_neg (by rw [hcan]; decide)]] at ih ⊢
              exact k_L_comes_f l (j0 := 0) hl hv hk hs hs0 C hrt hlk ih
            · refine G.iconst C 1 dL_comes_236 (by decide) ?_
              refine G.goto C 241 dL_comes_237 (by decide) ?_
              have hcan : lCan v b0 k = true := by rw [lCan, decide_eq_true h185, eo2, decide_eq_true h196, decide_eq_true h201, ej, ix_nI (by omega), decide_eq_true h220, decide_eq_true h233]; rfl
              rw [show lSt2 v b0 k = lSit (lShift v k j0) k (nI wb) s0 by rw [lSt2, if_pos hcan, ej, ix_nI (by omega), ewb, hs, ix_nI (by omega)], show lSt1 v b0 k = nI j0 by rw [lSt1, if_pos hcan, ej]] at ih ⊢
              exact k_L_comes_t l hl hv hk hj0 hs hs0 C hrt hlk (Int32.not_le.mp h185) ih
def lH0 (v : cSt) (k : Nat) (t : Int32) : cSt := cW (cW (cW v 0 2 t) 0 12 0) 2 (4 * k) (v 2 (4 * k) + (if t ≤ v 0 4 then 0 else 1))
def lHome (v : cSt) (k : Nat) (t : Int32) : cSt × Int32 :=
  if t ≤ v 0 4 then (if lBit (v 0 1) (ix (v 1 (4 * k))) = true then (lH0 v k t, nI k) else
    (if lSits (lH0 v k t) (v 1 (4 * k)) < 0 then (lSit (lH0 v k t) k (v 1 (4 * k)) 0, -1) else if v 0 5 = 0 then (lSit (cW (lH0 v k t) 1 (4 * ix (lSits (lH0 v k t) (v 1 (4 * k))) + 2) 24) k (v 1 (4 * k)) 0, -1) else (lSit (lShift (lH0 v k t) k (ix (lSits (lH0 v k t) (v 1 (4 * k))))) k (v 1 (4 * k)) 0, lSits (lH0 v k t) (v 1 (4 * k)))))
  else (lH0 v k t, nI k)
def lCome (v : cSt) (k : Nat) (t : Int32) : cSt := lRun (v 0 6) 27 (lHome v k t).1 (lHome v k t).2
set_option maxRecDepth 100000 in
set_option maxHeartbeats 4000000 in
theorem k_L_comes (l : Launch) {E : gEn} {σ : gSt} {π : Nat → Nat} {o : Int64} {i : Nat} (hl : 10 ≤ i) (hv : ∀ j, j < 4 → gV E i j) {v : cSt} {k w0 mo : Nat} {t : Int32} (hk : k < 16) (ew : v 1 (4 * k) = nI w0) (hw : w0 < 24) (hmo : mo ≤ 24) (em : v 0 5 = nI mo) (hp : lPath (v 0 6) 27 (lHome v k t).1 (lHome v k t).2) : CtI l yL_comes wsL_comes ({ frames := 3, cells := 0, slots := 0, locals := 71 } : Room) E [.ref (E.2.1 i 0), .ref (E.2.1 i 1), .ref (E.2.1 i 2), .ref (E.2.1 i 3), .int (nI k), .int t] (gU σ i v) π o (lCome v k t 0 6 - v 0 6) (gU σ i (lCome v k t)) π o := by
  refine CtI.of (cc := cL_comes) (own := RL) (maxL := 12) (ret := (some .int)) [some (.ref (E.2.1 i 0)), some (.ref (E.2.1 i 1)), some (.ref (E.2.1 i 2)), some (.ref (E.2.1 i 3)), some (.int (nI k)), some (.int t), none, none, none, none, none, none] (by decide) rfl rfl (Nat.le_of_ble_eq_true rfl) rfl ?_
  intro p e s m args below meth cd C hrt hlk
  refine G.aldn0 C dL_comes_0 ?_
  refine G.bipush C 6 dL_comes_1 (by decide) ?_
  refine G.ialdU C (n := 13) (j := 0) (d0 := 6) (gN_l hl rfl) (hv _ (by omega)) (by unfold vp_in; decide) (by decide) dL_comes_3 ?_
  refine G.ist6 C dL_comes_4 (by omega) rfl ?_
  refine G.ild4 C dL_comes_6 ?_
  refine G.ist7 C dL_comes_8 (by omega) rfl ?_
  refine G.aldn0 C dL_comes_10 ?_
  refine G.iconst C 2 dL_comes_11 (by decide) ?_
  refine G.ild5 C dL_comes_12 ?_
  refine G.iastU C (n := 13) (j := 0) (d0 := 2) (gN_l hl rfl) (hv _ (by omega)) (by unfold vp_in; decide) (by decide) dL_comes_14 ?_
  refine G.aldn0 C dL_comes_15 ?_
  refine G.bipush C 12 dL_comes_16 (by decide) ?_
  refine G.iconst C 0 dL_comes_18 (by decide) ?_
  refine G.iastU C (n := 13) (j := 0) (d0 := 12) (gN_l hl rfl) (hv _ (by omega)) (by unfold vp_in; decide) (by decide) dL_comes_19 ?_
  refine G.aldn2 C dL_comes_20 ?_
  refine G.iconst C 4 dL_comes_21 (by decide) ?_
  refine G.ild4 C dL_comes_22 ?_
  refine G.imul C dL_comes_24 ?_
  refine G.topI (nI (4 * k)) (pk_mul _ _) ?_
  refine G.dup2 C dL_comes_25 rfl rfl ?_
  refine G.ialdU C (n := 64) (j := 2) (d0 := (4 * k)) (gN_l hl rfl) (hv _ (by omega)) (by first | assumption | exact vp_in_nI (by omega) (by omega) | (unfold vp_in; decide)) (ix_nI (by omega)) dL_comes_26 ?_
  refine G.ild5 C dL_comes_27 ?_
  refine G.aldn0 C dL_comes_29 ?_
  refine G.iconst C 4 dL_comes_30 (by decide) ?_
  refine G.ialdU C (n := 13) (j := 0) (d0 := 4) (gN_l hl rfl) (hv _ (by omega)) (by unfold vp_in; decide) (by decide) dL_comes_31 ?_
  refine G.topI (v 0 4) rfl ?_
  refine G.icmp_le C 39 dL_comes_32 (by decide) (fun h32 => ?_) (fun h32 => ?_)
  · refine G.iconst C 0 dL_comes_39 (by decide) ?_
    refine G.iadd C dL_comes_40 ?_
    refine G.iastU C (n := 64) (j := 2) (d0 := (4 * k)) (gN_l hl rfl) (hv _ (by omega)) (by first | assumption | exact vp_in_nI (by omega) (by omega) | (unfold vp_in; decide)) (ix_nI (by omega)) dL_comes_41 ?_
    rw [show cW (cW (cW v 0 2 t) 0 12 0) 2 (4 * k) _ = lH0 v k t from by rw [lH0]; first | (rw [if_pos h32]; done) | (rw [if_pos h32]; rfl) | (rw [if_neg h32]; done) | (rw [if_neg h32]; rfl)]
    refine G.ild5 C dL_comes_42 ?_
    refine G.aldn0 C dL_comes_44 ?_
    refine G.iconst C 4 dL_comes_45 (by decide) ?_
    refine G.ialdU C (n := 13) (j := 0) (d0 := 4) (gN_l hl rfl) (hv _ (by omega)) (by unfold vp_in; decide) (by decide) dL_comes_46 ?_
    refine G.topI (v 0 4) rfl ?_
    refine G.icmp_gt C 147 dL_comes_47 (by decide) (fun h47 => absurd h47 (Int32.not_lt.mpr h32)) (fun h47 => ?_)
    refine G.aldn0 C dL_comes_50 ?_
    refine G.iconst C 1 dL_comes_51 (by decide) ?_
    refine G.ialdU C (n := 13) (j := 0) (d0 := 1) (gN_l hl rfl) (hv _ (by omega)) (by unfold vp_in; decide) (by decide) dL_comes_52 ?_
    refine G.topI (v 0 1) rfl ?_
    refine G.aldn1 C dL_comes_53 ?_
    refine G.iconst C 4 dL_comes_54 (by decide) ?_
    refine G.ild4 C dL_comes_55 ?_
    refine G.imul C dL_comes_57 ?_
    refine G.topI (nI (4 * k)) (pk_mul _ _) ?_
    refine G.ialdU C (n := 64) (j := 1) (d0 := (4 * k)) (gN_l hl rfl) (hv _ (by omega)) (by first | assumption | exact vp_in_nI (by omega) (by omega) | (unfold vp_in; decide)) (ix_nI (by omega)) dL_comes_58 ?_
    refine G.topI (nI w0) ew ?_
    refine G.ishr C dL_comes_59 ?_
    refine G.iconst C 1 dL_comes_60 (by decide) ?_
    refine G.iand C dL_comes_61 ?_
    refine G.topI (bI (lBit (v 0 1) w0)) (lBit_sh (by omega)) ?_
    refine G.if_neB C 147 dL_comes_62 (by decide) (fun h62 => ?_) (fun h62 => ?_)
    · have eH : lHome v k t = (lH0 v k t, nI k) := by rw [lHome, if_pos (Int32.not_lt.mp h47), ew, ix_nI (by omega), if_pos h62]
      rw [eH] at hp
      have hL := k_L_comes_loop l (e := e) (below := below) (σ := σ) (π := π) (o := o) hl hv C hrt hlk (b0 := v 0 6) 27 _ _ hp
      rw [show lCome v k t = lRun (v 0 6) 27 (lH0 v k t, nI k).1 (lH0 v k t, nI k).2 by rw [lCome, eH]]
      exact G.back hL rfl ⟨rfl, rfl, rfl, rfl, rfl, rfl, trivial⟩
    · refine G.aldn0 C dL_comes_65 ?_
      refine G.aldn1 C dL_comes_66 ?_
      refine G.aldn1 C dL_comes_67 ?_
      refine G.iconst C 4 dL_comes_68 (by decide) ?_
      refine G.ild4 C dL_comes_69 ?_
      refine G.imul C dL_comes_71 ?_
      refine G.topI (nI (4 * k)) (pk_mul _ _) ?_
      refine G.ialdU C (n := 64) (j := 1) (d0 := (4 * k)) (gN_l hl rfl) (hv _ (by omega)) (by first | assumption | exact vp_in_nI (by omega) (by omega) | (unfold vp_in; decide)) (ix_nI (by omega)) dL_comes_72 ?_
      refine G.topI (nI w0) ew ?_
      refine G.callSI3 C (k_L_sits l hl hv) (va_cwS 3 C.1.2.2.2.2 gL_comes_L_sits rfl rfl rfl (by decide +kernel) ⟨Nat.le_of_ble_eq_true rfl, Nat.le_of_ble_eq_true rfl⟩) (Nat.le_of_ble_eq_true rfl) dL_comes_73 ?_
      refine G.ist8 C dL_comes_76 (by omega) rfl ?_
      refine G.ild8 C dL_comes_78 ?_
      refine G.if_lt C 99 dL_comes_80 (by decide) (fun h80 => ?_) (fun h80 => ?_)
      · refine G.ild8 C dL_comes_99 ?_
        refine G.if_lt C 115 dL_comes_101 (by decide) (fun h101 => ?_) (fun h101 => absurd (h80) h101)
        refine G.iconst C (-1) dL_comes_115 (by decide) ?_
        refine G.ist7 C dL_comes_116 (by omega) rfl ?_
        refine G.ild7 C dL_comes_118 ?_
        refine G.if_lt C 133 dL_comes_120 (by decide) (fun _ => ?_) (fun h => absurd (by decide) h)
        refine G.aldn0 C dL_comes_133 ?_
        refine G.aldn1 C dL_comes_134 ?_
        refine G.aldn3 C dL_comes_135 ?_
        refine G.ild4 C dL_comes_136 ?_
        refine G.aldn1 C dL_comes_138 ?_
        refine G.iconst C 4 dL_comes_139 (by decide) ?_
        refine G.ild4 C dL_comes_140 ?_
        refine G.imul C dL_comes_142 ?_
        refine G.topI (nI (4 * k)) (pk_mul _ _) ?_
        refine G.ialdU C (n := 64) (j := 1) (d0 := (4 * k)) (gN_l hl rfl) (hv _ (by omega)) (by first | assumption | exact vp_in_nI (by omega) (by omega) | (unfold vp_in; decide)) (ix_nI (by omega)) dL_comes_143 ?_
        refine G.topI (nI w0) (by first | exact ew | (rw [cW_4]; exact ew) | (rw [lShift_4]; exact ew)) ?_
        refine G.callSV5 C (k_L_sit l hl hv hk (s0 := 0) (by first | rfl | (rw [lShift_0 (by decide) (by decide)]; rfl)) (by omega)) (va_cwS 5 C.1.2.2.2.2 gL_comes_L_sit rfl rfl rfl (by decide +kernel) ⟨Nat.le_of_ble_eq_true rfl, Nat.le_of_ble_eq_true rfl⟩) (Nat.le_of_ble_eq_true rfl) dL_comes_144 ?_
        have eH : lHome v k t = (lSit (lH0 v k t) k (nI w0) 0, -1) := by rw [lHome, if_pos (Int32.not_lt.mp h47), ew, ix_nI (by omega), if_neg (by rw [h62]; decide), if_pos h80]
        rw [eH] at hp
        have hL := k_L_comes_loop l (e := e) (below := below) (σ := σ) (π := π) (o := o) hl hv C hrt hlk (b0 := v 0 6) 27 _ _ hp
        rw [show lCome v k t = lRun (v 0 6) 27 (lSit (lH0 v k t) k (nI w0) 0, -1).1 (lSit (lH0 v k t) k (nI w0) 0, -1).2 by rw [lCome, eH]]
        exact G.back hL rfl ⟨rfl, rfl, rfl, rfl, rfl, rfl, trivial⟩
      · obtain ⟨j0, hj0, ej⟩ : ∃ j0, j0 < 16 ∧ lSits (lH0 v k t) (nI w0) = nI j0 := lSits_or h80
        rw [ej]
        refine G.aldn0 C dL_comes_83 ?_
        refine G.iconst C 5 dL_comes_84 (by decide) ?_
        refine G.ialdU C (n := 13) (j := 0) (d0 := 5) (gN_l hl rfl) (hv _ (by omega)) (by unfold vp_in; decide) (by decide) dL_comes_85 ?_
        refine G.topI (v 0 5) rfl ?_
        refine G.if_ne C 99 dL_comes_86 (by decide) (fun h86 => ?_) (fun h86 => ?_)
        · refine G.ild8 C dL_comes_99 ?_
          refine G.if_lt C 115 dL_comes_101 (by decide) (fun h101 => absurd h101 (nI_pos (by omega))) (fun h101 => ?_)
          refine G.aldn0 C dL_comes_104 ?_
          refine G.iconst C 5 dL_comes_105 (by decide) ?_
          refine G.ialdU C (n := 13) (j := 0) (d0 := 5) (gN_l hl rfl) (hv _ (by omega)) (by unfold vp_in; decide) (by decide) dL_comes_106 ?_
          refine G.topI (v 0 5) rfl ?_
          refine G.if_le C 115 dL_comes_107 (by decide) (fun h107 => absurd h107 (by rw [em] at h86 ⊢; have : mo ≠ 0 := fun w => h86 (by rw [w]; rfl); exact nI_nle (by omega) (by omega))) (fun h107 => ?_)
          refine G.ild8 C dL_comes_110 ?_
          refine G.goto C 116 dL_comes_112 (by decide) ?_
          refine G.ist7 C dL_comes_116 (by omega) rfl ?_
          refine G.ild7 C dL_comes_118 ?_
          refine G.if_lt C 133 dL_comes_120 (by decide) (fun h120 => absurd h120 (nI_pos (by omega))) (fun h120 => ?_)
          refine G.aldn0 C dL_comes_123 ?_
          refine G.aldn1 C dL_comes_124 ?_
          refine G.aldn2 C dL_comes_125 ?_
          refine G.ild4 C dL_comes_126 ?_
          refine G.ild8 C dL_comes_128 ?_
          refine G.callSV5 C (k_L_shift l hl hv hk hj0) (va_cwS 5 C.1.2.2.2.2 gL_comes_L_shift rfl rfl rfl (by decide +kernel) ⟨Nat.le_of_ble_eq_true rfl, Nat.le_of_ble_eq_true rfl⟩) (Nat.le_of_ble_eq_true rfl) dL_comes_130 ?_
          refine G.aldn0 C dL_comes_133 ?_
          refine G.aldn1 C dL_comes_134 ?_
          refine G.aldn3 C dL_comes_135 ?_
          refine G.ild4 C dL_comes_136 ?_
          refine G.aldn1 C dL_comes_138 ?_
          refine G.iconst C 4 dL_comes_139 (by decide) ?_
          refine G.ild4 C dL_comes_140 ?_
          refine G.imul C dL_comes_142 ?_
          refine G.topI (nI (4 * k)) (pk_mul _ _) ?_
          refine G.ialdU C (n := 64) (j := 1) (d0 := (4 * k)) (gN_l hl rfl) (hv _ (by omega)) (by first | assumption | exact vp_in_nI (by omega) (by omega) | (unfold vp_in; decide)) (ix_nI (by omega)) dL_comes_143 ?_
          refine G.topI (nI w0) (by first | exact ew | (rw [cW_4]; exact ew) | (rw [lShift_4]; exact ew)) ?_
          refine G.callSV5 C (k_L_sit l hl hv hk (s0 := 0) (by first | rfl | (rw [lShift_0 (by decide) (by decide)]; rfl)) (by omega)) (va_cwS 5 C.1.2.2.2.2 gL_comes_L_sit rfl rfl rfl (by decide +kernel) ⟨Nat.le_of_ble_eq_true rfl, Nat.le_of_ble_eq_true rfl⟩) (Nat.le_of_ble_eq_true rfl) dL_comes_144 ?_
          have eH : lHome v k t = (lSit (lShift (lH0 v k t) k j0) k (nI w0) 0, nI j0) := by rw [lHome, if_pos (Int32.not_lt.mp h47), ew, ix_nI (by omega), if_neg (by rw [h62]; decide), if_neg h80, if_neg h86, ej, ix_nI (by omega)]
          rw [eH] at hp
          have hL := k_L_comes_loop l (e := e) (below := below) (σ := σ) (π := π) (o := o) hl hv C hrt hlk (b0 := v 0 6) 27 _ _ hp
          rw [show lCome v k t = lRun (v 0 6) 27 (lSit (lShift (lH0 v k t) k j0) k (nI w0) 0, nI j0).1 (lSit (lShift (lH0 v k t) k j0) k (nI w0) 0, nI j0).2 by rw [lCome, eH]]
          exact G.back hL rfl ⟨rfl, rfl, rfl, rfl, rfl, rfl, trivial⟩
        · refine G.aldn1 C dL_comes_89 ?_
          refine G.iconst C 4 dL_comes_90 (by decide) ?_
          refine G.ild8 C dL_comes_91 ?_
          refine G.imul C dL_comes_93 ?_
          refine G.topI (nI (4 * j0)) (pk_mul _ _) ?_
          refine G.iconst C 2 dL_comes_94 (by decide) ?_
          refine G.iadd C dL_comes_95 ?_
          refine G.topI (nI ((4 * j0) + 2)) (nI_add _ _) ?_
          refine G.bipush C 24 dL_comes_96 (by decide) ?_
          refine G.iastU C (n := 64) (j := 1) (d0 := ((4 * j0) + 2)) (gN_l hl rfl) (hv _ (by omega)) (by first | assumption | exact vp_in_nI (by omega) (by omega) | (unfold vp_in; decide)) (ix_nI (by omega)) dL_comes_98 ?_
          refine G.ild8 C dL_comes_99 ?_
          refine G.if_lt C 115 dL_comes_101 (by decide) (fun h101 => absurd h101 (nI_pos (by omega))) (fun h101 => ?_)
          refine G.aldn0 C dL_comes_104 ?_
          refine G.iconst C 5 dL_comes_105 (by decide) ?_
          refine G.ialdU C (n := 13) (j := 0) (d0 := 5) (gN_l hl rfl) (hv _ (by omega)) (by unfold vp_in; decide) (by decide) dL_comes_106 ?_
          refine G.topI (v 0 5) rfl ?_
          refine G.if_le C 115 dL_comes_107 (by decide) (fun h107 => ?_) (fun h107 => absurd (by rw [h86]; decide) h107)
          refine G.iconst C (-1) dL_comes_115 (by decide) ?_
          refine G.ist7 C dL_comes_116 (by omega) rfl ?_
          refine G.ild7 C dL_comes_118 ?_
          refine G.if_lt C 133 dL_comes_120 (by decide) (fun _ => ?_) (fun h => absurd (by decide) h)
          refine G.aldn0 C dL_comes_133 ?_
          refine G.aldn1 C dL_comes_134 ?_
          refine G.aldn3 C dL_comes_135 ?_
          refine G.ild4 C dL_comes_136 ?_
          refine G.aldn1 C dL_comes_138 ?_
          refine G.iconst C 4 dL_comes_139 (by decide) ?_
          refine G.ild4 C dL_comes_140 ?_
          refine G.imul C dL_comes_142 ?_
          refine G.topI (nI (4 * k)) (pk_mul _ _) ?_
          refine G.ialdU C (n := 64) (j := 1) (d0 := (4 * k)) (gN_l hl rfl) (hv _ (by omega)) (by first | assumption | exact vp_in_nI (by omega) (by omega) | (unfold vp_in; decide)) (ix_nI (by omega)) dL_comes_143 ?_
          refine G.topI (nI w0) (by first | exact ew | (rw [cW_4]; exact ew) | (rw [lShift_4]; exact ew)) ?_
          refine G.callSV5 C (k_L_sit l hl hv hk (s0 := 0) (by first | rfl | (rw [lShift_0 (by decide) (by decide)]; rfl)) (by omega)) (va_cwS 5 C.1.2.2.2.2 gL_comes_L_sit rfl rfl rfl (by decide +kernel) ⟨Nat.le_of_ble_eq_true rfl, Nat.le_of_ble_eq_true rfl⟩) (Nat.le_of_ble_eq_true rfl) dL_comes_144 ?_
          have eH : lHome v k t = (lSit (cW (lH0 v k t) 1 (4 * j0 + 2) 24) k (nI w0) 0, -1) := by rw [lHome, if_pos (Int32.not_lt.mp h47), ew, ix_nI (by omega), if_neg (by rw [h62]; decide), if_neg h80, if_pos h86, ej, ix_nI (by omega)]
          rw [eH] at hp
          have hL := k_L_comes_loop l (e := e) (below := below) (σ := σ) (π := π) (o := o) hl hv C hrt hlk (b0 := v 0 6) 27 _ _ hp
          rw [show lCome v k t = lRun (v 0 6) 27 (lSit (cW (lH0 v k t) 1 (4 * j0 + 2) 24) k (nI w0) 0, -1).1 (lSit (cW (lH0 v k t) 1 (4 * j0 + 2) 24) k (nI w0) 0, -1).2 by rw [lCome, eH]]
          exact G.back hL rfl ⟨rfl, rfl, rfl, rfl, rfl, rfl, trivial⟩
  · refine G.iconst C 1 dL_comes_35 (by decide) ?_
    refine G.goto C 40 dL_comes_36 (by decide) ?_
    refine G.iadd C dL_comes_40 ?_
    refine G.iastU C (n := 64) (j := 2) (d0 := (4 * k)) (gN_l hl rfl) (hv _ (by omega)) (by first | assumption | exact vp_in_nI (by omega) (by omega) | (unfold vp_in; decide)) (ix_nI (by omega)) dL_comes_41 ?_
    rw [show cW (cW (cW v 0 2 t) 0 12 0) 2 (4 * k) _ = lH0 v k t from by rw [lH0]; first | (rw [if_pos h32]; done) | (rw [if_pos h32]; rfl) | (rw [if_neg h32]; done) | (rw [if_neg h32]; rfl)]
    refine G.ild5 C dL_comes_42 ?_
    refine G.aldn0 C dL_comes_44 ?_
    refine G.iconst C 4 dL_comes_45 (by decide) ?_
    refine G.ialdU C (n := 13) (j := 0) (d0 := 4) (gN_l hl rfl) (hv _ (by omega)) (by unfold vp_in; decide) (by decide) dL_comes_46 ?_
    refine G.topI (v 0 4) rfl ?_
    refine G.icmp_gt C 147 dL_comes_47 (by decide) (fun h47 => ?_) (fun h47 => absurd (Int32.not_le.mp h32) h47)
    have eH : lHome v k t = (lH0 v k t, nI k) := by rw [lHome, if_neg (Int32.not_le.mpr h47)]
    rw [eH] at hp
    have hL := k_L_comes_loop l (e := e) (below := below) (σ := σ) (π := π) (o := o) hl hv C hrt hlk (b0 := v 0 6) 27 _ _ hp
    rw [show lCome v k t = lRun (v 0 6) 27 (lH0 v k t, nI k).1 (lH0 v k t, nI k).2 by rw [lCome, eH]]
    exact G.back hL rfl ⟨rfl, rfl, rfl, rfl, rfl, rfl, trivial⟩
