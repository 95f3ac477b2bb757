/-! the law's turns -/
theorem gL_eta (σ : gSt) : gL σ (σ 0) (σ 1) (σ 2) (σ 9) (σ 10) = σ := by
  unfold gL gT
  rw [gU_eta]
  have e : ∀ i, gU σ i (σ i) = σ := fun i => gU_eta σ i
  rw [e 0, e 1, e 2, e 9]
theorem BigL.ah {B sv : Nat} {σ : gSt} {π : Nat → Nat} {c0 c1 c2 c9 v w : cSt} (hs : c9 0 5 = nI sv) (hle : sv ≤ 6) (hπ : ∀ k, k < 6 → 3 ≤ π k ∧ π k < 9) (hS : SRL B c0 v) : BigL B (gM σ c0 c1 c2 c9 v w) π := BigL.mk (σ := gU σ 11 w) hs hle hπ hS
theorem BigL.pi {B : Nat} {σ : gSt} {π : Nat → Nat} (h : BigL B σ π) : ∀ k, k < 6 → 3 ≤ π k ∧ π k < 9 := by
  obtain ⟨sv, -, -, h3, -⟩ := h
  exact h3
theorem q_isSo (l : Launch) (hst : l.stackTraces = false) {E : gEn} {o : Int64} {B : Nat} {σ : gSt} {π : Nat → Nat} (h : BigL B σ π) : CtP l yL_isSo wsL_isSo ({ frames := 9, cells := 16, slots := 96, locals := 194 } : Room) E [.ref (E.2.1 9 0), .ref (E.2.1 10 0), .ref (E.2.1 10 1), .ref (E.2.1 10 2), .ref (E.2.1 10 3)] σ π o (BigL B) 16 96 := by
  obtain ⟨sv, h1, h2, h3, h4⟩ := id h
  have q := k_L_isSo l hst (E := E) (σ := σ) (π := π) (o := o) (c0 := σ 0) (c1 := σ 1) (c2 := σ 2) (c9 := σ 9) (v := σ 10) (P := BigL B) (lSo_of h4) (by rw [gL_eta]; exact h)
  rw [gL_eta] at q
  exact q
theorem q_isAhead (l : Launch) (hst : l.stackTraces = false) {E : gEn} {o : Int64} {B : Nat} {σ : gSt} {π : Nat → Nat} {t : Int32} (h : BigL B σ π) (hB : B + 384 < 2 ^ 30) (ht0 : ¬ t < 0) (ht1 : t ≤ 1439) : ∀ h0, CtA l yL_isAhead wsL_isAhead ({ frames := 9, cells := 36, slots := 359, locals := 206 } : Room) E h0 [.ref (E.2.1 9 0), .ref (E.2.1 10 0), .ref (E.2.1 10 1), .ref (E.2.1 10 2), .int t] σ π o (BigL B) 36 359 := by
  intro h0
  obtain ⟨sv, h1, h2, h3, h4⟩ := id h
  have q := k_L_isAhead l hst (E := E) (h0 := h0) (σ := σ) (π := π) (o := o) (c0 := σ 0) (c1 := σ 1) (c2 := σ 2) (c9 := σ 9) (v := σ 10) (P := BigL B) ht0 ht1 h3 (lAh_of h4 hB) (fun c1 w => BigL.ah h2 h1 h3 h4)
  rw [gL_eta] at q
  exact q
theorem q_doves (l : Launch) (hst : l.stackTraces = false) {E : gEn} {o : Int64} {B : Nat} {σ : gSt} {π : Nat → Nat} {x y : Int32} (h : BigL B σ π) : CtP l yL_doves wsL_doves ({ frames := 9, cells := 3, slots := 18, locals := 194 } : Room) E [.ref (E.2.1 9 0), .int x, .int y, .ref (E.2.1 10 0), .ref (E.2.1 10 1), .ref (E.2.1 10 2)] σ π o (BigL B) 3 18 := by
  obtain ⟨sv, h1, h2, h3, h4⟩ := id h
  have q := k_L_doves l hst (E := E) (σ := σ) (π := π) (o := o) (c0 := σ 0) (c1 := σ 1) (c2 := σ 2) (c9 := σ 9) (v := σ 10) (x := x) (y := y) h2 h1 h3 h4
  rw [gL_eta] at q
  exact q
theorem q_evening (l : Launch) (hst : l.stackTraces = false) {E : gEn} {o : Int64} {B : Nat} {σ : gSt} {π : Nat → Nat} {x y : Int32} (h : BigL B σ π) (hB : B < 2 ^ 30) : CtP l yL_evening wsL_evening ({ frames := 9, cells := 4, slots := 24, locals := 194 } : Room) E [.ref (E.2.1 9 0), .int x, .int y, .ref (E.2.1 10 0), .ref (E.2.1 10 1), .ref (E.2.1 10 2), .ref (E.2.1 10 3)] σ π o (BigL (B + 24)) 4 24 := by
  obtain ⟨sv, h1, h2, h3, h4⟩ := id h
  have q := k_L_evening l hst (E := E) (σ := σ) (π := π) (o := o) (c0 := σ 0) (c1 := σ 1) (c2 := σ 2) (c9 := σ 9) (v := σ 10) (x := x) (y := y) h2 h1 h3 h4 hB
  rw [gL_eta] at q
  exact q
set_option maxRecDepth 100000 in
set_option maxHeartbeats 4000000 in
theorem law_257 {p : Program} {l : Launch} {e : Env} {s : State} {m : MethodId} {args : Array Value} {below : List Frame} {meth : Method} {c : Code} {Q : State → Prop} {E : gEn} {B : Nat} {σ : gSt} {π : Nat → Nat} {o : Int64} {b i cl sl : Nat} (hst : l.stackTraces = false) (C : gCx p s m c cL_law 10 RL wsL_law args E (lA s) room_1 cl sl) (hE : E.2.2.2.2.2 = false) (hX : gX E s) (hXo : ∀ h0, s.heap.size ≤ h0 → gX (gOn E h0) s) (hY : gY s) {x y z : Int32} (h : BigL B σ π) (hB : B + 384 < 2 ^ 30) (hR : cl + 36 ≤ room_1.cells ∧ sl + 359 ≤ room_1.slots) (kk : ∀ (σ' : gSt) (π' : Nat → Nat), BigL B σ' π' → G p l e room_1 s m args below meth c 10 (cl + 36) (sl + 359) (lA s) Q E σ' π' o 288 [some (.ref b), some (.ref (E.2.1 9 0)), some (.ref (E.2.1 10 0)), some (.ref (E.2.1 10 1)), some (.ref (E.2.1 10 2)), some (.ref (E.2.1 10 3)), some (.int (nI i)), none, none, none] []) : G p l e room_1 s m args below meth c 10 cl sl (lA s) Q E σ π o 257 [some (.ref b), some (.ref (E.2.1 9 0)), some (.ref (E.2.1 10 0)), some (.ref (E.2.1 10 1)), some (.ref (E.2.1 10 2)), some (.ref (E.2.1 10 3)), some (.int (nI i)), some (.int x), some (.int y), some (.int z)] [] := by
  refine G.ild6 C dL_law_257 ?_
  refine G.iconst C 5 dL_law_259 (by decide) ?_
  refine G.irem C dL_law_260 (by decide) ?_
  refine G.iconst C 4 dL_law_261 (by decide) ?_
  refine G.icmp_ne C 288 dL_law_262 (by decide) (fun _ => ?_) (fun _ => ?_)
  · exact G.wide (by omega) (by omega) (G.back (kk σ π h) rfl ⟨rfl, rfl, rfl, rfl, rfl, rfl, rfl, trivial⟩)
  · refine G.aldn1 C dL_law_265 ?_
    refine G.aldn2 C dL_law_266 ?_
    refine G.aldn3 C dL_law_267 ?_
    refine G.ald4 C dL_law_268 ?_
    refine G.ild7 C dL_law_270 ?_
    refine G.iconst C 4 dL_law_272 (by decide) ?_
    refine G.ishr C dL_law_273 ?_
    refine G.sipush C 1440 dL_law_274 (by decide) ?_
    refine G.callSI2 C (k_L_low l (N := 1440) (by omega) (by omega)) (va_cwS 2 C.1.2.2.2.2 gL_law_L_low rfl rfl rfl (by decide +kernel) ⟨(Nat.le_of_ble_eq_true rfl), (Nat.le_of_ble_eq_true rfl)⟩) (Nat.le_of_ble_eq_true rfl) dL_law_277 ?_
    have hn := lLow_lt (x := x >>> (4 &&& 31)) (N := 1440) (by omega)
    generalize lLow (x >>> (4 &&& 31)) 1440 = n at hn ⊢
    refine G.callA C hE hXo hY (q_isAhead l hst h hB (nI_pos (by omega)) (nI_le (b := 1439) (by omega) (by omega))) (fun _ _ h => h.pi) (va_cwS 5 C.1.2.2.2.2 gL_law_L_isAhead rfl rfl rfl (by decide +kernel) ⟨(Nat.le_of_ble_eq_true rfl), (Nat.le_of_ble_eq_true rfl)⟩) (Nat.le_of_ble_eq_true rfl) dL_law_280 hR (fun C σ' π' h' => ?_)
    refine G.if_ne C 288 dL_law_283 (by decide) (fun _ => ?_) (fun hc => absurd hc (by decide))
    exact G.back (kk σ' π' h') rfl ⟨rfl, rfl, rfl, rfl, rfl, rfl, rfl, trivial⟩
set_option maxRecDepth 100000 in
set_option maxHeartbeats 4000000 in
theorem law_237 {p : Program} {l : Launch} {e : Env} {s : State} {m : MethodId} {args : Array Value} {below : List Frame} {meth : Method} {c : Code} {Q : State → Prop} {E : gEn} {B : Nat} {σ : gSt} {π : Nat → Nat} {o : Int64} {b i cl sl : Nat} (hst : l.stackTraces = false) (C : gCx p s m c cL_law 10 RL wsL_law args E (lA s) room_1 cl sl) (hE : E.2.2.2.2.2 = false) (hX : gX E s) (hXo : ∀ h0, s.heap.size ≤ h0 → gX (gOn E h0) s) (hY : gY s) {x y : Int32} (h : BigL B σ π) (hB : B + 384 < 2 ^ 30) (hR : cl + 52 ≤ room_1.cells ∧ sl + 455 ≤ room_1.slots) (kk : ∀ (σ' : gSt) (π' : Nat → Nat), BigL B σ' π' → G p l e room_1 s m args below meth c 10 (cl + 52) (sl + 455) (lA s) Q E σ' π' o 288 [some (.ref b), some (.ref (E.2.1 9 0)), some (.ref (E.2.1 10 0)), some (.ref (E.2.1 10 1)), some (.ref (E.2.1 10 2)), some (.ref (E.2.1 10 3)), some (.int (nI i)), none, none, none] []) : G p l e room_1 s m args below meth c 10 cl sl (lA s) Q E σ π o 237 [some (.ref b), some (.ref (E.2.1 9 0)), some (.ref (E.2.1 10 0)), some (.ref (E.2.1 10 1)), some (.ref (E.2.1 10 2)), some (.ref (E.2.1 10 3)), some (.int (nI i)), some (.int x), some (.int y), none] [.int 1] := by
  have hZ := gZ.law hX hY
  refine G.ist9 C dL_law_237 (by omega) rfl ?_
  refine G.ild9 C dL_law_239 ?_
  refine G.if_eq C 286 dL_law_241 (by decide) (fun hc => absurd hc (by decide)) (fun _ => ?_)
  refine G.aldn1 C dL_law_244 ?_
  refine G.aldn2 C dL_law_245 ?_
  refine G.aldn3 C dL_law_246 ?_
  refine G.ald4 C dL_law_247 ?_
  refine G.ald5 C dL_law_249 ?_
  refine G.callP5 C hZ (q_isSo l hst h) (va_cwS 5 C.1.2.2.2.2 gL_law_L_isSo rfl rfl rfl (by decide +kernel) ⟨(Nat.le_of_ble_eq_true rfl), (Nat.le_of_ble_eq_true rfl)⟩) (Nat.le_of_ble_eq_true rfl) dL_law_251 ⟨by have := hR.1; omega, by have := hR.2; omega⟩ (fun C σ' π' h' => ?_)
  refine G.if_eq C 286 dL_law_254 (by decide) (fun hc => absurd hc (by decide)) (fun _ => ?_)
  exact law_257 hst C hE hX hXo hY h' hB ⟨by have := hR.1; omega, by have := hR.2; omega⟩ (fun σ' π' h' => by rw [show cl + 16 + 36 = cl + 52 from rfl, show sl + 96 + 359 = sl + 455 from rfl]; exact kk σ' π' h')
set_option maxRecDepth 100000 in
set_option maxHeartbeats 4000000 in
theorem law_130 {p : Program} {l : Launch} {e : Env} {s : State} {m : MethodId} {args : Array Value} {below : List Frame} {meth : Method} {c : Code} {Q : State → Prop} {E : gEn} {B : Nat} {σ : gSt} {π : Nat → Nat} {o : Int64} {b i cl sl : Nat} (hst : l.stackTraces = false) (C : gCx p s m c cL_law 10 RL wsL_law args E (lA s) room_1 cl sl) (hE : E.2.2.2.2.2 = false) (hX : gX E s) (hXo : ∀ h0, s.heap.size ≤ h0 → gX (gOn E h0) s) (hY : gY s) {L : Nat} {xs : Nat → Int32} (hXs : va_X b L xs s s.heap) (hbl : b < s.heap.size) (hL : L ≤ 2048) (hi : i < 60) (h : BigL B σ π) (hB : B + 500 < 2 ^ 30) (hR : cl + 56 ≤ room_1.cells ∧ sl + 479 ≤ room_1.slots) (kk : ∀ (σ' : gSt) (π' : Nat → Nat), BigL (B + 24) σ' π' → G p l e room_1 s m args below meth c 10 (cl + 56) (sl + 479) (lA s) Q E σ' π' o 288 [some (.ref b), some (.ref (E.2.1 9 0)), some (.ref (E.2.1 10 0)), some (.ref (E.2.1 10 1)), some (.ref (E.2.1 10 2)), some (.ref (E.2.1 10 3)), some (.int (nI i)), none, none, none] []) : G p l e room_1 s m args below meth c 10 cl sl (lA s) Q E σ π o 130 [some (.ref b), some (.ref (E.2.1 9 0)), some (.ref (E.2.1 10 0)), some (.ref (E.2.1 10 1)), some (.ref (E.2.1 10 2)), some (.ref (E.2.1 10 3)), some (.int (nI i)), none, none, none] [] := by
  have hZ := gZ.law hX hY
  have hbA : ¬ gA E b := fun w => absurd (C.2.2.1 b w) (Nat.not_le.mpr hbl)
  refine G.aldn0 C dL_law_130 ?_
  refine G.iconst C 2 dL_law_131 (by decide) ?_
  refine G.ild6 C dL_law_132 ?_
  refine G.imul C dL_law_134 ?_
  refine G.topI (nI (2 * i)) (pk_mul _ _) ?_
  refine G.callN C hXs hbl (k_L_cell l hL (by omega) hbA) (va_cwS 2 C.1.2.2.2.2 gL_law_L_cell rfl rfl rfl (by decide +kernel) ⟨(Nat.le_of_ble_eq_true rfl), (Nat.le_of_ble_eq_true rfl)⟩) (Nat.le_of_ble_eq_true rfl) dL_law_135 (fun x => ?_)
  refine G.ist7 C dL_law_138 (by omega) rfl ?_
  refine G.aldn0 C dL_law_140 ?_
  refine G.iconst C 2 dL_law_141 (by decide) ?_
  refine G.ild6 C dL_law_142 ?_
  refine G.imul C dL_law_144 ?_
  refine G.topI (nI (2 * i)) (pk_mul _ _) ?_
  refine G.iconst C 1 dL_law_145 (by decide) ?_
  refine G.iadd C dL_law_146 ?_
  refine G.topI (nI (2 * i + 1)) (nI_add _ _) ?_
  refine G.callN C hXs hbl (k_L_cell l hL (by omega) hbA) (va_cwS 2 C.1.2.2.2.2 gL_law_L_cell rfl rfl rfl (by decide +kernel) ⟨(Nat.le_of_ble_eq_true rfl), (Nat.le_of_ble_eq_true rfl)⟩) (Nat.le_of_ble_eq_true rfl) dL_law_147 (fun y => ?_)
  refine G.ist8 C dL_law_150 (by omega) rfl ?_
  refine G.ild6 C dL_law_152 ?_
  refine G.bipush C 14 dL_law_154 (by decide) ?_
  refine G.icmp_ge C 177 dL_law_156 (by decide) (fun _ => ?_) (fun _ => ?_)
  · refine G.ild6 C dL_law_177 ?_
    refine G.bipush C 22 dL_law_179 (by decide) ?_
    refine G.icmp_ge C 198 dL_law_181 (by decide) (fun _ => ?_) (fun _ => ?_)
    · refine G.ild7 C dL_law_198 ?_
      refine G.bipush C 8 dL_law_200 (by decide) ?_
      refine G.ishr C dL_law_202 ?_
      refine G.iconst C 3 dL_law_203 (by decide) ?_
      refine G.iand C dL_law_204 ?_
      refine G.if_ne C 223 dL_law_205 (by decide) (fun _ => ?_) (fun _ => ?_)
      · refine G.aldn1 C dL_law_223 ?_
        refine G.ild7 C dL_law_224 ?_
        refine G.ild8 C dL_law_226 ?_
        refine G.aldn2 C dL_law_228 ?_
        refine G.aldn3 C dL_law_229 ?_
        refine G.ald4 C dL_law_230 ?_
        refine G.ald5 C dL_law_232 ?_
        refine G.callP7 C hZ (q_evening l hst h (by omega)) (va_cwS 7 C.1.2.2.2.2 gL_law_L_evening rfl rfl rfl (by decide +kernel) ⟨(Nat.le_of_ble_eq_true rfl), (Nat.le_of_ble_eq_true rfl)⟩) (Nat.le_of_ble_eq_true rfl) dL_law_234 ⟨by have := hR.1; omega, by have := hR.2; omega⟩ (fun C σ' π' h' => ?_)
        exact law_237 hst C hE hX hXo hY h' (by omega) ⟨by have := hR.1; omega, by have := hR.2; omega⟩ (fun σ' π' h' => G.wide (by omega) (by omega) (kk σ' π' h'))
      · refine G.aldn1 C dL_law_208 ?_
        refine G.ild7 C dL_law_209 ?_
        refine G.ild8 C dL_law_211 ?_
        refine G.aldn2 C dL_law_213 ?_
        refine G.aldn3 C dL_law_214 ?_
        refine G.ald4 C dL_law_215 ?_
        refine G.callP6 C hZ (q_doves l hst h) (va_cwS 6 C.1.2.2.2.2 gL_law_L_doves rfl rfl rfl (by decide +kernel) ⟨(Nat.le_of_ble_eq_true rfl), (Nat.le_of_ble_eq_true rfl)⟩) (Nat.le_of_ble_eq_true rfl) dL_law_217 ⟨by have := hR.1; omega, by have := hR.2; omega⟩ (fun C σ' π' h' => ?_)
        refine G.goto C 237 dL_law_220 (by decide) ?_
        exact law_237 hst C hE hX hXo hY h' (by omega) ⟨by have := hR.1; omega, by have := hR.2; omega⟩ (fun σ' π' h' => G.wide (by omega) (by omega) (kk σ' π' (h'.mono (by omega))))
    · refine G.aldn1 C dL_law_184 ?_
      refine G.iconst C 0 dL_law_185 (by decide) ?_
      refine G.ild8 C dL_law_186 ?_
      refine G.aldn2 C dL_law_188 ?_
      refine G.aldn3 C dL_law_189 ?_
      refine G.ald4 C dL_law_190 ?_
      refine G.callP6 C hZ (q_doves l hst h) (va_cwS 6 C.1.2.2.2.2 gL_law_L_doves rfl rfl rfl (by decide +kernel) ⟨(Nat.le_of_ble_eq_true rfl), (Nat.le_of_ble_eq_true rfl)⟩) (Nat.le_of_ble_eq_true rfl) dL_law_192 ⟨by have := hR.1; omega, by have := hR.2; omega⟩ (fun C σ' π' h' => ?_)
      refine G.goto C 237 dL_law_195 (by decide) ?_
      exact law_237 hst C hE hX hXo hY h' (by omega) ⟨by have := hR.1; omega, by have := hR.2; omega⟩ (fun σ' π' h' => G.wide (by omega) (by omega) (kk σ' π' (h'.mono (by omega))))
  · refine G.aldn1 C dL_law_159 ?_
    refine G.bipush C 8 dL_law_160 (by decide) ?_
    refine G.ild6 C dL_law_162 ?_
    refine G.bipush C 10 dL_law_164 (by decide) ?_
    refine G.iadd C dL_law_166 ?_
    refine G.aldn2 C dL_law_167 ?_
    refine G.aldn3 C dL_law_168 ?_
    refine G.ald4 C dL_law_169 ?_
    refine G.callP6 C hZ (q_doves l hst h) (va_cwS 6 C.1.2.2.2.2 gL_law_L_doves rfl rfl rfl (by decide +kernel) ⟨(Nat.le_of_ble_eq_true rfl), (Nat.le_of_ble_eq_true rfl)⟩) (Nat.le_of_ble_eq_true rfl) dL_law_171 ⟨by have := hR.1; omega, by have := hR.2; omega⟩ (fun C σ' π' h' => ?_)
    refine G.goto C 237 dL_law_174 (by decide) ?_
    exact law_237 hst C hE hX hXo hY h' (by omega) ⟨by have := hR.1; omega, by have := hR.2; omega⟩ (fun σ' π' h' => G.wide (by omega) (by omega) (kk σ' π' (h'.mono (by omega))))
set_option maxRecDepth 100000 in
set_option maxHeartbeats 4000000 in
theorem law_loop {p : Program} {l : Launch} {e : Env} {s : State} {m : MethodId} {args : Array Value} {below : List Frame} {meth : Method} {c : Code} {Q : State → Prop} {E : gEn} {o : Int64} {b : Nat} (hst : l.stackTraces = false) (hE : E.2.2.2.2.2 = false) (hX : gX E s) (hXo : ∀ h0, s.heap.size ≤ h0 → gX (gOn E h0) s) (hY : gY s) {L : Nat} {xs : Nat → Int32} (hXs : va_X b L xs s s.heap) (hbl : b < s.heap.size) (hL : L ≤ 2048) (hend : ∀ (H : Heap) (ls : Array Slot), W p l e room_1 s m args below meth c H [] 629389 7213300 Q (F0 m 295 ls [.int 1])) : ∀ (g i cl sl : Nat) (σ : gSt) (π : Nat → Nat), i + g = 60 → cl + 56 * g ≤ 629389 → sl + 479 * g ≤ 7213300 → gCx p s m c cL_law 10 RL wsL_law args E (lA s) room_1 cl sl → BigL (24 * i) σ π → G p l e room_1 s m args below meth c 10 cl sl (lA s) Q E σ π o 123 [some (.ref b), some (.ref (E.2.1 9 0)), some (.ref (E.2.1 10 0)), some (.ref (E.2.1 10 1)), some (.ref (E.2.1 10 2)), some (.ref (E.2.1 10 3)), some (.int (nI i)), none, none, none] [] := by
  intro g
  induction g with
  | zero =>
    intro i cl sl σ π h1 h2 h3 C h
    obtain rfl : i = 60 := by omega
    refine G.ild6 C dL_law_123 ?_
    refine G.bipush C 60 dL_law_125 (by decide) ?_
    refine G.icmp_ge C 294 dL_law_127 (by decide) (fun _ => ?_) (fun hc => absurd (nI_le (a := 60) (b := 60) (by omega) (by decide)) hc)
    refine G.iconst C 1 dL_law_294 (by decide) ?_
    exact fun H locs ls hW hS hl => va_forget (fun q hq => hS.2.2 q hq) (W.widen (k := 629389) (n := 7213300) (by omega) (by omega) (hend H ls))
  | succ g ih =>
    intro i cl sl σ π h1 h2 h3 C h
    refine G.ild6 C dL_law_123 ?_
    refine G.bipush C 60 dL_law_125 (by decide) ?_
    refine G.icmp_ge C 294 dL_law_127 (by decide) (fun hc => absurd hc (nI_ge (a := i) (b := 60) (by omega) (by decide))) (fun _ => ?_)
    have hR : cl + 56 ≤ room_1.cells ∧ sl + 479 ≤ room_1.slots := ⟨by show cl + 56 ≤ 629389; omega, by show sl + 479 ≤ 7213300; omega⟩
    refine law_130 hst C hE hX hXo hY hXs hbl hL (by omega) h (by omega) hR (fun σ' π' h' => ?_)
    have C' := C.wide hR.1 hR.2
    refine G.iincN6 C' dL_law_288 (by omega) rfl ?_
    refine G.goto C' 123 dL_law_291 (by decide) ?_
    exact ih (i + 1) (cl + 56) (sl + 479) σ' π' (by omega) (by omega) (by omega) C' (h'.mono (by omega))
set_option maxRecDepth 100000 in
set_option maxHeartbeats 4000000 in
theorem law_30 {p : Program} {l : Launch} {e : Env} {s : State} {m : MethodId} {args : Array Value} {below : List Frame} {meth : Method} {c : Code} {Q : State → Prop} {E : gEn} {σ : gSt} {π : Nat → Nat} {o : Int64} {c0 c1 c2 c9 v : cSt} {b cl sl : Nat} (hst : l.stackTraces = false) (C : gCx p s m c cL_law 10 RL wsL_law args E (lA s) room_1 cl sl) (hE : E.2.2.2.2.2 = false) (hX : gX E s) (hXo : ∀ h0, s.heap.size ≤ h0 → gX (gOn E h0) s) (hY : gY s) {L : Nat} {xs : Nat → Int32} (hXs : va_X b L xs s s.heap) (hbl : b < s.heap.size) (hL : L ≤ 2048) (hend : ∀ (H : Heap) (ls : Array Slot), W p l e room_1 s m args below meth c H [] 629389 7213300 Q (F0 m 295 ls [.int 1])) (hcl : cl ≤ 1000) (hsl : sl ≤ 9000) (h3 : c9 0 3 = 0) (h5 : c9 0 5 = 0) (hπ : ∀ k, k < 6 → 3 ≤ π k ∧ π k < 9) (hS : SRL 0 c0 (cW (cW v 0 4 1080) 0 5 6)) : G p l e room_1 s m args below meth c 10 cl sl (lA s) Q E (gL σ c0 c1 c2 c9 v) π o 30 [some (.ref b), some (.ref (E.2.1 9 0)), some (.ref (E.2.1 10 0)), some (.ref (E.2.1 10 1)), some (.ref (E.2.1 10 2)), some (.ref (E.2.1 10 3)), none, none, none, none] [] := by
  have hZ := gZ.law hX hY
  have hM0 : room_1.cells = 629389 := rfl
  have hM1 : room_1.slots = 7213300 := rfl
  refine G.aldn2 C dL_law_30 ?_
  refine G.iconst C 4 dL_law_31 (by decide) ?_
  refine G.sipush C 1080 dL_law_32 (by decide) ?_
  refine G.iastL C (n := 13) (d0 := 4) rfl (hvL (by omega)) (by unfold vp_in; decide) rfl dL_law_35 ?_
  refine G.aldn2 C dL_law_36 ?_
  refine G.iconst C 5 dL_law_37 (by decide) ?_
  refine G.bipush C 6 dL_law_38 (by decide) ?_
  refine G.iastL C (n := 13) (d0 := 5) rfl (hvL (by omega)) (by unfold vp_in; decide) rfl dL_law_40 ?_
  refine G.aldn1 C dL_law_41 ?_
  refine G.aldn2 C dL_law_42 ?_
  refine G.aldn3 C dL_law_43 ?_
  refine G.ald4 C dL_law_44 ?_
  refine G.ald5 C dL_law_46 ?_
  refine G.callP5 C hZ (k_L_isSo l hst (P := fun σ' π' => σ' = gL σ c0 c1 c2 c9 (cW (cW v 0 4 1080) 0 5 6) ∧ π = π') (lSo_of hS) ⟨rfl, rfl⟩) (va_cwS 5 C.1.2.2.2.2 gL_law_L_isSo rfl rfl rfl (by decide +kernel) ⟨(Nat.le_of_ble_eq_true rfl), (Nat.le_of_ble_eq_true rfl)⟩) (Nat.le_of_ble_eq_true rfl) dL_law_48 ⟨by rw [hM0]; omega, by rw [hM1]; omega⟩ (fun C σ' π' h' => ?_)
  obtain ⟨rfl, rfl⟩ := h'
  refine G.if_eq C 118 dL_law_51 (by decide) (fun hc => absurd hc (by decide)) (fun _ => ?_)
  refine G.aldn1 C dL_law_54 ?_
  refine G.aldn2 C dL_law_55 ?_
  refine G.aldn3 C dL_law_56 ?_
  refine G.ald4 C dL_law_57 ?_
  refine G.iconst C 5 dL_law_59 (by decide) ?_
  refine G.callA C hE hXo hY (P := fun σ' π' => ∃ c1' w, σ' = gM σ c0 c1' c2 c9 (cW (cW v 0 4 1080) 0 5 6) w ∧ π = π') (fun h0 => k_L_isAhead l hst (by decide) (by decide) hπ (lAh_of hS (by omega)) (fun c1 w => ⟨c1, w, rfl, rfl⟩)) (fun _ _ h => by obtain ⟨c1', w, rfl, rfl⟩ := h; exact hπ) (va_cwS 5 C.1.2.2.2.2 gL_law_L_isAhead rfl rfl rfl (by decide +kernel) ⟨(Nat.le_of_ble_eq_true rfl), (Nat.le_of_ble_eq_true rfl)⟩) (Nat.le_of_ble_eq_true rfl) dL_law_60 ⟨by rw [hM0]; omega, by rw [hM1]; omega⟩ (fun C σ' π2 h' => ?_)
  obtain ⟨c1', w, rfl, rfl⟩ := h'
  refine G.if_eq C 118 dL_law_63 (by decide) (fun hc => absurd hc (by decide)) (fun _ => ?_)
  refine G.aldn1 C dL_law_66 ?_
  refine G.callH1 C hZ (k_L_undo_t l hst h5) (vx_cwSW 1 C.1.2.2.2.2 gL_law_L_undo rfl rfl rfl (by decide +kernel) ⟨(Nat.le_of_ble_eq_true rfl), (Nat.le_of_ble_eq_true rfl)⟩) (Nat.le_of_ble_eq_true rfl) dL_law_67 ⟨by rw [hM0]; omega, by rw [hM1]; omega⟩ (fun C => ?_)
  refine G.bipush C (-33) dL_law_70 (by decide) ?_
  refine G.icmp_ne C 118 dL_law_72 (by decide) (fun hc => absurd rfl hc) (fun _ => ?_)
  refine G.aldn1 C dL_law_75 ?_
  refine G.callH1 C hZ (k_L_restore_t l hst h3) (vx_cwSW 1 C.1.2.2.2.2 gL_law_L_restore rfl rfl rfl (by decide +kernel) ⟨(Nat.le_of_ble_eq_true rfl), (Nat.le_of_ble_eq_true rfl)⟩) (Nat.le_of_ble_eq_true rfl) dL_law_76 ⟨by rw [hM0]; omega, by rw [hM1]; omega⟩ (fun C => ?_)
  refine G.bipush C (-33) dL_law_79 (by decide) ?_
  refine G.icmp_ne C 118 dL_law_81 (by decide) (fun hc => absurd rfl hc) (fun _ => ?_)
  refine G.aldn1 C dL_law_84 ?_
  refine G.bipush C 24 dL_law_85 (by decide) ?_
  refine G.iconst C 3 dL_law_87 (by decide) ?_
  refine G.callH3 C hZ (k_L_hole_t1 l hst (by decide)) (vx_cwSW 3 C.1.2.2.2.2 gL_law_L_hole rfl rfl rfl (by decide +kernel) ⟨(Nat.le_of_ble_eq_true rfl), (Nat.le_of_ble_eq_true rfl)⟩) (Nat.le_of_ble_eq_true rfl) dL_law_88 ⟨by rw [hM0]; omega, by rw [hM1]; omega⟩ (fun C => ?_)
  refine G.bipush C (-31) dL_law_91 (by decide) ?_
  refine G.icmp_ne C 118 dL_law_93 (by decide) (fun hc => absurd rfl hc) (fun _ => ?_)
  refine G.aldn1 C dL_law_96 ?_
  refine G.iconst C 0 dL_law_97 (by decide) ?_
  refine G.iconst C 3 dL_law_98 (by decide) ?_
  refine G.callH3 C hZ (k_L_hole_t2 l hst (by decide) (by decide)) (vx_cwSW 3 C.1.2.2.2.2 gL_law_L_hole rfl rfl rfl (by decide +kernel) ⟨(Nat.le_of_ble_eq_true rfl), (Nat.le_of_ble_eq_true rfl)⟩) (Nat.le_of_ble_eq_true rfl) dL_law_99 ⟨by rw [hM0]; omega, by rw [hM1]; omega⟩ (fun C => ?_)
  refine G.bipush C (-32) dL_law_102 (by decide) ?_
  refine G.icmp_ne C 118 dL_law_104 (by decide) (fun hc => absurd rfl hc) (fun _ => ?_)
  refine G.aldn1 C dL_law_107 ?_
  refine G.iconst C (-1) dL_law_108 (by decide) ?_
  refine G.iconst C 0 dL_law_109 (by decide) ?_
  refine G.callH3 C hZ (k_L_step_t l hst (by decide)) (vx_cwSW 3 C.1.2.2.2.2 gL_law_L_step rfl rfl rfl (by decide +kernel) ⟨(Nat.le_of_ble_eq_true rfl), (Nat.le_of_ble_eq_true rfl)⟩) (Nat.le_of_ble_eq_true rfl) dL_law_110 ⟨by rw [hM0]; omega, by rw [hM1]; omega⟩ (fun C => ?_)
  refine G.bipush C (-32) dL_law_113 (by decide) ?_
  refine G.icmp_eq C 120 dL_law_115 (by decide) (fun _ => ?_) (fun hc => absurd rfl hc)
  refine G.iconst C 0 dL_law_120 (by decide) ?_
  refine G.ist6 C dL_law_121 (by omega) rfl ?_
  exact law_loop hst hE hX hXo hY hXs hbl hL hend 60 0 _ _ _ _ rfl (by omega) (by omega) C (BigL.ah (sv := 0) h5 (by omega) hπ hS)
