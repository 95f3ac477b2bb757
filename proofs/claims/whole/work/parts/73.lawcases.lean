/-! the law: a call on both sides -/
set_option maxRecDepth 100000 in
set_option maxHeartbeats 4000000 in
theorem law_buy {p : Program} {l : Launch} {e : Env} {s : State} {m : MethodId} {args : Array Value} {below : List Frame} {meth : Method} {c : Code} {Q : State → Prop} {E : gEn} {B : Nat} {σ : gSt} {π : Nat → Nat} {o : Int64} {b L i cl sl : Nat} {xs : Nat → Int32} (hst : l.stackTraces = false) (C : gCx p s m c cL_law 9 RL wsL_law args E (lA s) room_1 cl sl) (hX : gX E s) (hY : gY s) (hXs : va_X b L xs s s.heap) (hbl : b < s.heap.size) (hi : i + 4 ≤ L) (hL : L ≤ 2048) (hB : B < 2 ^ 29) (h : Big B σ π) (hR : cl + 1 ≤ room_1.cells ∧ sl + 6 ≤ room_1.slots) (kk : ∀ (σ' : gSt) (π' : Nat → Nat) (o' : Int64), Big (B + 1500) σ' π' → G p l e room_1 s m args below meth c 9 (cl + 1) (sl + 6) (lA s) Q E σ' π' o' 1381 [some (.ref b), some (.ref (E.2.1 9 0)), some (.ref (E.2.1 10 0)), some (.ref (E.2.1 11 0)), some (.int (nI i)), none, none, none, none] []) : G p l e room_1 s m args below meth c 9 cl sl (lA s) Q E σ π o 156 [some (.ref b), some (.ref (E.2.1 9 0)), some (.ref (E.2.1 10 0)), some (.ref (E.2.1 11 0)), some (.int (nI i)), none, none, none, none] [] := by
  have hbA : ¬ lA s b := Nat.not_le.mpr hbl
  obtain ⟨r, σ1, π1, o1, bb, d1, hC, hM, h0, ho, hB'⟩ := st_buy l hst (E := E) (o := o) (x := xs (nI (i + 1)).toNatClampNeg) (y := xs (nI (i + 2)).toNatClampNeg) hB h
  rw [gT_eta] at hC
  have C' := C.wide hR.1 hR.2
  refine G.aldn1 C dL_law_156 ?_
  refine G.aldn0 C dL_law_157 ?_
  refine G.ild4 C dL_law_158 ?_
  refine G.iconst C 1 dL_law_160 (by decide) ?_
  refine G.iadd C dL_law_161 ?_
  refine G.topI (nI (i + 1)) (nI_add i 1) ?_
  refine G.sld C hXs hbl hbA (show vp_in (nI (i + 1)) L from vp_in_nI (by omega) (by omega)) dL_law_162 ?_
  refine G.aldn0 C dL_law_163 ?_
  refine G.ild4 C dL_law_164 ?_
  refine G.iconst C 2 dL_law_166 (by decide) ?_
  refine G.iadd C dL_law_167 ?_
  refine G.topI (nI (i + 2)) (nI_add i 2) ?_
  refine G.sld C hXs hbl hbA (show vp_in (nI (i + 2)) L from vp_in_nI (by omega) (by omega)) dL_law_168 ?_
  refine G.aldn3 C dL_law_169 ?_
  refine G.callH4 C hX hY hC (vx_cwSW 4 C.1.2.2.2.2 gL_law_L_buy rfl rfl rfl (by decide +kernel) ⟨(Nat.le_of_ble_eq_true rfl), (Nat.le_of_ble_eq_true rfl)⟩) (Nat.le_of_ble_eq_true rfl) dL_law_170 hR ?_
  refine G.ist5 C' dL_law_173 (by omega) rfl ?_
  refine G.aldn2 C' dL_law_175 ?_
  refine G.aldn0 C' dL_law_176 ?_
  refine G.ild4 C' dL_law_177 ?_
  refine G.iconst C' 1 dL_law_179 (by decide) ?_
  refine G.iadd C' dL_law_180 ?_
  refine G.topI (nI (i + 1)) (nI_add i 1) ?_
  refine G.sld C' hXs hbl hbA (show vp_in (nI (i + 1)) L from vp_in_nI (by omega) (by omega)) dL_law_181 ?_
  refine G.aldn0 C' dL_law_182 ?_
  refine G.ild4 C' dL_law_183 ?_
  refine G.iconst C' 2 dL_law_185 (by decide) ?_
  refine G.iadd C' dL_law_186 ?_
  refine G.topI (nI (i + 2)) (nI_add i 2) ?_
  refine G.sld C' hXs hbl hbA (show vp_in (nI (i + 2)) L from vp_in_nI (by omega) (by omega)) dL_law_187 ?_
  refine G.callVI2 C' hM (cwV 2 C.1.2.2.2.2 gL_law_X4_buy rfl rfl rfl (by decide +kernel) ⟨(Nat.le_of_ble_eq_true rfl), (Nat.le_of_ble_eq_true rfl)⟩) (rfl : gO 10 0 = some 4) rfl (Nat.le_of_ble_eq_true rfl) dL_law_188 ?_
  refine G.ist6 C' dL_law_191 (by omega) rfl ?_
  refine G.aldn2 C' dL_law_193 ?_
  refine G.callVI0 C' (k_X4_thrown l (d := d1)) (cwV 0 C.1.2.2.2.2 gL_law_X4_thrown rfl rfl rfl (by decide +kernel) ⟨(Nat.le_of_ble_eq_true rfl), (Nat.le_of_ble_eq_true rfl)⟩) (rfl : gO 10 0 = some 4) rfl (Nat.le_of_ble_eq_true rfl) dL_law_194 ?_
  refine G.ild5 C' dL_law_197 ?_
  refine G.icmp_eq C' 204 dL_law_199 (by decide) (fun _ => ?_) (fun hc => absurd h0 hc)
  refine G.ild5 C' dL_law_204 ?_
  refine G.if_ne C' 221 dL_law_206 (by decide) (fun _ => ?_) (fun hr0 => ?_)
  · refine G.goto C' 1381 dL_law_221 (by decide) ?_
    exact G.back (kk _ _ _ hB') rfl ⟨rfl, rfl, rfl, rfl, rfl, trivial⟩
  · have ho' := ho hr0
    refine G.aldn3 C' dL_law_209 ?_
    refine G.iconst C' 0 dL_law_210 (by decide) ?_
    refine G.laldO C' dL_law_211 ?_
    refine G.ild6 C' dL_law_212 ?_
    refine G.i2l C' dL_law_214 ?_
    refine G.lcmp C' dL_law_215 ?_
    refine G.topI 0 (by rw [ho']; exact lg_cmp_self _) ?_
    refine G.if_eq C' 221 dL_law_216 (by decide) (fun _ => ?_) (fun hc => absurd rfl hc)
    refine G.goto C' 1381 dL_law_221 (by decide) ?_
    exact G.back (kk _ _ _ hB') rfl ⟨rfl, rfl, rfl, rfl, rfl, trivial⟩
set_option maxRecDepth 100000 in
set_option maxHeartbeats 4000000 in
theorem law_sell {p : Program} {l : Launch} {e : Env} {s : State} {m : MethodId} {args : Array Value} {below : List Frame} {meth : Method} {c : Code} {Q : State → Prop} {E : gEn} {B : Nat} {σ : gSt} {π : Nat → Nat} {o : Int64} {b L i cl sl : Nat} {xs : Nat → Int32} (hst : l.stackTraces = false) (C : gCx p s m c cL_law 9 RL wsL_law args E (lA s) room_1 cl sl) (hX : gX E s) (hY : gY s) (hXs : va_X b L xs s s.heap) (hbl : b < s.heap.size) (hi : i + 4 ≤ L) (hL : L ≤ 2048) (hB : B < 2 ^ 29) (h : Big B σ π) (hR : cl + 1 ≤ room_1.cells ∧ sl + 6 ≤ room_1.slots) (kk : ∀ (σ' : gSt) (π' : Nat → Nat) (o' : Int64), Big (B + 1500) σ' π' → G p l e room_1 s m args below meth c 9 (cl + 1) (sl + 6) (lA s) Q E σ' π' o' 1381 [some (.ref b), some (.ref (E.2.1 9 0)), some (.ref (E.2.1 10 0)), some (.ref (E.2.1 11 0)), some (.int (nI i)), none, none, none, none] []) : G p l e room_1 s m args below meth c 9 cl sl (lA s) Q E σ π o 224 [some (.ref b), some (.ref (E.2.1 9 0)), some (.ref (E.2.1 10 0)), some (.ref (E.2.1 11 0)), some (.int (nI i)), none, none, none, none] [] := by
  have hbA : ¬ lA s b := Nat.not_le.mpr hbl
  obtain ⟨r, σ1, π1, o1, bb, d1, hC, hM, h0, ho, hB'⟩ := st_sell l hst (E := E) (o := o) (x := xs (nI (i + 1)).toNatClampNeg) hB h
  rw [gT_eta] at hC
  have C' := C.wide hR.1 hR.2
  refine G.aldn1 C dL_law_224 ?_
  refine G.aldn0 C dL_law_225 ?_
  refine G.ild4 C dL_law_226 ?_
  refine G.iconst C 1 dL_law_228 (by decide) ?_
  refine G.iadd C dL_law_229 ?_
  refine G.topI (nI (i + 1)) (nI_add i 1) ?_
  refine G.sld C hXs hbl hbA (show vp_in (nI (i + 1)) L from vp_in_nI (by omega) (by omega)) dL_law_230 ?_
  refine G.aldn3 C dL_law_231 ?_
  refine G.callH3 C hX hY hC (vx_cwSW 3 C.1.2.2.2.2 gL_law_L_sell rfl rfl rfl (by decide +kernel) ⟨(Nat.le_of_ble_eq_true rfl), (Nat.le_of_ble_eq_true rfl)⟩) (Nat.le_of_ble_eq_true rfl) dL_law_232 hR ?_
  refine G.ist5 C' dL_law_235 (by omega) rfl ?_
  refine G.aldn2 C' dL_law_237 ?_
  refine G.aldn0 C' dL_law_238 ?_
  refine G.ild4 C' dL_law_239 ?_
  refine G.iconst C' 1 dL_law_241 (by decide) ?_
  refine G.iadd C' dL_law_242 ?_
  refine G.topI (nI (i + 1)) (nI_add i 1) ?_
  refine G.sld C' hXs hbl hbA (show vp_in (nI (i + 1)) L from vp_in_nI (by omega) (by omega)) dL_law_243 ?_
  refine G.callVI1 C' hM (cwV 1 C.1.2.2.2.2 gL_law_X4_sell rfl rfl rfl (by decide +kernel) ⟨(Nat.le_of_ble_eq_true rfl), (Nat.le_of_ble_eq_true rfl)⟩) (rfl : gO 10 0 = some 4) rfl (Nat.le_of_ble_eq_true rfl) dL_law_244 ?_
  refine G.ist6 C' dL_law_247 (by omega) rfl ?_
  refine G.aldn2 C' dL_law_249 ?_
  refine G.callVI0 C' (k_X4_thrown l (d := d1)) (cwV 0 C.1.2.2.2.2 gL_law_X4_thrown rfl rfl rfl (by decide +kernel) ⟨(Nat.le_of_ble_eq_true rfl), (Nat.le_of_ble_eq_true rfl)⟩) (rfl : gO 10 0 = some 4) rfl (Nat.le_of_ble_eq_true rfl) dL_law_250 ?_
  refine G.ild5 C' dL_law_253 ?_
  refine G.icmp_eq C' 260 dL_law_255 (by decide) (fun _ => ?_) (fun hc => absurd h0 hc)
  refine G.ild5 C' dL_law_260 ?_
  refine G.if_ne C' 277 dL_law_262 (by decide) (fun _ => ?_) (fun hr0 => ?_)
  · refine G.goto C' 1381 dL_law_277 (by decide) ?_
    exact G.back (kk _ _ _ hB') rfl ⟨rfl, rfl, rfl, rfl, rfl, trivial⟩
  · have ho' := ho hr0
    refine G.aldn3 C' dL_law_265 ?_
    refine G.iconst C' 0 dL_law_266 (by decide) ?_
    refine G.laldO C' dL_law_267 ?_
    refine G.ild6 C' dL_law_268 ?_
    refine G.i2l C' dL_law_270 ?_
    refine G.lcmp C' dL_law_271 ?_
    refine G.topI 0 (by rw [ho']; exact lg_cmp_self _) ?_
    refine G.if_eq C' 277 dL_law_272 (by decide) (fun _ => ?_) (fun hc => absurd rfl hc)
    refine G.goto C' 1381 dL_law_277 (by decide) ?_
    exact G.back (kk _ _ _ hB') rfl ⟨rfl, rfl, rfl, rfl, rfl, trivial⟩
set_option maxRecDepth 100000 in
set_option maxHeartbeats 4000000 in
theorem law_mate {p : Program} {l : Launch} {e : Env} {s : State} {m : MethodId} {args : Array Value} {below : List Frame} {meth : Method} {c : Code} {Q : State → Prop} {E : gEn} {B : Nat} {σ : gSt} {π : Nat → Nat} {o : Int64} {b L i cl sl : Nat} {xs : Nat → Int32} (hst : l.stackTraces = false) (C : gCx p s m c cL_law 9 RL wsL_law args E (lA s) room_1 cl sl) (hX : gX E s) (hY : gY s) (hXs : va_X b L xs s s.heap) (hbl : b < s.heap.size) (hi : i + 4 ≤ L) (hL : L ≤ 2048) (hB : B < 2 ^ 29) (h : Big B σ π) (hR : cl + 1 ≤ room_1.cells ∧ sl + 6 ≤ room_1.slots) (kk : ∀ (σ' : gSt) (π' : Nat → Nat) (o' : Int64), Big (B + 1500) σ' π' → G p l e room_1 s m args below meth c 9 (cl + 1) (sl + 6) (lA s) Q E σ' π' o' 1381 [some (.ref b), some (.ref (E.2.1 9 0)), some (.ref (E.2.1 10 0)), some (.ref (E.2.1 11 0)), some (.int (nI i)), none, none, none, none] []) : G p l e room_1 s m args below meth c 9 cl sl (lA s) Q E σ π o 280 [some (.ref b), some (.ref (E.2.1 9 0)), some (.ref (E.2.1 10 0)), some (.ref (E.2.1 11 0)), some (.int (nI i)), none, none, none, none] [] := by
  have hbA : ¬ lA s b := Nat.not_le.mpr hbl
  obtain ⟨r, σ1, π1, o1, bb, d1, hC, hM, h0, ho, hB'⟩ := st_mate l hst (E := E) (o := o) (x := xs (nI (i + 1)).toNatClampNeg) (y := xs (nI (i + 2)).toNatClampNeg) hB h
  rw [gT_eta] at hC
  have C' := C.wide hR.1 hR.2
  refine G.aldn1 C dL_law_280 ?_
  refine G.aldn0 C dL_law_281 ?_
  refine G.ild4 C dL_law_282 ?_
  refine G.iconst C 1 dL_law_284 (by decide) ?_
  refine G.iadd C dL_law_285 ?_
  refine G.topI (nI (i + 1)) (nI_add i 1) ?_
  refine G.sld C hXs hbl hbA (show vp_in (nI (i + 1)) L from vp_in_nI (by omega) (by omega)) dL_law_286 ?_
  refine G.aldn0 C dL_law_287 ?_
  refine G.ild4 C dL_law_288 ?_
  refine G.iconst C 2 dL_law_290 (by decide) ?_
  refine G.iadd C dL_law_291 ?_
  refine G.topI (nI (i + 2)) (nI_add i 2) ?_
  refine G.sld C hXs hbl hbA (show vp_in (nI (i + 2)) L from vp_in_nI (by omega) (by omega)) dL_law_292 ?_
  refine G.aldn3 C dL_law_293 ?_
  refine G.callH4 C hX hY hC (vx_cwSW 4 C.1.2.2.2.2 gL_law_L_mate rfl rfl rfl (by decide +kernel) ⟨(Nat.le_of_ble_eq_true rfl), (Nat.le_of_ble_eq_true rfl)⟩) (Nat.le_of_ble_eq_true rfl) dL_law_294 hR ?_
  refine G.ist5 C' dL_law_297 (by omega) rfl ?_
  refine G.aldn2 C' dL_law_299 ?_
  refine G.aldn0 C' dL_law_300 ?_
  refine G.ild4 C' dL_law_301 ?_
  refine G.iconst C' 1 dL_law_303 (by decide) ?_
  refine G.iadd C' dL_law_304 ?_
  refine G.topI (nI (i + 1)) (nI_add i 1) ?_
  refine G.sld C' hXs hbl hbA (show vp_in (nI (i + 1)) L from vp_in_nI (by omega) (by omega)) dL_law_305 ?_
  refine G.aldn0 C' dL_law_306 ?_
  refine G.ild4 C' dL_law_307 ?_
  refine G.iconst C' 2 dL_law_309 (by decide) ?_
  refine G.iadd C' dL_law_310 ?_
  refine G.topI (nI (i + 2)) (nI_add i 2) ?_
  refine G.sld C' hXs hbl hbA (show vp_in (nI (i + 2)) L from vp_in_nI (by omega) (by omega)) dL_law_311 ?_
  refine G.callVI2 C' hM (cwV 2 C.1.2.2.2.2 gL_law_X4_mate rfl rfl rfl (by decide +kernel) ⟨(Nat.le_of_ble_eq_true rfl), (Nat.le_of_ble_eq_true rfl)⟩) (rfl : gO 10 0 = some 4) rfl (Nat.le_of_ble_eq_true rfl) dL_law_312 ?_
  refine G.ist6 C' dL_law_315 (by omega) rfl ?_
  refine G.aldn2 C' dL_law_317 ?_
  refine G.callVI0 C' (k_X4_thrown l (d := d1)) (cwV 0 C.1.2.2.2.2 gL_law_X4_thrown rfl rfl rfl (by decide +kernel) ⟨(Nat.le_of_ble_eq_true rfl), (Nat.le_of_ble_eq_true rfl)⟩) (rfl : gO 10 0 = some 4) rfl (Nat.le_of_ble_eq_true rfl) dL_law_318 ?_
  refine G.ild5 C' dL_law_321 ?_
  refine G.icmp_eq C' 328 dL_law_323 (by decide) (fun _ => ?_) (fun hc => absurd h0 hc)
  refine G.ild5 C' dL_law_328 ?_
  refine G.if_ne C' 345 dL_law_330 (by decide) (fun _ => ?_) (fun hr0 => ?_)
  · refine G.goto C' 1381 dL_law_345 (by decide) ?_
    exact G.back (kk _ _ _ hB') rfl ⟨rfl, rfl, rfl, rfl, rfl, trivial⟩
  · have ho' := ho hr0
    refine G.aldn3 C' dL_law_333 ?_
    refine G.iconst C' 0 dL_law_334 (by decide) ?_
    refine G.laldO C' dL_law_335 ?_
    refine G.ild6 C' dL_law_336 ?_
    refine G.i2l C' dL_law_338 ?_
    refine G.lcmp C' dL_law_339 ?_
    refine G.topI 0 (by rw [ho']; exact lg_cmp_self _) ?_
    refine G.if_eq C' 345 dL_law_340 (by decide) (fun _ => ?_) (fun hc => absurd rfl hc)
    refine G.goto C' 1381 dL_law_345 (by decide) ?_
    exact G.back (kk _ _ _ hB') rfl ⟨rfl, rfl, rfl, rfl, rfl, trivial⟩
set_option maxRecDepth 100000 in
set_option maxHeartbeats 4000000 in
theorem law_shut {p : Program} {l : Launch} {e : Env} {s : State} {m : MethodId} {args : Array Value} {below : List Frame} {meth : Method} {c : Code} {Q : State → Prop} {E : gEn} {B : Nat} {σ : gSt} {π : Nat → Nat} {o : Int64} {b L i cl sl : Nat} {xs : Nat → Int32} (hst : l.stackTraces = false) (C : gCx p s m c cL_law 9 RL wsL_law args E (lA s) room_1 cl sl) (hX : gX E s) (hY : gY s) (hXs : va_X b L xs s s.heap) (hbl : b < s.heap.size) (hi : i + 4 ≤ L) (hL : L ≤ 2048) (hB : B < 2 ^ 29) (h : Big B σ π) (hR : cl + 1 ≤ room_1.cells ∧ sl + 6 ≤ room_1.slots) (kk : ∀ (σ' : gSt) (π' : Nat → Nat) (o' : Int64), Big (B + 1500) σ' π' → G p l e room_1 s m args below meth c 9 (cl + 1) (sl + 6) (lA s) Q E σ' π' o' 1381 [some (.ref b), some (.ref (E.2.1 9 0)), some (.ref (E.2.1 10 0)), some (.ref (E.2.1 11 0)), some (.int (nI i)), none, none, none, none] []) : G p l e room_1 s m args below meth c 9 cl sl (lA s) Q E σ π o 348 [some (.ref b), some (.ref (E.2.1 9 0)), some (.ref (E.2.1 10 0)), some (.ref (E.2.1 11 0)), some (.int (nI i)), none, none, none, none] [] := by
  have hbA : ¬ lA s b := Nat.not_le.mpr hbl
  obtain ⟨r, σ1, π1, o1, bb, d1, hC, hM, h0, ho, hB'⟩ := st_shut l hst (E := E) (o := o) (x := xs (nI (i + 1)).toNatClampNeg) hB h
  rw [gT_eta] at hC
  have C' := C.wide hR.1 hR.2
  refine G.aldn1 C dL_law_348 ?_
  refine G.aldn0 C dL_law_349 ?_
  refine G.ild4 C dL_law_350 ?_
  refine G.iconst C 1 dL_law_352 (by decide) ?_
  refine G.iadd C dL_law_353 ?_
  refine G.topI (nI (i + 1)) (nI_add i 1) ?_
  refine G.sld C hXs hbl hbA (show vp_in (nI (i + 1)) L from vp_in_nI (by omega) (by omega)) dL_law_354 ?_
  refine G.aldn3 C dL_law_355 ?_
  refine G.callH3 C hX hY hC (vx_cwSW 3 C.1.2.2.2.2 gL_law_L_shut rfl rfl rfl (by decide +kernel) ⟨(Nat.le_of_ble_eq_true rfl), (Nat.le_of_ble_eq_true rfl)⟩) (Nat.le_of_ble_eq_true rfl) dL_law_356 hR ?_
  refine G.ist5 C' dL_law_359 (by omega) rfl ?_
  refine G.aldn2 C' dL_law_361 ?_
  refine G.aldn0 C' dL_law_362 ?_
  refine G.ild4 C' dL_law_363 ?_
  refine G.iconst C' 1 dL_law_365 (by decide) ?_
  refine G.iadd C' dL_law_366 ?_
  refine G.topI (nI (i + 1)) (nI_add i 1) ?_
  refine G.sld C' hXs hbl hbA (show vp_in (nI (i + 1)) L from vp_in_nI (by omega) (by omega)) dL_law_367 ?_
  refine G.callVI1 C' hM (cwV 1 C.1.2.2.2.2 gL_law_X4_shut rfl rfl rfl (by decide +kernel) ⟨(Nat.le_of_ble_eq_true rfl), (Nat.le_of_ble_eq_true rfl)⟩) (rfl : gO 10 0 = some 4) rfl (Nat.le_of_ble_eq_true rfl) dL_law_368 ?_
  refine G.ist6 C' dL_law_371 (by omega) rfl ?_
  refine G.aldn2 C' dL_law_373 ?_
  refine G.callVI0 C' (k_X4_thrown l (d := d1)) (cwV 0 C.1.2.2.2.2 gL_law_X4_thrown rfl rfl rfl (by decide +kernel) ⟨(Nat.le_of_ble_eq_true rfl), (Nat.le_of_ble_eq_true rfl)⟩) (rfl : gO 10 0 = some 4) rfl (Nat.le_of_ble_eq_true rfl) dL_law_374 ?_
  refine G.ild5 C' dL_law_377 ?_
  refine G.icmp_eq C' 384 dL_law_379 (by decide) (fun _ => ?_) (fun hc => absurd h0 hc)
  refine G.ild5 C' dL_law_384 ?_
  refine G.if_ne C' 401 dL_law_386 (by decide) (fun _ => ?_) (fun hr0 => ?_)
  · refine G.goto C' 1381 dL_law_401 (by decide) ?_
    exact G.back (kk _ _ _ hB') rfl ⟨rfl, rfl, rfl, rfl, rfl, trivial⟩
  · have ho' := ho hr0
    refine G.aldn3 C' dL_law_389 ?_
    refine G.iconst C' 0 dL_law_390 (by decide) ?_
    refine G.laldO C' dL_law_391 ?_
    refine G.ild6 C' dL_law_392 ?_
    refine G.i2l C' dL_law_394 ?_
    refine G.lcmp C' dL_law_395 ?_
    refine G.topI 0 (by rw [ho']; exact lg_cmp_self _) ?_
    refine G.if_eq C' 401 dL_law_396 (by decide) (fun _ => ?_) (fun hc => absurd rfl hc)
    refine G.goto C' 1381 dL_law_401 (by decide) ?_
    exact G.back (kk _ _ _ hB') rfl ⟨rfl, rfl, rfl, rfl, rfl, trivial⟩
set_option maxRecDepth 100000 in
set_option maxHeartbeats 4000000 in
theorem law_open {p : Program} {l : Launch} {e : Env} {s : State} {m : MethodId} {args : Array Value} {below : List Frame} {meth : Method} {c : Code} {Q : State → Prop} {E : gEn} {B : Nat} {σ : gSt} {π : Nat → Nat} {o : Int64} {b L i cl sl : Nat} {xs : Nat → Int32} (hst : l.stackTraces = false) (C : gCx p s m c cL_law 9 RL wsL_law args E (lA s) room_1 cl sl) (hX : gX E s) (hY : gY s) (hXs : va_X b L xs s s.heap) (hbl : b < s.heap.size) (hi : i + 4 ≤ L) (hL : L ≤ 2048) (hB : B < 2 ^ 29) (h : Big B σ π) (hR : cl + 1 ≤ room_1.cells ∧ sl + 6 ≤ room_1.slots) (kk : ∀ (σ' : gSt) (π' : Nat → Nat) (o' : Int64), Big (B + 1500) σ' π' → G p l e room_1 s m args below meth c 9 (cl + 1) (sl + 6) (lA s) Q E σ' π' o' 1381 [some (.ref b), some (.ref (E.2.1 9 0)), some (.ref (E.2.1 10 0)), some (.ref (E.2.1 11 0)), some (.int (nI i)), none, none, none, none] []) : G p l e room_1 s m args below meth c 9 cl sl (lA s) Q E σ π o 404 [some (.ref b), some (.ref (E.2.1 9 0)), some (.ref (E.2.1 10 0)), some (.ref (E.2.1 11 0)), some (.int (nI i)), none, none, none, none] [] := by
  have hbA : ¬ lA s b := Nat.not_le.mpr hbl
  obtain ⟨r, σ1, π1, o1, bb, d1, hC, hM, h0, ho, hB'⟩ := st_open l hst (E := E) (o := o) (x := xs (nI (i + 1)).toNatClampNeg) hB h
  rw [gT_eta] at hC
  have C' := C.wide hR.1 hR.2
  refine G.aldn1 C dL_law_404 ?_
  refine G.aldn0 C dL_law_405 ?_
  refine G.ild4 C dL_law_406 ?_
  refine G.iconst C 1 dL_law_408 (by decide) ?_
  refine G.iadd C dL_law_409 ?_
  refine G.topI (nI (i + 1)) (nI_add i 1) ?_
  refine G.sld C hXs hbl hbA (show vp_in (nI (i + 1)) L from vp_in_nI (by omega) (by omega)) dL_law_410 ?_
  refine G.aldn3 C dL_law_411 ?_
  refine G.callH3 C hX hY hC (vx_cwSW 3 C.1.2.2.2.2 gL_law_L_open rfl rfl rfl (by decide +kernel) ⟨(Nat.le_of_ble_eq_true rfl), (Nat.le_of_ble_eq_true rfl)⟩) (Nat.le_of_ble_eq_true rfl) dL_law_412 hR ?_
  refine G.ist5 C' dL_law_415 (by omega) rfl ?_
  refine G.aldn2 C' dL_law_417 ?_
  refine G.aldn0 C' dL_law_418 ?_
  refine G.ild4 C' dL_law_419 ?_
  refine G.iconst C' 1 dL_law_421 (by decide) ?_
  refine G.iadd C' dL_law_422 ?_
  refine G.topI (nI (i + 1)) (nI_add i 1) ?_
  refine G.sld C' hXs hbl hbA (show vp_in (nI (i + 1)) L from vp_in_nI (by omega) (by omega)) dL_law_423 ?_
  refine G.callVI1 C' hM (cwV 1 C.1.2.2.2.2 gL_law_X4_open rfl rfl rfl (by decide +kernel) ⟨(Nat.le_of_ble_eq_true rfl), (Nat.le_of_ble_eq_true rfl)⟩) (rfl : gO 10 0 = some 4) rfl (Nat.le_of_ble_eq_true rfl) dL_law_424 ?_
  refine G.ist6 C' dL_law_427 (by omega) rfl ?_
  refine G.aldn2 C' dL_law_429 ?_
  refine G.callVI0 C' (k_X4_thrown l (d := d1)) (cwV 0 C.1.2.2.2.2 gL_law_X4_thrown rfl rfl rfl (by decide +kernel) ⟨(Nat.le_of_ble_eq_true rfl), (Nat.le_of_ble_eq_true rfl)⟩) (rfl : gO 10 0 = some 4) rfl (Nat.le_of_ble_eq_true rfl) dL_law_430 ?_
  refine G.ild5 C' dL_law_433 ?_
  refine G.icmp_eq C' 440 dL_law_435 (by decide) (fun _ => ?_) (fun hc => absurd h0 hc)
  refine G.ild5 C' dL_law_440 ?_
  refine G.if_ne C' 457 dL_law_442 (by decide) (fun _ => ?_) (fun hr0 => ?_)
  · refine G.goto C' 1381 dL_law_457 (by decide) ?_
    exact G.back (kk _ _ _ hB') rfl ⟨rfl, rfl, rfl, rfl, rfl, trivial⟩
  · have ho' := ho hr0
    refine G.aldn3 C' dL_law_445 ?_
    refine G.iconst C' 0 dL_law_446 (by decide) ?_
    refine G.laldO C' dL_law_447 ?_
    refine G.ild6 C' dL_law_448 ?_
    refine G.i2l C' dL_law_450 ?_
    refine G.lcmp C' dL_law_451 ?_
    refine G.topI 0 (by rw [ho']; exact lg_cmp_self _) ?_
    refine G.if_eq C' 457 dL_law_452 (by decide) (fun _ => ?_) (fun hc => absurd rfl hc)
    refine G.goto C' 1381 dL_law_457 (by decide) ?_
    exact G.back (kk _ _ _ hB') rfl ⟨rfl, rfl, rfl, rfl, rfl, trivial⟩
set_option maxRecDepth 100000 in
set_option maxHeartbeats 4000000 in
theorem law_set {p : Program} {l : Launch} {e : Env} {s : State} {m : MethodId} {args : Array Value} {below : List Frame} {meth : Method} {c : Code} {Q : State → Prop} {E : gEn} {B : Nat} {σ : gSt} {π : Nat → Nat} {o : Int64} {b L i cl sl : Nat} {xs : Nat → Int32} (hst : l.stackTraces = false) (C : gCx p s m c cL_law 9 RL wsL_law args E (lA s) room_1 cl sl) (hX : gX E s) (hY : gY s) (hXs : va_X b L xs s s.heap) (hbl : b < s.heap.size) (hi : i + 4 ≤ L) (hL : L ≤ 2048) (hB : B < 2 ^ 29) (h : Big B σ π) (hR : cl + 1 ≤ room_1.cells ∧ sl + 6 ≤ room_1.slots) (kk : ∀ (σ' : gSt) (π' : Nat → Nat) (o' : Int64), Big (B + 1500) σ' π' → G p l e room_1 s m args below meth c 9 (cl + 1) (sl + 6) (lA s) Q E σ' π' o' 1381 [some (.ref b), some (.ref (E.2.1 9 0)), some (.ref (E.2.1 10 0)), some (.ref (E.2.1 11 0)), some (.int (nI i)), none, none, none, none] []) : G p l e room_1 s m args below meth c 9 cl sl (lA s) Q E σ π o 460 [some (.ref b), some (.ref (E.2.1 9 0)), some (.ref (E.2.1 10 0)), some (.ref (E.2.1 11 0)), some (.int (nI i)), none, none, none, none] [] := by
  have hbA : ¬ lA s b := Nat.not_le.mpr hbl
  obtain ⟨r, σ1, π1, o1, bb, d1, hC, hM, h0, ho, hB'⟩ := st_set l hst (E := E) (o := o) (x := xs (nI (i + 1)).toNatClampNeg) (y := xs (nI (i + 2)).toNatClampNeg) hB h
  rw [gT_eta] at hC
  have C' := C.wide hR.1 hR.2
  refine G.aldn1 C dL_law_460 ?_
  refine G.aldn0 C dL_law_461 ?_
  refine G.ild4 C dL_law_462 ?_
  refine G.iconst C 1 dL_law_464 (by decide) ?_
  refine G.iadd C dL_law_465 ?_
  refine G.topI (nI (i + 1)) (nI_add i 1) ?_
  refine G.sld C hXs hbl hbA (show vp_in (nI (i + 1)) L from vp_in_nI (by omega) (by omega)) dL_law_466 ?_
  refine G.aldn0 C dL_law_467 ?_
  refine G.ild4 C dL_law_468 ?_
  refine G.iconst C 2 dL_law_470 (by decide) ?_
  refine G.iadd C dL_law_471 ?_
  refine G.topI (nI (i + 2)) (nI_add i 2) ?_
  refine G.sld C hXs hbl hbA (show vp_in (nI (i + 2)) L from vp_in_nI (by omega) (by omega)) dL_law_472 ?_
  refine G.aldn3 C dL_law_473 ?_
  refine G.callH4 C hX hY hC (vx_cwSW 4 C.1.2.2.2.2 gL_law_L_set rfl rfl rfl (by decide +kernel) ⟨(Nat.le_of_ble_eq_true rfl), (Nat.le_of_ble_eq_true rfl)⟩) (Nat.le_of_ble_eq_true rfl) dL_law_474 hR ?_
  refine G.ist5 C' dL_law_477 (by omega) rfl ?_
  refine G.aldn2 C' dL_law_479 ?_
  refine G.aldn0 C' dL_law_480 ?_
  refine G.ild4 C' dL_law_481 ?_
  refine G.iconst C' 1 dL_law_483 (by decide) ?_
  refine G.iadd C' dL_law_484 ?_
  refine G.topI (nI (i + 1)) (nI_add i 1) ?_
  refine G.sld C' hXs hbl hbA (show vp_in (nI (i + 1)) L from vp_in_nI (by omega) (by omega)) dL_law_485 ?_
  refine G.aldn0 C' dL_law_486 ?_
  refine G.ild4 C' dL_law_487 ?_
  refine G.iconst C' 2 dL_law_489 (by decide) ?_
  refine G.iadd C' dL_law_490 ?_
  refine G.topI (nI (i + 2)) (nI_add i 2) ?_
  refine G.sld C' hXs hbl hbA (show vp_in (nI (i + 2)) L from vp_in_nI (by omega) (by omega)) dL_law_491 ?_
  refine G.callVI2 C' hM (cwV 2 C.1.2.2.2.2 gL_law_X4_set rfl rfl rfl (by decide +kernel) ⟨(Nat.le_of_ble_eq_true rfl), (Nat.le_of_ble_eq_true rfl)⟩) (rfl : gO 10 0 = some 4) rfl (Nat.le_of_ble_eq_true rfl) dL_law_492 ?_
  refine G.ist6 C' dL_law_495 (by omega) rfl ?_
  refine G.aldn2 C' dL_law_497 ?_
  refine G.callVI0 C' (k_X4_thrown l (d := d1)) (cwV 0 C.1.2.2.2.2 gL_law_X4_thrown rfl rfl rfl (by decide +kernel) ⟨(Nat.le_of_ble_eq_true rfl), (Nat.le_of_ble_eq_true rfl)⟩) (rfl : gO 10 0 = some 4) rfl (Nat.le_of_ble_eq_true rfl) dL_law_498 ?_
  refine G.ild5 C' dL_law_501 ?_
  refine G.icmp_eq C' 508 dL_law_503 (by decide) (fun _ => ?_) (fun hc => absurd h0 hc)
  refine G.ild5 C' dL_law_508 ?_
  refine G.if_ne C' 525 dL_law_510 (by decide) (fun _ => ?_) (fun hr0 => ?_)
  · refine G.goto C' 1381 dL_law_525 (by decide) ?_
    exact G.back (kk _ _ _ hB') rfl ⟨rfl, rfl, rfl, rfl, rfl, trivial⟩
  · have ho' := ho hr0
    refine G.aldn3 C' dL_law_513 ?_
    refine G.iconst C' 0 dL_law_514 (by decide) ?_
    refine G.laldO C' dL_law_515 ?_
    refine G.ild6 C' dL_law_516 ?_
    refine G.i2l C' dL_law_518 ?_
    refine G.lcmp C' dL_law_519 ?_
    refine G.topI 0 (by rw [ho']; exact lg_cmp_self _) ?_
    refine G.if_eq C' 525 dL_law_520 (by decide) (fun _ => ?_) (fun hc => absurd rfl hc)
    refine G.goto C' 1381 dL_law_525 (by decide) ?_
    exact G.back (kk _ _ _ hB') rfl ⟨rfl, rfl, rfl, rfl, rfl, trivial⟩
set_option maxRecDepth 100000 in
set_option maxHeartbeats 4000000 in
theorem law_home {p : Program} {l : Launch} {e : Env} {s : State} {m : MethodId} {args : Array Value} {below : List Frame} {meth : Method} {c : Code} {Q : State → Prop} {E : gEn} {B : Nat} {σ : gSt} {π : Nat → Nat} {o : Int64} {b L i cl sl : Nat} {xs : Nat → Int32} (hst : l.stackTraces = false) (C : gCx p s m c cL_law 9 RL wsL_law args E (lA s) room_1 cl sl) (hX : gX E s) (hY : gY s) (hXs : va_X b L xs s s.heap) (hbl : b < s.heap.size) (hi : i + 4 ≤ L) (hL : L ≤ 2048) (hB : B < 2 ^ 29) (h : Big B σ π) (hR : cl + 1 ≤ room_1.cells ∧ sl + 6 ≤ room_1.slots) (kk : ∀ (σ' : gSt) (π' : Nat → Nat) (o' : Int64), Big (B + 1500) σ' π' → G p l e room_1 s m args below meth c 9 (cl + 1) (sl + 6) (lA s) Q E σ' π' o' 1381 [some (.ref b), some (.ref (E.2.1 9 0)), some (.ref (E.2.1 10 0)), some (.ref (E.2.1 11 0)), some (.int (nI i)), none, none, none, none] []) : G p l e room_1 s m args below meth c 9 cl sl (lA s) Q E σ π o 528 [some (.ref b), some (.ref (E.2.1 9 0)), some (.ref (E.2.1 10 0)), some (.ref (E.2.1 11 0)), some (.int (nI i)), none, none, none, none] [] := by
  have hbA : ¬ lA s b := Nat.not_le.mpr hbl
  obtain ⟨r, σ1, π1, o1, bb, d1, hC, hM, h0, ho, hB'⟩ := st_home l hst (E := E) (o := o) (x := xs (nI (i + 1)).toNatClampNeg) (t := xs (nI (i + 2)).toNatClampNeg) hB h
  rw [gT_eta] at hC
  have C' := C.wide hR.1 hR.2
  refine G.aldn1 C dL_law_528 ?_
  refine G.aldn0 C dL_law_529 ?_
  refine G.ild4 C dL_law_530 ?_
  refine G.iconst C 1 dL_law_532 (by decide) ?_
  refine G.iadd C dL_law_533 ?_
  refine G.topI (nI (i + 1)) (nI_add i 1) ?_
  refine G.sld C hXs hbl hbA (show vp_in (nI (i + 1)) L from vp_in_nI (by omega) (by omega)) dL_law_534 ?_
  refine G.aldn0 C dL_law_535 ?_
  refine G.ild4 C dL_law_536 ?_
  refine G.iconst C 2 dL_law_538 (by decide) ?_
  refine G.iadd C dL_law_539 ?_
  refine G.topI (nI (i + 2)) (nI_add i 2) ?_
  refine G.sld C hXs hbl hbA (show vp_in (nI (i + 2)) L from vp_in_nI (by omega) (by omega)) dL_law_540 ?_
  refine G.aldn3 C dL_law_541 ?_
  refine G.callH4 C hX hY hC (vx_cwSW 4 C.1.2.2.2.2 gL_law_L_home rfl rfl rfl (by decide +kernel) ⟨(Nat.le_of_ble_eq_true rfl), (Nat.le_of_ble_eq_true rfl)⟩) (Nat.le_of_ble_eq_true rfl) dL_law_542 hR ?_
  refine G.ist5 C' dL_law_545 (by omega) rfl ?_
  refine G.aldn2 C' dL_law_547 ?_
  refine G.aldn0 C' dL_law_548 ?_
  refine G.ild4 C' dL_law_549 ?_
  refine G.iconst C' 1 dL_law_551 (by decide) ?_
  refine G.iadd C' dL_law_552 ?_
  refine G.topI (nI (i + 1)) (nI_add i 1) ?_
  refine G.sld C' hXs hbl hbA (show vp_in (nI (i + 1)) L from vp_in_nI (by omega) (by omega)) dL_law_553 ?_
  refine G.aldn0 C' dL_law_554 ?_
  refine G.ild4 C' dL_law_555 ?_
  refine G.iconst C' 2 dL_law_557 (by decide) ?_
  refine G.iadd C' dL_law_558 ?_
  refine G.topI (nI (i + 2)) (nI_add i 2) ?_
  refine G.sld C' hXs hbl hbA (show vp_in (nI (i + 2)) L from vp_in_nI (by omega) (by omega)) dL_law_559 ?_
  refine G.callVI2 C' hM (cwV 2 C.1.2.2.2.2 gL_law_X4_home rfl rfl rfl (by decide +kernel) ⟨(Nat.le_of_ble_eq_true rfl), (Nat.le_of_ble_eq_true rfl)⟩) (rfl : gO 10 0 = some 4) rfl (Nat.le_of_ble_eq_true rfl) dL_law_560 ?_
  refine G.ist6 C' dL_law_563 (by omega) rfl ?_
  refine G.aldn2 C' dL_law_565 ?_
  refine G.callVI0 C' (k_X4_thrown l (d := d1)) (cwV 0 C.1.2.2.2.2 gL_law_X4_thrown rfl rfl rfl (by decide +kernel) ⟨(Nat.le_of_ble_eq_true rfl), (Nat.le_of_ble_eq_true rfl)⟩) (rfl : gO 10 0 = some 4) rfl (Nat.le_of_ble_eq_true rfl) dL_law_566 ?_
  refine G.ild5 C' dL_law_569 ?_
  refine G.icmp_eq C' 576 dL_law_571 (by decide) (fun _ => ?_) (fun hc => absurd h0 hc)
  refine G.ild5 C' dL_law_576 ?_
  refine G.if_ne C' 593 dL_law_578 (by decide) (fun _ => ?_) (fun hr0 => ?_)
  · refine G.goto C' 1381 dL_law_593 (by decide) ?_
    exact G.back (kk _ _ _ hB') rfl ⟨rfl, rfl, rfl, rfl, rfl, trivial⟩
  · have ho' := ho hr0
    refine G.aldn3 C' dL_law_581 ?_
    refine G.iconst C' 0 dL_law_582 (by decide) ?_
    refine G.laldO C' dL_law_583 ?_
    refine G.ild6 C' dL_law_584 ?_
    refine G.i2l C' dL_law_586 ?_
    refine G.lcmp C' dL_law_587 ?_
    refine G.topI 0 (by rw [ho']; exact lg_cmp_self _) ?_
    refine G.if_eq C' 593 dL_law_588 (by decide) (fun _ => ?_) (fun hc => absurd rfl hc)
    refine G.goto C' 1381 dL_law_593 (by decide) ?_
    exact G.back (kk _ _ _ hB') rfl ⟨rfl, rfl, rfl, rfl, rfl, trivial⟩
set_option maxRecDepth 100000 in
set_option maxHeartbeats 4000000 in
theorem law_dawn {p : Program} {l : Launch} {e : Env} {s : State} {m : MethodId} {args : Array Value} {below : List Frame} {meth : Method} {c : Code} {Q : State → Prop} {E : gEn} {B : Nat} {σ : gSt} {π : Nat → Nat} {o : Int64} {b L i cl sl : Nat} {xs : Nat → Int32} (hst : l.stackTraces = false) (C : gCx p s m c cL_law 9 RL wsL_law args E (lA s) room_1 cl sl) (hX : gX E s) (hY : gY s) (hXs : va_X b L xs s s.heap) (hbl : b < s.heap.size) (hi : i + 4 ≤ L) (hL : L ≤ 2048) (hB : B < 2 ^ 29) (h : Big B σ π) (hR : cl + 1 ≤ room_1.cells ∧ sl + 6 ≤ room_1.slots) (kk : ∀ (σ' : gSt) (π' : Nat → Nat) (o' : Int64), Big (B + 1500) σ' π' → G p l e room_1 s m args below meth c 9 (cl + 1) (sl + 6) (lA s) Q E σ' π' o' 1381 [some (.ref b), some (.ref (E.2.1 9 0)), some (.ref (E.2.1 10 0)), some (.ref (E.2.1 11 0)), some (.int (nI i)), none, none, none, none] []) : G p l e room_1 s m args below meth c 9 cl sl (lA s) Q E σ π o 596 [some (.ref b), some (.ref (E.2.1 9 0)), some (.ref (E.2.1 10 0)), some (.ref (E.2.1 11 0)), some (.int (nI i)), none, none, none, none] [] := by
  have hbA : ¬ lA s b := Nat.not_le.mpr hbl
  obtain ⟨a, σ1, π1, d1, hC, hM, hB'⟩ := sd_dawn l (E := E) (o := o) hB h
  rw [gT_eta] at hC
  have C' := C.wide hR.1 hR.2
  refine G.wide (cl' := cl + 1) (sl' := sl + 6) (by omega) (by omega) ?_
  refine G.aldn1 C' dL_law_596 ?_
  refine G.callVI0 C' hC (cwV 0 C.1.2.2.2.2 gL_law_X3_dawn rfl rfl rfl (by decide +kernel) ⟨(Nat.le_of_ble_eq_true rfl), (Nat.le_of_ble_eq_true rfl)⟩) (rfl : gO 9 0 = some 3) rfl (Nat.le_of_ble_eq_true rfl) dL_law_597 ?_
  refine G.aldn2 C' dL_law_600 ?_
  refine G.callVI0 C' hM (cwV 0 C.1.2.2.2.2 gL_law_X4_dawn rfl rfl rfl (by decide +kernel) ⟨(Nat.le_of_ble_eq_true rfl), (Nat.le_of_ble_eq_true rfl)⟩) (rfl : gO 10 0 = some 4) rfl (Nat.le_of_ble_eq_true rfl) dL_law_601 ?_
  refine G.icmp_eq C' 1381 dL_law_604 (by decide) (fun _ => ?_) (fun hc => absurd rfl hc)
  exact G.back (kk _ _ _ hB') rfl ⟨rfl, rfl, rfl, rfl, rfl, trivial⟩
set_option maxRecDepth 100000 in
set_option maxHeartbeats 4000000 in
theorem law_append {p : Program} {l : Launch} {e : Env} {s : State} {m : MethodId} {args : Array Value} {below : List Frame} {meth : Method} {c : Code} {Q : State → Prop} {E : gEn} {B : Nat} {σ : gSt} {π : Nat → Nat} {o : Int64} {b L i cl sl : Nat} {xs : Nat → Int32} (hst : l.stackTraces = false) (C : gCx p s m c cL_law 9 RL wsL_law args E (lA s) room_1 cl sl) (hX : gX E s) (hY : gY s) (hXs : va_X b L xs s s.heap) (hbl : b < s.heap.size) (hi : i + 4 ≤ L) (hL : L ≤ 2048) (hB : B < 2 ^ 29) (h : Big B σ π) (hR : cl + 1 ≤ room_1.cells ∧ sl + 6 ≤ room_1.slots) (kk : ∀ (σ' : gSt) (π' : Nat → Nat) (o' : Int64), Big (B + 1500) σ' π' → G p l e room_1 s m args below meth c 9 (cl + 1) (sl + 6) (lA s) Q E σ' π' o' 1381 [some (.ref b), some (.ref (E.2.1 9 0)), some (.ref (E.2.1 10 0)), some (.ref (E.2.1 11 0)), some (.int (nI i)), none, none, none, none] []) : G p l e room_1 s m args below meth c 9 cl sl (lA s) Q E σ π o 609 [some (.ref b), some (.ref (E.2.1 9 0)), some (.ref (E.2.1 10 0)), some (.ref (E.2.1 11 0)), some (.int (nI i)), none, none, none, none] [] := by
  have hbA : ¬ lA s b := Nat.not_le.mpr hbl
  obtain ⟨r, σ1, π1, o1, bb, d1, hC, hM, h0, ho, hB'⟩ := st_append l hst (E := E) (o := o) (x := xs (nI (i + 1)).toNatClampNeg) hB h
  rw [gT_eta] at hC
  have C' := C.wide hR.1 hR.2
  refine G.aldn1 C dL_law_609 ?_
  refine G.aldn0 C dL_law_610 ?_
  refine G.ild4 C dL_law_611 ?_
  refine G.iconst C 1 dL_law_613 (by decide) ?_
  refine G.iadd C dL_law_614 ?_
  refine G.topI (nI (i + 1)) (nI_add i 1) ?_
  refine G.sld C hXs hbl hbA (show vp_in (nI (i + 1)) L from vp_in_nI (by omega) (by omega)) dL_law_615 ?_
  refine G.aldn3 C dL_law_616 ?_
  refine G.callH3 C hX hY hC (vx_cwSW 3 C.1.2.2.2.2 gL_law_L_append rfl rfl rfl (by decide +kernel) ⟨(Nat.le_of_ble_eq_true rfl), (Nat.le_of_ble_eq_true rfl)⟩) (Nat.le_of_ble_eq_true rfl) dL_law_617 hR ?_
  refine G.ist5 C' dL_law_620 (by omega) rfl ?_
  refine G.aldn2 C' dL_law_622 ?_
  refine G.aldn0 C' dL_law_623 ?_
  refine G.ild4 C' dL_law_624 ?_
  refine G.iconst C' 1 dL_law_626 (by decide) ?_
  refine G.iadd C' dL_law_627 ?_
  refine G.topI (nI (i + 1)) (nI_add i 1) ?_
  refine G.sld C' hXs hbl hbA (show vp_in (nI (i + 1)) L from vp_in_nI (by omega) (by omega)) dL_law_628 ?_
  refine G.callVI1 C' hM (cwV 1 C.1.2.2.2.2 gL_law_X4_append rfl rfl rfl (by decide +kernel) ⟨(Nat.le_of_ble_eq_true rfl), (Nat.le_of_ble_eq_true rfl)⟩) (rfl : gO 10 0 = some 4) rfl (Nat.le_of_ble_eq_true rfl) dL_law_629 ?_
  refine G.ist6 C' dL_law_632 (by omega) rfl ?_
  refine G.aldn2 C' dL_law_634 ?_
  refine G.callVI0 C' (k_X4_thrown l (d := d1)) (cwV 0 C.1.2.2.2.2 gL_law_X4_thrown rfl rfl rfl (by decide +kernel) ⟨(Nat.le_of_ble_eq_true rfl), (Nat.le_of_ble_eq_true rfl)⟩) (rfl : gO 10 0 = some 4) rfl (Nat.le_of_ble_eq_true rfl) dL_law_635 ?_
  refine G.ild5 C' dL_law_638 ?_
  refine G.icmp_eq C' 645 dL_law_640 (by decide) (fun _ => ?_) (fun hc => absurd h0 hc)
  refine G.ild5 C' dL_law_645 ?_
  refine G.if_ne C' 662 dL_law_647 (by decide) (fun _ => ?_) (fun hr0 => ?_)
  · refine G.goto C' 1381 dL_law_662 (by decide) ?_
    exact G.back (kk _ _ _ hB') rfl ⟨rfl, rfl, rfl, rfl, rfl, trivial⟩
  · have ho' := ho hr0
    refine G.aldn3 C' dL_law_650 ?_
    refine G.iconst C' 0 dL_law_651 (by decide) ?_
    refine G.laldO C' dL_law_652 ?_
    refine G.ild6 C' dL_law_653 ?_
    refine G.i2l C' dL_law_655 ?_
    refine G.lcmp C' dL_law_656 ?_
    refine G.topI 0 (by rw [ho']; exact lg_cmp_self _) ?_
    refine G.if_eq C' 662 dL_law_657 (by decide) (fun _ => ?_) (fun hc => absurd rfl hc)
    refine G.goto C' 1381 dL_law_662 (by decide) ?_
    exact G.back (kk _ _ _ hB') rfl ⟨rfl, rfl, rfl, rfl, rfl, trivial⟩
set_option maxRecDepth 100000 in
set_option maxHeartbeats 4000000 in
theorem law_clearBuffer {p : Program} {l : Launch} {e : Env} {s : State} {m : MethodId} {args : Array Value} {below : List Frame} {meth : Method} {c : Code} {Q : State → Prop} {E : gEn} {B : Nat} {σ : gSt} {π : Nat → Nat} {o : Int64} {b L i cl sl : Nat} {xs : Nat → Int32} (hst : l.stackTraces = false) (C : gCx p s m c cL_law 9 RL wsL_law args E (lA s) room_1 cl sl) (hX : gX E s) (hY : gY s) (hXs : va_X b L xs s s.heap) (hbl : b < s.heap.size) (hi : i + 4 ≤ L) (hL : L ≤ 2048) (hB : B < 2 ^ 29) (h : Big B σ π) (hR : cl + 1 ≤ room_1.cells ∧ sl + 6 ≤ room_1.slots) (kk : ∀ (σ' : gSt) (π' : Nat → Nat) (o' : Int64), Big (B + 1500) σ' π' → G p l e room_1 s m args below meth c 9 (cl + 1) (sl + 6) (lA s) Q E σ' π' o' 1381 [some (.ref b), some (.ref (E.2.1 9 0)), some (.ref (E.2.1 10 0)), some (.ref (E.2.1 11 0)), some (.int (nI i)), none, none, none, none] []) : G p l e room_1 s m args below meth c 9 cl sl (lA s) Q E σ π o 665 [some (.ref b), some (.ref (E.2.1 9 0)), some (.ref (E.2.1 10 0)), some (.ref (E.2.1 11 0)), some (.int (nI i)), none, none, none, none] [] := by
  have hbA : ¬ lA s b := Nat.not_le.mpr hbl
  obtain ⟨a, σ1, π1, d1, hC, hM, hB'⟩ := sd_clearBuffer l (E := E) (o := o) hB h
  rw [gT_eta] at hC
  have C' := C.wide hR.1 hR.2
  refine G.wide (cl' := cl + 1) (sl' := sl + 6) (by omega) (by omega) ?_
  refine G.aldn1 C' dL_law_665 ?_
  refine G.callVI0 C' hC (cwV 0 C.1.2.2.2.2 gL_law_X3_clearBuffer rfl rfl rfl (by decide +kernel) ⟨(Nat.le_of_ble_eq_true rfl), (Nat.le_of_ble_eq_true rfl)⟩) (rfl : gO 9 0 = some 3) rfl (Nat.le_of_ble_eq_true rfl) dL_law_666 ?_
  refine G.aldn2 C' dL_law_669 ?_
  refine G.callVI0 C' hM (cwV 0 C.1.2.2.2.2 gL_law_X4_clearBuffer rfl rfl rfl (by decide +kernel) ⟨(Nat.le_of_ble_eq_true rfl), (Nat.le_of_ble_eq_true rfl)⟩) (rfl : gO 10 0 = some 4) rfl (Nat.le_of_ble_eq_true rfl) dL_law_670 ?_
  refine G.icmp_eq C' 1381 dL_law_673 (by decide) (fun _ => ?_) (fun hc => absurd rfl hc)
  exact G.back (kk _ _ _ hB') rfl ⟨rfl, rfl, rfl, rfl, rfl, trivial⟩
set_option maxRecDepth 100000 in
set_option maxHeartbeats 4000000 in
theorem law_firstError {p : Program} {l : Launch} {e : Env} {s : State} {m : MethodId} {args : Array Value} {below : List Frame} {meth : Method} {c : Code} {Q : State → Prop} {E : gEn} {B : Nat} {σ : gSt} {π : Nat → Nat} {o : Int64} {b L i cl sl : Nat} {xs : Nat → Int32} (hst : l.stackTraces = false) (C : gCx p s m c cL_law 9 RL wsL_law args E (lA s) room_1 cl sl) (hX : gX E s) (hY : gY s) (hXs : va_X b L xs s s.heap) (hbl : b < s.heap.size) (hi : i + 4 ≤ L) (hL : L ≤ 2048) (hB : B < 2 ^ 29) (h : Big B σ π) (hR : cl + 1 ≤ room_1.cells ∧ sl + 6 ≤ room_1.slots) (kk : ∀ (σ' : gSt) (π' : Nat → Nat) (o' : Int64), Big (B + 1500) σ' π' → G p l e room_1 s m args below meth c 9 (cl + 1) (sl + 6) (lA s) Q E σ' π' o' 1381 [some (.ref b), some (.ref (E.2.1 9 0)), some (.ref (E.2.1 10 0)), some (.ref (E.2.1 11 0)), some (.int (nI i)), none, none, none, none] []) : G p l e room_1 s m args below meth c 9 cl sl (lA s) Q E σ π o 678 [some (.ref b), some (.ref (E.2.1 9 0)), some (.ref (E.2.1 10 0)), some (.ref (E.2.1 11 0)), some (.int (nI i)), none, none, none, none] [] := by
  have hbA : ¬ lA s b := Nat.not_le.mpr hbl
  obtain ⟨a, σ1, π1, d1, hC, hM, hB'⟩ := sd_firstError l (E := E) (o := o) hB h
  rw [gT_eta] at hC
  have C' := C.wide hR.1 hR.2
  refine G.wide (cl' := cl + 1) (sl' := sl + 6) (by omega) (by omega) ?_
  refine G.aldn1 C' dL_law_678 ?_
  refine G.callVI0 C' hC (cwV 0 C.1.2.2.2.2 gL_law_X3_firstError rfl rfl rfl (by decide +kernel) ⟨(Nat.le_of_ble_eq_true rfl), (Nat.le_of_ble_eq_true rfl)⟩) (rfl : gO 9 0 = some 3) rfl (Nat.le_of_ble_eq_true rfl) dL_law_679 ?_
  refine G.aldn2 C' dL_law_682 ?_
  refine G.callVI0 C' hM (cwV 0 C.1.2.2.2.2 gL_law_X4_firstError rfl rfl rfl (by decide +kernel) ⟨(Nat.le_of_ble_eq_true rfl), (Nat.le_of_ble_eq_true rfl)⟩) (rfl : gO 10 0 = some 4) rfl (Nat.le_of_ble_eq_true rfl) dL_law_683 ?_
  refine G.icmp_eq C' 1381 dL_law_686 (by decide) (fun _ => ?_) (fun hc => absurd rfl hc)
  exact G.back (kk _ _ _ hB') rfl ⟨rfl, rfl, rfl, rfl, rfl, trivial⟩
set_option maxRecDepth 100000 in
set_option maxHeartbeats 4000000 in
theorem law_pass {p : Program} {l : Launch} {e : Env} {s : State} {m : MethodId} {args : Array Value} {below : List Frame} {meth : Method} {c : Code} {Q : State → Prop} {E : gEn} {B : Nat} {σ : gSt} {π : Nat → Nat} {o : Int64} {b L i cl sl : Nat} {xs : Nat → Int32} (hst : l.stackTraces = false) (C : gCx p s m c cL_law 9 RL wsL_law args E (lA s) room_1 cl sl) (hX : gX E s) (hY : gY s) (hXs : va_X b L xs s s.heap) (hbl : b < s.heap.size) (hi : i + 4 ≤ L) (hL : L ≤ 2048) (hB : B < 2 ^ 29) (h : Big B σ π) (hR : cl + 1 ≤ room_1.cells ∧ sl + 6 ≤ room_1.slots) (kk : ∀ (σ' : gSt) (π' : Nat → Nat) (o' : Int64), Big (B + 1500) σ' π' → G p l e room_1 s m args below meth c 9 (cl + 1) (sl + 6) (lA s) Q E σ' π' o' 1381 [some (.ref b), some (.ref (E.2.1 9 0)), some (.ref (E.2.1 10 0)), some (.ref (E.2.1 11 0)), some (.int (nI i)), none, none, none, none] []) : G p l e room_1 s m args below meth c 9 cl sl (lA s) Q E σ π o 691 [some (.ref b), some (.ref (E.2.1 9 0)), some (.ref (E.2.1 10 0)), some (.ref (E.2.1 11 0)), some (.int (nI i)), none, none, none, none] [] := by
  have hbA : ¬ lA s b := Nat.not_le.mpr hbl
  obtain ⟨r, σ1, π1, o1, bb, d1, hC, hM, h0, ho, hB'⟩ := st_pass l hst (E := E) (o := o)  hB h
  rw [gT_eta] at hC
  have C' := C.wide hR.1 hR.2
  refine G.aldn1 C dL_law_691 ?_
  refine G.aldn3 C dL_law_692 ?_
  refine G.callH2 C hX hY hC (vx_cwSW 2 C.1.2.2.2.2 gL_law_L_pass rfl rfl rfl (by decide +kernel) ⟨(Nat.le_of_ble_eq_true rfl), (Nat.le_of_ble_eq_true rfl)⟩) (Nat.le_of_ble_eq_true rfl) dL_law_693 hR ?_
  refine G.ist5 C' dL_law_696 (by omega) rfl ?_
  refine G.aldn2 C' dL_law_698 ?_
  refine G.callVI0 C' hM (cwV 0 C.1.2.2.2.2 gL_law_X4_pass rfl rfl rfl (by decide +kernel) ⟨(Nat.le_of_ble_eq_true rfl), (Nat.le_of_ble_eq_true rfl)⟩) (rfl : gO 10 0 = some 4) rfl (Nat.le_of_ble_eq_true rfl) dL_law_699 ?_
  refine G.ist6 C' dL_law_702 (by omega) rfl ?_
  refine G.aldn2 C' dL_law_704 ?_
  refine G.callVI0 C' (k_X4_thrown l (d := d1)) (cwV 0 C.1.2.2.2.2 gL_law_X4_thrown rfl rfl rfl (by decide +kernel) ⟨(Nat.le_of_ble_eq_true rfl), (Nat.le_of_ble_eq_true rfl)⟩) (rfl : gO 10 0 = some 4) rfl (Nat.le_of_ble_eq_true rfl) dL_law_705 ?_
  refine G.ild5 C' dL_law_708 ?_
  refine G.icmp_eq C' 715 dL_law_710 (by decide) (fun _ => ?_) (fun hc => absurd h0 hc)
  refine G.ild5 C' dL_law_715 ?_
  refine G.if_ne C' 732 dL_law_717 (by decide) (fun _ => ?_) (fun hr0 => ?_)
  · refine G.goto C' 1381 dL_law_732 (by decide) ?_
    exact G.back (kk _ _ _ hB') rfl ⟨rfl, rfl, rfl, rfl, rfl, trivial⟩
  · have ho' := ho hr0
    refine G.aldn3 C' dL_law_720 ?_
    refine G.iconst C' 0 dL_law_721 (by decide) ?_
    refine G.laldO C' dL_law_722 ?_
    refine G.ild6 C' dL_law_723 ?_
    refine G.i2l C' dL_law_725 ?_
    refine G.lcmp C' dL_law_726 ?_
    refine G.topI 0 (by rw [ho']; exact lg_cmp_self _) ?_
    refine G.if_eq C' 732 dL_law_727 (by decide) (fun _ => ?_) (fun hc => absurd rfl hc)
    refine G.goto C' 1381 dL_law_732 (by decide) ?_
    exact G.back (kk _ _ _ hB') rfl ⟨rfl, rfl, rfl, rfl, rfl, trivial⟩
set_option maxRecDepth 100000 in
set_option maxHeartbeats 4000000 in
theorem law_stopped {p : Program} {l : Launch} {e : Env} {s : State} {m : MethodId} {args : Array Value} {below : List Frame} {meth : Method} {c : Code} {Q : State → Prop} {E : gEn} {B : Nat} {σ : gSt} {π : Nat → Nat} {o : Int64} {b L i cl sl : Nat} {xs : Nat → Int32} (hst : l.stackTraces = false) (C : gCx p s m c cL_law 9 RL wsL_law args E (lA s) room_1 cl sl) (hX : gX E s) (hY : gY s) (hXs : va_X b L xs s s.heap) (hbl : b < s.heap.size) (hi : i + 4 ≤ L) (hL : L ≤ 2048) (hB : B < 2 ^ 29) (h : Big B σ π) (hR : cl + 1 ≤ room_1.cells ∧ sl + 6 ≤ room_1.slots) (kk : ∀ (σ' : gSt) (π' : Nat → Nat) (o' : Int64), Big (B + 1500) σ' π' → G p l e room_1 s m args below meth c 9 (cl + 1) (sl + 6) (lA s) Q E σ' π' o' 1381 [some (.ref b), some (.ref (E.2.1 9 0)), some (.ref (E.2.1 10 0)), some (.ref (E.2.1 11 0)), some (.int (nI i)), none, none, none, none] []) : G p l e room_1 s m args below meth c 9 cl sl (lA s) Q E σ π o 735 [some (.ref b), some (.ref (E.2.1 9 0)), some (.ref (E.2.1 10 0)), some (.ref (E.2.1 11 0)), some (.int (nI i)), none, none, none, none] [] := by
  have hbA : ¬ lA s b := Nat.not_le.mpr hbl
  obtain ⟨r, σ1, π1, o1, bb, d1, hC, hM, h0, ho, hB'⟩ := st_stopped l hst (E := E) (o := o) (x := xs (nI (i + 1)).toNatClampNeg) hB h
  rw [gT_eta] at hC
  have C' := C.wide hR.1 hR.2
  refine G.aldn1 C dL_law_735 ?_
  refine G.aldn0 C dL_law_736 ?_
  refine G.ild4 C dL_law_737 ?_
  refine G.iconst C 1 dL_law_739 (by decide) ?_
  refine G.iadd C dL_law_740 ?_
  refine G.topI (nI (i + 1)) (nI_add i 1) ?_
  refine G.sld C hXs hbl hbA (show vp_in (nI (i + 1)) L from vp_in_nI (by omega) (by omega)) dL_law_741 ?_
  refine G.aldn3 C dL_law_742 ?_
  refine G.callH3 C hX hY hC (vx_cwSW 3 C.1.2.2.2.2 gL_law_L_stopped rfl rfl rfl (by decide +kernel) ⟨(Nat.le_of_ble_eq_true rfl), (Nat.le_of_ble_eq_true rfl)⟩) (Nat.le_of_ble_eq_true rfl) dL_law_743 hR ?_
  refine G.ist5 C' dL_law_746 (by omega) rfl ?_
  refine G.aldn2 C' dL_law_748 ?_
  refine G.aldn0 C' dL_law_749 ?_
  refine G.ild4 C' dL_law_750 ?_
  refine G.iconst C' 1 dL_law_752 (by decide) ?_
  refine G.iadd C' dL_law_753 ?_
  refine G.topI (nI (i + 1)) (nI_add i 1) ?_
  refine G.sld C' hXs hbl hbA (show vp_in (nI (i + 1)) L from vp_in_nI (by omega) (by omega)) dL_law_754 ?_
  refine G.callVI1 C' hM (cwV 1 C.1.2.2.2.2 gL_law_X4_stopped rfl rfl rfl (by decide +kernel) ⟨(Nat.le_of_ble_eq_true rfl), (Nat.le_of_ble_eq_true rfl)⟩) (rfl : gO 10 0 = some 4) rfl (Nat.le_of_ble_eq_true rfl) dL_law_755 ?_
  refine G.ist6 C' dL_law_758 (by omega) rfl ?_
  refine G.aldn2 C' dL_law_760 ?_
  refine G.callVI0 C' (k_X4_thrown l (d := d1)) (cwV 0 C.1.2.2.2.2 gL_law_X4_thrown rfl rfl rfl (by decide +kernel) ⟨(Nat.le_of_ble_eq_true rfl), (Nat.le_of_ble_eq_true rfl)⟩) (rfl : gO 10 0 = some 4) rfl (Nat.le_of_ble_eq_true rfl) dL_law_761 ?_
  refine G.ild5 C' dL_law_764 ?_
  refine G.icmp_eq C' 771 dL_law_766 (by decide) (fun _ => ?_) (fun hc => absurd h0 hc)
  refine G.ild5 C' dL_law_771 ?_
  refine G.if_ne C' 788 dL_law_773 (by decide) (fun _ => ?_) (fun hr0 => ?_)
  · refine G.goto C' 1381 dL_law_788 (by decide) ?_
    exact G.back (kk _ _ _ hB') rfl ⟨rfl, rfl, rfl, rfl, rfl, trivial⟩
  · have ho' := ho hr0
    refine G.aldn3 C' dL_law_776 ?_
    refine G.iconst C' 0 dL_law_777 (by decide) ?_
    refine G.laldO C' dL_law_778 ?_
    refine G.ild6 C' dL_law_779 ?_
    refine G.i2l C' dL_law_781 ?_
    refine G.lcmp C' dL_law_782 ?_
    refine G.topI 0 (by rw [ho']; exact lg_cmp_self _) ?_
    refine G.if_eq C' 788 dL_law_783 (by decide) (fun _ => ?_) (fun hc => absurd rfl hc)
    refine G.goto C' 1381 dL_law_788 (by decide) ?_
    exact G.back (kk _ _ _ hB') rfl ⟨rfl, rfl, rfl, rfl, rfl, trivial⟩
set_option maxRecDepth 100000 in
set_option maxHeartbeats 4000000 in
theorem law_undo {p : Program} {l : Launch} {e : Env} {s : State} {m : MethodId} {args : Array Value} {below : List Frame} {meth : Method} {c : Code} {Q : State → Prop} {E : gEn} {B : Nat} {σ : gSt} {π : Nat → Nat} {o : Int64} {b L i cl sl : Nat} {xs : Nat → Int32} (hst : l.stackTraces = false) (C : gCx p s m c cL_law 9 RL wsL_law args E (lA s) room_1 cl sl) (hX : gX E s) (hY : gY s) (hXs : va_X b L xs s s.heap) (hbl : b < s.heap.size) (hi : i + 4 ≤ L) (hL : L ≤ 2048) (hB : B < 2 ^ 29) (h : Big B σ π) (hR : cl + 1 ≤ room_1.cells ∧ sl + 6 ≤ room_1.slots) (kk : ∀ (σ' : gSt) (π' : Nat → Nat) (o' : Int64), Big (B + 1500) σ' π' → G p l e room_1 s m args below meth c 9 (cl + 1) (sl + 6) (lA s) Q E σ' π' o' 1381 [some (.ref b), some (.ref (E.2.1 9 0)), some (.ref (E.2.1 10 0)), some (.ref (E.2.1 11 0)), some (.int (nI i)), none, none, none, none] []) : G p l e room_1 s m args below meth c 9 cl sl (lA s) Q E σ π o 791 [some (.ref b), some (.ref (E.2.1 9 0)), some (.ref (E.2.1 10 0)), some (.ref (E.2.1 11 0)), some (.int (nI i)), none, none, none, none] [] := by
  have hbA : ¬ lA s b := Nat.not_le.mpr hbl
  obtain ⟨r, σ1, π1, o1, bb, d1, hC, hM, h0, ho, hB'⟩ := st_undo l hst (E := E) (o := o)  hB h
  rw [gT_eta] at hC
  have C' := C.wide hR.1 hR.2
  refine G.aldn1 C dL_law_791 ?_
  refine G.aldn3 C dL_law_792 ?_
  refine G.callH2 C hX hY hC (vx_cwSW 2 C.1.2.2.2.2 gL_law_L_undo rfl rfl rfl (by decide +kernel) ⟨(Nat.le_of_ble_eq_true rfl), (Nat.le_of_ble_eq_true rfl)⟩) (Nat.le_of_ble_eq_true rfl) dL_law_793 hR ?_
  refine G.ist5 C' dL_law_796 (by omega) rfl ?_
  refine G.aldn2 C' dL_law_798 ?_
  refine G.callVI0 C' hM (cwV 0 C.1.2.2.2.2 gL_law_X4_undo rfl rfl rfl (by decide +kernel) ⟨(Nat.le_of_ble_eq_true rfl), (Nat.le_of_ble_eq_true rfl)⟩) (rfl : gO 10 0 = some 4) rfl (Nat.le_of_ble_eq_true rfl) dL_law_799 ?_
  refine G.ist6 C' dL_law_802 (by omega) rfl ?_
  refine G.aldn2 C' dL_law_804 ?_
  refine G.callVI0 C' (k_X4_thrown l (d := d1)) (cwV 0 C.1.2.2.2.2 gL_law_X4_thrown rfl rfl rfl (by decide +kernel) ⟨(Nat.le_of_ble_eq_true rfl), (Nat.le_of_ble_eq_true rfl)⟩) (rfl : gO 10 0 = some 4) rfl (Nat.le_of_ble_eq_true rfl) dL_law_805 ?_
  refine G.ild5 C' dL_law_808 ?_
  refine G.icmp_eq C' 815 dL_law_810 (by decide) (fun _ => ?_) (fun hc => absurd h0 hc)
  refine G.ild5 C' dL_law_815 ?_
  refine G.if_ne C' 832 dL_law_817 (by decide) (fun _ => ?_) (fun hr0 => ?_)
  · refine G.goto C' 1381 dL_law_832 (by decide) ?_
    exact G.back (kk _ _ _ hB') rfl ⟨rfl, rfl, rfl, rfl, rfl, trivial⟩
  · have ho' := ho hr0
    refine G.aldn3 C' dL_law_820 ?_
    refine G.iconst C' 0 dL_law_821 (by decide) ?_
    refine G.laldO C' dL_law_822 ?_
    refine G.ild6 C' dL_law_823 ?_
    refine G.i2l C' dL_law_825 ?_
    refine G.lcmp C' dL_law_826 ?_
    refine G.topI 0 (by rw [ho']; exact lg_cmp_self _) ?_
    refine G.if_eq C' 832 dL_law_827 (by decide) (fun _ => ?_) (fun hc => absurd rfl hc)
    refine G.goto C' 1381 dL_law_832 (by decide) ?_
    exact G.back (kk _ _ _ hB') rfl ⟨rfl, rfl, rfl, rfl, rfl, trivial⟩
set_option maxRecDepth 100000 in
set_option maxHeartbeats 4000000 in
theorem law_keep {p : Program} {l : Launch} {e : Env} {s : State} {m : MethodId} {args : Array Value} {below : List Frame} {meth : Method} {c : Code} {Q : State → Prop} {E : gEn} {B : Nat} {σ : gSt} {π : Nat → Nat} {o : Int64} {b L i cl sl : Nat} {xs : Nat → Int32} (hst : l.stackTraces = false) (C : gCx p s m c cL_law 9 RL wsL_law args E (lA s) room_1 cl sl) (hX : gX E s) (hY : gY s) (hXs : va_X b L xs s s.heap) (hbl : b < s.heap.size) (hi : i + 4 ≤ L) (hL : L ≤ 2048) (hB : B < 2 ^ 29) (h : Big B σ π) (hR : cl + 1 ≤ room_1.cells ∧ sl + 6 ≤ room_1.slots) (kk : ∀ (σ' : gSt) (π' : Nat → Nat) (o' : Int64), Big (B + 1500) σ' π' → G p l e room_1 s m args below meth c 9 (cl + 1) (sl + 6) (lA s) Q E σ' π' o' 1381 [some (.ref b), some (.ref (E.2.1 9 0)), some (.ref (E.2.1 10 0)), some (.ref (E.2.1 11 0)), some (.int (nI i)), none, none, none, none] []) : G p l e room_1 s m args below meth c 9 cl sl (lA s) Q E σ π o 835 [some (.ref b), some (.ref (E.2.1 9 0)), some (.ref (E.2.1 10 0)), some (.ref (E.2.1 11 0)), some (.int (nI i)), none, none, none, none] [] := by
  have hbA : ¬ lA s b := Nat.not_le.mpr hbl
  obtain ⟨a, σ1, π1, d1, hC, hM, hB'⟩ := sd_keep l (E := E) (o := o) hB h
  rw [gT_eta] at hC
  have C' := C.wide hR.1 hR.2
  refine G.wide (cl' := cl + 1) (sl' := sl + 6) (by omega) (by omega) ?_
  refine G.aldn1 C' dL_law_835 ?_
  refine G.callVI0 C' hC (cwV 0 C.1.2.2.2.2 gL_law_X3_keep rfl rfl rfl (by decide +kernel) ⟨(Nat.le_of_ble_eq_true rfl), (Nat.le_of_ble_eq_true rfl)⟩) (rfl : gO 9 0 = some 3) rfl (Nat.le_of_ble_eq_true rfl) dL_law_836 ?_
  refine G.aldn2 C' dL_law_839 ?_
  refine G.callVI0 C' hM (cwV 0 C.1.2.2.2.2 gL_law_X4_keep rfl rfl rfl (by decide +kernel) ⟨(Nat.le_of_ble_eq_true rfl), (Nat.le_of_ble_eq_true rfl)⟩) (rfl : gO 10 0 = some 4) rfl (Nat.le_of_ble_eq_true rfl) dL_law_840 ?_
  refine G.icmp_eq C' 1381 dL_law_843 (by decide) (fun _ => ?_) (fun hc => absurd rfl hc)
  exact G.back (kk _ _ _ hB') rfl ⟨rfl, rfl, rfl, rfl, rfl, trivial⟩
set_option maxRecDepth 100000 in
set_option maxHeartbeats 4000000 in
theorem law_restore {p : Program} {l : Launch} {e : Env} {s : State} {m : MethodId} {args : Array Value} {below : List Frame} {meth : Method} {c : Code} {Q : State → Prop} {E : gEn} {B : Nat} {σ : gSt} {π : Nat → Nat} {o : Int64} {b L i cl sl : Nat} {xs : Nat → Int32} (hst : l.stackTraces = false) (C : gCx p s m c cL_law 9 RL wsL_law args E (lA s) room_1 cl sl) (hX : gX E s) (hY : gY s) (hXs : va_X b L xs s s.heap) (hbl : b < s.heap.size) (hi : i + 4 ≤ L) (hL : L ≤ 2048) (hB : B < 2 ^ 29) (h : Big B σ π) (hR : cl + 1 ≤ room_1.cells ∧ sl + 6 ≤ room_1.slots) (kk : ∀ (σ' : gSt) (π' : Nat → Nat) (o' : Int64), Big (B + 1500) σ' π' → G p l e room_1 s m args below meth c 9 (cl + 1) (sl + 6) (lA s) Q E σ' π' o' 1381 [some (.ref b), some (.ref (E.2.1 9 0)), some (.ref (E.2.1 10 0)), some (.ref (E.2.1 11 0)), some (.int (nI i)), none, none, none, none] []) : G p l e room_1 s m args below meth c 9 cl sl (lA s) Q E σ π o 848 [some (.ref b), some (.ref (E.2.1 9 0)), some (.ref (E.2.1 10 0)), some (.ref (E.2.1 11 0)), some (.int (nI i)), none, none, none, none] [] := by
  have hbA : ¬ lA s b := Nat.not_le.mpr hbl
  obtain ⟨r, σ1, π1, o1, bb, d1, hC, hM, h0, ho, hB'⟩ := st_restore l hst (E := E) (o := o)  hB h
  rw [gT_eta] at hC
  have C' := C.wide hR.1 hR.2
  refine G.aldn1 C dL_law_848 ?_
  refine G.aldn3 C dL_law_849 ?_
  refine G.callH2 C hX hY hC (vx_cwSW 2 C.1.2.2.2.2 gL_law_L_restore rfl rfl rfl (by decide +kernel) ⟨(Nat.le_of_ble_eq_true rfl), (Nat.le_of_ble_eq_true rfl)⟩) (Nat.le_of_ble_eq_true rfl) dL_law_850 hR ?_
  refine G.ist5 C' dL_law_853 (by omega) rfl ?_
  refine G.aldn2 C' dL_law_855 ?_
  refine G.callVI0 C' hM (cwV 0 C.1.2.2.2.2 gL_law_X4_restore rfl rfl rfl (by decide +kernel) ⟨(Nat.le_of_ble_eq_true rfl), (Nat.le_of_ble_eq_true rfl)⟩) (rfl : gO 10 0 = some 4) rfl (Nat.le_of_ble_eq_true rfl) dL_law_856 ?_
  refine G.ist6 C' dL_law_859 (by omega) rfl ?_
  refine G.aldn2 C' dL_law_861 ?_
  refine G.callVI0 C' (k_X4_thrown l (d := d1)) (cwV 0 C.1.2.2.2.2 gL_law_X4_thrown rfl rfl rfl (by decide +kernel) ⟨(Nat.le_of_ble_eq_true rfl), (Nat.le_of_ble_eq_true rfl)⟩) (rfl : gO 10 0 = some 4) rfl (Nat.le_of_ble_eq_true rfl) dL_law_862 ?_
  refine G.ild5 C' dL_law_865 ?_
  refine G.icmp_eq C' 872 dL_law_867 (by decide) (fun _ => ?_) (fun hc => absurd h0 hc)
  refine G.ild5 C' dL_law_872 ?_
  refine G.if_ne C' 889 dL_law_874 (by decide) (fun _ => ?_) (fun hr0 => ?_)
  · refine G.goto C' 1381 dL_law_889 (by decide) ?_
    exact G.back (kk _ _ _ hB') rfl ⟨rfl, rfl, rfl, rfl, rfl, trivial⟩
  · have ho' := ho hr0
    refine G.aldn3 C' dL_law_877 ?_
    refine G.iconst C' 0 dL_law_878 (by decide) ?_
    refine G.laldO C' dL_law_879 ?_
    refine G.ild6 C' dL_law_880 ?_
    refine G.i2l C' dL_law_882 ?_
    refine G.lcmp C' dL_law_883 ?_
    refine G.topI 0 (by rw [ho']; exact lg_cmp_self _) ?_
    refine G.if_eq C' 889 dL_law_884 (by decide) (fun _ => ?_) (fun hc => absurd rfl hc)
    refine G.goto C' 1381 dL_law_889 (by decide) ?_
    exact G.back (kk _ _ _ hB') rfl ⟨rfl, rfl, rfl, rfl, rfl, trivial⟩
set_option maxRecDepth 100000 in
set_option maxHeartbeats 4000000 in
theorem law_dove {p : Program} {l : Launch} {e : Env} {s : State} {m : MethodId} {args : Array Value} {below : List Frame} {meth : Method} {c : Code} {Q : State → Prop} {E : gEn} {B : Nat} {σ : gSt} {π : Nat → Nat} {o : Int64} {b L i cl sl : Nat} {xs : Nat → Int32} (hst : l.stackTraces = false) (C : gCx p s m c cL_law 9 RL wsL_law args E (lA s) room_1 cl sl) (hX : gX E s) (hY : gY s) (hXs : va_X b L xs s s.heap) (hbl : b < s.heap.size) (hi : i + 4 ≤ L) (hL : L ≤ 2048) (hB : B < 2 ^ 29) (h : Big B σ π) (hR : cl + 1 ≤ room_1.cells ∧ sl + 6 ≤ room_1.slots) (kk : ∀ (σ' : gSt) (π' : Nat → Nat) (o' : Int64), Big (B + 1500) σ' π' → G p l e room_1 s m args below meth c 9 (cl + 1) (sl + 6) (lA s) Q E σ' π' o' 1381 [some (.ref b), some (.ref (E.2.1 9 0)), some (.ref (E.2.1 10 0)), some (.ref (E.2.1 11 0)), some (.int (nI i)), none, none, none, none] []) : G p l e room_1 s m args below meth c 9 cl sl (lA s) Q E σ π o 892 [some (.ref b), some (.ref (E.2.1 9 0)), some (.ref (E.2.1 10 0)), some (.ref (E.2.1 11 0)), some (.int (nI i)), none, none, none, none] [] := by
  have hbA : ¬ lA s b := Nat.not_le.mpr hbl
  obtain ⟨r, σ1, π1, o1, bb, d1, hC, hM, h0, ho, hB'⟩ := st_dove l hst (E := E) (o := o) (x := xs (nI (i + 1)).toNatClampNeg) (y := xs (nI (i + 2)).toNatClampNeg) hB h
  rw [gT_eta] at hC
  have C' := C.wide hR.1 hR.2
  refine G.aldn1 C dL_law_892 ?_
  refine G.aldn0 C dL_law_893 ?_
  refine G.ild4 C dL_law_894 ?_
  refine G.iconst C 1 dL_law_896 (by decide) ?_
  refine G.iadd C dL_law_897 ?_
  refine G.topI (nI (i + 1)) (nI_add i 1) ?_
  refine G.sld C hXs hbl hbA (show vp_in (nI (i + 1)) L from vp_in_nI (by omega) (by omega)) dL_law_898 ?_
  refine G.aldn0 C dL_law_899 ?_
  refine G.ild4 C dL_law_900 ?_
  refine G.iconst C 2 dL_law_902 (by decide) ?_
  refine G.iadd C dL_law_903 ?_
  refine G.topI (nI (i + 2)) (nI_add i 2) ?_
  refine G.sld C hXs hbl hbA (show vp_in (nI (i + 2)) L from vp_in_nI (by omega) (by omega)) dL_law_904 ?_
  refine G.aldn3 C dL_law_905 ?_
  refine G.callH4 C hX hY hC (vx_cwSW 4 C.1.2.2.2.2 gL_law_L_dove rfl rfl rfl (by decide +kernel) ⟨(Nat.le_of_ble_eq_true rfl), (Nat.le_of_ble_eq_true rfl)⟩) (Nat.le_of_ble_eq_true rfl) dL_law_906 hR ?_
  refine G.ist5 C' dL_law_909 (by omega) rfl ?_
  refine G.aldn2 C' dL_law_911 ?_
  refine G.aldn0 C' dL_law_912 ?_
  refine G.ild4 C' dL_law_913 ?_
  refine G.iconst C' 1 dL_law_915 (by decide) ?_
  refine G.iadd C' dL_law_916 ?_
  refine G.topI (nI (i + 1)) (nI_add i 1) ?_
  refine G.sld C' hXs hbl hbA (show vp_in (nI (i + 1)) L from vp_in_nI (by omega) (by omega)) dL_law_917 ?_
  refine G.aldn0 C' dL_law_918 ?_
  refine G.ild4 C' dL_law_919 ?_
  refine G.iconst C' 2 dL_law_921 (by decide) ?_
  refine G.iadd C' dL_law_922 ?_
  refine G.topI (nI (i + 2)) (nI_add i 2) ?_
  refine G.sld C' hXs hbl hbA (show vp_in (nI (i + 2)) L from vp_in_nI (by omega) (by omega)) dL_law_923 ?_
  refine G.callVI2 C' hM (cwV 2 C.1.2.2.2.2 gL_law_X4_dove rfl rfl rfl (by decide +kernel) ⟨(Nat.le_of_ble_eq_true rfl), (Nat.le_of_ble_eq_true rfl)⟩) (rfl : gO 10 0 = some 4) rfl (Nat.le_of_ble_eq_true rfl) dL_law_924 ?_
  refine G.ist6 C' dL_law_927 (by omega) rfl ?_
  refine G.aldn2 C' dL_law_929 ?_
  refine G.callVI0 C' (k_X4_thrown l (d := d1)) (cwV 0 C.1.2.2.2.2 gL_law_X4_thrown rfl rfl rfl (by decide +kernel) ⟨(Nat.le_of_ble_eq_true rfl), (Nat.le_of_ble_eq_true rfl)⟩) (rfl : gO 10 0 = some 4) rfl (Nat.le_of_ble_eq_true rfl) dL_law_930 ?_
  refine G.ild5 C' dL_law_933 ?_
  refine G.icmp_eq C' 940 dL_law_935 (by decide) (fun _ => ?_) (fun hc => absurd h0 hc)
  refine G.ild5 C' dL_law_940 ?_
  refine G.if_ne C' 957 dL_law_942 (by decide) (fun _ => ?_) (fun hr0 => ?_)
  · refine G.goto C' 1381 dL_law_957 (by decide) ?_
    exact G.back (kk _ _ _ hB') rfl ⟨rfl, rfl, rfl, rfl, rfl, trivial⟩
  · have ho' := ho hr0
    refine G.aldn3 C' dL_law_945 ?_
    refine G.iconst C' 0 dL_law_946 (by decide) ?_
    refine G.laldO C' dL_law_947 ?_
    refine G.ild6 C' dL_law_948 ?_
    refine G.i2l C' dL_law_950 ?_
    refine G.lcmp C' dL_law_951 ?_
    refine G.topI 0 (by rw [ho']; exact lg_cmp_self _) ?_
    refine G.if_eq C' 957 dL_law_952 (by decide) (fun _ => ?_) (fun hc => absurd rfl hc)
    refine G.goto C' 1381 dL_law_957 (by decide) ?_
    exact G.back (kk _ _ _ hB') rfl ⟨rfl, rfl, rfl, rfl, rfl, trivial⟩
set_option maxRecDepth 100000 in
set_option maxHeartbeats 4000000 in
theorem law_hole {p : Program} {l : Launch} {e : Env} {s : State} {m : MethodId} {args : Array Value} {below : List Frame} {meth : Method} {c : Code} {Q : State → Prop} {E : gEn} {B : Nat} {σ : gSt} {π : Nat → Nat} {o : Int64} {b L i cl sl : Nat} {xs : Nat → Int32} (hst : l.stackTraces = false) (C : gCx p s m c cL_law 9 RL wsL_law args E (lA s) room_1 cl sl) (hX : gX E s) (hY : gY s) (hXs : va_X b L xs s s.heap) (hbl : b < s.heap.size) (hi : i + 4 ≤ L) (hL : L ≤ 2048) (hB : B < 2 ^ 29) (h : Big B σ π) (hR : cl + 1 ≤ room_1.cells ∧ sl + 6 ≤ room_1.slots) (kk : ∀ (σ' : gSt) (π' : Nat → Nat) (o' : Int64), Big (B + 1500) σ' π' → G p l e room_1 s m args below meth c 9 (cl + 1) (sl + 6) (lA s) Q E σ' π' o' 1381 [some (.ref b), some (.ref (E.2.1 9 0)), some (.ref (E.2.1 10 0)), some (.ref (E.2.1 11 0)), some (.int (nI i)), none, none, none, none] []) : G p l e room_1 s m args below meth c 9 cl sl (lA s) Q E σ π o 960 [some (.ref b), some (.ref (E.2.1 9 0)), some (.ref (E.2.1 10 0)), some (.ref (E.2.1 11 0)), some (.int (nI i)), none, none, none, none] [] := by
  have hbA : ¬ lA s b := Nat.not_le.mpr hbl
  obtain ⟨r, σ1, π1, o1, bb, d1, hC, hM, h0, ho, hB'⟩ := st_hole l hst (E := E) (o := o) (x := xs (nI (i + 1)).toNatClampNeg) (y := xs (nI (i + 2)).toNatClampNeg) hB h
  rw [gT_eta] at hC
  have C' := C.wide hR.1 hR.2
  refine G.aldn1 C dL_law_960 ?_
  refine G.aldn0 C dL_law_961 ?_
  refine G.ild4 C dL_law_962 ?_
  refine G.iconst C 1 dL_law_964 (by decide) ?_
  refine G.iadd C dL_law_965 ?_
  refine G.topI (nI (i + 1)) (nI_add i 1) ?_
  refine G.sld C hXs hbl hbA (show vp_in (nI (i + 1)) L from vp_in_nI (by omega) (by omega)) dL_law_966 ?_
  refine G.aldn0 C dL_law_967 ?_
  refine G.ild4 C dL_law_968 ?_
  refine G.iconst C 2 dL_law_970 (by decide) ?_
  refine G.iadd C dL_law_971 ?_
  refine G.topI (nI (i + 2)) (nI_add i 2) ?_
  refine G.sld C hXs hbl hbA (show vp_in (nI (i + 2)) L from vp_in_nI (by omega) (by omega)) dL_law_972 ?_
  refine G.aldn3 C dL_law_973 ?_
  refine G.callH4 C hX hY hC (vx_cwSW 4 C.1.2.2.2.2 gL_law_L_hole rfl rfl rfl (by decide +kernel) ⟨(Nat.le_of_ble_eq_true rfl), (Nat.le_of_ble_eq_true rfl)⟩) (Nat.le_of_ble_eq_true rfl) dL_law_974 hR ?_
  refine G.ist5 C' dL_law_977 (by omega) rfl ?_
  refine G.aldn2 C' dL_law_979 ?_
  refine G.aldn0 C' dL_law_980 ?_
  refine G.ild4 C' dL_law_981 ?_
  refine G.iconst C' 1 dL_law_983 (by decide) ?_
  refine G.iadd C' dL_law_984 ?_
  refine G.topI (nI (i + 1)) (nI_add i 1) ?_
  refine G.sld C' hXs hbl hbA (show vp_in (nI (i + 1)) L from vp_in_nI (by omega) (by omega)) dL_law_985 ?_
  refine G.aldn0 C' dL_law_986 ?_
  refine G.ild4 C' dL_law_987 ?_
  refine G.iconst C' 2 dL_law_989 (by decide) ?_
  refine G.iadd C' dL_law_990 ?_
  refine G.topI (nI (i + 2)) (nI_add i 2) ?_
  refine G.sld C' hXs hbl hbA (show vp_in (nI (i + 2)) L from vp_in_nI (by omega) (by omega)) dL_law_991 ?_
  refine G.callVI2 C' hM (cwV 2 C.1.2.2.2.2 gL_law_X4_hole rfl rfl rfl (by decide +kernel) ⟨(Nat.le_of_ble_eq_true rfl), (Nat.le_of_ble_eq_true rfl)⟩) (rfl : gO 10 0 = some 4) rfl (Nat.le_of_ble_eq_true rfl) dL_law_992 ?_
  refine G.ist6 C' dL_law_995 (by omega) rfl ?_
  refine G.aldn2 C' dL_law_997 ?_
  refine G.callVI0 C' (k_X4_thrown l (d := d1)) (cwV 0 C.1.2.2.2.2 gL_law_X4_thrown rfl rfl rfl (by decide +kernel) ⟨(Nat.le_of_ble_eq_true rfl), (Nat.le_of_ble_eq_true rfl)⟩) (rfl : gO 10 0 = some 4) rfl (Nat.le_of_ble_eq_true rfl) dL_law_998 ?_
  refine G.ild5 C' dL_law_1001 ?_
  refine G.icmp_eq C' 1008 dL_law_1003 (by decide) (fun _ => ?_) (fun hc => absurd h0 hc)
  refine G.ild5 C' dL_law_1008 ?_
  refine G.if_ne C' 1025 dL_law_1010 (by decide) (fun _ => ?_) (fun hr0 => ?_)
  · refine G.goto C' 1381 dL_law_1025 (by decide) ?_
    exact G.back (kk _ _ _ hB') rfl ⟨rfl, rfl, rfl, rfl, rfl, trivial⟩
  · have ho' := ho hr0
    refine G.aldn3 C' dL_law_1013 ?_
    refine G.iconst C' 0 dL_law_1014 (by decide) ?_
    refine G.laldO C' dL_law_1015 ?_
    refine G.ild6 C' dL_law_1016 ?_
    refine G.i2l C' dL_law_1018 ?_
    refine G.lcmp C' dL_law_1019 ?_
    refine G.topI 0 (by rw [ho']; exact lg_cmp_self _) ?_
    refine G.if_eq C' 1025 dL_law_1020 (by decide) (fun _ => ?_) (fun hc => absurd rfl hc)
    refine G.goto C' 1381 dL_law_1025 (by decide) ?_
    exact G.back (kk _ _ _ hB') rfl ⟨rfl, rfl, rfl, rfl, rfl, trivial⟩
set_option maxRecDepth 100000 in
set_option maxHeartbeats 4000000 in
theorem law_count {p : Program} {l : Launch} {e : Env} {s : State} {m : MethodId} {args : Array Value} {below : List Frame} {meth : Method} {c : Code} {Q : State → Prop} {E : gEn} {B : Nat} {σ : gSt} {π : Nat → Nat} {o : Int64} {b L i cl sl : Nat} {xs : Nat → Int32} (hst : l.stackTraces = false) (C : gCx p s m c cL_law 9 RL wsL_law args E (lA s) room_1 cl sl) (hX : gX E s) (hY : gY s) (hXs : va_X b L xs s s.heap) (hbl : b < s.heap.size) (hi : i + 4 ≤ L) (hL : L ≤ 2048) (hB : B < 2 ^ 29) (h : Big B σ π) (hR : cl + 1 ≤ room_1.cells ∧ sl + 6 ≤ room_1.slots) (kk : ∀ (σ' : gSt) (π' : Nat → Nat) (o' : Int64), Big (B + 1500) σ' π' → G p l e room_1 s m args below meth c 9 (cl + 1) (sl + 6) (lA s) Q E σ' π' o' 1381 [some (.ref b), some (.ref (E.2.1 9 0)), some (.ref (E.2.1 10 0)), some (.ref (E.2.1 11 0)), some (.int (nI i)), none, none, none, none] []) : G p l e room_1 s m args below meth c 9 cl sl (lA s) Q E σ π o 1028 [some (.ref b), some (.ref (E.2.1 9 0)), some (.ref (E.2.1 10 0)), some (.ref (E.2.1 11 0)), some (.int (nI i)), none, none, none, none] [] := by
  have hbA : ¬ lA s b := Nat.not_le.mpr hbl
  obtain ⟨r, σ1, π1, o1, bb, d1, hC, hM, h0, ho, hB'⟩ := st_count l hst (E := E) (o := o) (x := xs (nI (i + 1)).toNatClampNeg) hB h
  rw [gT_eta] at hC
  have C' := C.wide hR.1 hR.2
  refine G.aldn1 C dL_law_1028 ?_
  refine G.aldn0 C dL_law_1029 ?_
  refine G.ild4 C dL_law_1030 ?_
  refine G.iconst C 1 dL_law_1032 (by decide) ?_
  refine G.iadd C dL_law_1033 ?_
  refine G.topI (nI (i + 1)) (nI_add i 1) ?_
  refine G.sld C hXs hbl hbA (show vp_in (nI (i + 1)) L from vp_in_nI (by omega) (by omega)) dL_law_1034 ?_
  refine G.aldn3 C dL_law_1035 ?_
  refine G.callH3 C hX hY hC (vx_cwSW 3 C.1.2.2.2.2 gL_law_L_count rfl rfl rfl (by decide +kernel) ⟨(Nat.le_of_ble_eq_true rfl), (Nat.le_of_ble_eq_true rfl)⟩) (Nat.le_of_ble_eq_true rfl) dL_law_1036 hR ?_
  refine G.ist5 C' dL_law_1039 (by omega) rfl ?_
  refine G.aldn2 C' dL_law_1041 ?_
  refine G.aldn0 C' dL_law_1042 ?_
  refine G.ild4 C' dL_law_1043 ?_
  refine G.iconst C' 1 dL_law_1045 (by decide) ?_
  refine G.iadd C' dL_law_1046 ?_
  refine G.topI (nI (i + 1)) (nI_add i 1) ?_
  refine G.sld C' hXs hbl hbA (show vp_in (nI (i + 1)) L from vp_in_nI (by omega) (by omega)) dL_law_1047 ?_
  refine G.callVI1 C' hM (cwV 1 C.1.2.2.2.2 gL_law_X4_count rfl rfl rfl (by decide +kernel) ⟨(Nat.le_of_ble_eq_true rfl), (Nat.le_of_ble_eq_true rfl)⟩) (rfl : gO 10 0 = some 4) rfl (Nat.le_of_ble_eq_true rfl) dL_law_1048 ?_
  refine G.ist6 C' dL_law_1051 (by omega) rfl ?_
  refine G.aldn2 C' dL_law_1053 ?_
  refine G.callVI0 C' (k_X4_thrown l (d := d1)) (cwV 0 C.1.2.2.2.2 gL_law_X4_thrown rfl rfl rfl (by decide +kernel) ⟨(Nat.le_of_ble_eq_true rfl), (Nat.le_of_ble_eq_true rfl)⟩) (rfl : gO 10 0 = some 4) rfl (Nat.le_of_ble_eq_true rfl) dL_law_1054 ?_
  refine G.ild5 C' dL_law_1057 ?_
  refine G.icmp_eq C' 1064 dL_law_1059 (by decide) (fun _ => ?_) (fun hc => absurd h0 hc)
  refine G.ild5 C' dL_law_1064 ?_
  refine G.if_ne C' 1081 dL_law_1066 (by decide) (fun _ => ?_) (fun hr0 => ?_)
  · refine G.goto C' 1381 dL_law_1081 (by decide) ?_
    exact G.back (kk _ _ _ hB') rfl ⟨rfl, rfl, rfl, rfl, rfl, trivial⟩
  · have ho' := ho hr0
    refine G.aldn3 C' dL_law_1069 ?_
    refine G.iconst C' 0 dL_law_1070 (by decide) ?_
    refine G.laldO C' dL_law_1071 ?_
    refine G.ild6 C' dL_law_1072 ?_
    refine G.i2l C' dL_law_1074 ?_
    refine G.lcmp C' dL_law_1075 ?_
    refine G.topI 0 (by rw [ho']; exact lg_cmp_self _) ?_
    refine G.if_eq C' 1081 dL_law_1076 (by decide) (fun _ => ?_) (fun hc => absurd rfl hc)
    refine G.goto C' 1381 dL_law_1081 (by decide) ?_
    exact G.back (kk _ _ _ hB') rfl ⟨rfl, rfl, rfl, rfl, rfl, trivial⟩
set_option maxRecDepth 100000 in
set_option maxHeartbeats 4000000 in
theorem law_step {p : Program} {l : Launch} {e : Env} {s : State} {m : MethodId} {args : Array Value} {below : List Frame} {meth : Method} {c : Code} {Q : State → Prop} {E : gEn} {B : Nat} {σ : gSt} {π : Nat → Nat} {o : Int64} {b L i cl sl : Nat} {xs : Nat → Int32} (hst : l.stackTraces = false) (C : gCx p s m c cL_law 9 RL wsL_law args E (lA s) room_1 cl sl) (hX : gX E s) (hY : gY s) (hXs : va_X b L xs s s.heap) (hbl : b < s.heap.size) (hi : i + 4 ≤ L) (hL : L ≤ 2048) (hB : B < 2 ^ 29) (h : Big B σ π) (hR : cl + 1 ≤ room_1.cells ∧ sl + 6 ≤ room_1.slots) (kk : ∀ (σ' : gSt) (π' : Nat → Nat) (o' : Int64), Big (B + 1500) σ' π' → G p l e room_1 s m args below meth c 9 (cl + 1) (sl + 6) (lA s) Q E σ' π' o' 1381 [some (.ref b), some (.ref (E.2.1 9 0)), some (.ref (E.2.1 10 0)), some (.ref (E.2.1 11 0)), some (.int (nI i)), none, none, none, none] []) : G p l e room_1 s m args below meth c 9 cl sl (lA s) Q E σ π o 1084 [some (.ref b), some (.ref (E.2.1 9 0)), some (.ref (E.2.1 10 0)), some (.ref (E.2.1 11 0)), some (.int (nI i)), none, none, none, none] [] := by
  have hbA : ¬ lA s b := Nat.not_le.mpr hbl
  obtain ⟨r, σ1, π1, o1, bb, d1, hC, hM, h0, ho, hB'⟩ := st_step l hst (E := E) (o := o) (x := xs (nI (i + 1)).toNatClampNeg) (y := xs (nI (i + 2)).toNatClampNeg) hB h
  rw [gT_eta] at hC
  have C' := C.wide hR.1 hR.2
  refine G.aldn1 C dL_law_1084 ?_
  refine G.aldn0 C dL_law_1085 ?_
  refine G.ild4 C dL_law_1086 ?_
  refine G.iconst C 1 dL_law_1088 (by decide) ?_
  refine G.iadd C dL_law_1089 ?_
  refine G.topI (nI (i + 1)) (nI_add i 1) ?_
  refine G.sld C hXs hbl hbA (show vp_in (nI (i + 1)) L from vp_in_nI (by omega) (by omega)) dL_law_1090 ?_
  refine G.aldn0 C dL_law_1091 ?_
  refine G.ild4 C dL_law_1092 ?_
  refine G.iconst C 2 dL_law_1094 (by decide) ?_
  refine G.iadd C dL_law_1095 ?_
  refine G.topI (nI (i + 2)) (nI_add i 2) ?_
  refine G.sld C hXs hbl hbA (show vp_in (nI (i + 2)) L from vp_in_nI (by omega) (by omega)) dL_law_1096 ?_
  refine G.aldn3 C dL_law_1097 ?_
  refine G.callH4 C hX hY hC (vx_cwSW 4 C.1.2.2.2.2 gL_law_L_step rfl rfl rfl (by decide +kernel) ⟨(Nat.le_of_ble_eq_true rfl), (Nat.le_of_ble_eq_true rfl)⟩) (Nat.le_of_ble_eq_true rfl) dL_law_1098 hR ?_
  refine G.ist5 C' dL_law_1101 (by omega) rfl ?_
  refine G.aldn2 C' dL_law_1103 ?_
  refine G.aldn0 C' dL_law_1104 ?_
  refine G.ild4 C' dL_law_1105 ?_
  refine G.iconst C' 1 dL_law_1107 (by decide) ?_
  refine G.iadd C' dL_law_1108 ?_
  refine G.topI (nI (i + 1)) (nI_add i 1) ?_
  refine G.sld C' hXs hbl hbA (show vp_in (nI (i + 1)) L from vp_in_nI (by omega) (by omega)) dL_law_1109 ?_
  refine G.aldn0 C' dL_law_1110 ?_
  refine G.ild4 C' dL_law_1111 ?_
  refine G.iconst C' 2 dL_law_1113 (by decide) ?_
  refine G.iadd C' dL_law_1114 ?_
  refine G.topI (nI (i + 2)) (nI_add i 2) ?_
  refine G.sld C' hXs hbl hbA (show vp_in (nI (i + 2)) L from vp_in_nI (by omega) (by omega)) dL_law_1115 ?_
  refine G.callVI2 C' hM (cwV 2 C.1.2.2.2.2 gL_law_X4_step rfl rfl rfl (by decide +kernel) ⟨(Nat.le_of_ble_eq_true rfl), (Nat.le_of_ble_eq_true rfl)⟩) (rfl : gO 10 0 = some 4) rfl (Nat.le_of_ble_eq_true rfl) dL_law_1116 ?_
  refine G.ist6 C' dL_law_1119 (by omega) rfl ?_
  refine G.aldn2 C' dL_law_1121 ?_
  refine G.callVI0 C' (k_X4_thrown l (d := d1)) (cwV 0 C.1.2.2.2.2 gL_law_X4_thrown rfl rfl rfl (by decide +kernel) ⟨(Nat.le_of_ble_eq_true rfl), (Nat.le_of_ble_eq_true rfl)⟩) (rfl : gO 10 0 = some 4) rfl (Nat.le_of_ble_eq_true rfl) dL_law_1122 ?_
  refine G.ild5 C' dL_law_1125 ?_
  refine G.icmp_eq C' 1132 dL_law_1127 (by decide) (fun _ => ?_) (fun hc => absurd h0 hc)
  refine G.ild5 C' dL_law_1132 ?_
  refine G.if_ne C' 1149 dL_law_1134 (by decide) (fun _ => ?_) (fun hr0 => ?_)
  · refine G.goto C' 1381 dL_law_1149 (by decide) ?_
    exact G.back (kk _ _ _ hB') rfl ⟨rfl, rfl, rfl, rfl, rfl, trivial⟩
  · have ho' := ho hr0
    refine G.aldn3 C' dL_law_1137 ?_
    refine G.iconst C' 0 dL_law_1138 (by decide) ?_
    refine G.laldO C' dL_law_1139 ?_
    refine G.ild6 C' dL_law_1140 ?_
    refine G.i2l C' dL_law_1142 ?_
    refine G.lcmp C' dL_law_1143 ?_
    refine G.topI 0 (by rw [ho']; exact lg_cmp_self _) ?_
    refine G.if_eq C' 1149 dL_law_1144 (by decide) (fun _ => ?_) (fun hc => absurd rfl hc)
    refine G.goto C' 1381 dL_law_1149 (by decide) ?_
    exact G.back (kk _ _ _ hB') rfl ⟨rfl, rfl, rfl, rfl, rfl, trivial⟩
set_option maxRecDepth 100000 in
set_option maxHeartbeats 4000000 in
theorem law_whyNot {p : Program} {l : Launch} {e : Env} {s : State} {m : MethodId} {args : Array Value} {below : List Frame} {meth : Method} {c : Code} {Q : State → Prop} {E : gEn} {B : Nat} {σ : gSt} {π : Nat → Nat} {o : Int64} {b L i cl sl : Nat} {xs : Nat → Int32} (hst : l.stackTraces = false) (C : gCx p s m c cL_law 9 RL wsL_law args E (lA s) room_1 cl sl) (hX : gX E s) (hY : gY s) (hXs : va_X b L xs s s.heap) (hbl : b < s.heap.size) (hi : i + 4 ≤ L) (hL : L ≤ 2048) (hB : B < 2 ^ 29) (h : Big B σ π) (hR : cl + 1 ≤ room_1.cells ∧ sl + 6 ≤ room_1.slots) (kk : ∀ (σ' : gSt) (π' : Nat → Nat) (o' : Int64), Big (B + 1500) σ' π' → G p l e room_1 s m args below meth c 9 (cl + 1) (sl + 6) (lA s) Q E σ' π' o' 1381 [some (.ref b), some (.ref (E.2.1 9 0)), some (.ref (E.2.1 10 0)), some (.ref (E.2.1 11 0)), some (.int (nI i)), none, none, none, none] []) : G p l e room_1 s m args below meth c 9 cl sl (lA s) Q E σ π o 1152 [some (.ref b), some (.ref (E.2.1 9 0)), some (.ref (E.2.1 10 0)), some (.ref (E.2.1 11 0)), some (.int (nI i)), none, none, none, none] [] := by
  have hbA : ¬ lA s b := Nat.not_le.mpr hbl
  obtain ⟨r, σ1, π1, o1, bb, d1, hC, hM, h0, ho, hB'⟩ := st_whyNot l hst (E := E) (o := o) (x := xs (nI (i + 1)).toNatClampNeg) (t := xs (nI (i + 2)).toNatClampNeg) hB h
  rw [gT_eta] at hC
  have C' := C.wide hR.1 hR.2
  refine G.aldn1 C dL_law_1152 ?_
  refine G.aldn0 C dL_law_1153 ?_
  refine G.ild4 C dL_law_1154 ?_
  refine G.iconst C 1 dL_law_1156 (by decide) ?_
  refine G.iadd C dL_law_1157 ?_
  refine G.topI (nI (i + 1)) (nI_add i 1) ?_
  refine G.sld C hXs hbl hbA (show vp_in (nI (i + 1)) L from vp_in_nI (by omega) (by omega)) dL_law_1158 ?_
  refine G.aldn0 C dL_law_1159 ?_
  refine G.ild4 C dL_law_1160 ?_
  refine G.iconst C 2 dL_law_1162 (by decide) ?_
  refine G.iadd C dL_law_1163 ?_
  refine G.topI (nI (i + 2)) (nI_add i 2) ?_
  refine G.sld C hXs hbl hbA (show vp_in (nI (i + 2)) L from vp_in_nI (by omega) (by omega)) dL_law_1164 ?_
  refine G.aldn3 C dL_law_1165 ?_
  refine G.callH4 C hX hY hC (vx_cwSW 4 C.1.2.2.2.2 gL_law_L_whyNot rfl rfl rfl (by decide +kernel) ⟨(Nat.le_of_ble_eq_true rfl), (Nat.le_of_ble_eq_true rfl)⟩) (Nat.le_of_ble_eq_true rfl) dL_law_1166 hR ?_
  refine G.ist5 C' dL_law_1169 (by omega) rfl ?_
  refine G.aldn2 C' dL_law_1171 ?_
  refine G.aldn0 C' dL_law_1172 ?_
  refine G.ild4 C' dL_law_1173 ?_
  refine G.iconst C' 1 dL_law_1175 (by decide) ?_
  refine G.iadd C' dL_law_1176 ?_
  refine G.topI (nI (i + 1)) (nI_add i 1) ?_
  refine G.sld C' hXs hbl hbA (show vp_in (nI (i + 1)) L from vp_in_nI (by omega) (by omega)) dL_law_1177 ?_
  refine G.aldn0 C' dL_law_1178 ?_
  refine G.ild4 C' dL_law_1179 ?_
  refine G.iconst C' 2 dL_law_1181 (by decide) ?_
  refine G.iadd C' dL_law_1182 ?_
  refine G.topI (nI (i + 2)) (nI_add i 2) ?_
  refine G.sld C' hXs hbl hbA (show vp_in (nI (i + 2)) L from vp_in_nI (by omega) (by omega)) dL_law_1183 ?_
  refine G.callVI2 C' hM (cwV 2 C.1.2.2.2.2 gL_law_X4_whyNot rfl rfl rfl (by decide +kernel) ⟨(Nat.le_of_ble_eq_true rfl), (Nat.le_of_ble_eq_true rfl)⟩) (rfl : gO 10 0 = some 4) rfl (Nat.le_of_ble_eq_true rfl) dL_law_1184 ?_
  refine G.ist6 C' dL_law_1187 (by omega) rfl ?_
  refine G.aldn2 C' dL_law_1189 ?_
  refine G.callVI0 C' (k_X4_thrown l (d := d1)) (cwV 0 C.1.2.2.2.2 gL_law_X4_thrown rfl rfl rfl (by decide +kernel) ⟨(Nat.le_of_ble_eq_true rfl), (Nat.le_of_ble_eq_true rfl)⟩) (rfl : gO 10 0 = some 4) rfl (Nat.le_of_ble_eq_true rfl) dL_law_1190 ?_
  refine G.ild5 C' dL_law_1193 ?_
  refine G.icmp_eq C' 1200 dL_law_1195 (by decide) (fun _ => ?_) (fun hc => absurd h0 hc)
  refine G.ild5 C' dL_law_1200 ?_
  refine G.if_ne C' 1217 dL_law_1202 (by decide) (fun _ => ?_) (fun hr0 => ?_)
  · refine G.goto C' 1381 dL_law_1217 (by decide) ?_
    exact G.back (kk _ _ _ hB') rfl ⟨rfl, rfl, rfl, rfl, rfl, trivial⟩
  · have ho' := ho hr0
    refine G.aldn3 C' dL_law_1205 ?_
    refine G.iconst C' 0 dL_law_1206 (by decide) ?_
    refine G.laldO C' dL_law_1207 ?_
    refine G.ild6 C' dL_law_1208 ?_
    refine G.i2l C' dL_law_1210 ?_
    refine G.lcmp C' dL_law_1211 ?_
    refine G.topI 0 (by rw [ho']; exact lg_cmp_self _) ?_
    refine G.if_eq C' 1217 dL_law_1212 (by decide) (fun _ => ?_) (fun hc => absurd rfl hc)
    refine G.goto C' 1381 dL_law_1217 (by decide) ?_
    exact G.back (kk _ _ _ hB') rfl ⟨rfl, rfl, rfl, rfl, rfl, trivial⟩
set_option maxRecDepth 100000 in
set_option maxHeartbeats 4000000 in
theorem law_ifHome {p : Program} {l : Launch} {e : Env} {s : State} {m : MethodId} {args : Array Value} {below : List Frame} {meth : Method} {c : Code} {Q : State → Prop} {E : gEn} {B : Nat} {σ : gSt} {π : Nat → Nat} {o : Int64} {b L i cl sl : Nat} {xs : Nat → Int32} (hst : l.stackTraces = false) (C : gCx p s m c cL_law 9 RL wsL_law args E (lA s) room_1 cl sl) (hX : gX E s) (hY : gY s) (hXs : va_X b L xs s s.heap) (hbl : b < s.heap.size) (hi : i + 4 ≤ L) (hL : L ≤ 2048) (hB : B < 2 ^ 29) (h : Big B σ π) (hR : cl + 1 ≤ room_1.cells ∧ sl + 6 ≤ room_1.slots) (kk : ∀ (σ' : gSt) (π' : Nat → Nat) (o' : Int64), Big (B + 1500) σ' π' → G p l e room_1 s m args below meth c 9 (cl + 1) (sl + 6) (lA s) Q E σ' π' o' 1381 [some (.ref b), some (.ref (E.2.1 9 0)), some (.ref (E.2.1 10 0)), some (.ref (E.2.1 11 0)), some (.int (nI i)), none, none, none, none] []) : G p l e room_1 s m args below meth c 9 cl sl (lA s) Q E σ π o 1220 [some (.ref b), some (.ref (E.2.1 9 0)), some (.ref (E.2.1 10 0)), some (.ref (E.2.1 11 0)), some (.int (nI i)), none, none, none, none] [] := by
  have hbA : ¬ lA s b := Nat.not_le.mpr hbl
  obtain ⟨r, σ1, π1, o1, bb, d1, hC, hM, h0, ho, hB'⟩ := st_ifHome l hst (E := E) (o := o) (x := xs (nI (i + 1)).toNatClampNeg) (t := xs (nI (i + 2)).toNatClampNeg) (w := xs (nI (i + 3)).toNatClampNeg) hB h
  rw [gT_eta] at hC
  have C' := C.wide hR.1 hR.2
  refine G.aldn1 C dL_law_1220 ?_
  refine G.aldn0 C dL_law_1221 ?_
  refine G.ild4 C dL_law_1222 ?_
  refine G.iconst C 1 dL_law_1224 (by decide) ?_
  refine G.iadd C dL_law_1225 ?_
  refine G.topI (nI (i + 1)) (nI_add i 1) ?_
  refine G.sld C hXs hbl hbA (show vp_in (nI (i + 1)) L from vp_in_nI (by omega) (by omega)) dL_law_1226 ?_
  refine G.aldn0 C dL_law_1227 ?_
  refine G.ild4 C dL_law_1228 ?_
  refine G.iconst C 2 dL_law_1230 (by decide) ?_
  refine G.iadd C dL_law_1231 ?_
  refine G.topI (nI (i + 2)) (nI_add i 2) ?_
  refine G.sld C hXs hbl hbA (show vp_in (nI (i + 2)) L from vp_in_nI (by omega) (by omega)) dL_law_1232 ?_
  refine G.aldn0 C dL_law_1233 ?_
  refine G.ild4 C dL_law_1234 ?_
  refine G.iconst C 3 dL_law_1236 (by decide) ?_
  refine G.iadd C dL_law_1237 ?_
  refine G.topI (nI (i + 3)) (nI_add i 3) ?_
  refine G.sld C hXs hbl hbA (show vp_in (nI (i + 3)) L from vp_in_nI (by omega) (by omega)) dL_law_1238 ?_
  refine G.aldn3 C dL_law_1239 ?_
  refine G.callH5 C hX hY hC (vx_cwSW 5 C.1.2.2.2.2 gL_law_L_ifHome rfl rfl rfl (by decide +kernel) ⟨(Nat.le_of_ble_eq_true rfl), (Nat.le_of_ble_eq_true rfl)⟩) (Nat.le_of_ble_eq_true rfl) dL_law_1240 hR ?_
  refine G.ist5 C' dL_law_1243 (by omega) rfl ?_
  refine G.aldn2 C' dL_law_1245 ?_
  refine G.aldn0 C' dL_law_1246 ?_
  refine G.ild4 C' dL_law_1247 ?_
  refine G.iconst C' 1 dL_law_1249 (by decide) ?_
  refine G.iadd C' dL_law_1250 ?_
  refine G.topI (nI (i + 1)) (nI_add i 1) ?_
  refine G.sld C' hXs hbl hbA (show vp_in (nI (i + 1)) L from vp_in_nI (by omega) (by omega)) dL_law_1251 ?_
  refine G.aldn0 C' dL_law_1252 ?_
  refine G.ild4 C' dL_law_1253 ?_
  refine G.iconst C' 2 dL_law_1255 (by decide) ?_
  refine G.iadd C' dL_law_1256 ?_
  refine G.topI (nI (i + 2)) (nI_add i 2) ?_
  refine G.sld C' hXs hbl hbA (show vp_in (nI (i + 2)) L from vp_in_nI (by omega) (by omega)) dL_law_1257 ?_
  refine G.aldn0 C' dL_law_1258 ?_
  refine G.ild4 C' dL_law_1259 ?_
  refine G.iconst C' 3 dL_law_1261 (by decide) ?_
  refine G.iadd C' dL_law_1262 ?_
  refine G.topI (nI (i + 3)) (nI_add i 3) ?_
  refine G.sld C' hXs hbl hbA (show vp_in (nI (i + 3)) L from vp_in_nI (by omega) (by omega)) dL_law_1263 ?_
  refine G.callVI3 C' hM (cwV 3 C.1.2.2.2.2 gL_law_X4_ifHome rfl rfl rfl (by decide +kernel) ⟨(Nat.le_of_ble_eq_true rfl), (Nat.le_of_ble_eq_true rfl)⟩) (rfl : gO 10 0 = some 4) rfl (Nat.le_of_ble_eq_true rfl) dL_law_1264 ?_
  refine G.ist6 C' dL_law_1267 (by omega) rfl ?_
  refine G.aldn2 C' dL_law_1269 ?_
  refine G.callVI0 C' (k_X4_thrown l (d := d1)) (cwV 0 C.1.2.2.2.2 gL_law_X4_thrown rfl rfl rfl (by decide +kernel) ⟨(Nat.le_of_ble_eq_true rfl), (Nat.le_of_ble_eq_true rfl)⟩) (rfl : gO 10 0 = some 4) rfl (Nat.le_of_ble_eq_true rfl) dL_law_1270 ?_
  refine G.ild5 C' dL_law_1273 ?_
  refine G.icmp_eq C' 1280 dL_law_1275 (by decide) (fun _ => ?_) (fun hc => absurd h0 hc)
  refine G.ild5 C' dL_law_1280 ?_
  refine G.if_ne C' 1297 dL_law_1282 (by decide) (fun _ => ?_) (fun hr0 => ?_)
  · refine G.goto C' 1381 dL_law_1297 (by decide) ?_
    exact G.back (kk _ _ _ hB') rfl ⟨rfl, rfl, rfl, rfl, rfl, trivial⟩
  · have ho' := ho hr0
    refine G.aldn3 C' dL_law_1285 ?_
    refine G.iconst C' 0 dL_law_1286 (by decide) ?_
    refine G.laldO C' dL_law_1287 ?_
    refine G.ild6 C' dL_law_1288 ?_
    refine G.i2l C' dL_law_1290 ?_
    refine G.lcmp C' dL_law_1291 ?_
    refine G.topI 0 (by rw [ho']; exact lg_cmp_self _) ?_
    refine G.if_eq C' 1297 dL_law_1292 (by decide) (fun _ => ?_) (fun hc => absurd rfl hc)
    refine G.goto C' 1381 dL_law_1297 (by decide) ?_
    exact G.back (kk _ _ _ hB') rfl ⟨rfl, rfl, rfl, rfl, rfl, trivial⟩
set_option maxRecDepth 100000 in
set_option maxHeartbeats 4000000 in
theorem law_freeHole {p : Program} {l : Launch} {e : Env} {s : State} {m : MethodId} {args : Array Value} {below : List Frame} {meth : Method} {c : Code} {Q : State → Prop} {E : gEn} {B : Nat} {σ : gSt} {π : Nat → Nat} {o : Int64} {b L i cl sl : Nat} {xs : Nat → Int32} (hst : l.stackTraces = false) (C : gCx p s m c cL_law 9 RL wsL_law args E (lA s) room_1 cl sl) (hX : gX E s) (hY : gY s) (hXs : va_X b L xs s s.heap) (hbl : b < s.heap.size) (hi : i + 4 ≤ L) (hL : L ≤ 2048) (hB : B < 2 ^ 29) (h : Big B σ π) (hR : cl + 1 ≤ room_1.cells ∧ sl + 6 ≤ room_1.slots) (kk : ∀ (σ' : gSt) (π' : Nat → Nat) (o' : Int64), Big (B + 1500) σ' π' → G p l e room_1 s m args below meth c 9 (cl + 1) (sl + 6) (lA s) Q E σ' π' o' 1381 [some (.ref b), some (.ref (E.2.1 9 0)), some (.ref (E.2.1 10 0)), some (.ref (E.2.1 11 0)), some (.int (nI i)), none, none, none, none] []) : G p l e room_1 s m args below meth c 9 cl sl (lA s) Q E σ π o 1300 [some (.ref b), some (.ref (E.2.1 9 0)), some (.ref (E.2.1 10 0)), some (.ref (E.2.1 11 0)), some (.int (nI i)), none, none, none, none] [] := by
  have hbA : ¬ lA s b := Nat.not_le.mpr hbl
  obtain ⟨a, σ1, π1, d1, hC, hM, hB'⟩ := sd_freeHole l (E := E) (o := o) hB h
  rw [gT_eta] at hC
  have C' := C.wide hR.1 hR.2
  refine G.wide (cl' := cl + 1) (sl' := sl + 6) (by omega) (by omega) ?_
  refine G.aldn1 C' dL_law_1300 ?_
  refine G.callVI0 C' hC (cwV 0 C.1.2.2.2.2 gL_law_X3_freeHole rfl rfl rfl (by decide +kernel) ⟨(Nat.le_of_ble_eq_true rfl), (Nat.le_of_ble_eq_true rfl)⟩) (rfl : gO 9 0 = some 3) rfl (Nat.le_of_ble_eq_true rfl) dL_law_1301 ?_
  refine G.aldn2 C' dL_law_1304 ?_
  refine G.callVI0 C' hM (cwV 0 C.1.2.2.2.2 gL_law_X4_freeHole rfl rfl rfl (by decide +kernel) ⟨(Nat.le_of_ble_eq_true rfl), (Nat.le_of_ble_eq_true rfl)⟩) (rfl : gO 10 0 = some 4) rfl (Nat.le_of_ble_eq_true rfl) dL_law_1305 ?_
  refine G.icmp_eq C' 1381 dL_law_1308 (by decide) (fun _ => ?_) (fun hc => absurd rfl hc)
  exact G.back (kk _ _ _ hB') rfl ⟨rfl, rfl, rfl, rfl, rfl, trivial⟩
set_option maxRecDepth 100000 in
set_option maxHeartbeats 4000000 in
theorem law_lateIsAsGood {p : Program} {l : Launch} {e : Env} {s : State} {m : MethodId} {args : Array Value} {below : List Frame} {meth : Method} {c : Code} {Q : State → Prop} {E : gEn} {B : Nat} {σ : gSt} {π : Nat → Nat} {o : Int64} {b L i cl sl : Nat} {xs : Nat → Int32} (hst : l.stackTraces = false) (C : gCx p s m c cL_law 9 RL wsL_law args E (lA s) room_1 cl sl) (hX : gX E s) (hY : gY s) (hXs : va_X b L xs s s.heap) (hbl : b < s.heap.size) (hi : i + 4 ≤ L) (hL : L ≤ 2048) (hB : B < 2 ^ 29) (h : Big B σ π) (hR : cl + 1 ≤ room_1.cells ∧ sl + 6 ≤ room_1.slots) (kk : ∀ (σ' : gSt) (π' : Nat → Nat) (o' : Int64), Big (B + 1500) σ' π' → G p l e room_1 s m args below meth c 9 (cl + 1) (sl + 6) (lA s) Q E σ' π' o' 1381 [some (.ref b), some (.ref (E.2.1 9 0)), some (.ref (E.2.1 10 0)), some (.ref (E.2.1 11 0)), some (.int (nI i)), none, none, none, none] []) : G p l e room_1 s m args below meth c 9 cl sl (lA s) Q E σ π o 1313 [some (.ref b), some (.ref (E.2.1 9 0)), some (.ref (E.2.1 10 0)), some (.ref (E.2.1 11 0)), some (.int (nI i)), none, none, none, none] [] := by
  have hbA : ¬ lA s b := Nat.not_le.mpr hbl
  obtain ⟨a, σ1, π1, d1, hC, hM, hB'⟩ := sd_lateIsAsGood l (E := E) (o := o) hB h
  rw [gT_eta] at hC
  have C' := C.wide hR.1 hR.2
  refine G.wide (cl' := cl + 1) (sl' := sl + 6) (by omega) (by omega) ?_
  refine G.aldn1 C' dL_law_1313 ?_
  refine G.callVI0 C' hC (cwV 0 C.1.2.2.2.2 gL_law_X3_lateIsAsGood rfl rfl rfl (by decide +kernel) ⟨(Nat.le_of_ble_eq_true rfl), (Nat.le_of_ble_eq_true rfl)⟩) (rfl : gO 9 0 = some 3) rfl (Nat.le_of_ble_eq_true rfl) dL_law_1314 ?_
  refine G.aldn2 C' dL_law_1317 ?_
  refine G.callVI0 C' hM (cwV 0 C.1.2.2.2.2 gL_law_X4_lateIsAsGood rfl rfl rfl (by decide +kernel) ⟨(Nat.le_of_ble_eq_true rfl), (Nat.le_of_ble_eq_true rfl)⟩) (rfl : gO 10 0 = some 4) rfl (Nat.le_of_ble_eq_true rfl) dL_law_1318 ?_
  refine G.icmp_eq C' 1381 dL_law_1321 (by decide) (fun _ => ?_) (fun hc => absurd rfl hc)
  exact G.back (kk _ _ _ hB') rfl ⟨rfl, rfl, rfl, rfl, rfl, trivial⟩
set_option maxRecDepth 100000 in
set_option maxHeartbeats 4000000 in
theorem law_homeShare {p : Program} {l : Launch} {e : Env} {s : State} {m : MethodId} {args : Array Value} {below : List Frame} {meth : Method} {c : Code} {Q : State → Prop} {E : gEn} {B : Nat} {σ : gSt} {π : Nat → Nat} {o : Int64} {b L i cl sl : Nat} {xs : Nat → Int32} (hst : l.stackTraces = false) (C : gCx p s m c cL_law 9 RL wsL_law args E (lA s) room_1 cl sl) (hX : gX E s) (hY : gY s) (hXs : va_X b L xs s s.heap) (hbl : b < s.heap.size) (hi : i + 4 ≤ L) (hL : L ≤ 2048) (hB : B < 2 ^ 29) (h : Big B σ π) (hR : cl + 1 ≤ room_1.cells ∧ sl + 6 ≤ room_1.slots) (kk : ∀ (σ' : gSt) (π' : Nat → Nat) (o' : Int64), Big (B + 1500) σ' π' → G p l e room_1 s m args below meth c 9 (cl + 1) (sl + 6) (lA s) Q E σ' π' o' 1381 [some (.ref b), some (.ref (E.2.1 9 0)), some (.ref (E.2.1 10 0)), some (.ref (E.2.1 11 0)), some (.int (nI i)), none, none, none, none] []) : G p l e room_1 s m args below meth c 9 cl sl (lA s) Q E σ π o 1326 [some (.ref b), some (.ref (E.2.1 9 0)), some (.ref (E.2.1 10 0)), some (.ref (E.2.1 11 0)), some (.int (nI i)), none, none, none, none] [] := by
  have hbA : ¬ lA s b := Nat.not_le.mpr hbl
  obtain ⟨a, σ1, π1, d1, hC, hM, hB'⟩ := sd_homeShare l (E := E) (o := o) hB h
  rw [gT_eta] at hC
  have C' := C.wide hR.1 hR.2
  refine G.wide (cl' := cl + 1) (sl' := sl + 6) (by omega) (by omega) ?_
  refine G.aldn1 C' dL_law_1326 ?_
  refine G.callVD0 C' hC (cwV 0 C.1.2.2.2.2 gL_law_X3_homeShare rfl rfl rfl (by decide +kernel) ⟨(Nat.le_of_ble_eq_true rfl), (Nat.le_of_ble_eq_true rfl)⟩) (rfl : gO 9 0 = some 3) rfl (Nat.le_of_ble_eq_true rfl) dL_law_1327 ?_
  refine G.dst5 C' dL_law_1330 (by omega) rfl ?_
  refine G.aldn2 C' dL_law_1332 ?_
  refine G.callVD0 C' hM (cwV 0 C.1.2.2.2.2 gL_law_X4_homeShare rfl rfl rfl (by decide +kernel) ⟨(Nat.le_of_ble_eq_true rfl), (Nat.le_of_ble_eq_true rfl)⟩) (rfl : gO 10 0 = some 4) rfl (Nat.le_of_ble_eq_true rfl) dL_law_1333 ?_
  refine G.dst7 C' dL_law_1336 (by omega) rfl ?_
  refine G.dld5 C' dL_law_1338 ?_
  refine G.dld7 C' dL_law_1340 ?_
  refine G.dcmp C' dL_law_1342 ?_
  refine G.if_eq C' 1364 dL_law_1343 (by decide) (fun _ => ?_) (fun hc => ?_)
  · refine G.goto C' 1381 dL_law_1364 (by decide) ?_
    exact G.back (kk _ _ _ hB') rfl ⟨rfl, rfl, rfl, rfl, rfl, trivial⟩
  refine G.dld5 C' dL_law_1346 ?_
  refine G.dld5 C' dL_law_1348 ?_
  refine G.dcmp C' dL_law_1350 ?_
  refine G.if_eq C' 1362 dL_law_1351 (by decide) (fun hc2 => absurd hc2 hc) (fun _ => ?_)
  refine G.dld7 C' dL_law_1354 ?_
  refine G.dld7 C' dL_law_1356 ?_
  refine G.dcmp C' dL_law_1358 ?_
  refine G.if_ne C' 1364 dL_law_1359 (by decide) (fun _ => ?_) (fun hc2 => absurd hc2 hc)
  refine G.goto C' 1381 dL_law_1364 (by decide) ?_
  exact G.back (kk _ _ _ hB') rfl ⟨rfl, rfl, rfl, rfl, rfl, trivial⟩
set_option maxRecDepth 100000 in
set_option maxHeartbeats 4000000 in
theorem law_digest {p : Program} {l : Launch} {e : Env} {s : State} {m : MethodId} {args : Array Value} {below : List Frame} {meth : Method} {c : Code} {Q : State → Prop} {E : gEn} {B : Nat} {σ : gSt} {π : Nat → Nat} {o : Int64} {b L i cl sl : Nat} {xs : Nat → Int32} (hst : l.stackTraces = false) (C : gCx p s m c cL_law 9 RL wsL_law args E (lA s) room_1 cl sl) (hX : gX E s) (hY : gY s) (hXs : va_X b L xs s s.heap) (hbl : b < s.heap.size) (hi : i + 4 ≤ L) (hL : L ≤ 2048) (hB : B < 2 ^ 29) (h : Big B σ π) (hR : cl + 1 ≤ room_1.cells ∧ sl + 6 ≤ room_1.slots) (kk : ∀ (σ' : gSt) (π' : Nat → Nat) (o' : Int64), Big (B + 1500) σ' π' → G p l e room_1 s m args below meth c 9 (cl + 1) (sl + 6) (lA s) Q E σ' π' o' 1381 [some (.ref b), some (.ref (E.2.1 9 0)), some (.ref (E.2.1 10 0)), some (.ref (E.2.1 11 0)), some (.int (nI i)), none, none, none, none] []) : G p l e room_1 s m args below meth c 9 cl sl (lA s) Q E σ π o 1367 [some (.ref b), some (.ref (E.2.1 9 0)), some (.ref (E.2.1 10 0)), some (.ref (E.2.1 11 0)), some (.int (nI i)), none, none, none, none] [] := by
  have hbA : ¬ lA s b := Nat.not_le.mpr hbl
  obtain ⟨a, σ1, π1, d1, hC, hM, hB'⟩ := sd_digest l (E := E) (o := o) hB h
  rw [gT_eta] at hC
  have C' := C.wide hR.1 hR.2
  refine G.wide (cl' := cl + 1) (sl' := sl + 6) (by omega) (by omega) ?_
  refine G.aldn1 C' dL_law_1367 ?_
  refine G.callVL0 C' hC (cwV 0 C.1.2.2.2.2 gL_law_X3_digest rfl rfl rfl (by decide +kernel) ⟨(Nat.le_of_ble_eq_true rfl), (Nat.le_of_ble_eq_true rfl)⟩) (rfl : gO 9 0 = some 3) rfl (Nat.le_of_ble_eq_true rfl) dL_law_1368 ?_
  refine G.aldn2 C' dL_law_1371 ?_
  refine G.callVL0 C' hM (cwV 0 C.1.2.2.2.2 gL_law_X4_digest rfl rfl rfl (by decide +kernel) ⟨(Nat.le_of_ble_eq_true rfl), (Nat.le_of_ble_eq_true rfl)⟩) (rfl : gO 10 0 = some 4) rfl (Nat.le_of_ble_eq_true rfl) dL_law_1372 ?_
  refine G.lcmp C' dL_law_1375 ?_
  refine G.topI 0 (lg_cmp_self _) ?_
  refine G.if_eq C' 1381 dL_law_1376 (by decide) (fun _ => ?_) (fun hc => absurd rfl hc)
  exact G.back (kk _ _ _ hB') rfl ⟨rfl, rfl, rfl, rfl, rfl, trivial⟩
