set_option maxRecDepth 100000 in
set_option maxHeartbeats 4000000 in
theorem k_X4_digest (l : Launch) {E : gEn} {σ : gSt} {π : Nat → Nat} {o : Int64} {d : cSt} {moN : Nat} (hok : mOK d) (hmo : d 1 171 = nI moN) (h24 : moN ≤ 24) {aN : Nat} (hA : mAll d = nI aN) (ha : aN ≤ 16) {stN : Nat} (hst : d 1 180 = nI stN) (h25 : stN ≤ 25) {L : Nat} (hL : d 0 8 = nI L) (h60 : L ≤ 60) : CtL l yX4_digest wsX4_digest ({ frames := 8, cells := 0, slots := 0, locals := 182 } : Room) E [.ref (E.2.1 10 0)] (gU σ 10 d) π o (mDig (cW d 0 0 0) (dgS (cW d 0 0 0) 16) stN L) (gU σ 10 (mA (dgS (cW d 0 0 0) 16))) π o := by
  refine CtL.of (cc := cX4_digest) (own := RX4) (maxL := 5) (ret := (some .long)) [some (.ref (E.2.1 10 0)), none, none, none, none] (by decide) rfl rfl (Nat.le_of_ble_eq_true rfl) rfl ?_
  intro p e s m args below meth cd C hrt hlk
  have hinX4 : ∀ w ∈ wsX40, w ∈ wsX4_digest := by decide +kernel
  have hAT : mAll (mA (dgS (cW d 0 0 0) 16)) = nI aN := by
    rw [show mAll (mA (dgS (cW d 0 0 0) 16)) = mAll d from ?_]
    · exact hA
    · unfold mAll; rw [mA_1, dgS_1, cW0 (by decide)]
  have hLT : mA (dgS (cW d 0 0 0) 16) 0 8 = nI L := by
    rw [mA_0, dgS_o (by decide)]; exact hL
  refine G.aldn0 C dX4_digest_0 ?_
  refine G.iconst C 0 dX4_digest_1 (by decide) ?_
  refine G.putD (ty := .int) C hinX4 0 (by decide) rfl (C.1.2.2.2.2 (.fieldLink RX4 25 RX4 "thrown" "I") (by decide +kernel)) rfl rfl rfl rfl pfX4_0 dX4_digest_2 ?_
  refine G.ldc2 C (v := 3889) (C.1.2.2.2.2 (.constantLong RX4 184 3889) (by decide +kernel)) dX4_digest_5 ?_
  refine G.lstn1 C dX4_digest_8 (by omega) rfl ?_
  refine G.iconst C 0 dX4_digest_9 (by decide) ?_
  refine G.istn3 C dX4_digest_10 (by omega) rfl ?_
  have L11 : ∀ (n k : Nat), k + n = 18 → G p l e ({ frames := 8, cells := 0, slots := 0, locals := 182 } : Room) s m args below meth cd 5 0 0 (gA E) (gQL below args s (mDig (cW d 0 0 0) (dgS (cW d 0 0 0) 16) stN L) E (gU σ 10 (mA (dgS (cW d 0 0 0) 16))) π o) E (gU σ 10 (cW d 0 0 0)) π o 11 [some (.ref (E.2.1 10 0)), some (.long (dgF (fun k => mNumN (cW d 0 0 0) (nI k)) k 3889)), none, some (.int (nI k)), none] [] := by
    intro n
    induction n with
    | zero =>
      intro k hk
      obtain rfl : 18 = k := by omega
      refine G.ildn3 C dX4_digest_11 ?_
      refine G.bipush C 18 dX4_digest_12 (by decide) ?_
      refine G.icmp_ge C 36 dX4_digest_14 (by decide) (fun _ => ?_) (fun h => absurd (nI_le (a := 18) (b := 18) (by omega) (by decide)) h)
      refine G.iconst C 0 dX4_digest_36 (by decide) ?_
      refine G.istn3 C dX4_digest_37 (by omega) rfl ?_
      have L38 : ∀ (n k : Nat), k + n = 16 → G p l e ({ frames := 8, cells := 0, slots := 0, locals := 182 } : Room) s m args below meth cd 5 0 0 (gA E) (gQL below args s (mDig (cW d 0 0 0) (dgS (cW d 0 0 0) 16) stN L) E (gU σ 10 (mA (dgS (cW d 0 0 0) 16))) π o) E (gU σ 10 (dgS (cW d 0 0 0) k)) π o 38 [some (.ref (E.2.1 10 0)), some (.long (dgE (cW d 0 0 0) k (dgF (fun k => mNumN (cW d 0 0 0) (nI k)) 18 3889))), none, some (.int (nI k)), none] [] := by
        intro n
        induction n with
        | zero =>
          intro k hk
          obtain rfl : 16 = k := by omega
          refine G.ildn3 C dX4_digest_38 ?_
          refine G.bipush C 16 dX4_digest_39 (by decide) ?_
          refine G.icmp_ge C 147 dX4_digest_41 (by decide) (fun _ => ?_) (fun h => absurd (nI_le (a := 16) (b := 16) (by omega) (by decide)) h)
          refine G.iconst C 0 dX4_digest_147 (by decide) ?_
          refine G.istn3 C dX4_digest_148 (by omega) rfl ?_
          have L149 : ∀ (n k : Nat), k + n = 72 → G p l e ({ frames := 8, cells := 0, slots := 0, locals := 182 } : Room) s m args below meth cd 5 0 0 (gA E) (gQL below args s (mDig (cW d 0 0 0) (dgS (cW d 0 0 0) 16) stN L) E (gU σ 10 (mA (dgS (cW d 0 0 0) 16))) π o) E (gU σ 10 (dgS (cW d 0 0 0) 16)) π o 149 [some (.ref (E.2.1 10 0)), some (.long (dgF (fun k => mHoleN (dgS (cW d 0 0 0) 16) (nI k / 3) (nI k - nI k / 3 * 3)) k (dg1 (cW d 0 0 0)))), none, some (.int (nI k)), none] [] := by
            intro n
            induction n with
            | zero =>
              intro k hk
              obtain rfl : 72 = k := by omega
              refine G.ildn3 C dX4_digest_149 ?_
              refine G.bipush C 72 dX4_digest_150 (by decide) ?_
              refine G.icmp_ge C 179 dX4_digest_152 (by decide) (fun _ => ?_) (fun h => absurd (nI_le (a := 72) (b := 72) (by omega) (by decide)) h)
              refine G.iconst C 0 dX4_digest_179 (by decide) ?_
              refine G.istn3 C dX4_digest_180 (by omega) rfl ?_
              have L181 : ∀ (n k : Nat), k + n = (2 * stN) → G p l e ({ frames := 8, cells := 0, slots := 0, locals := 182 } : Room) s m args below meth cd 5 0 0 (gA E) (gQL below args s (mDig (cW d 0 0 0) (dgS (cW d 0 0 0) 16) stN L) E (gU σ 10 (mA (dgS (cW d 0 0 0) 16))) π o) E (gU σ 10 (dgS (cW d 0 0 0) 16)) π o 181 [some (.ref (E.2.1 10 0)), some (.long (dgF (fun k => (dgS (cW d 0 0 0) 16) 1 (181 + k)) k (dg2 (cW d 0 0 0) (dgS (cW d 0 0 0) 16)))), none, some (.int (nI k)), none] [] := by
                intro n
                induction n with
                | zero =>
                  intro k hk
                  obtain rfl : (2 * stN) = k := by omega
                  refine G.ildn3 C dX4_digest_181 ?_
                  refine G.iconst C 2 dX4_digest_182 (by decide) ?_
                  refine G.aldn0 C dX4_digest_183 ?_
                  refine G.getD C hinX4 1 (by decide) rfl (C.1.2.2.2.2 (.fieldLink RX4 7 RX4 "z" "[I") (by decide +kernel)) rfl dX4_digest_184 ?_
                  refine G.sipush C 180 dX4_digest_187 (by decide) ?_
                  refine G.ialdU C (n := 232) (j := 1) (d0 := 180) rfl (gV_d (by omega)) (by unfold vp_in; decide) (by decide) dX4_digest_190 ?_
                  refine G.topI (nI stN) (by rw [dgS_1, cW0 (by decide)]; exact hst) ?_
                  refine G.imul C dX4_digest_191 ?_
                  refine G.topI (nI (2 * stN)) (pk_mul 2 stN) ?_
                  refine G.icmp_ge C 219 dX4_digest_192 (by decide) (fun _ => ?_) (fun h => absurd (nI_le (a := 2 * stN) (b := 2 * stN) (by omega) (by omega)) h)
                  refine G.ldc2 C (v := 31) (C.1.2.2.2.2 (.constantLong RX4 186 31) (by decide +kernel)) dX4_digest_219 ?_
                  refine G.ldc2 C (v := 31) (C.1.2.2.2.2 (.constantLong RX4 186 31) (by decide +kernel)) dX4_digest_222 ?_
                  refine G.lldn1 C dX4_digest_225 ?_
                  refine G.lmul C dX4_digest_226 ?_
                  refine G.aldn0 C dX4_digest_227 ?_
                  refine G.getD C hinX4 1 (by decide) rfl (C.1.2.2.2.2 (.fieldLink RX4 7 RX4 "z" "[I") (by decide +kernel)) rfl dX4_digest_228 ?_
                  refine G.sipush C 178 dX4_digest_231 (by decide) ?_
                  refine G.ialdU C (n := 232) (j := 1) (d0 := 178) rfl (gV_d (by omega)) (by unfold vp_in; decide) (by decide) dX4_digest_234 ?_
                  refine G.i2l C dX4_digest_235 ?_
                  refine G.ladd C dX4_digest_236 ?_
                  refine G.lmul C dX4_digest_237 ?_
                  refine G.aldn0 C dX4_digest_238 ?_
                  refine G.getD C hinX4 1 (by decide) rfl (C.1.2.2.2.2 (.fieldLink RX4 7 RX4 "z" "[I") (by decide +kernel)) rfl dX4_digest_239 ?_
                  refine G.sipush C 179 dX4_digest_242 (by decide) ?_
                  refine G.ialdU C (n := 232) (j := 1) (d0 := 179) rfl (gV_d (by omega)) (by unfold vp_in; decide) (by decide) dX4_digest_245 ?_
                  refine G.i2l C dX4_digest_246 ?_
                  refine G.ladd C dX4_digest_247 ?_
                  refine G.lstn1 C dX4_digest_248 (by omega) rfl ?_
                  refine G.ldc2 C (v := 31) (C.1.2.2.2.2 (.constantLong RX4 186 31) (by decide +kernel)) dX4_digest_249 ?_
                  refine G.ldc2 C (v := 31) (C.1.2.2.2.2 (.constantLong RX4 186 31) (by decide +kernel)) dX4_digest_252 ?_
                  refine G.lldn1 C dX4_digest_255 ?_
                  refine G.lmul C dX4_digest_256 ?_
                  refine G.aldn0 C dX4_digest_257 ?_
                  refine G.callVI0 C (k_X4_findHole l (d := (dgS (cW d 0 0 0) 16))) (cwV 0 C.1.2.2.2.2 gX4_digest_X4_findHole rfl rfl rfl (by decide +kernel) ⟨Nat.le_of_ble_eq_true rfl, Nat.le_of_ble_eq_true rfl⟩) gO_d rfl (Nat.le_of_ble_eq_true rfl) dX4_digest_258 ?_
                  refine G.i2l C dX4_digest_261 ?_
                  refine G.ladd C dX4_digest_262 ?_
                  refine G.lmul C dX4_digest_263 ?_
                  refine G.aldn0 C dX4_digest_264 ?_
                  refine G.callVI0 C (k_X4_asGood l (d := (dgS (cW d 0 0 0) 16)) (mOK_1 ((dgS_1 16).trans (cW0 (by decide))) hok) (by rw [dgS_1, cW0 (by decide)]; exact hmo) h24) (cwV 0 C.1.2.2.2.2 gX4_digest_X4_asGood rfl rfl rfl (by decide +kernel) ⟨Nat.le_of_ble_eq_true rfl, Nat.le_of_ble_eq_true rfl⟩) gO_d rfl (Nat.le_of_ble_eq_true rfl) dX4_digest_265 ?_
                  refine G.i2l C dX4_digest_268 ?_
                  refine G.ladd C dX4_digest_269 ?_
                  refine G.lstn1 C dX4_digest_270 (by omega) rfl ?_
                  refine G.ldc2 C (v := 31) (C.1.2.2.2.2 (.constantLong RX4 186 31) (by decide +kernel)) dX4_digest_271 ?_
                  refine G.lldn1 C dX4_digest_274 ?_
                  refine G.lmul C dX4_digest_275 ?_
                  refine G.aldn0 C dX4_digest_276 ?_
                  refine G.callVD0 C (k_X4_share l (d := mA (dgS (cW d 0 0 0) 16)) (aN := aN) hAT ha) (cwV 0 C.1.2.2.2.2 gX4_digest_X4_share rfl rfl rfl (by decide +kernel) ⟨Nat.le_of_ble_eq_true rfl, Nat.le_of_ble_eq_true rfl⟩) gO_d rfl (Nat.le_of_ble_eq_true rfl) dX4_digest_277 ?_
                  refine G.callSL1 C (k_J_d2l l (mShare_ok hAT ha)) (va_cwS 1 C.1.2.2.2.2 gX4_digest_Jxe99ae_doubleToLongBits_ccdee rfl rfl rfl (by decide +kernel) ⟨Nat.le_of_ble_eq_true rfl, Nat.le_of_ble_eq_true rfl⟩) (Nat.le_of_ble_eq_true rfl) dX4_digest_280 ?_
                  refine G.ladd C dX4_digest_283 ?_
                  refine G.lstn1 C dX4_digest_284 (by omega) rfl ?_
                  refine G.ldc2 C (v := 31) (C.1.2.2.2.2 (.constantLong RX4 186 31) (by decide +kernel)) dX4_digest_285 ?_
                  refine G.lldn1 C dX4_digest_288 ?_
                  refine G.lmul C dX4_digest_289 ?_
                  refine G.aldn0 C dX4_digest_290 ?_
                  refine G.getD C hinX4 8 (by decide) rfl (C.1.2.2.2.2 (.fieldLink RX4 118 RX4 "length" "I") (by decide +kernel)) rfl dX4_digest_291 ?_
                  refine G.i2l C dX4_digest_294 ?_
                  refine G.ladd C dX4_digest_295 ?_
                  refine G.lstn1 C dX4_digest_296 (by omega) rfl ?_
                  refine G.iconst C 0 dX4_digest_297 (by decide) ?_
                  refine G.istn3 C dX4_digest_298 (by omega) rfl ?_
                  have L299 : ∀ (n k : Nat), k + n = L → G p l e ({ frames := 8, cells := 0, slots := 0, locals := 182 } : Room) s m args below meth cd 5 0 0 (gA E) (gQL below args s (mDig (cW d 0 0 0) (dgS (cW d 0 0 0) 16) stN L) E (gU σ 10 (mA (dgS (cW d 0 0 0) 16))) π o) E (gU σ 10 (mA (dgS (cW d 0 0 0) 16))) π o 299 [some (.ref (E.2.1 10 0)), some (.long (dgF (fun k => mA (dgS (cW d 0 0 0) 16) 5 k) k (dg5 (cW d 0 0 0) (dgS (cW d 0 0 0) 16) stN))), none, some (.int (nI k)), none] [] := by
                    intro n
                    induction n with
                    | zero =>
                      intro k hk
                      obtain rfl : L = k := by omega
                      refine G.ildn3 C dX4_digest_299 ?_
                      refine G.aldn0 C dX4_digest_300 ?_
                      refine G.getD C hinX4 8 (by decide) rfl (C.1.2.2.2.2 (.fieldLink RX4 118 RX4 "length" "I") (by decide +kernel)) rfl dX4_digest_301 ?_
                      refine G.topI (nI L) hLT ?_
                      refine G.icmp_ge C 327 dX4_digest_304 (by decide) (fun _ => ?_) (fun h => absurd (nI_le (a := L) (b := L) (by omega) (by omega)) h)
                      refine G.lldn1 C dX4_digest_327 ?_
                      exact G.lret C hlk hrt dX4_digest_328 (by rfl) (by exact fun _ h => h)
                    | succ n ih =>
                      intro k hk
                      have hk2 : k < L := by omega
                      refine G.ildn3 C dX4_digest_299 ?_
                      refine G.aldn0 C dX4_digest_300 ?_
                      refine G.getD C hinX4 8 (by decide) rfl (C.1.2.2.2.2 (.fieldLink RX4 118 RX4 "length" "I") (by decide +kernel)) rfl dX4_digest_301 ?_
                      refine G.topI (nI L) hLT ?_
                      refine G.icmp_ge C 327 dX4_digest_304 (by decide) (fun h => absurd h (nI_ge (b := L) hk2 (by omega))) (fun _ => ?_)
                      refine G.ldc2 C (v := 31) (C.1.2.2.2.2 (.constantLong RX4 186 31) (by decide +kernel)) dX4_digest_307 ?_
                      refine G.lldn1 C dX4_digest_310 ?_
                      refine G.lmul C dX4_digest_311 ?_
                      refine G.aldn0 C dX4_digest_312 ?_
                      refine G.getD C hinX4 7 (by decide) rfl (C.1.2.2.2.2 (.fieldLink RX4 22 RX4 "text" "[I") (by decide +kernel)) rfl dX4_digest_313 ?_
                      refine G.ildn3 C dX4_digest_316 ?_
                      refine G.ialdU C (n := 60) (j := 5) (d0 := k) rfl (gV_d (by omega)) (by first | assumption | exact vp_in_nI (by omega) (by omega) | (unfold vp_in; decide)) (ix_nI (by omega)) dX4_digest_317 ?_
                      refine G.i2l C dX4_digest_318 ?_
                      refine G.ladd C dX4_digest_319 ?_
                      refine G.lstn1 C dX4_digest_320 (by omega) rfl ?_
                      refine G.iincN3 C dX4_digest_321 (by omega) rfl ?_
                      refine G.goto C 299 dX4_digest_324 (by decide) ?_
                      exact G.back (ih (k + 1) (by omega) ) rfl ⟨(by first | with_reducible rfl | (rw [dgF_s (n := k)]; done) | (exact congrArg (fun z => some (Value.int z)) (nI_s1 k))), (by first | with_reducible rfl | (rw [dgF_s (n := k)]; done) | (exact congrArg (fun z => some (Value.int z)) (nI_s1 k))), (by first | with_reducible rfl | (rw [dgF_s (n := k)]; done) | (exact congrArg (fun z => some (Value.int z)) (nI_s1 k))), trivial⟩
                  exact G.back (L299 L 0 (Nat.zero_add _) ) rfl ⟨(by first | with_reducible rfl | (rw [dgF_0, dg5, dg4, dg3]; done) | rfl), (by first | with_reducible rfl | (rw [dgF_0, dg5, dg4, dg3]; done) | rfl), (by first | with_reducible rfl | (rw [dgF_0, dg5, dg4, dg3]; done) | rfl), trivial⟩
                | succ n ih =>
                  intro k hk
                  have hk2 : k < (2 * stN) := by omega
                  refine G.ildn3 C dX4_digest_181 ?_
                  refine G.iconst C 2 dX4_digest_182 (by decide) ?_
                  refine G.aldn0 C dX4_digest_183 ?_
                  refine G.getD C hinX4 1 (by decide) rfl (C.1.2.2.2.2 (.fieldLink RX4 7 RX4 "z" "[I") (by decide +kernel)) rfl dX4_digest_184 ?_
                  refine G.sipush C 180 dX4_digest_187 (by decide) ?_
                  refine G.ialdU C (n := 232) (j := 1) (d0 := 180) rfl (gV_d (by omega)) (by unfold vp_in; decide) (by decide) dX4_digest_190 ?_
                  refine G.topI (nI stN) (by rw [dgS_1, cW0 (by decide)]; exact hst) ?_
                  refine G.imul C dX4_digest_191 ?_
                  refine G.topI (nI (2 * stN)) (pk_mul 2 stN) ?_
                  refine G.icmp_ge C 219 dX4_digest_192 (by decide) (fun h => absurd h (nI_ge (b := 2 * stN) hk2 (by omega))) (fun _ => ?_)
                  refine G.ldc2 C (v := 31) (C.1.2.2.2.2 (.constantLong RX4 186 31) (by decide +kernel)) dX4_digest_195 ?_
                  refine G.lldn1 C dX4_digest_198 ?_
                  refine G.lmul C dX4_digest_199 ?_
                  refine G.aldn0 C dX4_digest_200 ?_
                  refine G.getD C hinX4 1 (by decide) rfl (C.1.2.2.2.2 (.fieldLink RX4 7 RX4 "z" "[I") (by decide +kernel)) rfl dX4_digest_201 ?_
                  refine G.sipush C 181 dX4_digest_204 (by decide) ?_
                  refine G.ildn3 C dX4_digest_207 ?_
                  refine G.iadd C dX4_digest_208 ?_
                  refine G.ialdU C (n := 232) (j := 1) (d0 := (181 + k)) rfl (gV_d (by omega)) (stq_in hk2 h25).1 (stq_in hk2 h25).2 dX4_digest_209 ?_
                  refine G.i2l C dX4_digest_210 ?_
                  refine G.ladd C dX4_digest_211 ?_
                  refine G.lstn1 C dX4_digest_212 (by omega) rfl ?_
                  refine G.iincN3 C dX4_digest_213 (by omega) rfl ?_
                  refine G.goto C 181 dX4_digest_216 (by decide) ?_
                  exact G.back (ih (k + 1) (by omega) ) rfl ⟨(by first | with_reducible rfl | (rw [dgF_s (n := k)]; done) | (exact congrArg (fun z => some (Value.int z)) (nI_s1 k))), (by first | with_reducible rfl | (rw [dgF_s (n := k)]; done) | (exact congrArg (fun z => some (Value.int z)) (nI_s1 k))), (by first | with_reducible rfl | (rw [dgF_s (n := k)]; done) | (exact congrArg (fun z => some (Value.int z)) (nI_s1 k))), trivial⟩
              exact G.back (L181 (2 * stN) 0 (Nat.zero_add _) ) rfl ⟨(by first | with_reducible rfl | (rw [dgF_0, dg2]; done) | rfl), (by first | with_reducible rfl | (rw [dgF_0, dg2]; done) | rfl), (by first | with_reducible rfl | (rw [dgF_0, dg2]; done) | rfl), trivial⟩
            | succ n ih =>
              intro k hk
              have hk2 : k < 72 := by omega
              refine G.ildn3 C dX4_digest_149 ?_
              refine G.bipush C 72 dX4_digest_150 (by decide) ?_
              refine G.icmp_ge C 179 dX4_digest_152 (by decide) (fun h => absurd h (nI_ge (b := 72) hk2 (by decide))) (fun _ => ?_)
              refine G.ldc2 C (v := 31) (C.1.2.2.2.2 (.constantLong RX4 186 31) (by decide +kernel)) dX4_digest_155 ?_
              refine G.lldn1 C dX4_digest_158 ?_
              refine G.lmul C dX4_digest_159 ?_
              refine G.aldn0 C dX4_digest_160 ?_
              refine G.ildn3 C dX4_digest_161 ?_
              refine G.iconst C 3 dX4_digest_162 (by decide) ?_
              refine G.idiv C dX4_digest_163 (by decide) ?_
              refine G.ildn3 C dX4_digest_164 ?_
              refine G.iconst C 3 dX4_digest_165 (by decide) ?_
              refine G.irem C dX4_digest_166 (by decide) ?_
              refine G.callVI2 C (k_X4_holeNow l (d := (dgS (cW d 0 0 0) 16)) (hol_in hk2)) (cwV 2 C.1.2.2.2.2 gX4_digest_X4_holeNow rfl rfl rfl (by decide +kernel) ⟨Nat.le_of_ble_eq_true rfl, Nat.le_of_ble_eq_true rfl⟩) gO_d rfl (Nat.le_of_ble_eq_true rfl) dX4_digest_167 ?_
              refine G.i2l C dX4_digest_170 ?_
              refine G.ladd C dX4_digest_171 ?_
              refine G.lstn1 C dX4_digest_172 (by omega) rfl ?_
              refine G.iincN3 C dX4_digest_173 (by omega) rfl ?_
              refine G.goto C 149 dX4_digest_176 (by decide) ?_
              exact G.back (ih (k + 1) (by omega) ) rfl ⟨(by first | with_reducible rfl | (rw [dgF_s (n := k)]; done) | (exact congrArg (fun z => some (Value.int z)) (nI_s1 k))), (by first | with_reducible rfl | (rw [dgF_s (n := k)]; done) | (exact congrArg (fun z => some (Value.int z)) (nI_s1 k))), (by first | with_reducible rfl | (rw [dgF_s (n := k)]; done) | (exact congrArg (fun z => some (Value.int z)) (nI_s1 k))), trivial⟩
          exact G.back (L149 72 0 (Nat.zero_add _) ) rfl ⟨(by first | with_reducible rfl | (rw [dgF_0, dg1]; done) | rfl), (by first | with_reducible rfl | (rw [dgF_0, dg1]; done) | rfl), (by first | with_reducible rfl | (rw [dgF_0, dg1]; done) | rfl), trivial⟩
        | succ n ih =>
          intro k hk
          have hk2 : k < 16 := by omega
          refine G.ildn3 C dX4_digest_38 ?_
          refine G.bipush C 16 dX4_digest_39 (by decide) ?_
          refine G.icmp_ge C 147 dX4_digest_41 (by decide) (fun h => absurd h (nI_ge (b := 16) hk2 (by decide))) (fun _ => ?_)
          refine G.aldn0 C dX4_digest_44 ?_
          refine G.ildn3 C dX4_digest_45 ?_
          refine G.callVI1 C (k_X4_isDove l) (cwV 1 C.1.2.2.2.2 gX4_digest_X4_isDove rfl rfl rfl (by decide +kernel) ⟨Nat.le_of_ble_eq_true rfl, Nat.le_of_ble_eq_true rfl⟩) gO_d rfl (Nat.le_of_ble_eq_true rfl) dX4_digest_46 ?_
          refine G.if_eqB C 141 dX4_digest_49 (by decide) (fun h49 => ?_) (fun h49 => ?_)
          · refine G.iincN3 C dX4_digest_141 (by omega) rfl ?_
            refine G.goto C 38 dX4_digest_144 (by decide) ?_
            exact G.back (ih (k + 1) (by omega) ) (by first | (rw [dgS, if_pos h49]; done) | (rw [dgS, if_neg (by rw [h49]; decide)])) ⟨(by first | with_reducible rfl | (rw [dgE, if_pos h49]; done) | (rw [dgE, if_neg (by rw [h49]; decide)]; done) | (exact congrArg (fun z => some (Value.int z)) (nI_s1 k))), (by first | with_reducible rfl | (rw [dgE, if_pos h49]; done) | (rw [dgE, if_neg (by rw [h49]; decide)]; done) | (exact congrArg (fun z => some (Value.int z)) (nI_s1 k))), (by first | with_reducible rfl | (rw [dgE, if_pos h49]; done) | (rw [dgE, if_neg (by rw [h49]; decide)]; done) | (exact congrArg (fun z => some (Value.int z)) (nI_s1 k))), trivial⟩
          · refine G.ldc2 C (v := 31) (C.1.2.2.2.2 (.constantLong RX4 186 31) (by decide +kernel)) dX4_digest_52 ?_
            refine G.lldn1 C dX4_digest_55 ?_
            refine G.lmul C dX4_digest_56 ?_
            refine G.ildn3 C dX4_digest_57 ?_
            refine G.i2l C dX4_digest_58 ?_
            refine G.ladd C dX4_digest_59 ?_
            refine G.lstn1 C dX4_digest_60 (by omega) rfl ?_
            refine G.iconst C 0 dX4_digest_61 (by decide) ?_
            refine G.ist4 C dX4_digest_62 (by omega) rfl ?_
            have L64 : ∀ (n v : Nat), v + n = 8 → G p l e ({ frames := 8, cells := 0, slots := 0, locals := 182 } : Room) s m args below meth cd 5 0 0 (gA E) (gQL below args s (mDig (cW d 0 0 0) (dgS (cW d 0 0 0) 16) stN L) E (gU σ 10 (mA (dgS (cW d 0 0 0) 16))) π o) E (gU σ 10 (dgS (cW d 0 0 0) k)) π o 64 [some (.ref (E.2.1 10 0)), some (.long (dgF (fun v => mDoveN (dgS (cW d 0 0 0) k) (nI k) (nI v)) v (31 * dgE (cW d 0 0 0) k (dgF (fun k => mNumN (cW d 0 0 0) (nI k)) 18 3889) + (nI k).toInt64))), none, some (.int (nI k)), some (.int (nI v))] [] := by
              intro n
              induction n with
              | zero =>
                intro v hk
                obtain rfl : 8 = v := by omega
                refine G.ild4 C dX4_digest_64 ?_
                refine G.bipush C 8 dX4_digest_66 (by decide) ?_
                refine G.icmp_ge C 92 dX4_digest_68 (by decide) (fun _ => ?_) (fun h => absurd (nI_le (a := 8) (b := 8) (by omega) (by decide)) h)
                refine G.ldc2 C (v := 31) (C.1.2.2.2.2 (.constantLong RX4 186 31) (by decide +kernel)) dX4_digest_92 ?_
                refine G.lldn1 C dX4_digest_95 ?_
                refine G.lmul C dX4_digest_96 ?_
                refine G.aldn0 C dX4_digest_97 ?_
                refine G.ildn3 C dX4_digest_98 ?_
                refine G.sipush C 1439 dX4_digest_99 (by decide) ?_
                refine G.callVI2 C (k_X4_whyNoHome l (d := dgS (cW d 0 0 0) k) (vp_in_nI (by omega) (by omega))) (cwV 2 C.1.2.2.2.2 gX4_digest_X4_whyNoHome rfl rfl rfl (by decide +kernel) ⟨Nat.le_of_ble_eq_true rfl, Nat.le_of_ble_eq_true rfl⟩) gO_d rfl (Nat.le_of_ble_eq_true rfl) dX4_digest_102 ?_
                refine G.i2l C dX4_digest_105 ?_
                refine G.ladd C dX4_digest_106 ?_
                refine G.lstn1 C dX4_digest_107 (by omega) rfl ?_
                refine G.iconst C 0 dX4_digest_108 (by decide) ?_
                refine G.ist4 C dX4_digest_109 (by omega) rfl ?_
                have L111 : ∀ (n w : Nat), w + n = 3 → G p l e ({ frames := 8, cells := 0, slots := 0, locals := 182 } : Room) s m args below meth cd 5 0 0 (gA E) (gQL below args s (mDig (cW d 0 0 0) (dgS (cW d 0 0 0) 16) stN L) E (gU σ 10 (mA (dgS (cW d 0 0 0) 16))) π o) E (gU σ 10 (mHs (dgS (cW d 0 0 0) k) (nI k) w)) π o 111 [some (.ref (E.2.1 10 0)), some (.long (dgF (fun w => mHomeIf (mHs (dgS (cW d 0 0 0) k) (nI k) w) (nI k) 1439 (nI w)) w (31 * dgF (fun v => mDoveN (dgS (cW d 0 0 0) k) (nI k) (nI v)) 8 (31 * dgE (cW d 0 0 0) k (dgF (fun k => mNumN (cW d 0 0 0) (nI k)) 18 3889) + (nI k).toInt64) + (mWhyH (dgS (cW d 0 0 0) k) (nI k) 1439).toInt64))), none, some (.int (nI k)), some (.int (nI w))] [] := by
                  intro n
                  induction n with
                  | zero =>
                    intro w hk
                    obtain rfl : 3 = w := by omega
                    refine G.ild4 C dX4_digest_111 ?_
                    refine G.iconst C 3 dX4_digest_113 (by decide) ?_
                    refine G.icmp_ge C 141 dX4_digest_114 (by decide) (fun _ => ?_) (fun h => absurd (nI_le (a := 3) (b := 3) (by omega) (by decide)) h)
                    refine G.iincN3 C dX4_digest_141 (by omega) rfl ?_
                    refine G.goto C 38 dX4_digest_144 (by decide) ?_
                    exact G.back (ih (k + 1) (by omega) ) (by first | (rw [dgS, if_pos h49]; done) | (rw [dgS, if_neg (by rw [h49]; decide)])) ⟨(by first | with_reducible rfl | (rw [dgE, if_pos h49]; done) | (rw [dgE, if_neg (by rw [h49]; decide)]; done) | (exact congrArg (fun z => some (Value.int z)) (nI_s1 k))), (by first | with_reducible rfl | (rw [dgE, if_pos h49]; done) | (rw [dgE, if_neg (by rw [h49]; decide)]; done) | (exact congrArg (fun z => some (Value.int z)) (nI_s1 k))), (by first | with_reducible rfl | (rw [dgE, if_pos h49]; done) | (rw [dgE, if_neg (by rw [h49]; decide)]; done) | (exact congrArg (fun z => some (Value.int z)) (nI_s1 k))), trivial⟩
                  | succ n ih =>
                    intro w hk
                    have hk2 : w < 3 := by omega
                    refine G.ild4 C dX4_digest_111 ?_
                    refine G.iconst C 3 dX4_digest_113 (by decide) ?_
                    refine G.icmp_ge C 141 dX4_digest_114 (by decide) (fun h => absurd h (nI_ge (b := 3) hk2 (by decide))) (fun _ => ?_)
                    refine G.ldc2 C (v := 31) (C.1.2.2.2.2 (.constantLong RX4 186 31) (by decide +kernel)) dX4_digest_117 ?_
                    refine G.lldn1 C dX4_digest_120 ?_
                    refine G.lmul C dX4_digest_121 ?_
                    refine G.aldn0 C dX4_digest_122 ?_
                    refine G.ildn3 C dX4_digest_123 ?_
                    refine G.sipush C 1439 dX4_digest_124 (by decide) ?_
                    refine G.ild4 C dX4_digest_127 ?_
                    refine G.callVI3 C (k_X4_homeIf l (d := mHs (dgS (cW d 0 0 0) k) (nI k) w) (vp_in_nI (by omega) (by omega)) (mOK_1 ((mHs_1 w).trans ((dgS_1 k).trans (cW0 (by decide)))) hok) (by rw [mHs_1, dgS_1, cW0 (by decide)]; exact hmo) h24) (cwV 3 C.1.2.2.2.2 gX4_digest_X4_homeIf rfl rfl rfl (by decide +kernel) ⟨Nat.le_of_ble_eq_true rfl, Nat.le_of_ble_eq_true rfl⟩) gO_d rfl (Nat.le_of_ble_eq_true rfl) dX4_digest_129 ?_
                    refine G.i2l C dX4_digest_132 ?_
                    refine G.ladd C dX4_digest_133 ?_
                    refine G.lstn1 C dX4_digest_134 (by omega) rfl ?_
                    refine G.iincN4 C dX4_digest_135 (by omega) rfl ?_
                    refine G.goto C 111 dX4_digest_138 (by decide) ?_
                    exact G.back (ih (w + 1) (by omega) ) rfl ⟨(by first | with_reducible rfl | (rw [dgF_s (n := w)]; done) | (exact congrArg (fun z => some (Value.int z)) (nI_s1 w))), (by first | with_reducible rfl | (rw [dgF_s (n := w)]; done) | (exact congrArg (fun z => some (Value.int z)) (nI_s1 w))), (by first | with_reducible rfl | (rw [dgF_s (n := w)]; done) | (exact congrArg (fun z => some (Value.int z)) (nI_s1 w))), (by first | with_reducible rfl | (rw [dgF_s (n := w)]; done) | (exact congrArg (fun z => some (Value.int z)) (nI_s1 w))), trivial⟩
                exact G.back (L111 3 0 (Nat.zero_add _) ) rfl ⟨(by first | with_reducible rfl | (rw [dgF_0]; done) | rfl), (by first | with_reducible rfl | (rw [dgF_0]; done) | rfl), (by first | with_reducible rfl | (rw [dgF_0]; done) | rfl), (by first | with_reducible rfl | (rw [dgF_0]; done) | rfl), trivial⟩
              | succ n ih =>
                intro v hk
                have hk2 : v < 8 := by omega
                refine G.ild4 C dX4_digest_64 ?_
                refine G.bipush C 8 dX4_digest_66 (by decide) ?_
                refine G.icmp_ge C 92 dX4_digest_68 (by decide) (fun h => absurd h (nI_ge (b := 8) hk2 (by decide))) (fun _ => ?_)
                refine G.ldc2 C (v := 31) (C.1.2.2.2.2 (.constantLong RX4 186 31) (by decide +kernel)) dX4_digest_71 ?_
                refine G.lldn1 C dX4_digest_74 ?_
                refine G.lmul C dX4_digest_75 ?_
                refine G.aldn0 C dX4_digest_76 ?_
                refine G.ildn3 C dX4_digest_77 ?_
                refine G.ild4 C dX4_digest_78 ?_
                refine G.callVI2 C (k_X4_doveNow l (d := dgS (cW d 0 0 0) k) (vp_in_nI (by omega) (by omega)) (vp_in_nI (by omega) (by omega))) (cwV 2 C.1.2.2.2.2 gX4_digest_X4_doveNow rfl rfl rfl (by decide +kernel) ⟨Nat.le_of_ble_eq_true rfl, Nat.le_of_ble_eq_true rfl⟩) gO_d rfl (Nat.le_of_ble_eq_true rfl) dX4_digest_80 ?_
                refine G.i2l C dX4_digest_83 ?_
                refine G.ladd C dX4_digest_84 ?_
                refine G.lstn1 C dX4_digest_85 (by omega) rfl ?_
                refine G.iincN4 C dX4_digest_86 (by omega) rfl ?_
                refine G.goto C 64 dX4_digest_89 (by decide) ?_
                exact G.back (ih (v + 1) (by omega) ) rfl ⟨(by first | with_reducible rfl | (rw [dgF_s (n := v)]; done) | (exact congrArg (fun z => some (Value.int z)) (nI_s1 v))), (by first | with_reducible rfl | (rw [dgF_s (n := v)]; done) | (exact congrArg (fun z => some (Value.int z)) (nI_s1 v))), (by first | with_reducible rfl | (rw [dgF_s (n := v)]; done) | (exact congrArg (fun z => some (Value.int z)) (nI_s1 v))), (by first | with_reducible rfl | (rw [dgF_s (n := v)]; done) | (exact congrArg (fun z => some (Value.int z)) (nI_s1 v))), trivial⟩
            exact G.back (L64 8 0 (Nat.zero_add _) ) rfl ⟨(by first | with_reducible rfl | (rw [dgF_0]; done) | rfl), (by first | with_reducible rfl | (rw [dgF_0]; done) | rfl), (by first | with_reducible rfl | (rw [dgF_0]; done) | rfl), (by first | with_reducible rfl | (rw [dgF_0]; done) | rfl), trivial⟩
      exact G.back (L38 16 0 (Nat.zero_add _) ) rfl ⟨(by first | with_reducible rfl | (rw [dgE_0]; done) | rfl), (by first | with_reducible rfl | (rw [dgE_0]; done) | rfl), (by first | with_reducible rfl | (rw [dgE_0]; done) | rfl), trivial⟩
    | succ n ih =>
      intro k hk
      have hk2 : k < 18 := by omega
      refine G.ildn3 C dX4_digest_11 ?_
      refine G.bipush C 18 dX4_digest_12 (by decide) ?_
      refine G.icmp_ge C 36 dX4_digest_14 (by decide) (fun h => absurd h (nI_ge (b := 18) hk2 (by decide))) (fun _ => ?_)
      refine G.ldc2 C (v := 31) (C.1.2.2.2.2 (.constantLong RX4 186 31) (by decide +kernel)) dX4_digest_17 ?_
      refine G.lldn1 C dX4_digest_20 ?_
      refine G.lmul C dX4_digest_21 ?_
      refine G.aldn0 C dX4_digest_22 ?_
      refine G.ildn3 C dX4_digest_23 ?_
      refine G.callVI1 C (k_X4_countNow l (d := (cW d 0 0 0))) (cwV 1 C.1.2.2.2.2 gX4_digest_X4_countNow rfl rfl rfl (by decide +kernel) ⟨Nat.le_of_ble_eq_true rfl, Nat.le_of_ble_eq_true rfl⟩) gO_d rfl (Nat.le_of_ble_eq_true rfl) dX4_digest_24 ?_
      refine G.i2l C dX4_digest_27 ?_
      refine G.ladd C dX4_digest_28 ?_
      refine G.lstn1 C dX4_digest_29 (by omega) rfl ?_
      refine G.iincN3 C dX4_digest_30 (by omega) rfl ?_
      refine G.goto C 11 dX4_digest_33 (by decide) ?_
      exact G.back (ih (k + 1) (by omega) ) rfl ⟨(by first | with_reducible rfl | (rw [dgF_s (n := k)]; done) | (exact congrArg (fun z => some (Value.int z)) (nI_s1 k))), (by first | with_reducible rfl | (rw [dgF_s (n := k)]; done) | (exact congrArg (fun z => some (Value.int z)) (nI_s1 k))), (by first | with_reducible rfl | (rw [dgF_s (n := k)]; done) | (exact congrArg (fun z => some (Value.int z)) (nI_s1 k))), trivial⟩
  exact G.back (L11 18 0 (Nat.zero_add _) ) rfl ⟨(by first | with_reducible rfl | (rw [dgF_0]; done) | rfl), (by first | with_reducible rfl | (rw [dgF_0]; done) | rfl), (by first | with_reducible rfl | (rw [dgF_0]; done) | rfl), trivial⟩
