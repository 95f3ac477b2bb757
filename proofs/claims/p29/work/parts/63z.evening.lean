/-! the law's evening -/
set_option maxRecDepth 100000 in
set_option maxHeartbeats 8000000 in
theorem k_L_evening_69 (l : Launch) (hst : l.stackTraces = false) {E : gEn} {σ : gSt} {π : Nat → Nat} {o : Int64} {c0 c1 c2 c9 v : cSt} {x y : Int32} {B sv : Nat} (hs : c9 0 5 = nI sv) (hle : sv ≤ 6) (hπ : ∀ k, k < 6 → 3 ≤ π k ∧ π k < 9) (hS : SRL B c0 v) {how w n : Nat} (hw2 : w < 2) (hn : (w = 0 ∧ n ≤ 1439) ∨ (w = 1 ∧ n ≤ 24)) {p : Program} {e : Env} {s : State} {m : MethodId} {args : Array Value} {below : List Frame} {meth : Method} {cd : Code} (C : gCx p s m cd cL_evening 11 RL wsL_evening args E (gA E) ({ frames := 9, cells := 4, slots := 24, locals := 194 } : Room) 0 0) (hZ : gZ E (gA E) s) (hrt : meth.sig.returnType = (some .boolean)) (hlk : meth.locks = false) : G p l e ({ frames := 9, cells := 4, slots := 24, locals := 194 } : Room) s m args below meth cd 11 0 0 (gA E) (gQP below args s E o (BigL (B + 24)) 4 24) E (gL σ c0 c1 c2 c9 v) π o 69 [some (.ref (E.2.1 9 0)), some (.int x), some (.int y), some (.ref (E.2.1 10 0)), some (.ref (E.2.1 10 1)), some (.ref (E.2.1 10 2)), some (.ref (E.2.1 10 3)), some (.int (nI how)), some (.int (nI w)), some (.int (v 0 (4 + w))), none] [.int (nI n), .int (nI (4 + w)), .ref (E.2.1 10 0)] := by
  have hl : 10 ≤ 10 := Nat.le_refl 10
  have hv : ∀ j, j < 4 → gV E 10 j := fun j hj => gV_d hj
  have hS2 := setL_SR (x := nI n) hS hw2 (fun q => ⟨n, by omega, rfl⟩)
  have hyn : nI n ≤ if nI w = 0 then 1439 else 24 := by
    rcases hn with ⟨r1, r2⟩ | ⟨r1, r2⟩
    · rw [if_pos (show nI w = 0 by rw [r1]; rfl)]; exact nI_le (b := 1439) r2 (by omega)
    · rw [if_neg (show ¬ nI w = 0 by rw [r1]; decide)]; exact nI_le (b := 24) r2 (by omega)
  refine G.iastL C (n := 13) (j := 0) (d0 := (4 + w)) (gN_l hl rfl) (hv _ (by omega)) (by first | assumption | exact vp_in_nI (by omega) (by omega) | (unfold vp_in; decide)) (ix_nI (by omega)) dL_evening_69 ?_
  refine G.aldn0 C dL_evening_70 ?_
  refine G.ild8 C dL_evening_71 ?_
  refine G.aldn3 C dL_evening_73 ?_
  refine G.iconst C 4 dL_evening_74 (by decide) ?_
  refine G.ild8 C dL_evening_75 ?_
  refine G.iadd C dL_evening_77 ?_
  refine G.topI (nI (4 + w)) (nI_add _ _) ?_
  refine G.ialdL C (n := 13) (j := 0) (d0 := (4 + w)) (gN_l hl rfl) (hv _ (by omega)) (by first | assumption | exact vp_in_nI (by omega) (by omega) | (unfold vp_in; decide)) (ix_nI (by omega)) dL_evening_78 ?_
  refine G.topI (nI n) (by rw [cWr, zU_at]) ?_
  refine G.callH3 C hZ (k_L_set l (nI_pos (by omega)) (nI_lt (b := 2) hw2 (by omega)) (nI_pos (by omega)) hyn hs hle hπ) (vx_cwSW 3 C.1.2.2.2.2 gL_evening_L_set rfl rfl rfl (by decide +kernel) ⟨(Nat.le_of_ble_eq_true rfl), (Nat.le_of_ble_eq_true rfl)⟩) (Nat.le_of_ble_eq_true rfl) dL_evening_79 ⟨by show _ ≤ (4 : Nat); omega, by show _ ≤ (24 : Nat); omega⟩ (fun C => ?_)
  refine G.topI (v 0 (4 + w)) (by rw [ix_nI (by omega)]; exact (hS.rel.set w hw2).symm) ?_
  refine G.ild9 C dL_evening_82 ?_
  refine G.icmp_ne C 127 dL_evening_84 (by decide) (fun h84 => absurd h84 (fun q => q (rfl))) (fun h84 => ?_)
  refine G.aldn0 C dL_evening_87 ?_
  refine G.iconst C 1 dL_evening_88 (by decide) ?_
  refine G.bipush C 25 dL_evening_89 (by decide) ?_
  refine G.callH3 C hZ (k_L_set_t2 l hst (by decide) (by decide) (by decide)) (vx_cwSW 3 C.1.2.2.2.2 gL_evening_L_set rfl rfl rfl (by decide +kernel) ⟨(Nat.le_of_ble_eq_true rfl), (Nat.le_of_ble_eq_true rfl)⟩) (Nat.le_of_ble_eq_true rfl) dL_evening_91 ⟨by show _ ≤ (4 : Nat); omega, by show _ ≤ (24 : Nat); omega⟩ (fun C => ?_)
  refine G.topI ((-32)) rfl ?_
  refine G.bipush C (-32) dL_evening_94 (by decide) ?_
  refine G.icmp_ne C 127 dL_evening_96 (by decide) (fun h => absurd rfl h) (fun _ => ?_)
  refine G.aldn0 C dL_evening_99 ?_
  refine G.iconst C 0 dL_evening_100 (by decide) ?_
  refine G.sipush C 1440 dL_evening_101 (by decide) ?_
  refine G.callH3 C hZ (k_L_set_t2 l hst (by decide) (by decide) (by decide)) (vx_cwSW 3 C.1.2.2.2.2 gL_evening_L_set rfl rfl rfl (by decide +kernel) ⟨(Nat.le_of_ble_eq_true rfl), (Nat.le_of_ble_eq_true rfl)⟩) (Nat.le_of_ble_eq_true rfl) dL_evening_104 ⟨by show _ ≤ (4 : Nat); omega, by show _ ≤ (24 : Nat); omega⟩ (fun C => ?_)
  refine G.topI ((-32)) rfl ?_
  refine G.bipush C (-32) dL_evening_107 (by decide) ?_
  refine G.icmp_ne C 127 dL_evening_109 (by decide) (fun h => absurd rfl h) (fun _ => ?_)
  refine G.aldn0 C dL_evening_112 ?_
  refine G.iconst C 2 dL_evening_113 (by decide) ?_
  refine G.iconst C 0 dL_evening_114 (by decide) ?_
  refine G.callH3 C hZ (k_L_set_t1 l hst (by decide)) (vx_cwSW 3 C.1.2.2.2.2 gL_evening_L_set rfl rfl rfl (by decide +kernel) ⟨(Nat.le_of_ble_eq_true rfl), (Nat.le_of_ble_eq_true rfl)⟩) (Nat.le_of_ble_eq_true rfl) dL_evening_115 ⟨by show _ ≤ (4 : Nat); omega, by show _ ≤ (24 : Nat); omega⟩ (fun C => ?_)
  refine G.topI ((-31)) rfl ?_
  refine G.bipush C (-31) dL_evening_118 (by decide) ?_
  refine G.icmp_ne C 127 dL_evening_120 (by decide) (fun h => absurd rfl h) (fun _ => ?_)
  refine G.iconst C 1 dL_evening_123 (by decide) ?_
  refine G.goto C 128 dL_evening_124 (by decide) ?_
  exact G.pret C (by omega) (by omega) hlk hrt dL_evening_128 rfl ((BigL.sv hle hπ (by rw [ix_nI (by omega)]; exact hS2)).mono (Nat.le_add_right B 24))
set_option maxRecDepth 100000 in
set_option maxHeartbeats 8000000 in
theorem k_L_evening_135 (l : Launch) (hst : l.stackTraces = false) {E : gEn} {σ : gSt} {π : Nat → Nat} {o : Int64} {c0 c1 c2 c9 v : cSt} {x y : Int32} {B sv : Nat} (hs : c9 0 5 = nI sv) (hle : sv ≤ 6) (hπ : ∀ k, k < 6 → 3 ≤ π k ∧ π k < 9) (hS : SRL B c0 v) {how : Nat} {p : Program} {e : Env} {s : State} {m : MethodId} {args : Array Value} {below : List Frame} {meth : Method} {cd : Code} (C : gCx p s m cd cL_evening 11 RL wsL_evening args E (gA E) ({ frames := 9, cells := 4, slots := 24, locals := 194 } : Room) 0 0) (hZ : gZ E (gA E) s) (hrt : meth.sig.returnType = (some .boolean)) (hlk : meth.locks = false) : G p l e ({ frames := 9, cells := 4, slots := 24, locals := 194 } : Room) s m args below meth cd 11 0 0 (gA E) (gQP below args s E o (BigL (B + 24)) 4 24) E (gL σ c0 c1 c2 c9 v) π o 135 [some (.ref (E.2.1 9 0)), some (.int x), some (.int y), some (.ref (E.2.1 10 0)), some (.ref (E.2.1 10 1)), some (.ref (E.2.1 10 2)), some (.ref (E.2.1 10 3)), some (.int (nI how)), none, none, none] [] := by
  have hl : 10 ≤ 10 := Nat.le_refl 10
  have hv : ∀ j, j < 4 → gV E 10 j := fun j hj => gV_d hj
  refine G.aldn3 C dL_evening_135 ?_
  refine G.ald4 C dL_evening_136 ?_
  refine G.iconst C 0 dL_evening_138 (by decide) ?_
  refine G.bipush C 23 dL_evening_139 (by decide) ?_
  refine G.callSI4 C (TLI (k_L_many l hl hv)) (va_cwS 4 C.1.2.2.2.2 gL_evening_L_many rfl rfl rfl (by decide +kernel) ⟨Nat.le_of_ble_eq_true rfl, Nat.le_of_ble_eq_true rfl⟩) (Nat.le_of_ble_eq_true rfl) dL_evening_141 ?_
  refine G.ist8 C dL_evening_144 (by omega) rfl ?_
  refine G.bipush C 8 dL_evening_146 (by decide) ?_
  refine G.ist9 C dL_evening_148 (by omega) rfl ?_
  have L150 : ∀ (n k : Nat), k + n = 4 → G p l e ({ frames := 9, cells := 4, slots := 24, locals := 194 } : Room) s m args below meth cd 11 0 0 (gA E) (gQP below args s E o (BigL (B + 24)) 4 24) E (gL σ c0 c1 c2 c9 (lDn1 v k)) π o 150 [some (.ref (E.2.1 9 0)), some (.int x), some (.int y), some (.ref (E.2.1 10 0)), some (.ref (E.2.1 10 1)), some (.ref (E.2.1 10 2)), some (.ref (E.2.1 10 3)), some (.int (nI how)), some (.int (lMany v 0 23)), some (.int (nI (8 + k))), none] [] := by
    intro n
    induction n with
    | zero =>
      intro k hk
      obtain rfl : 4 = k := by omega
      have C := C.wide (cl' := 0) (sl' := 0) (by show _ ≤ (4 : Nat); omega) (by show _ ≤ (24 : Nat); omega)
      refine G.ild9 C dL_evening_150 ?_
      refine G.bipush C 12 dL_evening_152 (by decide) ?_
      refine G.icmp_ge C 168 dL_evening_154 (by decide) (fun _ => ?_) (fun h => absurd (nI_le (a := 12) (b := 12) (by omega) (by omega)) h)
      refine G.iconst C 0 dL_evening_168 (by decide) ?_
      refine G.ist9 C dL_evening_169 (by omega) rfl ?_
      have L171 : ∀ (n k : Nat), k + n = 16 → G p l e ({ frames := 9, cells := 4, slots := 24, locals := 194 } : Room) s m args below meth cd 11 0 0 (gA E) (gQP below args s E o (BigL (B + 24)) 4 24) E (gL σ c0 c1 c2 c9 (lDn2 (lDn1 v 4) k)) π o 171 [some (.ref (E.2.1 9 0)), some (.int x), some (.int y), some (.ref (E.2.1 10 0)), some (.ref (E.2.1 10 1)), some (.ref (E.2.1 10 2)), some (.ref (E.2.1 10 3)), some (.int (nI how)), some (.int (lMany v 0 23)), some (.int (nI k)), none] [] := by
        intro n
        induction n with
        | zero =>
          intro k hk
          obtain rfl : 16 = k := by omega
          have C := C.wide (cl' := 0) (sl' := 0) (by show _ ≤ (4 : Nat); omega) (by show _ ≤ (24 : Nat); omega)
          refine G.ild9 C dL_evening_171 ?_
          refine G.bipush C 16 dL_evening_173 (by decide) ?_
          refine G.icmp_ge C 315 dL_evening_175 (by decide) (fun _ => ?_) (fun h => absurd (nI_le (a := 16) (b := 16) (by omega) (by decide)) h)
          refine G.aldn3 C dL_evening_315 ?_
          refine G.iconst C 3 dL_evening_316 (by decide) ?_
          refine G.dup2 C dL_evening_317 rfl rfl ?_
          refine G.ialdL C (n := 13) (j := 0) (d0 := 3) (gN_l hl rfl) (hv _ (by omega)) (by unfold vp_in; decide) (by decide) dL_evening_318 ?_
          refine G.topI ((lDn2 (lDn1 v 4) 16) 0 3) rfl ?_
          refine G.iconst C 1 dL_evening_319 (by decide) ?_
          refine G.iadd C dL_evening_320 ?_
          refine G.iastL C (n := 13) (j := 0) (d0 := 3) (gN_l hl rfl) (hv _ (by omega)) (by unfold vp_in; decide) (by decide) dL_evening_321 ?_
          refine G.aldn3 C dL_evening_322 ?_
          refine G.iconst C 2 dL_evening_323 (by decide) ?_
          refine G.iconst C 0 dL_evening_324 (by decide) ?_
          refine G.iastL C (n := 13) (j := 0) (d0 := 2) (gN_l hl rfl) (hv _ (by omega)) (by unfold vp_in; decide) (by decide) dL_evening_325 ?_
          refine G.aldn0 C dL_evening_326 ?_
          refine G.callVI0 C (k_X3_dawn l hs hle hπ) (cwV 0 C.1.2.2.2.2 gL_evening_X3_dawn rfl rfl rfl (by decide +kernel) ⟨Nat.le_of_ble_eq_true rfl, Nat.le_of_ble_eq_true rfl⟩) gO_m rfl (Nat.le_of_ble_eq_true rfl) dL_evening_327 ?_
          refine G.topI (lMany v 0 23) (nightL_SR hS).2 ?_
          refine G.ild8 C dL_evening_330 ?_
          refine G.icmp_ne C 339 dL_evening_332 (by decide) (fun h332 => absurd h332 (fun q => q (rfl))) (fun h332 => ?_)
          refine G.iconst C 1 dL_evening_335 (by decide) ?_
          refine G.goto C 340 dL_evening_336 (by decide) ?_
          exact G.pret C (by omega) (by omega) hlk hrt dL_evening_340 rfl ((BigL.sv hle hπ (nightL_SR hS).1).mono (Nat.le_add_right B 24))
        | succ n ih =>
          intro k hk
          have C := C.wide (cl' := 0) (sl' := 0) (by show _ ≤ (4 : Nat); omega) (by show _ ≤ (24 : Nat); omega)
          have hk2 : k < 16 := by omega
          refine G.ild9 C dL_evening_171 ?_
          refine G.bipush C 16 dL_evening_173 (by decide) ?_
          refine G.icmp_ge C 315 dL_evening_175 (by decide) (fun h => absurd h (nI_ge (b := 16) hk2 (by decide))) (fun _ => ?_)
          refine G.aldn3 C dL_evening_178 ?_
          refine G.ild9 C dL_evening_179 ?_
          refine G.callSI2 C (TLI (k_L_is l hl hv (by omega))) (va_cwS 2 C.1.2.2.2.2 gL_evening_L_is rfl rfl rfl (by decide +kernel) ⟨Nat.le_of_ble_eq_true rfl, Nat.le_of_ble_eq_true rfl⟩) (Nat.le_of_ble_eq_true rfl) dL_evening_181 ?_
          refine G.if_neB C 190 dL_evening_184 (by decide) (fun h184 => ?_) (fun h184 => ?_)
          · refine G.ald4 C dL_evening_190 ?_
            refine G.iconst C 4 dL_evening_192 (by decide) ?_
            refine G.ild9 C dL_evening_193 ?_
            refine G.imul C dL_evening_195 ?_
            refine G.topI (nI (4 * k)) (pk_mul _ _) ?_
            refine G.iconst C 2 dL_evening_196 (by decide) ?_
            refine G.iadd C dL_evening_197 ?_
            refine G.topI (nI ((4 * k) + 2)) (nI_add _ _) ?_
            refine G.ialdL C (n := 64) (j := 1) (d0 := ((4 * k) + 2)) (gN_l hl rfl) (hv _ (by omega)) (by first | assumption | exact vp_in_nI (by omega) (by omega) | (unfold vp_in; decide)) (ix_nI (by omega)) dL_evening_198 ?_
            refine G.topI ((lDn2 (lDn1 v 4) k) 1 (4 * k + 2)) rfl ?_
            refine G.ist10 C dL_evening_199 (by omega) rfl ?_
            refine G.aldn3 C dL_evening_201 ?_
            refine G.ild10 C dL_evening_202 ?_
            refine G.if_ge C 212 dL_evening_204 (by decide) (fun h204 => ?_) (fun h204 => ?_)
            · refine G.ild10 C dL_evening_212 ?_
              refine G.bipush C 24 dL_evening_214 (by decide) ?_
              refine G.icmp_ne C 224 dL_evening_216 (by decide) (fun h216 => ?_) (fun h216 => ?_)
              · refine G.ild10 C dL_evening_224 ?_
                refine G.ald4 C dL_evening_226 ?_
                refine G.iconst C 4 dL_evening_228 (by decide) ?_
                refine G.ild9 C dL_evening_229 ?_
                refine G.imul C dL_evening_231 ?_
                refine G.topI (nI (4 * k)) (pk_mul _ _) ?_
                refine G.ialdL C (n := 64) (j := 1) (d0 := (4 * k)) (gN_l hl rfl) (hv _ (by omega)) (by first | assumption | exact vp_in_nI (by omega) (by omega) | (unfold vp_in; decide)) (ix_nI (by omega)) dL_evening_232 ?_
                refine G.topI ((lDn2 (lDn1 v 4) k) 1 (4 * k)) rfl ?_
                refine G.icmp_ne C 241 dL_evening_233 (by decide) (fun h233 => ?_) (fun h233 => ?_)
                · refine G.bipush C 9 dL_evening_241 (by decide) ?_
                  refine G.dup2 C dL_evening_243 rfl rfl ?_
                  refine G.ialdL C (n := 13) (j := 0) (d0 := 9) (gN_l hl rfl) (hv _ (by omega)) (by unfold vp_in; decide) (by decide) dL_evening_244 ?_
                  refine G.iconst C 1 dL_evening_245 (by decide) ?_
                  refine G.iadd C dL_evening_246 ?_
                  refine G.iastL C (n := 13) (j := 0) (d0 := 9) (gN_l hl rfl) (hv _ (by omega)) (by unfold vp_in; decide) (by decide) dL_evening_247 ?_
                  refine G.ald5 C dL_evening_248 ?_
                  refine G.iconst C 4 dL_evening_250 (by decide) ?_
                  refine G.ild9 C dL_evening_251 ?_
                  refine G.imul C dL_evening_253 ?_
                  refine G.topI (nI (4 * k)) (pk_mul _ _) ?_
                  refine G.iconst C 2 dL_evening_254 (by decide) ?_
                  refine G.iadd C dL_evening_255 ?_
                  refine G.topI (nI ((4 * k) + 2)) (nI_add _ _) ?_
                  refine G.dup2 C dL_evening_256 rfl rfl ?_
                  refine G.ialdL C (n := 64) (j := 2) (d0 := ((4 * k) + 2)) (gN_l hl rfl) (hv _ (by omega)) (by first | assumption | exact vp_in_nI (by omega) (by omega) | (unfold vp_in; decide)) (ix_nI (by omega)) dL_evening_257 ?_
                  refine G.topI ((lDn2 (lDn1 v 4) k) 2 (4 * k + 2)) rfl ?_
                  refine G.ild10 C dL_evening_258 ?_
                  refine G.if_ge C 267 dL_evening_260 (by decide) (fun _ => ?_) (fun h => absurd h204 h)
                  refine G.iconst C 0 dL_evening_267 (by decide) ?_
                  refine G.iadd C dL_evening_268 ?_
                  refine G.iastL C (n := 64) (j := 2) (d0 := ((4 * k) + 2)) (gN_l hl rfl) (hv _ (by omega)) (by first | assumption | exact vp_in_nI (by omega) (by omega) | (unfold vp_in; decide)) (ix_nI (by omega)) dL_evening_269 ?_
                  refine G.ald5 C dL_evening_270 ?_
                  refine G.iconst C 4 dL_evening_272 (by decide) ?_
                  refine G.ild9 C dL_evening_273 ?_
                  refine G.imul C dL_evening_275 ?_
                  refine G.topI (nI (4 * k)) (pk_mul _ _) ?_
                  refine G.iconst C 3 dL_evening_276 (by decide) ?_
                  refine G.iadd C dL_evening_277 ?_
                  refine G.topI (nI ((4 * k) + 3)) (nI_add _ _) ?_
                  refine G.dup2 C dL_evening_278 rfl rfl ?_
                  refine G.ialdL C (n := 64) (j := 2) (d0 := ((4 * k) + 3)) (gN_l hl rfl) (hv _ (by omega)) (by first | assumption | exact vp_in_nI (by omega) (by omega) | (unfold vp_in; decide)) (ix_nI (by omega)) dL_evening_279 ?_
                  refine G.topI ((lDn2 (lDn1 v 4) k) 2 (4 * k + 3)) (by rw [cWr, zU_ne (by omega)]; rfl) ?_
                  refine G.ild10 C dL_evening_280 ?_
                  refine G.ald4 C dL_evening_282 ?_
                  refine G.iconst C 4 dL_evening_284 (by decide) ?_
                  refine G.ild9 C dL_evening_285 ?_
                  refine G.imul C dL_evening_287 ?_
                  refine G.topI (nI (4 * k)) (pk_mul _ _) ?_
                  refine G.ialdL C (n := 64) (j := 1) (d0 := (4 * k)) (gN_l hl rfl) (hv _ (by omega)) (by first | assumption | exact vp_in_nI (by omega) (by omega) | (unfold vp_in; decide)) (ix_nI (by omega)) dL_evening_288 ?_
                  refine G.topI ((lDn2 (lDn1 v 4) k) 1 (4 * k)) rfl ?_
                  refine G.icmp_ne C 296 dL_evening_289 (by decide) (fun _ => ?_) (fun h => absurd h h233)
                  refine G.iconst C 0 dL_evening_296 (by decide) ?_
                  refine G.iadd C dL_evening_297 ?_
                  refine G.iastL C (n := 64) (j := 2) (d0 := ((4 * k) + 3)) (gN_l hl rfl) (hv _ (by omega)) (by first | assumption | exact vp_in_nI (by omega) (by omega) | (unfold vp_in; decide)) (ix_nI (by omega)) dL_evening_298 ?_
                  refine G.ald4 C dL_evening_299 ?_
                  refine G.iconst C 4 dL_evening_301 (by decide) ?_
                  refine G.ild9 C dL_evening_302 ?_
                  refine G.imul C dL_evening_304 ?_
                  refine G.topI (nI (4 * k)) (pk_mul _ _) ?_
                  refine G.iconst C 2 dL_evening_305 (by decide) ?_
                  refine G.iadd C dL_evening_306 ?_
                  refine G.topI (nI ((4 * k) + 2)) (nI_add _ _) ?_
                  refine G.iconst C (-1) dL_evening_307 (by decide) ?_
                  refine G.iastL C (n := 64) (j := 1) (d0 := ((4 * k) + 2)) (gN_l hl rfl) (hv _ (by omega)) (by first | assumption | exact vp_in_nI (by omega) (by omega) | (unfold vp_in; decide)) (ix_nI (by omega)) dL_evening_308 ?_
                  refine G.iincN9 C dL_evening_309 (by omega) rfl ?_
                  refine G.goto C 171 dL_evening_312 (by decide) ?_
                  refine G.wide (cl' := 0) (sl' := 0) (by omega) (by omega) ?_
                  exact G.back (ih (k + 1) (by omega) ) (by first | (rw [show lDn2 (lDn1 v 4) (k + 1) = lDn2 (lDn1 v 4) k from if_neg (by rw [h184]; decide)]; done) | (rw [show lDn2 (lDn1 v 4) (k + 1) = lDw (lDn2 (lDn1 v 4) k) k from if_pos h184]; simp only [lDw, lDi, if_pos (Int32.not_le.mp h204), if_pos h289]; done) | (rw [show lDn2 (lDn1 v 4) (k + 1) = lDw (lDn2 (lDn1 v 4) k) k from if_pos h184]; simp only [lDw, lDi, if_pos (Int32.not_le.mp h204), if_neg h289]; done) | (rw [show lDn2 (lDn1 v 4) (k + 1) = lDw (lDn2 (lDn1 v 4) k) k from if_pos h184]; simp only [lDw, lDi, if_neg (Int32.not_lt.mpr h204), if_pos h216, if_pos h289]; done) | (rw [show lDn2 (lDn1 v 4) (k + 1) = lDw (lDn2 (lDn1 v 4) k) k from if_pos h184]; simp only [lDw, lDi, if_neg (Int32.not_lt.mpr h204), if_pos h216, if_neg h289]; done) | (rw [show lDn2 (lDn1 v 4) (k + 1) = lDw (lDn2 (lDn1 v 4) k) k from if_pos h184]; simp only [lDw, lDi, if_neg (Int32.not_lt.mpr h204), if_neg h216, if_pos h233]; done) | (rw [show lDn2 (lDn1 v 4) (k + 1) = lDw (lDn2 (lDn1 v 4) k) k from if_pos h184]; simp only [lDw, lDi, if_neg (Int32.not_lt.mpr h204), if_neg h216, if_neg h233]; done) | (rw [show lDn2 (lDn1 v 4) (k + 1) = lDw (lDn2 (lDn1 v 4) k) k from if_pos h184]; simp only [lDw, lDi, if_pos (Int32.not_le.mp h204), if_pos h289]; rfl) | (rw [show lDn2 (lDn1 v 4) (k + 1) = lDw (lDn2 (lDn1 v 4) k) k from if_pos h184]; simp only [lDw, lDi, if_pos (Int32.not_le.mp h204), if_neg h289]; rfl) | (rw [show lDn2 (lDn1 v 4) (k + 1) = lDw (lDn2 (lDn1 v 4) k) k from if_pos h184]; simp only [lDw, lDi, if_neg (Int32.not_lt.mpr h204), if_pos h216, if_pos h289]; rfl) | (rw [show lDn2 (lDn1 v 4) (k + 1) = lDw (lDn2 (lDn1 v 4) k) k from if_pos h184]; simp only [lDw, lDi, if_neg (Int32.not_lt.mpr h204), if_pos h216, if_neg h289]; rfl) | (rw [show lDn2 (lDn1 v 4) (k + 1) = lDw (lDn2 (lDn1 v 4) k) k from if_pos h184]; simp only [lDw, lDi, if_neg (Int32.not_lt.mpr h204), if_neg h216, if_pos h233]; rfl) | (rw [show lDn2 (lDn1 v 4) (k + 1) = lDw (lDn2 (lDn1 v 4) k) k from if_pos h184]; simp only [lDw, lDi, if_neg (Int32.not_lt.mpr h204), if_neg h216, if_neg h233]; rfl)) ⟨(by first | rfl | simp), (by first | rfl | simp), (by first | rfl | simp), (by first | rfl | simp), (by first | rfl | simp), (by first | rfl | simp), (by first | rfl | simp), (by first | rfl | simp), (by first | rfl | simp), (by first | rfl | simp), trivial⟩
                · refine G.bipush C 8 dL_evening_236 (by decide) ?_
                  refine G.goto C 243 dL_evening_238 (by decide) ?_
                  refine G.dup2 C dL_evening_243 rfl rfl ?_
                  refine G.ialdL C (n := 13) (j := 0) (d0 := 8) (gN_l hl rfl) (hv _ (by omega)) (by unfold vp_in; decide) (by decide) dL_evening_244 ?_
                  refine G.iconst C 1 dL_evening_245 (by decide) ?_
                  refine G.iadd C dL_evening_246 ?_
                  refine G.iastL C (n := 13) (j := 0) (d0 := 8) (gN_l hl rfl) (hv _ (by omega)) (by unfold vp_in; decide) (by decide) dL_evening_247 ?_
                  refine G.ald5 C dL_evening_248 ?_
                  refine G.iconst C 4 dL_evening_250 (by decide) ?_
                  refine G.ild9 C dL_evening_251 ?_
                  refine G.imul C dL_evening_253 ?_
                  refine G.topI (nI (4 * k)) (pk_mul _ _) ?_
                  refine G.iconst C 2 dL_evening_254 (by decide) ?_
                  refine G.iadd C dL_evening_255 ?_
                  refine G.topI (nI ((4 * k) + 2)) (nI_add _ _) ?_
                  refine G.dup2 C dL_evening_256 rfl rfl ?_
                  refine G.ialdL C (n := 64) (j := 2) (d0 := ((4 * k) + 2)) (gN_l hl rfl) (hv _ (by omega)) (by first | assumption | exact vp_in_nI (by omega) (by omega) | (unfold vp_in; decide)) (ix_nI (by omega)) dL_evening_257 ?_
                  refine G.topI ((lDn2 (lDn1 v 4) k) 2 (4 * k + 2)) rfl ?_
                  refine G.ild10 C dL_evening_258 ?_
                  refine G.if_ge C 267 dL_evening_260 (by decide) (fun _ => ?_) (fun h => absurd h204 h)
                  refine G.iconst C 0 dL_evening_267 (by decide) ?_
                  refine G.iadd C dL_evening_268 ?_
                  refine G.iastL C (n := 64) (j := 2) (d0 := ((4 * k) + 2)) (gN_l hl rfl) (hv _ (by omega)) (by first | assumption | exact vp_in_nI (by omega) (by omega) | (unfold vp_in; decide)) (ix_nI (by omega)) dL_evening_269 ?_
                  refine G.ald5 C dL_evening_270 ?_
                  refine G.iconst C 4 dL_evening_272 (by decide) ?_
                  refine G.ild9 C dL_evening_273 ?_
                  refine G.imul C dL_evening_275 ?_
                  refine G.topI (nI (4 * k)) (pk_mul _ _) ?_
                  refine G.iconst C 3 dL_evening_276 (by decide) ?_
                  refine G.iadd C dL_evening_277 ?_
                  refine G.topI (nI ((4 * k) + 3)) (nI_add _ _) ?_
                  refine G.dup2 C dL_evening_278 rfl rfl ?_
                  refine G.ialdL C (n := 64) (j := 2) (d0 := ((4 * k) + 3)) (gN_l hl rfl) (hv _ (by omega)) (by first | assumption | exact vp_in_nI (by omega) (by omega) | (unfold vp_in; decide)) (ix_nI (by omega)) dL_evening_279 ?_
                  refine G.topI ((lDn2 (lDn1 v 4) k) 2 (4 * k + 3)) (by rw [cWr, zU_ne (by omega)]; rfl) ?_
                  refine G.ild10 C dL_evening_280 ?_
                  refine G.ald4 C dL_evening_282 ?_
                  refine G.iconst C 4 dL_evening_284 (by decide) ?_
                  refine G.ild9 C dL_evening_285 ?_
                  refine G.imul C dL_evening_287 ?_
                  refine G.topI (nI (4 * k)) (pk_mul _ _) ?_
                  refine G.ialdL C (n := 64) (j := 1) (d0 := (4 * k)) (gN_l hl rfl) (hv _ (by omega)) (by first | assumption | exact vp_in_nI (by omega) (by omega) | (unfold vp_in; decide)) (ix_nI (by omega)) dL_evening_288 ?_
                  refine G.topI ((lDn2 (lDn1 v 4) k) 1 (4 * k)) rfl ?_
                  refine G.icmp_ne C 296 dL_evening_289 (by decide) (fun h => absurd h233 h) (fun _ => ?_)
                  refine G.iconst C 1 dL_evening_292 (by decide) ?_
                  refine G.goto C 297 dL_evening_293 (by decide) ?_
                  refine G.iadd C dL_evening_297 ?_
                  refine G.iastL C (n := 64) (j := 2) (d0 := ((4 * k) + 3)) (gN_l hl rfl) (hv _ (by omega)) (by first | assumption | exact vp_in_nI (by omega) (by omega) | (unfold vp_in; decide)) (ix_nI (by omega)) dL_evening_298 ?_
                  refine G.ald4 C dL_evening_299 ?_
                  refine G.iconst C 4 dL_evening_301 (by decide) ?_
                  refine G.ild9 C dL_evening_302 ?_
                  refine G.imul C dL_evening_304 ?_
                  refine G.topI (nI (4 * k)) (pk_mul _ _) ?_
                  refine G.iconst C 2 dL_evening_305 (by decide) ?_
                  refine G.iadd C dL_evening_306 ?_
                  refine G.topI (nI ((4 * k) + 2)) (nI_add _ _) ?_
                  refine G.iconst C (-1) dL_evening_307 (by decide) ?_
                  refine G.iastL C (n := 64) (j := 1) (d0 := ((4 * k) + 2)) (gN_l hl rfl) (hv _ (by omega)) (by first | assumption | exact vp_in_nI (by omega) (by omega) | (unfold vp_in; decide)) (ix_nI (by omega)) dL_evening_308 ?_
                  refine G.iincN9 C dL_evening_309 (by omega) rfl ?_
                  refine G.goto C 171 dL_evening_312 (by decide) ?_
                  refine G.wide (cl' := 0) (sl' := 0) (by omega) (by omega) ?_
                  exact G.back (ih (k + 1) (by omega) ) (by first | (rw [show lDn2 (lDn1 v 4) (k + 1) = lDn2 (lDn1 v 4) k from if_neg (by rw [h184]; decide)]; done) | (rw [show lDn2 (lDn1 v 4) (k + 1) = lDw (lDn2 (lDn1 v 4) k) k from if_pos h184]; simp only [lDw, lDi, if_pos (Int32.not_le.mp h204), if_pos h289]; done) | (rw [show lDn2 (lDn1 v 4) (k + 1) = lDw (lDn2 (lDn1 v 4) k) k from if_pos h184]; simp only [lDw, lDi, if_pos (Int32.not_le.mp h204), if_neg h289]; done) | (rw [show lDn2 (lDn1 v 4) (k + 1) = lDw (lDn2 (lDn1 v 4) k) k from if_pos h184]; simp only [lDw, lDi, if_neg (Int32.not_lt.mpr h204), if_pos h216, if_pos h289]; done) | (rw [show lDn2 (lDn1 v 4) (k + 1) = lDw (lDn2 (lDn1 v 4) k) k from if_pos h184]; simp only [lDw, lDi, if_neg (Int32.not_lt.mpr h204), if_pos h216, if_neg h289]; done) | (rw [show lDn2 (lDn1 v 4) (k + 1) = lDw (lDn2 (lDn1 v 4) k) k from if_pos h184]; simp only [lDw, lDi, if_neg (Int32.not_lt.mpr h204), if_neg h216, if_pos h233]; done) | (rw [show lDn2 (lDn1 v 4) (k + 1) = lDw (lDn2 (lDn1 v 4) k) k from if_pos h184]; simp only [lDw, lDi, if_neg (Int32.not_lt.mpr h204), if_neg h216, if_neg h233]; done) | (rw [show lDn2 (lDn1 v 4) (k + 1) = lDw (lDn2 (lDn1 v 4) k) k from if_pos h184]; simp only [lDw, lDi, if_pos (Int32.not_le.mp h204), if_pos h289]; rfl) | (rw [show lDn2 (lDn1 v 4) (k + 1) = lDw (lDn2 (lDn1 v 4) k) k from if_pos h184]; simp only [lDw, lDi, if_pos (Int32.not_le.mp h204), if_neg h289]; rfl) | (rw [show lDn2 (lDn1 v 4) (k + 1) = lDw (lDn2 (lDn1 v 4) k) k from if_pos h184]; simp only [lDw, lDi, if_neg (Int32.not_lt.mpr h204), if_pos h216, if_pos h289]; rfl) | (rw [show lDn2 (lDn1 v 4) (k + 1) = lDw (lDn2 (lDn1 v 4) k) k from if_pos h184]; simp only [lDw, lDi, if_neg (Int32.not_lt.mpr h204), if_pos h216, if_neg h289]; rfl) | (rw [show lDn2 (lDn1 v 4) (k + 1) = lDw (lDn2 (lDn1 v 4) k) k from if_pos h184]; simp only [lDw, lDi, if_neg (Int32.not_lt.mpr h204), if_neg h216, if_pos h233]; rfl) | (rw [show lDn2 (lDn1 v 4) (k + 1) = lDw (lDn2 (lDn1 v 4) k) k from if_pos h184]; simp only [lDw, lDi, if_neg (Int32.not_lt.mpr h204), if_neg h216, if_neg h233]; rfl)) ⟨(by first | rfl | simp), (by first | rfl | simp), (by first | rfl | simp), (by first | rfl | simp), (by first | rfl | simp), (by first | rfl | simp), (by first | rfl | simp), (by first | rfl | simp), (by first | rfl | simp), (by first | rfl | simp), trivial⟩
              · refine G.bipush C 10 dL_evening_219 (by decide) ?_
                refine G.goto C 243 dL_evening_221 (by decide) ?_
                refine G.dup2 C dL_evening_243 rfl rfl ?_
                refine G.ialdL C (n := 13) (j := 0) (d0 := 10) (gN_l hl rfl) (hv _ (by omega)) (by unfold vp_in; decide) (by decide) dL_evening_244 ?_
                refine G.iconst C 1 dL_evening_245 (by decide) ?_
                refine G.iadd C dL_evening_246 ?_
                refine G.iastL C (n := 13) (j := 0) (d0 := 10) (gN_l hl rfl) (hv _ (by omega)) (by unfold vp_in; decide) (by decide) dL_evening_247 ?_
                refine G.ald5 C dL_evening_248 ?_
                refine G.iconst C 4 dL_evening_250 (by decide) ?_
                refine G.ild9 C dL_evening_251 ?_
                refine G.imul C dL_evening_253 ?_
                refine G.topI (nI (4 * k)) (pk_mul _ _) ?_
                refine G.iconst C 2 dL_evening_254 (by decide) ?_
                refine G.iadd C dL_evening_255 ?_
                refine G.topI (nI ((4 * k) + 2)) (nI_add _ _) ?_
                refine G.dup2 C dL_evening_256 rfl rfl ?_
                refine G.ialdL C (n := 64) (j := 2) (d0 := ((4 * k) + 2)) (gN_l hl rfl) (hv _ (by omega)) (by first | assumption | exact vp_in_nI (by omega) (by omega) | (unfold vp_in; decide)) (ix_nI (by omega)) dL_evening_257 ?_
                refine G.topI ((lDn2 (lDn1 v 4) k) 2 (4 * k + 2)) rfl ?_
                refine G.ild10 C dL_evening_258 ?_
                refine G.if_ge C 267 dL_evening_260 (by decide) (fun _ => ?_) (fun h => absurd h204 h)
                refine G.iconst C 0 dL_evening_267 (by decide) ?_
                refine G.iadd C dL_evening_268 ?_
                refine G.iastL C (n := 64) (j := 2) (d0 := ((4 * k) + 2)) (gN_l hl rfl) (hv _ (by omega)) (by first | assumption | exact vp_in_nI (by omega) (by omega) | (unfold vp_in; decide)) (ix_nI (by omega)) dL_evening_269 ?_
                refine G.ald5 C dL_evening_270 ?_
                refine G.iconst C 4 dL_evening_272 (by decide) ?_
                refine G.ild9 C dL_evening_273 ?_
                refine G.imul C dL_evening_275 ?_
                refine G.topI (nI (4 * k)) (pk_mul _ _) ?_
                refine G.iconst C 3 dL_evening_276 (by decide) ?_
                refine G.iadd C dL_evening_277 ?_
                refine G.topI (nI ((4 * k) + 3)) (nI_add _ _) ?_
                refine G.dup2 C dL_evening_278 rfl rfl ?_
                refine G.ialdL C (n := 64) (j := 2) (d0 := ((4 * k) + 3)) (gN_l hl rfl) (hv _ (by omega)) (by first | assumption | exact vp_in_nI (by omega) (by omega) | (unfold vp_in; decide)) (ix_nI (by omega)) dL_evening_279 ?_
                refine G.topI ((lDn2 (lDn1 v 4) k) 2 (4 * k + 3)) (by rw [cWr, zU_ne (by omega)]; rfl) ?_
                refine G.ild10 C dL_evening_280 ?_
                refine G.ald4 C dL_evening_282 ?_
                refine G.iconst C 4 dL_evening_284 (by decide) ?_
                refine G.ild9 C dL_evening_285 ?_
                refine G.imul C dL_evening_287 ?_
                refine G.topI (nI (4 * k)) (pk_mul _ _) ?_
                refine G.ialdL C (n := 64) (j := 1) (d0 := (4 * k)) (gN_l hl rfl) (hv _ (by omega)) (by first | assumption | exact vp_in_nI (by omega) (by omega) | (unfold vp_in; decide)) (ix_nI (by omega)) dL_evening_288 ?_
                refine G.topI ((lDn2 (lDn1 v 4) k) 1 (4 * k)) rfl ?_
                refine G.icmp_ne C 296 dL_evening_289 (by decide) (fun h289 => ?_) (fun h289 => ?_)
                · refine G.iconst C 0 dL_evening_296 (by decide) ?_
                  refine G.iadd C dL_evening_297 ?_
                  refine G.iastL C (n := 64) (j := 2) (d0 := ((4 * k) + 3)) (gN_l hl rfl) (hv _ (by omega)) (by first | assumption | exact vp_in_nI (by omega) (by omega) | (unfold vp_in; decide)) (ix_nI (by omega)) dL_evening_298 ?_
                  refine G.ald4 C dL_evening_299 ?_
                  refine G.iconst C 4 dL_evening_301 (by decide) ?_
                  refine G.ild9 C dL_evening_302 ?_
                  refine G.imul C dL_evening_304 ?_
                  refine G.topI (nI (4 * k)) (pk_mul _ _) ?_
                  refine G.iconst C 2 dL_evening_305 (by decide) ?_
                  refine G.iadd C dL_evening_306 ?_
                  refine G.topI (nI ((4 * k) + 2)) (nI_add _ _) ?_
                  refine G.iconst C (-1) dL_evening_307 (by decide) ?_
                  refine G.iastL C (n := 64) (j := 1) (d0 := ((4 * k) + 2)) (gN_l hl rfl) (hv _ (by omega)) (by first | assumption | exact vp_in_nI (by omega) (by omega) | (unfold vp_in; decide)) (ix_nI (by omega)) dL_evening_308 ?_
                  refine G.iincN9 C dL_evening_309 (by omega) rfl ?_
                  refine G.goto C 171 dL_evening_312 (by decide) ?_
                  refine G.wide (cl' := 0) (sl' := 0) (by omega) (by omega) ?_
                  exact G.back (ih (k + 1) (by omega) ) (by first | (rw [show lDn2 (lDn1 v 4) (k + 1) = lDn2 (lDn1 v 4) k from if_neg (by rw [h184]; decide)]; done) | (rw [show lDn2 (lDn1 v 4) (k + 1) = lDw (lDn2 (lDn1 v 4) k) k from if_pos h184]; simp only [lDw, lDi, if_pos (Int32.not_le.mp h204), if_pos h289]; done) | (rw [show lDn2 (lDn1 v 4) (k + 1) = lDw (lDn2 (lDn1 v 4) k) k from if_pos h184]; simp only [lDw, lDi, if_pos (Int32.not_le.mp h204), if_neg h289]; done) | (rw [show lDn2 (lDn1 v 4) (k + 1) = lDw (lDn2 (lDn1 v 4) k) k from if_pos h184]; simp only [lDw, lDi, if_neg (Int32.not_lt.mpr h204), if_pos h216, if_pos h289]; done) | (rw [show lDn2 (lDn1 v 4) (k + 1) = lDw (lDn2 (lDn1 v 4) k) k from if_pos h184]; simp only [lDw, lDi, if_neg (Int32.not_lt.mpr h204), if_pos h216, if_neg h289]; done) | (rw [show lDn2 (lDn1 v 4) (k + 1) = lDw (lDn2 (lDn1 v 4) k) k from if_pos h184]; simp only [lDw, lDi, if_neg (Int32.not_lt.mpr h204), if_neg h216, if_pos h233]; done) | (rw [show lDn2 (lDn1 v 4) (k + 1) = lDw (lDn2 (lDn1 v 4) k) k from if_pos h184]; simp only [lDw, lDi, if_neg (Int32.not_lt.mpr h204), if_neg h216, if_neg h233]; done) | (rw [show lDn2 (lDn1 v 4) (k + 1) = lDw (lDn2 (lDn1 v 4) k) k from if_pos h184]; simp only [lDw, lDi, if_pos (Int32.not_le.mp h204), if_pos h289]; rfl) | (rw [show lDn2 (lDn1 v 4) (k + 1) = lDw (lDn2 (lDn1 v 4) k) k from if_pos h184]; simp only [lDw, lDi, if_pos (Int32.not_le.mp h204), if_neg h289]; rfl) | (rw [show lDn2 (lDn1 v 4) (k + 1) = lDw (lDn2 (lDn1 v 4) k) k from if_pos h184]; simp only [lDw, lDi, if_neg (Int32.not_lt.mpr h204), if_pos h216, if_pos h289]; rfl) | (rw [show lDn2 (lDn1 v 4) (k + 1) = lDw (lDn2 (lDn1 v 4) k) k from if_pos h184]; simp only [lDw, lDi, if_neg (Int32.not_lt.mpr h204), if_pos h216, if_neg h289]; rfl) | (rw [show lDn2 (lDn1 v 4) (k + 1) = lDw (lDn2 (lDn1 v 4) k) k from if_pos h184]; simp only [lDw, lDi, if_neg (Int32.not_lt.mpr h204), if_neg h216, if_pos h233]; rfl) | (rw [show lDn2 (lDn1 v 4) (k + 1) = lDw (lDn2 (lDn1 v 4) k) k from if_pos h184]; simp only [lDw, lDi, if_neg (Int32.not_lt.mpr h204), if_neg h216, if_neg h233]; rfl)) ⟨(by first | rfl | simp), (by first | rfl | simp), (by first | rfl | simp), (by first | rfl | simp), (by first | rfl | simp), (by first | rfl | simp), (by first | rfl | simp), (by first | rfl | simp), (by first | rfl | simp), (by first | rfl | simp), trivial⟩
                · refine G.iconst C 1 dL_evening_292 (by decide) ?_
                  refine G.goto C 297 dL_evening_293 (by decide) ?_
                  refine G.iadd C dL_evening_297 ?_
                  refine G.iastL C (n := 64) (j := 2) (d0 := ((4 * k) + 3)) (gN_l hl rfl) (hv _ (by omega)) (by first | assumption | exact vp_in_nI (by omega) (by omega) | (unfold vp_in; decide)) (ix_nI (by omega)) dL_evening_298 ?_
                  refine G.ald4 C dL_evening_299 ?_
                  refine G.iconst C 4 dL_evening_301 (by decide) ?_
                  refine G.ild9 C dL_evening_302 ?_
                  refine G.imul C dL_evening_304 ?_
                  refine G.topI (nI (4 * k)) (pk_mul _ _) ?_
                  refine G.iconst C 2 dL_evening_305 (by decide) ?_
                  refine G.iadd C dL_evening_306 ?_
                  refine G.topI (nI ((4 * k) + 2)) (nI_add _ _) ?_
                  refine G.iconst C (-1) dL_evening_307 (by decide) ?_
                  refine G.iastL C (n := 64) (j := 1) (d0 := ((4 * k) + 2)) (gN_l hl rfl) (hv _ (by omega)) (by first | assumption | exact vp_in_nI (by omega) (by omega) | (unfold vp_in; decide)) (ix_nI (by omega)) dL_evening_308 ?_
                  refine G.iincN9 C dL_evening_309 (by omega) rfl ?_
                  refine G.goto C 171 dL_evening_312 (by decide) ?_
                  refine G.wide (cl' := 0) (sl' := 0) (by omega) (by omega) ?_
                  exact G.back (ih (k + 1) (by omega) ) (by first | (rw [show lDn2 (lDn1 v 4) (k + 1) = lDn2 (lDn1 v 4) k from if_neg (by rw [h184]; decide)]; done) | (rw [show lDn2 (lDn1 v 4) (k + 1) = lDw (lDn2 (lDn1 v 4) k) k from if_pos h184]; simp only [lDw, lDi, if_pos (Int32.not_le.mp h204), if_pos h289]; done) | (rw [show lDn2 (lDn1 v 4) (k + 1) = lDw (lDn2 (lDn1 v 4) k) k from if_pos h184]; simp only [lDw, lDi, if_pos (Int32.not_le.mp h204), if_neg h289]; done) | (rw [show lDn2 (lDn1 v 4) (k + 1) = lDw (lDn2 (lDn1 v 4) k) k from if_pos h184]; simp only [lDw, lDi, if_neg (Int32.not_lt.mpr h204), if_pos h216, if_pos h289]; done) | (rw [show lDn2 (lDn1 v 4) (k + 1) = lDw (lDn2 (lDn1 v 4) k) k from if_pos h184]; simp only [lDw, lDi, if_neg (Int32.not_lt.mpr h204), if_pos h216, if_neg h289]; done) | (rw [show lDn2 (lDn1 v 4) (k + 1) = lDw (lDn2 (lDn1 v 4) k) k from if_pos h184]; simp only [lDw, lDi, if_neg (Int32.not_lt.mpr h204), if_neg h216, if_pos h233]; done) | (rw [show lDn2 (lDn1 v 4) (k + 1) = lDw (lDn2 (lDn1 v 4) k) k from if_pos h184]; simp only [lDw, lDi, if_neg (Int32.not_lt.mpr h204), if_neg h216, if_neg h233]; done) | (rw [show lDn2 (lDn1 v 4) (k + 1) = lDw (lDn2 (lDn1 v 4) k) k from if_pos h184]; simp only [lDw, lDi, if_pos (Int32.not_le.mp h204), if_pos h289]; rfl) | (rw [show lDn2 (lDn1 v 4) (k + 1) = lDw (lDn2 (lDn1 v 4) k) k from if_pos h184]; simp only [lDw, lDi, if_pos (Int32.not_le.mp h204), if_neg h289]; rfl) | (rw [show lDn2 (lDn1 v 4) (k + 1) = lDw (lDn2 (lDn1 v 4) k) k from if_pos h184]; simp only [lDw, lDi, if_neg (Int32.not_lt.mpr h204), if_pos h216, if_pos h289]; rfl) | (rw [show lDn2 (lDn1 v 4) (k + 1) = lDw (lDn2 (lDn1 v 4) k) k from if_pos h184]; simp only [lDw, lDi, if_neg (Int32.not_lt.mpr h204), if_pos h216, if_neg h289]; rfl) | (rw [show lDn2 (lDn1 v 4) (k + 1) = lDw (lDn2 (lDn1 v 4) k) k from if_pos h184]; simp only [lDw, lDi, if_neg (Int32.not_lt.mpr h204), if_neg h216, if_pos h233]; rfl) | (rw [show lDn2 (lDn1 v 4) (k + 1) = lDw (lDn2 (lDn1 v 4) k) k from if_pos h184]; simp only [lDw, lDi, if_neg (Int32.not_lt.mpr h204), if_neg h216, if_neg h233]; rfl)) ⟨(by first | rfl | simp), (by first | rfl | simp), (by first | rfl | simp), (by first | rfl | simp), (by first | rfl | simp), (by first | rfl | simp), (by first | rfl | simp), (by first | rfl | simp), (by first | rfl | simp), (by first | rfl | simp), trivial⟩
            · refine G.bipush C 11 dL_evening_207 (by decide) ?_
              refine G.goto C 243 dL_evening_209 (by decide) ?_
              refine G.dup2 C dL_evening_243 rfl rfl ?_
              refine G.ialdL C (n := 13) (j := 0) (d0 := 11) (gN_l hl rfl) (hv _ (by omega)) (by unfold vp_in; decide) (by decide) dL_evening_244 ?_
              refine G.iconst C 1 dL_evening_245 (by decide) ?_
              refine G.iadd C dL_evening_246 ?_
              refine G.iastL C (n := 13) (j := 0) (d0 := 11) (gN_l hl rfl) (hv _ (by omega)) (by unfold vp_in; decide) (by decide) dL_evening_247 ?_
              refine G.ald5 C dL_evening_248 ?_
              refine G.iconst C 4 dL_evening_250 (by decide) ?_
              refine G.ild9 C dL_evening_251 ?_
              refine G.imul C dL_evening_253 ?_
              refine G.topI (nI (4 * k)) (pk_mul _ _) ?_
              refine G.iconst C 2 dL_evening_254 (by decide) ?_
              refine G.iadd C dL_evening_255 ?_
              refine G.topI (nI ((4 * k) + 2)) (nI_add _ _) ?_
              refine G.dup2 C dL_evening_256 rfl rfl ?_
              refine G.ialdL C (n := 64) (j := 2) (d0 := ((4 * k) + 2)) (gN_l hl rfl) (hv _ (by omega)) (by first | assumption | exact vp_in_nI (by omega) (by omega) | (unfold vp_in; decide)) (ix_nI (by omega)) dL_evening_257 ?_
              refine G.topI ((lDn2 (lDn1 v 4) k) 2 (4 * k + 2)) rfl ?_
              refine G.ild10 C dL_evening_258 ?_
              refine G.if_ge C 267 dL_evening_260 (by decide) (fun h => absurd h h204) (fun _ => ?_)
              refine G.iconst C 1 dL_evening_263 (by decide) ?_
              refine G.goto C 268 dL_evening_264 (by decide) ?_
              refine G.iadd C dL_evening_268 ?_
              refine G.iastL C (n := 64) (j := 2) (d0 := ((4 * k) + 2)) (gN_l hl rfl) (hv _ (by omega)) (by first | assumption | exact vp_in_nI (by omega) (by omega) | (unfold vp_in; decide)) (ix_nI (by omega)) dL_evening_269 ?_
              refine G.ald5 C dL_evening_270 ?_
              refine G.iconst C 4 dL_evening_272 (by decide) ?_
              refine G.ild9 C dL_evening_273 ?_
              refine G.imul C dL_evening_275 ?_
              refine G.topI (nI (4 * k)) (pk_mul _ _) ?_
              refine G.iconst C 3 dL_evening_276 (by decide) ?_
              refine G.iadd C dL_evening_277 ?_
              refine G.topI (nI ((4 * k) + 3)) (nI_add _ _) ?_
              refine G.dup2 C dL_evening_278 rfl rfl ?_
              refine G.ialdL C (n := 64) (j := 2) (d0 := ((4 * k) + 3)) (gN_l hl rfl) (hv _ (by omega)) (by first | assumption | exact vp_in_nI (by omega) (by omega) | (unfold vp_in; decide)) (ix_nI (by omega)) dL_evening_279 ?_
              refine G.topI ((lDn2 (lDn1 v 4) k) 2 (4 * k + 3)) (by rw [cWr, zU_ne (by omega)]; rfl) ?_
              refine G.ild10 C dL_evening_280 ?_
              refine G.ald4 C dL_evening_282 ?_
              refine G.iconst C 4 dL_evening_284 (by decide) ?_
              refine G.ild9 C dL_evening_285 ?_
              refine G.imul C dL_evening_287 ?_
              refine G.topI (nI (4 * k)) (pk_mul _ _) ?_
              refine G.ialdL C (n := 64) (j := 1) (d0 := (4 * k)) (gN_l hl rfl) (hv _ (by omega)) (by first | assumption | exact vp_in_nI (by omega) (by omega) | (unfold vp_in; decide)) (ix_nI (by omega)) dL_evening_288 ?_
              refine G.topI ((lDn2 (lDn1 v 4) k) 1 (4 * k)) rfl ?_
              refine G.icmp_ne C 296 dL_evening_289 (by decide) (fun h289 => ?_) (fun h289 => ?_)
              · refine G.iconst C 0 dL_evening_296 (by decide) ?_
                refine G.iadd C dL_evening_297 ?_
                refine G.iastL C (n := 64) (j := 2) (d0 := ((4 * k) + 3)) (gN_l hl rfl) (hv _ (by omega)) (by first | assumption | exact vp_in_nI (by omega) (by omega) | (unfold vp_in; decide)) (ix_nI (by omega)) dL_evening_298 ?_
                refine G.ald4 C dL_evening_299 ?_
                refine G.iconst C 4 dL_evening_301 (by decide) ?_
                refine G.ild9 C dL_evening_302 ?_
                refine G.imul C dL_evening_304 ?_
                refine G.topI (nI (4 * k)) (pk_mul _ _) ?_
                refine G.iconst C 2 dL_evening_305 (by decide) ?_
                refine G.iadd C dL_evening_306 ?_
                refine G.topI (nI ((4 * k) + 2)) (nI_add _ _) ?_
                refine G.iconst C (-1) dL_evening_307 (by decide) ?_
                refine G.iastL C (n := 64) (j := 1) (d0 := ((4 * k) + 2)) (gN_l hl rfl) (hv _ (by omega)) (by first | assumption | exact vp_in_nI (by omega) (by omega) | (unfold vp_in; decide)) (ix_nI (by omega)) dL_evening_308 ?_
                refine G.iincN9 C dL_evening_309 (by omega) rfl ?_
                refine G.goto C 171 dL_evening_312 (by decide) ?_
                refine G.wide (cl' := 0) (sl' := 0) (by omega) (by omega) ?_
                exact G.back (ih (k + 1) (by omega) ) (by first | (rw [show lDn2 (lDn1 v 4) (k + 1) = lDn2 (lDn1 v 4) k from if_neg (by rw [h184]; decide)]; done) | (rw [show lDn2 (lDn1 v 4) (k + 1) = lDw (lDn2 (lDn1 v 4) k) k from if_pos h184]; simp only [lDw, lDi, if_pos (Int32.not_le.mp h204), if_pos h289]; done) | (rw [show lDn2 (lDn1 v 4) (k + 1) = lDw (lDn2 (lDn1 v 4) k) k from if_pos h184]; simp only [lDw, lDi, if_pos (Int32.not_le.mp h204), if_neg h289]; done) | (rw [show lDn2 (lDn1 v 4) (k + 1) = lDw (lDn2 (lDn1 v 4) k) k from if_pos h184]; simp only [lDw, lDi, if_neg (Int32.not_lt.mpr h204), if_pos h216, if_pos h289]; done) | (rw [show lDn2 (lDn1 v 4) (k + 1) = lDw (lDn2 (lDn1 v 4) k) k from if_pos h184]; simp only [lDw, lDi, if_neg (Int32.not_lt.mpr h204), if_pos h216, if_neg h289]; done) | (rw [show lDn2 (lDn1 v 4) (k + 1) = lDw (lDn2 (lDn1 v 4) k) k from if_pos h184]; simp only [lDw, lDi, if_neg (Int32.not_lt.mpr h204), if_neg h216, if_pos h233]; done) | (rw [show lDn2 (lDn1 v 4) (k + 1) = lDw (lDn2 (lDn1 v 4) k) k from if_pos h184]; simp only [lDw, lDi, if_neg (Int32.not_lt.mpr h204), if_neg h216, if_neg h233]; done) | (rw [show lDn2 (lDn1 v 4) (k + 1) = lDw (lDn2 (lDn1 v 4) k) k from if_pos h184]; simp only [lDw, lDi, if_pos (Int32.not_le.mp h204), if_pos h289]; rfl) | (rw [show lDn2 (lDn1 v 4) (k + 1) = lDw (lDn2 (lDn1 v 4) k) k from if_pos h184]; simp only [lDw, lDi, if_pos (Int32.not_le.mp h204), if_neg h289]; rfl) | (rw [show lDn2 (lDn1 v 4) (k + 1) = lDw (lDn2 (lDn1 v 4) k) k from if_pos h184]; simp only [lDw, lDi, if_neg (Int32.not_lt.mpr h204), if_pos h216, if_pos h289]; rfl) | (rw [show lDn2 (lDn1 v 4) (k + 1) = lDw (lDn2 (lDn1 v 4) k) k from if_pos h184]; simp only [lDw, lDi, if_neg (Int32.not_lt.mpr h204), if_pos h216, if_neg h289]; rfl) | (rw [show lDn2 (lDn1 v 4) (k + 1) = lDw (lDn2 (lDn1 v 4) k) k from if_pos h184]; simp only [lDw, lDi, if_neg (Int32.not_lt.mpr h204), if_neg h216, if_pos h233]; rfl) | (rw [show lDn2 (lDn1 v 4) (k + 1) = lDw (lDn2 (lDn1 v 4) k) k from if_pos h184]; simp only [lDw, lDi, if_neg (Int32.not_lt.mpr h204), if_neg h216, if_neg h233]; rfl)) ⟨(by first | rfl | simp), (by first | rfl | simp), (by first | rfl | simp), (by first | rfl | simp), (by first | rfl | simp), (by first | rfl | simp), (by first | rfl | simp), (by first | rfl | simp), (by first | rfl | simp), (by first | rfl | simp), trivial⟩
              · refine G.iconst C 1 dL_evening_292 (by decide) ?_
                refine G.goto C 297 dL_evening_293 (by decide) ?_
                refine G.iadd C dL_evening_297 ?_
                refine G.iastL C (n := 64) (j := 2) (d0 := ((4 * k) + 3)) (gN_l hl rfl) (hv _ (by omega)) (by first | assumption | exact vp_in_nI (by omega) (by omega) | (unfold vp_in; decide)) (ix_nI (by omega)) dL_evening_298 ?_
                refine G.ald4 C dL_evening_299 ?_
                refine G.iconst C 4 dL_evening_301 (by decide) ?_
                refine G.ild9 C dL_evening_302 ?_
                refine G.imul C dL_evening_304 ?_
                refine G.topI (nI (4 * k)) (pk_mul _ _) ?_
                refine G.iconst C 2 dL_evening_305 (by decide) ?_
                refine G.iadd C dL_evening_306 ?_
                refine G.topI (nI ((4 * k) + 2)) (nI_add _ _) ?_
                refine G.iconst C (-1) dL_evening_307 (by decide) ?_
                refine G.iastL C (n := 64) (j := 1) (d0 := ((4 * k) + 2)) (gN_l hl rfl) (hv _ (by omega)) (by first | assumption | exact vp_in_nI (by omega) (by omega) | (unfold vp_in; decide)) (ix_nI (by omega)) dL_evening_308 ?_
                refine G.iincN9 C dL_evening_309 (by omega) rfl ?_
                refine G.goto C 171 dL_evening_312 (by decide) ?_
                refine G.wide (cl' := 0) (sl' := 0) (by omega) (by omega) ?_
                exact G.back (ih (k + 1) (by omega) ) (by first | (rw [show lDn2 (lDn1 v 4) (k + 1) = lDn2 (lDn1 v 4) k from if_neg (by rw [h184]; decide)]; done) | (rw [show lDn2 (lDn1 v 4) (k + 1) = lDw (lDn2 (lDn1 v 4) k) k from if_pos h184]; simp only [lDw, lDi, if_pos (Int32.not_le.mp h204), if_pos h289]; done) | (rw [show lDn2 (lDn1 v 4) (k + 1) = lDw (lDn2 (lDn1 v 4) k) k from if_pos h184]; simp only [lDw, lDi, if_pos (Int32.not_le.mp h204), if_neg h289]; done) | (rw [show lDn2 (lDn1 v 4) (k + 1) = lDw (lDn2 (lDn1 v 4) k) k from if_pos h184]; simp only [lDw, lDi, if_neg (Int32.not_lt.mpr h204), if_pos h216, if_pos h289]; done) | (rw [show lDn2 (lDn1 v 4) (k + 1) = lDw (lDn2 (lDn1 v 4) k) k from if_pos h184]; simp only [lDw, lDi, if_neg (Int32.not_lt.mpr h204), if_pos h216, if_neg h289]; done) | (rw [show lDn2 (lDn1 v 4) (k + 1) = lDw (lDn2 (lDn1 v 4) k) k from if_pos h184]; simp only [lDw, lDi, if_neg (Int32.not_lt.mpr h204), if_neg h216, if_pos h233]; done) | (rw [show lDn2 (lDn1 v 4) (k + 1) = lDw (lDn2 (lDn1 v 4) k) k from if_pos h184]; simp only [lDw, lDi, if_neg (Int32.not_lt.mpr h204), if_neg h216, if_neg h233]; done) | (rw [show lDn2 (lDn1 v 4) (k + 1) = lDw (lDn2 (lDn1 v 4) k) k from if_pos h184]; simp only [lDw, lDi, if_pos (Int32.not_le.mp h204), if_pos h289]; rfl) | (rw [show lDn2 (lDn1 v 4) (k + 1) = lDw (lDn2 (lDn1 v 4) k) k from if_pos h184]; simp only [lDw, lDi, if_pos (Int32.not_le.mp h204), if_neg h289]; rfl) | (rw [show lDn2 (lDn1 v 4) (k + 1) = lDw (lDn2 (lDn1 v 4) k) k from if_pos h184]; simp only [lDw, lDi, if_neg (Int32.not_lt.mpr h204), if_pos h216, if_pos h289]; rfl) | (rw [show lDn2 (lDn1 v 4) (k + 1) = lDw (lDn2 (lDn1 v 4) k) k from if_pos h184]; simp only [lDw, lDi, if_neg (Int32.not_lt.mpr h204), if_pos h216, if_neg h289]; rfl) | (rw [show lDn2 (lDn1 v 4) (k + 1) = lDw (lDn2 (lDn1 v 4) k) k from if_pos h184]; simp only [lDw, lDi, if_neg (Int32.not_lt.mpr h204), if_neg h216, if_pos h233]; rfl) | (rw [show lDn2 (lDn1 v 4) (k + 1) = lDw (lDn2 (lDn1 v 4) k) k from if_pos h184]; simp only [lDw, lDi, if_neg (Int32.not_lt.mpr h204), if_neg h216, if_neg h233]; rfl)) ⟨(by first | rfl | simp), (by first | rfl | simp), (by first | rfl | simp), (by first | rfl | simp), (by first | rfl | simp), (by first | rfl | simp), (by first | rfl | simp), (by first | rfl | simp), (by first | rfl | simp), (by first | rfl | simp), trivial⟩
          · refine G.goto C 309 dL_evening_187 (by decide) ?_
            refine G.iincN9 C dL_evening_309 (by omega) rfl ?_
            refine G.goto C 171 dL_evening_312 (by decide) ?_
            refine G.wide (cl' := 0) (sl' := 0) (by omega) (by omega) ?_
            exact G.back (ih (k + 1) (by omega) ) (by first | (rw [show lDn2 (lDn1 v 4) (k + 1) = lDn2 (lDn1 v 4) k from if_neg (by rw [h184]; decide)]; done) | (rw [show lDn2 (lDn1 v 4) (k + 1) = lDw (lDn2 (lDn1 v 4) k) k from if_pos h184]; simp only [lDw, lDi, if_pos (Int32.not_le.mp h204), if_pos h289]; done) | (rw [show lDn2 (lDn1 v 4) (k + 1) = lDw (lDn2 (lDn1 v 4) k) k from if_pos h184]; simp only [lDw, lDi, if_pos (Int32.not_le.mp h204), if_neg h289]; done) | (rw [show lDn2 (lDn1 v 4) (k + 1) = lDw (lDn2 (lDn1 v 4) k) k from if_pos h184]; simp only [lDw, lDi, if_neg (Int32.not_lt.mpr h204), if_pos h216, if_pos h289]; done) | (rw [show lDn2 (lDn1 v 4) (k + 1) = lDw (lDn2 (lDn1 v 4) k) k from if_pos h184]; simp only [lDw, lDi, if_neg (Int32.not_lt.mpr h204), if_pos h216, if_neg h289]; done) | (rw [show lDn2 (lDn1 v 4) (k + 1) = lDw (lDn2 (lDn1 v 4) k) k from if_pos h184]; simp only [lDw, lDi, if_neg (Int32.not_lt.mpr h204), if_neg h216, if_pos h233]; done) | (rw [show lDn2 (lDn1 v 4) (k + 1) = lDw (lDn2 (lDn1 v 4) k) k from if_pos h184]; simp only [lDw, lDi, if_neg (Int32.not_lt.mpr h204), if_neg h216, if_neg h233]; done) | (rw [show lDn2 (lDn1 v 4) (k + 1) = lDw (lDn2 (lDn1 v 4) k) k from if_pos h184]; simp only [lDw, lDi, if_pos (Int32.not_le.mp h204), if_pos h289]; rfl) | (rw [show lDn2 (lDn1 v 4) (k + 1) = lDw (lDn2 (lDn1 v 4) k) k from if_pos h184]; simp only [lDw, lDi, if_pos (Int32.not_le.mp h204), if_neg h289]; rfl) | (rw [show lDn2 (lDn1 v 4) (k + 1) = lDw (lDn2 (lDn1 v 4) k) k from if_pos h184]; simp only [lDw, lDi, if_neg (Int32.not_lt.mpr h204), if_pos h216, if_pos h289]; rfl) | (rw [show lDn2 (lDn1 v 4) (k + 1) = lDw (lDn2 (lDn1 v 4) k) k from if_pos h184]; simp only [lDw, lDi, if_neg (Int32.not_lt.mpr h204), if_pos h216, if_neg h289]; rfl) | (rw [show lDn2 (lDn1 v 4) (k + 1) = lDw (lDn2 (lDn1 v 4) k) k from if_pos h184]; simp only [lDw, lDi, if_neg (Int32.not_lt.mpr h204), if_neg h216, if_pos h233]; rfl) | (rw [show lDn2 (lDn1 v 4) (k + 1) = lDw (lDn2 (lDn1 v 4) k) k from if_pos h184]; simp only [lDw, lDi, if_neg (Int32.not_lt.mpr h204), if_neg h216, if_neg h233]; rfl)) ⟨(by first | rfl | simp), (by first | rfl | simp), (by first | rfl | simp), (by first | rfl | simp), (by first | rfl | simp), (by first | rfl | simp), (by first | rfl | simp), (by first | rfl | simp), (by first | rfl | simp), (by first | rfl | simp), trivial⟩
      refine G.wide (cl' := 0) (sl' := 0) (by omega) (by omega) ?_
      exact G.back (L171 16 0 (Nat.zero_add _) ) rfl ⟨(by first | rfl | simp), (by first | rfl | simp), (by first | rfl | simp), (by first | rfl | simp), (by first | rfl | simp), (by first | rfl | simp), (by first | rfl | simp), (by first | rfl | simp), (by first | rfl | simp), (by first | rfl | simp), trivial⟩
    | succ n ih =>
      intro k hk
      have C := C.wide (cl' := 0) (sl' := 0) (by show _ ≤ (4 : Nat); omega) (by show _ ≤ (24 : Nat); omega)
      have hk2 : k < 4 := by omega
      refine G.ild9 C dL_evening_150 ?_
      refine G.bipush C 12 dL_evening_152 (by decide) ?_
      refine G.icmp_ge C 168 dL_evening_154 (by decide) (fun h => absurd h (nI_ge (a := 8 + k) (b := 12) (by omega) (by omega))) (fun _ => ?_)
      refine G.aldn3 C dL_evening_157 ?_
      refine G.ild9 C dL_evening_158 ?_
      refine G.iconst C 0 dL_evening_160 (by decide) ?_
      refine G.iastL C (n := 13) (j := 0) (d0 := (8 + k)) (gN_l hl rfl) (hv _ (by omega)) (by first | assumption | exact vp_in_nI (by omega) (by omega) | (unfold vp_in; decide)) (ix_nI (by omega)) dL_evening_161 ?_
      refine G.iincN9 C dL_evening_162 (by omega) rfl ?_
      refine G.goto C 150 dL_evening_165 (by decide) ?_
      refine G.wide (cl' := 0) (sl' := 0) (by omega) (by omega) ?_
      exact G.back (ih (k + 1) (by omega) ) rfl ⟨(by first | with_reducible rfl | rfl), (by first | with_reducible rfl | rfl), (by first | with_reducible rfl | rfl), (by first | with_reducible rfl | rfl), (by first | with_reducible rfl | rfl), (by first | with_reducible rfl | rfl), (by first | with_reducible rfl | rfl), (by first | with_reducible rfl | rfl), (by first | with_reducible rfl | rfl), (by first | with_reducible rfl | rfl), trivial⟩
  refine G.wide (cl' := 0) (sl' := 0) (by omega) (by omega) ?_
  exact G.back (L150 4 0 (Nat.zero_add _) ) rfl ⟨(by first | with_reducible rfl | rfl), (by first | with_reducible rfl | rfl), (by first | with_reducible rfl | rfl), (by first | with_reducible rfl | rfl), (by first | with_reducible rfl | rfl), (by first | with_reducible rfl | rfl), (by first | with_reducible rfl | rfl), (by first | with_reducible rfl | rfl), (by first | with_reducible rfl | rfl), (by first | with_reducible rfl | rfl), trivial⟩
set_option maxRecDepth 100000 in
set_option maxHeartbeats 8000000 in
theorem k_L_evening_387 (l : Launch) (hst : l.stackTraces = false) {E : gEn} {σ : gSt} {π : Nat → Nat} {o : Int64} {c0 c1 c2 c9 v : cSt} {x y : Int32} {B sv : Nat} (hs : c9 0 5 = nI sv) (hle : sv ≤ 6) (hπ : ∀ k, k < 6 → 3 ≤ π k ∧ π k < 9) (hS : SRL B c0 v) {how d n : Nat} (hB : B < 2 ^ 30) (hd : d < 16) (hn : n ≤ 1439) {p : Program} {e : Env} {s : State} {m : MethodId} {args : Array Value} {below : List Frame} {meth : Method} {cd : Code} (C : gCx p s m cd cL_evening 11 RL wsL_evening args E (gA E) ({ frames := 9, cells := 4, slots := 24, locals := 194 } : Room) 0 0) (hZ : gZ E (gA E) s) (hrt : meth.sig.returnType = (some .boolean)) (hlk : meth.locks = false) : G p l e ({ frames := 9, cells := 4, slots := 24, locals := 194 } : Room) s m args below meth cd 11 0 0 (gA E) (gQP below args s E o (BigL (B + 24)) 4 24) E (gL σ c0 c1 c2 c9 v) π o 387 [some (.ref (E.2.1 9 0)), some (.int x), some (.int y), some (.ref (E.2.1 10 0)), some (.ref (E.2.1 10 1)), some (.ref (E.2.1 10 2)), some (.ref (E.2.1 10 3)), some (.int (nI how)), some (.int (nI d)), none, none] [.int (nI n)] := by
  have hl : 10 ≤ 10 := Nat.le_refl 10
  have hv : ∀ j, j < 4 → gV E 10 j := fun j hj => gV_d hj
  refine G.ist9 C dL_evening_387 (by omega) rfl ?_
  refine G.aldn3 C dL_evening_389 ?_
  refine G.ild8 C dL_evening_390 ?_
  refine G.callSI2 C (TLI (k_L_is l hl hv (by omega))) (va_cwS 2 C.1.2.2.2.2 gL_evening_L_is rfl rfl rfl (by decide +kernel) ⟨Nat.le_of_ble_eq_true rfl, Nat.le_of_ble_eq_true rfl⟩) (Nat.le_of_ble_eq_true rfl) dL_evening_392 ?_
  refine G.if_neB C 418 dL_evening_395 (by decide) (fun h395 => ?_) (fun h395 => ?_)
  · refine G.ald4 C dL_evening_418 ?_
    refine G.iconst C 4 dL_evening_420 (by decide) ?_
    refine G.ild8 C dL_evening_421 ?_
    refine G.imul C dL_evening_423 ?_
    refine G.topI (nI (4 * d)) (pk_mul _ _) ?_
    refine G.iconst C 2 dL_evening_424 (by decide) ?_
    refine G.iadd C dL_evening_425 ?_
    refine G.topI (nI ((4 * d) + 2)) (nI_add _ _) ?_
    refine G.ialdL C (n := 64) (j := 1) (d0 := ((4 * d) + 2)) (gN_l hl rfl) (hv _ (by omega)) (by first | assumption | exact vp_in_nI (by omega) (by omega) | (unfold vp_in; decide)) (ix_nI (by omega)) dL_evening_426 ?_
    refine G.if_ge C 438 dL_evening_427 (by decide) (fun h427 => ?_) (fun h427 => ?_)
    · refine G.aldn0 C dL_evening_438 ?_
      refine G.ild8 C dL_evening_439 ?_
      refine G.ild9 C dL_evening_441 ?_
      refine G.callH3 C hZ (k_L_home_t3 l hst (by rw [← hS.exs d hd]; exact h395) (nI_pos (by omega)) (nI_le (b := 1439) hn (by omega)) (by rw [whyHomeL hS hd (by rw [← hS.exs d hd]; exact h395), if_neg (Int32.not_lt.mpr h427)]; decide)) (vx_cwSW 3 C.1.2.2.2.2 gL_evening_L_home rfl rfl rfl (by decide +kernel) ⟨(Nat.le_of_ble_eq_true rfl), (Nat.le_of_ble_eq_true rfl)⟩) (Nat.le_of_ble_eq_true rfl) dL_evening_443 ⟨by show _ ≤ (4 : Nat); omega, by show _ ≤ (24 : Nat); omega⟩ (fun C => ?_)
      refine G.topI ((-33)) rfl ?_
      refine G.bipush C (-33) dL_evening_446 (by decide) ?_
      refine G.icmp_ne C 469 dL_evening_448 (by decide) (fun h => absurd rfl h) (fun _ => ?_)
      refine G.aldn0 C dL_evening_451 ?_
      refine G.ild8 C dL_evening_452 ?_
      refine G.sipush C 1440 dL_evening_454 (by decide) ?_
      refine G.callH3 C hZ (k_L_home_t2 l hst (by rw [← hS.exs d hd]; exact h395) (by decide)) (vx_cwSW 3 C.1.2.2.2.2 gL_evening_L_home rfl rfl rfl (by decide +kernel) ⟨(Nat.le_of_ble_eq_true rfl), (Nat.le_of_ble_eq_true rfl)⟩) (Nat.le_of_ble_eq_true rfl) dL_evening_457 ⟨by show _ ≤ (4 : Nat); omega, by show _ ≤ (24 : Nat); omega⟩ (fun C => ?_)
      refine G.topI ((-32)) rfl ?_
      refine G.bipush C (-32) dL_evening_460 (by decide) ?_
      refine G.icmp_ne C 469 dL_evening_462 (by decide) (fun h => absurd rfl h) (fun _ => ?_)
      refine G.iconst C 1 dL_evening_465 (by decide) ?_
      refine G.goto C 470 dL_evening_466 (by decide) ?_
      exact G.pret C (by omega) (by omega) hlk hrt dL_evening_470 rfl ((BigL.mk hs hle hπ hS).mono (Nat.le_add_right B 24))
    · refine G.ild9 C dL_evening_430 ?_
      refine G.aldn3 C dL_evening_432 ?_
      refine G.iconst C 2 dL_evening_433 (by decide) ?_
      refine G.ialdL C (n := 13) (j := 0) (d0 := 2) (gN_l hl rfl) (hv _ (by omega)) (by unfold vp_in; decide) (by decide) dL_evening_434 ?_
      refine G.icmp_ge C 471 dL_evening_435 (by decide) (fun h435 => ?_) (fun h435 => ?_)
      · have hpl := (placeL hS hd (by rw [← hS.exs d hd]; exact h395)).2 (Int32.not_le.mp h427)
        obtain ⟨⟨w0, mo, ew, hw0, hmo, em, hp⟩, hS2, hcr⟩ := homeL_SR hS hB hd (cEx_at hd (by rw [← hS.exs d hd]; exact h395)) hpl hn
        refine G.aldn3 C dL_evening_471 ?_
        refine G.ald4 C dL_evening_472 ?_
        refine G.ald5 C dL_evening_474 ?_
        refine G.ald6 C dL_evening_476 ?_
        refine G.ild8 C dL_evening_478 ?_
        refine G.ild9 C dL_evening_480 ?_
        refine G.callSI6 C (TLI (k_L_comes l hl hv hd ew hw0 hmo em hp)) (va_cwS 6 C.1.2.2.2.2 gL_evening_L_comes rfl rfl rfl (by decide +kernel) ⟨Nat.le_of_ble_eq_true rfl, Nat.le_of_ble_eq_true rfl⟩) (Nat.le_of_ble_eq_true rfl) dL_evening_482 ?_
        refine G.aldn0 C dL_evening_485 ?_
        refine G.ild8 C dL_evening_486 ?_
        refine G.ild9 C dL_evening_488 ?_
        refine G.callH3 C hZ (k_L_home l (by rw [← hS.exs d hd]; exact h395) (nI_pos (by omega)) (nI_le (b := 1439) hn (by omega)) (by rw [whyHomeL hS hd (by rw [← hS.exs d hd]; exact h395), if_pos (Int32.not_le.mp h427), if_pos h435]) hs hle hπ) (vx_cwSW 3 C.1.2.2.2.2 gL_evening_L_home rfl rfl rfl (by decide +kernel) ⟨(Nat.le_of_ble_eq_true rfl), (Nat.le_of_ble_eq_true rfl)⟩) (Nat.le_of_ble_eq_true rfl) dL_evening_490 ⟨by show _ ≤ (4 : Nat); omega, by show _ ≤ (24 : Nat); omega⟩ (fun C => ?_)
        refine G.topI (lCome v d (nI n) 0 6 - v 0 6) hcr ?_
        refine G.icmp_ne C 500 dL_evening_493 (by decide) (fun h493 => absurd h493 (fun q => q (rfl))) (fun h493 => ?_)
        refine G.iconst C 1 dL_evening_496 (by decide) ?_
        refine G.goto C 501 dL_evening_497 (by decide) ?_
        exact G.pret C (by omega) (by omega) hlk hrt dL_evening_501 rfl (BigL.sv hle hπ hS2)
      · refine G.aldn0 C dL_evening_438 ?_
        refine G.ild8 C dL_evening_439 ?_
        refine G.ild9 C dL_evening_441 ?_
        refine G.callH3 C hZ (k_L_home_t3 l hst (by rw [← hS.exs d hd]; exact h395) (nI_pos (by omega)) (nI_le (b := 1439) hn (by omega)) (by rw [whyHomeL hS hd (by rw [← hS.exs d hd]; exact h395), if_pos (Int32.not_le.mp h427), if_neg h435]; decide)) (vx_cwSW 3 C.1.2.2.2.2 gL_evening_L_home rfl rfl rfl (by decide +kernel) ⟨(Nat.le_of_ble_eq_true rfl), (Nat.le_of_ble_eq_true rfl)⟩) (Nat.le_of_ble_eq_true rfl) dL_evening_443 ⟨by show _ ≤ (4 : Nat); omega, by show _ ≤ (24 : Nat); omega⟩ (fun C => ?_)
        refine G.topI ((-33)) rfl ?_
        refine G.bipush C (-33) dL_evening_446 (by decide) ?_
        refine G.icmp_ne C 469 dL_evening_448 (by decide) (fun h => absurd rfl h) (fun _ => ?_)
        refine G.aldn0 C dL_evening_451 ?_
        refine G.ild8 C dL_evening_452 ?_
        refine G.sipush C 1440 dL_evening_454 (by decide) ?_
        refine G.callH3 C hZ (k_L_home_t2 l hst (by rw [← hS.exs d hd]; exact h395) (by decide)) (vx_cwSW 3 C.1.2.2.2.2 gL_evening_L_home rfl rfl rfl (by decide +kernel) ⟨(Nat.le_of_ble_eq_true rfl), (Nat.le_of_ble_eq_true rfl)⟩) (Nat.le_of_ble_eq_true rfl) dL_evening_457 ⟨by show _ ≤ (4 : Nat); omega, by show _ ≤ (24 : Nat); omega⟩ (fun C => ?_)
        refine G.topI ((-32)) rfl ?_
        refine G.bipush C (-32) dL_evening_460 (by decide) ?_
        refine G.icmp_ne C 469 dL_evening_462 (by decide) (fun h => absurd rfl h) (fun _ => ?_)
        refine G.iconst C 1 dL_evening_465 (by decide) ?_
        refine G.goto C 470 dL_evening_466 (by decide) ?_
        exact G.pret C (by omega) (by omega) hlk hrt dL_evening_470 rfl ((BigL.mk hs hle hπ hS).mono (Nat.le_add_right B 24))
  · refine G.aldn0 C dL_evening_398 ?_
    refine G.ild8 C dL_evening_399 ?_
    refine G.sipush C 1440 dL_evening_401 (by decide) ?_
    refine G.callH3 C hZ (k_L_home_t1 l hst (by rw [← hS.exs d hd]; exact h395)) (vx_cwSW 3 C.1.2.2.2.2 gL_evening_L_home rfl rfl rfl (by decide +kernel) ⟨(Nat.le_of_ble_eq_true rfl), (Nat.le_of_ble_eq_true rfl)⟩) (Nat.le_of_ble_eq_true rfl) dL_evening_404 ⟨by show _ ≤ (4 : Nat); omega, by show _ ≤ (24 : Nat); omega⟩ (fun C => ?_)
    refine G.topI ((-31)) rfl ?_
    refine G.bipush C (-31) dL_evening_407 (by decide) ?_
    refine G.icmp_ne C 416 dL_evening_409 (by decide) (fun h => absurd rfl h) (fun _ => ?_)
    refine G.iconst C 1 dL_evening_412 (by decide) ?_
    refine G.goto C 417 dL_evening_413 (by decide) ?_
    exact G.pret C (by omega) (by omega) hlk hrt dL_evening_417 rfl ((BigL.mk hs hle hπ hS).mono (Nat.le_add_right B 24))
set_option maxRecDepth 100000 in
set_option maxHeartbeats 8000000 in
theorem k_L_evening (l : Launch) (hst : l.stackTraces = false) {E : gEn} {σ : gSt} {π : Nat → Nat} {o : Int64} {c0 c1 c2 c9 v : cSt} {x y : Int32} {B sv : Nat} (hs : c9 0 5 = nI sv) (hle : sv ≤ 6) (hπ : ∀ k, k < 6 → 3 ≤ π k ∧ π k < 9) (hS : SRL B c0 v) (hB : B < 2 ^ 30) : CtP l yL_evening wsL_evening ({ frames := 9, cells := 4, slots := 24, locals := 194 } : Room) E [.ref (E.2.1 9 0), .int x, .int y, .ref (E.2.1 10 0), .ref (E.2.1 10 1), .ref (E.2.1 10 2), .ref (E.2.1 10 3)] (gL σ c0 c1 c2 c9 v) π o (BigL (B + 24)) 4 24 := by
  refine CtP.of (cc := cL_evening) (own := RL) (maxL := 11) (ret := (some .boolean)) [some (.ref (E.2.1 9 0)), some (.int x), some (.int y), some (.ref (E.2.1 10 0)), some (.ref (E.2.1 10 1)), some (.ref (E.2.1 10 2)), some (.ref (E.2.1 10 3)), none, none, none, none] (by decide) rfl rfl (Nat.le_of_ble_eq_true rfl) rfl ?_
  intro p e s m args below meth cd C hZ hrt hlk
  have hl : 10 ≤ 10 := Nat.le_refl 10
  have hv : ∀ j, j < 4 → gV E 10 j := fun j hj => gV_d hj
  refine G.ildn1 C dL_evening_0 ?_
  refine G.bipush C 14 dL_evening_1 (by decide) ?_
  refine G.callSI2 C (k_L_low l (N := 14) (by omega) (by omega)) (va_cwS 2 C.1.2.2.2.2 gL_evening_L_low rfl rfl rfl (by decide +kernel) ⟨Nat.le_of_ble_eq_true rfl, Nat.le_of_ble_eq_true rfl⟩) (Nat.le_of_ble_eq_true rfl) dL_evening_3 ?_
  have hhow := lLow_lt (x := x) (N := 14) (by omega)
  generalize lLow (x) 14 = how at hhow ⊢
  refine G.ist7 C dL_evening_6 (by omega) rfl ?_
  refine G.ild7 C dL_evening_8 ?_
  refine G.if_ne C 129 dL_evening_10 (by decide) (fun h10 => ?_) (fun h10 => ?_)
  · refine G.ild7 C dL_evening_129 ?_
    refine G.iconst C 1 dL_evening_131 (by decide) ?_
    refine G.icmp_ne C 341 dL_evening_132 (by decide) (fun h132 => ?_) (fun h132 => ?_)
    · refine G.ildn2 C dL_evening_341 ?_
      refine G.bipush C 16 dL_evening_342 (by decide) ?_
      refine G.callSI2 C (k_L_low l (N := 16) (by omega) (by omega)) (va_cwS 2 C.1.2.2.2.2 gL_evening_L_low rfl rfl rfl (by decide +kernel) ⟨Nat.le_of_ble_eq_true rfl, Nat.le_of_ble_eq_true rfl⟩) (Nat.le_of_ble_eq_true rfl) dL_evening_344 ?_
      have hd := lLow_lt (x := y) (N := 16) (by omega)
      generalize lLow (y) 16 = d at hd ⊢
      refine G.ist8 C dL_evening_347 (by omega) rfl ?_
      refine G.ildn2 C dL_evening_349 ?_
      refine G.bipush C 20 dL_evening_350 (by decide) ?_
      refine G.ishr C dL_evening_352 ?_
      refine G.iconst C 3 dL_evening_353 (by decide) ?_
      refine G.iand C dL_evening_354 ?_
      refine G.if_ne C 370 dL_evening_355 (by decide) (fun h355 => ?_) (fun h355 => ?_)
      · obtain ⟨t0, ht0, et⟩ : ∃ t0, t0 ≤ 1439 ∧ v 0 2 = nI t0 := by obtain ⟨hR, -, -, -, t0, ht0, et⟩ := hS; exact ⟨t0, ht0, hR.time.trans et⟩
        refine G.aldn3 C dL_evening_370 ?_
        refine G.iconst C 2 dL_evening_371 (by decide) ?_
        refine G.ialdL C (n := 13) (j := 0) (d0 := 2) (gN_l hl rfl) (hv _ (by omega)) (by unfold vp_in; decide) (by decide) dL_evening_372 ?_
        refine G.topI (nI t0) et ?_
        refine G.ildn2 C dL_evening_373 ?_
        refine G.iconst C 4 dL_evening_374 (by decide) ?_
        refine G.ishr C dL_evening_375 ?_
        refine G.sipush C 1440 dL_evening_376 (by decide) ?_
        refine G.aldn3 C dL_evening_379 ?_
        refine G.iconst C 2 dL_evening_380 (by decide) ?_
        refine G.ialdL C (n := 13) (j := 0) (d0 := 2) (gN_l hl rfl) (hv _ (by omega)) (by unfold vp_in; decide) (by decide) dL_evening_381 ?_
        refine G.topI (nI t0) et ?_
        refine G.isub C dL_evening_382 ?_
        refine G.topI (nI (1440 - t0)) (pk_sub (a := 1440) (by omega)) ?_
        refine G.callSI2 C (k_L_low l (N := 1440 - t0) (by omega) (by omega)) (va_cwS 2 C.1.2.2.2.2 gL_evening_L_low rfl rfl rfl (by decide +kernel) ⟨Nat.le_of_ble_eq_true rfl, Nat.le_of_ble_eq_true rfl⟩) (Nat.le_of_ble_eq_true rfl) dL_evening_383 ?_
        have hn := lLow_lt (x := y >>> (4 &&& 31)) (N := (1440 - t0)) (by omega)
        generalize lLow (y >>> (4 &&& 31)) (1440 - t0) = n at hn ⊢
        refine G.iadd C dL_evening_386 ?_
        refine G.topI (nI (t0 + n)) (nI_add _ _) ?_
        exact k_L_evening_387 l hst hs hle hπ hS hB hd (by omega) C hZ hrt hlk
      · refine G.ildn2 C dL_evening_358 ?_
        refine G.iconst C 4 dL_evening_359 (by decide) ?_
        refine G.ishr C dL_evening_360 ?_
        refine G.sipush C 1440 dL_evening_361 (by decide) ?_
        refine G.callSI2 C (k_L_low l (N := 1440) (by omega) (by omega)) (va_cwS 2 C.1.2.2.2.2 gL_evening_L_low rfl rfl rfl (by decide +kernel) ⟨Nat.le_of_ble_eq_true rfl, Nat.le_of_ble_eq_true rfl⟩) (Nat.le_of_ble_eq_true rfl) dL_evening_364 ?_
        have hn := lLow_lt (x := y >>> (4 &&& 31)) (N := 1440) (by omega)
        generalize lLow (y >>> (4 &&& 31)) 1440 = n at hn ⊢
        refine G.goto C 387 dL_evening_367 (by decide) ?_
        exact k_L_evening_387 l hst hs hle hπ hS hB hd (by omega) C hZ hrt hlk
    · exact k_L_evening_135 l hst hs hle hπ hS C hZ hrt hlk
  · obtain ⟨w, hw2, ew⟩ := pk_andE y (m := 1) 1 (by decide)
    refine G.ildn2 C dL_evening_13 ?_
    refine G.iconst C 1 dL_evening_14 (by decide) ?_
    refine G.iand C dL_evening_15 ?_
    refine G.topI (nI w) ew ?_
    refine G.ist8 C dL_evening_16 (by omega) rfl ?_
    refine G.aldn3 C dL_evening_18 ?_
    refine G.iconst C 4 dL_evening_19 (by decide) ?_
    refine G.ild8 C dL_evening_20 ?_
    refine G.iadd C dL_evening_22 ?_
    refine G.topI (nI (4 + w)) (nI_add _ _) ?_
    refine G.ialdL C (n := 13) (j := 0) (d0 := (4 + w)) (gN_l hl rfl) (hv _ (by omega)) (by first | assumption | exact vp_in_nI (by omega) (by omega) | (unfold vp_in; decide)) (ix_nI (by omega)) dL_evening_23 ?_
    refine G.ist9 C dL_evening_24 (by omega) rfl ?_
    refine G.aldn3 C dL_evening_26 ?_
    refine G.iconst C 4 dL_evening_27 (by decide) ?_
    refine G.ild8 C dL_evening_28 ?_
    refine G.iadd C dL_evening_30 ?_
    refine G.topI (nI (4 + w)) (nI_add _ _) ?_
    refine G.ild8 C dL_evening_31 ?_
    refine G.if_ne C 48 dL_evening_33 (by decide) (fun h33 => ?_) (fun h33 => ?_)
    · refine G.ildn2 C dL_evening_48 ?_
      refine G.iconst C 1 dL_evening_49 (by decide) ?_
      refine G.ishr C dL_evening_50 ?_
      refine G.ildn2 C dL_evening_51 ?_
      refine G.bipush C 20 dL_evening_52 (by decide) ?_
      refine G.ishr C dL_evening_54 ?_
      refine G.iconst C 1 dL_evening_55 (by decide) ?_
      refine G.iand C dL_evening_56 ?_
      refine G.if_ne C 64 dL_evening_57 (by decide) (fun h57 => ?_) (fun h57 => ?_)
      · refine G.bipush C 25 dL_evening_64 (by decide) ?_
        refine G.callSI2 C (k_L_low l (N := 25) (by omega) (by omega)) (va_cwS 2 C.1.2.2.2.2 gL_evening_L_low rfl rfl rfl (by decide +kernel) ⟨Nat.le_of_ble_eq_true rfl, Nat.le_of_ble_eq_true rfl⟩) (Nat.le_of_ble_eq_true rfl) dL_evening_66 ?_
        have hn := lLow_lt (x := y >>> (1 &&& 31)) (N := 25) (by omega)
        generalize lLow (y >>> (1 &&& 31)) 25 = n at hn ⊢
        exact k_L_evening_69 l hst hs hle hπ hS hw2 (Or.inr ⟨by have : w ≠ 0 := fun q => h33 (by rw [q]; rfl); omega, by omega⟩) C hZ hrt hlk
      · refine G.iconst C 4 dL_evening_60 (by decide) ?_
        refine G.goto C 66 dL_evening_61 (by decide) ?_
        refine G.callSI2 C (k_L_low l (N := 4) (by omega) (by omega)) (va_cwS 2 C.1.2.2.2.2 gL_evening_L_low rfl rfl rfl (by decide +kernel) ⟨Nat.le_of_ble_eq_true rfl, Nat.le_of_ble_eq_true rfl⟩) (Nat.le_of_ble_eq_true rfl) dL_evening_66 ?_
        have hn := lLow_lt (x := y >>> (1 &&& 31)) (N := 4) (by omega)
        generalize lLow (y >>> (1 &&& 31)) 4 = n at hn ⊢
        exact k_L_evening_69 l hst hs hle hπ hS hw2 (Or.inr ⟨by have : w ≠ 0 := fun q => h33 (by rw [q]; rfl); omega, by omega⟩) C hZ hrt hlk
    · refine G.ildn2 C dL_evening_36 ?_
      refine G.iconst C 1 dL_evening_37 (by decide) ?_
      refine G.ishr C dL_evening_38 ?_
      refine G.sipush C 1440 dL_evening_39 (by decide) ?_
      refine G.callSI2 C (k_L_low l (N := 1440) (by omega) (by omega)) (va_cwS 2 C.1.2.2.2.2 gL_evening_L_low rfl rfl rfl (by decide +kernel) ⟨Nat.le_of_ble_eq_true rfl, Nat.le_of_ble_eq_true rfl⟩) (Nat.le_of_ble_eq_true rfl) dL_evening_42 ?_
      have hn := lLow_lt (x := y >>> (1 &&& 31)) (N := 1440) (by omega)
      generalize lLow (y >>> (1 &&& 31)) 1440 = n at hn ⊢
      refine G.goto C 69 dL_evening_45 (by decide) ?_
      exact k_L_evening_69 l hst hs hle hπ hS hw2 (Or.inl ⟨nI_inj (b := 0) (by omega) (by omega) h33, by omega⟩) C hZ hrt hlk
