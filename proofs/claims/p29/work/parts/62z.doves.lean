/-! the law's doves -/
theorem BigL.sv2 {B sv : Nat} {σ : gSt} {π : Nat → Nat} {c0 c0' c1 c2 c9 v : cSt} (hle : sv ≤ 6) (hπ : ∀ k, k < 6 → 3 ≤ π k ∧ π k < 9) (hS : SRL B c0' v) : BigL B (gT (gU (svS σ π sv c0) 10 v) c0' c1 c2 (sv9 c9 sv)) (svP π sv) := by
  rw [← svS_10 (by omega) hπ]
  exact BigL.sv hle hπ hS
set_option maxRecDepth 100000 in
set_option maxHeartbeats 8000000 in
theorem k_L_doves_79 (l : Launch) (hst : l.stackTraces = false) {E : gEn} {σ : gSt} {π : Nat → Nat} {o : Int64} {c0 c1 c2 c9 v : cSt} {x y : Int32} {B sv : Nat} (hs : c9 0 5 = nI sv) (hle : sv ≤ 6) (hπ : ∀ k, k < 6 → 3 ≤ π k ∧ π k < 9) (hS : SRL B c0 v) {how h st : Nat} (hh : h < 24) (h1 : 1 ≤ st) (h9 : st ≤ 9) (hw : ¬ cWhyBuy c0 (nI h) = 0) {p : Program} {e : Env} {s : State} {m : MethodId} {args : Array Value} {below : List Frame} {meth : Method} {cd : Code} (C : gCx p s m cd cL_doves 12 RL wsL_doves args E (gA E) ({ frames := 9, cells := 3, slots := 18, locals := 194 } : Room) 0 0) (hZ : gZ E (gA E) s) (hrt : meth.sig.returnType = (some .boolean)) (hlk : meth.locks = false) : G p l e ({ frames := 9, cells := 3, slots := 18, locals := 194 } : Room) s m args below meth cd 12 0 0 (gA E) (gQP below args s E o (BigL B) 3 18) E (gL σ c0 c1 c2 c9 v) π o 79 [some (.ref (E.2.1 9 0)), some (.int x), some (.int y), some (.ref (E.2.1 10 0)), some (.ref (E.2.1 10 1)), some (.ref (E.2.1 10 2)), some (.int (nI how)), some (.int (nI h)), some (.int (nI st)), none, none, none] [] := by
  have hl : 10 ≤ 10 := Nat.le_refl 10
  have hv : ∀ j, j < 4 → gV E 10 j := fun j hj => gV_d hj
  refine G.aldn0 C dL_doves_79 ?_
  refine G.ild7 C dL_doves_80 ?_
  refine G.ild8 C dL_doves_82 ?_
  refine G.callH3 C hZ (k_L_buy_t3 l hst (hH_nI hh) (nI_nlt (b := 1) h1 (by omega)) (nI_le (b := 9) h9 (by omega)) hw) (vx_cwSW 3 C.1.2.2.2.2 gL_doves_L_buy rfl rfl rfl (by decide +kernel) ⟨(Nat.le_of_ble_eq_true rfl), (Nat.le_of_ble_eq_true rfl)⟩) (Nat.le_of_ble_eq_true rfl) dL_doves_84 ⟨by show _ ≤ (3 : Nat); omega, by show _ ≤ (18 : Nat); omega⟩ (fun C => ?_)
  refine G.topI ((-33)) rfl ?_
  refine G.bipush C (-33) dL_doves_87 (by decide) ?_
  refine G.icmp_ne C 121 dL_doves_89 (by decide) (fun h => absurd rfl h) (fun _ => ?_)
  refine G.aldn0 C dL_doves_92 ?_
  refine G.bipush C 24 dL_doves_93 (by decide) ?_
  refine G.iconst C 0 dL_doves_95 (by decide) ?_
  refine G.callH3 C hZ (k_L_buy_t1 l hst (by decide)) (vx_cwSW 3 C.1.2.2.2.2 gL_doves_L_buy rfl rfl rfl (by decide +kernel) ⟨(Nat.le_of_ble_eq_true rfl), (Nat.le_of_ble_eq_true rfl)⟩) (Nat.le_of_ble_eq_true rfl) dL_doves_96 ⟨by show _ ≤ (3 : Nat); omega, by show _ ≤ (18 : Nat); omega⟩ (fun C => ?_)
  refine G.topI ((-31)) rfl ?_
  refine G.bipush C (-31) dL_doves_99 (by decide) ?_
  refine G.icmp_ne C 121 dL_doves_101 (by decide) (fun h => absurd rfl h) (fun _ => ?_)
  refine G.aldn0 C dL_doves_104 ?_
  refine G.ild7 C dL_doves_105 ?_
  refine G.bipush C 10 dL_doves_107 (by decide) ?_
  refine G.callH3 C hZ (k_L_buy_t2 l hst (hH_nI hh) (by decide)) (vx_cwSW 3 C.1.2.2.2.2 gL_doves_L_buy rfl rfl rfl (by decide +kernel) ⟨(Nat.le_of_ble_eq_true rfl), (Nat.le_of_ble_eq_true rfl)⟩) (Nat.le_of_ble_eq_true rfl) dL_doves_109 ⟨by show _ ≤ (3 : Nat); omega, by show _ ≤ (18 : Nat); omega⟩ (fun C => ?_)
  refine G.topI ((-32)) rfl ?_
  refine G.bipush C (-32) dL_doves_112 (by decide) ?_
  refine G.icmp_ne C 121 dL_doves_114 (by decide) (fun h => absurd rfl h) (fun _ => ?_)
  refine G.iconst C 1 dL_doves_117 (by decide) ?_
  refine G.goto C 122 dL_doves_118 (by decide) ?_
  exact G.pret C (by omega) (by omega) hlk hrt dL_doves_122 rfl (BigL.mk hs hle hπ hS)
set_option maxRecDepth 100000 in
set_option maxHeartbeats 8000000 in
theorem k_L_doves_141 (l : Launch) (hst : l.stackTraces = false) {E : gEn} {σ : gSt} {π : Nat → Nat} {o : Int64} {c0 c1 c2 c9 v : cSt} {x y : Int32} {B sv : Nat} (hs : c9 0 5 = nI sv) (hle : sv ≤ 6) (hπ : ∀ k, k < 6 → 3 ≤ π k ∧ π k < 9) (hS : SRL B c0 v) {how h st k : Nat} (hh : h < 24) (h1 : 1 ≤ st) (h9 : st ≤ 9) (hw : cWhyBuy c0 (nI h) = 0) (hkk : k < 16) (hn : lIs v k = false) (ha : ∀ j, j < k → lIs v j = true) {p : Program} {e : Env} {s : State} {m : MethodId} {args : Array Value} {below : List Frame} {meth : Method} {cd : Code} (C : gCx p s m cd cL_doves 12 RL wsL_doves args E (gA E) ({ frames := 9, cells := 3, slots := 18, locals := 194 } : Room) 0 0) (hZ : gZ E (gA E) s) (hrt : meth.sig.returnType = (some .boolean)) (hlk : meth.locks = false) : G p l e ({ frames := 9, cells := 3, slots := 18, locals := 194 } : Room) s m args below meth cd 12 0 0 (gA E) (gQP below args s E o (BigL B) 3 18) E (gL σ c0 c1 c2 c9 v) π o 141 [some (.ref (E.2.1 9 0)), some (.int x), some (.int y), some (.ref (E.2.1 10 0)), some (.ref (E.2.1 10 1)), some (.ref (E.2.1 10 2)), some (.int (nI how)), some (.int (nI h)), some (.int (nI st)), some (.int (nI k)), none, none] [] := by
  have hl : 10 ≤ 10 := Nat.le_refl 10
  have hv : ∀ j, j < 4 → gV E 10 j := fun j hj => gV_d hj
  refine G.aldn3 C dL_doves_141 ?_
  refine G.iconst C 0 dL_doves_142 (by decide) ?_
  refine G.dup2 C dL_doves_143 rfl rfl ?_
  refine G.ialdL C (n := 13) (j := 0) (d0 := 0) (gN_l hl rfl) (hv _ (by omega)) (by unfold vp_in; decide) (by decide) dL_doves_144 ?_
  refine G.iconst C 1 dL_doves_145 (by decide) ?_
  refine G.ild9 C dL_doves_146 ?_
  refine G.ishl C dL_doves_148 ?_
  refine G.ior C dL_doves_149 ?_
  refine G.iastL C (n := 13) (j := 0) (d0 := 0) (gN_l hl rfl) (hv _ (by omega)) (by unfold vp_in; decide) (by decide) dL_doves_150 ?_
  refine G.ald4 C dL_doves_151 ?_
  refine G.iconst C 4 dL_doves_153 (by decide) ?_
  refine G.ild9 C dL_doves_154 ?_
  refine G.imul C dL_doves_156 ?_
  refine G.topI (nI (4 * k)) (pk_mul _ _) ?_
  refine G.ild7 C dL_doves_157 ?_
  refine G.iastL C (n := 64) (j := 1) (d0 := (4 * k)) (gN_l hl rfl) (hv _ (by omega)) (by first | assumption | exact vp_in_nI (by omega) (by omega) | (unfold vp_in; decide)) (ix_nI (by omega)) dL_doves_159 ?_
  refine G.ald4 C dL_doves_160 ?_
  refine G.iconst C 4 dL_doves_162 (by decide) ?_
  refine G.ild9 C dL_doves_163 ?_
  refine G.imul C dL_doves_165 ?_
  refine G.topI (nI (4 * k)) (pk_mul _ _) ?_
  refine G.iconst C 1 dL_doves_166 (by decide) ?_
  refine G.iadd C dL_doves_167 ?_
  refine G.topI (nI ((4 * k) + 1)) (nI_add _ _) ?_
  refine G.ild8 C dL_doves_168 ?_
  refine G.iastL C (n := 64) (j := 1) (d0 := ((4 * k) + 1)) (gN_l hl rfl) (hv _ (by omega)) (by first | assumption | exact vp_in_nI (by omega) (by omega) | (unfold vp_in; decide)) (ix_nI (by omega)) dL_doves_170 ?_
  refine G.ald4 C dL_doves_171 ?_
  refine G.iconst C 4 dL_doves_173 (by decide) ?_
  refine G.ild9 C dL_doves_174 ?_
  refine G.imul C dL_doves_176 ?_
  refine G.topI (nI (4 * k)) (pk_mul _ _) ?_
  refine G.iconst C 2 dL_doves_177 (by decide) ?_
  refine G.iadd C dL_doves_178 ?_
  refine G.topI (nI ((4 * k) + 2)) (nI_add _ _) ?_
  refine G.iconst C (-1) dL_doves_179 (by decide) ?_
  refine G.iastL C (n := 64) (j := 1) (d0 := ((4 * k) + 2)) (gN_l hl rfl) (hv _ (by omega)) (by first | assumption | exact vp_in_nI (by omega) (by omega) | (unfold vp_in; decide)) (ix_nI (by omega)) dL_doves_180 ?_
  refine G.ald4 C dL_doves_181 ?_
  refine G.iconst C 4 dL_doves_183 (by decide) ?_
  refine G.ild9 C dL_doves_184 ?_
  refine G.imul C dL_doves_186 ?_
  refine G.topI (nI (4 * k)) (pk_mul _ _) ?_
  refine G.iconst C 3 dL_doves_187 (by decide) ?_
  refine G.iadd C dL_doves_188 ?_
  refine G.topI (nI ((4 * k) + 3)) (nI_add _ _) ?_
  refine G.iconst C (-1) dL_doves_189 (by decide) ?_
  refine G.iastL C (n := 64) (j := 1) (d0 := ((4 * k) + 3)) (gN_l hl rfl) (hv _ (by omega)) (by first | assumption | exact vp_in_nI (by omega) (by omega) | (unfold vp_in; decide)) (ix_nI (by omega)) dL_doves_190 ?_
  refine G.iconst C 0 dL_doves_191 (by decide) ?_
  refine G.ist10 C dL_doves_192 (by omega) rfl ?_
  have L194 : ∀ (n q9 : Nat), q9 + n = 4 → G p l e ({ frames := 9, cells := 3, slots := 18, locals := 194 } : Room) s m args below meth cd 12 0 0 (gA E) (gQP below args s E o (BigL B) 3 18) E (gL σ c0 c1 c2 c9 (lZ (cW (cW (cW (cW (cW v 0 0 (v 0 0 ||| ((1 : Int32) <<< (nI k &&& 31)))) 1 (4 * k) (nI h)) 1 (4 * k + 1) (nI st)) 1 (4 * k + 2) (-1)) 1 (4 * k + 3) (-1)) k q9)) π o 194 [some (.ref (E.2.1 9 0)), some (.int x), some (.int y), some (.ref (E.2.1 10 0)), some (.ref (E.2.1 10 1)), some (.ref (E.2.1 10 2)), some (.int (nI how)), some (.int (nI h)), some (.int (nI st)), some (.int (nI k)), some (.int (nI q9)), none] [] := by
    intro n
    induction n with
    | zero =>
      intro q9 hk
      obtain rfl : 4 = q9 := by omega
      have C := C.wide (cl' := 0) (sl' := 0) (by show _ ≤ (3 : Nat); omega) (by show _ ≤ (18 : Nat); omega)
      refine G.ild10 C dL_doves_194 ?_
      refine G.iconst C 4 dL_doves_196 (by decide) ?_
      refine G.icmp_ge C 217 dL_doves_197 (by decide) (fun _ => ?_) (fun h => absurd (nI_le (a := 4) (b := 4) (by omega) (by decide)) h)
      refine G.aldn0 C dL_doves_217 ?_
      refine G.ild7 C dL_doves_218 ?_
      refine G.ild8 C dL_doves_220 ?_
      refine G.callH3 C hZ (k_L_buy l (hH_nI hh) (nI_nlt (b := 1) h1 (by omega)) (nI_le (b := 9) h9 (by omega)) hw hs hle hπ) (vx_cwSW 3 C.1.2.2.2.2 gL_doves_L_buy rfl rfl rfl (by decide +kernel) ⟨(Nat.le_of_ble_eq_true rfl), (Nat.le_of_ble_eq_true rfl)⟩) (Nat.le_of_ble_eq_true rfl) dL_doves_222 ⟨by show _ ≤ (3 : Nat); omega, by show _ ≤ (18 : Nat); omega⟩ (fun C => ?_)
      refine G.topI (nI k) (buyL_SR hS hh hw hkk hn ha).2 ?_
      refine G.ild9 C dL_doves_225 ?_
      refine G.icmp_ne C 234 dL_doves_227 (by decide) (fun h227 => absurd h227 (fun q => q (rfl))) (fun h227 => ?_)
      refine G.iconst C 1 dL_doves_230 (by decide) ?_
      refine G.goto C 235 dL_doves_231 (by decide) ?_
      exact G.pret C (by omega) (by omega) hlk hrt dL_doves_235 rfl (BigL.sv hle hπ (buyL_SR hS hh hw hkk hn ha).1)
    | succ n ih =>
      intro q9 hk
      have C := C.wide (cl' := 0) (sl' := 0) (by show _ ≤ (3 : Nat); omega) (by show _ ≤ (18 : Nat); omega)
      have hk2 : q9 < 4 := by omega
      refine G.ild10 C dL_doves_194 ?_
      refine G.iconst C 4 dL_doves_196 (by decide) ?_
      refine G.icmp_ge C 217 dL_doves_197 (by decide) (fun h => absurd h (nI_ge (b := 4) hk2 (by decide))) (fun _ => ?_)
      refine G.ald5 C dL_doves_200 ?_
      refine G.iconst C 4 dL_doves_202 (by decide) ?_
      refine G.ild9 C dL_doves_203 ?_
      refine G.imul C dL_doves_205 ?_
      refine G.topI (nI (4 * k)) (pk_mul _ _) ?_
      refine G.ild10 C dL_doves_206 ?_
      refine G.iadd C dL_doves_208 ?_
      refine G.topI (nI ((4 * k) + q9)) (nI_add _ _) ?_
      refine G.iconst C 0 dL_doves_209 (by decide) ?_
      refine G.iastL C (n := 64) (j := 2) (d0 := ((4 * k) + q9)) (gN_l hl rfl) (hv _ (by omega)) (by first | assumption | exact vp_in_nI (by omega) (by omega) | (unfold vp_in; decide)) (ix_nI (by omega)) dL_doves_210 ?_
      refine G.iincN10 C dL_doves_211 (by omega) rfl ?_
      refine G.goto C 194 dL_doves_214 (by decide) ?_
      refine G.wide (cl' := 0) (sl' := 0) (by omega) (by omega) ?_
      exact G.back (ih (q9 + 1) (by omega) ) rfl ⟨(by first | rfl | simp), (by first | rfl | simp), (by first | rfl | simp), (by first | rfl | simp), (by first | rfl | simp), (by first | rfl | simp), (by first | rfl | simp), (by first | rfl | simp), (by first | rfl | simp), (by first | rfl | simp), (by first | rfl | simp), trivial⟩
  refine G.wide (cl' := 0) (sl' := 0) (by omega) (by omega) ?_
  exact G.back (L194 4 0 (Nat.zero_add _) ) rfl ⟨(by first | rfl | simp), (by first | rfl | simp), (by first | rfl | simp), (by first | rfl | simp), (by first | rfl | simp), (by first | rfl | simp), (by first | rfl | simp), (by first | rfl | simp), (by first | rfl | simp), (by first | rfl | simp), (by first | rfl | simp), trivial⟩
set_option maxRecDepth 100000 in
set_option maxHeartbeats 8000000 in
theorem k_L_doves_126 (l : Launch) (hst : l.stackTraces = false) {E : gEn} {σ : gSt} {π : Nat → Nat} {o : Int64} {c0 c1 c2 c9 v : cSt} {x y : Int32} {B sv : Nat} (hs : c9 0 5 = nI sv) (hle : sv ≤ 6) (hπ : ∀ k, k < 6 → 3 ≤ π k ∧ π k < 9) (hS : SRL B c0 v) {how h st : Nat} (hh : h < 24) (h1 : 1 ≤ st) (h9 : st ≤ 9) (hw : cWhyBuy c0 (nI h) = 0) {p : Program} {e : Env} {s : State} {m : MethodId} {args : Array Value} {below : List Frame} {meth : Method} {cd : Code} (C : gCx p s m cd cL_doves 12 RL wsL_doves args E (gA E) ({ frames := 9, cells := 3, slots := 18, locals := 194 } : Room) 0 0) (hZ : gZ E (gA E) s) (hrt : meth.sig.returnType = (some .boolean)) (hlk : meth.locks = false) : G p l e ({ frames := 9, cells := 3, slots := 18, locals := 194 } : Room) s m args below meth cd 12 0 0 (gA E) (gQP below args s E o (BigL B) 3 18) E (gL σ c0 c1 c2 c9 v) π o 126 [some (.ref (E.2.1 9 0)), some (.int x), some (.int y), some (.ref (E.2.1 10 0)), some (.ref (E.2.1 10 1)), some (.ref (E.2.1 10 2)), some (.int (nI how)), some (.int (nI h)), some (.int (nI st)), some (.int (nI 0)), none, none] [] := by
  have hl : 10 ≤ 10 := Nat.le_refl 10
  have hv : ∀ j, j < 4 → gV E 10 j := fun j hj => gV_d hj
  suffices hL : ∀ (n k : Nat), k + n = 16 → (∀ j, j < k → lIs v j = true) → G p l e ({ frames := 9, cells := 3, slots := 18, locals := 194 } : Room) s m args below meth cd 12 0 0 (gA E) (gQP below args s E o (BigL B) 3 18) E (gL σ c0 c1 c2 c9 v) π o 126 [some (.ref (E.2.1 9 0)), some (.int x), some (.int y), some (.ref (E.2.1 10 0)), some (.ref (E.2.1 10 1)), some (.ref (E.2.1 10 2)), some (.int (nI how)), some (.int (nI h)), some (.int (nI st)), some (.int (nI k)), none, none] [] from hL 16 0 rfl (fun j hj => absurd hj (by omega))
  intro n
  induction n with
  | zero =>
    intro k hk ha
    obtain ⟨j, hj, hn⟩ := ((whyBuy_iff hS hh).mp hw).1
    rw [ha j (by omega)] at hn
    cases hn
  | succ n ih =>
    intro k hk ha
    refine G.aldn3 C dL_doves_126 ?_
    refine G.ild9 C dL_doves_127 ?_
    refine G.callSI2 C (TLI (k_L_is l hl hv (by omega))) (va_cwS 2 C.1.2.2.2.2 gL_doves_L_is rfl rfl rfl (by decide +kernel) ⟨Nat.le_of_ble_eq_true rfl, Nat.le_of_ble_eq_true rfl⟩) (Nat.le_of_ble_eq_true rfl) dL_doves_129 ?_
    refine G.if_eqB C 141 dL_doves_132 (by decide) (fun h132 => ?_) (fun h132 => ?_)
    · exact k_L_doves_141 l hst hs hle hπ hS hh h1 h9 hw (by omega) h132 ha C hZ hrt hlk
    · refine G.iincN9 C dL_doves_135 (by omega) rfl ?_
      refine G.goto C 126 dL_doves_138 (by decide) ?_
      exact G.back (ih (k + 1) (by omega) (fun j hj => by by_cases hc : j = k; exact hc ▸ h132; exact ha j (by omega))) rfl ⟨rfl, rfl, rfl, rfl, rfl, rfl, rfl, rfl, rfl, rfl, trivial⟩
set_option maxRecDepth 100000 in
set_option maxHeartbeats 8000000 in
theorem k_L_doves_436 (l : Launch) (hst : l.stackTraces = false) {E : gEn} {σ : gSt} {π : Nat → Nat} {o : Int64} {c0 c1 c2 c9 v : cSt} {x y : Int32} {B sv : Nat} (hs : c9 0 5 = nI sv) (hle : sv ≤ 6) (hπ : ∀ k, k < 6 → 3 ≤ π k ∧ π k < 9) (hS : SRL B c0 v) {how h d e2 : Nat} (hd : d < 16) (he : e2 < 16) (hxd : cEx c0 (nI d) = true) (hxe : cEx c0 (nI e2) = true) (hw : ¬ cWhyPair c0 (nI d) (nI e2) = 0) {p : Program} {e : Env} {s : State} {m : MethodId} {args : Array Value} {below : List Frame} {meth : Method} {cd : Code} (C : gCx p s m cd cL_doves 12 RL wsL_doves args E (gA E) ({ frames := 9, cells := 3, slots := 18, locals := 194 } : Room) 0 0) (hZ : gZ E (gA E) s) (hrt : meth.sig.returnType = (some .boolean)) (hlk : meth.locks = false) : G p l e ({ frames := 9, cells := 3, slots := 18, locals := 194 } : Room) s m args below meth cd 12 0 0 (gA E) (gQP below args s E o (BigL B) 3 18) E (gL σ c0 c1 c2 c9 v) π o 436 [some (.ref (E.2.1 9 0)), some (.int x), some (.int y), some (.ref (E.2.1 10 0)), some (.ref (E.2.1 10 1)), some (.ref (E.2.1 10 2)), some (.int (nI how)), some (.int (nI h)), some (.int (nI d)), some (.int (nI e2)), none, none] [] := by
  have hl : 10 ≤ 10 := Nat.le_refl 10
  have hv : ∀ j, j < 4 → gV E 10 j := fun j hj => gV_d hj
  refine G.aldn0 C dL_doves_436 ?_
  refine G.ild8 C dL_doves_437 ?_
  refine G.ild9 C dL_doves_439 ?_
  refine G.callH3 C hZ (k_L_mate_t3 l hst hxd hxe hw) (vx_cwSW 3 C.1.2.2.2.2 gL_doves_L_mate rfl rfl rfl (by decide +kernel) ⟨(Nat.le_of_ble_eq_true rfl), (Nat.le_of_ble_eq_true rfl)⟩) (Nat.le_of_ble_eq_true rfl) dL_doves_441 ⟨by show _ ≤ (3 : Nat); omega, by show _ ≤ (18 : Nat); omega⟩ (fun C => ?_)
  refine G.topI ((-33)) rfl ?_
  refine G.bipush C (-33) dL_doves_444 (by decide) ?_
  refine G.icmp_ne C 453 dL_doves_446 (by decide) (fun h => absurd rfl h) (fun _ => ?_)
  refine G.iconst C 1 dL_doves_449 (by decide) ?_
  refine G.goto C 454 dL_doves_450 (by decide) ?_
  exact G.pret C (by omega) (by omega) hlk hrt dL_doves_454 rfl (BigL.mk hs hle hπ hS)
set_option maxRecDepth 100000 in
set_option maxHeartbeats 8000000 in
theorem k_L_doves_455 (l : Launch) (hst : l.stackTraces = false) {E : gEn} {σ : gSt} {π : Nat → Nat} {o : Int64} {c0 c1 c2 c9 v : cSt} {x y : Int32} {B sv : Nat} (hs : c9 0 5 = nI sv) (hle : sv ≤ 6) (hπ : ∀ k, k < 6 → 3 ≤ π k ∧ π k < 9) (hS : SRL B c0 v) {how h d e2 : Nat} (hd : d < 16) (he : e2 < 16) (hxd : cEx c0 (nI d) = true) (hxe : cEx c0 (nI e2) = true) (hw : cWhyPair c0 (nI d) (nI e2) = 0) {p : Program} {e : Env} {s : State} {m : MethodId} {args : Array Value} {below : List Frame} {meth : Method} {cd : Code} (C : gCx p s m cd cL_doves 12 RL wsL_doves args E (gA E) ({ frames := 9, cells := 3, slots := 18, locals := 194 } : Room) 0 0) (hZ : gZ E (gA E) s) (hrt : meth.sig.returnType = (some .boolean)) (hlk : meth.locks = false) : G p l e ({ frames := 9, cells := 3, slots := 18, locals := 194 } : Room) s m args below meth cd 12 0 0 (gA E) (gQP below args s E o (BigL B) 3 18) E (gL σ c0 c1 c2 c9 v) π o 455 [some (.ref (E.2.1 9 0)), some (.int x), some (.int y), some (.ref (E.2.1 10 0)), some (.ref (E.2.1 10 1)), some (.ref (E.2.1 10 2)), some (.int (nI how)), some (.int (nI h)), some (.int (nI d)), some (.int (nI e2)), none, none] [] := by
  have hl : 10 ≤ 10 := Nat.le_refl 10
  have hv : ∀ j, j < 4 → gV E 10 j := fun j hj => gV_d hj
  obtain ⟨hne, hmd, hme⟩ := (whyPair_iff hS hd he hxd hxe).mp hw
  have hS2 := pairL_SR hS hd he hne (cEx_at hd hxd) (cEx_at he hxe) (unmated hS hd hxd hmd) (unmated hS he hxe hme)
  refine G.ald4 C dL_doves_455 ?_
  refine G.iconst C 4 dL_doves_457 (by decide) ?_
  refine G.ild8 C dL_doves_458 ?_
  refine G.imul C dL_doves_460 ?_
  refine G.topI (nI (4 * d)) (pk_mul _ _) ?_
  refine G.iconst C 3 dL_doves_461 (by decide) ?_
  refine G.iadd C dL_doves_462 ?_
  refine G.topI (nI ((4 * d) + 3)) (nI_add _ _) ?_
  refine G.ild9 C dL_doves_463 ?_
  refine G.iastL C (n := 64) (j := 1) (d0 := ((4 * d) + 3)) (gN_l hl rfl) (hv _ (by omega)) (by first | assumption | exact vp_in_nI (by omega) (by omega) | (unfold vp_in; decide)) (ix_nI (by omega)) dL_doves_465 ?_
  refine G.ald4 C dL_doves_466 ?_
  refine G.iconst C 4 dL_doves_468 (by decide) ?_
  refine G.ild9 C dL_doves_469 ?_
  refine G.imul C dL_doves_471 ?_
  refine G.topI (nI (4 * e2)) (pk_mul _ _) ?_
  refine G.iconst C 3 dL_doves_472 (by decide) ?_
  refine G.iadd C dL_doves_473 ?_
  refine G.topI (nI ((4 * e2) + 3)) (nI_add _ _) ?_
  refine G.ild8 C dL_doves_474 ?_
  refine G.iastL C (n := 64) (j := 1) (d0 := ((4 * e2) + 3)) (gN_l hl rfl) (hv _ (by omega)) (by first | assumption | exact vp_in_nI (by omega) (by omega) | (unfold vp_in; decide)) (ix_nI (by omega)) dL_doves_476 ?_
  refine G.iconst C 0 dL_doves_477 (by decide) ?_
  refine G.ist10 C dL_doves_478 (by omega) rfl ?_
  refine G.iconst C 0 dL_doves_480 (by decide) ?_
  refine G.ist11 C dL_doves_481 (by omega) rfl ?_
  have L483 : ∀ (n k : Nat), k + n = 16 → G p l e ({ frames := 9, cells := 3, slots := 18, locals := 194 } : Room) s m args below meth cd 12 0 0 (gA E) (gQP below args s E o (BigL B) 3 18) E (gL σ c0 c1 c2 c9 (cW (cW v 1 (4 * d + 3) (nI e2)) 1 (4 * e2 + 3) (nI d))) π o 483 [some (.ref (E.2.1 9 0)), some (.int x), some (.int y), some (.ref (E.2.1 10 0)), some (.ref (E.2.1 10 1)), some (.ref (E.2.1 10 2)), some (.int (nI how)), some (.int (nI h)), some (.int (nI d)), some (.int (nI e2)), some (.int (nI (cnt (fun q => lMt (cW (cW v 1 (4 * d + 3) (nI e2)) 1 (4 * e2 + 3) (nI d)) q) k))), some (.int (nI k))] [] := by
    intro n
    induction n with
    | zero =>
      intro k hk
      obtain rfl : 16 = k := by omega
      have C := C.wide (cl' := 0) (sl' := 0) (by show _ ≤ (3 : Nat); omega) (by show _ ≤ (18 : Nat); omega)
      refine G.ild11 C dL_doves_483 ?_
      refine G.bipush C 16 dL_doves_485 (by decide) ?_
      refine G.icmp_ge C 527 dL_doves_487 (by decide) (fun _ => ?_) (fun h => absurd (nI_le (a := 16) (b := 16) (by omega) (by decide)) h)
      refine G.iconst C 2 dL_doves_527 (by decide) ?_
      refine G.aldn0 C dL_doves_528 ?_
      refine G.ild8 C dL_doves_529 ?_
      refine G.ild9 C dL_doves_531 ?_
      refine G.callH3 C hZ (k_L_mate l hxd hxe hw hs hle hπ) (vx_cwSW 3 C.1.2.2.2.2 gL_doves_L_mate rfl rfl rfl (by decide +kernel) ⟨(Nat.le_of_ble_eq_true rfl), (Nat.le_of_ble_eq_true rfl)⟩) (Nat.le_of_ble_eq_true rfl) dL_doves_533 ⟨by show _ ≤ (3 : Nat); omega, by show _ ≤ (18 : Nat); omega⟩ (fun C => ?_)
      refine G.imul C dL_doves_536 ?_
      refine G.topI (nI (cnt (fun q => lMt (cW (cW v 1 (4 * d + 3) (nI e2)) 1 (4 * e2 + 3) (nI d)) q) 16)) (pairs2 hS2) ?_
      refine G.ild10 C dL_doves_537 ?_
      refine G.icmp_ne C 546 dL_doves_539 (by decide) (fun h539 => absurd h539 (fun q => q (rfl))) (fun h539 => ?_)
      refine G.iconst C 1 dL_doves_542 (by decide) ?_
      refine G.goto C 547 dL_doves_543 (by decide) ?_
      exact G.pret C (by omega) (by omega) hlk hrt dL_doves_547 rfl (BigL.sv hle hπ hS2)
    | succ n ih =>
      intro k hk
      have C := C.wide (cl' := 0) (sl' := 0) (by show _ ≤ (3 : Nat); omega) (by show _ ≤ (18 : Nat); omega)
      have hk2 : k < 16 := by omega
      refine G.ild11 C dL_doves_483 ?_
      refine G.bipush C 16 dL_doves_485 (by decide) ?_
      refine G.icmp_ge C 527 dL_doves_487 (by decide) (fun h => absurd h (nI_ge (b := 16) hk2 (by decide))) (fun _ => ?_)
      refine G.ild10 C dL_doves_490 ?_
      refine G.aldn3 C dL_doves_492 ?_
      refine G.ild11 C dL_doves_493 ?_
      refine G.callSI2 C (TLI (k_L_is l hl hv (by omega))) (va_cwS 2 C.1.2.2.2.2 gL_doves_L_is rfl rfl rfl (by decide +kernel) ⟨Nat.le_of_ble_eq_true rfl, Nat.le_of_ble_eq_true rfl⟩) (Nat.le_of_ble_eq_true rfl) dL_doves_495 ?_
      refine G.if_eqB C 517 dL_doves_498 (by decide) (fun h498 => ?_) (fun h498 => ?_)
      · refine G.iconst C 0 dL_doves_517 (by decide) ?_
        refine G.iadd C dL_doves_518 ?_
        refine G.topI (nI ((cnt (fun q => lMt (cW (cW v 1 (4 * d + 3) (nI e2)) 1 (4 * e2 + 3) (nI d)) q) k) + 0)) (nI_add _ _) ?_
        refine G.ist10 C dL_doves_519 (by omega) rfl ?_
        refine G.iincN11 C dL_doves_521 (by omega) rfl ?_
        refine G.goto C 483 dL_doves_524 (by decide) ?_
        refine G.wide (cl' := 0) (sl' := 0) (by omega) (by omega) ?_
        exact G.back (ih (k + 1) (by omega) ) rfl ⟨(by first | with_reducible rfl | (exact congrArg (fun z => some (Value.int (nI z))) (cnt_t (P := fun q => lMt (cW (cW v 1 (4 * d + 3) (nI e2)) 1 (4 * e2 + 3) (nI d)) q) (lMt_t h498 h510))) | (exact congrArg (fun z => some (Value.int (nI z))) (cnt_f (P := fun q => lMt (cW (cW v 1 (4 * d + 3) (nI e2)) 1 (4 * e2 + 3) (nI d)) q) (lMt_f h510))) | (exact congrArg (fun z => some (Value.int (nI z))) (cnt_f (P := fun q => lMt (cW (cW v 1 (4 * d + 3) (nI e2)) 1 (4 * e2 + 3) (nI d)) q) (lMt_0 h498))) | (exact congrArg (fun z => some (Value.int z)) (nI_s1 _))), (by first | with_reducible rfl | (exact congrArg (fun z => some (Value.int (nI z))) (cnt_t (P := fun q => lMt (cW (cW v 1 (4 * d + 3) (nI e2)) 1 (4 * e2 + 3) (nI d)) q) (lMt_t h498 h510))) | (exact congrArg (fun z => some (Value.int (nI z))) (cnt_f (P := fun q => lMt (cW (cW v 1 (4 * d + 3) (nI e2)) 1 (4 * e2 + 3) (nI d)) q) (lMt_f h510))) | (exact congrArg (fun z => some (Value.int (nI z))) (cnt_f (P := fun q => lMt (cW (cW v 1 (4 * d + 3) (nI e2)) 1 (4 * e2 + 3) (nI d)) q) (lMt_0 h498))) | (exact congrArg (fun z => some (Value.int z)) (nI_s1 _))), (by first | with_reducible rfl | (exact congrArg (fun z => some (Value.int (nI z))) (cnt_t (P := fun q => lMt (cW (cW v 1 (4 * d + 3) (nI e2)) 1 (4 * e2 + 3) (nI d)) q) (lMt_t h498 h510))) | (exact congrArg (fun z => some (Value.int (nI z))) (cnt_f (P := fun q => lMt (cW (cW v 1 (4 * d + 3) (nI e2)) 1 (4 * e2 + 3) (nI d)) q) (lMt_f h510))) | (exact congrArg (fun z => some (Value.int (nI z))) (cnt_f (P := fun q => lMt (cW (cW v 1 (4 * d + 3) (nI e2)) 1 (4 * e2 + 3) (nI d)) q) (lMt_0 h498))) | (exact congrArg (fun z => some (Value.int z)) (nI_s1 _))), (by first | with_reducible rfl | (exact congrArg (fun z => some (Value.int (nI z))) (cnt_t (P := fun q => lMt (cW (cW v 1 (4 * d + 3) (nI e2)) 1 (4 * e2 + 3) (nI d)) q) (lMt_t h498 h510))) | (exact congrArg (fun z => some (Value.int (nI z))) (cnt_f (P := fun q => lMt (cW (cW v 1 (4 * d + 3) (nI e2)) 1 (4 * e2 + 3) (nI d)) q) (lMt_f h510))) | (exact congrArg (fun z => some (Value.int (nI z))) (cnt_f (P := fun q => lMt (cW (cW v 1 (4 * d + 3) (nI e2)) 1 (4 * e2 + 3) (nI d)) q) (lMt_0 h498))) | (exact congrArg (fun z => some (Value.int z)) (nI_s1 _))), (by first | with_reducible rfl | (exact congrArg (fun z => some (Value.int (nI z))) (cnt_t (P := fun q => lMt (cW (cW v 1 (4 * d + 3) (nI e2)) 1 (4 * e2 + 3) (nI d)) q) (lMt_t h498 h510))) | (exact congrArg (fun z => some (Value.int (nI z))) (cnt_f (P := fun q => lMt (cW (cW v 1 (4 * d + 3) (nI e2)) 1 (4 * e2 + 3) (nI d)) q) (lMt_f h510))) | (exact congrArg (fun z => some (Value.int (nI z))) (cnt_f (P := fun q => lMt (cW (cW v 1 (4 * d + 3) (nI e2)) 1 (4 * e2 + 3) (nI d)) q) (lMt_0 h498))) | (exact congrArg (fun z => some (Value.int z)) (nI_s1 _))), (by first | with_reducible rfl | (exact congrArg (fun z => some (Value.int (nI z))) (cnt_t (P := fun q => lMt (cW (cW v 1 (4 * d + 3) (nI e2)) 1 (4 * e2 + 3) (nI d)) q) (lMt_t h498 h510))) | (exact congrArg (fun z => some (Value.int (nI z))) (cnt_f (P := fun q => lMt (cW (cW v 1 (4 * d + 3) (nI e2)) 1 (4 * e2 + 3) (nI d)) q) (lMt_f h510))) | (exact congrArg (fun z => some (Value.int (nI z))) (cnt_f (P := fun q => lMt (cW (cW v 1 (4 * d + 3) (nI e2)) 1 (4 * e2 + 3) (nI d)) q) (lMt_0 h498))) | (exact congrArg (fun z => some (Value.int z)) (nI_s1 _))), (by first | with_reducible rfl | (exact congrArg (fun z => some (Value.int (nI z))) (cnt_t (P := fun q => lMt (cW (cW v 1 (4 * d + 3) (nI e2)) 1 (4 * e2 + 3) (nI d)) q) (lMt_t h498 h510))) | (exact congrArg (fun z => some (Value.int (nI z))) (cnt_f (P := fun q => lMt (cW (cW v 1 (4 * d + 3) (nI e2)) 1 (4 * e2 + 3) (nI d)) q) (lMt_f h510))) | (exact congrArg (fun z => some (Value.int (nI z))) (cnt_f (P := fun q => lMt (cW (cW v 1 (4 * d + 3) (nI e2)) 1 (4 * e2 + 3) (nI d)) q) (lMt_0 h498))) | (exact congrArg (fun z => some (Value.int z)) (nI_s1 _))), (by first | with_reducible rfl | (exact congrArg (fun z => some (Value.int (nI z))) (cnt_t (P := fun q => lMt (cW (cW v 1 (4 * d + 3) (nI e2)) 1 (4 * e2 + 3) (nI d)) q) (lMt_t h498 h510))) | (exact congrArg (fun z => some (Value.int (nI z))) (cnt_f (P := fun q => lMt (cW (cW v 1 (4 * d + 3) (nI e2)) 1 (4 * e2 + 3) (nI d)) q) (lMt_f h510))) | (exact congrArg (fun z => some (Value.int (nI z))) (cnt_f (P := fun q => lMt (cW (cW v 1 (4 * d + 3) (nI e2)) 1 (4 * e2 + 3) (nI d)) q) (lMt_0 h498))) | (exact congrArg (fun z => some (Value.int z)) (nI_s1 _))), (by first | with_reducible rfl | (exact congrArg (fun z => some (Value.int (nI z))) (cnt_t (P := fun q => lMt (cW (cW v 1 (4 * d + 3) (nI e2)) 1 (4 * e2 + 3) (nI d)) q) (lMt_t h498 h510))) | (exact congrArg (fun z => some (Value.int (nI z))) (cnt_f (P := fun q => lMt (cW (cW v 1 (4 * d + 3) (nI e2)) 1 (4 * e2 + 3) (nI d)) q) (lMt_f h510))) | (exact congrArg (fun z => some (Value.int (nI z))) (cnt_f (P := fun q => lMt (cW (cW v 1 (4 * d + 3) (nI e2)) 1 (4 * e2 + 3) (nI d)) q) (lMt_0 h498))) | (exact congrArg (fun z => some (Value.int z)) (nI_s1 _))), (by first | with_reducible rfl | (exact congrArg (fun z => some (Value.int (nI z))) (cnt_t (P := fun q => lMt (cW (cW v 1 (4 * d + 3) (nI e2)) 1 (4 * e2 + 3) (nI d)) q) (lMt_t h498 h510))) | (exact congrArg (fun z => some (Value.int (nI z))) (cnt_f (P := fun q => lMt (cW (cW v 1 (4 * d + 3) (nI e2)) 1 (4 * e2 + 3) (nI d)) q) (lMt_f h510))) | (exact congrArg (fun z => some (Value.int (nI z))) (cnt_f (P := fun q => lMt (cW (cW v 1 (4 * d + 3) (nI e2)) 1 (4 * e2 + 3) (nI d)) q) (lMt_0 h498))) | (exact congrArg (fun z => some (Value.int z)) (nI_s1 _))), (by first | with_reducible rfl | (exact congrArg (fun z => some (Value.int (nI z))) (cnt_t (P := fun q => lMt (cW (cW v 1 (4 * d + 3) (nI e2)) 1 (4 * e2 + 3) (nI d)) q) (lMt_t h498 h510))) | (exact congrArg (fun z => some (Value.int (nI z))) (cnt_f (P := fun q => lMt (cW (cW v 1 (4 * d + 3) (nI e2)) 1 (4 * e2 + 3) (nI d)) q) (lMt_f h510))) | (exact congrArg (fun z => some (Value.int (nI z))) (cnt_f (P := fun q => lMt (cW (cW v 1 (4 * d + 3) (nI e2)) 1 (4 * e2 + 3) (nI d)) q) (lMt_0 h498))) | (exact congrArg (fun z => some (Value.int z)) (nI_s1 _))), (by first | with_reducible rfl | (exact congrArg (fun z => some (Value.int (nI z))) (cnt_t (P := fun q => lMt (cW (cW v 1 (4 * d + 3) (nI e2)) 1 (4 * e2 + 3) (nI d)) q) (lMt_t h498 h510))) | (exact congrArg (fun z => some (Value.int (nI z))) (cnt_f (P := fun q => lMt (cW (cW v 1 (4 * d + 3) (nI e2)) 1 (4 * e2 + 3) (nI d)) q) (lMt_f h510))) | (exact congrArg (fun z => some (Value.int (nI z))) (cnt_f (P := fun q => lMt (cW (cW v 1 (4 * d + 3) (nI e2)) 1 (4 * e2 + 3) (nI d)) q) (lMt_0 h498))) | (exact congrArg (fun z => some (Value.int z)) (nI_s1 _))), trivial⟩
      · refine G.ald4 C dL_doves_501 ?_
        refine G.iconst C 4 dL_doves_503 (by decide) ?_
        refine G.ild11 C dL_doves_504 ?_
        refine G.imul C dL_doves_506 ?_
        refine G.topI (nI (4 * k)) (pk_mul _ _) ?_
        refine G.iconst C 3 dL_doves_507 (by decide) ?_
        refine G.iadd C dL_doves_508 ?_
        refine G.topI (nI ((4 * k) + 3)) (nI_add _ _) ?_
        refine G.ialdL C (n := 64) (j := 1) (d0 := ((4 * k) + 3)) (gN_l hl rfl) (hv _ (by omega)) (by first | assumption | exact vp_in_nI (by omega) (by omega) | (unfold vp_in; decide)) (ix_nI (by omega)) dL_doves_509 ?_
        refine G.if_lt C 517 dL_doves_510 (by decide) (fun h510 => ?_) (fun h510 => ?_)
        · refine G.iconst C 0 dL_doves_517 (by decide) ?_
          refine G.iadd C dL_doves_518 ?_
          refine G.topI (nI ((cnt (fun q => lMt (cW (cW v 1 (4 * d + 3) (nI e2)) 1 (4 * e2 + 3) (nI d)) q) k) + 0)) (nI_add _ _) ?_
          refine G.ist10 C dL_doves_519 (by omega) rfl ?_
          refine G.iincN11 C dL_doves_521 (by omega) rfl ?_
          refine G.goto C 483 dL_doves_524 (by decide) ?_
          refine G.wide (cl' := 0) (sl' := 0) (by omega) (by omega) ?_
          exact G.back (ih (k + 1) (by omega) ) rfl ⟨(by first | with_reducible rfl | (exact congrArg (fun z => some (Value.int (nI z))) (cnt_t (P := fun q => lMt (cW (cW v 1 (4 * d + 3) (nI e2)) 1 (4 * e2 + 3) (nI d)) q) (lMt_t h498 h510))) | (exact congrArg (fun z => some (Value.int (nI z))) (cnt_f (P := fun q => lMt (cW (cW v 1 (4 * d + 3) (nI e2)) 1 (4 * e2 + 3) (nI d)) q) (lMt_f h510))) | (exact congrArg (fun z => some (Value.int (nI z))) (cnt_f (P := fun q => lMt (cW (cW v 1 (4 * d + 3) (nI e2)) 1 (4 * e2 + 3) (nI d)) q) (lMt_0 h498))) | (exact congrArg (fun z => some (Value.int z)) (nI_s1 _))), (by first | with_reducible rfl | (exact congrArg (fun z => some (Value.int (nI z))) (cnt_t (P := fun q => lMt (cW (cW v 1 (4 * d + 3) (nI e2)) 1 (4 * e2 + 3) (nI d)) q) (lMt_t h498 h510))) | (exact congrArg (fun z => some (Value.int (nI z))) (cnt_f (P := fun q => lMt (cW (cW v 1 (4 * d + 3) (nI e2)) 1 (4 * e2 + 3) (nI d)) q) (lMt_f h510))) | (exact congrArg (fun z => some (Value.int (nI z))) (cnt_f (P := fun q => lMt (cW (cW v 1 (4 * d + 3) (nI e2)) 1 (4 * e2 + 3) (nI d)) q) (lMt_0 h498))) | (exact congrArg (fun z => some (Value.int z)) (nI_s1 _))), (by first | with_reducible rfl | (exact congrArg (fun z => some (Value.int (nI z))) (cnt_t (P := fun q => lMt (cW (cW v 1 (4 * d + 3) (nI e2)) 1 (4 * e2 + 3) (nI d)) q) (lMt_t h498 h510))) | (exact congrArg (fun z => some (Value.int (nI z))) (cnt_f (P := fun q => lMt (cW (cW v 1 (4 * d + 3) (nI e2)) 1 (4 * e2 + 3) (nI d)) q) (lMt_f h510))) | (exact congrArg (fun z => some (Value.int (nI z))) (cnt_f (P := fun q => lMt (cW (cW v 1 (4 * d + 3) (nI e2)) 1 (4 * e2 + 3) (nI d)) q) (lMt_0 h498))) | (exact congrArg (fun z => some (Value.int z)) (nI_s1 _))), (by first | with_reducible rfl | (exact congrArg (fun z => some (Value.int (nI z))) (cnt_t (P := fun q => lMt (cW (cW v 1 (4 * d + 3) (nI e2)) 1 (4 * e2 + 3) (nI d)) q) (lMt_t h498 h510))) | (exact congrArg (fun z => some (Value.int (nI z))) (cnt_f (P := fun q => lMt (cW (cW v 1 (4 * d + 3) (nI e2)) 1 (4 * e2 + 3) (nI d)) q) (lMt_f h510))) | (exact congrArg (fun z => some (Value.int (nI z))) (cnt_f (P := fun q => lMt (cW (cW v 1 (4 * d + 3) (nI e2)) 1 (4 * e2 + 3) (nI d)) q) (lMt_0 h498))) | (exact congrArg (fun z => some (Value.int z)) (nI_s1 _))), (by first | with_reducible rfl | (exact congrArg (fun z => some (Value.int (nI z))) (cnt_t (P := fun q => lMt (cW (cW v 1 (4 * d + 3) (nI e2)) 1 (4 * e2 + 3) (nI d)) q) (lMt_t h498 h510))) | (exact congrArg (fun z => some (Value.int (nI z))) (cnt_f (P := fun q => lMt (cW (cW v 1 (4 * d + 3) (nI e2)) 1 (4 * e2 + 3) (nI d)) q) (lMt_f h510))) | (exact congrArg (fun z => some (Value.int (nI z))) (cnt_f (P := fun q => lMt (cW (cW v 1 (4 * d + 3) (nI e2)) 1 (4 * e2 + 3) (nI d)) q) (lMt_0 h498))) | (exact congrArg (fun z => some (Value.int z)) (nI_s1 _))), (by first | with_reducible rfl | (exact congrArg (fun z => some (Value.int (nI z))) (cnt_t (P := fun q => lMt (cW (cW v 1 (4 * d + 3) (nI e2)) 1 (4 * e2 + 3) (nI d)) q) (lMt_t h498 h510))) | (exact congrArg (fun z => some (Value.int (nI z))) (cnt_f (P := fun q => lMt (cW (cW v 1 (4 * d + 3) (nI e2)) 1 (4 * e2 + 3) (nI d)) q) (lMt_f h510))) | (exact congrArg (fun z => some (Value.int (nI z))) (cnt_f (P := fun q => lMt (cW (cW v 1 (4 * d + 3) (nI e2)) 1 (4 * e2 + 3) (nI d)) q) (lMt_0 h498))) | (exact congrArg (fun z => some (Value.int z)) (nI_s1 _))), (by first | with_reducible rfl | (exact congrArg (fun z => some (Value.int (nI z))) (cnt_t (P := fun q => lMt (cW (cW v 1 (4 * d + 3) (nI e2)) 1 (4 * e2 + 3) (nI d)) q) (lMt_t h498 h510))) | (exact congrArg (fun z => some (Value.int (nI z))) (cnt_f (P := fun q => lMt (cW (cW v 1 (4 * d + 3) (nI e2)) 1 (4 * e2 + 3) (nI d)) q) (lMt_f h510))) | (exact congrArg (fun z => some (Value.int (nI z))) (cnt_f (P := fun q => lMt (cW (cW v 1 (4 * d + 3) (nI e2)) 1 (4 * e2 + 3) (nI d)) q) (lMt_0 h498))) | (exact congrArg (fun z => some (Value.int z)) (nI_s1 _))), (by first | with_reducible rfl | (exact congrArg (fun z => some (Value.int (nI z))) (cnt_t (P := fun q => lMt (cW (cW v 1 (4 * d + 3) (nI e2)) 1 (4 * e2 + 3) (nI d)) q) (lMt_t h498 h510))) | (exact congrArg (fun z => some (Value.int (nI z))) (cnt_f (P := fun q => lMt (cW (cW v 1 (4 * d + 3) (nI e2)) 1 (4 * e2 + 3) (nI d)) q) (lMt_f h510))) | (exact congrArg (fun z => some (Value.int (nI z))) (cnt_f (P := fun q => lMt (cW (cW v 1 (4 * d + 3) (nI e2)) 1 (4 * e2 + 3) (nI d)) q) (lMt_0 h498))) | (exact congrArg (fun z => some (Value.int z)) (nI_s1 _))), (by first | with_reducible rfl | (exact congrArg (fun z => some (Value.int (nI z))) (cnt_t (P := fun q => lMt (cW (cW v 1 (4 * d + 3) (nI e2)) 1 (4 * e2 + 3) (nI d)) q) (lMt_t h498 h510))) | (exact congrArg (fun z => some (Value.int (nI z))) (cnt_f (P := fun q => lMt (cW (cW v 1 (4 * d + 3) (nI e2)) 1 (4 * e2 + 3) (nI d)) q) (lMt_f h510))) | (exact congrArg (fun z => some (Value.int (nI z))) (cnt_f (P := fun q => lMt (cW (cW v 1 (4 * d + 3) (nI e2)) 1 (4 * e2 + 3) (nI d)) q) (lMt_0 h498))) | (exact congrArg (fun z => some (Value.int z)) (nI_s1 _))), (by first | with_reducible rfl | (exact congrArg (fun z => some (Value.int (nI z))) (cnt_t (P := fun q => lMt (cW (cW v 1 (4 * d + 3) (nI e2)) 1 (4 * e2 + 3) (nI d)) q) (lMt_t h498 h510))) | (exact congrArg (fun z => some (Value.int (nI z))) (cnt_f (P := fun q => lMt (cW (cW v 1 (4 * d + 3) (nI e2)) 1 (4 * e2 + 3) (nI d)) q) (lMt_f h510))) | (exact congrArg (fun z => some (Value.int (nI z))) (cnt_f (P := fun q => lMt (cW (cW v 1 (4 * d + 3) (nI e2)) 1 (4 * e2 + 3) (nI d)) q) (lMt_0 h498))) | (exact congrArg (fun z => some (Value.int z)) (nI_s1 _))), (by first | with_reducible rfl | (exact congrArg (fun z => some (Value.int (nI z))) (cnt_t (P := fun q => lMt (cW (cW v 1 (4 * d + 3) (nI e2)) 1 (4 * e2 + 3) (nI d)) q) (lMt_t h498 h510))) | (exact congrArg (fun z => some (Value.int (nI z))) (cnt_f (P := fun q => lMt (cW (cW v 1 (4 * d + 3) (nI e2)) 1 (4 * e2 + 3) (nI d)) q) (lMt_f h510))) | (exact congrArg (fun z => some (Value.int (nI z))) (cnt_f (P := fun q => lMt (cW (cW v 1 (4 * d + 3) (nI e2)) 1 (4 * e2 + 3) (nI d)) q) (lMt_0 h498))) | (exact congrArg (fun z => some (Value.int z)) (nI_s1 _))), (by first | with_reducible rfl | (exact congrArg (fun z => some (Value.int (nI z))) (cnt_t (P := fun q => lMt (cW (cW v 1 (4 * d + 3) (nI e2)) 1 (4 * e2 + 3) (nI d)) q) (lMt_t h498 h510))) | (exact congrArg (fun z => some (Value.int (nI z))) (cnt_f (P := fun q => lMt (cW (cW v 1 (4 * d + 3) (nI e2)) 1 (4 * e2 + 3) (nI d)) q) (lMt_f h510))) | (exact congrArg (fun z => some (Value.int (nI z))) (cnt_f (P := fun q => lMt (cW (cW v 1 (4 * d + 3) (nI e2)) 1 (4 * e2 + 3) (nI d)) q) (lMt_0 h498))) | (exact congrArg (fun z => some (Value.int z)) (nI_s1 _))), trivial⟩
        · refine G.iconst C 1 dL_doves_513 (by decide) ?_
          refine G.goto C 518 dL_doves_514 (by decide) ?_
          refine G.iadd C dL_doves_518 ?_
          refine G.topI (nI ((cnt (fun q => lMt (cW (cW v 1 (4 * d + 3) (nI e2)) 1 (4 * e2 + 3) (nI d)) q) k) + 1)) (nI_add _ _) ?_
          refine G.ist10 C dL_doves_519 (by omega) rfl ?_
          refine G.iincN11 C dL_doves_521 (by omega) rfl ?_
          refine G.goto C 483 dL_doves_524 (by decide) ?_
          refine G.wide (cl' := 0) (sl' := 0) (by omega) (by omega) ?_
          exact G.back (ih (k + 1) (by omega) ) rfl ⟨(by first | with_reducible rfl | (exact congrArg (fun z => some (Value.int (nI z))) (cnt_t (P := fun q => lMt (cW (cW v 1 (4 * d + 3) (nI e2)) 1 (4 * e2 + 3) (nI d)) q) (lMt_t h498 h510))) | (exact congrArg (fun z => some (Value.int (nI z))) (cnt_f (P := fun q => lMt (cW (cW v 1 (4 * d + 3) (nI e2)) 1 (4 * e2 + 3) (nI d)) q) (lMt_f h510))) | (exact congrArg (fun z => some (Value.int (nI z))) (cnt_f (P := fun q => lMt (cW (cW v 1 (4 * d + 3) (nI e2)) 1 (4 * e2 + 3) (nI d)) q) (lMt_0 h498))) | (exact congrArg (fun z => some (Value.int z)) (nI_s1 _))), (by first | with_reducible rfl | (exact congrArg (fun z => some (Value.int (nI z))) (cnt_t (P := fun q => lMt (cW (cW v 1 (4 * d + 3) (nI e2)) 1 (4 * e2 + 3) (nI d)) q) (lMt_t h498 h510))) | (exact congrArg (fun z => some (Value.int (nI z))) (cnt_f (P := fun q => lMt (cW (cW v 1 (4 * d + 3) (nI e2)) 1 (4 * e2 + 3) (nI d)) q) (lMt_f h510))) | (exact congrArg (fun z => some (Value.int (nI z))) (cnt_f (P := fun q => lMt (cW (cW v 1 (4 * d + 3) (nI e2)) 1 (4 * e2 + 3) (nI d)) q) (lMt_0 h498))) | (exact congrArg (fun z => some (Value.int z)) (nI_s1 _))), (by first | with_reducible rfl | (exact congrArg (fun z => some (Value.int (nI z))) (cnt_t (P := fun q => lMt (cW (cW v 1 (4 * d + 3) (nI e2)) 1 (4 * e2 + 3) (nI d)) q) (lMt_t h498 h510))) | (exact congrArg (fun z => some (Value.int (nI z))) (cnt_f (P := fun q => lMt (cW (cW v 1 (4 * d + 3) (nI e2)) 1 (4 * e2 + 3) (nI d)) q) (lMt_f h510))) | (exact congrArg (fun z => some (Value.int (nI z))) (cnt_f (P := fun q => lMt (cW (cW v 1 (4 * d + 3) (nI e2)) 1 (4 * e2 + 3) (nI d)) q) (lMt_0 h498))) | (exact congrArg (fun z => some (Value.int z)) (nI_s1 _))), (by first | with_reducible rfl | (exact congrArg (fun z => some (Value.int (nI z))) (cnt_t (P := fun q => lMt (cW (cW v 1 (4 * d + 3) (nI e2)) 1 (4 * e2 + 3) (nI d)) q) (lMt_t h498 h510))) | (exact congrArg (fun z => some (Value.int (nI z))) (cnt_f (P := fun q => lMt (cW (cW v 1 (4 * d + 3) (nI e2)) 1 (4 * e2 + 3) (nI d)) q) (lMt_f h510))) | (exact congrArg (fun z => some (Value.int (nI z))) (cnt_f (P := fun q => lMt (cW (cW v 1 (4 * d + 3) (nI e2)) 1 (4 * e2 + 3) (nI d)) q) (lMt_0 h498))) | (exact congrArg (fun z => some (Value.int z)) (nI_s1 _))), (by first | with_reducible rfl | (exact congrArg (fun z => some (Value.int (nI z))) (cnt_t (P := fun q => lMt (cW (cW v 1 (4 * d + 3) (nI e2)) 1 (4 * e2 + 3) (nI d)) q) (lMt_t h498 h510))) | (exact congrArg (fun z => some (Value.int (nI z))) (cnt_f (P := fun q => lMt (cW (cW v 1 (4 * d + 3) (nI e2)) 1 (4 * e2 + 3) (nI d)) q) (lMt_f h510))) | (exact congrArg (fun z => some (Value.int (nI z))) (cnt_f (P := fun q => lMt (cW (cW v 1 (4 * d + 3) (nI e2)) 1 (4 * e2 + 3) (nI d)) q) (lMt_0 h498))) | (exact congrArg (fun z => some (Value.int z)) (nI_s1 _))), (by first | with_reducible rfl | (exact congrArg (fun z => some (Value.int (nI z))) (cnt_t (P := fun q => lMt (cW (cW v 1 (4 * d + 3) (nI e2)) 1 (4 * e2 + 3) (nI d)) q) (lMt_t h498 h510))) | (exact congrArg (fun z => some (Value.int (nI z))) (cnt_f (P := fun q => lMt (cW (cW v 1 (4 * d + 3) (nI e2)) 1 (4 * e2 + 3) (nI d)) q) (lMt_f h510))) | (exact congrArg (fun z => some (Value.int (nI z))) (cnt_f (P := fun q => lMt (cW (cW v 1 (4 * d + 3) (nI e2)) 1 (4 * e2 + 3) (nI d)) q) (lMt_0 h498))) | (exact congrArg (fun z => some (Value.int z)) (nI_s1 _))), (by first | with_reducible rfl | (exact congrArg (fun z => some (Value.int (nI z))) (cnt_t (P := fun q => lMt (cW (cW v 1 (4 * d + 3) (nI e2)) 1 (4 * e2 + 3) (nI d)) q) (lMt_t h498 h510))) | (exact congrArg (fun z => some (Value.int (nI z))) (cnt_f (P := fun q => lMt (cW (cW v 1 (4 * d + 3) (nI e2)) 1 (4 * e2 + 3) (nI d)) q) (lMt_f h510))) | (exact congrArg (fun z => some (Value.int (nI z))) (cnt_f (P := fun q => lMt (cW (cW v 1 (4 * d + 3) (nI e2)) 1 (4 * e2 + 3) (nI d)) q) (lMt_0 h498))) | (exact congrArg (fun z => some (Value.int z)) (nI_s1 _))), (by first | with_reducible rfl | (exact congrArg (fun z => some (Value.int (nI z))) (cnt_t (P := fun q => lMt (cW (cW v 1 (4 * d + 3) (nI e2)) 1 (4 * e2 + 3) (nI d)) q) (lMt_t h498 h510))) | (exact congrArg (fun z => some (Value.int (nI z))) (cnt_f (P := fun q => lMt (cW (cW v 1 (4 * d + 3) (nI e2)) 1 (4 * e2 + 3) (nI d)) q) (lMt_f h510))) | (exact congrArg (fun z => some (Value.int (nI z))) (cnt_f (P := fun q => lMt (cW (cW v 1 (4 * d + 3) (nI e2)) 1 (4 * e2 + 3) (nI d)) q) (lMt_0 h498))) | (exact congrArg (fun z => some (Value.int z)) (nI_s1 _))), (by first | with_reducible rfl | (exact congrArg (fun z => some (Value.int (nI z))) (cnt_t (P := fun q => lMt (cW (cW v 1 (4 * d + 3) (nI e2)) 1 (4 * e2 + 3) (nI d)) q) (lMt_t h498 h510))) | (exact congrArg (fun z => some (Value.int (nI z))) (cnt_f (P := fun q => lMt (cW (cW v 1 (4 * d + 3) (nI e2)) 1 (4 * e2 + 3) (nI d)) q) (lMt_f h510))) | (exact congrArg (fun z => some (Value.int (nI z))) (cnt_f (P := fun q => lMt (cW (cW v 1 (4 * d + 3) (nI e2)) 1 (4 * e2 + 3) (nI d)) q) (lMt_0 h498))) | (exact congrArg (fun z => some (Value.int z)) (nI_s1 _))), (by first | with_reducible rfl | (exact congrArg (fun z => some (Value.int (nI z))) (cnt_t (P := fun q => lMt (cW (cW v 1 (4 * d + 3) (nI e2)) 1 (4 * e2 + 3) (nI d)) q) (lMt_t h498 h510))) | (exact congrArg (fun z => some (Value.int (nI z))) (cnt_f (P := fun q => lMt (cW (cW v 1 (4 * d + 3) (nI e2)) 1 (4 * e2 + 3) (nI d)) q) (lMt_f h510))) | (exact congrArg (fun z => some (Value.int (nI z))) (cnt_f (P := fun q => lMt (cW (cW v 1 (4 * d + 3) (nI e2)) 1 (4 * e2 + 3) (nI d)) q) (lMt_0 h498))) | (exact congrArg (fun z => some (Value.int z)) (nI_s1 _))), (by first | with_reducible rfl | (exact congrArg (fun z => some (Value.int (nI z))) (cnt_t (P := fun q => lMt (cW (cW v 1 (4 * d + 3) (nI e2)) 1 (4 * e2 + 3) (nI d)) q) (lMt_t h498 h510))) | (exact congrArg (fun z => some (Value.int (nI z))) (cnt_f (P := fun q => lMt (cW (cW v 1 (4 * d + 3) (nI e2)) 1 (4 * e2 + 3) (nI d)) q) (lMt_f h510))) | (exact congrArg (fun z => some (Value.int (nI z))) (cnt_f (P := fun q => lMt (cW (cW v 1 (4 * d + 3) (nI e2)) 1 (4 * e2 + 3) (nI d)) q) (lMt_0 h498))) | (exact congrArg (fun z => some (Value.int z)) (nI_s1 _))), (by first | with_reducible rfl | (exact congrArg (fun z => some (Value.int (nI z))) (cnt_t (P := fun q => lMt (cW (cW v 1 (4 * d + 3) (nI e2)) 1 (4 * e2 + 3) (nI d)) q) (lMt_t h498 h510))) | (exact congrArg (fun z => some (Value.int (nI z))) (cnt_f (P := fun q => lMt (cW (cW v 1 (4 * d + 3) (nI e2)) 1 (4 * e2 + 3) (nI d)) q) (lMt_f h510))) | (exact congrArg (fun z => some (Value.int (nI z))) (cnt_f (P := fun q => lMt (cW (cW v 1 (4 * d + 3) (nI e2)) 1 (4 * e2 + 3) (nI d)) q) (lMt_0 h498))) | (exact congrArg (fun z => some (Value.int z)) (nI_s1 _))), trivial⟩
  refine G.wide (cl' := 0) (sl' := 0) (by omega) (by omega) ?_
  exact G.back (L483 16 0 (Nat.zero_add _) ) rfl ⟨(by first | with_reducible rfl | rfl), (by first | with_reducible rfl | rfl), (by first | with_reducible rfl | rfl), (by first | with_reducible rfl | rfl), (by first | with_reducible rfl | rfl), (by first | with_reducible rfl | rfl), (by first | with_reducible rfl | rfl), (by first | with_reducible rfl | rfl), (by first | with_reducible rfl | rfl), (by first | with_reducible rfl | rfl), (by first | with_reducible rfl | rfl), (by first | with_reducible rfl | rfl), trivial⟩
set_option maxRecDepth 100000 in
set_option maxHeartbeats 8000000 in
theorem k_L_doves_586 (l : Launch) (hst : l.stackTraces = false) {E : gEn} {σ : gSt} {π : Nat → Nat} {o : Int64} {c0 c1 c2 c9 v : cSt} {x y : Int32} {B sv : Nat} (hs : c9 0 5 = nI sv) (hle : sv ≤ 6) (hπ : ∀ k, k < 6 → 3 ≤ π k ∧ π k < 9) (hS : SRL B c0 v) {how h d : Nat} (hh : h < 24) (hw : ¬ cWhyShut c0 (nI h) = 0) {p : Program} {e : Env} {s : State} {m : MethodId} {args : Array Value} {below : List Frame} {meth : Method} {cd : Code} (C : gCx p s m cd cL_doves 12 RL wsL_doves args E (gA E) ({ frames := 9, cells := 3, slots := 18, locals := 194 } : Room) 0 0) (hZ : gZ E (gA E) s) (hrt : meth.sig.returnType = (some .boolean)) (hlk : meth.locks = false) : G p l e ({ frames := 9, cells := 3, slots := 18, locals := 194 } : Room) s m args below meth cd 12 0 0 (gA E) (gQP below args s E o (BigL B) 3 18) E (gL σ c0 c1 c2 c9 v) π o 586 [some (.ref (E.2.1 9 0)), some (.int x), some (.int y), some (.ref (E.2.1 10 0)), some (.ref (E.2.1 10 1)), some (.ref (E.2.1 10 2)), some (.int (nI how)), some (.int (nI h)), some (.int (nI d)), none, none, none] [] := by
  have hl : 10 ≤ 10 := Nat.le_refl 10
  have hv : ∀ j, j < 4 → gV E 10 j := fun j hj => gV_d hj
  refine G.aldn0 C dL_doves_586 ?_
  refine G.ild7 C dL_doves_587 ?_
  refine G.callH2 C hZ (k_L_shut_t2 l hst (hH_nI hh) hw) (vx_cwSW 2 C.1.2.2.2.2 gL_doves_L_shut rfl rfl rfl (by decide +kernel) ⟨(Nat.le_of_ble_eq_true rfl), (Nat.le_of_ble_eq_true rfl)⟩) (Nat.le_of_ble_eq_true rfl) dL_doves_589 ⟨by show _ ≤ (3 : Nat); omega, by show _ ≤ (18 : Nat); omega⟩ (fun C => ?_)
  refine G.topI ((-33)) rfl ?_
  refine G.bipush C (-33) dL_doves_592 (by decide) ?_
  refine G.icmp_ne C 612 dL_doves_594 (by decide) (fun h => absurd rfl h) (fun _ => ?_)
  refine G.aldn0 C dL_doves_597 ?_
  refine G.bipush C 24 dL_doves_598 (by decide) ?_
  refine G.callH2 C hZ (k_L_shut_t1 l hst (by decide)) (vx_cwSW 2 C.1.2.2.2.2 gL_doves_L_shut rfl rfl rfl (by decide +kernel) ⟨(Nat.le_of_ble_eq_true rfl), (Nat.le_of_ble_eq_true rfl)⟩) (Nat.le_of_ble_eq_true rfl) dL_doves_600 ⟨by show _ ≤ (3 : Nat); omega, by show _ ≤ (18 : Nat); omega⟩ (fun C => ?_)
  refine G.topI ((-31)) rfl ?_
  refine G.bipush C (-31) dL_doves_603 (by decide) ?_
  refine G.icmp_ne C 612 dL_doves_605 (by decide) (fun h => absurd rfl h) (fun _ => ?_)
  refine G.iconst C 1 dL_doves_608 (by decide) ?_
  refine G.goto C 613 dL_doves_609 (by decide) ?_
  exact G.pret C (by omega) (by omega) hlk hrt dL_doves_613 rfl (BigL.mk hs hle hπ hS)
set_option maxRecDepth 100000 in
set_option maxHeartbeats 8000000 in
theorem k_L_doves_614 (l : Launch) (hst : l.stackTraces = false) {E : gEn} {σ : gSt} {π : Nat → Nat} {o : Int64} {c0 c1 c2 c9 v : cSt} {x y : Int32} {B sv : Nat} (hs : c9 0 5 = nI sv) (hle : sv ≤ 6) (hπ : ∀ k, k < 6 → 3 ≤ π k ∧ π k < 9) (hS : SRL B c0 v) {how h d : Nat} (hh : h < 24) (hw : cWhyShut c0 (nI h) = 0) (hhow : how < 10) {p : Program} {e : Env} {s : State} {m : MethodId} {args : Array Value} {below : List Frame} {meth : Method} {cd : Code} (C : gCx p s m cd cL_doves 12 RL wsL_doves args E (gA E) ({ frames := 9, cells := 3, slots := 18, locals := 194 } : Room) 0 0) (hZ : gZ E (gA E) s) (hrt : meth.sig.returnType = (some .boolean)) (hlk : meth.locks = false) : G p l e ({ frames := 9, cells := 3, slots := 18, locals := 194 } : Room) s m args below meth cd 12 0 0 (gA E) (gQP below args s E o (BigL B) 3 18) E (gL σ c0 c1 c2 c9 v) π o 614 [some (.ref (E.2.1 9 0)), some (.int x), some (.int y), some (.ref (E.2.1 10 0)), some (.ref (E.2.1 10 1)), some (.ref (E.2.1 10 2)), some (.int (nI how)), some (.int (nI h)), some (.int (nI d)), none, none, none] [] := by
  have hl : 10 ≤ 10 := Nat.le_refl 10
  have hv : ∀ j, j < 4 → gV E 10 j := fun j hj => gV_d hj
  have hS2 := shutL_SR hS hh
  refine G.aldn3 C dL_doves_614 ?_
  refine G.iconst C 1 dL_doves_615 (by decide) ?_
  refine G.dup2 C dL_doves_616 rfl rfl ?_
  refine G.ialdL C (n := 13) (j := 0) (d0 := 1) (gN_l hl rfl) (hv _ (by omega)) (by unfold vp_in; decide) (by decide) dL_doves_617 ?_
  refine G.iconst C 1 dL_doves_618 (by decide) ?_
  refine G.ild7 C dL_doves_619 ?_
  refine G.ishl C dL_doves_621 ?_
  refine G.ior C dL_doves_622 ?_
  refine G.iastL C (n := 13) (j := 0) (d0 := 1) (gN_l hl rfl) (hv _ (by omega)) (by unfold vp_in; decide) (by decide) dL_doves_623 ?_
  refine G.goto C 639 dL_doves_624 (by decide) ?_
  refine G.bipush C 24 dL_doves_639 (by decide) ?_
  refine G.ist9 C dL_doves_641 (by omega) rfl ?_
  refine G.iconst C 0 dL_doves_643 (by decide) ?_
  refine G.ist10 C dL_doves_644 (by omega) rfl ?_
  have L646 : ∀ (n k : Nat), k + n = 24 → G p l e ({ frames := 9, cells := 3, slots := 18, locals := 194 } : Room) s m args below meth cd 12 0 0 (gA E) (gQP below args s E o (BigL B) 3 18) E (gL σ c0 c1 c2 c9 (cW v 0 1 (v 0 1 ||| ((1 : Int32) <<< (nI h &&& 31))))) π o 646 [some (.ref (E.2.1 9 0)), some (.int x), some (.int y), some (.ref (E.2.1 10 0)), some (.ref (E.2.1 10 1)), some (.ref (E.2.1 10 2)), some (.int (nI how)), some (.int (nI h)), some (.int (nI d)), some (.int (nI (24 - lClK ((cW v 0 1 (v 0 1 ||| ((1 : Int32) <<< (nI h &&& 31)))) 0 1) k))), some (.int (nI k)), none] [] := by
    intro n
    induction n with
    | zero =>
      intro k hk
      obtain rfl : 24 = k := by omega
      have C := C.wide (cl' := 0) (sl' := 0) (by show _ ≤ (3 : Nat); omega) (by show _ ≤ (18 : Nat); omega)
      refine G.ild10 C dL_doves_646 ?_
      refine G.bipush C 24 dL_doves_648 (by decide) ?_
      refine G.icmp_ge C 672 dL_doves_650 (by decide) (fun _ => ?_) (fun h => absurd (nI_le (a := 24) (b := 24) (by omega) (by decide)) h)
      refine G.ild6 C dL_doves_672 ?_
      refine G.bipush C 10 dL_doves_674 (by decide) ?_
      refine G.icmp_ge C 688 dL_doves_676 (by decide) (fun h676 => absurd h676 (nI_ge (b := 10) hhow (by omega))) (fun h676 => ?_)
      refine G.aldn0 C dL_doves_679 ?_
      refine G.ild7 C dL_doves_680 ?_
      refine G.callH2 C hZ (k_L_shut l (hH_nI hh) hw hs hle hπ) (vx_cwSW 2 C.1.2.2.2.2 gL_doves_L_shut rfl rfl rfl (by decide +kernel) ⟨(Nat.le_of_ble_eq_true rfl), (Nat.le_of_ble_eq_true rfl)⟩) (Nat.le_of_ble_eq_true rfl) dL_doves_682 ⟨by show _ ≤ (3 : Nat); omega, by show _ ≤ (18 : Nat); omega⟩ (fun C => ?_)
      refine G.topI (nI (24 - lClK ((cW v 0 1 (v 0 1 ||| ((1 : Int32) <<< (nI h &&& 31)))) 0 1) 24)) (by rw [ix_nI (by omega)]; exact opens_cl hS2) ?_
      refine G.goto C 694 dL_doves_685 (by decide) ?_
      refine G.ild9 C dL_doves_694 ?_
      refine G.icmp_ne C 713 dL_doves_696 (by decide) (fun h696 => absurd h696 (fun q => q (rfl))) (fun h696 => ?_)
      refine G.aldn0 C dL_doves_699 ?_
      refine G.iconst C (-1) dL_doves_700 (by decide) ?_
      refine G.callH2 C hZ (k_L_open_t l hst (by decide)) (vx_cwSW 2 C.1.2.2.2.2 gL_doves_L_open rfl rfl rfl (by decide +kernel) ⟨(Nat.le_of_ble_eq_true rfl), (Nat.le_of_ble_eq_true rfl)⟩) (Nat.le_of_ble_eq_true rfl) dL_doves_701 ⟨by show _ ≤ (3 : Nat); omega, by show _ ≤ (18 : Nat); omega⟩ (fun C => ?_)
      refine G.topI ((-31)) rfl ?_
      refine G.bipush C (-31) dL_doves_704 (by decide) ?_
      refine G.icmp_ne C 713 dL_doves_706 (by decide) (fun h => absurd rfl h) (fun _ => ?_)
      refine G.iconst C 1 dL_doves_709 (by decide) ?_
      refine G.goto C 714 dL_doves_710 (by decide) ?_
      exact G.pret C (by omega) (by omega) hlk hrt dL_doves_714 rfl (BigL.sv hle hπ (by rw [ix_nI (by omega)]; exact hS2))
    | succ n ih =>
      intro k hk
      have C := C.wide (cl' := 0) (sl' := 0) (by show _ ≤ (3 : Nat); omega) (by show _ ≤ (18 : Nat); omega)
      have hk2 : k < 24 := by omega
      refine G.ild10 C dL_doves_646 ?_
      refine G.bipush C 24 dL_doves_648 (by decide) ?_
      refine G.icmp_ge C 672 dL_doves_650 (by decide) (fun h => absurd h (nI_ge (b := 24) hk2 (by decide))) (fun _ => ?_)
      refine G.ild9 C dL_doves_653 ?_
      refine G.aldn3 C dL_doves_655 ?_
      refine G.iconst C 1 dL_doves_656 (by decide) ?_
      refine G.ialdL C (n := 13) (j := 0) (d0 := 1) (gN_l hl rfl) (hv _ (by omega)) (by unfold vp_in; decide) (by decide) dL_doves_657 ?_
      refine G.ild10 C dL_doves_658 ?_
      refine G.ishr C dL_doves_660 ?_
      refine G.iconst C 1 dL_doves_661 (by decide) ?_
      refine G.iand C dL_doves_662 ?_
      refine G.topI (bI (lBit ((cW v 0 1 (v 0 1 ||| ((1 : Int32) <<< (nI h &&& 31)))) 0 1) k)) (lBit_sh (by omega)) ?_
      refine G.isub C dL_doves_663 ?_
      refine G.topI (nI (24 - lClK ((cW v 0 1 (v 0 1 ||| ((1 : Int32) <<< (nI h &&& 31)))) 0 1) (k + 1))) (lCl_s hk2) ?_
      refine G.ist9 C dL_doves_664 (by omega) rfl ?_
      refine G.iincN10 C dL_doves_666 (by omega) rfl ?_
      refine G.goto C 646 dL_doves_669 (by decide) ?_
      refine G.wide (cl' := 0) (sl' := 0) (by omega) (by omega) ?_
      exact G.back (ih (k + 1) (by omega) ) rfl ⟨(by first | with_reducible rfl | (exact congrArg (fun z => some (Value.int z)) (nI_s1 _))), (by first | with_reducible rfl | (exact congrArg (fun z => some (Value.int z)) (nI_s1 _))), (by first | with_reducible rfl | (exact congrArg (fun z => some (Value.int z)) (nI_s1 _))), (by first | with_reducible rfl | (exact congrArg (fun z => some (Value.int z)) (nI_s1 _))), (by first | with_reducible rfl | (exact congrArg (fun z => some (Value.int z)) (nI_s1 _))), (by first | with_reducible rfl | (exact congrArg (fun z => some (Value.int z)) (nI_s1 _))), (by first | with_reducible rfl | (exact congrArg (fun z => some (Value.int z)) (nI_s1 _))), (by first | with_reducible rfl | (exact congrArg (fun z => some (Value.int z)) (nI_s1 _))), (by first | with_reducible rfl | (exact congrArg (fun z => some (Value.int z)) (nI_s1 _))), (by first | with_reducible rfl | (exact congrArg (fun z => some (Value.int z)) (nI_s1 _))), (by first | with_reducible rfl | (exact congrArg (fun z => some (Value.int z)) (nI_s1 _))), trivial⟩
  refine G.wide (cl' := 0) (sl' := 0) (by omega) (by omega) ?_
  exact G.back (L646 24 0 (Nat.zero_add _) ) rfl ⟨(by first | with_reducible rfl | rfl), (by first | with_reducible rfl | rfl), (by first | with_reducible rfl | rfl), (by first | with_reducible rfl | rfl), (by first | with_reducible rfl | rfl), (by first | with_reducible rfl | rfl), (by first | with_reducible rfl | rfl), (by first | with_reducible rfl | rfl), (by first | with_reducible rfl | rfl), (by first | with_reducible rfl | rfl), (by first | with_reducible rfl | rfl), trivial⟩
set_option maxRecDepth 100000 in
set_option maxHeartbeats 8000000 in
theorem k_L_doves_627 (l : Launch) (hst : l.stackTraces = false) {E : gEn} {σ : gSt} {π : Nat → Nat} {o : Int64} {c0 c1 c2 c9 v : cSt} {x y : Int32} {B sv : Nat} (hs : c9 0 5 = nI sv) (hle : sv ≤ 6) (hπ : ∀ k, k < 6 → 3 ≤ π k ∧ π k < 9) (hS : SRL B c0 v) {how h d : Nat} (hh : h < 24) (hhow : 10 ≤ how) (hhow2 : how < 12) {p : Program} {e : Env} {s : State} {m : MethodId} {args : Array Value} {below : List Frame} {meth : Method} {cd : Code} (C : gCx p s m cd cL_doves 12 RL wsL_doves args E (gA E) ({ frames := 9, cells := 3, slots := 18, locals := 194 } : Room) 0 0) (hZ : gZ E (gA E) s) (hrt : meth.sig.returnType = (some .boolean)) (hlk : meth.locks = false) : G p l e ({ frames := 9, cells := 3, slots := 18, locals := 194 } : Room) s m args below meth cd 12 0 0 (gA E) (gQP below args s E o (BigL B) 3 18) E (gL σ c0 c1 c2 c9 v) π o 627 [some (.ref (E.2.1 9 0)), some (.int x), some (.int y), some (.ref (E.2.1 10 0)), some (.ref (E.2.1 10 1)), some (.ref (E.2.1 10 2)), some (.int (nI how)), some (.int (nI h)), some (.int (nI d)), none, none, none] [] := by
  have hl : 10 ≤ 10 := Nat.le_refl 10
  have hv : ∀ j, j < 4 → gV E 10 j := fun j hj => gV_d hj
  have hS2 := openL_SR hS hh
  refine G.aldn3 C dL_doves_627 ?_
  refine G.iconst C 1 dL_doves_628 (by decide) ?_
  refine G.dup2 C dL_doves_629 rfl rfl ?_
  refine G.ialdL C (n := 13) (j := 0) (d0 := 1) (gN_l hl rfl) (hv _ (by omega)) (by unfold vp_in; decide) (by decide) dL_doves_630 ?_
  refine G.iconst C 1 dL_doves_631 (by decide) ?_
  refine G.ild7 C dL_doves_632 ?_
  refine G.ishl C dL_doves_634 ?_
  refine G.iconst C (-1) dL_doves_635 (by decide) ?_
  refine G.ixor C dL_doves_636 ?_
  refine G.iand C dL_doves_637 ?_
  refine G.iastL C (n := 13) (j := 0) (d0 := 1) (gN_l hl rfl) (hv _ (by omega)) (by unfold vp_in; decide) (by decide) dL_doves_638 ?_
  refine G.bipush C 24 dL_doves_639 (by decide) ?_
  refine G.ist9 C dL_doves_641 (by omega) rfl ?_
  refine G.iconst C 0 dL_doves_643 (by decide) ?_
  refine G.ist10 C dL_doves_644 (by omega) rfl ?_
  have L646 : ∀ (n k : Nat), k + n = 24 → G p l e ({ frames := 9, cells := 3, slots := 18, locals := 194 } : Room) s m args below meth cd 12 0 0 (gA E) (gQP below args s E o (BigL B) 3 18) E (gL σ c0 c1 c2 c9 (cW v 0 1 (v 0 1 &&& (((1 : Int32) <<< (nI h &&& 31)) ^^^ -1)))) π o 646 [some (.ref (E.2.1 9 0)), some (.int x), some (.int y), some (.ref (E.2.1 10 0)), some (.ref (E.2.1 10 1)), some (.ref (E.2.1 10 2)), some (.int (nI how)), some (.int (nI h)), some (.int (nI d)), some (.int (nI (24 - lClK ((cW v 0 1 (v 0 1 &&& (((1 : Int32) <<< (nI h &&& 31)) ^^^ -1))) 0 1) k))), some (.int (nI k)), none] [] := by
    intro n
    induction n with
    | zero =>
      intro k hk
      obtain rfl : 24 = k := by omega
      have C := C.wide (cl' := 0) (sl' := 0) (by show _ ≤ (3 : Nat); omega) (by show _ ≤ (18 : Nat); omega)
      refine G.ild10 C dL_doves_646 ?_
      refine G.bipush C 24 dL_doves_648 (by decide) ?_
      refine G.icmp_ge C 672 dL_doves_650 (by decide) (fun _ => ?_) (fun h => absurd (nI_le (a := 24) (b := 24) (by omega) (by decide)) h)
      refine G.ild6 C dL_doves_672 ?_
      refine G.bipush C 10 dL_doves_674 (by decide) ?_
      refine G.icmp_ge C 688 dL_doves_676 (by decide) (fun h676 => ?_) (fun h676 => absurd (nI_le (a := 10) hhow (by omega)) h676)
      refine G.aldn0 C dL_doves_688 ?_
      refine G.ild7 C dL_doves_689 ?_
      refine G.callH2 C hZ (k_L_open l (hH_nI hh) hs hle hπ) (vx_cwSW 2 C.1.2.2.2.2 gL_doves_L_open rfl rfl rfl (by decide +kernel) ⟨(Nat.le_of_ble_eq_true rfl), (Nat.le_of_ble_eq_true rfl)⟩) (Nat.le_of_ble_eq_true rfl) dL_doves_691 ⟨by show _ ≤ (3 : Nat); omega, by show _ ≤ (18 : Nat); omega⟩ (fun C => ?_)
      refine G.topI (nI (24 - lClK ((cW v 0 1 (v 0 1 &&& (((1 : Int32) <<< (nI h &&& 31)) ^^^ -1))) 0 1) 24)) (by rw [ix_nI (by omega)]; exact opens_cl hS2) ?_
      refine G.ild9 C dL_doves_694 ?_
      refine G.icmp_ne C 713 dL_doves_696 (by decide) (fun h696 => absurd h696 (fun q => q (rfl))) (fun h696 => ?_)
      refine G.aldn0 C dL_doves_699 ?_
      refine G.iconst C (-1) dL_doves_700 (by decide) ?_
      refine G.callH2 C hZ (k_L_open_t l hst (by decide)) (vx_cwSW 2 C.1.2.2.2.2 gL_doves_L_open rfl rfl rfl (by decide +kernel) ⟨(Nat.le_of_ble_eq_true rfl), (Nat.le_of_ble_eq_true rfl)⟩) (Nat.le_of_ble_eq_true rfl) dL_doves_701 ⟨by show _ ≤ (3 : Nat); omega, by show _ ≤ (18 : Nat); omega⟩ (fun C => ?_)
      refine G.topI ((-31)) rfl ?_
      refine G.bipush C (-31) dL_doves_704 (by decide) ?_
      refine G.icmp_ne C 713 dL_doves_706 (by decide) (fun h => absurd rfl h) (fun _ => ?_)
      refine G.iconst C 1 dL_doves_709 (by decide) ?_
      refine G.goto C 714 dL_doves_710 (by decide) ?_
      exact G.pret C (by omega) (by omega) hlk hrt dL_doves_714 rfl (BigL.sv hle hπ (by rw [ix_nI (by omega)]; exact hS2))
    | succ n ih =>
      intro k hk
      have C := C.wide (cl' := 0) (sl' := 0) (by show _ ≤ (3 : Nat); omega) (by show _ ≤ (18 : Nat); omega)
      have hk2 : k < 24 := by omega
      refine G.ild10 C dL_doves_646 ?_
      refine G.bipush C 24 dL_doves_648 (by decide) ?_
      refine G.icmp_ge C 672 dL_doves_650 (by decide) (fun h => absurd h (nI_ge (b := 24) hk2 (by decide))) (fun _ => ?_)
      refine G.ild9 C dL_doves_653 ?_
      refine G.aldn3 C dL_doves_655 ?_
      refine G.iconst C 1 dL_doves_656 (by decide) ?_
      refine G.ialdL C (n := 13) (j := 0) (d0 := 1) (gN_l hl rfl) (hv _ (by omega)) (by unfold vp_in; decide) (by decide) dL_doves_657 ?_
      refine G.ild10 C dL_doves_658 ?_
      refine G.ishr C dL_doves_660 ?_
      refine G.iconst C 1 dL_doves_661 (by decide) ?_
      refine G.iand C dL_doves_662 ?_
      refine G.topI (bI (lBit ((cW v 0 1 (v 0 1 &&& (((1 : Int32) <<< (nI h &&& 31)) ^^^ -1))) 0 1) k)) (lBit_sh (by omega)) ?_
      refine G.isub C dL_doves_663 ?_
      refine G.topI (nI (24 - lClK ((cW v 0 1 (v 0 1 &&& (((1 : Int32) <<< (nI h &&& 31)) ^^^ -1))) 0 1) (k + 1))) (lCl_s hk2) ?_
      refine G.ist9 C dL_doves_664 (by omega) rfl ?_
      refine G.iincN10 C dL_doves_666 (by omega) rfl ?_
      refine G.goto C 646 dL_doves_669 (by decide) ?_
      refine G.wide (cl' := 0) (sl' := 0) (by omega) (by omega) ?_
      exact G.back (ih (k + 1) (by omega) ) rfl ⟨(by first | with_reducible rfl | (exact congrArg (fun z => some (Value.int z)) (nI_s1 _))), (by first | with_reducible rfl | (exact congrArg (fun z => some (Value.int z)) (nI_s1 _))), (by first | with_reducible rfl | (exact congrArg (fun z => some (Value.int z)) (nI_s1 _))), (by first | with_reducible rfl | (exact congrArg (fun z => some (Value.int z)) (nI_s1 _))), (by first | with_reducible rfl | (exact congrArg (fun z => some (Value.int z)) (nI_s1 _))), (by first | with_reducible rfl | (exact congrArg (fun z => some (Value.int z)) (nI_s1 _))), (by first | with_reducible rfl | (exact congrArg (fun z => some (Value.int z)) (nI_s1 _))), (by first | with_reducible rfl | (exact congrArg (fun z => some (Value.int z)) (nI_s1 _))), (by first | with_reducible rfl | (exact congrArg (fun z => some (Value.int z)) (nI_s1 _))), (by first | with_reducible rfl | (exact congrArg (fun z => some (Value.int z)) (nI_s1 _))), (by first | with_reducible rfl | (exact congrArg (fun z => some (Value.int z)) (nI_s1 _))), trivial⟩
  refine G.wide (cl' := 0) (sl' := 0) (by omega) (by omega) ?_
  exact G.back (L646 24 0 (Nat.zero_add _) ) rfl ⟨(by first | with_reducible rfl | rfl), (by first | with_reducible rfl | rfl), (by first | with_reducible rfl | rfl), (by first | with_reducible rfl | rfl), (by first | with_reducible rfl | rfl), (by first | with_reducible rfl | rfl), (by first | with_reducible rfl | rfl), (by first | with_reducible rfl | rfl), (by first | with_reducible rfl | rfl), (by first | with_reducible rfl | rfl), (by first | with_reducible rfl | rfl), trivial⟩
set_option maxRecDepth 100000 in
set_option maxHeartbeats 8000000 in
theorem k_L_doves_350 (l : Launch) (hst : l.stackTraces = false) {E : gEn} {σ : gSt} {π : Nat → Nat} {o : Int64} {c0 c1 c2 c9 v : cSt} {x y : Int32} {B sv : Nat} (hs : c9 0 5 = nI sv) (hle : sv ≤ 6) (hπ : ∀ k, k < 6 → 3 ≤ π k ∧ π k < 9) (hS : SRL B c0 v) {how h d : Nat} (hhow : how < 12) (hh : h < 24) (hd : d < 16) {p : Program} {e : Env} {s : State} {m : MethodId} {args : Array Value} {below : List Frame} {meth : Method} {cd : Code} (C : gCx p s m cd cL_doves 12 RL wsL_doves args E (gA E) ({ frames := 9, cells := 3, slots := 18, locals := 194 } : Room) 0 0) (hZ : gZ E (gA E) s) (hrt : meth.sig.returnType = (some .boolean)) (hlk : meth.locks = false) : G p l e ({ frames := 9, cells := 3, slots := 18, locals := 194 } : Room) s m args below meth cd 12 0 0 (gA E) (gQP below args s E o (BigL B) 3 18) E (gL σ c0 c1 c2 c9 v) π o 350 [some (.ref (E.2.1 9 0)), some (.int x), some (.int y), some (.ref (E.2.1 10 0)), some (.ref (E.2.1 10 1)), some (.ref (E.2.1 10 2)), some (.int (nI how)), some (.int (nI h)), some (.int (nI d)), none, none, none] [] := by
  have hl : 10 ≤ 10 := Nat.le_refl 10
  have hv : ∀ j, j < 4 → gV E 10 j := fun j hj => gV_d hj
  refine G.ild6 C dL_doves_350 ?_
  refine G.bipush C 8 dL_doves_352 (by decide) ?_
  refine G.icmp_ge C 548 dL_doves_354 (by decide) (fun h354 => ?_) (fun h354 => ?_)
  · refine G.ild6 C dL_doves_548 ?_
    refine G.bipush C 10 dL_doves_550 (by decide) ?_
    refine G.icmp_ge C 627 dL_doves_552 (by decide) (fun h552 => ?_) (fun h552 => ?_)
    · exact k_L_doves_627 l hst hs hle hπ hS hh (by rw [show (10 : Int32) = nI 10 from rfl, nI_leI (by omega) (by omega)] at h552; exact h552) hhow C hZ hrt hlk
    · refine G.ildn2 C dL_doves_555 ?_
      refine G.bipush C 24 dL_doves_556 (by decide) ?_
      refine G.callSI2 C (k_L_low l (N := 24) (by omega) (by omega)) (va_cwS 2 C.1.2.2.2.2 gL_doves_L_low rfl rfl rfl (by decide +kernel) ⟨Nat.le_of_ble_eq_true rfl, Nat.le_of_ble_eq_true rfl⟩) (Nat.le_of_ble_eq_true rfl) dL_doves_558 ?_
      have hh2 := lLow_lt (x := y) (N := 24) (by omega)
      generalize lLow (y) 24 = h2 at hh2 ⊢
      refine G.ist7 C dL_doves_561 (by omega) rfl ?_
      refine G.aldn3 C dL_doves_563 ?_
      refine G.ald4 C dL_doves_564 ?_
      refine G.ild7 C dL_doves_566 ?_
      refine G.callSI3 C (TLI (k_L_sits l hl hv)) (va_cwS 3 C.1.2.2.2.2 gL_doves_L_sits rfl rfl rfl (by decide +kernel) ⟨Nat.le_of_ble_eq_true rfl, Nat.le_of_ble_eq_true rfl⟩) (Nat.le_of_ble_eq_true rfl) dL_doves_568 ?_
      refine G.if_ge C 586 dL_doves_571 (by decide) (fun h571 => ?_) (fun h571 => ?_)
      · exact k_L_doves_586 l hst hs hle hπ hS hh2 (fun w => absurd h571 (Int32.not_le.mpr ((whyShut_iff hS hh2).mp w).1)) C hZ hrt hlk
      · refine G.aldn3 C dL_doves_574 ?_
        refine G.iconst C 1 dL_doves_575 (by decide) ?_
        refine G.ialdL C (n := 13) (j := 0) (d0 := 1) (gN_l hl rfl) (hv _ (by omega)) (by unfold vp_in; decide) (by decide) dL_doves_576 ?_
        refine G.ild7 C dL_doves_577 ?_
        refine G.ishr C dL_doves_579 ?_
        refine G.iconst C 1 dL_doves_580 (by decide) ?_
        refine G.iand C dL_doves_581 ?_
        refine G.topI (bI (lBit (v 0 1) h2)) (lBit_sh (by omega)) ?_
        refine G.iconst C 1 dL_doves_582 (by decide) ?_
        refine G.icmp_ne C 614 dL_doves_583 (by decide) (fun h583 => ?_) (fun h583 => ?_)
        · exact k_L_doves_614 l hst hs hle hπ hS hh2 ((whyShut_iff hS hh2).mpr ⟨Int32.not_le.mp h571, by cases hq : lBit (v 0 1) h2; rfl; exact absurd (by rw [hq]; rfl) h583⟩) (by rw [show (10 : Int32) = nI 10 from rfl, nI_leI (by omega) (by omega)] at h552; omega) C hZ hrt hlk
        · exact k_L_doves_586 l hst hs hle hπ hS hh2 (fun w => by have := ((whyShut_iff hS hh2).mp w).2; rw [bI_1.mp h583] at this; cases this) C hZ hrt hlk
  · refine G.ildn2 C dL_doves_357 ?_
    refine G.bipush C 9 dL_doves_358 (by decide) ?_
    refine G.ishr C dL_doves_360 ?_
    refine G.bipush C 16 dL_doves_361 (by decide) ?_
    refine G.callSI2 C (k_L_low l (N := 16) (by omega) (by omega)) (va_cwS 2 C.1.2.2.2.2 gL_doves_L_low rfl rfl rfl (by decide +kernel) ⟨Nat.le_of_ble_eq_true rfl, Nat.le_of_ble_eq_true rfl⟩) (Nat.le_of_ble_eq_true rfl) dL_doves_363 ?_
    have he := lLow_lt (x := y >>> (9 &&& 31)) (N := 16) (by omega)
    generalize lLow (y >>> (9 &&& 31)) 16 = e2 at he ⊢
    refine G.ist9 C dL_doves_366 (by omega) rfl ?_
    refine G.aldn3 C dL_doves_368 ?_
    refine G.ild8 C dL_doves_369 ?_
    refine G.callSI2 C (TLI (k_L_is l hl hv (by omega))) (va_cwS 2 C.1.2.2.2.2 gL_doves_L_is rfl rfl rfl (by decide +kernel) ⟨Nat.le_of_ble_eq_true rfl, Nat.le_of_ble_eq_true rfl⟩) (Nat.le_of_ble_eq_true rfl) dL_doves_371 ?_
    refine G.if_eqB C 386 dL_doves_374 (by decide) (fun h374 => ?_) (fun h374 => ?_)
    · refine G.aldn0 C dL_doves_386 ?_
      refine G.ild8 C dL_doves_387 ?_
      refine G.ild9 C dL_doves_389 ?_
      refine G.callH3 C hZ (k_L_mate_t1 l hst (by rw [← hS.exs d hd]; exact h374)) (vx_cwSW 3 C.1.2.2.2.2 gL_doves_L_mate rfl rfl rfl (by decide +kernel) ⟨(Nat.le_of_ble_eq_true rfl), (Nat.le_of_ble_eq_true rfl)⟩) (Nat.le_of_ble_eq_true rfl) dL_doves_391 ⟨by show _ ≤ (3 : Nat); omega, by show _ ≤ (18 : Nat); omega⟩ (fun C => ?_)
      refine G.topI ((-31)) rfl ?_
      refine G.bipush C (-31) dL_doves_394 (by decide) ?_
      refine G.icmp_ne C 403 dL_doves_396 (by decide) (fun h => absurd rfl h) (fun _ => ?_)
      refine G.iconst C 1 dL_doves_399 (by decide) ?_
      refine G.goto C 404 dL_doves_400 (by decide) ?_
      exact G.pret C (by omega) (by omega) hlk hrt dL_doves_404 rfl (BigL.mk hs hle hπ hS)
    · refine G.aldn3 C dL_doves_377 ?_
      refine G.ild9 C dL_doves_378 ?_
      refine G.callSI2 C (TLI (k_L_is l hl hv (by omega))) (va_cwS 2 C.1.2.2.2.2 gL_doves_L_is rfl rfl rfl (by decide +kernel) ⟨Nat.le_of_ble_eq_true rfl, Nat.le_of_ble_eq_true rfl⟩) (Nat.le_of_ble_eq_true rfl) dL_doves_380 ?_
      refine G.if_neB C 405 dL_doves_383 (by decide) (fun h383 => ?_) (fun h383 => ?_)
      · refine G.ild8 C dL_doves_405 ?_
        refine G.ild9 C dL_doves_407 ?_
        refine G.icmp_eq C 436 dL_doves_409 (by decide) (fun h409 => ?_) (fun h409 => ?_)
        · exact k_L_doves_436 l hst hs hle hπ hS hd he (by rw [← hS.exs d hd]; exact h374) (by rw [← hS.exs e2 he]; exact h383) (fun w => ((whyPair_iff hS hd he (by rw [← hS.exs d hd]; exact h374) (by rw [← hS.exs e2 he]; exact h383)).mp w).1 (nI_inj (by omega) (by omega) h409)) C hZ hrt hlk
        · refine G.ald4 C dL_doves_412 ?_
          refine G.iconst C 4 dL_doves_414 (by decide) ?_
          refine G.ild8 C dL_doves_415 ?_
          refine G.imul C dL_doves_417 ?_
          refine G.topI (nI (4 * d)) (pk_mul _ _) ?_
          refine G.iconst C 3 dL_doves_418 (by decide) ?_
          refine G.iadd C dL_doves_419 ?_
          refine G.topI (nI ((4 * d) + 3)) (nI_add _ _) ?_
          refine G.ialdL C (n := 64) (j := 1) (d0 := ((4 * d) + 3)) (gN_l hl rfl) (hv _ (by omega)) (by first | assumption | exact vp_in_nI (by omega) (by omega) | (unfold vp_in; decide)) (ix_nI (by omega)) dL_doves_420 ?_
          refine G.if_ge C 436 dL_doves_421 (by decide) (fun h421 => ?_) (fun h421 => ?_)
          · exact k_L_doves_436 l hst hs hle hπ hS hd he (by rw [← hS.exs d hd]; exact h374) (by rw [← hS.exs e2 he]; exact h383) (fun w => absurd h421 (Int32.not_le.mpr ((whyPair_iff hS hd he (by rw [← hS.exs d hd]; exact h374) (by rw [← hS.exs e2 he]; exact h383)).mp w).2.1)) C hZ hrt hlk
          · refine G.ald4 C dL_doves_424 ?_
            refine G.iconst C 4 dL_doves_426 (by decide) ?_
            refine G.ild9 C dL_doves_427 ?_
            refine G.imul C dL_doves_429 ?_
            refine G.topI (nI (4 * e2)) (pk_mul _ _) ?_
            refine G.iconst C 3 dL_doves_430 (by decide) ?_
            refine G.iadd C dL_doves_431 ?_
            refine G.topI (nI ((4 * e2) + 3)) (nI_add _ _) ?_
            refine G.ialdL C (n := 64) (j := 1) (d0 := ((4 * e2) + 3)) (gN_l hl rfl) (hv _ (by omega)) (by first | assumption | exact vp_in_nI (by omega) (by omega) | (unfold vp_in; decide)) (ix_nI (by omega)) dL_doves_432 ?_
            refine G.if_lt C 455 dL_doves_433 (by decide) (fun h433 => ?_) (fun h433 => ?_)
            · exact k_L_doves_455 l hst hs hle hπ hS hd he (by rw [← hS.exs d hd]; exact h374) (by rw [← hS.exs e2 he]; exact h383) ((whyPair_iff hS hd he (by rw [← hS.exs d hd]; exact h374) (by rw [← hS.exs e2 he]; exact h383)).mpr ⟨fun w => h409 (by rw [w]), Int32.not_le.mp h421, h433⟩) C hZ hrt hlk
            · exact k_L_doves_436 l hst hs hle hπ hS hd he (by rw [← hS.exs d hd]; exact h374) (by rw [← hS.exs e2 he]; exact h383) (fun w => h433 ((whyPair_iff hS hd he (by rw [← hS.exs d hd]; exact h374) (by rw [← hS.exs e2 he]; exact h383)).mp w).2.2) C hZ hrt hlk
      · refine G.aldn0 C dL_doves_386 ?_
        refine G.ild8 C dL_doves_387 ?_
        refine G.ild9 C dL_doves_389 ?_
        refine G.callH3 C hZ (k_L_mate_t2 l hst (by rw [← hS.exs d hd]; exact h374) (by rw [← hS.exs e2 he]; exact h383)) (vx_cwSW 3 C.1.2.2.2.2 gL_doves_L_mate rfl rfl rfl (by decide +kernel) ⟨(Nat.le_of_ble_eq_true rfl), (Nat.le_of_ble_eq_true rfl)⟩) (Nat.le_of_ble_eq_true rfl) dL_doves_391 ⟨by show _ ≤ (3 : Nat); omega, by show _ ≤ (18 : Nat); omega⟩ (fun C => ?_)
        refine G.topI ((-31)) rfl ?_
        refine G.bipush C (-31) dL_doves_394 (by decide) ?_
        refine G.icmp_ne C 403 dL_doves_396 (by decide) (fun h => absurd rfl h) (fun _ => ?_)
        refine G.iconst C 1 dL_doves_399 (by decide) ?_
        refine G.goto C 404 dL_doves_400 (by decide) ?_
        exact G.pret C (by omega) (by omega) hlk hrt dL_doves_404 rfl (BigL.mk hs hle hπ hS)
set_option maxRecDepth 100000 in
set_option maxHeartbeats 8000000 in
theorem k_L_doves_28 (l : Launch) (hst : l.stackTraces = false) {E : gEn} {σ : gSt} {π : Nat → Nat} {o : Int64} {c0 c1 c2 c9 v : cSt} {x y : Int32} {B sv : Nat} (hs : c9 0 5 = nI sv) (hle : sv ≤ 6) (hπ : ∀ k, k < 6 → 3 ≤ π k ∧ π k < 9) (hS : SRL B c0 v) {how h : Nat} (hhow : how < 12) (hh : h < 24) {p : Program} {e : Env} {s : State} {m : MethodId} {args : Array Value} {below : List Frame} {meth : Method} {cd : Code} (C : gCx p s m cd cL_doves 12 RL wsL_doves args E (gA E) ({ frames := 9, cells := 3, slots := 18, locals := 194 } : Room) 0 0) (hZ : gZ E (gA E) s) (hrt : meth.sig.returnType = (some .boolean)) (hlk : meth.locks = false) : G p l e ({ frames := 9, cells := 3, slots := 18, locals := 194 } : Room) s m args below meth cd 12 0 0 (gA E) (gQP below args s E o (BigL B) 3 18) E (gL σ c0 c1 c2 c9 v) π o 28 [some (.ref (E.2.1 9 0)), some (.int x), some (.int y), some (.ref (E.2.1 10 0)), some (.ref (E.2.1 10 1)), some (.ref (E.2.1 10 2)), some (.int (nI how)), none, none, none, none, none] [.int (nI h)] := by
  have hl : 10 ≤ 10 := Nat.le_refl 10
  have hv : ∀ j, j < 4 → gV E 10 j := fun j hj => gV_d hj
  refine G.ist7 C dL_doves_28 (by omega) rfl ?_
  refine G.ild6 C dL_doves_30 ?_
  refine G.iconst C 5 dL_doves_32 (by decide) ?_
  refine G.icmp_ge C 236 dL_doves_33 (by decide) (fun h33 => ?_) (fun h33 => ?_)
  · refine G.ildn2 C dL_doves_236 ?_
    refine G.iconst C 5 dL_doves_237 (by decide) ?_
    refine G.ishr C dL_doves_238 ?_
    refine G.bipush C 16 dL_doves_239 (by decide) ?_
    refine G.callSI2 C (k_L_low l (N := 16) (by omega) (by omega)) (va_cwS 2 C.1.2.2.2.2 gL_doves_L_low rfl rfl rfl (by decide +kernel) ⟨Nat.le_of_ble_eq_true rfl, Nat.le_of_ble_eq_true rfl⟩) (Nat.le_of_ble_eq_true rfl) dL_doves_241 ?_
    have hd := lLow_lt (x := y >>> (5 &&& 31)) (N := 16) (by omega)
    generalize lLow (y >>> (5 &&& 31)) 16 = d at hd ⊢
    refine G.ist8 C dL_doves_244 (by omega) rfl ?_
    refine G.ild6 C dL_doves_246 ?_
    refine G.iconst C 5 dL_doves_248 (by decide) ?_
    refine G.icmp_ne C 350 dL_doves_249 (by decide) (fun h249 => ?_) (fun h249 => ?_)
    · exact k_L_doves_350 l hst hs hle hπ hS hhow hh hd C hZ hrt hlk
    · refine G.ildn2 C dL_doves_252 ?_
      refine G.bipush C 9 dL_doves_253 (by decide) ?_
      refine G.ishr C dL_doves_255 ?_
      refine G.iconst C 1 dL_doves_256 (by decide) ?_
      refine G.iand C dL_doves_257 ?_
      refine G.if_ne C 350 dL_doves_258 (by decide) (fun h258 => ?_) (fun h258 => ?_)
      · exact k_L_doves_350 l hst hs hle hπ hS hhow hh hd C hZ hrt hlk
      · refine G.aldn3 C dL_doves_261 ?_
        refine G.ild8 C dL_doves_262 ?_
        refine G.callSI2 C (TLI (k_L_is l hl hv (by omega))) (va_cwS 2 C.1.2.2.2.2 gL_doves_L_is rfl rfl rfl (by decide +kernel) ⟨Nat.le_of_ble_eq_true rfl, Nat.le_of_ble_eq_true rfl⟩) (Nat.le_of_ble_eq_true rfl) dL_doves_264 ?_
        refine G.if_neB C 287 dL_doves_267 (by decide) (fun h267 => ?_) (fun h267 => ?_)
        · refine G.aldn3 C dL_doves_287 ?_
          refine G.iconst C 0 dL_doves_288 (by decide) ?_
          refine G.dup2 C dL_doves_289 rfl rfl ?_
          refine G.ialdL C (n := 13) (j := 0) (d0 := 0) (gN_l hl rfl) (hv _ (by omega)) (by unfold vp_in; decide) (by decide) dL_doves_290 ?_
          refine G.iconst C 1 dL_doves_291 (by decide) ?_
          refine G.ild8 C dL_doves_292 ?_
          refine G.ishl C dL_doves_294 ?_
          refine G.ixor C dL_doves_295 ?_
          refine G.iastL C (n := 13) (j := 0) (d0 := 0) (gN_l hl rfl) (hv _ (by omega)) (by unfold vp_in; decide) (by decide) dL_doves_296 ?_
          refine G.ald4 C dL_doves_297 ?_
          refine G.iconst C 4 dL_doves_299 (by decide) ?_
          refine G.ild8 C dL_doves_300 ?_
          refine G.imul C dL_doves_302 ?_
          refine G.topI (nI (4 * d)) (pk_mul _ _) ?_
          refine G.iconst C 3 dL_doves_303 (by decide) ?_
          refine G.iadd C dL_doves_304 ?_
          refine G.topI (nI ((4 * d) + 3)) (nI_add _ _) ?_
          refine G.ialdL C (n := 64) (j := 1) (d0 := ((4 * d) + 3)) (gN_l hl rfl) (hv _ (by omega)) (by first | assumption | exact vp_in_nI (by omega) (by omega) | (unfold vp_in; decide)) (ix_nI (by omega)) dL_doves_305 ?_
          refine G.topI (v 1 (4 * d + 3)) rfl ?_
          refine G.if_lt C 326 dL_doves_306 (by decide) (fun h306 => ?_) (fun h306 => ?_)
          · rw [show cW v 0 0 (v 0 0 ^^^ ((1 : Int32) <<< (nI d &&& 31))) = lSel v d by rw [lSel, if_pos h306]]
            refine G.aldn0 C dL_doves_326 ?_
            refine G.ild8 C dL_doves_327 ?_
            refine G.callH2 C hZ (k_L_sell l (by rw [← hS.exs d hd]; exact h267) hs hle hπ) (vx_cwSW 2 C.1.2.2.2.2 gL_doves_L_sell rfl rfl rfl (by decide +kernel) ⟨(Nat.le_of_ble_eq_true rfl), (Nat.le_of_ble_eq_true rfl)⟩) (Nat.le_of_ble_eq_true rfl) dL_doves_329 ⟨by show _ ≤ (3 : Nat); omega, by show _ ≤ (18 : Nat); omega⟩ (fun C => ?_)
            refine G.topI (c0 4 d) (by rw [ix_nI (by omega)]) ?_
            rw [svS_10 (by omega) hπ]
            refine G.ald4 C dL_doves_332 ?_
            refine G.iconst C 4 dL_doves_334 (by decide) ?_
            refine G.ild8 C dL_doves_335 ?_
            refine G.imul C dL_doves_337 ?_
            refine G.topI (nI (4 * d)) (pk_mul _ _) ?_
            refine G.iconst C 2 dL_doves_338 (by decide) ?_
            refine G.iadd C dL_doves_339 ?_
            refine G.topI (nI ((4 * d) + 2)) (nI_add _ _) ?_
            refine G.ialdL C (n := 64) (j := 1) (d0 := ((4 * d) + 2)) (gN_l hl rfl) (hv _ (by omega)) (by first | assumption | exact vp_in_nI (by omega) (by omega) | (unfold vp_in; decide)) (ix_nI (by omega)) dL_doves_340 ?_
            refine G.topI (c0 4 d) (sellL_SR hS hd (cEx_at hd (by rw [← hS.exs d hd]; exact h267))).2 ?_
            refine G.icmp_ne C 348 dL_doves_341 (by decide) (fun h341 => absurd h341 (fun q => q (rfl))) (fun h341 => ?_)
            refine G.iconst C 1 dL_doves_344 (by decide) ?_
            refine G.goto C 349 dL_doves_345 (by decide) ?_
            exact G.pret C (by omega) (by omega) hlk hrt dL_doves_349 rfl (BigL.sv2 hle hπ (sellL_SR hS hd (cEx_at hd (by rw [← hS.exs d hd]; exact h267))).1)
          · obtain ⟨m2, hm2, em⟩ := mate_of hS hd (by rw [← hS.exs d hd]; exact h267) h306
            refine G.ald4 C dL_doves_309 ?_
            refine G.iconst C 4 dL_doves_311 (by decide) ?_
            refine G.ald4 C dL_doves_312 ?_
            refine G.iconst C 4 dL_doves_314 (by decide) ?_
            refine G.ild8 C dL_doves_315 ?_
            refine G.imul C dL_doves_317 ?_
            refine G.topI (nI (4 * d)) (pk_mul _ _) ?_
            refine G.iconst C 3 dL_doves_318 (by decide) ?_
            refine G.iadd C dL_doves_319 ?_
            refine G.topI (nI ((4 * d) + 3)) (nI_add _ _) ?_
            refine G.ialdL C (n := 64) (j := 1) (d0 := ((4 * d) + 3)) (gN_l hl rfl) (hv _ (by omega)) (by first | assumption | exact vp_in_nI (by omega) (by omega) | (unfold vp_in; decide)) (ix_nI (by omega)) dL_doves_320 ?_
            refine G.topI (nI m2) em ?_
            refine G.imul C dL_doves_321 ?_
            refine G.topI (nI (4 * m2)) (pk_mul _ _) ?_
            refine G.iconst C 3 dL_doves_322 (by decide) ?_
            refine G.iadd C dL_doves_323 ?_
            refine G.topI (nI ((4 * m2) + 3)) (nI_add _ _) ?_
            refine G.iconst C (-1) dL_doves_324 (by decide) ?_
            refine G.iastL C (n := 64) (j := 1) (d0 := ((4 * m2) + 3)) (gN_l hl rfl) (hv _ (by omega)) (by first | assumption | exact vp_in_nI (by omega) (by omega) | (unfold vp_in; decide)) (ix_nI (by omega)) dL_doves_325 ?_
            rw [show cW (cW v 0 0 (v 0 0 ^^^ ((1 : Int32) <<< (nI d &&& 31)))) 1 (4 * m2 + 3) (-1) = lSel v d by rw [lSel, if_neg h306, em, ix_nI (by omega)]]
            refine G.aldn0 C dL_doves_326 ?_
            refine G.ild8 C dL_doves_327 ?_
            refine G.callH2 C hZ (k_L_sell l (by rw [← hS.exs d hd]; exact h267) hs hle hπ) (vx_cwSW 2 C.1.2.2.2.2 gL_doves_L_sell rfl rfl rfl (by decide +kernel) ⟨(Nat.le_of_ble_eq_true rfl), (Nat.le_of_ble_eq_true rfl)⟩) (Nat.le_of_ble_eq_true rfl) dL_doves_329 ⟨by show _ ≤ (3 : Nat); omega, by show _ ≤ (18 : Nat); omega⟩ (fun C => ?_)
            refine G.topI (c0 4 d) (by rw [ix_nI (by omega)]) ?_
            rw [svS_10 (by omega) hπ]
            refine G.ald4 C dL_doves_332 ?_
            refine G.iconst C 4 dL_doves_334 (by decide) ?_
            refine G.ild8 C dL_doves_335 ?_
            refine G.imul C dL_doves_337 ?_
            refine G.topI (nI (4 * d)) (pk_mul _ _) ?_
            refine G.iconst C 2 dL_doves_338 (by decide) ?_
            refine G.iadd C dL_doves_339 ?_
            refine G.topI (nI ((4 * d) + 2)) (nI_add _ _) ?_
            refine G.ialdL C (n := 64) (j := 1) (d0 := ((4 * d) + 2)) (gN_l hl rfl) (hv _ (by omega)) (by first | assumption | exact vp_in_nI (by omega) (by omega) | (unfold vp_in; decide)) (ix_nI (by omega)) dL_doves_340 ?_
            refine G.topI (c0 4 d) (sellL_SR hS hd (cEx_at hd (by rw [← hS.exs d hd]; exact h267))).2 ?_
            refine G.icmp_ne C 348 dL_doves_341 (by decide) (fun h341 => absurd h341 (fun q => q (rfl))) (fun h341 => ?_)
            refine G.iconst C 1 dL_doves_344 (by decide) ?_
            refine G.goto C 349 dL_doves_345 (by decide) ?_
            exact G.pret C (by omega) (by omega) hlk hrt dL_doves_349 rfl (BigL.sv2 hle hπ (sellL_SR hS hd (cEx_at hd (by rw [← hS.exs d hd]; exact h267))).1)
        · refine G.aldn0 C dL_doves_270 ?_
          refine G.ild8 C dL_doves_271 ?_
          refine G.callH2 C hZ (k_L_sell_t l hst (by rw [← hS.exs d hd]; exact h267)) (vx_cwSW 2 C.1.2.2.2.2 gL_doves_L_sell rfl rfl rfl (by decide +kernel) ⟨(Nat.le_of_ble_eq_true rfl), (Nat.le_of_ble_eq_true rfl)⟩) (Nat.le_of_ble_eq_true rfl) dL_doves_273 ⟨by show _ ≤ (3 : Nat); omega, by show _ ≤ (18 : Nat); omega⟩ (fun C => ?_)
          refine G.topI ((-31)) rfl ?_
          refine G.bipush C (-31) dL_doves_276 (by decide) ?_
          refine G.icmp_ne C 285 dL_doves_278 (by decide) (fun h => absurd rfl h) (fun _ => ?_)
          refine G.iconst C 1 dL_doves_281 (by decide) ?_
          refine G.goto C 286 dL_doves_282 (by decide) ?_
          exact G.pret C (by omega) (by omega) hlk hrt dL_doves_286 rfl (BigL.mk hs hle hπ hS)
  · refine G.iconst C 1 dL_doves_36 (by decide) ?_
    refine G.ildn2 C dL_doves_37 ?_
    refine G.iconst C 5 dL_doves_38 (by decide) ?_
    refine G.ishr C dL_doves_39 ?_
    refine G.bipush C 9 dL_doves_40 (by decide) ?_
    refine G.callSI2 C (k_L_low l (N := 9) (by omega) (by omega)) (va_cwS 2 C.1.2.2.2.2 gL_doves_L_low rfl rfl rfl (by decide +kernel) ⟨Nat.le_of_ble_eq_true rfl, Nat.le_of_ble_eq_true rfl⟩) (Nat.le_of_ble_eq_true rfl) dL_doves_42 ?_
    have hst9 := lLow_lt (x := y >>> (5 &&& 31)) (N := 9) (by omega)
    generalize lLow (y >>> (5 &&& 31)) 9 = st at hst9 ⊢
    refine G.iadd C dL_doves_45 ?_
    refine G.topI (nI (1 + st)) (nI_add _ _) ?_
    refine G.ist8 C dL_doves_46 (by omega) rfl ?_
    refine G.aldn3 C dL_doves_48 ?_
    refine G.iconst C 0 dL_doves_49 (by decide) ?_
    refine G.ialdL C (n := 13) (j := 0) (d0 := 0) (gN_l hl rfl) (hv _ (by omega)) (by unfold vp_in; decide) (by decide) dL_doves_50 ?_
    refine G.ldc C (v := 65535) (C.1.2.2.2.2 (.constant RL 127 65535) (by decide +kernel)) dL_doves_51 ?_
    refine G.icmp_eq C 79 dL_doves_53 (by decide) (fun h53 => ?_) (fun h53 => ?_)
    · exact k_L_doves_79 l hst hs hle hπ hS hh (by omega) (by omega) (fun w => (full_iff hS).mp h53 ((whyBuy_iff hS hh).mp w).1) C hZ hrt hlk
    · refine G.aldn3 C dL_doves_56 ?_
      refine G.ald4 C dL_doves_57 ?_
      refine G.ild7 C dL_doves_59 ?_
      refine G.callSI3 C (TLI (k_L_owner l hl hv)) (va_cwS 3 C.1.2.2.2.2 gL_doves_L_owner rfl rfl rfl (by decide +kernel) ⟨Nat.le_of_ble_eq_true rfl, Nat.le_of_ble_eq_true rfl⟩) (Nat.le_of_ble_eq_true rfl) dL_doves_61 ?_
      refine G.if_ge C 79 dL_doves_64 (by decide) (fun h64 => ?_) (fun h64 => ?_)
      · exact k_L_doves_79 l hst hs hle hπ hS hh (by omega) (by omega) (fun w => absurd h64 (Int32.not_le.mpr ((whyBuy_iff hS hh).mp w).2.1)) C hZ hrt hlk
      · refine G.aldn3 C dL_doves_67 ?_
        refine G.iconst C 1 dL_doves_68 (by decide) ?_
        refine G.ialdL C (n := 13) (j := 0) (d0 := 1) (gN_l hl rfl) (hv _ (by omega)) (by unfold vp_in; decide) (by decide) dL_doves_69 ?_
        refine G.ild7 C dL_doves_70 ?_
        refine G.ishr C dL_doves_72 ?_
        refine G.iconst C 1 dL_doves_73 (by decide) ?_
        refine G.iand C dL_doves_74 ?_
        refine G.topI (bI (lBit (v 0 1) h)) (lBit_sh (by omega)) ?_
        refine G.iconst C 1 dL_doves_75 (by decide) ?_
        refine G.icmp_ne C 123 dL_doves_76 (by decide) (fun h76 => ?_) (fun h76 => ?_)
        · refine G.iconst C 0 dL_doves_123 (by decide) ?_
          refine G.ist9 C dL_doves_124 (by omega) rfl ?_
          exact k_L_doves_126 l hst hs hle hπ hS hh (by omega) (by omega) ((whyBuy_iff hS hh).mpr ⟨Classical.byContradiction (fun w => h53 ((full_iff hS).mpr w)), Int32.not_le.mp h64, by cases hq : lBit (v 0 1) h; rfl; exact absurd (by rw [hq]; rfl) h76⟩) C hZ hrt hlk
        · exact k_L_doves_79 l hst hs hle hπ hS hh (by omega) (by omega) (fun w => by have := ((whyBuy_iff hS hh).mp w).2.2; rw [bI_1.mp h76] at this; cases this) C hZ hrt hlk
set_option maxRecDepth 100000 in
set_option maxHeartbeats 8000000 in
theorem k_L_doves (l : Launch) (hst : l.stackTraces = false) {E : gEn} {σ : gSt} {π : Nat → Nat} {o : Int64} {c0 c1 c2 c9 v : cSt} {x y : Int32} {B sv : Nat} (hs : c9 0 5 = nI sv) (hle : sv ≤ 6) (hπ : ∀ k, k < 6 → 3 ≤ π k ∧ π k < 9) (hS : SRL B c0 v)  : CtP l yL_doves wsL_doves ({ frames := 9, cells := 3, slots := 18, locals := 194 } : Room) E [.ref (E.2.1 9 0), .int x, .int y, .ref (E.2.1 10 0), .ref (E.2.1 10 1), .ref (E.2.1 10 2)] (gL σ c0 c1 c2 c9 v) π o (BigL B) 3 18 := by
  refine CtP.of (cc := cL_doves) (own := RL) (maxL := 12) (ret := (some .boolean)) [some (.ref (E.2.1 9 0)), some (.int x), some (.int y), some (.ref (E.2.1 10 0)), some (.ref (E.2.1 10 1)), some (.ref (E.2.1 10 2)), none, none, none, none, none, none] (by decide) rfl rfl (Nat.le_of_ble_eq_true rfl) rfl ?_
  intro p e s m args below meth cd C hZ hrt hlk
  have hl : 10 ≤ 10 := Nat.le_refl 10
  have hv : ∀ j, j < 4 → gV E 10 j := fun j hj => gV_d hj
  refine G.ildn1 C dL_doves_0 ?_
  refine G.bipush C 12 dL_doves_1 (by decide) ?_
  refine G.callSI2 C (k_L_low l (N := 12) (by omega) (by omega)) (va_cwS 2 C.1.2.2.2.2 gL_doves_L_low rfl rfl rfl (by decide +kernel) ⟨Nat.le_of_ble_eq_true rfl, Nat.le_of_ble_eq_true rfl⟩) (Nat.le_of_ble_eq_true rfl) dL_doves_3 ?_
  have hhow := lLow_lt (x := x) (N := 12) (by omega)
  generalize lLow (x) 12 = how at hhow ⊢
  refine G.ist6 C dL_doves_6 (by omega) rfl ?_
  refine G.ildn2 C dL_doves_8 ?_
  refine G.ildn2 C dL_doves_9 ?_
  refine G.bipush C 20 dL_doves_10 (by decide) ?_
  refine G.ishr C dL_doves_12 ?_
  refine G.iconst C 1 dL_doves_13 (by decide) ?_
  refine G.iand C dL_doves_14 ?_
  refine G.if_ne C 23 dL_doves_15 (by decide) (fun h15 => ?_) (fun h15 => ?_)
  · refine G.bipush C 24 dL_doves_23 (by decide) ?_
    refine G.callSI2 C (k_L_low l (N := 24) (by omega) (by omega)) (va_cwS 2 C.1.2.2.2.2 gL_doves_L_low rfl rfl rfl (by decide +kernel) ⟨Nat.le_of_ble_eq_true rfl, Nat.le_of_ble_eq_true rfl⟩) (Nat.le_of_ble_eq_true rfl) dL_doves_25 ?_
    have hh := lLow_lt (x := y) (N := 24) (by omega)
    generalize lLow (y) 24 = h at hh ⊢
    exact k_L_doves_28 l hst hs hle hπ hS hhow (by omega) C hZ hrt hlk
  · refine G.bipush C 10 dL_doves_18 (by decide) ?_
    refine G.goto C 25 dL_doves_20 (by decide) ?_
    refine G.callSI2 C (k_L_low l (N := 10) (by omega) (by omega)) (va_cwS 2 C.1.2.2.2.2 gL_doves_L_low rfl rfl rfl (by decide +kernel) ⟨Nat.le_of_ble_eq_true rfl, Nat.le_of_ble_eq_true rfl⟩) (Nat.le_of_ble_eq_true rfl) dL_doves_25 ?_
    have hh := lLow_lt (x := y) (N := 10) (by omega)
    generalize lLow (y) 10 = h at hh ⊢
    exact k_L_doves_28 l hst hs hle hπ hS hhow (by omega) C hZ hrt hlk
