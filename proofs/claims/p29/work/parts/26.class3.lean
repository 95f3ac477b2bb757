/-! saving a state -/
theorem gTS {σ : gSt} {c0 c1 c2 c9 c : cSt} {i : Nat} (h3 : 3 ≤ i) (h9 : i < 9) : gU (gT σ c0 c1 c2 c9) i c = gT (gU σ i c) c0 c1 c2 c9 := by
  unfold gT
  rw [gU_comm _ (show (9 : Nat) ≠ i by omega), gU_comm _ (show (2 : Nat) ≠ i by omega), gU_comm _ (show (1 : Nat) ≠ i by omega), gU_comm _ (show (0 : Nat) ≠ i by omega)]
theorem gT_s {σ : gSt} {c0 c1 c2 c9 : cSt} {i : Nat} (h3 : 3 ≤ i) (h9 : i < 9) : gT σ c0 c1 c2 c9 i = σ i := by
  unfold gT
  rw [gU_ne (by omega), gU_ne (by omega), gU_ne (by omega), gU_ne (by omega)]
theorem k_cpS (l : Launch) {E : gEn} {σ : gSt} {π : Nat → Nat} {o : Int64} {c0 c1 c2 c9 : cSt} {i : Nat} (h3 : 3 ≤ i) (h9 : i < 9) : CtV l yX0_copyFrom wsX0_copyFrom ({ frames := 2, cells := 0, slots := 0, locals := 39 } : Room) E [.ref (E.2.1 i 0), .ref (E.2.1 0 0)] (gT σ c0 c1 c2 c9) π o (gT (gU σ i c0) c0 c1 c2 c9) π o := by
  have h := k_X0_copyFrom l (E := E) (σ := gT σ c0 c1 c2 c9) (π := π) (o := o) (i := i) (i2 := 0) h9 (by omega) (by omega) (c := gT σ c0 c1 c2 c9 i)
  rw [gU_eta, gT_0, gTS h3 h9] at h
  exact h
theorem k_cpU (l : Launch) {E : gEn} {σ : gSt} {π : Nat → Nat} {o : Int64} {c0 c1 c2 c9 : cSt} {i : Nat} (h3 : 3 ≤ i) (h9 : i < 9) : CtV l yX0_copyFrom wsX0_copyFrom ({ frames := 2, cells := 0, slots := 0, locals := 39 } : Room) E [.ref (E.2.1 0 0), .ref (E.2.1 i 0)] (gT σ c0 c1 c2 c9) π o (gT σ (σ i) c1 c2 c9) π o := by
  have h := k_X0_copyFrom l (E := E) (σ := gT σ c0 c1 c2 c9) (π := π) (o := o) (i := 0) (i2 := i) (by omega) h9 (by omega) (c := c0)
  rw [gT_s h3 h9, gT0, gT0] at h
  exact h
/-- the oldest one goes to the end -/
def shP (π : Nat → Nat) (k : Nat) : Nat → Nat := fun q => if q + 1 < k then π (q + 1) else π q
def rot (π : Nat → Nat) : Nat → Nat := upN (shP π 6) 5 (π 0)
theorem shP_1 {π : Nat → Nat} : shP π 1 = π := funext fun q => if_neg (by omega)
theorem shP_k {π : Nat → Nat} {k : Nat} : shP π k k = π k := if_neg (by omega)
theorem shP_s {π : Nat → Nat} {k : Nat} (hk : 1 ≤ k) : upN (shP π k) (k - 1) (shP π k k) = shP π (k + 1) := by
  funext q
  unfold upN
  rw [shP_k]
  by_cases h : q = k - 1
  · rw [if_pos h]
    unfold shP
    rw [if_pos (by omega)]
    congr 1
    omega
  · rw [if_neg h]
    unfold shP
    by_cases h2 : q + 1 < k
    · rw [if_pos h2, if_pos (by omega)]
    · rw [if_neg h2, if_neg (by omega)]
def svS (σ : gSt) (π : Nat → Nat) (sv : Nat) (c0 : cSt) : gSt := gU σ (π (if sv < 6 then sv else 0)) c0
def svP (π : Nat → Nat) (sv : Nat) : Nat → Nat := if sv < 6 then π else rot π
def sv9 (c9 : cSt) (sv : Nat) : cSt := if sv < 6 then cW c9 0 5 (nI (sv + 1)) else cW (cW c9 0 5 5) 0 5 6
theorem nI_p {k : Nat} (h : 1 ≤ k) : nI k - 1 = nI (k - 1) := by
  obtain ⟨j, rfl⟩ : ∃ j, k = j + 1 := ⟨k - 1, by omega⟩
  rw [show (1 : Int32) = nI 1 from rfl, pk_sub (by omega)]
set_option maxRecDepth 100000 in
set_option maxHeartbeats 4000000 in
theorem k_X3_save_lo (l : Launch) {E : gEn} {σ : gSt} {π : Nat → Nat} {o : Int64} {c0 c1 c2 c9 : cSt} {sv : Nat} (hs : c9 0 5 = nI sv) (hle : sv < 6) (hπ : ∀ k, k < 6 → 3 ≤ π k ∧ π k < 9) : CtV l yX3_save wsX3_save ({ frames := 3, cells := 0, slots := 0, locals := 61 } : Room) E [.ref (E.2.1 9 0)] (gT σ c0 c1 c2 c9) π o  (gT (gU σ (π sv) c0) c0 c1 c2 (cW c9 0 5 (nI (sv + 1)))) π o := by
  refine CtV.of (cc := cX3_save) (own := RX3) (maxL := 3) (ret := none) [some (.ref (E.2.1 9 0)), none, none] (by decide) rfl rfl (Nat.le_of_ble_eq_true rfl) rfl ?_
  intro p e s m args below meth cd C hrt hlk
  have hinX0 : ∀ w ∈ wsX00, w ∈ wsX3_save := by decide +kernel
  have hinX2 : ∀ w ∈ wsX20, w ∈ wsX3_save := by decide +kernel
  have hinX3 : ∀ w ∈ wsX30, w ∈ wsX3_save := by decide +kernel
  refine G.aldn0 C dX3_save_0 ?_
  refine G.getMT C hinX3 5 (by decide) rfl (C.1.2.2.2.2 (.fieldLink RX3 30 RX3 "savedCount" "I") (by decide +kernel)) rfl dX3_save_1 ?_
  refine G.topI (nI sv) hs ?_
  refine G.bipush C 6 dX3_save_4 (by decide) ?_
  refine G.icmp_lt C 56 dX3_save_6 (by decide) (fun h6 => ?_) (fun h6 => absurd (nI_lt (b := 6) hle (by omega)) h6)
  refine G.aldn0 C dX3_save_56 ?_
  refine G.getMT C hinX3 4 (by decide) rfl (C.1.2.2.2.2 (.fieldLink RX3 26 RX3 "saved" "[LLateDoves$Cote;") (by decide +kernel)) rfl dX3_save_57 ?_
  refine G.aldn0 C dX3_save_60 ?_
  refine G.getMT C hinX3 5 (by decide) rfl (C.1.2.2.2.2 (.fieldLink RX3 30 RX3 "savedCount" "I") (by decide +kernel)) rfl dX3_save_61 ?_
  refine G.topI (nI sv) hs ?_
  refine G.aaldS C (sv) (vp_in_nI (by omega) (by omega)) (ix_nI (by omega)) dX3_save_64 ?_
  refine G.aldn0 C dX3_save_65 ?_
  refine G.getMT C hinX3 0 (by decide) rfl (C.1.2.2.2.2 (.fieldLink RX3 10 RX3 "now" "LLateDoves$Cote;") (by decide +kernel)) rfl dX3_save_66 ?_
  refine G.callVV1 C (k_cpS l (hπ sv (by omega)).1 (hπ sv (by omega)).2) (cwV 1 C.1.2.2.2.2 gX3_save_X0_copyFrom rfl rfl rfl (by decide +kernel) ⟨Nat.le_of_ble_eq_true rfl, Nat.le_of_ble_eq_true rfl⟩) (gO_c (hπ sv (by omega)).2) rfl (Nat.le_of_ble_eq_true rfl) dX3_save_69 ?_
  refine G.aldn0 C dX3_save_72 ?_
  refine G.dup C dX3_save_73 rfl ?_
  refine G.getMT C hinX3 5 (by decide) rfl (C.1.2.2.2.2 (.fieldLink RX3 30 RX3 "savedCount" "I") (by decide +kernel)) rfl dX3_save_74 ?_
  refine G.topI (nI sv) hs ?_
  refine G.iconst C 1 dX3_save_77 (by decide) ?_
  refine G.iadd C dX3_save_78 ?_
  refine G.topI (nI (sv + 1)) (nI_add sv 1) ?_
  refine G.putMT (ty := .int) C hinX3 5 (by decide) rfl (C.1.2.2.2.2 (.fieldLink RX3 30 RX3 "savedCount" "I") (by decide +kernel)) rfl rfl rfl rfl pfX3_5 dX3_save_79 ?_
  exact G.vret C hlk hrt dX3_save_82 (by exact fun _ h => h)
set_option maxRecDepth 100000 in
set_option maxHeartbeats 4000000 in
theorem k_X3_save_18 (l : Launch) {E : gEn} {σ : gSt} {π : Nat → Nat} {o : Int64} {c0 c1 c2 c9 : cSt} {k m1 : Nat} (hk : 1 ≤ k) (hkm : k + m1 = 6) (hπ : ∀ k, k < 6 → 3 ≤ π k ∧ π k < 9) {p : Program} {e : Env} {s : State} {m : MethodId} {args : Array Value} {below : List Frame} {meth : Method} {cd : Code} (C : gCx p s m cd cX3_save 3 RX3 wsX3_save args E (gA E) ({ frames := 3, cells := 0, slots := 0, locals := 61 } : Room) 0 0) (hrt : meth.sig.returnType = none) (hlk : meth.locks = false) : G p l e ({ frames := 3, cells := 0, slots := 0, locals := 61 } : Room) s m args below meth cd 3 0 0 (gA E) (gQV below args s E (gT (gU σ (π 0) c0) c0 c1 c2 (cW (cW c9 0 5 5) 0 5 6)) (rot π) o) E (gT σ c0 c1 c2 c9) (shP π k) o 18 [some (.ref (E.2.1 9 0)), some (.ref (E.2.1 (π 0) 0)), some (.int (nI k))] [] := by
  have hinX0 : ∀ w ∈ wsX00, w ∈ wsX3_save := by decide +kernel
  have hinX2 : ∀ w ∈ wsX20, w ∈ wsX3_save := by decide +kernel
  have hinX3 : ∀ w ∈ wsX30, w ∈ wsX3_save := by decide +kernel
  induction m1 generalizing k with
  | zero =>
    obtain rfl : k = 6 := by omega
    refine G.ildn2 C dX3_save_18 ?_
    refine G.bipush C 6 dX3_save_19 (by decide) ?_
    refine G.icmp_ge C 44 dX3_save_21 (by decide) (fun h21 => ?_) (fun h21 => absurd (nI_le (a := 6) (b := 6) (by omega) (by decide)) h21)
    refine G.aldn0 C dX3_save_44 ?_
    refine G.getMT C hinX3 4 (by decide) rfl (C.1.2.2.2.2 (.fieldLink RX3 26 RX3 "saved" "[LLateDoves$Cote;") (by decide +kernel)) rfl dX3_save_45 ?_
    refine G.iconst C 5 dX3_save_48 (by decide) ?_
    refine G.aldn1 C dX3_save_49 ?_
    refine G.aastS C (5) (hπ 0 (by omega)).2 (by unfold vp_in; decide) (by decide) dX3_save_50 ?_
    refine G.aldn0 C dX3_save_51 ?_
    refine G.iconst C 5 dX3_save_52 (by decide) ?_
    refine G.putMT (ty := .int) C hinX3 5 (by decide) rfl (C.1.2.2.2.2 (.fieldLink RX3 30 RX3 "savedCount" "I") (by decide +kernel)) rfl rfl rfl rfl pfX3_5 dX3_save_53 ?_
    refine G.aldn0 C dX3_save_56 ?_
    refine G.getMT C hinX3 4 (by decide) rfl (C.1.2.2.2.2 (.fieldLink RX3 26 RX3 "saved" "[LLateDoves$Cote;") (by decide +kernel)) rfl dX3_save_57 ?_
    refine G.aldn0 C dX3_save_60 ?_
    refine G.getMT C hinX3 5 (by decide) rfl (C.1.2.2.2.2 (.fieldLink RX3 30 RX3 "savedCount" "I") (by decide +kernel)) rfl dX3_save_61 ?_
    refine G.topI (5) rfl ?_
    refine G.aaldS C (5) (by unfold vp_in; decide) (by decide) dX3_save_64 ?_
    refine G.aldn0 C dX3_save_65 ?_
    refine G.getMT C hinX3 0 (by decide) rfl (C.1.2.2.2.2 (.fieldLink RX3 10 RX3 "now" "LLateDoves$Cote;") (by decide +kernel)) rfl dX3_save_66 ?_
    refine G.callVV1 C (k_cpS l (i := π 0) (hπ 0 (by omega)).1 (hπ 0 (by omega)).2) (cwV 1 C.1.2.2.2.2 gX3_save_X0_copyFrom rfl rfl rfl (by decide +kernel) ⟨Nat.le_of_ble_eq_true rfl, Nat.le_of_ble_eq_true rfl⟩) (gO_c (hπ 0 (by omega)).2) rfl (Nat.le_of_ble_eq_true rfl) dX3_save_69 ?_
    refine G.aldn0 C dX3_save_72 ?_
    refine G.dup C dX3_save_73 rfl ?_
    refine G.getMT C hinX3 5 (by decide) rfl (C.1.2.2.2.2 (.fieldLink RX3 30 RX3 "savedCount" "I") (by decide +kernel)) rfl dX3_save_74 ?_
    refine G.topI (5) rfl ?_
    refine G.iconst C 1 dX3_save_77 (by decide) ?_
    refine G.iadd C dX3_save_78 ?_
    refine G.topI (6) rfl ?_
    refine G.putMT (ty := .int) C hinX3 5 (by decide) rfl (C.1.2.2.2.2 (.fieldLink RX3 30 RX3 "savedCount" "I") (by decide +kernel)) rfl rfl rfl rfl pfX3_5 dX3_save_79 ?_
    exact G.vret C hlk hrt dX3_save_82 (by exact fun _ h => h)
  | succ n ih =>
    refine G.ildn2 C dX3_save_18 ?_
    refine G.bipush C 6 dX3_save_19 (by decide) ?_
    refine G.icmp_ge C 44 dX3_save_21 (by decide) (fun h21 => absurd h21 (nI_ge (b := 6) (by omega) (by decide))) (fun h21 => ?_)
    refine G.aldn0 C dX3_save_24 ?_
    refine G.getMT C hinX3 4 (by decide) rfl (C.1.2.2.2.2 (.fieldLink RX3 26 RX3 "saved" "[LLateDoves$Cote;") (by decide +kernel)) rfl dX3_save_25 ?_
    refine G.ildn2 C dX3_save_28 ?_
    refine G.iconst C 1 dX3_save_29 (by decide) ?_
    refine G.isub C dX3_save_30 ?_
    refine G.topI (nI (k - 1)) (nI_p hk) ?_
    refine G.aldn0 C dX3_save_31 ?_
    refine G.getMT C hinX3 4 (by decide) rfl (C.1.2.2.2.2 (.fieldLink RX3 26 RX3 "saved" "[LLateDoves$Cote;") (by decide +kernel)) rfl dX3_save_32 ?_
    refine G.ildn2 C dX3_save_35 ?_
    refine G.aaldS C (k) (vp_in_nI (by omega) (by omega)) (ix_nI (by omega)) dX3_save_36 ?_
    refine G.aastS C (k - 1) (by rw [shP_k]; exact (hπ k (by omega)).2) (vp_in_nI (by omega) (by omega)) (ix_nI (by omega)) dX3_save_37 ?_
    refine G.iincN2 C dX3_save_38 (by omega) rfl ?_
    refine G.goto C 18 dX3_save_41 (by decide) ?_
    exact G.cast (ih (k := k + 1) (by omega) (by omega)) rfl (shP_s hk) rfl (by rw [← nI_s1]) rfl
set_option maxRecDepth 100000 in
set_option maxHeartbeats 4000000 in
theorem k_X3_save_hi (l : Launch) {E : gEn} {σ : gSt} {π : Nat → Nat} {o : Int64} {c0 c1 c2 c9 : cSt} (hπ : ∀ k, k < 6 → 3 ≤ π k ∧ π k < 9) (hs : c9 0 5 = 6) : CtV l yX3_save wsX3_save ({ frames := 3, cells := 0, slots := 0, locals := 61 } : Room) E [.ref (E.2.1 9 0)] (gT σ c0 c1 c2 c9) π o  (gT (gU σ (π 0) c0) c0 c1 c2 (cW (cW c9 0 5 5) 0 5 6)) (rot π) o := by
  refine CtV.of (cc := cX3_save) (own := RX3) (maxL := 3) (ret := none) [some (.ref (E.2.1 9 0)), none, none] (by decide) rfl rfl (Nat.le_of_ble_eq_true rfl) rfl ?_
  intro p e s m args below meth cd C hrt hlk
  have hinX0 : ∀ w ∈ wsX00, w ∈ wsX3_save := by decide +kernel
  have hinX2 : ∀ w ∈ wsX20, w ∈ wsX3_save := by decide +kernel
  have hinX3 : ∀ w ∈ wsX30, w ∈ wsX3_save := by decide +kernel
  refine G.aldn0 C dX3_save_0 ?_
  refine G.getMT C hinX3 5 (by decide) rfl (C.1.2.2.2.2 (.fieldLink RX3 30 RX3 "savedCount" "I") (by decide +kernel)) rfl dX3_save_1 ?_
  refine G.topI (6) hs ?_
  refine G.bipush C 6 dX3_save_4 (by decide) ?_
  refine G.icmp_lt C 56 dX3_save_6 (by decide) (fun h6 => absurd h6 ((by decide))) (fun h6 => ?_)
  refine G.aldn0 C dX3_save_9 ?_
  refine G.getMT C hinX3 4 (by decide) rfl (C.1.2.2.2.2 (.fieldLink RX3 26 RX3 "saved" "[LLateDoves$Cote;") (by decide +kernel)) rfl dX3_save_10 ?_
  refine G.iconst C 0 dX3_save_13 (by decide) ?_
  refine G.aaldS C (0) (by unfold vp_in; decide) (by decide) dX3_save_14 ?_
  refine G.astn1 C dX3_save_15 (by omega) rfl ?_
  refine G.iconst C 1 dX3_save_16 (by decide) ?_
  refine G.istn2 C dX3_save_17 (by omega) rfl ?_
  exact G.cast (k_X3_save_18 l (k := 1) (m1 := 5) (by omega) (by omega) hπ C hrt hlk) rfl shP_1.symm rfl rfl rfl
theorem k_X3_save (l : Launch) {E : gEn} {σ : gSt} {π : Nat → Nat} {o : Int64} {c0 c1 c2 c9 : cSt} {sv : Nat} (hs : c9 0 5 = nI sv) (hle : sv ≤ 6) (hπ : ∀ k, k < 6 → 3 ≤ π k ∧ π k < 9) : CtV l yX3_save wsX3_save ({ frames := 3, cells := 0, slots := 0, locals := 61 } : Room) E [.ref (E.2.1 9 0)] (gT σ c0 c1 c2 c9) π o (gT (svS σ π sv c0) c0 c1 c2 (sv9 c9 sv)) (svP π sv) o := by
  unfold svS svP sv9
  by_cases h : sv < 6
  · rw [if_pos h, if_pos h, if_pos h]
    exact k_X3_save_lo l hs h hπ
  · rw [if_neg h, if_neg h, if_neg h]
    obtain rfl : sv = 6 := by omega
    exact k_X3_save_hi l hπ hs
