/-! the invariant of the whole; reasons -/
def BigL (B : Nat) (σ : gSt) (π : Nat → Nat) : Prop := ∃ sv, sv ≤ 6 ∧ σ 9 0 5 = nI sv ∧ (∀ k, k < 6 → 3 ≤ π k ∧ π k < 9) ∧ SRL B (σ 0) (σ 10)
theorem BigL.mono {B B' : Nat} {σ : gSt} {π : Nat → Nat} (h : BigL B σ π) (hb : B ≤ B') : BigL B' σ π := by
  obtain ⟨sv, h1, h2, h3, h4⟩ := h
  exact ⟨sv, h1, h2, h3, h4.mono hb⟩
theorem BigL.mk {B sv : Nat} {σ : gSt} {π : Nat → Nat} {c0 c1 c2 c9 v : cSt} (hs : c9 0 5 = nI sv) (hle : sv ≤ 6) (hπ : ∀ k, k < 6 → 3 ≤ π k ∧ π k < 9) (hS : SRL B c0 v) : BigL B (gL σ c0 c1 c2 c9 v) π :=
  ⟨sv, hle, hs, hπ, by rw [gL_10]; exact hS⟩
theorem svP_in {π : Nat → Nat} {sv : Nat} (hπ : ∀ k, k < 6 → 3 ≤ π k ∧ π k < 9) : ∀ k, k < 6 → 3 ≤ svP π sv k ∧ svP π sv k < 9 := by
  intro k hk
  unfold svP
  by_cases h : sv < 6
  · rw [if_pos h]; exact hπ k hk
  · rw [if_neg h]
    unfold rot upN shP
    by_cases h5 : k = 5
    · rw [if_pos h5]; exact hπ 0 (by omega)
    · rw [if_neg h5, if_pos (by omega)]; exact hπ (k + 1) (by omega)
theorem sv9_5 {c9 : cSt} {sv : Nat} (hle : sv ≤ 6) : ∃ sv', sv' ≤ 6 ∧ sv9 c9 sv 0 5 = nI sv' := by
  unfold sv9
  by_cases h : sv < 6
  · rw [if_pos h]; exact ⟨sv + 1, by omega, by rw [cWr, zU_at]⟩
  · rw [if_neg h]; exact ⟨6, by omega, by rw [cWr, zU_at]; rfl⟩
theorem BigL.sv {B sv : Nat} {σ : gSt} {π : Nat → Nat} {c0 c0' c1 c2 c9 v : cSt} (hle : sv ≤ 6) (hπ : ∀ k, k < 6 → 3 ≤ π k ∧ π k < 9) (hS : SRL B c0' v) : BigL B (gT (svS (gU σ 10 v) π sv c0) c0' c1 c2 (sv9 c9 sv)) (svP π sv) := by
  obtain ⟨sv', h1, h2⟩ := sv9_5 (c9 := c9) hle
  refine ⟨sv', h1, h2, svP_in hπ, ?_⟩
  have e : gT (svS (gU σ 10 v) π sv c0) c0' c1 c2 (sv9 c9 sv) 10 = v := by rw [gT_10 (by omega), svS_10 (by omega) hπ, gU_at]
  rw [e]
  exact hS
theorem hH_nI {h : Nat} (hh : h < 24) : hHole (nI h) = true := (hHole_nI (by omega)).mpr hh
theorem SRL.exs {B : Nat} {c v : cSt} (h : SRL B c v) (k : Nat) (hk : k < 16) : lIs v k = cEx c (nI k) := h.rel.exs k hk
theorem whyPair_iff {B : Nat} {c v : cSt} (hS : SRL B c v) {d e : Nat} (hd : d < 16) (he : e < 16) (hxd : cEx c (nI d) = true) (hxe : cEx c (nI e) = true) : cWhyPair c (nI d) (nI e) = 0 ↔ d ≠ e ∧ v 1 (4 * d + 3) < 0 ∧ v 1 (4 * e + 3) < 0 := by
  obtain ⟨hR, hI, -⟩ := hS
  have h5d : v 1 (4 * d + 3) = c 5 d := hR.row d hd (cEx_at hd hxd) 3 (by omega)
  have h5e : v 1 (4 * e + 3) = c 5 e := hR.row e he (cEx_at he hxe) 3 (by omega)
  have hneg : ∀ k, k < 16 → cEx c (nI k) = true → (c 5 k < 0 ↔ c 5 k = -1) := fun k hk hx => by
    rcases hI.mat k hk (cEx_at hk hx) with q | ⟨m, hm, q, -⟩
    · rw [q]; exact ⟨fun _ => rfl, fun _ => by decide⟩
    · rw [q]; exact ⟨fun w => absurd w (nI_pos (by omega)), fun w => absurd w (nI_nm (by omega))⟩
  rw [h5d, h5e, hneg d hd hxd, hneg e he hxe]
  unfold cWhyPair
  rw [ix_nI (by omega), ix_nI (by omega)]
  by_cases h : d = e
  · subst h
    rw [if_pos rfl]
    exact ⟨fun w => absurd w (by decide), fun w => absurd rfl w.1⟩
  · rw [if_neg (fun w => h (nI_inj (by omega) (by omega) w))]
    by_cases h1 : c 5 d = -1
    · rw [if_pos h1]
      by_cases h2 : c 5 e = -1
      · rw [if_pos h2]; exact ⟨fun _ => ⟨h, h1, h2⟩, fun _ => rfl⟩
      · rw [if_neg h2]; exact ⟨fun w => absurd w (by decide), fun w => absurd w.2.2 h2⟩
    · rw [if_neg h1]; exact ⟨fun w => absurd w (by decide), fun w => absurd w.2.1 h1⟩
theorem mate_of {B : Nat} {c v : cSt} (hS : SRL B c v) {d : Nat} (hd : d < 16) (hx : cEx c (nI d) = true) (h : ¬ v 1 (4 * d + 3) < 0) : ∃ m, m < 16 ∧ v 1 (4 * d + 3) = nI m := by
  obtain ⟨hR, hI, -⟩ := hS
  have h5 : v 1 (4 * d + 3) = c 5 d := hR.row d hd (cEx_at hd hx) 3 (by omega)
  rw [h5] at h ⊢
  rcases hI.mat d hd (cEx_at hd hx) with q | ⟨m, hm, q, -⟩
  · rw [q] at h; exact absurd (by decide) h
  · exact ⟨m, hm, q⟩
theorem unmated {B : Nat} {c v : cSt} (hS : SRL B c v) {d : Nat} (hd : d < 16) (hx : cEx c (nI d) = true) (h : v 1 (4 * d + 3) < 0) : c 5 d = -1 := by
  obtain ⟨hR, hI, -⟩ := hS
  have h5 : v 1 (4 * d + 3) = c 5 d := hR.row d hd (cEx_at hd hx) 3 (by omega)
  rw [h5] at h
  rcases hI.mat d hd (cEx_at hd hx) with q | ⟨m, hm, q, -⟩
  · exact q
  · rw [q] at h; exact absurd h (nI_pos (by omega))
theorem whyShut_iff {B : Nat} {c v : cSt} (hS : SRL B c v) {h : Nat} (hh : h < 24) : cWhyShut c (nI h) = 0 ↔ lSits v (nI h) < 0 ∧ lBit (v 0 1) h = false := by
  obtain ⟨hR, hI, -⟩ := hS
  unfold cWhyShut
  rw [lsitter hR hI hh, hR.opens hh, ix_nI (by omega)]
  rcases hI.sit h hh (by omega) with e | ⟨k, hk, e, -⟩
  · rw [e, if_pos rfl]
    cases lBit (v 0 1) h
    · rw [if_neg (show ¬ (!false) = false by decide)]; exact ⟨fun _ => ⟨by decide, rfl⟩, fun _ => rfl⟩
    · rw [if_pos (show (!true) = false from rfl)]; exact ⟨fun w => absurd w (by decide), fun w => (by cases w.2)⟩
  · rw [e, if_neg (nI_nm (by omega))]
    exact ⟨fun w => absurd w (by decide), fun w => absurd w.1 (nI_pos (by omega))⟩
theorem whyHomeL {B : Nat} {c v : cSt} (hS : SRL B c v) {d : Nat} (hd : d < 16) (hx : cEx c (nI d) = true) (t : Int32) : cWhyHome c (nI d) t = if v 1 (4 * d + 2) < 0 then (if v 0 2 ≤ t then 0 else 2) else 1 := by
  obtain ⟨hR, hI, -⟩ := hS
  have he := cEx_at hd hx
  have h3 : v 1 (4 * d + 2) = c 4 d := hR.row d hd he 2 (by omega)
  unfold cWhyHome
  rw [h3, ix_nI (by omega), hR.time]
  by_cases hp : c 4 d = -1
  · rw [if_pos hp, if_pos ((plc_neg hI hd he).mpr hp)]
  · rw [if_neg hp, if_neg (fun q => hp ((plc_neg hI hd he).mp q))]
theorem placeL {B : Nat} {c v : cSt} (hS : SRL B c v) {d : Nat} (hd : d < 16) (hx : cEx c (nI d) = true) : v 1 (4 * d + 2) = c 4 d ∧ (v 1 (4 * d + 2) < 0 → c 4 d = -1) := by
  obtain ⟨hR, hI, -⟩ := hS
  have he := cEx_at hd hx
  have h3 : v 1 (4 * d + 2) = c 4 d := hR.row d hd he 2 (by omega)
  exact ⟨h3, fun h => (plc_neg hI hd he).mp (by rw [← h3]; exact h)⟩
/-- counted as law does: who has a mate -/
def lMt (v : cSt) (q : Nat) : Bool := lIs v q && decide (¬ v 1 (4 * q + 3) < 0)
theorem lMt_t {v : cSt} {k : Nat} (h : lIs v k = true) (h2 : ¬ v 1 (4 * k + 3) < 0) : lMt v k = true := by unfold lMt; rw [h, decide_eq_true h2]; rfl
theorem lMt_f {v : cSt} {k : Nat} (h2 : v 1 (4 * k + 3) < 0) : lMt v k = false := by unfold lMt; rw [decide_eq_false (fun w => w h2)]; exact Bool.and_false _
theorem lMt_0 {v : cSt} {k : Nat} (h : lIs v k = false) : lMt v k = false := by unfold lMt; rw [h]; rfl
theorem pairs2 {B : Nat} {c v : cSt} (hS : SRL B c v) : 2 * cPairs c = nI (cnt (fun q => lMt v q) 16) := by
  obtain ⟨hR, hI, -⟩ := hS
  obtain ⟨h1, h2⟩ := pairsL_sim hR hI
  rw [h1, show (2 : Int32) = nI 2 from rfl, pk_mul, ← h2]
  refine congrArg nI (cnt_ext 16 fun k hk => ?_)
  show (cEx c (nI k) && decide (¬ c 5 k = -1)) = lMt v k
  unfold lMt
  rw [hR.exs k hk]
  cases he : cEx c (nI k)
  · rfl
  · have he' := cEx_at hk he
    have h5 : v 1 (4 * k + 3) = c 5 k := hR.row k hk he' 3 (by omega)
    rw [h5]
    rcases hI.mat k hk he' with q | ⟨m, hm, q, -⟩
    · rw [q]; decide
    · rw [q, decide_eq_true (p := ¬ nI m = -1) (nI_nm (by omega)), decide_eq_true (p := ¬ nI m < 0) (nI_pos (by omega))]
def lClK (x : Int32) (k : Nat) : Nat := cnt (fun q => lBit x q) k
theorem lCl_s {x : Int32} {k : Nat} (hk : k < 24) : nI (24 - lClK x k) - bI (lBit x k) = nI (24 - lClK x (k + 1)) := by
  have hle : lClK x k ≤ k := cnt_le _ k
  have e : lClK x (k + 1) = if lBit x k = true then lClK x k + 1 else lClK x k := rfl
  rw [e]
  cases lBit x k
  · show nI (24 - lClK x k) - 0 = _
    rw [Int32.sub_zero]; rfl
  · show nI (24 - lClK x k) - nI 1 = _
    rw [pk_sub (by omega)]
    exact congrArg nI (by show 24 - lClK x k - 1 = 24 - (lClK x k + 1); omega)
theorem cnt_not {P : Nat → Bool} : ∀ n, cnt (fun k => !(P k)) n = n - cnt P n
  | 0 => rfl
  | n + 1 => by
    have ih := cnt_not (P := P) n
    have hle := cnt_le P n
    show (if (!(P n)) = true then cnt (fun k => !(P k)) n + 1 else cnt (fun k => !(P k)) n) = n + 1 - (if P n = true then cnt P n + 1 else cnt P n)
    rw [ih]
    cases P n
    · rw [if_pos (show (!false) = true from rfl), if_neg (show ¬ false = true by decide)]; omega
    · rw [if_neg (show ¬ (!true) = true by decide), if_pos (show true = true from rfl)]; omega
theorem opens_cl {B : Nat} {c v : cSt} (hS : SRL B c v) : cOpens c = nI (24 - lClK (v 0 1) 24) := by
  obtain ⟨hR, -⟩ := hS
  unfold cOpens lClK
  rw [← cnt_not 24]
  exact congrArg nI (cnt_ext 24 fun k hk => hR.opens hk)
