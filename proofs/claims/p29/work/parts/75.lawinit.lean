/-! how both begin -/
def gOff (i j : Nat) : Nat := if i = 0 then 1 + j else if i = 1 then 21 + j else if i = 2 then 41 + j else if i < 9 then 62 + 20 * (i - 3) + j else if i = 9 then (if j = 0 then 0 else if j = 1 then 61 else 180 + j) else if i = 10 then 184 + j else 190 + j
def gE0 (D : va_G) (cI cII cQ : ClassId) (n0 : Nat) : gEn := (D, fun i j => n0 + gOff i j, cI, cII, cQ, false)
theorem gV0 {D : va_G} {cI cII cQ : ClassId} {n0 i j : Nat} (hv : gV (gE0 D cI cII cQ n0) i j) : (i < 9 ∧ j < 20) ∨ (i = 9 ∧ j < 4) ∨ (i = 10 ∧ j < 4) := by
  rcases hv with h | h | h | ⟨-, -, h⟩
  · exact Or.inl h
  · exact Or.inr (Or.inl h)
  · exact Or.inr (Or.inr h)
  · cases h
theorem gE0_inj {D : va_G} {cI cII cQ : ClassId} {n0 : Nat} : gInj (gE0 D cI cII cQ n0) := by
  intro i j i' j' hv hv' h
  have h : gOff i j = gOff i' j' := by have h' : n0 + gOff i j = n0 + gOff i' j' := h; omega
  have hv := gV0 hv
  have hv' := gV0 hv'
  unfold gOff at h
  have c1 : i = 0 ∨ i = 1 ∨ i = 2 ∨ (3 ≤ i ∧ i < 9) ∨ i = 9 ∨ i = 10 := by omega
  have c2 : i' = 0 ∨ i' = 1 ∨ i' = 2 ∨ (3 ≤ i' ∧ i' < 9) ∨ i' = 9 ∨ i' = 10 := by omega
  repeat' split at h
  all_goals omega
theorem gOff_lt {E : gEn} {i j : Nat} (hE : E.2.2.2.2.2 = false) (hv : gV E i j) : gOff i j < 188 := by
  unfold gV at hv
  rw [hE] at hv
  have hv : (i < 9 ∧ j < 20) ∨ (i = 9 ∧ j < 4) ∨ (i = 10 ∧ j < 4) := by
    rcases hv with h | h | h | ⟨-, -, h⟩
    · exact Or.inl h
    · exact Or.inr (Or.inl h)
    · exact Or.inr (Or.inr h)
    · cases h
  unfold gOff
  repeat' split
  all_goals omega
def c90 : cSt := fun j k => if j = 3 ∧ (k = 2 ∨ k = 3) then -1 else 0
def v00 : cSt := fun _ _ => 0
def s00 : gSt := fun i => if i < 9 then c00 else if i = 9 then c90 else v00
def p00 : Nat → Nat := fun k => 3 + k
def ctAll (cI cII cQ : ClassId) (n0 : Nat) : Nat → va_E := ctU (ctU (ctU (ctU (ctJ (fun _ => .inl (cI, 0, .inl (fun _ => 0))) 0 (ctT cI cII cQ n0)) 184 (.inl (cI, 13, .inl (fun _ => 0)))) 185 (.inl (cI, 64, .inl (fun _ => 0)))) 186 (.inl (cI, 64, .inl (fun _ => 0)))) 187 (.inl (cI, 26, .inl (fun _ => 0)))
theorem inv00 : Inv 24 c00 := by
  refine ⟨fun k hk he => absurd rfl he, fun k hk he => absurd rfl he, fun k hk he => absurd rfl he, fun h hh _ => Or.inl rfl, fun k hk he => absurd rfl he, fun h hh => Or.inl rfl, fun k hk h hh w => ?_, fun k hk _ => ⟨rfl, rfl, rfl, rfl, rfl, rfl⟩, ⟨6, by omega, rfl⟩⟩
  exact absurd w.symm (nI_nm (a := h) (by omega))
theorem lBit_0 {k : Nat} : lBit 0 k = false := by
  unfold lBit
  exact BitVec.getLsbD_zero
theorem lIs_00 {v : cSt} {k : Nat} (h : v 0 0 = 0) : lIs v k = false := by
  unfold lIs
  rw [h, lBit_0]
theorem cEx_00 {x : Int32} : cEx c00 x = false := by
  unfold cEx
  repeat' split
  all_goals first | rfl | (rename_i h; exact absurd (rfl : c00 2 (ix x) = -1) h)
theorem rel00 : RelL True c00 (cW (cW v00 0 4 1080) 0 5 6) := by
  refine ⟨fun k hk => ?_, fun k hk he => absurd rfl he, fun k hk he => absurd rfl he, fun h hh => ?_, rfl, rfl, fun j hj => ?_, rfl, rfl, fun j hj => ?_, rfl, fun _ k hk hs => ?_⟩
  · rw [cEx_00, Bool.and_false]
    exact lIs_00 rfl
  · rw [show cW (cW v00 0 4 1080) 0 5 6 0 1 = 0 from rfl, lBit_0]
    rfl
  · rcases (show j = 0 ∨ j = 1 by omega) with rfl | rfl <;> rfl
  · rcases (show j = 0 ∨ j = 1 ∨ j = 2 ∨ j = 3 by omega) with rfl | rfl | rfl | rfl <;> rfl
  · exact absurd hs (nI_pos (n := k) (by omega))
theorem srl00 : SRL 0 c00 (cW (cW v00 0 4 1080) 0 5 6) := ⟨rel00, inv00, ⟨0, by omega, rfl⟩, ⟨0, by omega, rfl⟩, ⟨0, by omega, rfl⟩⟩
/-- a cote's cells are the world's -/
theorem ctC_gC {D : va_G} {cI cII cQ : ClassId} {n0 i j a : Nat} {σ : gSt} {π : Nat → Nat} {o : Int64} (hi : i < 9) (ha : ∀ j, n0 + gOff i j = a + j) : ctC cI cII a (σ i) j = gC (gE0 D cI cII cQ n0) σ π o i j := by
  unfold gC gE0
  rw [if_pos hi]
  unfold ctC gFc gFw
  show _ = (if j = 0 then _ else _)
  simp only [ha]
theorem built {D : va_G} {cI cII cQ : ClassId} {n0 : Nat} {H : Heap} (h : RW D n0 188 (ctAll cI cII cQ n0) H) : CW (gE0 D cI cII cQ n0) s00 p00 0 H := by
  intro i j hv
  have hlt := gOff_lt (E := gE0 D cI cII cQ n0) rfl hv
  have hv := gV0 hv
  have hat := h.2 (gOff i j) hlt
  show va_at D vwCl (n0 + gOff i j, gC (gE0 D cI cII cQ n0) s00 p00 0 i j) H
  have hAll : ∀ q, q < 184 → ctAll cI cII cQ n0 q = ctT cI cII cQ n0 q := fun q hq => by
    unfold ctAll
    rw [ctU_ne (by omega), ctU_ne (by omega), ctU_ne (by omega), ctU_ne (by omega), ctJ_ge (Nat.zero_le q), Nat.sub_zero]
  by_cases hi : i < 9
  · have hj : j < 20 := by omega
    have c1 : i = 0 ∨ i = 1 ∨ i = 2 ∨ (3 ≤ i ∧ i < 9) := by omega
    have hs : s00 i = c00 := by unfold s00; rw [if_pos hi]
    rcases c1 with r | r | r | r
    · subst r
      have eo : ∀ j, gOff 0 j = 1 + j := fun j => rfl
      have e : ctAll cI cII cQ n0 (gOff 0 j) = ctC cI cII (n0 + 1) (s00 0) j := by
        rw [hAll _ (by rw [eo]; omega), eo]
        unfold ctT ctT0
        rw [if_neg (by omega), if_neg (by omega), if_neg (by omega), if_neg (by omega), if_pos (by omega), hs, show 1 + j - 1 = j by omega]
      rw [e, ctC_gC (D := D) (cQ := cQ) (n0 := n0) (π := p00) (o := 0) hi (fun j => by rw [eo]; omega)] at hat
      exact hat
    · subst r
      have eo : ∀ j, gOff 1 j = 21 + j := fun j => rfl
      have e : ctAll cI cII cQ n0 (gOff 1 j) = ctC cI cII (n0 + 21) (s00 1) j := by
        rw [hAll _ (by rw [eo]; omega), eo]
        unfold ctT ctT0
        rw [if_neg (by omega), if_neg (by omega), if_neg (by omega), if_neg (by omega), if_neg (by omega), if_pos (by omega), hs, show 21 + j - 21 = j by omega]
      rw [e, ctC_gC (D := D) (cQ := cQ) (n0 := n0) (π := p00) (o := 0) hi (fun j => by rw [eo]; omega)] at hat
      exact hat
    · subst r
      have eo : ∀ j, gOff 2 j = 41 + j := fun j => rfl
      have e : ctAll cI cII cQ n0 (gOff 2 j) = ctC cI cII (n0 + 41) (s00 2) j := by
        rw [hAll _ (by rw [eo]; omega), eo]
        unfold ctT ctT0
        rw [if_neg (by omega), if_neg (by omega), if_neg (by omega), if_neg (by omega), if_neg (by omega), if_neg (by omega), if_pos (by omega), hs, show 41 + j - 41 = j by omega]
      rw [e, ctC_gC (D := D) (cQ := cQ) (n0 := n0) (π := p00) (o := 0) hi (fun j => by rw [eo]; omega)] at hat
      exact hat
    · have eo : ∀ j, gOff i j = 62 + 20 * (i - 3) + j := fun j => by unfold gOff; rw [if_neg (by omega), if_neg (by omega), if_neg (by omega), if_pos hi]
      have e : ctAll cI cII cQ n0 (gOff i j) = ctC cI cII (n0 + (62 + 20 * (i - 3))) (s00 i) j := by
        rw [hAll _ (by rw [eo]; omega), eo]
        unfold ctT ctT0
        rw [if_neg (by omega), if_neg (by omega), if_neg (by omega), if_neg (by omega), if_neg (by omega), if_neg (by omega), if_neg (by omega), hs, show (62 + 20 * (i - 3) + j - 62) / 20 = i - 3 by omega, show (62 + 20 * (i - 3) + j - 62) % 20 = j by omega]
      rw [e, ctC_gC (D := D) (cQ := cQ) (n0 := n0) (π := p00) (o := 0) hi (fun j => by rw [eo]; omega)] at hat
      exact hat
  · have c1 : (i = 9 ∧ (j = 0 ∨ j = 1 ∨ j = 2 ∨ j = 3)) ∨ (i = 10 ∧ (j = 0 ∨ j = 1 ∨ j = 2 ∨ j = 3)) := by omega
    rcases c1 with ⟨r, r2⟩ | ⟨r, r2⟩
    · subst r
      rcases r2 with r2 | r2 | r2 | r2 <;> subst r2
      · exact hat
      · rw [show gOff 9 1 = 61 from rfl, hAll 61 (by omega)] at hat
        refine ct_refs (f := fun k => some (n0 + (62 + 20 * k))) hat fun d hd => ?_
        show some (n0 + (62 + 20 * d)) = some (n0 + gOff (3 + d) 0)
        unfold gOff
        rw [if_neg (by omega), if_neg (by omega), if_neg (by omega), if_pos (by omega), show 3 + d - 3 = d by omega]
        rfl
      · exact hat
      · exact hat
    · subst r
      rcases r2 with r2 | r2 | r2 | r2 <;> subst r2 <;> exact hat
