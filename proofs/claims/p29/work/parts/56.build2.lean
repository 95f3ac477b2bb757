/-! constructors -/
def ctW (cI : ClassId) (h0 : Nat) : Nat → va_E := fun q => if q = 0 then .inr (2, [.ref (h0 + 1), .ref (h0 + 2), .int 0]) else .inl (cI, 25, .inl (fun _ => 0))
def ctR : Nat → va_E := fun _ => .inr (1, [.int 0, .int 0, .int (-1), .int (-1)])


set_option maxRecDepth 100000 in
set_option maxHeartbeats 4000000 in
theorem n_X2_init (l : Launch) (D : va_G) (cI cII cQ : ClassId) (h0 : Nat) : NI l yX2_init wsX2_init ({ frames := 1, cells := 2, slots := 50, locals := 12 } : Room) D cI cII cQ h0 2 [.null, .null, .int 0] 3 (ctW cI h0) 2 50 := by
  refine Met.ofW (cc := cX2_init) (maxL := 1) (ret := none) (by decide) rfl ?_
  intro p e s m args below meth c s₁ B hml hv
  obtain ⟨rfl, hsz, hat, hG⟩ := hv
  have hx := B.exec
  have hb := B.bytes
  have hr := B.returns
  have hts := atoms_spec (ws := wsX2_init) B.pre
  have hown : s.vm.findClass RX2 = some m.cls := findClass_of_methodNamed B.named
  have hlocks := B.notSynchronized
  have hin0 : meth.name = "<init>" := (name_of_methodNamed B.named B.method).1
  have hinX2 : ∀ w ∈ wsX20, w ∈ wsX2_init := by decide +kernel
  have hP : RW D h0 1 (fun _ => .inr (2, [.null, .null, .int 0])) s.heap := RW.start hsz hat
  have hS : va_S (bA h0) s.heap s.heap [] := va_S.rf
  have hl := lv_entry ([.ref h0]) (n := 1) (Nat.le_of_ble_eq_true rfl)
  rw [lg_entry_eq]
  generalize (lg_sl ([.ref h0]) ++ List.replicate (1 - (lg_sl ([.ref h0])).length) Slot.unset).toArray = ls at hl ⊢
  have hl : lv_has ls 1 [(0, .ref h0)] := hl
  refine lv_aload_n hx hb dX2_init_0 rfl (lv_at hl 0 rfl) ?_
  refine W.objInit hx hb hown (hts (.methodLink RX2 3 objectInit) (by decide +kernel)) (hts (.instanceMethod objectInit) (by decide +kernel)) (hts (.code objectInit ⟨#[0xb1]⟩ 1 none) (by decide +kernel)) rfl (by rw [hml]; exact hl.1) rfl dX2_init_1 (Nat.le_of_ble_eq_true rfl) (Nat.le_of_ble_eq_true rfl) ?_
  refine W.eq (g2 := F0 m 4 ls []) rfl ?_
  refine lv_aload_n hx hb dX2_init_4 rfl (lv_at hl 0 rfl) ?_
  refine lv_bipush (v := 25) hx hb dX2_init_5 (by decide) ?_
  refine b_newi (N' := 25) hx hb (hts (.arrayClass .int) (by decide +kernel)) hG.1 hP hS (by decide) (by decide) (by decide) (Nat.le_of_ble_eq_true rfl) (Nat.le_of_ble_eq_true rfl) dX2_init_7 (fun H hP hS => ?_)
  refine b_putF (ci := 2) (fs := [.null, .null, .int 0]) (v := .ref (h0 + 1)) (ty := .array .int) (C := RX2) (T := TX2) (N := 3) hx hb hts hinX2 tyX2 tyX2_ok nmX2 hown hG.1 hP hS 0 (by decide) rfl rfl 0 (by decide) (hts (.fieldLink RX2 9 "LateDoves$Way" "who" "[I") (by decide +kernel)) (fun _ h9 => h9) rfl hin0 rfl (by decide +kernel) rfl rfl (Nat.le_of_ble_eq_true rfl) dX2_init_9 (fun H locs hP hS => ?_)
  refine lv_aload_n hx hb dX2_init_12 rfl (lv_at hl 0 rfl) ?_
  refine lv_bipush (v := 25) hx hb dX2_init_13 (by decide) ?_
  refine b_newi (N' := 25) hx hb (hts (.arrayClass .int) (by decide +kernel)) hG.1 hP hS (by decide) (by decide) (by decide) (Nat.le_of_ble_eq_true rfl) (Nat.le_of_ble_eq_true rfl) dX2_init_15 (fun H hP hS => ?_)
  refine b_putF (ci := 2) (fs := [.ref (h0 + 1), .null, .int 0]) (v := .ref (h0 + 2)) (ty := .array .int) (C := RX2) (T := TX2) (N := 3) hx hb hts hinX2 tyX2 tyX2_ok nmX2 hown hG.1 hP hS 0 (by decide) rfl rfl 1 (by decide) (hts (.fieldLink RX2 15 "LateDoves$Way" "where" "[I") (by decide +kernel)) (fun _ h9 => h9) rfl hin0 rfl (by decide +kernel) rfl rfl (Nat.le_of_ble_eq_true rfl) dX2_init_17 (fun H locs hP hS => ?_)
  refine lv_aload_n hx hb dX2_init_20 rfl (lv_at hl 0 rfl) ?_
  refine lv_iconst (v := 0) hx hb dX2_init_21 (by decide) ?_
  refine b_put (ci := 2) (fs := [.ref (h0 + 1), .ref (h0 + 2), .int 0]) (v := .int 0) (ty := .int) (C := RX2) (T := TX2) (N := 3) hx hb hts hinX2 tyX2 tyX2_ok nmX2 hown hG.1 hP hS 0 (by decide) rfl rfl 2 (by decide) (hts (.fieldLink RX2 18 "LateDoves$Way" "size" "I") (by decide +kernel)) (fun _ h9 => h9) rfl (by decide +kernel) rfl rfl (Nat.le_of_ble_eq_true rfl) dX2_init_22 (fun H locs hP hS => ?_)
  refine W.widen (k := 2) (n := 50) (Nat.le_of_ble_eq_true rfl) (Nat.le_of_ble_eq_true rfl) ?_
  exact W.vret hx hb hr (fun t ht hW => ⟨⟨(), rfl, trivial, by show RW _ _ _ _ t.heap; rw [ht]; exact hP.congr fun k hk => by rcases (show k = 0 ∨ k = 1 ∨ k = 2 by omega) with rfl | rfl | rfl <;> rfl⟩, hS.F ht⟩) hS.2.2 dX2_init_25
set_option maxRecDepth 100000 in
set_option maxHeartbeats 4000000 in
theorem n_X1_init (l : Launch) (D : va_G) (cI cII cQ : ClassId) (h0 : Nat) : NI l yX1_init wsX1_init ({ frames := 1, cells := 0, slots := 0, locals := 12 } : Room) D cI cII cQ h0 1 [.int 0, .int 0, .int 0, .int 0] 1 (ctR) 0 0 := by
  refine Met.ofW (cc := cX1_init) (maxL := 1) (ret := none) (by decide) rfl ?_
  intro p e s m args below meth c s₁ B hml hv
  obtain ⟨rfl, hsz, hat, hG⟩ := hv
  have hx := B.exec
  have hb := B.bytes
  have hr := B.returns
  have hts := atoms_spec (ws := wsX1_init) B.pre
  have hown : s.vm.findClass RX1 = some m.cls := findClass_of_methodNamed B.named
  have hlocks := B.notSynchronized
  have hin0 : meth.name = "<init>" := (name_of_methodNamed B.named B.method).1
  have hinX1 : ∀ w ∈ wsX10, w ∈ wsX1_init := by decide +kernel
  have hP : RW D h0 1 (fun _ => .inr (1, [.int 0, .int 0, .int 0, .int 0])) s.heap := RW.start hsz hat
  have hS : va_S (bA h0) s.heap s.heap [] := va_S.rf
  have hl := lv_entry ([.ref h0]) (n := 1) (Nat.le_of_ble_eq_true rfl)
  rw [lg_entry_eq]
  generalize (lg_sl ([.ref h0]) ++ List.replicate (1 - (lg_sl ([.ref h0])).length) Slot.unset).toArray = ls at hl ⊢
  have hl : lv_has ls 1 [(0, .ref h0)] := hl
  refine lv_aload_n hx hb dX1_init_0 rfl (lv_at hl 0 rfl) ?_
  refine W.objInit hx hb hown (hts (.methodLink RX1 3 objectInit) (by decide +kernel)) (hts (.instanceMethod objectInit) (by decide +kernel)) (hts (.code objectInit ⟨#[0xb1]⟩ 1 none) (by decide +kernel)) rfl (by rw [hml]; exact hl.1) rfl dX1_init_1 (Nat.le_of_ble_eq_true rfl) (Nat.le_of_ble_eq_true rfl) ?_
  refine W.eq (g2 := F0 m 4 ls []) rfl ?_
  refine lv_aload_n hx hb dX1_init_4 rfl (lv_at hl 0 rfl) ?_
  refine lv_iconst (v := 0) hx hb dX1_init_5 (by decide) ?_
  refine b_put (ci := 1) (fs := [.int 0, .int 0, .int 0, .int 0]) (v := .int 0) (ty := .int) (C := RX1) (T := TX1) (N := 4) hx hb hts hinX1 tyX1 tyX1_ok nmX1 hown hG.1 hP hS 0 (by decide) rfl rfl 0 (by decide) (hts (.fieldLink RX1 11 "LateDoves$PartReader" "stage" "I") (by decide +kernel)) (fun _ h9 => h9) rfl (by decide +kernel) rfl rfl (Nat.le_of_ble_eq_true rfl) dX1_init_6 (fun H locs hP hS => ?_)
  refine lv_aload_n hx hb dX1_init_9 rfl (lv_at hl 0 rfl) ?_
  refine lv_iconst (v := 0) hx hb dX1_init_10 (by decide) ?_
  refine b_put (ci := 1) (fs := [.int 0, .int 0, .int 0, .int 0]) (v := .int 0) (ty := .int) (C := RX1) (T := TX1) (N := 4) hx hb hts hinX1 tyX1 tyX1_ok nmX1 hown hG.1 hP hS 0 (by decide) rfl rfl 1 (by decide) (hts (.fieldLink RX1 15 "LateDoves$PartReader" "kind" "I") (by decide +kernel)) (fun _ h9 => h9) rfl (by decide +kernel) rfl rfl (Nat.le_of_ble_eq_true rfl) dX1_init_11 (fun H locs hP hS => ?_)
  refine lv_aload_n hx hb dX1_init_14 rfl (lv_at hl 0 rfl) ?_
  refine lv_iconst (v := -1) hx hb dX1_init_15 (by decide) ?_
  refine b_put (ci := 1) (fs := [.int 0, .int 0, .int 0, .int 0]) (v := .int (-1)) (ty := .int) (C := RX1) (T := TX1) (N := 4) hx hb hts hinX1 tyX1 tyX1_ok nmX1 hown hG.1 hP hS 0 (by decide) rfl rfl 2 (by decide) (hts (.fieldLink RX1 18 "LateDoves$PartReader" "first" "I") (by decide +kernel)) (fun _ h9 => h9) rfl (by decide +kernel) rfl rfl (Nat.le_of_ble_eq_true rfl) dX1_init_16 (fun H locs hP hS => ?_)
  refine lv_aload_n hx hb dX1_init_19 rfl (lv_at hl 0 rfl) ?_
  refine lv_iconst (v := -1) hx hb dX1_init_20 (by decide) ?_
  refine b_put (ci := 1) (fs := [.int 0, .int 0, .int (-1), .int 0]) (v := .int (-1)) (ty := .int) (C := RX1) (T := TX1) (N := 4) hx hb hts hinX1 tyX1 tyX1_ok nmX1 hown hG.1 hP hS 0 (by decide) rfl rfl 3 (by decide) (hts (.fieldLink RX1 21 "LateDoves$PartReader" "second" "I") (by decide +kernel)) (fun _ h9 => h9) rfl (by decide +kernel) rfl rfl (Nat.le_of_ble_eq_true rfl) dX1_init_21 (fun H locs hP hS => ?_)
  refine W.widen (k := 0) (n := 0) (Nat.le_of_ble_eq_true rfl) (Nat.le_of_ble_eq_true rfl) ?_
  exact W.vret hx hb hr (fun t ht hW => ⟨⟨(), rfl, trivial, by show RW _ _ _ _ t.heap; rw [ht]; exact hP.congr fun k hk => by rcases (show k = 0 by omega) with rfl; rfl⟩, hS.F ht⟩) hS.2.2 dX1_init_24
