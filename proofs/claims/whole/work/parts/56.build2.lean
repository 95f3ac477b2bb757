/-! constructors -/
def ctW (cI : ClassId) (h0 : Nat) : Nat → va_E := fun q => if q = 0 then .inr (2, [.ref (h0 + 1), .ref (h0 + 2), .int 0]) else .inl (cI, 25, .inl (fun _ => 0))
def ctR : Nat → va_E := fun _ => .inr (1, [.int 0, .int 0, .int (-1), .int (-1)])
def z00 : Nat → Int32 := fun k => if k = 170 then 1080 else if k = 171 then 6 else if k = 178 ∨ k = 179 then -1 else 0
def ctM (cI : ClassId) (h0 : Nat) : Nat → va_E := fun q => if q = 0 then .inr (4, [.int 0, .ref (h0 + 1), .ref (h0 + 2), .ref (h0 + 3), .int 0, .ref (h0 + 4), .int 0, .ref (h0 + 5), .int 0, .int 0, .int 0, .int 0]) else if q = 1 then .inl (cI, 232, .inl z00) else .inl (cI, if q = 3 then 1392 else if q = 5 then 60 else 232, .inl (fun _ => 0))
set_option maxRecDepth 100000 in
set_option maxHeartbeats 4000000 in
theorem n_X2_init (l : Launch) (D : va_G) (cI cII cQ cL : ClassId) (h0 : Nat) : NI l yX2_init wsX2_init ({ frames := 1, cells := 2, slots := 50, locals := 12 } : Room) D cI cII cQ cL h0 2 [.null, .null, .int 0] 3 (ctW cI h0) 2 50 := by
  refine Met.ofW (cc := cX2_init) (maxL := 1) (ret := none) (by decide) rfl ?_
  intro p e s m args below meth c s₁ B hml hv
  obtain ⟨rfl, hsz, hat, hG⟩ := hv
  have hx := B.exec
  have hb := B.bytes
  have hr := B.returns
  have hts := atoms_spec (ws := wsX2_init) B.pre
  have hown : s.vm.findClass RX2 = some m.cls := findClass_of_methodNamed B.named
  have hlocks := B.notSynchronized
  have hin0 : meth.name = "<init>" := (name_of_methodNamed B.named B.method).1
  have hinX2 : ∀ w ∈ wsX20, w ∈ wsX2_init := by decide +kernel
  have hP : RW D h0 1 (fun _ => .inr (2, [.null, .null, .int 0])) s.heap := RW.start hsz hat
  have hS : va_S (bA h0) s.heap s.heap [] := va_S.rf
  have hl := lv_entry ([.ref h0]) (n := 1) (Nat.le_of_ble_eq_true rfl)
  rw [lg_entry_eq]
  generalize (lg_sl ([.ref h0]) ++ List.replicate (1 - (lg_sl ([.ref h0])).length) Slot.unset).toArray = ls at hl ⊢
  have hl : lv_has ls 1 [(0, .ref h0)] := hl
  refine lv_aload_n hx hb dX2_init_0 rfl (lv_at hl 0 rfl) ?_
  refine W.objInit hx hb hown (hts (.methodLink RX2 3 objectInit) (by decide +kernel)) (hts (.instanceMethod objectInit) (by decide +kernel)) (hts (.code objectInit ⟨#[0xb1]⟩ 1 none) (by decide +kernel)) rfl (by rw [hml]; exact hl.1) rfl dX2_init_1 (Nat.le_of_ble_eq_true rfl) (Nat.le_of_ble_eq_true rfl) ?_
  refine W.eq (g2 := F0 m 4 ls []) rfl ?_
  refine lv_aload_n hx hb dX2_init_4 rfl (lv_at hl 0 rfl) ?_
  refine lv_bipush (v := 25) hx hb dX2_init_5 (by decide) ?_
  refine b_newi (N' := 25) hx hb (hts (.arrayClass .int) (by decide +kernel)) hG.1 hP hS (by decide) (by decide) (by decide) (Nat.le_of_ble_eq_true rfl) (Nat.le_of_ble_eq_true rfl) dX2_init_7 (fun H hP hS => ?_)
  refine b_putF (ci := 2) (fs := [.null, .null, .int 0]) (v := .ref (h0 + 1)) (ty := .array .int) (C := RX2) (T := TX2) (N := 3) hx hb hts hinX2 tyX2 tyX2_ok nmX2 hown hG.1 hP hS 0 (by decide) rfl rfl 0 (by decide) (hts (.fieldLink RX2 9 "LateDoves$Way" "who" "[I") (by decide +kernel)) (fun _ h9 => h9) rfl hin0 rfl (by decide +kernel) rfl rfl (Nat.le_of_ble_eq_true rfl) dX2_init_9 (fun H locs hP hS => ?_)
  refine lv_aload_n hx hb dX2_init_12 rfl (lv_at hl 0 rfl) ?_
  refine lv_bipush (v := 25) hx hb dX2_init_13 (by decide) ?_
  refine b_newi (N' := 25) hx hb (hts (.arrayClass .int) (by decide +kernel)) hG.1 hP hS (by decide) (by decide) (by decide) (Nat.le_of_ble_eq_true rfl) (Nat.le_of_ble_eq_true rfl) dX2_init_15 (fun H hP hS => ?_)
  refine b_putF (ci := 2) (fs := [.ref (h0 + 1), .null, .int 0]) (v := .ref (h0 + 2)) (ty := .array .int) (C := RX2) (T := TX2) (N := 3) hx hb hts hinX2 tyX2 tyX2_ok nmX2 hown hG.1 hP hS 0 (by decide) rfl rfl 1 (by decide) (hts (.fieldLink RX2 15 "LateDoves$Way" "where" "[I") (by decide +kernel)) (fun _ h9 => h9) rfl hin0 rfl (by decide +kernel) rfl rfl (Nat.le_of_ble_eq_true rfl) dX2_init_17 (fun H locs hP hS => ?_)
  refine lv_aload_n hx hb dX2_init_20 rfl (lv_at hl 0 rfl) ?_
  refine lv_iconst (v := 0) hx hb dX2_init_21 (by decide) ?_
  refine b_put (ci := 2) (fs := [.ref (h0 + 1), .ref (h0 + 2), .int 0]) (v := .int 0) (ty := .int) (C := RX2) (T := TX2) (N := 3) hx hb hts hinX2 tyX2 tyX2_ok nmX2 hown hG.1 hP hS 0 (by decide) rfl rfl 2 (by decide) (hts (.fieldLink RX2 18 "LateDoves$Way" "size" "I") (by decide +kernel)) (fun _ h9 => h9) rfl (by decide +kernel) rfl rfl (Nat.le_of_ble_eq_true rfl) dX2_init_22 (fun H locs hP hS => ?_)
  refine W.widen (k := 2) (n := 50) (Nat.le_of_ble_eq_true rfl) (Nat.le_of_ble_eq_true rfl) ?_
  exact W.vret hx hb hr (fun t ht hW => ⟨⟨(), rfl, trivial, by show RW _ _ _ _ t.heap; rw [ht]; exact hP.congr fun k hk => by rcases (show k = 0 ∨ k = 1 ∨ k = 2 by omega) with rfl | rfl | rfl <;> rfl⟩, hS.F ht⟩) hS.2.2 dX2_init_25
set_option maxRecDepth 100000 in
set_option maxHeartbeats 4000000 in
theorem n_X1_init (l : Launch) (D : va_G) (cI cII cQ cL : ClassId) (h0 : Nat) : NI l yX1_init wsX1_init ({ frames := 1, cells := 0, slots := 0, locals := 12 } : Room) D cI cII cQ cL h0 1 [.int 0, .int 0, .int 0, .int 0] 1 (ctR) 0 0 := by
  refine Met.ofW (cc := cX1_init) (maxL := 1) (ret := none) (by decide) rfl ?_
  intro p e s m args below meth c s₁ B hml hv
  obtain ⟨rfl, hsz, hat, hG⟩ := hv
  have hx := B.exec
  have hb := B.bytes
  have hr := B.returns
  have hts := atoms_spec (ws := wsX1_init) B.pre
  have hown : s.vm.findClass RX1 = some m.cls := findClass_of_methodNamed B.named
  have hlocks := B.notSynchronized
  have hin0 : meth.name = "<init>" := (name_of_methodNamed B.named B.method).1
  have hinX1 : ∀ w ∈ wsX10, w ∈ wsX1_init := by decide +kernel
  have hP : RW D h0 1 (fun _ => .inr (1, [.int 0, .int 0, .int 0, .int 0])) s.heap := RW.start hsz hat
  have hS : va_S (bA h0) s.heap s.heap [] := va_S.rf
  have hl := lv_entry ([.ref h0]) (n := 1) (Nat.le_of_ble_eq_true rfl)
  rw [lg_entry_eq]
  generalize (lg_sl ([.ref h0]) ++ List.replicate (1 - (lg_sl ([.ref h0])).length) Slot.unset).toArray = ls at hl ⊢
  have hl : lv_has ls 1 [(0, .ref h0)] := hl
  refine lv_aload_n hx hb dX1_init_0 rfl (lv_at hl 0 rfl) ?_
  refine W.objInit hx hb hown (hts (.methodLink RX1 3 objectInit) (by decide +kernel)) (hts (.instanceMethod objectInit) (by decide +kernel)) (hts (.code objectInit ⟨#[0xb1]⟩ 1 none) (by decide +kernel)) rfl (by rw [hml]; exact hl.1) rfl dX1_init_1 (Nat.le_of_ble_eq_true rfl) (Nat.le_of_ble_eq_true rfl) ?_
  refine W.eq (g2 := F0 m 4 ls []) rfl ?_
  refine lv_aload_n hx hb dX1_init_4 rfl (lv_at hl 0 rfl) ?_
  refine lv_iconst (v := 0) hx hb dX1_init_5 (by decide) ?_
  refine b_put (ci := 1) (fs := [.int 0, .int 0, .int 0, .int 0]) (v := .int 0) (ty := .int) (C := RX1) (T := TX1) (N := 4) hx hb hts hinX1 tyX1 tyX1_ok nmX1 hown hG.1 hP hS 0 (by decide) rfl rfl 0 (by decide) (hts (.fieldLink RX1 11 "LateDoves$PartReader" "stage" "I") (by decide +kernel)) (fun _ h9 => h9) rfl (by decide +kernel) rfl rfl (Nat.le_of_ble_eq_true rfl) dX1_init_6 (fun H locs hP hS => ?_)
  refine lv_aload_n hx hb dX1_init_9 rfl (lv_at hl 0 rfl) ?_
  refine lv_iconst (v := 0) hx hb dX1_init_10 (by decide) ?_
  refine b_put (ci := 1) (fs := [.int 0, .int 0, .int 0, .int 0]) (v := .int 0) (ty := .int) (C := RX1) (T := TX1) (N := 4) hx hb hts hinX1 tyX1 tyX1_ok nmX1 hown hG.1 hP hS 0 (by decide) rfl rfl 1 (by decide) (hts (.fieldLink RX1 15 "LateDoves$PartReader" "kind" "I") (by decide +kernel)) (fun _ h9 => h9) rfl (by decide +kernel) rfl rfl (Nat.le_of_ble_eq_true rfl) dX1_init_11 (fun H locs hP hS => ?_)
  refine lv_aload_n hx hb dX1_init_14 rfl (lv_at hl 0 rfl) ?_
  refine lv_iconst (v := -1) hx hb dX1_init_15 (by decide) ?_
  refine b_put (ci := 1) (fs := [.int 0, .int 0, .int 0, .int 0]) (v := .int (-1)) (ty := .int) (C := RX1) (T := TX1) (N := 4) hx hb hts hinX1 tyX1 tyX1_ok nmX1 hown hG.1 hP hS 0 (by decide) rfl rfl 2 (by decide) (hts (.fieldLink RX1 18 "LateDoves$PartReader" "first" "I") (by decide +kernel)) (fun _ h9 => h9) rfl (by decide +kernel) rfl rfl (Nat.le_of_ble_eq_true rfl) dX1_init_16 (fun H locs hP hS => ?_)
  refine lv_aload_n hx hb dX1_init_19 rfl (lv_at hl 0 rfl) ?_
  refine lv_iconst (v := -1) hx hb dX1_init_20 (by decide) ?_
  refine b_put (ci := 1) (fs := [.int 0, .int 0, .int (-1), .int 0]) (v := .int (-1)) (ty := .int) (C := RX1) (T := TX1) (N := 4) hx hb hts hinX1 tyX1 tyX1_ok nmX1 hown hG.1 hP hS 0 (by decide) rfl rfl 3 (by decide) (hts (.fieldLink RX1 21 "LateDoves$PartReader" "second" "I") (by decide +kernel)) (fun _ h9 => h9) rfl (by decide +kernel) rfl rfl (Nat.le_of_ble_eq_true rfl) dX1_init_21 (fun H locs hP hS => ?_)
  refine W.widen (k := 0) (n := 0) (Nat.le_of_ble_eq_true rfl) (Nat.le_of_ble_eq_true rfl) ?_
  exact W.vret hx hb hr (fun t ht hW => ⟨⟨(), rfl, trivial, by show RW _ _ _ _ t.heap; rw [ht]; exact hP.congr fun k hk => by rcases (show k = 0 by omega) with rfl; rfl⟩, hS.F ht⟩) hS.2.2 dX1_init_24
set_option maxRecDepth 100000 in
set_option maxHeartbeats 4000000 in
theorem n_X4_init (l : Launch) (D : va_G) (cI cII cQ cL : ClassId) (h0 : Nat) : NI l yX4_init wsX4_init ({ frames := 1, cells := 5, slots := 2148, locals := 12 } : Room) D cI cII cQ cL h0 4 [.int 0, .null, .null, .null, .int 0, .null, .int 0, .null, .int 0, .int 0, .int 0, .int 0] 6 (ctM cI h0) 5 2148 := by
  refine Met.ofW (cc := cX4_init) (maxL := 1) (ret := none) (by decide) rfl ?_
  intro p e s m args below meth c s₁ B hml hv
  obtain ⟨rfl, hsz, hat, hG⟩ := hv
  have hx := B.exec
  have hb := B.bytes
  have hr := B.returns
  have hts := atoms_spec (ws := wsX4_init) B.pre
  have hown : s.vm.findClass RX4 = some m.cls := findClass_of_methodNamed B.named
  have hlocks := B.notSynchronized
  have hin0 : meth.name = "<init>" := (name_of_methodNamed B.named B.method).1
  have hinX4 : ∀ w ∈ wsX40, w ∈ wsX4_init := by decide +kernel
  have hP : RW D h0 1 (fun _ => .inr (4, [.int 0, .null, .null, .null, .int 0, .null, .int 0, .null, .int 0, .int 0, .int 0, .int 0])) s.heap := RW.start hsz hat
  have hS : va_S (bA h0) s.heap s.heap [] := va_S.rf
  have hl := lv_entry ([.ref h0]) (n := 1) (Nat.le_of_ble_eq_true rfl)
  rw [lg_entry_eq]
  generalize (lg_sl ([.ref h0]) ++ List.replicate (1 - (lg_sl ([.ref h0])).length) Slot.unset).toArray = ls at hl ⊢
  have hl : lv_has ls 1 [(0, .ref h0)] := hl
  refine lv_aload_n hx hb dX4_init_0 rfl (lv_at hl 0 rfl) ?_
  refine W.objInit hx hb hown (hts (.methodLink RX4 1 objectInit) (by decide +kernel)) (hts (.instanceMethod objectInit) (by decide +kernel)) (hts (.code objectInit ⟨#[0xb1]⟩ 1 none) (by decide +kernel)) rfl (by rw [hml]; exact hl.1) rfl dX4_init_1 (Nat.le_of_ble_eq_true rfl) (Nat.le_of_ble_eq_true rfl) ?_
  refine W.eq (g2 := F0 m 4 ls []) rfl ?_
  refine lv_aload_n hx hb dX4_init_4 rfl (lv_at hl 0 rfl) ?_
  refine lv_sipush (v := 232) hx hb dX4_init_5 (by decide) ?_
  refine b_newi (N' := 232) hx hb (hts (.arrayClass .int) (by decide +kernel)) hG.1 hP hS (by decide) (by decide) (by decide) (Nat.le_of_ble_eq_true rfl) (Nat.le_of_ble_eq_true rfl) dX4_init_8 (fun H hP hS => ?_)
  refine b_putF (ci := 4) (fs := [.int 0, .null, .null, .null, .int 0, .null, .int 0, .null, .int 0, .int 0, .int 0, .int 0]) (v := .ref (h0 + 1)) (ty := .array .int) (C := RX4) (T := TX4) (N := 12) hx hb hts hinX4 tyX4 tyX4_ok nmX4 hown hG.1 hP hS 0 (by decide) rfl rfl 1 (by decide) (hts (.fieldLink RX4 7 "LateDovesModel" "z" "[I") (by decide +kernel)) (fun _ h9 => h9) rfl hin0 rfl (by decide +kernel) rfl rfl (Nat.le_of_ble_eq_true rfl) dX4_init_10 (fun H locs hP hS => ?_)
  refine lv_aload_n hx hb dX4_init_13 rfl (lv_at hl 0 rfl) ?_
  refine lv_sipush (v := 232) hx hb dX4_init_14 (by decide) ?_
  refine b_newi (N' := 232) hx hb (hts (.arrayClass .int) (by decide +kernel)) hG.1 hP hS (by decide) (by decide) (by decide) (Nat.le_of_ble_eq_true rfl) (Nat.le_of_ble_eq_true rfl) dX4_init_17 (fun H hP hS => ?_)
  refine b_putF (ci := 4) (fs := [.int 0, .ref (h0 + 1), .null, .null, .int 0, .null, .int 0, .null, .int 0, .int 0, .int 0, .int 0]) (v := .ref (h0 + 2)) (ty := .array .int) (C := RX4) (T := TX4) (N := 12) hx hb hts hinX4 tyX4 tyX4_ok nmX4 hown hG.1 hP hS 0 (by decide) rfl rfl 2 (by decide) (hts (.fieldLink RX4 13 "LateDovesModel" "aside" "[I") (by decide +kernel)) (fun _ h9 => h9) rfl hin0 rfl (by decide +kernel) rfl rfl (Nat.le_of_ble_eq_true rfl) dX4_init_19 (fun H locs hP hS => ?_)
  refine lv_aload_n hx hb dX4_init_22 rfl (lv_at hl 0 rfl) ?_
  refine lv_sipush (v := 1392) hx hb dX4_init_23 (by decide) ?_
  refine b_newi (N' := 1392) hx hb (hts (.arrayClass .int) (by decide +kernel)) hG.1 hP hS (by decide) (by decide) (by decide) (Nat.le_of_ble_eq_true rfl) (Nat.le_of_ble_eq_true rfl) dX4_init_26 (fun H hP hS => ?_)
  refine b_putF (ci := 4) (fs := [.int 0, .ref (h0 + 1), .ref (h0 + 2), .null, .int 0, .null, .int 0, .null, .int 0, .int 0, .int 0, .int 0]) (v := .ref (h0 + 3)) (ty := .array .int) (C := RX4) (T := TX4) (N := 12) hx hb hts hinX4 tyX4 tyX4_ok nmX4 hown hG.1 hP hS 0 (by decide) rfl rfl 3 (by decide) (hts (.fieldLink RX4 16 "LateDovesModel" "saved" "[I") (by decide +kernel)) (fun _ h9 => h9) rfl hin0 rfl (by decide +kernel) rfl rfl (Nat.le_of_ble_eq_true rfl) dX4_init_28 (fun H locs hP hS => ?_)
  refine lv_aload_n hx hb dX4_init_31 rfl (lv_at hl 0 rfl) ?_
  refine lv_sipush (v := 232) hx hb dX4_init_32 (by decide) ?_
  refine b_newi (N' := 232) hx hb (hts (.arrayClass .int) (by decide +kernel)) hG.1 hP hS (by decide) (by decide) (by decide) (Nat.le_of_ble_eq_true rfl) (Nat.le_of_ble_eq_true rfl) dX4_init_35 (fun H hP hS => ?_)
  refine b_putF (ci := 4) (fs := [.int 0, .ref (h0 + 1), .ref (h0 + 2), .ref (h0 + 3), .int 0, .null, .int 0, .null, .int 0, .int 0, .int 0, .int 0]) (v := .ref (h0 + 4)) (ty := .array .int) (C := RX4) (T := TX4) (N := 12) hx hb hts hinX4 tyX4 tyX4_ok nmX4 hown hG.1 hP hS 0 (by decide) rfl rfl 5 (by decide) (hts (.fieldLink RX4 19 "LateDovesModel" "kept" "[I") (by decide +kernel)) (fun _ h9 => h9) rfl hin0 rfl (by decide +kernel) rfl rfl (Nat.le_of_ble_eq_true rfl) dX4_init_37 (fun H locs hP hS => ?_)
  refine lv_aload_n hx hb dX4_init_40 rfl (lv_at hl 0 rfl) ?_
  refine lv_bipush (v := 60) hx hb dX4_init_41 (by decide) ?_
  refine b_newi (N' := 60) hx hb (hts (.arrayClass .int) (by decide +kernel)) hG.1 hP hS (by decide) (by decide) (by decide) (Nat.le_of_ble_eq_true rfl) (Nat.le_of_ble_eq_true rfl) dX4_init_43 (fun H hP hS => ?_)
  refine b_putF (ci := 4) (fs := [.int 0, .ref (h0 + 1), .ref (h0 + 2), .ref (h0 + 3), .int 0, .ref (h0 + 4), .int 0, .null, .int 0, .int 0, .int 0, .int 0]) (v := .ref (h0 + 5)) (ty := .array .int) (C := RX4) (T := TX4) (N := 12) hx hb hts hinX4 tyX4 tyX4_ok nmX4 hown hG.1 hP hS 0 (by decide) rfl rfl 7 (by decide) (hts (.fieldLink RX4 22 "LateDovesModel" "text" "[I") (by decide +kernel)) (fun _ h9 => h9) rfl hin0 rfl (by decide +kernel) rfl rfl (Nat.le_of_ble_eq_true rfl) dX4_init_45 (fun H locs hP hS => ?_)
  refine lv_aload_n hx hb dX4_init_48 rfl (lv_at hl 0 rfl) ?_
  refine va_get (D := D) (ci := 4) (v := .ref (h0 + 1)) (C := RX4) (T := TX4) (N := 12) hx hb hts hinX4 hown hG.1 (hP.one (k := 0) (e := .inr (4, [.int 0, .ref (h0 + 1), .ref (h0 + 2), .ref (h0 + 3), .int 0, .ref (h0 + 4), .int 0, .ref (h0 + 5), .int 0, .int 0, .int 0, .int 0])) (by decide) rfl) 0 rfl rfl 1 (by decide) (hts (.fieldLink RX4 7 "LateDovesModel" "z" "[I") (by decide +kernel)) (fun _ h9 => h9) rfl dX4_init_49 ?_
  refine lv_sipush (v := 170) hx hb dX4_init_52 (by decide) ?_
  refine lv_sipush (v := 1080) hx hb dX4_init_55 (by decide) ?_
  refine b_iast (N := 232) (f := fun _ => 0) hx hb hG.1 hP hS 1 (by decide) rfl (by unfold vp_in; decide) dX4_init_58 (fun H locs hP hS => ?_)
  refine lv_aload_n hx hb dX4_init_59 rfl (lv_at hl 0 rfl) ?_
  refine va_get (D := D) (ci := 4) (v := .ref (h0 + 1)) (C := RX4) (T := TX4) (N := 12) hx hb hts hinX4 hown hG.1 (hP.one (k := 0) (e := .inr (4, [.int 0, .ref (h0 + 1), .ref (h0 + 2), .ref (h0 + 3), .int 0, .ref (h0 + 4), .int 0, .ref (h0 + 5), .int 0, .int 0, .int 0, .int 0])) (by decide) rfl) 0 rfl rfl 1 (by decide) (hts (.fieldLink RX4 7 "LateDovesModel" "z" "[I") (by decide +kernel)) (fun _ h9 => h9) rfl dX4_init_60 ?_
  refine lv_sipush (v := 171) hx hb dX4_init_63 (by decide) ?_
  refine lv_bipush (v := 6) hx hb dX4_init_66 (by decide) ?_
  refine b_iast (N := 232) (f := zU (fun _ => 0) (170 : Int32).toNatClampNeg (1080)) hx hb hG.1 hP hS 1 (by decide) rfl (by unfold vp_in; decide) dX4_init_68 (fun H locs hP hS => ?_)
  refine lv_aload_n hx hb dX4_init_69 rfl (lv_at hl 0 rfl) ?_
  refine va_get (D := D) (ci := 4) (v := .ref (h0 + 1)) (C := RX4) (T := TX4) (N := 12) hx hb hts hinX4 hown hG.1 (hP.one (k := 0) (e := .inr (4, [.int 0, .ref (h0 + 1), .ref (h0 + 2), .ref (h0 + 3), .int 0, .ref (h0 + 4), .int 0, .ref (h0 + 5), .int 0, .int 0, .int 0, .int 0])) (by decide) rfl) 0 rfl rfl 1 (by decide) (hts (.fieldLink RX4 7 "LateDovesModel" "z" "[I") (by decide +kernel)) (fun _ h9 => h9) rfl dX4_init_70 ?_
  refine lv_sipush (v := 178) hx hb dX4_init_73 (by decide) ?_
  refine lv_iconst (v := -1) hx hb dX4_init_76 (by decide) ?_
  refine b_iast (N := 232) (f := zU (zU (fun _ => 0) (170 : Int32).toNatClampNeg (1080)) (171 : Int32).toNatClampNeg (6)) hx hb hG.1 hP hS 1 (by decide) rfl (by unfold vp_in; decide) dX4_init_77 (fun H locs hP hS => ?_)
  refine lv_aload_n hx hb dX4_init_78 rfl (lv_at hl 0 rfl) ?_
  refine va_get (D := D) (ci := 4) (v := .ref (h0 + 1)) (C := RX4) (T := TX4) (N := 12) hx hb hts hinX4 hown hG.1 (hP.one (k := 0) (e := .inr (4, [.int 0, .ref (h0 + 1), .ref (h0 + 2), .ref (h0 + 3), .int 0, .ref (h0 + 4), .int 0, .ref (h0 + 5), .int 0, .int 0, .int 0, .int 0])) (by decide) rfl) 0 rfl rfl 1 (by decide) (hts (.fieldLink RX4 7 "LateDovesModel" "z" "[I") (by decide +kernel)) (fun _ h9 => h9) rfl dX4_init_79 ?_
  refine lv_sipush (v := 179) hx hb dX4_init_82 (by decide) ?_
  refine lv_iconst (v := -1) hx hb dX4_init_85 (by decide) ?_
  refine b_iast (N := 232) (f := zU (zU (zU (fun _ => 0) (170 : Int32).toNatClampNeg (1080)) (171 : Int32).toNatClampNeg (6)) (178 : Int32).toNatClampNeg (-1)) hx hb hG.1 hP hS 1 (by decide) rfl (by unfold vp_in; decide) dX4_init_86 (fun H locs hP hS => ?_)
  have hP6 : RW D h0 6 (ctM cI h0) H := by
    refine hP.ext fun k hk w => ?_
    have hc : k = 0 ∨ k = 1 ∨ k = 2 ∨ k = 3 ∨ k = 4 ∨ k = 5 := by omega
    rcases hc with r | r | r | r | r | r <;> subst r
    · exact w
    · refine ct_ints w fun d hd => ?_
      have e1 : (170 : Int32).toNatClampNeg = 170 := by decide
      have e2 : (171 : Int32).toNatClampNeg = 171 := by decide
      have e3 : (178 : Int32).toNatClampNeg = 178 := by decide
      have e4 : (179 : Int32).toNatClampNeg = 179 := by decide
      rw [e1, e2, e3, e4]
      unfold zU z00
      by_cases q1 : d = 170
      · subst q1; rfl
      · by_cases q2 : d = 171
        · subst q2; rfl
        · by_cases q3 : d = 178
          · subst q3; rfl
          · by_cases q4 : d = 179
            · subst q4; rfl
            · rw [if_neg q4, if_neg q3, if_neg q2, if_neg q1, if_neg q1, if_neg q2, if_neg (by omega)]
    · exact w
    · exact w
    · exact w
    · exact w
  refine W.widen (k := 5) (n := 2148) (Nat.le_of_ble_eq_true rfl) (Nat.le_of_ble_eq_true rfl) ?_
  exact W.vret hx hb hr (fun t ht hW => ⟨⟨(), rfl, trivial, by show RW _ _ _ _ t.heap; rw [ht]; exact hP6⟩, hS.F ht⟩) hS.2.2 dX4_init_87
