/-! the constructor of a cote -/
def cA (cI cII : ClassId) (h0 i : Nat) : Nat → va_E := fun q => if q = 0 then .inr (0, [.ref (h0 + 1), .null, .null, .null, .null, .null, .int 0, .int 0, .int 0, .int 0]) else if q = 1 then .inl (cII, 8, .inr (.inr (.inr (.inr (fun j => if j < 8 then some (h0 + 1 + 1 + j) else none))))) else .inl (cI, 16, .inl (if q = 2 ∨ q = 4 ∨ q = 5 then (fun k => if k < i then -1 else 0) else fun _ => 0))
def cB (cI cII : ClassId) (h0 i : Nat) : Nat → va_E := fun q => if q = 0 then .inr (0, [.ref (h0 + 1), .ref (h0 + 10), .null, .null, .null, .null, .int 0, .int 0, .int 0, .int 0]) else if q = 1 then .inl (cII, 8, .inr (.inr (.inr (.inr (fun j => if j < 8 then some (h0 + 1 + 1 + j) else none))))) else if q < 10 then .inl (cI, 16, .inl (if q = 2 ∨ q = 4 ∨ q = 5 then (fun k => if k < 16 then -1 else 0) else fun _ => 0)) else if q = 10 then .inl (cII, 3, .inr (.inr (.inr (.inr (fun j => if j < 3 then some (h0 + 10 + 1 + j) else none))))) else .inl (cI, 24, .inl (if q = 13 then (fun k => if k < i then 1 else 0) else (fun k => if k < i then -1 else 0)))
def c00 : cSt := fun j k => if j = 2 ∨ j = 4 ∨ j = 5 ∨ j = 11 ∨ j = 12 ∨ j = 16 then -1 else if j = 13 then 1 else if j = 14 then (if k = 0 then 1080 else 6) else 0
def ctC (cI cII : ClassId) (h0 : Nat) (c : cSt) : Nat → va_E := fun j => if j = 0 then .inr (0, [.ref (h0 + 1), .ref (h0 + 10), .ref (h0 + 14), .ref (h0 + 15), .ref (h0 + 16), .ref (h0 + 17), .int (c 0 6), .int (c 0 7), .int (c 0 8), .int (c 0 9)])
  else if j = 1 then .inl (cII, 8, .inr (.inr (.inr (.inr (fun k => some (h0 + (2 + k)))))))
  else if j = 10 then .inl (cII, 3, .inr (.inr (.inr (.inr (fun k => some (h0 + (11 + k)))))))
  else if j = 17 then .inr (2, [.ref (h0 + 18), .ref (h0 + 19), .int (c 17 2)])
  else .inl (cI, gLc j, .inl (c j))
theorem fillOne {f : Nat → Int32} {i d : Nat} {v : Int32} (hi : i < 2 ^ 31) (hf : ∀ k, f k = if k < i then v else 0) : zU f (nI i).toNatClampNeg v d = if d < i + 1 then v else 0 := by
  rw [nI_clamp hi]
  unfold zU
  by_cases h : d = i
  · rw [if_pos h, if_pos (by omega)]
  · rw [if_neg h, hf d]
    by_cases h2 : d < i
    · rw [if_pos h2, if_pos (by omega)]
    · rw [if_neg h2, if_neg (by omega)]
set_option maxRecDepth 100000 in
set_option maxHeartbeats 4000000 in
theorem cote_loop1 {p : Program} {l : Launch} {e : Env} {R : Room} {s : State} {m : MethodId} {args : Array Value} {below : List Frame} {meth : Method} {c : Code} {Q : State → Prop} {D : va_G} {cI cII cQ : ClassId} {h0 cl sl : Nat} {H0 : Heap} (C : CallFix p m c cX0_init 2 s args wsX0_init RX0) (hG : bG D cI cII cQ s) (kk : ∀ (H : Heap) (locs : List Loc) (ls : Array Slot), RW D h0 10 (cA cI cII h0 16) H → va_S (bA h0) H0 H locs → lv_has ls 2 [(1, .int (nI 16)), (0, .ref h0)] → W p l e R s m args below meth c H locs cl sl Q (F0 m 57 ls [])) : ∀ (g i : Nat) (H : Heap) (locs : List Loc) (ls : Array Slot), i + g = 16 → RW D h0 10 (cA cI cII h0 i) H → va_S (bA h0) H0 H locs → lv_has ls 2 [(1, .int (nI i)), (0, .ref h0)] → W p l e R s m args below meth c H locs cl sl Q (F0 m 18 ls []) := by
  obtain ⟨hx, hb, hml, hown, hts⟩ := C
  have hinX0 : ∀ w ∈ wsX00, w ∈ wsX0_init := by decide +kernel
  intro g
  induction g with
  | zero =>
    intro i H locs ls hi hP hS hl
    obtain rfl : i = 16 := by omega
    refine lv_iload_n hx hb dX0_init_18 rfl (lv_at hl 0 rfl) ?_
    refine lv_bipush (v := 16) hx hb dX0_init_19 (by decide) ?_
    refine lv_icmp_ge (tgt := 57) hx hb dX0_init_21 (by decide) (fun hc => ?_) (fun hc => ?_)
    · exact kk H locs ls hP hS hl
    · exact absurd (by decide) hc
  | succ g ih =>
    intro i H locs ls hi hP hS hl
    refine lv_iload_n hx hb dX0_init_18 rfl (lv_at hl 0 rfl) ?_
    refine lv_bipush (v := 16) hx hb dX0_init_19 (by decide) ?_
    refine lv_icmp_ge (tgt := 57) hx hb dX0_init_21 (by decide) (fun hc => ?_) (fun hc => ?_)
    · exact absurd hc (show ¬ (16 : Int32) ≤ nI i from nI_ge (a := i) (b := 16) (by omega) (by omega))
    have hvi : vp_in (nI i) 16 := vp_in_nI (by omega) (by omega)
    refine lv_aload_n hx hb dX0_init_24 rfl (lv_at hl 1 rfl) ?_
    refine va_get (D := D) (ci := 0) (v := .ref (h0 + 1)) (C := RX0) (T := TX0) (N := 10) hx hb hts hinX0 hown hG.1 (hP.one (k := 0) (e := .inr (0, [.ref (h0 + 1), .null, .null, .null, .null, .null, .int 0, .int 0, .int 0, .int 0])) (by decide) rfl) 0 rfl rfl 0 (by decide) (hts (.fieldLink RX0 11 "LateDoves$Cote" "doves" "[[I") (by decide +kernel)) (fun _ h9 => h9) rfl dX0_init_25 ?_
    refine lv_iconst (v := 0) hx hb dX0_init_28 (by decide) ?_
    refine b_aald (N := 8) (f := (fun j => if j < 8 then some (h0 + 1 + 1 + j) else none)) (a := h0 + 2) hx hb hG.1 hP 1 (by decide) rfl (by unfold vp_in; decide) rfl dX0_init_29 ?_
    refine lv_iload_n hx hb dX0_init_30 rfl (lv_at hl 0 rfl) ?_
    refine lv_iconst (v := -1) hx hb dX0_init_31 (by decide) ?_
    refine b_iast (N := 16) (f := (fun k => if k < i then -1 else 0)) hx hb hG.1 hP hS 2 (by decide) rfl hvi dX0_init_32 (fun H locs hP hS => ?_)
    refine lv_aload_n hx hb dX0_init_33 rfl (lv_at hl 1 rfl) ?_
    refine va_get (D := D) (ci := 0) (v := .ref (h0 + 1)) (C := RX0) (T := TX0) (N := 10) hx hb hts hinX0 hown hG.1 (hP.one (k := 0) (e := .inr (0, [.ref (h0 + 1), .null, .null, .null, .null, .null, .int 0, .int 0, .int 0, .int 0])) (by decide) rfl) 0 rfl rfl 0 (by decide) (hts (.fieldLink RX0 11 "LateDoves$Cote" "doves" "[[I") (by decide +kernel)) (fun _ h9 => h9) rfl dX0_init_34 ?_
    refine lv_iconst (v := 2) hx hb dX0_init_37 (by decide) ?_
    refine b_aald (N := 8) (f := (fun j => if j < 8 then some (h0 + 1 + 1 + j) else none)) (a := h0 + 4) hx hb hG.1 hP 1 (by decide) rfl (by unfold vp_in; decide) rfl dX0_init_38 ?_
    refine lv_iload_n hx hb dX0_init_39 rfl (lv_at hl 0 rfl) ?_
    refine lv_iconst (v := -1) hx hb dX0_init_40 (by decide) ?_
    refine b_iast (N := 16) (f := (fun k => if k < i then -1 else 0)) hx hb hG.1 hP hS 4 (by decide) rfl hvi dX0_init_41 (fun H locs hP hS => ?_)
    refine lv_aload_n hx hb dX0_init_42 rfl (lv_at hl 1 rfl) ?_
    refine va_get (D := D) (ci := 0) (v := .ref (h0 + 1)) (C := RX0) (T := TX0) (N := 10) hx hb hts hinX0 hown hG.1 (hP.one (k := 0) (e := .inr (0, [.ref (h0 + 1), .null, .null, .null, .null, .null, .int 0, .int 0, .int 0, .int 0])) (by decide) rfl) 0 rfl rfl 0 (by decide) (hts (.fieldLink RX0 11 "LateDoves$Cote" "doves" "[[I") (by decide +kernel)) (fun _ h9 => h9) rfl dX0_init_43 ?_
    refine lv_iconst (v := 3) hx hb dX0_init_46 (by decide) ?_
    refine b_aald (N := 8) (f := (fun j => if j < 8 then some (h0 + 1 + 1 + j) else none)) (a := h0 + 5) hx hb hG.1 hP 1 (by decide) rfl (by unfold vp_in; decide) rfl dX0_init_47 ?_
    refine lv_iload_n hx hb dX0_init_48 rfl (lv_at hl 0 rfl) ?_
    refine lv_iconst (v := -1) hx hb dX0_init_49 (by decide) ?_
    refine b_iast (N := 16) (f := (fun k => if k < i then -1 else 0)) hx hb hG.1 hP hS 5 (by decide) rfl hvi dX0_init_50 (fun H locs hP hS => ?_)
    refine lv_iinc (k := 0) (v := nI (i + 1)) (lv' := [(1, .int (nI (i + 1))), (0, .ref h0)]) hx hb dX0_init_51 hl rfl (nI_s1 i) (by decide) rfl (fun ls hl => ?_)
    refine lv_goto (tgt := 18) hx hb dX0_init_54 (by decide) ?_
    refine ih (i + 1) H locs ls (by omega) (hP.ext fun k hk w => ?_) hS hl
    have hc : k = 0 ∨ k = 1 ∨ k = 2 ∨ k = 3 ∨ k = 4 ∨ k = 5 ∨ k = 6 ∨ k = 7 ∨ k = 8 ∨ k = 9 := by omega
    rcases hc with r | r | r | r | r | r | r | r | r | r <;> subst r
    · exact w
    · exact w
    · exact ct_ints w fun d _ => fillOne (by omega) fun _ => rfl
    · exact w
    · exact ct_ints w fun d _ => fillOne (by omega) fun _ => rfl
    · exact ct_ints w fun d _ => fillOne (by omega) fun _ => rfl
    · exact w
    · exact w
    · exact w
    · exact w
set_option maxRecDepth 100000 in
set_option maxHeartbeats 4000000 in
theorem cote_loop2 {p : Program} {l : Launch} {e : Env} {R : Room} {s : State} {m : MethodId} {args : Array Value} {below : List Frame} {meth : Method} {c : Code} {Q : State → Prop} {D : va_G} {cI cII cQ : ClassId} {h0 cl sl : Nat} {H0 : Heap} (C : CallFix p m c cX0_init 2 s args wsX0_init RX0) (hG : bG D cI cII cQ s) (kk : ∀ (H : Heap) (locs : List Loc) (ls : Array Slot), RW D h0 14 (cB cI cII h0 24) H → va_S (bA h0) H0 H locs → lv_has ls 2 [(1, .int (nI 24)), (0, .ref h0)] → W p l e R s m args below meth c H locs cl sl Q (F0 m 109 ls [])) : ∀ (g i : Nat) (H : Heap) (locs : List Loc) (ls : Array Slot), i + g = 24 → RW D h0 14 (cB cI cII h0 i) H → va_S (bA h0) H0 H locs → lv_has ls 2 [(1, .int (nI i)), (0, .ref h0)] → W p l e R s m args below meth c H locs cl sl Q (F0 m 70 ls []) := by
  obtain ⟨hx, hb, hml, hown, hts⟩ := C
  have hinX0 : ∀ w ∈ wsX00, w ∈ wsX0_init := by decide +kernel
  intro g
  induction g with
  | zero =>
    intro i H locs ls hi hP hS hl
    obtain rfl : i = 24 := by omega
    refine lv_iload_n hx hb dX0_init_70 rfl (lv_at hl 0 rfl) ?_
    refine lv_bipush (v := 24) hx hb dX0_init_71 (by decide) ?_
    refine lv_icmp_ge (tgt := 109) hx hb dX0_init_73 (by decide) (fun hc => ?_) (fun hc => ?_)
    · exact kk H locs ls hP hS hl
    · exact absurd (by decide) hc
  | succ g ih =>
    intro i H locs ls hi hP hS hl
    refine lv_iload_n hx hb dX0_init_70 rfl (lv_at hl 0 rfl) ?_
    refine lv_bipush (v := 24) hx hb dX0_init_71 (by decide) ?_
    refine lv_icmp_ge (tgt := 109) hx hb dX0_init_73 (by decide) (fun hc => ?_) (fun hc => ?_)
    · exact absurd hc (show ¬ (24 : Int32) ≤ nI i from nI_ge (a := i) (b := 24) (by omega) (by omega))
    have hvi : vp_in (nI i) 24 := vp_in_nI (by omega) (by omega)
    refine lv_aload_n hx hb dX0_init_76 rfl (lv_at hl 1 rfl) ?_
    refine va_get (D := D) (ci := 0) (v := .ref (h0 + 10)) (C := RX0) (T := TX0) (N := 10) hx hb hts hinX0 hown hG.1 (hP.one (k := 0) (e := .inr (0, [.ref (h0 + 1), .ref (h0 + 10), .null, .null, .null, .null, .int 0, .int 0, .int 0, .int 0])) (by decide) rfl) 0 rfl rfl 1 (by decide) (hts (.fieldLink RX0 16 "LateDoves$Cote" "holes" "[[I") (by decide +kernel)) (fun _ h9 => h9) rfl dX0_init_77 ?_
    refine lv_iconst (v := 0) hx hb dX0_init_80 (by decide) ?_
    refine b_aald (N := 3) (f := (fun j => if j < 3 then some (h0 + 10 + 1 + j) else none)) (a := h0 + 11) hx hb hG.1 hP 10 (by decide) rfl (by unfold vp_in; decide) rfl dX0_init_81 ?_
    refine lv_iload_n hx hb dX0_init_82 rfl (lv_at hl 0 rfl) ?_
    refine lv_iconst (v := -1) hx hb dX0_init_83 (by decide) ?_
    refine b_iast (N := 24) (f := (fun k => if k < i then -1 else 0)) hx hb hG.1 hP hS 11 (by decide) rfl hvi dX0_init_84 (fun H locs hP hS => ?_)
    refine lv_aload_n hx hb dX0_init_85 rfl (lv_at hl 1 rfl) ?_
    refine va_get (D := D) (ci := 0) (v := .ref (h0 + 10)) (C := RX0) (T := TX0) (N := 10) hx hb hts hinX0 hown hG.1 (hP.one (k := 0) (e := .inr (0, [.ref (h0 + 1), .ref (h0 + 10), .null, .null, .null, .null, .int 0, .int 0, .int 0, .int 0])) (by decide) rfl) 0 rfl rfl 1 (by decide) (hts (.fieldLink RX0 16 "LateDoves$Cote" "holes" "[[I") (by decide +kernel)) (fun _ h9 => h9) rfl dX0_init_86 ?_
    refine lv_iconst (v := 1) hx hb dX0_init_89 (by decide) ?_
    refine b_aald (N := 3) (f := (fun j => if j < 3 then some (h0 + 10 + 1 + j) else none)) (a := h0 + 12) hx hb hG.1 hP 10 (by decide) rfl (by unfold vp_in; decide) rfl dX0_init_90 ?_
    refine lv_iload_n hx hb dX0_init_91 rfl (lv_at hl 0 rfl) ?_
    refine lv_iconst (v := -1) hx hb dX0_init_92 (by decide) ?_
    refine b_iast (N := 24) (f := (fun k => if k < i then -1 else 0)) hx hb hG.1 hP hS 12 (by decide) rfl hvi dX0_init_93 (fun H locs hP hS => ?_)
    refine lv_aload_n hx hb dX0_init_94 rfl (lv_at hl 1 rfl) ?_
    refine va_get (D := D) (ci := 0) (v := .ref (h0 + 10)) (C := RX0) (T := TX0) (N := 10) hx hb hts hinX0 hown hG.1 (hP.one (k := 0) (e := .inr (0, [.ref (h0 + 1), .ref (h0 + 10), .null, .null, .null, .null, .int 0, .int 0, .int 0, .int 0])) (by decide) rfl) 0 rfl rfl 1 (by decide) (hts (.fieldLink RX0 16 "LateDoves$Cote" "holes" "[[I") (by decide +kernel)) (fun _ h9 => h9) rfl dX0_init_95 ?_
    refine lv_iconst (v := 2) hx hb dX0_init_98 (by decide) ?_
    refine b_aald (N := 3) (f := (fun j => if j < 3 then some (h0 + 10 + 1 + j) else none)) (a := h0 + 13) hx hb hG.1 hP 10 (by decide) rfl (by unfold vp_in; decide) rfl dX0_init_99 ?_
    refine lv_iload_n hx hb dX0_init_100 rfl (lv_at hl 0 rfl) ?_
    refine lv_iconst (v := 1) hx hb dX0_init_101 (by decide) ?_
    refine b_iast (N := 24) (f := (fun k => if k < i then 1 else 0)) hx hb hG.1 hP hS 13 (by decide) rfl hvi dX0_init_102 (fun H locs hP hS => ?_)
    refine lv_iinc (k := 0) (v := nI (i + 1)) (lv' := [(1, .int (nI (i + 1))), (0, .ref h0)]) hx hb dX0_init_103 hl rfl (nI_s1 i) (by decide) rfl (fun ls hl => ?_)
    refine lv_goto (tgt := 70) hx hb dX0_init_106 (by decide) ?_
    refine ih (i + 1) H locs ls (by omega) (hP.ext fun k hk w => ?_) hS hl
    have hc : k = 0 ∨ k = 1 ∨ k = 2 ∨ k = 3 ∨ k = 4 ∨ k = 5 ∨ k = 6 ∨ k = 7 ∨ k = 8 ∨ k = 9 ∨ k = 10 ∨ k = 11 ∨ k = 12 ∨ k = 13 := by omega
    rcases hc with r | r | r | r | r | r | r | r | r | r | r | r | r | r <;> subst r
    · exact w
    · exact w
    · exact w
    · exact w
    · exact w
    · exact w
    · exact w
    · exact w
    · exact w
    · exact w
    · exact w
    · exact ct_ints w fun d _ => fillOne (by omega) fun _ => rfl
    · exact ct_ints w fun d _ => fillOne (by omega) fun _ => rfl
    · exact ct_ints w fun d _ => fillOne (by omega) fun _ => rfl
set_option maxRecDepth 100000 in
set_option maxHeartbeats 4000000 in
theorem n_X0_init (l : Launch) (D : va_G) (cI cII cQ : ClassId) (h0 : Nat) : NI l yX0_init wsX0_init ({ frames := 2, cells := 19, slots := 272, locals := 32 } : Room) D cI cII cQ h0 0 [.null, .null, .null, .null, .null, .null, .int 0, .int 0, .int 0, .int 0] 20 (ctC cI cII h0 c00) 19 272 := by
  refine Met.ofW (cc := cX0_init) (maxL := 2) (ret := none) (by decide) rfl ?_
  intro p e s m args below meth c s₁ B hml hv
  obtain ⟨rfl, hsz, hat, hG⟩ := hv
  have hx := B.exec
  have hb := B.bytes
  have hr := B.returns
  have hts := atoms_spec (ws := wsX0_init) B.pre
  have hown : s.vm.findClass RX0 = some m.cls := findClass_of_methodNamed B.named
  have hlocks := B.notSynchronized
  have hin0 : meth.name = "<init>" := (name_of_methodNamed B.named B.method).1
  have hinX0 : ∀ w ∈ wsX00, w ∈ wsX0_init := by decide +kernel
  have hinX2 : ∀ w ∈ wsX20, w ∈ wsX0_init := by decide +kernel
  have hP : RW D h0 1 (fun _ => .inr (0, [.null, .null, .null, .null, .null, .null, .int 0, .int 0, .int 0, .int 0])) s.heap := RW.start hsz hat
  have hS : va_S (bA h0) s.heap s.heap [] := va_S.rf
  have hl := lv_entry ([.ref h0]) (n := 2) (Nat.le_of_ble_eq_true rfl)
  rw [lg_entry_eq]
  generalize (lg_sl ([.ref h0]) ++ List.replicate (2 - (lg_sl ([.ref h0])).length) Slot.unset).toArray = ls at hl ⊢
  have hl : lv_has ls 2 [(0, .ref h0)] := hl
  refine lv_aload_n hx hb dX0_init_0 rfl (lv_at hl 0 rfl) ?_
  refine W.objInit hx hb hown (hts (.methodLink RX0 3 objectInit) (by decide +kernel)) (hts (.instanceMethod objectInit) (by decide +kernel)) (hts (.code objectInit ⟨#[0xb1]⟩ 1 none) (by decide +kernel)) rfl (by rw [hml]; exact hl.1) rfl dX0_init_1 (Nat.le_of_ble_eq_true rfl) (Nat.le_of_ble_eq_true rfl) ?_
  refine W.eq (g2 := F0 m 4 ls []) rfl ?_
  refine lv_aload_n hx hb dX0_init_4 rfl (lv_at hl 0 rfl) ?_
  refine lv_bipush (v := 8) hx hb dX0_init_5 (by decide) ?_
  refine lv_bipush (v := 16) hx hb dX0_init_7 (by decide) ?_
  refine b_mna (N' := 8) (K' := 16) hx hb hown (hts (.classLink RX0 9 "[[I") (by decide +kernel)) (hts (.arrayClass .int) (by decide +kernel)) hG hP hS (by decide) (by decide) (by decide) (by decide) (by decide) (by decide) (Nat.le_of_ble_eq_true rfl) (Nat.le_of_ble_eq_true rfl) dX0_init_9 (fun H hP hS => ?_)
  refine b_putF (ci := 0) (fs := [.null, .null, .null, .null, .null, .null, .int 0, .int 0, .int 0, .int 0]) (v := .ref (h0 + 1)) (ty := .array (.array .int)) (C := RX0) (T := TX0) (N := 10) hx hb hts hinX0 tyX0 tyX0_ok nmX0 hown hG.1 hP hS 0 (by decide) rfl rfl 0 (by decide) (hts (.fieldLink RX0 11 "LateDoves$Cote" "doves" "[[I") (by decide +kernel)) (fun _ h9 => h9) rfl hin0 rfl (by decide +kernel) rfl rfl (Nat.le_of_ble_eq_true rfl) dX0_init_13 (fun H locs hP hS => ?_)
  refine lv_iconst (v := 0) hx hb dX0_init_16 (by decide) ?_
  refine lv_istore_n (lv' := [(1, .int 0), (0, .ref h0)]) hx hb dX0_init_17 rfl hl (by decide) rfl (fun ls hl => ?_)
  refine W.widen (k := 9) (n := 136) (Nat.le_of_ble_eq_true rfl) (Nat.le_of_ble_eq_true rfl) ?_
  refine cote_loop1 ⟨hx, hb, hml, hown, hts⟩ hG (fun H locs ls hP hS hl => ?_) 16 0 H locs ls rfl (hP.ext fun k hk w => ?_) hS hl
  rotate_left
  · have hc : k = 0 ∨ k = 1 ∨ k = 2 ∨ k = 3 ∨ k = 4 ∨ k = 5 ∨ k = 6 ∨ k = 7 ∨ k = 8 ∨ k = 9 := by omega
    rcases hc with r | r | r | r | r | r | r | r | r | r <;> subst r
    · exact w
    · exact w
    · exact ct_ints w fun d _ => by simp
    · exact w
    · exact ct_ints w fun d _ => by simp
    · exact ct_ints w fun d _ => by simp
    · exact w
    · exact w
    · exact w
    · exact w
  refine lv_aload_n hx hb dX0_init_57 rfl (lv_at hl 1 rfl) ?_
  refine lv_iconst (v := 3) hx hb dX0_init_58 (by decide) ?_
  refine lv_bipush (v := 24) hx hb dX0_init_59 (by decide) ?_
  refine b_mna (N' := 3) (K' := 24) hx hb hown (hts (.classLink RX0 9 "[[I") (by decide +kernel)) (hts (.arrayClass .int) (by decide +kernel)) hG hP hS (by decide) (by decide) (by decide) (by decide) (by decide) (by decide) (Nat.le_of_ble_eq_true rfl) (Nat.le_of_ble_eq_true rfl) dX0_init_61 (fun H hP hS => ?_)
  refine b_putF (ci := 0) (fs := [.ref (h0 + 1), .null, .null, .null, .null, .null, .int 0, .int 0, .int 0, .int 0]) (v := .ref (h0 + 10)) (ty := .array (.array .int)) (C := RX0) (T := TX0) (N := 10) hx hb hts hinX0 tyX0 tyX0_ok nmX0 hown hG.1 hP hS 0 (by decide) rfl rfl 1 (by decide) (hts (.fieldLink RX0 16 "LateDoves$Cote" "holes" "[[I") (by decide +kernel)) (fun _ h9 => h9) rfl hin0 rfl (by decide +kernel) rfl rfl (Nat.le_of_ble_eq_true rfl) dX0_init_65 (fun H locs hP hS => ?_)
  refine lv_iconst (v := 0) hx hb dX0_init_68 (by decide) ?_
  refine lv_istore_n (lv' := [(1, .int 0), (0, .ref h0)]) hx hb dX0_init_69 rfl hl (by decide) rfl (fun ls hl => ?_)
  refine W.widen (k := 13) (n := 211) (Nat.le_of_ble_eq_true rfl) (Nat.le_of_ble_eq_true rfl) ?_
  refine cote_loop2 ⟨hx, hb, hml, hown, hts⟩ hG (fun H locs ls hP hS hl => ?_) 24 0 H locs ls rfl (hP.ext fun k hk w => ?_) hS hl
  rotate_left
  · have hc : k = 0 ∨ k = 1 ∨ k = 2 ∨ k = 3 ∨ k = 4 ∨ k = 5 ∨ k = 6 ∨ k = 7 ∨ k = 8 ∨ k = 9 ∨ k = 10 ∨ k = 11 ∨ k = 12 ∨ k = 13 := by omega
    rcases hc with r | r | r | r | r | r | r | r | r | r | r | r | r | r <;> subst r
    · exact w
    · exact w
    · exact w
    · exact w
    · exact w
    · exact w
    · exact w
    · exact w
    · exact w
    · exact w
    · exact w
    · exact ct_ints w fun d _ => by simp
    · exact ct_ints w fun d _ => by simp
    · exact ct_ints w fun d _ => by simp
  refine lv_aload_n hx hb dX0_init_109 rfl (lv_at hl 1 rfl) ?_
  refine lv_iconst (v := 2) hx hb dX0_init_110 (by decide) ?_
  refine b_newi (N' := 2) hx hb (hts (.arrayClass .int) (by decide +kernel)) hG.1 hP hS (by decide) (by decide) (by decide) (Nat.le_of_ble_eq_true rfl) (Nat.le_of_ble_eq_true rfl) dX0_init_111 (fun H hP hS => ?_)
  refine b_putF (ci := 0) (fs := [.ref (h0 + 1), .ref (h0 + 10), .null, .null, .null, .null, .int 0, .int 0, .int 0, .int 0]) (v := .ref (h0 + 14)) (ty := .array .int) (C := RX0) (T := TX0) (N := 10) hx hb hts hinX0 tyX0 tyX0_ok nmX0 hown hG.1 hP hS 0 (by decide) rfl rfl 2 (by decide) (hts (.fieldLink RX0 19 "LateDoves$Cote" "settings" "[I") (by decide +kernel)) (fun _ h9 => h9) rfl hin0 rfl (by decide +kernel) rfl rfl (Nat.le_of_ble_eq_true rfl) dX0_init_113 (fun H locs hP hS => ?_)
  refine lv_aload_n hx hb dX0_init_116 rfl (lv_at hl 1 rfl) ?_
  refine va_get (D := D) (ci := 0) (v := .ref (h0 + 14)) (C := RX0) (T := TX0) (N := 10) hx hb hts hinX0 hown hG.1 (hP.one (k := 0) (e := .inr (0, [.ref (h0 + 1), .ref (h0 + 10), .ref (h0 + 14), .null, .null, .null, .int 0, .int 0, .int 0, .int 0])) (by decide) rfl) 0 rfl rfl 2 (by decide) (hts (.fieldLink RX0 19 "LateDoves$Cote" "settings" "[I") (by decide +kernel)) (fun _ h9 => h9) rfl dX0_init_117 ?_
  refine lv_iconst (v := 0) hx hb dX0_init_120 (by decide) ?_
  refine lv_sipush (v := 1080) hx hb dX0_init_121 (by decide) ?_
  refine b_iast (N := 2) (f := fun _ => 0) hx hb hG.1 hP hS 14 (by decide) rfl (by unfold vp_in; decide) dX0_init_124 (fun H locs hP hS => ?_)
  refine lv_aload_n hx hb dX0_init_125 rfl (lv_at hl 1 rfl) ?_
  refine va_get (D := D) (ci := 0) (v := .ref (h0 + 14)) (C := RX0) (T := TX0) (N := 10) hx hb hts hinX0 hown hG.1 (hP.one (k := 0) (e := .inr (0, [.ref (h0 + 1), .ref (h0 + 10), .ref (h0 + 14), .null, .null, .null, .int 0, .int 0, .int 0, .int 0])) (by decide) rfl) 0 rfl rfl 2 (by decide) (hts (.fieldLink RX0 19 "LateDoves$Cote" "settings" "[I") (by decide +kernel)) (fun _ h9 => h9) rfl dX0_init_126 ?_
  refine lv_iconst (v := 1) hx hb dX0_init_129 (by decide) ?_
  refine lv_bipush (v := 6) hx hb dX0_init_130 (by decide) ?_
  refine b_iast (N := 2) (f := zU (fun _ => 0) (0 : Int32).toNatClampNeg 1080) hx hb hG.1 hP hS 14 (by decide) rfl (by unfold vp_in; decide) dX0_init_132 (fun H locs hP hS => ?_)
  refine lv_aload_n hx hb dX0_init_133 rfl (lv_at hl 1 rfl) ?_
  refine lv_iconst (v := 4) hx hb dX0_init_134 (by decide) ?_
  refine b_newi (N' := 4) hx hb (hts (.arrayClass .int) (by decide +kernel)) hG.1 hP hS (by decide) (by decide) (by decide) (Nat.le_of_ble_eq_true rfl) (Nat.le_of_ble_eq_true rfl) dX0_init_135 (fun H hP hS => ?_)
  refine b_putF (ci := 0) (fs := [.ref (h0 + 1), .ref (h0 + 10), .ref (h0 + 14), .null, .null, .null, .int 0, .int 0, .int 0, .int 0]) (v := .ref (h0 + 15)) (ty := .array .int) (C := RX0) (T := TX0) (N := 10) hx hb hts hinX0 tyX0 tyX0_ok nmX0 hown hG.1 hP hS 0 (by decide) rfl rfl 3 (by decide) (hts (.fieldLink RX0 23 "LateDoves$Cote" "atDawn" "[I") (by decide +kernel)) (fun _ h9 => h9) rfl hin0 rfl (by decide +kernel) rfl rfl (Nat.le_of_ble_eq_true rfl) dX0_init_137 (fun H locs hP hS => ?_)
  refine lv_aload_n hx hb dX0_init_140 rfl (lv_at hl 1 rfl) ?_
  refine lv_iconst (v := 2) hx hb dX0_init_141 (by decide) ?_
  refine b_newi (N' := 2) hx hb (hts (.arrayClass .int) (by decide +kernel)) hG.1 hP hS (by decide) (by decide) (by decide) (Nat.le_of_ble_eq_true rfl) (Nat.le_of_ble_eq_true rfl) dX0_init_142 (fun H hP hS => ?_)
  refine b_putF (ci := 0) (fs := [.ref (h0 + 1), .ref (h0 + 10), .ref (h0 + 14), .ref (h0 + 15), .null, .null, .int 0, .int 0, .int 0, .int 0]) (v := .ref (h0 + 16)) (ty := .array .int) (C := RX0) (T := TX0) (N := 10) hx hb hts hinX0 tyX0 tyX0_ok nmX0 hown hG.1 hP hS 0 (by decide) rfl rfl 4 (by decide) (hts (.fieldLink RX0 26 "LateDoves$Cote" "stop" "[I") (by decide +kernel)) (fun _ h9 => h9) rfl hin0 rfl (by decide +kernel) rfl rfl (Nat.le_of_ble_eq_true rfl) dX0_init_144 (fun H locs hP hS => ?_)
  refine lv_aload_n hx hb dX0_init_147 rfl (lv_at hl 1 rfl) ?_
  refine va_get (D := D) (ci := 0) (v := .ref (h0 + 16)) (C := RX0) (T := TX0) (N := 10) hx hb hts hinX0 hown hG.1 (hP.one (k := 0) (e := .inr (0, [.ref (h0 + 1), .ref (h0 + 10), .ref (h0 + 14), .ref (h0 + 15), .ref (h0 + 16), .null, .int 0, .int 0, .int 0, .int 0])) (by decide) rfl) 0 rfl rfl 4 (by decide) (hts (.fieldLink RX0 26 "LateDoves$Cote" "stop" "[I") (by decide +kernel)) (fun _ h9 => h9) rfl dX0_init_148 ?_
  refine lv_iconst (v := 0) hx hb dX0_init_151 (by decide) ?_
  refine lv_iconst (v := -1) hx hb dX0_init_152 (by decide) ?_
  refine b_iast (N := 2) (f := fun _ => 0) hx hb hG.1 hP hS 16 (by decide) rfl (by unfold vp_in; decide) dX0_init_153 (fun H locs hP hS => ?_)
  refine lv_aload_n hx hb dX0_init_154 rfl (lv_at hl 1 rfl) ?_
  refine va_get (D := D) (ci := 0) (v := .ref (h0 + 16)) (C := RX0) (T := TX0) (N := 10) hx hb hts hinX0 hown hG.1 (hP.one (k := 0) (e := .inr (0, [.ref (h0 + 1), .ref (h0 + 10), .ref (h0 + 14), .ref (h0 + 15), .ref (h0 + 16), .null, .int 0, .int 0, .int 0, .int 0])) (by decide) rfl) 0 rfl rfl 4 (by decide) (hts (.fieldLink RX0 26 "LateDoves$Cote" "stop" "[I") (by decide +kernel)) (fun _ h9 => h9) rfl dX0_init_155 ?_
  refine lv_iconst (v := 1) hx hb dX0_init_158 (by decide) ?_
  refine lv_iconst (v := -1) hx hb dX0_init_159 (by decide) ?_
  refine b_iast (N := 2) (f := zU (fun _ => 0) (0 : Int32).toNatClampNeg (-1)) hx hb hG.1 hP hS 16 (by decide) rfl (by unfold vp_in; decide) dX0_init_160 (fun H locs hP hS => ?_)
  refine lv_aload_n hx hb dX0_init_161 rfl (lv_at hl 1 rfl) ?_
  refine b_new (ci := 2) (fs := [.null, .null, .int 0]) (C := RX2) (T := TX2) (N := 3) hx hb hts hinX2 tyX2 tyX2_ok hown (hts (.classLink RX0 29 RX2) (by decide +kernel)) (hts (.instantiable RX2 3) (by decide +kernel)) (hts (.initialized RX2) (by decide +kernel)) hG.1 hP hS rfl (fun j hj => by rcases (show j = 0 ∨ j = 1 ∨ j = 2 by omega) with rfl | rfl | rfl <;> rfl) (Nat.le_of_ble_eq_true rfl) (Nat.le_of_ble_eq_true rfl) dX0_init_162 (fun H hP hS => ?_)
  refine lv_dup hx hb dX0_init_165 rfl ?_
  refine b_init (n0 := 17) (rest := [.ref (h0 + 17), .ref h0]) ⟨hx, hb, hml, hown, hts⟩ (n_X2_init l D cI cII cQ (h0 + (17))) (cwI 0 hts gX0_init_X2_init rfl rfl rfl (hts (.initialized RX2) (by decide +kernel)) (hts (.methodLink RX0 31 yX2_init) (by decide +kernel)) (hts (.instanceMethod yX2_init) (by decide +kernel)) rfl (by decide +kernel) ⟨(Nat.le_of_ble_eq_true rfl), (Nat.le_of_ble_eq_true rfl)⟩) hG hP rfl hS hl.1 (Nat.le_of_ble_eq_true rfl) dX0_init_166 ⟨(Nat.le_of_ble_eq_true rfl), (Nat.le_of_ble_eq_true rfl)⟩ (fun H locs hP hS => ?_)
  refine b_putF (ci := 0) (fs := [.ref (h0 + 1), .ref (h0 + 10), .ref (h0 + 14), .ref (h0 + 15), .ref (h0 + 16), .null, .int 0, .int 0, .int 0, .int 0]) (v := .ref (h0 + 17)) (ty := .object "LateDoves$Way") (C := RX0) (T := TX0) (N := 10) hx hb hts hinX0 tyX0 tyX0_ok nmX0 hown hG.1 hP hS 0 (by decide) rfl rfl 5 (by decide) (hts (.fieldLink RX0 32 "LateDoves$Cote" "way" "LLateDoves$Way;") (by decide +kernel)) (fun _ h9 => h9) rfl hin0 rfl (by decide +kernel) rfl rfl (Nat.le_of_ble_eq_true rfl) dX0_init_169 (fun H locs hP hS => ?_)
  have hP20 : RW D h0 20 (ctC cI cII h0 c00) H := by
    refine hP.ext fun k hk w => ?_
    have hc : k = 0 ∨ k = 1 ∨ k = 2 ∨ k = 3 ∨ k = 4 ∨ k = 5 ∨ k = 6 ∨ k = 7 ∨ k = 8 ∨ k = 9 ∨ k = 10 ∨ k = 11 ∨ k = 12 ∨ k = 13 ∨ k = 14 ∨ k = 15 ∨ k = 16 ∨ k = 17 ∨ k = 18 ∨ k = 19 := by omega
    rcases hc with r | r | r | r | r | r | r | r | r | r | r | r | r | r | r | r | r | r | r | r <;> subst r
    · exact w
    · refine ct_refs w fun d hd => ?_
      show (if d < 8 then some (h0 + 1 + 1 + d) else none) = some (h0 + (2 + d))
      rw [if_pos hd]; congr 1; omega
    · refine ct_ints w fun d hd => ?_
      show (if d < 16 then (-1 : Int32) else 0) = -1
      rw [if_pos (show d < 16 from hd)]
    · exact w
    · refine ct_ints w fun d hd => ?_
      show (if d < 16 then (-1 : Int32) else 0) = -1
      rw [if_pos (show d < 16 from hd)]
    · refine ct_ints w fun d hd => ?_
      show (if d < 16 then (-1 : Int32) else 0) = -1
      rw [if_pos (show d < 16 from hd)]
    · exact w
    · exact w
    · exact w
    · exact w
    · refine ct_refs w fun d hd => ?_
      show (if d < 3 then some (h0 + 10 + 1 + d) else none) = some (h0 + (11 + d))
      rw [if_pos hd]; congr 1; omega
    · refine ct_ints w fun d hd => ?_
      show (if d < 24 then (-1 : Int32) else 0) = -1
      rw [if_pos (show d < 24 from hd)]
    · refine ct_ints w fun d hd => ?_
      show (if d < 24 then (-1 : Int32) else 0) = -1
      rw [if_pos (show d < 24 from hd)]
    · refine ct_ints w fun d hd => ?_
      show (if d < 24 then (1 : Int32) else 0) = 1
      rw [if_pos (show d < 24 from hd)]
    · refine ct_ints w fun d hd => ?_
      have hd2 : d < 2 := hd
      rcases (show d = 0 ∨ d = 1 by omega) with rfl | rfl <;> decide
    · exact w
    · refine ct_ints w fun d hd => ?_
      have hd2 : d < 2 := hd
      rcases (show d = 0 ∨ d = 1 by omega) with rfl | rfl <;> decide
    · exact w
    · exact w
    · exact w
  refine W.widen (k := 19) (n := 272) (Nat.le_of_ble_eq_true rfl) (Nat.le_of_ble_eq_true rfl) ?_
  exact W.vret hx hb hr (fun t ht hW => ⟨⟨(), rfl, trivial, by show RW _ _ _ _ t.heap; rw [ht]; exact hP20⟩, hS.F ht⟩) hS.2.2 dX0_init_172
