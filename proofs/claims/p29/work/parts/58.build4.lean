/-! the constructor of the class -/
theorem ctJ_lt {ct ct2 : Nat → va_E} {n q : Nat} (h : q < n) : ctJ ct n ct2 q = ct q := if_pos h
theorem ctJ_ge {ct ct2 : Nat → va_E} {n q : Nat} (h : n ≤ q) : ctJ ct n ct2 q = ct2 (q - n) := if_neg (Nat.not_lt.mpr h)
def ctQ (h0 i : Nat) : Nat → Option Nat := fun k => if k < i then some (h0 + (62 + 20 * k)) else none
def ctT0 (cI cII : ClassId) (h0 q : Nat) : va_E := if q < 21 then ctC cI cII (h0 + 1) c00 (q - 1) else if q < 41 then ctC cI cII (h0 + 21) c00 (q - 21) else if q < 61 then ctC cI cII (h0 + 41) c00 (q - 41) else ctC cI cII (h0 + (62 + 20 * ((q - 62) / 20))) c00 ((q - 62) % 20)
def ctL (cI cII cQ : ClassId) (h0 i : Nat) : Nat → va_E := fun q => if q = 0 then .inr (3, [.ref (h0 + 1), .ref (h0 + 21), .ref (h0 + 41), .int 0, .ref (h0 + 61), .int 0, .null, .int 0, .null]) else if q = 61 then .inl (cQ, 6, .inr (.inr (.inr (.inr (ctQ h0 i))))) else ctT0 cI cII h0 q
def ctT (cI cII cQ : ClassId) (h0 : Nat) : Nat → va_E := fun q => if q = 0 then .inr (3, [.ref (h0 + 1), .ref (h0 + 21), .ref (h0 + 41), .int 0, .ref (h0 + 61), .int 0, .ref (h0 + 182), .int 0, .ref (h0 + 183)]) else if q = 61 then .inl (cQ, 6, .inr (.inr (.inr (.inr (fun k => some (h0 + (62 + 20 * k))))))) else if q = 182 then .inl (cI, 60, .inl (fun _ => 0)) else if q = 183 then .inr (1, [.int 0, .int 0, .int (-1), .int (-1)]) else ctT0 cI cII h0 q
set_option maxRecDepth 100000 in
set_option maxHeartbeats 4000000 in
theorem doves_loop {p : Program} {l : Launch} {e : Env} {s : State} {m : MethodId} {args : Array Value} {below : List Frame} {meth : Method} {c : Code} {Q : State → Prop} {D : va_G} {cI cII cQ : ClassId} {h0 : Nat} {H0 : Heap} (C : CallFix p m c cX3_init 2 s args wsX3_init RX3) (hG : bG D cI cII cQ s) (kk : ∀ (H : Heap) (locs : List Loc) (ls : Array Slot), RW D h0 182 (ctL cI cII cQ h0 6) H → va_S (bA h0) H0 H locs → lv_has ls 2 [(1, .int (nI 6)), (0, .ref h0)] → W p l e ({ frames := 3, cells := 183, slots := 2608, locals := 53 } : Room) s m args below meth c H locs 181 2544 Q (F0 m 78 ls [])) : ∀ (g i : Nat) (H : Heap) (locs : List Loc) (ls : Array Slot), i + g = 6 → RW D h0 (62 + 20 * i) (ctL cI cII cQ h0 i) H → va_S (bA h0) H0 H locs → lv_has ls 2 [(1, .int (nI i)), (0, .ref h0)] → W p l e ({ frames := 3, cells := 183, slots := 2608, locals := 53 } : Room) s m args below meth c H locs (61 + 20 * i) (852 + 282 * i) Q (F0 m 53 ls []) := by
  obtain ⟨hx, hb, hml, hown, hts⟩ := C
  have hinX0 : ∀ w ∈ wsX00, w ∈ wsX3_init := by decide +kernel
  have hinX1 : ∀ w ∈ wsX10, w ∈ wsX3_init := by decide +kernel
  have hinX2 : ∀ w ∈ wsX20, w ∈ wsX3_init := by decide +kernel
  have hinX3 : ∀ w ∈ wsX30, w ∈ wsX3_init := by decide +kernel
  intro g
  induction g with
  | zero =>
    intro i H locs ls hi hP hS hl
    obtain rfl : i = 6 := by omega
    refine lv_iload_n hx hb dX3_init_53 rfl (lv_at hl 0 rfl) ?_
    refine lv_bipush (v := 6) hx hb dX3_init_54 (by decide) ?_
    refine lv_icmp_ge (tgt := 78) hx hb dX3_init_56 (by decide) (fun hc => ?_) (fun hc => ?_)
    · exact kk H locs ls hP hS hl
    · exact absurd (by decide) hc
  | succ g ih =>
    intro i H locs ls hi hP hS hl
    refine lv_iload_n hx hb dX3_init_53 rfl (lv_at hl 0 rfl) ?_
    refine lv_bipush (v := 6) hx hb dX3_init_54 (by decide) ?_
    refine lv_icmp_ge (tgt := 78) hx hb dX3_init_56 (by decide) (fun hc => ?_) (fun hc => ?_)
    · exact absurd hc (show ¬ (6 : Int32) ≤ nI i from nI_ge (a := i) (b := 6) (by omega) (by omega))
    refine lv_aload_n hx hb dX3_init_59 rfl (lv_at hl 1 rfl) ?_
    refine va_get (D := D) (ci := 3) (v := .ref (h0 + 61)) (C := RX3) (T := TX3) (N := 9) hx hb hts hinX3 hown hG.1 (hP.one (k := 0) (e := .inr (3, [.ref (h0 + 1), .ref (h0 + 21), .ref (h0 + 41), .int 0, .ref (h0 + 61), .int 0, .null, .int 0, .null])) (by omega) rfl) 0 rfl rfl 4 (by decide) (hts (.fieldLink RX3 26 "LateDoves" "saved" "[LLateDoves$Cote;") (by decide +kernel)) (fun _ h9 => h9) rfl dX3_init_60 ?_
    refine lv_iload_n hx hb dX3_init_63 rfl (lv_at hl 0 rfl) ?_
    refine b_new (ci := 0) (fs := [.null, .null, .null, .null, .null, .null, .int 0, .int 0, .int 0, .int 0]) (C := RX0) (T := TX0) (N := 10) hx hb hts hinX0 tyX0 tyX0_ok hown (hts (.classLink RX3 7 RX0) (by decide +kernel)) (hts (.instantiable RX0 10) (by decide +kernel)) (hts (.initialized RX0) (by decide +kernel)) hG.1 hP hS rfl (fun j hj => by rcases (show j = 0 ∨ j = 1 ∨ j = 2 ∨ j = 3 ∨ j = 4 ∨ j = 5 ∨ j = 6 ∨ j = 7 ∨ j = 8 ∨ j = 9 by omega) with rfl | rfl | rfl | rfl | rfl | rfl | rfl | rfl | rfl | rfl <;> rfl) (by show 61 + 20 * i + 1 ≤ 183; omega) (by show 852 + 282 * i + 10 ≤ 2608; omega) dX3_init_64 (fun H hP hS => ?_)
    refine lv_dup hx hb dX3_init_67 rfl ?_
    refine b_init (n0 := 62 + 20 * i) (rest := [.ref (h0 + (62 + 20 * i)), .int (nI i), .ref (h0 + 61)]) ⟨hx, hb, hml, hown, hts⟩ (n_X0_init l D cI cII cQ (h0 + (62 + 20 * i))) (cwI 0 hts gX3_init_X0_init rfl rfl rfl (hts (.initialized RX0) (by decide +kernel)) (hts (.methodLink RX3 9 yX0_init) (by decide +kernel)) (hts (.instanceMethod yX0_init) (by decide +kernel)) rfl (by decide +kernel) ⟨(Nat.le_of_ble_eq_true rfl), (Nat.le_of_ble_eq_true rfl)⟩) hG hP ctU_at hS hl.1 (Nat.le_of_ble_eq_true rfl) dX3_init_68 ⟨(by show 61 + 20 * i + 1 + 19 ≤ 183; omega), (by show 852 + 282 * i + 10 + 272 ≤ 2608; omega)⟩ (fun H locs hP hS => ?_)
    refine b_aast (N := 6) (f := ctQ h0 i) (vs := [.ref (h0 + (62 + 20 * i) + 1), .ref (h0 + (62 + 20 * i) + 10), .ref (h0 + (62 + 20 * i) + 14), .ref (h0 + (62 + 20 * i) + 15), .ref (h0 + (62 + 20 * i) + 16), .ref (h0 + (62 + 20 * i) + 17), .int (c00 0 6), .int (c00 0 7), .int (c00 0 8), .int (c00 0 9)]) hx hb hG.1 hP hS 61 (62 + 20 * i) (by omega) (by omega) ((ctJ_lt (by omega)).trans ((ctU_ne (by omega)).trans rfl)) ((ctJ_ge (Nat.le_refl _)).trans (by rw [Nat.sub_self]; rfl)) (vp_in_nI (by omega) (by omega)) dX3_init_71 (fun H locs hP hS => ?_)
    refine lv_iinc (k := 0) (v := nI (i + 1)) (lv' := [(1, .int (nI (i + 1))), (0, .ref h0)]) hx hb dX3_init_72 hl rfl (nI_s1 i) (by decide) rfl (fun ls hl => ?_)
    refine lv_goto (tgt := 53) hx hb dX3_init_75 (by decide) ?_
    refine W.widen (k := 61 + 20 * (i + 1)) (n := 852 + 282 * (i + 1)) (by omega) (by omega) ?_
    have e20 : 62 + 20 * i + 20 = 62 + 20 * (i + 1) := by omega
    rw [e20] at hP
    refine ih (i + 1) H locs ls (by omega) (hP.ext fun k hk w => ?_) hS hl
    by_cases k0 : k = 0
    · subst k0
      rw [ctU_ne (by omega), ctJ_lt (by omega), ctU_ne (by omega)] at w
      exact w
    · by_cases k61 : k = 61
      · subst k61
        rw [ctU_at] at w
        refine ct_refs w fun d hd => ?_
        unfold va_up ctQ
        rw [nI_clamp (by omega)]
        by_cases hc : d = i
        · rw [if_pos hc, if_pos (by omega), hc]
        · rw [if_neg hc]
          by_cases h2 : d < i
          · rw [if_pos h2, if_pos (by omega)]
          · rw [if_neg h2, if_neg (by omega)]
      · rw [ctU_ne k61] at w
        have e : ctL cI cII cQ h0 (i + 1) k = ctT0 cI cII h0 k := by unfold ctL; rw [if_neg k0, if_neg k61]
        rw [e]
        by_cases h2 : k < 62 + 20 * i
        · rw [ctJ_lt h2, ctU_ne (by omega)] at w
          have e2 : ctL cI cII cQ h0 i k = ctT0 cI cII h0 k := by unfold ctL; rw [if_neg k0, if_neg k61]
          rw [e2] at w
          exact w
        · rw [ctJ_ge (by omega)] at w
          unfold ctT0
          rw [if_neg (by omega), if_neg (by omega), if_neg (by omega), show (k - 62) / 20 = i by omega, show (k - 62) % 20 = k - (62 + 20 * i) by omega]
          exact w
set_option maxRecDepth 100000 in
set_option maxHeartbeats 4000000 in
theorem n_X3_init (l : Launch) (D : va_G) (cI cII cQ : ClassId) (h0 : Nat) : NI l yX3_init wsX3_init ({ frames := 3, cells := 183, slots := 2608, locals := 53 } : Room) D cI cII cQ h0 3 [.null, .null, .null, .int 0, .null, .int 0, .null, .int 0, .null] 184 (ctT cI cII cQ h0) 183 2608 := by
  refine Met.ofW (cc := cX3_init) (maxL := 2) (ret := none) (by decide) rfl ?_
  intro p e s m args below meth c s₁ B hml hv
  obtain ⟨rfl, hsz, hat, hG⟩ := hv
  have hx := B.exec
  have hb := B.bytes
  have hr := B.returns
  have hts := atoms_spec (ws := wsX3_init) B.pre
  have hown : s.vm.findClass RX3 = some m.cls := findClass_of_methodNamed B.named
  have hlocks := B.notSynchronized
  have hin0 : meth.name = "<init>" := (name_of_methodNamed B.named B.method).1
  have hinX0 : ∀ w ∈ wsX00, w ∈ wsX3_init := by decide +kernel
  have hinX1 : ∀ w ∈ wsX10, w ∈ wsX3_init := by decide +kernel
  have hinX2 : ∀ w ∈ wsX20, w ∈ wsX3_init := by decide +kernel
  have hinX3 : ∀ w ∈ wsX30, w ∈ wsX3_init := by decide +kernel
  have hP : RW D h0 1 (fun _ => .inr (3, [.null, .null, .null, .int 0, .null, .int 0, .null, .int 0, .null])) s.heap := RW.start hsz hat
  have hS : va_S (bA h0) s.heap s.heap [] := va_S.rf
  have hl := lv_entry ([.ref h0]) (n := 2) (Nat.le_of_ble_eq_true rfl)
  rw [lg_entry_eq]
  generalize (lg_sl ([.ref h0]) ++ List.replicate (2 - (lg_sl ([.ref h0])).length) Slot.unset).toArray = ls at hl ⊢
  have hl : lv_has ls 2 [(0, .ref h0)] := hl
  refine lv_aload_n hx hb dX3_init_0 rfl (lv_at hl 0 rfl) ?_
  refine W.objInit hx hb hown (hts (.methodLink RX3 1 objectInit) (by decide +kernel)) (hts (.instanceMethod objectInit) (by decide +kernel)) (hts (.code objectInit ⟨#[0xb1]⟩ 1 none) (by decide +kernel)) rfl (by rw [hml]; exact hl.1) rfl dX3_init_1 (Nat.le_of_ble_eq_true rfl) (Nat.le_of_ble_eq_true rfl) ?_
  refine W.eq (g2 := F0 m 4 ls []) rfl ?_
  refine lv_aload_n hx hb dX3_init_4 rfl (lv_at hl 0 rfl) ?_
  refine b_new (ci := 0) (fs := [.null, .null, .null, .null, .null, .null, .int 0, .int 0, .int 0, .int 0]) (C := RX0) (T := TX0) (N := 10) hx hb hts hinX0 tyX0 tyX0_ok hown (hts (.classLink RX3 7 RX0) (by decide +kernel)) (hts (.instantiable RX0 10) (by decide +kernel)) (hts (.initialized RX0) (by decide +kernel)) hG.1 hP hS rfl (fun j hj => by rcases (show j = 0 ∨ j = 1 ∨ j = 2 ∨ j = 3 ∨ j = 4 ∨ j = 5 ∨ j = 6 ∨ j = 7 ∨ j = 8 ∨ j = 9 by omega) with rfl | rfl | rfl | rfl | rfl | rfl | rfl | rfl | rfl | rfl <;> rfl) (Nat.le_of_ble_eq_true rfl) (Nat.le_of_ble_eq_true rfl) dX3_init_5 (fun H hP hS => ?_)
  refine lv_dup hx hb dX3_init_8 rfl ?_
  refine b_init (n0 := 1) (rest := [.ref (h0 + 1), .ref h0]) ⟨hx, hb, hml, hown, hts⟩ (n_X0_init l D cI cII cQ (h0 + (1))) (cwI 0 hts gX3_init_X0_init rfl rfl rfl (hts (.initialized RX0) (by decide +kernel)) (hts (.methodLink RX3 9 yX0_init) (by decide +kernel)) (hts (.instanceMethod yX0_init) (by decide +kernel)) rfl (by decide +kernel) ⟨(Nat.le_of_ble_eq_true rfl), (Nat.le_of_ble_eq_true rfl)⟩) hG hP rfl hS hl.1 (Nat.le_of_ble_eq_true rfl) dX3_init_9 ⟨(Nat.le_of_ble_eq_true rfl), (Nat.le_of_ble_eq_true rfl)⟩ (fun H locs hP hS => ?_)
  refine b_putF (ci := 3) (fs := [.null, .null, .null, .int 0, .null, .int 0, .null, .int 0, .null]) (v := .ref (h0 + 1)) (ty := .object "LateDoves$Cote") (C := RX3) (T := TX3) (N := 9) hx hb hts hinX3 tyX3 tyX3_ok nmX3 hown hG.1 hP hS 0 (by decide) rfl rfl 0 (by decide) (hts (.fieldLink RX3 10 "LateDoves" "now" "LLateDoves$Cote;") (by decide +kernel)) (fun _ h9 => h9) rfl hin0 rfl (by decide +kernel) rfl rfl (Nat.le_of_ble_eq_true rfl) dX3_init_12 (fun H locs hP hS => ?_)
  refine lv_aload_n hx hb dX3_init_15 rfl (lv_at hl 0 rfl) ?_
  refine b_new (ci := 0) (fs := [.null, .null, .null, .null, .null, .null, .int 0, .int 0, .int 0, .int 0]) (C := RX0) (T := TX0) (N := 10) hx hb hts hinX0 tyX0 tyX0_ok hown (hts (.classLink RX3 7 RX0) (by decide +kernel)) (hts (.instantiable RX0 10) (by decide +kernel)) (hts (.initialized RX0) (by decide +kernel)) hG.1 hP hS rfl (fun j hj => by rcases (show j = 0 ∨ j = 1 ∨ j = 2 ∨ j = 3 ∨ j = 4 ∨ j = 5 ∨ j = 6 ∨ j = 7 ∨ j = 8 ∨ j = 9 by omega) with rfl | rfl | rfl | rfl | rfl | rfl | rfl | rfl | rfl | rfl <;> rfl) (Nat.le_of_ble_eq_true rfl) (Nat.le_of_ble_eq_true rfl) dX3_init_16 (fun H hP hS => ?_)
  refine lv_dup hx hb dX3_init_19 rfl ?_
  refine b_init (n0 := 21) (rest := [.ref (h0 + 21), .ref h0]) ⟨hx, hb, hml, hown, hts⟩ (n_X0_init l D cI cII cQ (h0 + (21))) (cwI 0 hts gX3_init_X0_init rfl rfl rfl (hts (.initialized RX0) (by decide +kernel)) (hts (.methodLink RX3 9 yX0_init) (by decide +kernel)) (hts (.instanceMethod yX0_init) (by decide +kernel)) rfl (by decide +kernel) ⟨(Nat.le_of_ble_eq_true rfl), (Nat.le_of_ble_eq_true rfl)⟩) hG hP rfl hS hl.1 (Nat.le_of_ble_eq_true rfl) dX3_init_20 ⟨(Nat.le_of_ble_eq_true rfl), (Nat.le_of_ble_eq_true rfl)⟩ (fun H locs hP hS => ?_)
  refine b_putF (ci := 3) (fs := [.ref (h0 + 1), .null, .null, .int 0, .null, .int 0, .null, .int 0, .null]) (v := .ref (h0 + 21)) (ty := .object "LateDoves$Cote") (C := RX3) (T := TX3) (N := 9) hx hb hts hinX3 tyX3 tyX3_ok nmX3 hown hG.1 hP hS 0 (by decide) rfl rfl 1 (by decide) (hts (.fieldLink RX3 16 "LateDoves" "trial" "LLateDoves$Cote;") (by decide +kernel)) (fun _ h9 => h9) rfl hin0 rfl (by decide +kernel) rfl rfl (Nat.le_of_ble_eq_true rfl) dX3_init_23 (fun H locs hP hS => ?_)
  refine lv_aload_n hx hb dX3_init_26 rfl (lv_at hl 0 rfl) ?_
  refine b_new (ci := 0) (fs := [.null, .null, .null, .null, .null, .null, .int 0, .int 0, .int 0, .int 0]) (C := RX0) (T := TX0) (N := 10) hx hb hts hinX0 tyX0 tyX0_ok hown (hts (.classLink RX3 7 RX0) (by decide +kernel)) (hts (.instantiable RX0 10) (by decide +kernel)) (hts (.initialized RX0) (by decide +kernel)) hG.1 hP hS rfl (fun j hj => by rcases (show j = 0 ∨ j = 1 ∨ j = 2 ∨ j = 3 ∨ j = 4 ∨ j = 5 ∨ j = 6 ∨ j = 7 ∨ j = 8 ∨ j = 9 by omega) with rfl | rfl | rfl | rfl | rfl | rfl | rfl | rfl | rfl | rfl <;> rfl) (Nat.le_of_ble_eq_true rfl) (Nat.le_of_ble_eq_true rfl) dX3_init_27 (fun H hP hS => ?_)
  refine lv_dup hx hb dX3_init_30 rfl ?_
  refine b_init (n0 := 41) (rest := [.ref (h0 + 41), .ref h0]) ⟨hx, hb, hml, hown, hts⟩ (n_X0_init l D cI cII cQ (h0 + (41))) (cwI 0 hts gX3_init_X0_init rfl rfl rfl (hts (.initialized RX0) (by decide +kernel)) (hts (.methodLink RX3 9 yX0_init) (by decide +kernel)) (hts (.instanceMethod yX0_init) (by decide +kernel)) rfl (by decide +kernel) ⟨(Nat.le_of_ble_eq_true rfl), (Nat.le_of_ble_eq_true rfl)⟩) hG hP rfl hS hl.1 (Nat.le_of_ble_eq_true rfl) dX3_init_31 ⟨(Nat.le_of_ble_eq_true rfl), (Nat.le_of_ble_eq_true rfl)⟩ (fun H locs hP hS => ?_)
  refine b_putF (ci := 3) (fs := [.ref (h0 + 1), .ref (h0 + 21), .null, .int 0, .null, .int 0, .null, .int 0, .null]) (v := .ref (h0 + 41)) (ty := .object "LateDoves$Cote") (C := RX3) (T := TX3) (N := 9) hx hb hts hinX3 tyX3 tyX3_ok nmX3 hown hG.1 hP hS 0 (by decide) rfl rfl 2 (by decide) (hts (.fieldLink RX3 19 "LateDoves" "snapshot" "LLateDoves$Cote;") (by decide +kernel)) (fun _ h9 => h9) rfl hin0 rfl (by decide +kernel) rfl rfl (Nat.le_of_ble_eq_true rfl) dX3_init_34 (fun H locs hP hS => ?_)
  refine lv_aload_n hx hb dX3_init_37 rfl (lv_at hl 0 rfl) ?_
  refine lv_iconst (v := 0) hx hb dX3_init_38 (by decide) ?_
  refine b_put (ci := 3) (fs := [.ref (h0 + 1), .ref (h0 + 21), .ref (h0 + 41), .int 0, .null, .int 0, .null, .int 0, .null]) (v := .int 0) (ty := .boolean) (C := RX3) (T := TX3) (N := 9) hx hb hts hinX3 tyX3 tyX3_ok nmX3 hown hG.1 hP hS 0 (by decide) rfl rfl 3 (by decide) (hts (.fieldLink RX3 22 "LateDoves" "hasSnapshot" "Z") (by decide +kernel)) (fun _ h9 => h9) rfl (by decide +kernel) rfl rfl (Nat.le_of_ble_eq_true rfl) dX3_init_39 (fun H locs hP hS => ?_)
  refine lv_aload_n hx hb dX3_init_42 rfl (lv_at hl 0 rfl) ?_
  refine lv_bipush (v := 6) hx hb dX3_init_43 (by decide) ?_
  refine b_anew (N' := 6) hx hb hown (hts (.classLink RX3 7 RX0) (by decide +kernel)) hG hP hS (by decide) (by decide) (by decide) (Nat.le_of_ble_eq_true rfl) (Nat.le_of_ble_eq_true rfl) dX3_init_45 (fun H hP hS => ?_)
  refine b_putF (ci := 3) (fs := [.ref (h0 + 1), .ref (h0 + 21), .ref (h0 + 41), .int 0, .null, .int 0, .null, .int 0, .null]) (v := .ref (h0 + 61)) (ty := .array (.object "LateDoves$Cote")) (C := RX3) (T := TX3) (N := 9) hx hb hts hinX3 tyX3 tyX3_ok nmX3 hown hG.1 hP hS 0 (by decide) rfl rfl 4 (by decide) (hts (.fieldLink RX3 26 "LateDoves" "saved" "[LLateDoves$Cote;") (by decide +kernel)) (fun _ h9 => h9) rfl hin0 rfl (by decide +kernel) rfl rfl (Nat.le_of_ble_eq_true rfl) dX3_init_48 (fun H locs hP hS => ?_)
  refine lv_iconst (v := 0) hx hb dX3_init_51 (by decide) ?_
  refine lv_istore_n (lv' := [(1, .int 0), (0, .ref h0)]) hx hb dX3_init_52 rfl hl (by decide) rfl (fun ls hl => ?_)
  refine W.widen (k := 61) (n := 852) (Nat.le_of_ble_eq_true rfl) (Nat.le_of_ble_eq_true rfl) ?_
  refine doves_loop ⟨hx, hb, hml, hown, hts⟩ hG (fun H locs ls hP hS hl => ?_) 6 0 H locs ls rfl (hP.ext fun k hk w => ?_) hS hl
  rotate_left
  · by_cases k0 : k = 0
    · subst k0
      exact w
    · by_cases k61 : k = 61
      · subst k61
        rw [ctU_ne (by omega), ctU_at] at w
        exact ct_refs w fun d hd => by unfold ctQ; rw [if_neg (by omega)]
      · have e : ctL cI cII cQ h0 0 k = ctT0 cI cII h0 k := by unfold ctL; rw [if_neg k0, if_neg k61]
        rw [e]
        unfold ctT0
        have hk' : k < 61 := by omega
        by_cases h1 : k < 21
        · rw [if_pos h1]
          simp (disch := omega) only [ctU_ne, ctJ_lt, ctJ_ge] at w
          exact w
        · rw [if_neg h1]
          by_cases h2 : k < 41
          · rw [if_pos h2]
            simp (disch := omega) only [ctU_ne, ctJ_lt, ctJ_ge] at w
            exact w
          · rw [if_neg h2, if_pos hk']
            simp (disch := omega) only [ctU_ne, ctJ_lt, ctJ_ge] at w
            exact w
  have hP : RW D h0 182 (ctL cI cII cQ h0 6) H := hP
  refine lv_aload_n hx hb dX3_init_78 rfl (lv_at hl 1 rfl) ?_
  refine lv_iconst (v := 0) hx hb dX3_init_79 (by decide) ?_
  refine b_put (ci := 3) (fs := [.ref (h0 + 1), .ref (h0 + 21), .ref (h0 + 41), .int 0, .ref (h0 + 61), .int 0, .null, .int 0, .null]) (v := .int 0) (ty := .int) (C := RX3) (T := TX3) (N := 9) hx hb hts hinX3 tyX3 tyX3_ok nmX3 hown hG.1 hP hS 0 (by decide) rfl rfl 5 (by decide) (hts (.fieldLink RX3 30 "LateDoves" "savedCount" "I") (by decide +kernel)) (fun _ h9 => h9) rfl (by decide +kernel) rfl rfl (Nat.le_of_ble_eq_true rfl) dX3_init_80 (fun H locs hP hS => ?_)
  refine lv_aload_n hx hb dX3_init_83 rfl (lv_at hl 1 rfl) ?_
  refine lv_bipush (v := 60) hx hb dX3_init_84 (by decide) ?_
  refine b_newi (N' := 60) hx hb (hts (.arrayClass .int) (by decide +kernel)) hG.1 hP hS (by decide) (by decide) (by decide) (Nat.le_of_ble_eq_true rfl) (Nat.le_of_ble_eq_true rfl) dX3_init_86 (fun H hP hS => ?_)
  refine b_putF (ci := 3) (fs := [.ref (h0 + 1), .ref (h0 + 21), .ref (h0 + 41), .int 0, .ref (h0 + 61), .int 0, .null, .int 0, .null]) (v := .ref (h0 + 182)) (ty := .array .int) (C := RX3) (T := TX3) (N := 9) hx hb hts hinX3 tyX3 tyX3_ok nmX3 hown hG.1 hP hS 0 (by decide) rfl rfl 6 (by decide) (hts (.fieldLink RX3 34 "LateDoves" "buffer" "[I") (by decide +kernel)) (fun _ h9 => h9) rfl hin0 rfl (by decide +kernel) rfl rfl (Nat.le_of_ble_eq_true rfl) dX3_init_88 (fun H locs hP hS => ?_)
  refine lv_aload_n hx hb dX3_init_91 rfl (lv_at hl 1 rfl) ?_
  refine lv_iconst (v := 0) hx hb dX3_init_92 (by decide) ?_
  refine b_put (ci := 3) (fs := [.ref (h0 + 1), .ref (h0 + 21), .ref (h0 + 41), .int 0, .ref (h0 + 61), .int 0, .ref (h0 + 182), .int 0, .null]) (v := .int 0) (ty := .int) (C := RX3) (T := TX3) (N := 9) hx hb hts hinX3 tyX3 tyX3_ok nmX3 hown hG.1 hP hS 0 (by decide) rfl rfl 7 (by decide) (hts (.fieldLink RX3 38 "LateDoves" "length" "I") (by decide +kernel)) (fun _ h9 => h9) rfl (by decide +kernel) rfl rfl (Nat.le_of_ble_eq_true rfl) dX3_init_93 (fun H locs hP hS => ?_)
  refine lv_aload_n hx hb dX3_init_96 rfl (lv_at hl 1 rfl) ?_
  refine b_new (ci := 1) (fs := [.int 0, .int 0, .int 0, .int 0]) (C := RX1) (T := TX1) (N := 4) hx hb hts hinX1 tyX1 tyX1_ok hown (hts (.classLink RX3 41 RX1) (by decide +kernel)) (hts (.instantiable RX1 4) (by decide +kernel)) (hts (.initialized RX1) (by decide +kernel)) hG.1 hP hS rfl (fun j hj => by rcases (show j = 0 ∨ j = 1 ∨ j = 2 ∨ j = 3 by omega) with rfl | rfl | rfl | rfl <;> rfl) (Nat.le_of_ble_eq_true rfl) (Nat.le_of_ble_eq_true rfl) dX3_init_97 (fun H hP hS => ?_)
  refine lv_dup hx hb dX3_init_100 rfl ?_
  refine b_init (n0 := 183) (rest := [.ref (h0 + 183), .ref h0]) ⟨hx, hb, hml, hown, hts⟩ (n_X1_init l D cI cII cQ (h0 + (183))) (cwI 0 hts gX3_init_X1_init rfl rfl rfl (hts (.initialized RX1) (by decide +kernel)) (hts (.methodLink RX3 43 yX1_init) (by decide +kernel)) (hts (.instanceMethod yX1_init) (by decide +kernel)) rfl (by decide +kernel) ⟨(Nat.le_of_ble_eq_true rfl), (Nat.le_of_ble_eq_true rfl)⟩) hG hP rfl hS hl.1 (Nat.le_of_ble_eq_true rfl) dX3_init_101 ⟨(Nat.le_of_ble_eq_true rfl), (Nat.le_of_ble_eq_true rfl)⟩ (fun H locs hP hS => ?_)
  refine b_putF (ci := 3) (fs := [.ref (h0 + 1), .ref (h0 + 21), .ref (h0 + 41), .int 0, .ref (h0 + 61), .int 0, .ref (h0 + 182), .int 0, .null]) (v := .ref (h0 + 183)) (ty := .object "LateDoves$PartReader") (C := RX3) (T := TX3) (N := 9) hx hb hts hinX3 tyX3 tyX3_ok nmX3 hown hG.1 hP hS 0 (by decide) rfl rfl 8 (by decide) (hts (.fieldLink RX3 44 "LateDoves" "reader" "LLateDoves$PartReader;") (by decide +kernel)) (fun _ h9 => h9) rfl hin0 rfl (by decide +kernel) rfl rfl (Nat.le_of_ble_eq_true rfl) dX3_init_104 (fun H locs hP hS => ?_)
  have hP184 : RW D h0 184 (ctT cI cII cQ h0) H := by
    refine hP.ext fun k hk w => ?_
    by_cases k0 : k = 0
    · subst k0; exact w
    · by_cases k61 : k = 61
      · subst k61
        simp (disch := omega) only [ctU_ne, ctJ_lt] at w
        exact ct_refs (f := ctQ h0 6) w fun d hd => by unfold ctQ; rw [if_pos hd]
      · by_cases k182 : k = 182
        · subst k182; exact w
        · by_cases k183 : k = 183
          · subst k183; exact w
          · have e : ctT cI cII cQ h0 k = ctT0 cI cII h0 k := by unfold ctT; rw [if_neg k0, if_neg k61, if_neg k182, if_neg k183]
            have e2 : ctL cI cII cQ h0 6 k = ctT0 cI cII h0 k := by unfold ctL; rw [if_neg k0, if_neg k61]
            simp (disch := omega) only [ctU_ne, ctJ_lt] at w
            rw [e, ← e2]
            exact w
  refine W.widen (k := 183) (n := 2608) (Nat.le_of_ble_eq_true rfl) (Nat.le_of_ble_eq_true rfl) ?_
  exact W.vret hx hb hr (fun t ht hW => ⟨⟨(), rfl, trivial, by show RW _ _ _ _ t.heap; rw [ht]; exact hP184⟩, hS.F ht⟩) hS.2.2 dX3_init_107
