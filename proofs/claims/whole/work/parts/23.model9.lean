/-! the model: an evening of parts -/
def pGo (d : cSt) : Prop := ∃ moN kf, mOK d ∧ d 1 171 = nI moN ∧ moN ≤ 24 ∧ (d 0 9 = 98 → mFirstF d 16 0 = some kf) ∧ (d 0 9 = 104 → vp_in (d 0 10) 16) ∧ (d 0 9 = 109 → vp_in (d 0 10) 16 ∧ vp_in (d 0 11) 16) ∧ (d 0 9 = 111 → vp_in (d 0 11) 24) ∧ (d 0 9 = 120 → vp_in (d 0 11) 24)
def pOK : Nat → cSt → Int32 → Prop
  | 0, d, p => d 0 8 ≤ p
  | n + 1, d, p => ¬ d 0 8 ≤ p → (∃ L q, d 0 8 = nI L ∧ L ≤ 60 ∧ p = nI q ∧ q < 800) ∧ ((mPart d p).2 0 9 = 98 → vp_in ((mPart d p).2 0 10) 24) ∧ ((mPart d p).2 0 9 = 120 → vp_in ((mPart d p).2 0 11) 24) ∧ (mWhyP (mPart d p).2 = 0 → pGo (mPart d p).2 ∧ pOK n (mDoP (mPart d p).2).2 ((mPart d p).1 + 1))
def mPassL : Nat → cSt → Int32 → Int32 → Int32 × cSt
  | 0, d, _, c => (c, d)
  | n + 1, d, p, c => if d 0 8 ≤ p then (c, d) else if mWhyP (mPart d p).2 = 0 then mPassL n (mDoP (mPart d p).2).2 ((mPart d p).1 + 1) (c + 1) else (c, cW (cW (mPart d p).2 1 178 c) 1 179 (mWhyP (mPart d p).2))
def pStart (d : cSt) (sv : Nat) : cSt := cW (cW (mR (mErr d).2 sv) 1 178 (-1)) 1 179 (-1)
def pPass (d : cSt) (sv : Nat) : Int32 × cSt := if 0 ≤ (mErr d).1 then (0, cW (mErr d).2 0 0 1) else ((mPassL 61 (pStart d sv) 0 0).1, cW (mPassL 61 (pStart d sv) 0 0).2 0 8 0)
set_option maxRecDepth 100000 in
set_option maxHeartbeats 4000000 in
theorem k_X4_pass_53 (l : Launch) {E : gEn} {σ : gSt} {π : Nat → Nat} {o : Int64} {d dF : cSt} {p c r : Int32} {n : Nat} (hz : pOK n d p) (hr : (r, dF) = mPassL n d p c) {p1 : Program} {e : Env} {s : State} {m1 : MethodId} {args : Array Value} {below : List Frame} {meth : Method} {cd : Code} (C : gCx p1 s m1 cd cX4_pass 5 RX4 wsX4_pass args E (gA E) ({ frames := 7, cells := 0, slots := 0, locals := 160 } : Room) 0 0) (hrt : meth.sig.returnType = (some .int)) (hlk : meth.locks = false) : G p1 l e ({ frames := 7, cells := 0, slots := 0, locals := 160 } : Room) s m1 args below meth cd 5 0 0 (gA E) (gQI below args s (r) E (gU σ 10 (cW dF 0 8 0)) π o) E (gU σ 10 d) π o 53 [some (.ref (E.2.1 10 0)), some (.int c), some (.int p), some (.int 1), none] [] := by
  have hinX4 : ∀ w ∈ wsX40, w ∈ wsX4_pass := by decide +kernel
  induction n generalizing d p c with
  | zero =>
    refine G.ildn3 C dX4_pass_53 ?_
    refine G.if_eq C 127 dX4_pass_54 (by decide) (fun h => absurd h (by decide)) (fun _ => ?_)
    refine G.ildn2 C dX4_pass_57 ?_
    refine G.aldn0 C dX4_pass_58 ?_
    refine G.getD C hinX4 8 (by decide) rfl (C.1.2.2.2.2 (.fieldLink RX4 118 RX4 "length" "I") (by decide +kernel)) rfl dX4_pass_59 ?_
    refine G.icmp_ge C 127 dX4_pass_62 (by decide) (fun h62 => ?_) (fun h62 => absurd (hz) h62)
    refine G.aldn0 C dX4_pass_127 ?_
    refine G.iconst C 0 dX4_pass_128 (by decide) ?_
    refine G.putD (ty := .int) C hinX4 8 (by decide) rfl (C.1.2.2.2.2 (.fieldLink RX4 118 RX4 "length" "I") (by decide +kernel)) rfl rfl rfl rfl pfX4_8 dX4_pass_129 ?_
    refine G.ildn1 C dX4_pass_132 ?_
    exact G.iret C hlk hrt dX4_pass_133 (by have q := hr; rw [mPassL] at q; exact (congrArg Prod.fst q).symm) (by intro H h; have q := hr; rw [mPassL] at q; rw [show dF = _ from congrArg Prod.snd q]; exact h)
  | succ m ih =>
    refine G.ildn3 C dX4_pass_53 ?_
    refine G.if_eq C 127 dX4_pass_54 (by decide) (fun h => absurd h (by decide)) (fun _ => ?_)
    refine G.ildn2 C dX4_pass_57 ?_
    refine G.aldn0 C dX4_pass_58 ?_
    refine G.getD C hinX4 8 (by decide) rfl (C.1.2.2.2.2 (.fieldLink RX4 118 RX4 "length" "I") (by decide +kernel)) rfl dX4_pass_59 ?_
    refine G.icmp_ge C 127 dX4_pass_62 (by decide) (fun h62 => ?_) (fun h62 => ?_)
    · refine G.aldn0 C dX4_pass_127 ?_
      refine G.iconst C 0 dX4_pass_128 (by decide) ?_
      refine G.putD (ty := .int) C hinX4 8 (by decide) rfl (C.1.2.2.2.2 (.fieldLink RX4 118 RX4 "length" "I") (by decide +kernel)) rfl rfl rfl rfl pfX4_8 dX4_pass_129 ?_
      refine G.ildn1 C dX4_pass_132 ?_
      exact G.iret C hlk hrt dX4_pass_133 (by have q := hr; rw [mPassL, if_pos h62] at q; exact (congrArg Prod.fst q).symm) (by intro H h; have q := hr; rw [mPassL, if_pos h62] at q; rw [show dF = _ from congrArg Prod.snd q]; exact h)
    · obtain ⟨⟨L, q, hL, h60, hp, hq⟩, h98, h120, hgo⟩ := hz h62
      refine G.aldn0 C dX4_pass_65 ?_
      refine G.ildn2 C dX4_pass_66 ?_
      refine G.callVI1 C (k_X4_readPart l hL h60 hp hq) (cwV 1 C.1.2.2.2.2 gX4_pass_X4_readPart rfl rfl rfl (by decide +kernel) ⟨Nat.le_of_ble_eq_true rfl, Nat.le_of_ble_eq_true rfl⟩) gO_d rfl (Nat.le_of_ble_eq_true rfl) dX4_pass_67 ?_
      refine G.iconst C 1 dX4_pass_70 (by decide) ?_
      refine G.iadd C dX4_pass_71 ?_
      refine G.istn2 C dX4_pass_72 (by omega) rfl ?_
      refine G.aldn0 C dX4_pass_73 ?_
      refine G.callVI0 C (k_X4_whyNoPart l h98 h120) (cwV 0 C.1.2.2.2.2 gX4_pass_X4_whyNoPart rfl rfl rfl (by decide +kernel) ⟨Nat.le_of_ble_eq_true rfl, Nat.le_of_ble_eq_true rfl⟩) gO_d rfl (Nat.le_of_ble_eq_true rfl) dX4_pass_74 ?_
      refine G.ist4 C dX4_pass_77 (by omega) rfl ?_
      refine G.ild4 C dX4_pass_79 ?_
      refine G.if_ne C 88 dX4_pass_81 (by decide) (fun h81 => ?_) (fun h81 => ?_)
      · refine G.iconst C 0 dX4_pass_88 (by decide) ?_
        refine G.istn3 C dX4_pass_89 (by omega) rfl ?_
        refine G.ildn3 C dX4_pass_90 ?_
        refine G.if_eq C 105 dX4_pass_91 (by decide) (fun _ => ?_) (fun h => absurd (by decide) h)
        refine G.aldn0 C dX4_pass_105 ?_
        refine G.getD C hinX4 1 (by decide) rfl (C.1.2.2.2.2 (.fieldLink RX4 7 RX4 "z" "[I") (by decide +kernel)) rfl dX4_pass_106 ?_
        refine G.sipush C 178 dX4_pass_109 (by decide) ?_
        refine G.ildn1 C dX4_pass_112 ?_
        refine G.iastU C (n := 232) (j := 1) (d0 := 178) rfl (gV_d (by omega)) (by unfold vp_in; decide) (by decide) dX4_pass_113 ?_
        refine G.aldn0 C dX4_pass_114 ?_
        refine G.getD C hinX4 1 (by decide) rfl (C.1.2.2.2.2 (.fieldLink RX4 7 RX4 "z" "[I") (by decide +kernel)) rfl dX4_pass_115 ?_
        refine G.sipush C 179 dX4_pass_118 (by decide) ?_
        refine G.ild4 C dX4_pass_121 ?_
        refine G.iastU C (n := 232) (j := 1) (d0 := 179) rfl (gV_d (by omega)) (by unfold vp_in; decide) (by decide) dX4_pass_123 ?_
        refine G.goto C 53 dX4_pass_124 (by decide) ?_
        refine G.ildn3 C dX4_pass_53 ?_
        refine G.if_eq C 127 dX4_pass_54 (by decide) (fun _ => ?_) (fun h => absurd (by decide) h)
        refine G.aldn0 C dX4_pass_127 ?_
        refine G.iconst C 0 dX4_pass_128 (by decide) ?_
        refine G.putD (ty := .int) C hinX4 8 (by decide) rfl (C.1.2.2.2.2 (.fieldLink RX4 118 RX4 "length" "I") (by decide +kernel)) rfl rfl rfl rfl pfX4_8 dX4_pass_129 ?_
        refine G.ildn1 C dX4_pass_132 ?_
        exact G.iret C hlk hrt dX4_pass_133 (by have q := hr; rw [mPassL, if_neg h62, if_neg h81] at q; exact (congrArg Prod.fst q).symm) (by intro H h; have q := hr; rw [mPassL, if_neg h62, if_neg h81] at q; rw [show dF = _ from congrArg Prod.snd q]; exact h)
      · obtain ⟨⟨moN, kf, g1, g2, g3, g4, g5, g6, g7, g8⟩, hn⟩ := hgo h81
        refine G.iconst C 1 dX4_pass_84 (by decide) ?_
        refine G.goto C 89 dX4_pass_85 (by decide) ?_
        refine G.istn3 C dX4_pass_89 (by omega) rfl ?_
        refine G.ildn3 C dX4_pass_90 ?_
        refine G.if_eq C 105 dX4_pass_91 (by decide) (fun h => absurd h (by decide)) (fun _ => ?_)
        refine G.aldn0 C dX4_pass_94 ?_
        refine G.callVI0 C (k_X4_doPart l g1 g2 g3 g4 g5 g6 g7 g8) (cwV 0 C.1.2.2.2.2 gX4_pass_X4_doPart rfl rfl rfl (by decide +kernel) ⟨Nat.le_of_ble_eq_true rfl, Nat.le_of_ble_eq_true rfl⟩) gO_d rfl (Nat.le_of_ble_eq_true rfl) dX4_pass_95 ?_
        refine G.pop C dX4_pass_98 rfl ?_
        refine G.iinc1 C _ dX4_pass_99 (by omega) rfl rfl ?_
        refine G.goto C 124 dX4_pass_102 (by decide) ?_
        refine G.goto C 53 dX4_pass_124 (by decide) ?_
        exact G.back (ih hn (by rw [hr, mPassL, if_neg h62, if_pos h81]; rfl)) rfl ⟨rfl, rfl, rfl, rfl, trivial⟩
set_option maxRecDepth 100000 in
set_option maxHeartbeats 4000000 in
theorem k_X4_pass (l : Launch) {E : gEn} {σ : gSt} {π : Nat → Nat} {o : Int64} {d : cSt} {dF : cSt} {r : Int32} {sv : Nat} (hs : d 0 4 = nI sv) (hle : sv ≤ 6) {L : Nat} (hL : d 0 8 = nI L) (h60 : L ≤ 60) (hP : ¬ 0 ≤ (mErr d).1 → pOK 61 (pStart d sv) 0) (hr : (r, dF) = pPass d sv) : CtI l yX4_pass wsX4_pass ({ frames := 7, cells := 0, slots := 0, locals := 160 } : Room) E [.ref (E.2.1 10 0)] (gU σ 10 d) π o (r) (gU σ 10 (dF)) π o := by
  refine CtI.of (cc := cX4_pass) (own := RX4) (maxL := 5) (ret := (some .int)) [some (.ref (E.2.1 10 0)), none, none, none, none] (by decide) rfl rfl (Nat.le_of_ble_eq_true rfl) rfl ?_
  intro p e s m args below meth cd C hrt hlk
  have hinX4 : ∀ w ∈ wsX40, w ∈ wsX4_pass := by decide +kernel
  refine G.aldn0 C dX4_pass_0 ?_
  refine G.aldn0 C dX4_pass_1 ?_
  refine G.callVI0 C (k_X4_findError l (r := (mErr d).1) (dF := (mErr d).2) hL h60 rfl) (cwV 0 C.1.2.2.2.2 gX4_pass_X4_findError rfl rfl rfl (by decide +kernel) ⟨Nat.le_of_ble_eq_true rfl, Nat.le_of_ble_eq_true rfl⟩) gO_d rfl (Nat.le_of_ble_eq_true rfl) dX4_pass_2 ?_
  refine G.if_ge C 12 dX4_pass_5 (by decide) (fun h5 => ?_) (fun h5 => ?_)
  · rw [pPass, if_pos h5] at hr; obtain ⟨rfl, rfl⟩ := Prod.mk.inj hr
    refine G.iconst C 1 dX4_pass_12 (by decide) ?_
    refine G.putD (ty := .int) C hinX4 0 (by decide) rfl (C.1.2.2.2.2 (.fieldLink RX4 25 RX4 "thrown" "I") (by decide +kernel)) rfl rfl rfl rfl pfX4_0 dX4_pass_13 ?_
    refine G.aldn0 C dX4_pass_16 ?_
    refine G.getD C hinX4 0 (by decide) rfl (C.1.2.2.2.2 (.fieldLink RX4 25 RX4 "thrown" "I") (by decide +kernel)) rfl dX4_pass_17 ?_
    refine G.topI (1) rfl ?_
    refine G.if_le C 25 dX4_pass_20 (by decide) (fun h => absurd h (by decide)) (fun _ => ?_)
    refine G.iconst C 0 dX4_pass_23 (by decide) ?_
    exact G.iret C hlk hrt dX4_pass_24 (by rfl) (by exact fun _ h => h)
  · rw [pPass, if_neg h5] at hr; obtain ⟨rfl, rfl⟩ := Prod.mk.inj hr
    refine G.iconst C 0 dX4_pass_8 (by decide) ?_
    refine G.goto C 13 dX4_pass_9 (by decide) ?_
    refine G.putD (ty := .int) C hinX4 0 (by decide) rfl (C.1.2.2.2.2 (.fieldLink RX4 25 RX4 "thrown" "I") (by decide +kernel)) rfl rfl rfl rfl pfX4_0 dX4_pass_13 ?_
    refine G.aldn0 C dX4_pass_16 ?_
    refine G.getD C hinX4 0 (by decide) rfl (C.1.2.2.2.2 (.fieldLink RX4 25 RX4 "thrown" "I") (by decide +kernel)) rfl dX4_pass_17 ?_
    refine G.topI (0) rfl ?_
    refine G.if_le C 25 dX4_pass_20 (by decide) (fun _ => ?_) (fun h => absurd (by decide) h)
    refine G.aldn0 C dX4_pass_25 ?_
    refine G.callVV0 C (k_X4_record l (d := cW (mErr d).2 0 0 0) (by rw [show cW (mErr d).2 0 0 0 0 4 = (mErr d).2 0 4 from rfl, mErr, mErrL_keep.2 4 (by decide) (by decide) (by decide)]; exact hs) hle rfl) (cwV 0 C.1.2.2.2.2 gX4_pass_X4_record rfl rfl rfl (by decide +kernel) ⟨Nat.le_of_ble_eq_true rfl, Nat.le_of_ble_eq_true rfl⟩) gO_d rfl (Nat.le_of_ble_eq_true rfl) dX4_pass_26 ?_
    refine G.aldn0 C dX4_pass_29 ?_
    refine G.getD C hinX4 1 (by decide) rfl (C.1.2.2.2.2 (.fieldLink RX4 7 RX4 "z" "[I") (by decide +kernel)) rfl dX4_pass_30 ?_
    refine G.sipush C 178 dX4_pass_33 (by decide) ?_
    refine G.iconst C (-1) dX4_pass_36 (by decide) ?_
    refine G.iastU C (n := 232) (j := 1) (d0 := 178) rfl (gV_d (by omega)) (by unfold vp_in; decide) (by decide) dX4_pass_37 ?_
    refine G.aldn0 C dX4_pass_38 ?_
    refine G.getD C hinX4 1 (by decide) rfl (C.1.2.2.2.2 (.fieldLink RX4 7 RX4 "z" "[I") (by decide +kernel)) rfl dX4_pass_39 ?_
    refine G.sipush C 179 dX4_pass_42 (by decide) ?_
    refine G.iconst C (-1) dX4_pass_45 (by decide) ?_
    refine G.iastU C (n := 232) (j := 1) (d0 := 179) rfl (gV_d (by omega)) (by unfold vp_in; decide) (by decide) dX4_pass_46 ?_
    refine G.iconst C 0 dX4_pass_47 (by decide) ?_
    refine G.istn1 C dX4_pass_48 (by omega) rfl ?_
    refine G.iconst C 0 dX4_pass_49 (by decide) ?_
    refine G.istn2 C dX4_pass_50 (by omega) rfl ?_
    refine G.iconst C 1 dX4_pass_51 (by decide) ?_
    refine G.istn3 C dX4_pass_52 (by omega) rfl ?_
    exact G.back (k_X4_pass_53 l (hP h5) rfl C hrt hlk) rfl ⟨rfl, rfl, rfl, rfl, trivial⟩
