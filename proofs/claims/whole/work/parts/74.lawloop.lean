/-! the law's loop -/
theorem lt4 {L i : Nat} (hL : L ≤ 2048) (hi : i < 5000) : nI L - 4 < nI i ↔ L < i + 4 := by
  rw [Int32.lt_iff_toInt_lt, show (4 : Int32) = nI 4 from rfl, pk_sub_toInt (by omega) (by omega), nI_toInt (by omega)]
  omega
set_option maxRecDepth 100000 in
set_option maxHeartbeats 4000000 in
theorem law_loop {p : Program} {l : Launch} {e : Env} {s : State} {m : MethodId} {args : Array Value} {below : List Frame} {meth : Method} {c : Code} {Q : State → Prop} {E : gEn} {b L : Nat} {xs : Nat → Int32} (hst : l.stackTraces = false) (hX : gX E s) (hY : gY s) (hXs : va_X b L xs s s.heap) (hbl : b < s.heap.size) (hL : L ≤ 2048) (hend : ∀ (H : Heap) (ls : Array Slot), W p l e room_1 s m args below meth c H [] 601024 7293034 Q (F0 m 1388 ls [.int 1])) :
    ∀ (g i cl sl B : Nat) (σ : gSt) (π : Nat → Nat) (o : Int64), L < i + 4 * g → i < L + 4 → cl + g ≤ 601024 → sl + 6 * g ≤ 7293034 → B + 1500 * g < 2 ^ 29 → gCx p s m c cL_law 9 RL wsL_law args E (lA s) room_1 cl sl → Big B σ π → G p l e room_1 s m args below meth c 9 cl sl (lA s) Q E σ π o 23 [some (.ref b), some (.ref (E.2.1 9 0)), some (.ref (E.2.1 10 0)), some (.ref (E.2.1 11 0)), some (.int (nI i)), none, none, none, none] [] := by
  have hbA : ¬ lA s b := Nat.not_le.mpr hbl
  have fin : ∀ (i cl sl : Nat) (σ : gSt) (π : Nat → Nat) (o : Int64), cl ≤ 601024 → sl ≤ 7293034 → gCx p s m c cL_law 9 RL wsL_law args E (lA s) room_1 cl sl → G p l e room_1 s m args below meth c 9 cl sl (lA s) Q E σ π o 1387 [some (.ref b), some (.ref (E.2.1 9 0)), some (.ref (E.2.1 10 0)), some (.ref (E.2.1 11 0)), some (.int (nI i)), none, none, none, none] [] := fun i cl sl σ π o h1 h2 C => by
    refine G.iconst C 1 dL_law_1387 (by decide) ?_
    exact fun H locs ls hW hS hl => va_forget (fun q hq => hS.2.2 q hq) (W.widen (k := 601024) (n := 7293034) h1 h2 (hend H ls))
  intro g
  induction g with
  | zero =>
    intro i cl sl B σ π o h1 h2 h3 h4 h5 C h
    refine G.ild4 C dL_law_23 ?_
    refine G.aldn0 C dL_law_25 ?_
    refine G.slen C hXs hbl hbA dL_law_26 ?_
    refine G.iconst C 4 dL_law_27 (by decide) ?_
    refine G.isub C dL_law_28 ?_
    refine G.icmp_gt C 1387 dL_law_29 (by decide) (fun _ => fin i cl sl σ π o (by omega) (by omega) C) (fun hc => absurd ((lt4 hL (by omega)).mpr (by omega)) hc)
  | succ g ih =>
    intro i cl sl B σ π o h1 h2 h3 h4 h5 C h
    refine G.ild4 C dL_law_23 ?_
    refine G.aldn0 C dL_law_25 ?_
    refine G.slen C hXs hbl hbA dL_law_26 ?_
    refine G.iconst C 4 dL_law_27 (by decide) ?_
    refine G.isub C dL_law_28 ?_
    refine G.icmp_gt C 1387 dL_law_29 (by decide) (fun _ => fin i cl sl σ π o (by omega) (by omega) C) (fun hc => ?_)
    have hi : i + 4 ≤ L := by
      rcases Nat.lt_or_ge L (i + 4) with q | q
      · exact absurd ((lt4 hL (by omega)).mpr q) hc
      · exact q
    have hR : cl + 1 ≤ room_1.cells ∧ sl + 6 ≤ room_1.slots := ⟨by show cl + 1 ≤ 601024; omega, by show sl + 6 ≤ 7293034; omega⟩
    have C' := C.wide hR.1 hR.2
    have next : ∀ (σ' : gSt) (π' : Nat → Nat) (o' : Int64), Big (B + 1500) σ' π' → G p l e room_1 s m args below meth c 9 (cl + 1) (sl + 6) (lA s) Q E σ' π' o' 1381 [some (.ref b), some (.ref (E.2.1 9 0)), some (.ref (E.2.1 10 0)), some (.ref (E.2.1 11 0)), some (.int (nI i)), none, none, none, none] [] := fun σ' π' o' hB' => by
      refine G.iinc4 C' (nI (i + 4)) dL_law_1381 (by omega) rfl (nI_add i 4) ?_
      refine G.goto C' 23 dL_law_1384 (by decide) ?_
      exact ih (i + 4) (cl + 1) (sl + 6) (B + 1500) σ' π' o' (by omega) (by omega) (by omega) (by omega) (by omega) C' hB'
    refine G.aldn0 C dL_law_32 ?_
    refine G.ild4 C dL_law_33 ?_
    refine G.sld C hXs hbl hbA (show vp_in (nI i) L from vp_in_nI (by omega) (by omega)) dL_law_35 ?_
    refine G.bipush C 31 dL_law_36 (by decide) ?_
    refine G.iand C dL_law_38 ?_
    obtain ⟨q, hq, eq⟩ := pk_andE (xs (nI i).toNatClampNeg) (m := 31) 5 (by decide)
    refine G.topI (nI q) eq ?_
    have hq32 : q < 32 := hq
    by_cases hq26 : 26 ≤ q
    · refine G.tabOut C 1381 dL_law_39 (Or.inr (by rw [nI_toInt (by omega)]; omega)) (by decide) ?_
      exact G.wide (by omega) (by omega) (next σ π o (h.mono (by omega)))
    have hc26 : q = 0 ∨ q = 1 ∨ q = 2 ∨ q = 3 ∨ q = 4 ∨ q = 5 ∨ q = 6 ∨ q = 7 ∨ q = 8 ∨ q = 9 ∨ q = 10 ∨ q = 11 ∨ q = 12 ∨ q = 13 ∨ q = 14 ∨ q = 15 ∨ q = 16 ∨ q = 17 ∨ q = 18 ∨ q = 19 ∨ q = 20 ∨ q = 21 ∨ q = 22 ∨ q = 23 ∨ q = 24 ∨ q = 25 := by omega
    rcases hc26 with r | r | r | r | r | r | r | r | r | r | r | r | r | r | r | r | r | r | r | r | r | r | r | r | r | r <;> subst r
    · refine G.tabIn C 156 dL_law_39 (off := 117) (by decide) (by decide) (by rfl) (by decide) ?_
      exact law_buy hst C hX hY hXs hbl hi hL (by omega) h hR next
    · refine G.tabIn C 224 dL_law_39 (off := 185) (by decide) (by decide) (by rfl) (by decide) ?_
      exact law_sell hst C hX hY hXs hbl hi hL (by omega) h hR next
    · refine G.tabIn C 280 dL_law_39 (off := 241) (by decide) (by decide) (by rfl) (by decide) ?_
      exact law_mate hst C hX hY hXs hbl hi hL (by omega) h hR next
    · refine G.tabIn C 348 dL_law_39 (off := 309) (by decide) (by decide) (by rfl) (by decide) ?_
      exact law_shut hst C hX hY hXs hbl hi hL (by omega) h hR next
    · refine G.tabIn C 404 dL_law_39 (off := 365) (by decide) (by decide) (by rfl) (by decide) ?_
      exact law_open hst C hX hY hXs hbl hi hL (by omega) h hR next
    · refine G.tabIn C 460 dL_law_39 (off := 421) (by decide) (by decide) (by rfl) (by decide) ?_
      exact law_set hst C hX hY hXs hbl hi hL (by omega) h hR next
    · refine G.tabIn C 528 dL_law_39 (off := 489) (by decide) (by decide) (by rfl) (by decide) ?_
      exact law_home hst C hX hY hXs hbl hi hL (by omega) h hR next
    · refine G.tabIn C 596 dL_law_39 (off := 557) (by decide) (by decide) (by rfl) (by decide) ?_
      exact law_dawn hst C hX hY hXs hbl hi hL (by omega) h hR next
    · refine G.tabIn C 609 dL_law_39 (off := 570) (by decide) (by decide) (by rfl) (by decide) ?_
      exact law_append hst C hX hY hXs hbl hi hL (by omega) h hR next
    · refine G.tabIn C 665 dL_law_39 (off := 626) (by decide) (by decide) (by rfl) (by decide) ?_
      exact law_clearBuffer hst C hX hY hXs hbl hi hL (by omega) h hR next
    · refine G.tabIn C 678 dL_law_39 (off := 639) (by decide) (by decide) (by rfl) (by decide) ?_
      exact law_firstError hst C hX hY hXs hbl hi hL (by omega) h hR next
    · refine G.tabIn C 691 dL_law_39 (off := 652) (by decide) (by decide) (by rfl) (by decide) ?_
      exact law_pass hst C hX hY hXs hbl hi hL (by omega) h hR next
    · refine G.tabIn C 735 dL_law_39 (off := 696) (by decide) (by decide) (by rfl) (by decide) ?_
      exact law_stopped hst C hX hY hXs hbl hi hL (by omega) h hR next
    · refine G.tabIn C 791 dL_law_39 (off := 752) (by decide) (by decide) (by rfl) (by decide) ?_
      exact law_undo hst C hX hY hXs hbl hi hL (by omega) h hR next
    · refine G.tabIn C 835 dL_law_39 (off := 796) (by decide) (by decide) (by rfl) (by decide) ?_
      exact law_keep hst C hX hY hXs hbl hi hL (by omega) h hR next
    · refine G.tabIn C 848 dL_law_39 (off := 809) (by decide) (by decide) (by rfl) (by decide) ?_
      exact law_restore hst C hX hY hXs hbl hi hL (by omega) h hR next
    · refine G.tabIn C 892 dL_law_39 (off := 853) (by decide) (by decide) (by rfl) (by decide) ?_
      exact law_dove hst C hX hY hXs hbl hi hL (by omega) h hR next
    · refine G.tabIn C 960 dL_law_39 (off := 921) (by decide) (by decide) (by rfl) (by decide) ?_
      exact law_hole hst C hX hY hXs hbl hi hL (by omega) h hR next
    · refine G.tabIn C 1028 dL_law_39 (off := 989) (by decide) (by decide) (by rfl) (by decide) ?_
      exact law_count hst C hX hY hXs hbl hi hL (by omega) h hR next
    · refine G.tabIn C 1084 dL_law_39 (off := 1045) (by decide) (by decide) (by rfl) (by decide) ?_
      exact law_step hst C hX hY hXs hbl hi hL (by omega) h hR next
    · refine G.tabIn C 1152 dL_law_39 (off := 1113) (by decide) (by decide) (by rfl) (by decide) ?_
      exact law_whyNot hst C hX hY hXs hbl hi hL (by omega) h hR next
    · refine G.tabIn C 1220 dL_law_39 (off := 1181) (by decide) (by decide) (by rfl) (by decide) ?_
      exact law_ifHome hst C hX hY hXs hbl hi hL (by omega) h hR next
    · refine G.tabIn C 1300 dL_law_39 (off := 1261) (by decide) (by decide) (by rfl) (by decide) ?_
      exact law_freeHole hst C hX hY hXs hbl hi hL (by omega) h hR next
    · refine G.tabIn C 1313 dL_law_39 (off := 1274) (by decide) (by decide) (by rfl) (by decide) ?_
      exact law_lateIsAsGood hst C hX hY hXs hbl hi hL (by omega) h hR next
    · refine G.tabIn C 1326 dL_law_39 (off := 1287) (by decide) (by decide) (by rfl) (by decide) ?_
      exact law_homeShare hst C hX hY hXs hbl hi hL (by omega) h hR next
    · refine G.tabIn C 1367 dL_law_39 (off := 1328) (by decide) (by decide) (by rfl) (by decide) ?_
      exact law_digest hst C hX hY hXs hbl hi hL (by omega) h hR next
