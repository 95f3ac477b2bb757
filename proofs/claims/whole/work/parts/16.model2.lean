theorem vix {x : Int32} (hx : vp_in x 16) : ix x < 16 := by
  obtain ⟨j, hj, rfl⟩ := vp_in_of hx (by omega)
  rw [ix_nI (by omega)]; exact hj
theorem sidx {a : Int32} {n : Nat} (h : a = nI n) (hn : n < 25) : 181 + 2 * a = nI (181 + 2 * n) ∧ 181 + 2 * a + 1 = nI (181 + 2 * n + 1) := by
  subst h
  have e2 : (2 : Int32) = nI 2 := rfl
  have e181 : (181 : Int32) = nI 181 := rfl
  rw [e2, e181, pk_mul, nI_add]
  exact ⟨rfl, nI_1 _⟩
theorem sidx1 {a : Int32} {n : Nat} (h : a = nI n) (hn : n < 25) : vp_in (181 + 2 * a) 232 ∧ ix (181 + 2 * a) = 181 + 2 * ix a := by
  have e := (sidx h hn).1
  rw [e, h, ix_nI (by omega), ix_nI (by omega)]
  exact ⟨vp_in_nI (by omega) (by omega), rfl⟩
theorem sidx2 {a : Int32} {n : Nat} (h : a = nI n) (hn : n < 25) : vp_in (181 + 2 * a + 1) 232 ∧ ix (181 + 2 * a + 1) = 181 + 2 * ix a + 1 := by
  have e := (sidx h hn).2
  rw [e, h, ix_nI (by omega), ix_nI (by omega)]
  exact ⟨vp_in_nI (by omega) (by omega), rfl⟩
theorem st1 {d : cSt} {x : Int32} {v : Int32} (hx : vp_in x 16) : cW d 1 (9 * ix x + 3) v 1 180 = d 1 180 := by
  have := vix hx
  simp only [cW, if_true, if_neg (show ¬ 180 = 9 * ix x + 3 by omega)]
theorem st2 {d : cSt} {n : Nat} {v w : Int32} : cW (cW d 1 (181 + 2 * n) v) 1 (181 + 2 * n + 1) w 1 180 = d 1 180 := by
  simp only [cW, if_true, if_neg (show ¬ 180 = 181 + 2 * n + 1 by omega), if_neg (show ¬ 180 = 181 + 2 * n by omega)]
theorem st3 {d : cSt} {n : Nat} {v : Int32} : cW d 1 (181 + 2 * n) v 1 180 = d 1 180 := by
  simp only [cW, if_true, if_neg (show ¬ 180 = 181 + 2 * n by omega)]
/-! the model: coming home -/
/-- what the row keeps: the own holes are holes, the mates are doves' numbers or below 0 -/
def mOK (d : cSt) : Prop := ∀ k, k < 16 → vp_in (d 1 (9 * k + 1)) 24 ∧ (d 1 (9 * k + 4) < 0 ∨ vp_in (d 1 (9 * k + 4)) 16)
theorem mOK_W {d : cSt} {q : Nat} {v : Int32} (h : mOK d) (hq : ∀ k, k < 16 → q ≠ 9 * k + 1 ∧ q ≠ 9 * k + 4) : mOK (cW d 1 q v) := by
  intro k hk
  obtain ⟨h1, h2⟩ := h k hk
  have e1 : cW d 1 q v 1 (9 * k + 1) = d 1 (9 * k + 1) := by simp [cW, Ne.symm (hq k hk).1]
  have e2 : cW d 1 q v 1 (9 * k + 4) = d 1 (9 * k + 4) := by simp [cW, Ne.symm (hq k hk).2]
  rw [e1, e2]
  exact ⟨h1, h2⟩
theorem mOK_own {d : cSt} (h : mOK d) {x : Int32} (hx : vp_in x 16) : vp_in (d 1 (9 * ix x + 1)) 24 := by
  obtain ⟨j, hj, rfl⟩ := vp_in_of hx (by omega)
  rw [ix_nI (by omega)]
  exact (h j hj).1
theorem mOK_mate {d : cSt} (h : mOK d) {x : Int32} (hx : vp_in x 16) (h8 : ¬ d 1 (9 * ix x + 4) < 0) : vp_in (d 1 (9 * ix x + 4)) 16 := by
  obtain ⟨j, hj, rfl⟩ := vp_in_of hx (by omega)
  rw [ix_nI (by omega)] at h8 ⊢
  rcases (h j hj).2 with q | q
  · exact absurd q h8
  · exact q
/-- the hole k places behind a dove's own, around -/
def mHk (d : cSt) (x k : Int32) : Int32 := (d 1 (9 * ix x + 1) + k) - (d 1 (9 * ix x + 1) + k) / 24 * 24
theorem rem24 {a k : Nat} (ha : a < 24) (hk : k < 25) : (nI a + nI k) - (nI a + nI k) / 24 * 24 = nI ((a + k) % 24) := by
  have e : (24 : Int32) = nI 24 := rfl
  rw [e, nI_add]
  exact pk_rem (by omega) (by omega) (by omega)
theorem mHk_in {d : cSt} {x : Int32} {k : Nat} (ho : vp_in (d 1 (9 * ix x + 1)) 24) (hk : k < 25) : vp_in (mHk d x (nI k)) 24 := by
  unfold mHk
  obtain ⟨j, hj, e⟩ := vp_in_of ho (by omega)
  rw [e, rem24 hj hk]
  exact vp_in_nI (Nat.mod_lt _ (by omega)) (by omega)
def mFreeL (d : cSt) (x : Int32) : Nat → Nat → Int32
  | 0, _ => -1
  | n + 1, k => if mFree d (mHk d x (nI k)) = true then mHk d x (nI k) else mFreeL d x n (k + 1)
def mPl (d : cSt) (x : Int32) : Int32 := d 1 (9 * ix (d 1 (9 * ix x + 4)) + 3)
def mFirst (d : cSt) (x : Int32) : Int32 :=
  if d 1 (9 * ix x + 4) < 0 then mFreeL d x 24 0
  else if mIn (mPl d x) 0 23 = false then mFreeL d x 24 0
  else if mIn (mPl d x - 1) 0 23 = true ∧ mFree d (mPl d x - 1) = true then mPl d x - 1
  else if mIn (mPl d x + 1) 0 23 = true ∧ mFree d (mPl d x + 1) = true then mPl d x + 1
  else mFreeL d x 24 0
theorem pl_b {p : Int32} (h : mIn p 0 23 = true) : ¬ p + 1 < p - 1 ∧ p - 1 + 2 = p + 1 ∧ ¬ p + 1 < p + 1 ∧ p + 1 < p + 1 + 2 := by
  obtain ⟨j, hj, rfl⟩ := vp_in_of (mIn_in24 h) (by omega)
  clear h
  revert hj
  revert j
  decide +kernel
def mSt (d : cSt) : Nat := ix (d 1 180)
def mSitS (d : cSt) (x y : Int32) : cSt := cW (cW (cW (cW d 1 (9 * ix x + 3) y) 1 (181 + 2 * mSt d) x) 1 (181 + 2 * mSt d + 1) y) 1 180 (nI (mSt d + 1))
def mCount (d : cSt) (x y : Int32) : cSt := cW (cW (cW d 1 172 (d 1 172 + 1)) 1 173 (d 1 173 + (if d 1 (9 * ix x + 4) = y then 0 else 1))) 1 (9 * ix y + 6) (d 1 (9 * ix y + 6) + 1)
/-- how many steps are written -/
def mStp (d : cSt) (n : Nat) : Prop := d 1 180 = nI n
theorem mSitS_ok {d : cSt} {x y : Int32} {n : Nat} (h : mOK d) (hx : vp_in x 16) (hn : mStp d n) (h25 : n < 25) : mOK (mSitS d x y) ∧ mStp (mSitS d x y) (n + 1) := by
  have h3 := vix hx
  have e : mSt d = n := by unfold mSt; rw [hn]; exact ix_nI (by omega)
  refine ⟨?_, by unfold mStp mSitS; rw [e]; simp [cW]⟩
  unfold mSitS
  rw [e]
  refine mOK_W (mOK_W (mOK_W (mOK_W h ?_) ?_) ?_) ?_ <;> (intro k hk; omega)
theorem mCount_ok {d : cSt} {x y : Int32} {n : Nat} (h : mOK d) (hy : vp_in y 16) (hn : mStp d n) : mOK (mCount d x y) ∧ mStp (mCount d x y) n := by
  have h3 := vix hy
  refine ⟨?_, ?_⟩
  · unfold mCount
    refine mOK_W (mOK_W (mOK_W h ?_) ?_) ?_ <;> (intro k hk; omega)
  · unfold mStp mCount
    rw [← hn]
    simp only [cW, if_true, if_neg (show ¬ 180 = 9 * ix y + 6 by omega), if_neg (show ¬ (180 : Nat) = 173 by omega), if_neg (show ¬ (180 : Nat) = 172 by omega)]
theorem mOut_ok {d : cSt} {y v : Int32} {n : Nat} (h : mOK d) (hy : vp_in y 16) (hn : mStp d n) : mOK (cW d 1 (9 * ix y + 3) v) ∧ mStp (cW d 1 (9 * ix y + 3) v) n := by
  have h3 := vix hy
  refine ⟨mOK_W h (fun k hk => by omega), ?_⟩
  unfold mStp
  rw [← hn]
  simp only [cW, if_true, if_neg (show ¬ 180 = 9 * ix y + 3 by omega)]
/-- one dove looks: the changed row, the next one that looks, the shifts -/
def mStep (mo : Int32) (d : cSt) (y s : Int32) : cSt × Int32 × Int32 :=
  if 0 ≤ mFirst d y then (mSitS d y (mFirst d y), -1, s)
  else if mOpen d (mHk d y 1) = true ∧ ¬ mSit d (mHk d y 1) < 0 ∧ ¬ d 1 (9 * ix y + 2) ≤ d 1 (9 * ix (mSit d (mHk d y 1)) + 2) ∧ ¬ mo ≤ s then
    (mSitS (cW (mCount d y (mSit d (mHk d y 1))) 1 (9 * ix (mSit d (mHk d y 1)) + 3) (-1)) y (mHk d y 1), mSit d (mHk d y 1), s + 1)
  else (mSitS d y 24, -1, s)
def mRun (mo : Int32) : Nat → cSt → Int32 → Int32 → cSt × Int32
  | 0, d, _, s => (d, s)
  | n + 1, d, y, s => if y < 0 then (d, s) else mRun mo n (mStep mo d y s).1 (mStep mo d y s).2.1 (mStep mo d y s).2.2
theorem mRun_neg {mo : Int32} {d : cSt} {y s : Int32} (h : y < 0) : ∀ n, mRun mo n d y s = (d, s)
  | 0 => rfl
  | n + 1 => by rw [mRun, if_pos h]
def mH0 (d : cSt) (t : Int32) : cSt := cW (cW d 1 168 t) 1 180 0
/-- ahead of the loop: the row, who looks, the shifts -/
def mHome0 (d : cSt) (x t : Int32) : cSt × Int32 × Int32 :=
  if ¬ t ≤ d 1 170 then (cW (mH0 d t) 1 (9 * ix x + 5) (d 1 (9 * ix x + 5) + 1), x, 0)
  else if mOpen (mH0 d t) (d 1 (9 * ix x + 1)) = true then
    (if mSit (mH0 d t) (d 1 (9 * ix x + 1)) < 0 then (mSitS (mH0 d t) x (d 1 (9 * ix x + 1)), -1, 0)
     else if d 1 171 ≤ 0 then (mSitS (cW (mH0 d t) 1 (9 * ix (mSit (mH0 d t) (d 1 (9 * ix x + 1))) + 3) 24) x (d 1 (9 * ix x + 1)), -1, 0)
     else (mSitS (cW (mCount (mH0 d t) x (mSit (mH0 d t) (d 1 (9 * ix x + 1)))) 1 (9 * ix (mSit (mH0 d t) (d 1 (9 * ix x + 1))) + 3) (-1)) x (d 1 (9 * ix x + 1)), mSit (mH0 d t) (d 1 (9 * ix x + 1)), 1))
  else (mH0 d t, x, 0)
def mHome (d : cSt) (x t : Int32) : cSt × Int32 := mRun (d 1 171) 26 (mHome0 d x t).1 (mHome0 d x t).2.1 (mHome0 d x t).2.2
def mWhyH (d : cSt) (x t : Int32) : Int32 := if d 1 (9 * ix x + 3) = -1 then (if d 1 168 ≤ t then 0 else 2) else 1
set_option maxRecDepth 100000 in
set_option maxHeartbeats 4000000 in
theorem k_X4_freeFor_70 (l : Launch) {E : gEn} {σ : gSt} {π : Nat → Nat} {o : Int64} {d : cSt} {x r : Int32} (hx : vp_in x 16) (ho : vp_in (d 1 (9 * ix x + 1)) 24) (hr : r = mFreeL d x 24 0) {p : Program} {e : Env} {s : State} {m : MethodId} {args : Array Value} {below : List Frame} {meth : Method} {cd : Code} (C : gCx p s m cd cX4_freeFor 5 RX4 wsX4_freeFor args E (gA E) ({ frames := 4, cells := 0, slots := 0, locals := 87 } : Room) 0 0) (hrt : meth.sig.returnType = (some .int)) (hlk : meth.locks = false) : G p l e ({ frames := 4, cells := 0, slots := 0, locals := 87 } : Room) s m args below meth cd 5 0 0 (gA E) (gQI below args s (r) E (gU σ 10 d) π o) E (gU σ 10 d) π o 70 [some (.ref (E.2.1 10 0)), some (.int x), none, none, none] [] := by
  have hinX4 : ∀ w ∈ wsX40, w ∈ wsX4_freeFor := by decide +kernel
  refine G.iconst C 0 dX4_freeFor_70 (by decide) ?_
  refine G.istn3 C dX4_freeFor_71 (by omega) rfl ?_
  have L72 : ∀ (n k : Nat), k + n = 24 → mFreeL d x 24 0 = mFreeL d x n k → G p l e ({ frames := 4, cells := 0, slots := 0, locals := 87 } : Room) s m args below meth cd 5 0 0 (gA E) (gQI below args s (r) E (gU σ 10 d) π o) E (gU σ 10 d) π o 72 [some (.ref (E.2.1 10 0)), some (.int x), none, some (.int (nI k)), none] [] := by
    intro n
    induction n with
    | zero =>
      intro k hk  hq0
      obtain rfl : 24 = k := by omega
      refine G.ildn3 C dX4_freeFor_72 ?_
      refine G.bipush C 24 dX4_freeFor_73 (by decide) ?_
      refine G.icmp_ge C 109 dX4_freeFor_75 (by decide) (fun _ => ?_) (fun h => absurd (nI_le (a := 24) (b := 24) (by omega) (by decide)) h)
      refine G.iconst C (-1) dX4_freeFor_109 (by decide) ?_
      exact G.iret C hlk hrt dX4_freeFor_110 (by rw [hr, hq0]; rfl) (by exact fun _ h => h)
    | succ n ih =>
      intro k hk  hq0
      have hk2 : k < 24 := by omega
      refine G.ildn3 C dX4_freeFor_72 ?_
      refine G.bipush C 24 dX4_freeFor_73 (by decide) ?_
      refine G.icmp_ge C 109 dX4_freeFor_75 (by decide) (fun h => absurd h (nI_ge (b := 24) hk2 (by decide))) (fun _ => ?_)
      refine G.aldn0 C dX4_freeFor_78 ?_
      refine G.ildn1 C dX4_freeFor_79 ?_
      refine G.iconst C 1 dX4_freeFor_80 (by decide) ?_
      refine G.callVI2 C (k_X4_of l (w := 1) (by first | assumption | exact vp_in_nI (by omega) (by omega) | exact mDove_in (by assumption) | exact mSit_in (by assumption)) (by omega) rfl) (cwV 2 C.1.2.2.2.2 gX4_freeFor_X4_of rfl rfl rfl (by decide +kernel) ⟨Nat.le_of_ble_eq_true rfl, Nat.le_of_ble_eq_true rfl⟩) gO_d rfl (Nat.le_of_ble_eq_true rfl) dX4_freeFor_81 ?_
      refine G.ildn3 C dX4_freeFor_84 ?_
      refine G.iadd C dX4_freeFor_85 ?_
      refine G.bipush C 24 dX4_freeFor_86 (by decide) ?_
      refine G.irem C dX4_freeFor_88 (by decide) ?_
      refine G.topI (mHk d x (nI k)) rfl ?_
      refine G.ist4 C dX4_freeFor_89 (by omega) rfl ?_
      refine G.aldn0 C dX4_freeFor_91 ?_
      refine G.ild4 C dX4_freeFor_92 ?_
      refine G.callVI1 C (k_X4_isFree l (mHk_in ho (by omega))) (cwV 1 C.1.2.2.2.2 gX4_freeFor_X4_isFree rfl rfl rfl (by decide +kernel) ⟨Nat.le_of_ble_eq_true rfl, Nat.le_of_ble_eq_true rfl⟩) gO_d rfl (Nat.le_of_ble_eq_true rfl) dX4_freeFor_94 ?_
      refine G.if_eqB C 103 dX4_freeFor_97 (by decide) (fun h97 => ?_) (fun h97 => ?_)
      · refine G.iincN3 C dX4_freeFor_103 (by omega) rfl ?_
        refine G.goto C 72 dX4_freeFor_106 (by decide) ?_
        exact G.back (ih (k + 1) (by omega) (by rw [hq0]; simp [mFreeL, *])) rfl ⟨(by first | rfl | simp), (by first | rfl | simp), (by first | rfl | simp), trivial⟩
      · refine G.ild4 C dX4_freeFor_100 ?_
        exact G.iret C hlk hrt dX4_freeFor_102 (by rw [hr, hq0]; simp [mFreeL, *]) (by exact fun _ h => h)
  exact G.back (L72 24 0 (Nat.zero_add _) rfl) rfl ⟨(by first | rfl | simp), (by first | rfl | simp), (by first | rfl | simp), trivial⟩
set_option maxRecDepth 100000 in
set_option maxHeartbeats 4000000 in
theorem k_X4_freeFor_35c (l : Launch) {E : gEn} {σ : gSt} {π : Nat → Nat} {o : Int64} {d : cSt} {x r : Int32} (hx : vp_in x 16) (ho : vp_in (d 1 (9 * ix x + 1)) 24) (hm : vp_in (d 1 (9 * ix x + 4)) 16) (hp : mIn (mPl d x) 0 23 = true) (hr : r = mFreeL d x 24 0) {p : Program} {e : Env} {s : State} {m : MethodId} {args : Array Value} {below : List Frame} {meth : Method} {cd : Code} (C : gCx p s m cd cX4_freeFor 5 RX4 wsX4_freeFor args E (gA E) ({ frames := 4, cells := 0, slots := 0, locals := 87 } : Room) 0 0) (hrt : meth.sig.returnType = (some .int)) (hlk : meth.locks = false) : G p l e ({ frames := 4, cells := 0, slots := 0, locals := 87 } : Room) s m args below meth cd 5 0 0 (gA E) (gQI below args s (r) E (gU σ 10 d) π o) E (gU σ 10 d) π o 35 [some (.ref (E.2.1 10 0)), some (.int x), some (.int (d 1 (9 * ix x + 4))), some (.int (mPl d x + 1 + 2)), none] [] := by
  have hinX4 : ∀ w ∈ wsX40, w ∈ wsX4_freeFor := by decide +kernel
  refine G.ildn3 C dX4_freeFor_35 ?_
  refine G.aldn0 C dX4_freeFor_36 ?_
  refine G.ildn2 C dX4_freeFor_37 ?_
  refine G.iconst C 3 dX4_freeFor_38 (by decide) ?_
  refine G.callVI2 C (k_X4_of l (w := 3) hm (by omega) rfl) (cwV 2 C.1.2.2.2.2 gX4_freeFor_X4_of rfl rfl rfl (by decide +kernel) ⟨Nat.le_of_ble_eq_true rfl, Nat.le_of_ble_eq_true rfl⟩) gO_d rfl (Nat.le_of_ble_eq_true rfl) dX4_freeFor_39 ?_
  refine G.topI (mPl d x) rfl ?_
  refine G.iconst C 1 dX4_freeFor_42 (by decide) ?_
  refine G.iadd C dX4_freeFor_43 ?_
  refine G.icmp_gt C 70 dX4_freeFor_44 (by decide) (fun h44 => ?_) (fun h44 => absurd ((pl_b hp).2.2.2) h44)
  refine G.less (gSub_ok [some (.ref (E.2.1 10 0)), some (.int x), none, none, none] _ ⟨rfl, rfl, trivial⟩) ?_
  exact k_X4_freeFor_70 l hx ho (hr) C hrt hlk
set_option maxRecDepth 100000 in
set_option maxHeartbeats 4000000 in
theorem k_X4_freeFor_35b (l : Launch) {E : gEn} {σ : gSt} {π : Nat → Nat} {o : Int64} {d : cSt} {x r : Int32} (hx : vp_in x 16) (ho : vp_in (d 1 (9 * ix x + 1)) 24) (hm : vp_in (d 1 (9 * ix x + 4)) 16) (hp : mIn (mPl d x) 0 23 = true) (hr : r = if mIn (mPl d x + 1) 0 23 = true ∧ mFree d (mPl d x + 1) = true then mPl d x + 1 else mFreeL d x 24 0) {p : Program} {e : Env} {s : State} {m : MethodId} {args : Array Value} {below : List Frame} {meth : Method} {cd : Code} (C : gCx p s m cd cX4_freeFor 5 RX4 wsX4_freeFor args E (gA E) ({ frames := 4, cells := 0, slots := 0, locals := 87 } : Room) 0 0) (hrt : meth.sig.returnType = (some .int)) (hlk : meth.locks = false) : G p l e ({ frames := 4, cells := 0, slots := 0, locals := 87 } : Room) s m args below meth cd 5 0 0 (gA E) (gQI below args s (r) E (gU σ 10 d) π o) E (gU σ 10 d) π o 35 [some (.ref (E.2.1 10 0)), some (.int x), some (.int (d 1 (9 * ix x + 4))), some (.int (mPl d x + 1)), none] [] := by
  have hinX4 : ∀ w ∈ wsX40, w ∈ wsX4_freeFor := by decide +kernel
  refine G.ildn3 C dX4_freeFor_35 ?_
  refine G.aldn0 C dX4_freeFor_36 ?_
  refine G.ildn2 C dX4_freeFor_37 ?_
  refine G.iconst C 3 dX4_freeFor_38 (by decide) ?_
  refine G.callVI2 C (k_X4_of l (w := 3) hm (by omega) rfl) (cwV 2 C.1.2.2.2.2 gX4_freeFor_X4_of rfl rfl rfl (by decide +kernel) ⟨Nat.le_of_ble_eq_true rfl, Nat.le_of_ble_eq_true rfl⟩) gO_d rfl (Nat.le_of_ble_eq_true rfl) dX4_freeFor_39 ?_
  refine G.topI (mPl d x) rfl ?_
  refine G.iconst C 1 dX4_freeFor_42 (by decide) ?_
  refine G.iadd C dX4_freeFor_43 ?_
  refine G.icmp_gt C 70 dX4_freeFor_44 (by decide) (fun h44 => absurd h44 ((pl_b hp).2.2.1)) (fun h44 => ?_)
  refine G.ildn3 C dX4_freeFor_47 ?_
  refine G.callSI1 C (k_X4_isHole l) (va_cwS 1 C.1.2.2.2.2 gX4_freeFor_X4_isHole rfl rfl rfl (by decide +kernel) ⟨Nat.le_of_ble_eq_true rfl, Nat.le_of_ble_eq_true rfl⟩) (Nat.le_of_ble_eq_true rfl) dX4_freeFor_48 ?_
  refine G.if_eqB C 64 dX4_freeFor_51 (by decide) (fun h51 => ?_) (fun h51 => ?_)
  · refine G.iinc3 C _ dX4_freeFor_64 (by omega) rfl rfl ?_
    refine G.goto C 35 dX4_freeFor_67 (by decide) ?_
    refine G.back (k_X4_freeFor_35c l hx ho hm hp (by rw [hr]; simp [*]) C hrt hlk) rfl ⟨rfl, rfl, rfl, rfl, trivial⟩
  · refine G.aldn0 C dX4_freeFor_54 ?_
    refine G.ildn3 C dX4_freeFor_55 ?_
    refine G.callVI1 C (k_X4_isFree l (mIn_in24 h51)) (cwV 1 C.1.2.2.2.2 gX4_freeFor_X4_isFree rfl rfl rfl (by decide +kernel) ⟨Nat.le_of_ble_eq_true rfl, Nat.le_of_ble_eq_true rfl⟩) gO_d rfl (Nat.le_of_ble_eq_true rfl) dX4_freeFor_56 ?_
    refine G.if_eqB C 64 dX4_freeFor_59 (by decide) (fun h59 => ?_) (fun h59 => ?_)
    · refine G.iinc3 C _ dX4_freeFor_64 (by omega) rfl rfl ?_
      refine G.goto C 35 dX4_freeFor_67 (by decide) ?_
      refine G.back (k_X4_freeFor_35c l hx ho hm hp (by rw [hr]; simp [*]) C hrt hlk) rfl ⟨rfl, rfl, rfl, rfl, trivial⟩
    · refine G.ildn3 C dX4_freeFor_62 ?_
      exact G.iret C hlk hrt dX4_freeFor_63 (by rw [hr]; simp [*]) (by exact fun _ h => h)
set_option maxRecDepth 100000 in
set_option maxHeartbeats 4000000 in
theorem k_X4_freeFor_35a (l : Launch) {E : gEn} {σ : gSt} {π : Nat → Nat} {o : Int64} {d : cSt} {x r : Int32} (hx : vp_in x 16) (ho : vp_in (d 1 (9 * ix x + 1)) 24) (hm : vp_in (d 1 (9 * ix x + 4)) 16) (hp : mIn (mPl d x) 0 23 = true) (hr : r = if mIn (mPl d x - 1) 0 23 = true ∧ mFree d (mPl d x - 1) = true then mPl d x - 1 else if mIn (mPl d x + 1) 0 23 = true ∧ mFree d (mPl d x + 1) = true then mPl d x + 1 else mFreeL d x 24 0) {p : Program} {e : Env} {s : State} {m : MethodId} {args : Array Value} {below : List Frame} {meth : Method} {cd : Code} (C : gCx p s m cd cX4_freeFor 5 RX4 wsX4_freeFor args E (gA E) ({ frames := 4, cells := 0, slots := 0, locals := 87 } : Room) 0 0) (hrt : meth.sig.returnType = (some .int)) (hlk : meth.locks = false) : G p l e ({ frames := 4, cells := 0, slots := 0, locals := 87 } : Room) s m args below meth cd 5 0 0 (gA E) (gQI below args s (r) E (gU σ 10 d) π o) E (gU σ 10 d) π o 35 [some (.ref (E.2.1 10 0)), some (.int x), some (.int (d 1 (9 * ix x + 4))), some (.int (mPl d x - 1)), none] [] := by
  have hinX4 : ∀ w ∈ wsX40, w ∈ wsX4_freeFor := by decide +kernel
  refine G.ildn3 C dX4_freeFor_35 ?_
  refine G.aldn0 C dX4_freeFor_36 ?_
  refine G.ildn2 C dX4_freeFor_37 ?_
  refine G.iconst C 3 dX4_freeFor_38 (by decide) ?_
  refine G.callVI2 C (k_X4_of l (w := 3) hm (by omega) rfl) (cwV 2 C.1.2.2.2.2 gX4_freeFor_X4_of rfl rfl rfl (by decide +kernel) ⟨Nat.le_of_ble_eq_true rfl, Nat.le_of_ble_eq_true rfl⟩) gO_d rfl (Nat.le_of_ble_eq_true rfl) dX4_freeFor_39 ?_
  refine G.topI (mPl d x) rfl ?_
  refine G.iconst C 1 dX4_freeFor_42 (by decide) ?_
  refine G.iadd C dX4_freeFor_43 ?_
  refine G.icmp_gt C 70 dX4_freeFor_44 (by decide) (fun h44 => absurd h44 ((pl_b hp).1)) (fun h44 => ?_)
  refine G.ildn3 C dX4_freeFor_47 ?_
  refine G.callSI1 C (k_X4_isHole l) (va_cwS 1 C.1.2.2.2.2 gX4_freeFor_X4_isHole rfl rfl rfl (by decide +kernel) ⟨Nat.le_of_ble_eq_true rfl, Nat.le_of_ble_eq_true rfl⟩) (Nat.le_of_ble_eq_true rfl) dX4_freeFor_48 ?_
  refine G.if_eqB C 64 dX4_freeFor_51 (by decide) (fun h51 => ?_) (fun h51 => ?_)
  · refine G.iinc3 C _ dX4_freeFor_64 (by omega) rfl rfl ?_
    refine G.goto C 35 dX4_freeFor_67 (by decide) ?_
    refine G.back (k_X4_freeFor_35b l hx ho hm hp (by rw [hr]; simp [*]) C hrt hlk) rfl ⟨rfl, rfl, rfl, congrArg (fun z => some (Value.int z)) (pl_b hp).2.1, trivial⟩
  · refine G.aldn0 C dX4_freeFor_54 ?_
    refine G.ildn3 C dX4_freeFor_55 ?_
    refine G.callVI1 C (k_X4_isFree l (mIn_in24 h51)) (cwV 1 C.1.2.2.2.2 gX4_freeFor_X4_isFree rfl rfl rfl (by decide +kernel) ⟨Nat.le_of_ble_eq_true rfl, Nat.le_of_ble_eq_true rfl⟩) gO_d rfl (Nat.le_of_ble_eq_true rfl) dX4_freeFor_56 ?_
    refine G.if_eqB C 64 dX4_freeFor_59 (by decide) (fun h59 => ?_) (fun h59 => ?_)
    · refine G.iinc3 C _ dX4_freeFor_64 (by omega) rfl rfl ?_
      refine G.goto C 35 dX4_freeFor_67 (by decide) ?_
      refine G.back (k_X4_freeFor_35b l hx ho hm hp (by rw [hr]; simp [*]) C hrt hlk) rfl ⟨rfl, rfl, rfl, congrArg (fun z => some (Value.int z)) (pl_b hp).2.1, trivial⟩
    · refine G.ildn3 C dX4_freeFor_62 ?_
      exact G.iret C hlk hrt dX4_freeFor_63 (by rw [hr]; simp [*]) (by exact fun _ h => h)
set_option maxRecDepth 100000 in
set_option maxHeartbeats 4000000 in
theorem k_X4_freeFor (l : Launch) {E : gEn} {σ : gSt} {π : Nat → Nat} {o : Int64} {d : cSt} {x : Int32} (hx : vp_in x 16) (hok : mOK d) : CtI l yX4_freeFor wsX4_freeFor ({ frames := 4, cells := 0, slots := 0, locals := 87 } : Room) E [.ref (E.2.1 10 0), .int x] (gU σ 10 d) π o (mFirst d x) (gU σ 10 d) π o := by
  refine CtI.of (cc := cX4_freeFor) (own := RX4) (maxL := 5) (ret := (some .int)) [some (.ref (E.2.1 10 0)), some (.int x), none, none, none] (by decide) rfl rfl (Nat.le_of_ble_eq_true rfl) rfl ?_
  intro p e s m args below meth cd C hrt hlk
  have hinX4 : ∀ w ∈ wsX40, w ∈ wsX4_freeFor := by decide +kernel
  have ho := mOK_own hok hx
  refine G.aldn0 C dX4_freeFor_0 ?_
  refine G.ildn1 C dX4_freeFor_1 ?_
  refine G.iconst C 4 dX4_freeFor_2 (by decide) ?_
  refine G.callVI2 C (k_X4_of l (w := 4) (by first | assumption | exact vp_in_nI (by omega) (by omega) | exact mDove_in (by assumption) | exact mSit_in (by assumption)) (by omega) rfl) (cwV 2 C.1.2.2.2.2 gX4_freeFor_X4_of rfl rfl rfl (by decide +kernel) ⟨Nat.le_of_ble_eq_true rfl, Nat.le_of_ble_eq_true rfl⟩) gO_d rfl (Nat.le_of_ble_eq_true rfl) dX4_freeFor_3 ?_
  refine G.istn2 C dX4_freeFor_6 (by omega) rfl ?_
  refine G.ildn2 C dX4_freeFor_7 ?_
  refine G.if_lt C 70 dX4_freeFor_8 (by decide) (fun h8 => ?_) (fun h8 => ?_)
  · refine G.less (gSub_ok [some (.ref (E.2.1 10 0)), some (.int x), none, none, none] _ ⟨rfl, rfl, trivial⟩) ?_
    exact k_X4_freeFor_70 l hx ho (by simp [mFirst, *]) C hrt hlk
  · refine G.aldn0 C dX4_freeFor_11 ?_
    refine G.ildn2 C dX4_freeFor_12 ?_
    refine G.iconst C 3 dX4_freeFor_13 (by decide) ?_
    refine G.callVI2 C (k_X4_of l (w := 3) (mOK_mate hok hx h8) (by omega) rfl) (cwV 2 C.1.2.2.2.2 gX4_freeFor_X4_of rfl rfl rfl (by decide +kernel) ⟨Nat.le_of_ble_eq_true rfl, Nat.le_of_ble_eq_true rfl⟩) gO_d rfl (Nat.le_of_ble_eq_true rfl) dX4_freeFor_14 ?_
    refine G.topI (mPl d x) rfl ?_
    refine G.iconst C 0 dX4_freeFor_17 (by decide) ?_
    refine G.bipush C 23 dX4_freeFor_18 (by decide) ?_
    refine G.callSI3 C (k_X4_in l) (va_cwS 3 C.1.2.2.2.2 gX4_freeFor_X4_in rfl rfl rfl (by decide +kernel) ⟨Nat.le_of_ble_eq_true rfl, Nat.le_of_ble_eq_true rfl⟩) (Nat.le_of_ble_eq_true rfl) dX4_freeFor_20 ?_
    refine G.if_eqB C 70 dX4_freeFor_23 (by decide) (fun h23 => ?_) (fun h23 => ?_)
    · refine G.less (gSub_ok [some (.ref (E.2.1 10 0)), some (.int x), none, none, none] _ ⟨rfl, rfl, trivial⟩) ?_
      exact k_X4_freeFor_70 l hx ho (by simp [mFirst, *]) C hrt hlk
    · refine G.aldn0 C dX4_freeFor_26 ?_
      refine G.ildn2 C dX4_freeFor_27 ?_
      refine G.iconst C 3 dX4_freeFor_28 (by decide) ?_
      refine G.callVI2 C (k_X4_of l (w := 3) (mOK_mate hok hx h8) (by omega) rfl) (cwV 2 C.1.2.2.2.2 gX4_freeFor_X4_of rfl rfl rfl (by decide +kernel) ⟨Nat.le_of_ble_eq_true rfl, Nat.le_of_ble_eq_true rfl⟩) gO_d rfl (Nat.le_of_ble_eq_true rfl) dX4_freeFor_29 ?_
      refine G.topI (mPl d x) rfl ?_
      refine G.iconst C 1 dX4_freeFor_32 (by decide) ?_
      refine G.isub C dX4_freeFor_33 ?_
      refine G.istn3 C dX4_freeFor_34 (by omega) rfl ?_
      refine G.back (k_X4_freeFor_35a l hx ho (mOK_mate hok hx h8) h23 (by simp [mFirst, *]) C hrt hlk) rfl ⟨rfl, rfl, rfl, rfl, trivial⟩
set_option maxRecDepth 100000 in
set_option maxHeartbeats 4000000 in
theorem k_X4_sit (l : Launch) {E : gEn} {σ : gSt} {π : Nat → Nat} {o : Int64} {d : cSt} {x y : Int32} {n : Nat} (hx : vp_in x 16) (hn : mStp d n) (h25 : n < 25) : CtV l yX4_sit wsX4_sit ({ frames := 1, cells := 0, slots := 0, locals := 23 } : Room) E [.ref (E.2.1 10 0), .int x, .int y] (gU σ 10 d) π o  (gU σ 10 (mSitS d x y)) π o := by
  refine CtV.of (cc := cX4_sit) (own := RX4) (maxL := 3) (ret := none) [some (.ref (E.2.1 10 0)), some (.int x), some (.int y)] (by decide) rfl rfl (Nat.le_of_ble_eq_true rfl) rfl ?_
  intro p e s m args below meth cd C hrt hlk
  have hinX4 : ∀ w ∈ wsX40, w ∈ wsX4_sit := by decide +kernel
  refine G.aldn0 C dX4_sit_0 ?_
  refine G.ildn1 C dX4_sit_1 ?_
  refine G.iconst C 3 dX4_sit_2 (by decide) ?_
  refine G.ildn2 C dX4_sit_3 ?_
  refine G.callVV3 C (k_X4_put l (w := 3) hx (by omega) rfl) (cwV 3 C.1.2.2.2.2 gX4_sit_X4_put rfl rfl rfl (by decide +kernel) ⟨Nat.le_of_ble_eq_true rfl, Nat.le_of_ble_eq_true rfl⟩) gO_d rfl (Nat.le_of_ble_eq_true rfl) dX4_sit_4 ?_
  refine G.aldn0 C dX4_sit_7 ?_
  refine G.getD C hinX4 1 (by decide) rfl (C.1.2.2.2.2 (.fieldLink RX4 7 RX4 "z" "[I") (by decide +kernel)) rfl dX4_sit_8 ?_
  refine G.sipush C 181 dX4_sit_11 (by decide) ?_
  refine G.iconst C 2 dX4_sit_14 (by decide) ?_
  refine G.aldn0 C dX4_sit_15 ?_
  refine G.getD C hinX4 1 (by decide) rfl (C.1.2.2.2.2 (.fieldLink RX4 7 RX4 "z" "[I") (by decide +kernel)) rfl dX4_sit_16 ?_
  refine G.sipush C 180 dX4_sit_19 (by decide) ?_
  refine G.ialdU C (n := 232) (j := 1) (d0 := 180) rfl (gV_d (by omega)) (by unfold vp_in; decide) (by decide) dX4_sit_22 ?_
  refine G.topI (d 1 180) (st1 hx) ?_
  refine G.imul C dX4_sit_23 ?_
  refine G.iadd C dX4_sit_24 ?_
  refine G.ildn1 C dX4_sit_25 ?_
  refine G.iastU C (n := 232) (j := 1) (d0 := (181 + 2 * mSt d)) rfl (gV_d (by omega)) (sidx1 hn h25).1 (sidx1 hn h25).2 dX4_sit_26 ?_
  refine G.aldn0 C dX4_sit_27 ?_
  refine G.getD C hinX4 1 (by decide) rfl (C.1.2.2.2.2 (.fieldLink RX4 7 RX4 "z" "[I") (by decide +kernel)) rfl dX4_sit_28 ?_
  refine G.sipush C 181 dX4_sit_31 (by decide) ?_
  refine G.iconst C 2 dX4_sit_34 (by decide) ?_
  refine G.aldn0 C dX4_sit_35 ?_
  refine G.getD C hinX4 1 (by decide) rfl (C.1.2.2.2.2 (.fieldLink RX4 7 RX4 "z" "[I") (by decide +kernel)) rfl dX4_sit_36 ?_
  refine G.sipush C 180 dX4_sit_39 (by decide) ?_
  refine G.ialdU C (n := 232) (j := 1) (d0 := 180) rfl (gV_d (by omega)) (by unfold vp_in; decide) (by decide) dX4_sit_42 ?_
  refine G.topI (d 1 180) (st3.trans (st1 hx)) ?_
  refine G.imul C dX4_sit_43 ?_
  refine G.iadd C dX4_sit_44 ?_
  refine G.iconst C 1 dX4_sit_45 (by decide) ?_
  refine G.iadd C dX4_sit_46 ?_
  refine G.ildn2 C dX4_sit_47 ?_
  refine G.iastU C (n := 232) (j := 1) (d0 := (181 + 2 * mSt d + 1)) rfl (gV_d (by omega)) (sidx2 hn h25).1 (sidx2 hn h25).2 dX4_sit_48 ?_
  refine G.aldn0 C dX4_sit_49 ?_
  refine G.getD C hinX4 1 (by decide) rfl (C.1.2.2.2.2 (.fieldLink RX4 7 RX4 "z" "[I") (by decide +kernel)) rfl dX4_sit_50 ?_
  refine G.sipush C 180 dX4_sit_53 (by decide) ?_
  refine G.dup2 C dX4_sit_56 rfl rfl ?_
  refine G.ialdU C (n := 232) (j := 1) (d0 := 180) rfl (gV_d (by omega)) (by unfold vp_in; decide) (by decide) dX4_sit_57 ?_
  refine G.topI (d 1 180) (st2.trans (st1 hx)) ?_
  refine G.iconst C 1 dX4_sit_58 (by decide) ?_
  refine G.iadd C dX4_sit_59 ?_
  refine G.topI (nI (mSt d + 1)) (by unfold mSt; rw [show d 1 180 = nI n from hn, ix_nI (by omega)]; exact nI_1 n) ?_
  refine G.iastU C (n := 232) (j := 1) (d0 := 180) rfl (gV_d (by omega)) (by unfold vp_in; decide) (by decide) dX4_sit_60 ?_
  exact G.vret C hlk hrt dX4_sit_61 (by exact fun _ h => h)
set_option maxRecDepth 100000 in
set_option maxHeartbeats 4000000 in
theorem k_X4_countShift (l : Launch) {E : gEn} {σ : gSt} {π : Nat → Nat} {o : Int64} {d : cSt} {x y : Int32} (hx : vp_in x 16) (hy : vp_in y 16) : CtV l yX4_countShift wsX4_countShift ({ frames := 1, cells := 0, slots := 0, locals := 23 } : Room) E [.ref (E.2.1 10 0), .int x, .int y] (gU σ 10 d) π o  (gU σ 10 (mCount d x y)) π o := by
  refine CtV.of (cc := cX4_countShift) (own := RX4) (maxL := 3) (ret := none) [some (.ref (E.2.1 10 0)), some (.int x), some (.int y)] (by decide) rfl rfl (Nat.le_of_ble_eq_true rfl) rfl ?_
  intro p e s m args below meth cd C hrt hlk
  have hinX4 : ∀ w ∈ wsX40, w ∈ wsX4_countShift := by decide +kernel
  have h3 := vix hx
  have h4 := vix hy
  refine G.aldn0 C dX4_countShift_0 ?_
  refine G.getD C hinX4 1 (by decide) rfl (C.1.2.2.2.2 (.fieldLink RX4 7 RX4 "z" "[I") (by decide +kernel)) rfl dX4_countShift_1 ?_
  refine G.sipush C 172 dX4_countShift_4 (by decide) ?_
  refine G.dup2 C dX4_countShift_7 rfl rfl ?_
  refine G.ialdU C (n := 232) (j := 1) (d0 := 172) rfl (gV_d (by omega)) (by unfold vp_in; decide) (by decide) dX4_countShift_8 ?_
  refine G.iconst C 1 dX4_countShift_9 (by decide) ?_
  refine G.iadd C dX4_countShift_10 ?_
  refine G.iastU C (n := 232) (j := 1) (d0 := 172) rfl (gV_d (by omega)) (by unfold vp_in; decide) (by decide) dX4_countShift_11 ?_
  refine G.aldn0 C dX4_countShift_12 ?_
  refine G.getD C hinX4 1 (by decide) rfl (C.1.2.2.2.2 (.fieldLink RX4 7 RX4 "z" "[I") (by decide +kernel)) rfl dX4_countShift_13 ?_
  refine G.sipush C 173 dX4_countShift_16 (by decide) ?_
  refine G.dup2 C dX4_countShift_19 rfl rfl ?_
  refine G.ialdU C (n := 232) (j := 1) (d0 := 173) rfl (gV_d (by omega)) (by unfold vp_in; decide) (by decide) dX4_countShift_20 ?_
  refine G.topI (d 1 173) rfl ?_
  refine G.aldn0 C dX4_countShift_21 ?_
  refine G.ildn1 C dX4_countShift_22 ?_
  refine G.iconst C 4 dX4_countShift_23 (by decide) ?_
  refine G.callVI2 C (k_X4_of l (w := 4) hx (by omega) rfl) (cwV 2 C.1.2.2.2.2 gX4_countShift_X4_of rfl rfl rfl (by decide +kernel) ⟨Nat.le_of_ble_eq_true rfl, Nat.le_of_ble_eq_true rfl⟩) gO_d rfl (Nat.le_of_ble_eq_true rfl) dX4_countShift_24 ?_
  refine G.topI (d 1 (9 * ix x + 4)) (by simp only [cW, if_true, if_neg (show ¬ 9 * ix x + 4 = 172 by omega)]) ?_
  refine G.ildn2 C dX4_countShift_27 ?_
  refine G.icmp_ne C 35 dX4_countShift_28 (by decide) (fun h28 => ?_) (fun h28 => ?_)
  · refine G.iconst C 1 dX4_countShift_35 (by decide) ?_
    refine G.iadd C dX4_countShift_36 ?_
    refine G.iastU C (n := 232) (j := 1) (d0 := 173) rfl (gV_d (by omega)) (by unfold vp_in; decide) (by decide) dX4_countShift_37 ?_
    refine G.aldn0 C dX4_countShift_38 ?_
    refine G.ildn2 C dX4_countShift_39 ?_
    refine G.bipush C 6 dX4_countShift_40 (by decide) ?_
    refine G.aldn0 C dX4_countShift_42 ?_
    refine G.ildn2 C dX4_countShift_43 ?_
    refine G.bipush C 6 dX4_countShift_44 (by decide) ?_
    refine G.callVI2 C (k_X4_of l (w := 6) hy (by omega) rfl) (cwV 2 C.1.2.2.2.2 gX4_countShift_X4_of rfl rfl rfl (by decide +kernel) ⟨Nat.le_of_ble_eq_true rfl, Nat.le_of_ble_eq_true rfl⟩) gO_d rfl (Nat.le_of_ble_eq_true rfl) dX4_countShift_46 ?_
    refine G.topI (d 1 (9 * ix y + 6)) (by simp only [cW, if_true, if_neg (show ¬ 9 * ix y + 6 = 173 by omega), if_neg (show ¬ 9 * ix y + 6 = 172 by omega)]) ?_
    refine G.iconst C 1 dX4_countShift_49 (by decide) ?_
    refine G.iadd C dX4_countShift_50 ?_
    refine G.callVV3 C (k_X4_put l (w := 6) hy (by omega) rfl) (cwV 3 C.1.2.2.2.2 gX4_countShift_X4_put rfl rfl rfl (by decide +kernel) ⟨Nat.le_of_ble_eq_true rfl, Nat.le_of_ble_eq_true rfl⟩) gO_d rfl (Nat.le_of_ble_eq_true rfl) dX4_countShift_51 ?_
    exact G.vret C hlk hrt dX4_countShift_54 (by intro H h; simpa [mCount, *] using h)
  · refine G.iconst C 0 dX4_countShift_31 (by decide) ?_
    refine G.goto C 36 dX4_countShift_32 (by decide) ?_
    refine G.iadd C dX4_countShift_36 ?_
    refine G.iastU C (n := 232) (j := 1) (d0 := 173) rfl (gV_d (by omega)) (by unfold vp_in; decide) (by decide) dX4_countShift_37 ?_
    refine G.aldn0 C dX4_countShift_38 ?_
    refine G.ildn2 C dX4_countShift_39 ?_
    refine G.bipush C 6 dX4_countShift_40 (by decide) ?_
    refine G.aldn0 C dX4_countShift_42 ?_
    refine G.ildn2 C dX4_countShift_43 ?_
    refine G.bipush C 6 dX4_countShift_44 (by decide) ?_
    refine G.callVI2 C (k_X4_of l (w := 6) hy (by omega) rfl) (cwV 2 C.1.2.2.2.2 gX4_countShift_X4_of rfl rfl rfl (by decide +kernel) ⟨Nat.le_of_ble_eq_true rfl, Nat.le_of_ble_eq_true rfl⟩) gO_d rfl (Nat.le_of_ble_eq_true rfl) dX4_countShift_46 ?_
    refine G.topI (d 1 (9 * ix y + 6)) (by simp only [cW, if_true, if_neg (show ¬ 9 * ix y + 6 = 173 by omega), if_neg (show ¬ 9 * ix y + 6 = 172 by omega)]) ?_
    refine G.iconst C 1 dX4_countShift_49 (by decide) ?_
    refine G.iadd C dX4_countShift_50 ?_
    refine G.callVV3 C (k_X4_put l (w := 6) hy (by omega) rfl) (cwV 3 C.1.2.2.2.2 gX4_countShift_X4_put rfl rfl rfl (by decide +kernel) ⟨Nat.le_of_ble_eq_true rfl, Nat.le_of_ble_eq_true rfl⟩) gO_d rfl (Nat.le_of_ble_eq_true rfl) dX4_countShift_51 ?_
    exact G.vret C hlk hrt dX4_countShift_54 (by intro H h; simpa [mCount, *] using h)
set_option maxRecDepth 100000 in
set_option maxHeartbeats 4000000 in
theorem k_X4_whyNoHome (l : Launch) {E : gEn} {σ : gSt} {π : Nat → Nat} {o : Int64} {d : cSt} {x t : Int32} (hx : vp_in x 16) : CtI l yX4_whyNoHome wsX4_whyNoHome ({ frames := 1, cells := 0, slots := 0, locals := 22 } : Room) E [.ref (E.2.1 10 0), .int x, .int t] (gU σ 10 d) π o (mWhyH d x t) (gU σ 10 d) π o := by
  refine CtI.of (cc := cX4_whyNoHome) (own := RX4) (maxL := 3) (ret := (some .int)) [some (.ref (E.2.1 10 0)), some (.int x), some (.int t)] (by decide) rfl rfl (Nat.le_of_ble_eq_true rfl) rfl ?_
  intro p e s m args below meth cd C hrt hlk
  have hinX4 : ∀ w ∈ wsX40, w ∈ wsX4_whyNoHome := by decide +kernel
  refine G.aldn0 C dX4_whyNoHome_0 ?_
  refine G.ildn1 C dX4_whyNoHome_1 ?_
  refine G.iconst C 3 dX4_whyNoHome_2 (by decide) ?_
  refine G.callVI2 C (k_X4_of l (w := 3) hx (by omega) rfl) (cwV 2 C.1.2.2.2.2 gX4_whyNoHome_X4_of rfl rfl rfl (by decide +kernel) ⟨Nat.le_of_ble_eq_true rfl, Nat.le_of_ble_eq_true rfl⟩) gO_d rfl (Nat.le_of_ble_eq_true rfl) dX4_whyNoHome_3 ?_
  refine G.iconst C (-1) dX4_whyNoHome_6 (by decide) ?_
  refine G.icmp_eq C 14 dX4_whyNoHome_7 (by decide) (fun h7 => ?_) (fun h7 => ?_)
  · refine G.ildn2 C dX4_whyNoHome_14 ?_
    refine G.aldn0 C dX4_whyNoHome_15 ?_
    refine G.getD C hinX4 1 (by decide) rfl (C.1.2.2.2.2 (.fieldLink RX4 7 RX4 "z" "[I") (by decide +kernel)) rfl dX4_whyNoHome_16 ?_
    refine G.sipush C 168 dX4_whyNoHome_19 (by decide) ?_
    refine G.ialdU C (n := 232) (j := 1) (d0 := 168) rfl (gV_d (by omega)) (by unfold vp_in; decide) (by decide) dX4_whyNoHome_22 ?_
    refine G.icmp_ge C 30 dX4_whyNoHome_23 (by decide) (fun h23 => ?_) (fun h23 => ?_)
    · refine G.iconst C 0 dX4_whyNoHome_30 (by decide) ?_
      exact G.iret C hlk hrt dX4_whyNoHome_31 (by simp [mWhyH, *]) (by exact fun _ h => h)
    · refine G.iconst C 2 dX4_whyNoHome_26 (by decide) ?_
      refine G.goto C 31 dX4_whyNoHome_27 (by decide) ?_
      exact G.iret C hlk hrt dX4_whyNoHome_31 (by simp [mWhyH, *]) (by exact fun _ h => h)
  · refine G.iconst C 1 dX4_whyNoHome_10 (by decide) ?_
    refine G.goto C 31 dX4_whyNoHome_11 (by decide) ?_
    exact G.iret C hlk hrt dX4_whyNoHome_31 (by simp [mWhyH, *]) (by exact fun _ h => h)
theorem mRun_end {mo : Int32} {d d1 : cSt} {y s s1 : Int32} {n : Nat} (h : mStep mo d y s = (d1, -1, s1)) (hy : ¬ y < 0) : mRun mo (n + 1) d y s = (d1, s1) := by
  rw [mRun, if_neg hy, h]
  exact mRun_neg (y := -1) (by decide) n
theorem mRun_go {mo : Int32} {d d1 : cSt} {y s s1 y1 : Int32} {n : Nat} (h : mStep mo d y s = (d1, y1, s1)) (hy : ¬ y < 0) : mRun mo (n + 1) d y s = mRun mo n d1 y1 s1 := by
  rw [mRun, if_neg hy, h]
theorem vp_nn {x : Int32} {n : Nat} (h : vp_in x n) : ¬ x < 0 := fun q => h (Or.inl q)
theorem i_nlt {x : Int32} (h : 0 ≤ x) : ¬ x < 0 := by
  rw [Int32.le_iff_toInt_le] at h
  rw [Int32.lt_iff_toInt_lt]
  omega
theorem i_lt {x : Int32} (h : ¬ 0 ≤ x) : x < 0 := by
  rw [Int32.le_iff_toInt_le] at h
  rw [Int32.lt_iff_toInt_lt]
  omega
set_option maxRecDepth 100000 in
set_option maxHeartbeats 4000000 in
theorem k_X4_doHome_145x (l : Launch) {E : gEn} {σ : gSt} {π : Nat → Nat} {o : Int64} {d dF : cSt} {y s2 r : Int32} (hy : y < 0) (hF : (dF, r) = (d, s2)) {p : Program} {e : Env} {s : State} {m : MethodId} {args : Array Value} {below : List Frame} {meth : Method} {cd : Code} (C : gCx p s m cd cX4_doHome 10 RX4 wsX4_doHome args E (gA E) ({ frames := 5, cells := 0, slots := 0, locals := 111 } : Room) 0 0) (hrt : meth.sig.returnType = (some .int)) (hlk : meth.locks = false) : G p l e ({ frames := 5, cells := 0, slots := 0, locals := 111 } : Room) s m args below meth cd 10 0 0 (gA E) (gQI below args s (r) E (gU σ 10 dF) π o) E (gU σ 10 d) π o 145 [none, none, none, none, some (.int s2), some (.int y), none, none, none, none] [] := by
  have hinX4 : ∀ w ∈ wsX40, w ∈ wsX4_doHome := by decide +kernel
  refine G.ild5 C dX4_doHome_145 ?_
  refine G.if_lt C 293 dX4_doHome_147 (by decide) (fun h147 => ?_) (fun h147 => absurd (hy) h147)
  refine G.ild4 C dX4_doHome_293 ?_
  exact G.iret C hlk hrt dX4_doHome_295 (by exact (congrArg Prod.snd hF).symm) (by intro H h; rw [show dF = d from congrArg Prod.fst hF]; exact h)
set_option maxRecDepth 100000 in
set_option maxHeartbeats 4000000 in
theorem k_X4_doHome_145 (l : Launch) {E : gEn} {σ : gSt} {π : Nat → Nat} {o : Int64} {dF : cSt} {mo r : Int32} {moN : Nat} (hmo : mo = nI moN) (h24 : moN ≤ 24) (k : Nat) {d : cSt} {y s2 : Int32} {n f2 : Nat} (hok : mOK d) (hy : vp_in y 16) (hn : mStp d n) (hs : s2 = nI n) (hk : n + k = moN) (hf : k + 1 ≤ f2) (hF : (dF, r) = mRun mo (f2 + 1) d y s2) {p : Program} {e : Env} {s : State} {m : MethodId} {args : Array Value} {below : List Frame} {meth : Method} {cd : Code} (C : gCx p s m cd cX4_doHome 10 RX4 wsX4_doHome args E (gA E) ({ frames := 5, cells := 0, slots := 0, locals := 111 } : Room) 0 0) (hrt : meth.sig.returnType = (some .int)) (hlk : meth.locks = false) : G p l e ({ frames := 5, cells := 0, slots := 0, locals := 111 } : Room) s m args below meth cd 10 0 0 (gA E) (gQI below args s (r) E (gU σ 10 dF) π o) E (gU σ 10 d) π o 145 [some (.ref (E.2.1 10 0)), none, none, some (.int mo), some (.int s2), some (.int y), none, none, none, none] [] := by
  have hinX4 : ∀ w ∈ wsX40, w ∈ wsX4_doHome := by decide +kernel
  induction k generalizing d y s2 n f2 with
  | zero =>
    have hyn := vp_nn hy
    refine G.ild5 C dX4_doHome_145 ?_
    refine G.if_lt C 293 dX4_doHome_147 (by decide) (fun h147 => absurd h147 (hyn)) (fun h147 => ?_)
    refine G.aldn0 C dX4_doHome_150 ?_
    refine G.ild5 C dX4_doHome_151 ?_
    refine G.callVI1 C (k_X4_freeFor l hy hok) (cwV 1 C.1.2.2.2.2 gX4_doHome_X4_freeFor rfl rfl rfl (by decide +kernel) ⟨Nat.le_of_ble_eq_true rfl, Nat.le_of_ble_eq_true rfl⟩) gO_d rfl (Nat.le_of_ble_eq_true rfl) dX4_doHome_153 ?_
    refine G.ist7 C dX4_doHome_156 (by omega) rfl ?_
    refine G.aldn0 C dX4_doHome_158 ?_
    refine G.ild5 C dX4_doHome_159 ?_
    refine G.iconst C 1 dX4_doHome_161 (by decide) ?_
    refine G.callVI2 C (k_X4_of l (w := 1) hy (by omega) rfl) (cwV 2 C.1.2.2.2.2 gX4_doHome_X4_of rfl rfl rfl (by decide +kernel) ⟨Nat.le_of_ble_eq_true rfl, Nat.le_of_ble_eq_true rfl⟩) gO_d rfl (Nat.le_of_ble_eq_true rfl) dX4_doHome_162 ?_
    refine G.iconst C 1 dX4_doHome_165 (by decide) ?_
    refine G.iadd C dX4_doHome_166 ?_
    refine G.bipush C 24 dX4_doHome_167 (by decide) ?_
    refine G.irem C dX4_doHome_169 (by decide) ?_
    refine G.topI (mHk d y 1) rfl ?_
    refine G.ist8 C dX4_doHome_170 (by omega) rfl ?_
    refine G.ild7 C dX4_doHome_172 ?_
    refine G.if_ge C 195 dX4_doHome_174 (by decide) (fun h174 => ?_) (fun h174 => ?_)
    · refine G.iconst C (-1) dX4_doHome_195 (by decide) ?_
      refine G.ist9 C dX4_doHome_196 (by omega) rfl ?_
      refine G.ild7 C dX4_doHome_198 ?_
      refine G.if_lt C 217 dX4_doHome_200 (by decide) (fun h200 => absurd h200 (i_nlt h174)) (fun h200 => ?_)
      refine G.aldn0 C dX4_doHome_203 ?_
      refine G.ild5 C dX4_doHome_204 ?_
      refine G.ild7 C dX4_doHome_206 ?_
      refine G.callVV2 C (k_X4_sit l hy hn (by omega)) (cwV 2 C.1.2.2.2.2 gX4_doHome_X4_sit rfl rfl rfl (by decide +kernel) ⟨Nat.le_of_ble_eq_true rfl, Nat.le_of_ble_eq_true rfl⟩) gO_d rfl (Nat.le_of_ble_eq_true rfl) dX4_doHome_208 ?_
      refine G.iconst C (-1) dX4_doHome_211 (by decide) ?_
      refine G.ist5 C dX4_doHome_212 (by omega) rfl ?_
      refine G.goto C 290 dX4_doHome_214 (by decide) ?_
      refine G.goto C 145 dX4_doHome_290 (by decide) ?_
      exact G.back (k_X4_doHome_145x l (by decide) (hF.trans (mRun_end (by simp [mStep, h147, h174, h200]) hyn)) C hrt hlk) rfl ⟨rfl, rfl, trivial⟩
    · refine G.aldn0 C dX4_doHome_177 ?_
      refine G.ild8 C dX4_doHome_178 ?_
      refine G.callVI1 C (k_X4_isOpen l (mHk_in (k := 1) (mOK_own hok hy) (by omega))) (cwV 1 C.1.2.2.2.2 gX4_doHome_X4_isOpen rfl rfl rfl (by decide +kernel) ⟨Nat.le_of_ble_eq_true rfl, Nat.le_of_ble_eq_true rfl⟩) gO_d rfl (Nat.le_of_ble_eq_true rfl) dX4_doHome_180 ?_
      refine G.if_eqB C 195 dX4_doHome_183 (by decide) (fun h183 => ?_) (fun h183 => ?_)
      · refine G.iconst C (-1) dX4_doHome_195 (by decide) ?_
        refine G.ist9 C dX4_doHome_196 (by omega) rfl ?_
        refine G.ild7 C dX4_doHome_198 ?_
        refine G.if_lt C 217 dX4_doHome_200 (by decide) (fun h200 => ?_) (fun h200 => absurd (i_lt h174) h200)
        refine G.ild9 C dX4_doHome_217 ?_
        refine G.if_lt C 279 dX4_doHome_219 (by decide) (fun _ => ?_) (fun h => absurd (by decide) h)
        refine G.aldn0 C dX4_doHome_279 ?_
        refine G.ild5 C dX4_doHome_280 ?_
        refine G.bipush C 24 dX4_doHome_282 (by decide) ?_
        refine G.callVV2 C (k_X4_sit l hy hn (by omega)) (cwV 2 C.1.2.2.2.2 gX4_doHome_X4_sit rfl rfl rfl (by decide +kernel) ⟨Nat.le_of_ble_eq_true rfl, Nat.le_of_ble_eq_true rfl⟩) gO_d rfl (Nat.le_of_ble_eq_true rfl) dX4_doHome_284 ?_
        refine G.iconst C (-1) dX4_doHome_287 (by decide) ?_
        refine G.ist5 C dX4_doHome_288 (by omega) rfl ?_
        refine G.goto C 145 dX4_doHome_290 (by decide) ?_
        exact G.back (k_X4_doHome_145x l (by decide) (hF.trans (mRun_end (by simp [mStep, h147, h174, h183, h200]) hyn)) C hrt hlk) rfl ⟨rfl, rfl, trivial⟩
      · refine G.aldn0 C dX4_doHome_186 ?_
        refine G.ild8 C dX4_doHome_187 ?_
        refine G.callVI1 C (k_X4_sitter l) (cwV 1 C.1.2.2.2.2 gX4_doHome_X4_sitter rfl rfl rfl (by decide +kernel) ⟨Nat.le_of_ble_eq_true rfl, Nat.le_of_ble_eq_true rfl⟩) gO_d rfl (Nat.le_of_ble_eq_true rfl) dX4_doHome_189 ?_
        refine G.goto C 196 dX4_doHome_192 (by decide) ?_
        refine G.ist9 C dX4_doHome_196 (by omega) rfl ?_
        refine G.ild7 C dX4_doHome_198 ?_
        refine G.if_lt C 217 dX4_doHome_200 (by decide) (fun h200 => ?_) (fun h200 => absurd (i_lt h174) h200)
        refine G.ild9 C dX4_doHome_217 ?_
        refine G.if_lt C 279 dX4_doHome_219 (by decide) (fun h219 => ?_) (fun h219 => ?_)
        · refine G.aldn0 C dX4_doHome_279 ?_
          refine G.ild5 C dX4_doHome_280 ?_
          refine G.bipush C 24 dX4_doHome_282 (by decide) ?_
          refine G.callVV2 C (k_X4_sit l hy hn (by omega)) (cwV 2 C.1.2.2.2.2 gX4_doHome_X4_sit rfl rfl rfl (by decide +kernel) ⟨Nat.le_of_ble_eq_true rfl, Nat.le_of_ble_eq_true rfl⟩) gO_d rfl (Nat.le_of_ble_eq_true rfl) dX4_doHome_284 ?_
          refine G.iconst C (-1) dX4_doHome_287 (by decide) ?_
          refine G.ist5 C dX4_doHome_288 (by omega) rfl ?_
          refine G.goto C 145 dX4_doHome_290 (by decide) ?_
          exact G.back (k_X4_doHome_145x l (by decide) (hF.trans (mRun_end (by simp [mStep, h147, h174, h183, h200, h219]) hyn)) C hrt hlk) rfl ⟨rfl, rfl, trivial⟩
        · refine G.aldn0 C dX4_doHome_222 ?_
          refine G.ild9 C dX4_doHome_223 ?_
          refine G.iconst C 2 dX4_doHome_225 (by decide) ?_
          refine G.callVI2 C (k_X4_of l (w := 2) (mSit_in h219) (by omega) rfl) (cwV 2 C.1.2.2.2.2 gX4_doHome_X4_of rfl rfl rfl (by decide +kernel) ⟨Nat.le_of_ble_eq_true rfl, Nat.le_of_ble_eq_true rfl⟩) gO_d rfl (Nat.le_of_ble_eq_true rfl) dX4_doHome_226 ?_
          refine G.aldn0 C dX4_doHome_229 ?_
          refine G.ild5 C dX4_doHome_230 ?_
          refine G.iconst C 2 dX4_doHome_232 (by decide) ?_
          refine G.callVI2 C (k_X4_of l (w := 2) hy (by omega) rfl) (cwV 2 C.1.2.2.2.2 gX4_doHome_X4_of rfl rfl rfl (by decide +kernel) ⟨Nat.le_of_ble_eq_true rfl, Nat.le_of_ble_eq_true rfl⟩) gO_d rfl (Nat.le_of_ble_eq_true rfl) dX4_doHome_233 ?_
          refine G.icmp_ge C 279 dX4_doHome_236 (by decide) (fun h236 => ?_) (fun h236 => ?_)
          · refine G.aldn0 C dX4_doHome_279 ?_
            refine G.ild5 C dX4_doHome_280 ?_
            refine G.bipush C 24 dX4_doHome_282 (by decide) ?_
            refine G.callVV2 C (k_X4_sit l hy hn (by omega)) (cwV 2 C.1.2.2.2.2 gX4_doHome_X4_sit rfl rfl rfl (by decide +kernel) ⟨Nat.le_of_ble_eq_true rfl, Nat.le_of_ble_eq_true rfl⟩) gO_d rfl (Nat.le_of_ble_eq_true rfl) dX4_doHome_284 ?_
            refine G.iconst C (-1) dX4_doHome_287 (by decide) ?_
            refine G.ist5 C dX4_doHome_288 (by omega) rfl ?_
            refine G.goto C 145 dX4_doHome_290 (by decide) ?_
            exact G.back (k_X4_doHome_145x l (by decide) (hF.trans (mRun_end (by simp [mStep, h147, h174, h183, h200, h219, h236]) hyn)) C hrt hlk) rfl ⟨rfl, rfl, trivial⟩
          · refine G.ild4 C dX4_doHome_239 ?_
            refine G.ildn3 C dX4_doHome_241 ?_
            refine G.icmp_ge C 279 dX4_doHome_242 (by decide) (fun h242 => ?_) (fun h242 => absurd ((by rw [hmo, hs, show n = moN by omega]; exact nI_le (Nat.le_refl _) (by omega))) h242)
            refine G.aldn0 C dX4_doHome_279 ?_
            refine G.ild5 C dX4_doHome_280 ?_
            refine G.bipush C 24 dX4_doHome_282 (by decide) ?_
            refine G.callVV2 C (k_X4_sit l hy hn (by omega)) (cwV 2 C.1.2.2.2.2 gX4_doHome_X4_sit rfl rfl rfl (by decide +kernel) ⟨Nat.le_of_ble_eq_true rfl, Nat.le_of_ble_eq_true rfl⟩) gO_d rfl (Nat.le_of_ble_eq_true rfl) dX4_doHome_284 ?_
            refine G.iconst C (-1) dX4_doHome_287 (by decide) ?_
            refine G.ist5 C dX4_doHome_288 (by omega) rfl ?_
            refine G.goto C 145 dX4_doHome_290 (by decide) ?_
            exact G.back (k_X4_doHome_145x l (by decide) (hF.trans (mRun_end (by simp [mStep, h147, h174, h183, h200, h219, h236, h242]) hyn)) C hrt hlk) rfl ⟨rfl, rfl, trivial⟩
  | succ k ih =>
    have hyn := vp_nn hy
    refine G.ild5 C dX4_doHome_145 ?_
    refine G.if_lt C 293 dX4_doHome_147 (by decide) (fun h147 => absurd h147 (hyn)) (fun h147 => ?_)
    refine G.aldn0 C dX4_doHome_150 ?_
    refine G.ild5 C dX4_doHome_151 ?_
    refine G.callVI1 C (k_X4_freeFor l hy hok) (cwV 1 C.1.2.2.2.2 gX4_doHome_X4_freeFor rfl rfl rfl (by decide +kernel) ⟨Nat.le_of_ble_eq_true rfl, Nat.le_of_ble_eq_true rfl⟩) gO_d rfl (Nat.le_of_ble_eq_true rfl) dX4_doHome_153 ?_
    refine G.ist7 C dX4_doHome_156 (by omega) rfl ?_
    refine G.aldn0 C dX4_doHome_158 ?_
    refine G.ild5 C dX4_doHome_159 ?_
    refine G.iconst C 1 dX4_doHome_161 (by decide) ?_
    refine G.callVI2 C (k_X4_of l (w := 1) hy (by omega) rfl) (cwV 2 C.1.2.2.2.2 gX4_doHome_X4_of rfl rfl rfl (by decide +kernel) ⟨Nat.le_of_ble_eq_true rfl, Nat.le_of_ble_eq_true rfl⟩) gO_d rfl (Nat.le_of_ble_eq_true rfl) dX4_doHome_162 ?_
    refine G.iconst C 1 dX4_doHome_165 (by decide) ?_
    refine G.iadd C dX4_doHome_166 ?_
    refine G.bipush C 24 dX4_doHome_167 (by decide) ?_
    refine G.irem C dX4_doHome_169 (by decide) ?_
    refine G.topI (mHk d y 1) rfl ?_
    refine G.ist8 C dX4_doHome_170 (by omega) rfl ?_
    refine G.ild7 C dX4_doHome_172 ?_
    refine G.if_ge C 195 dX4_doHome_174 (by decide) (fun h174 => ?_) (fun h174 => ?_)
    · refine G.iconst C (-1) dX4_doHome_195 (by decide) ?_
      refine G.ist9 C dX4_doHome_196 (by omega) rfl ?_
      refine G.ild7 C dX4_doHome_198 ?_
      refine G.if_lt C 217 dX4_doHome_200 (by decide) (fun h200 => absurd h200 (i_nlt h174)) (fun h200 => ?_)
      refine G.aldn0 C dX4_doHome_203 ?_
      refine G.ild5 C dX4_doHome_204 ?_
      refine G.ild7 C dX4_doHome_206 ?_
      refine G.callVV2 C (k_X4_sit l hy hn (by omega)) (cwV 2 C.1.2.2.2.2 gX4_doHome_X4_sit rfl rfl rfl (by decide +kernel) ⟨Nat.le_of_ble_eq_true rfl, Nat.le_of_ble_eq_true rfl⟩) gO_d rfl (Nat.le_of_ble_eq_true rfl) dX4_doHome_208 ?_
      refine G.iconst C (-1) dX4_doHome_211 (by decide) ?_
      refine G.ist5 C dX4_doHome_212 (by omega) rfl ?_
      refine G.goto C 290 dX4_doHome_214 (by decide) ?_
      refine G.goto C 145 dX4_doHome_290 (by decide) ?_
      exact G.back (k_X4_doHome_145x l (by decide) (hF.trans (mRun_end (by simp [mStep, h147, h174, h200]) hyn)) C hrt hlk) rfl ⟨rfl, rfl, trivial⟩
    · refine G.aldn0 C dX4_doHome_177 ?_
      refine G.ild8 C dX4_doHome_178 ?_
      refine G.callVI1 C (k_X4_isOpen l (mHk_in (k := 1) (mOK_own hok hy) (by omega))) (cwV 1 C.1.2.2.2.2 gX4_doHome_X4_isOpen rfl rfl rfl (by decide +kernel) ⟨Nat.le_of_ble_eq_true rfl, Nat.le_of_ble_eq_true rfl⟩) gO_d rfl (Nat.le_of_ble_eq_true rfl) dX4_doHome_180 ?_
      refine G.if_eqB C 195 dX4_doHome_183 (by decide) (fun h183 => ?_) (fun h183 => ?_)
      · refine G.iconst C (-1) dX4_doHome_195 (by decide) ?_
        refine G.ist9 C dX4_doHome_196 (by omega) rfl ?_
        refine G.ild7 C dX4_doHome_198 ?_
        refine G.if_lt C 217 dX4_doHome_200 (by decide) (fun h200 => ?_) (fun h200 => absurd (i_lt h174) h200)
        refine G.ild9 C dX4_doHome_217 ?_
        refine G.if_lt C 279 dX4_doHome_219 (by decide) (fun _ => ?_) (fun h => absurd (by decide) h)
        refine G.aldn0 C dX4_doHome_279 ?_
        refine G.ild5 C dX4_doHome_280 ?_
        refine G.bipush C 24 dX4_doHome_282 (by decide) ?_
        refine G.callVV2 C (k_X4_sit l hy hn (by omega)) (cwV 2 C.1.2.2.2.2 gX4_doHome_X4_sit rfl rfl rfl (by decide +kernel) ⟨Nat.le_of_ble_eq_true rfl, Nat.le_of_ble_eq_true rfl⟩) gO_d rfl (Nat.le_of_ble_eq_true rfl) dX4_doHome_284 ?_
        refine G.iconst C (-1) dX4_doHome_287 (by decide) ?_
        refine G.ist5 C dX4_doHome_288 (by omega) rfl ?_
        refine G.goto C 145 dX4_doHome_290 (by decide) ?_
        exact G.back (k_X4_doHome_145x l (by decide) (hF.trans (mRun_end (by simp [mStep, h147, h174, h183, h200]) hyn)) C hrt hlk) rfl ⟨rfl, rfl, trivial⟩
      · refine G.aldn0 C dX4_doHome_186 ?_
        refine G.ild8 C dX4_doHome_187 ?_
        refine G.callVI1 C (k_X4_sitter l) (cwV 1 C.1.2.2.2.2 gX4_doHome_X4_sitter rfl rfl rfl (by decide +kernel) ⟨Nat.le_of_ble_eq_true rfl, Nat.le_of_ble_eq_true rfl⟩) gO_d rfl (Nat.le_of_ble_eq_true rfl) dX4_doHome_189 ?_
        refine G.goto C 196 dX4_doHome_192 (by decide) ?_
        refine G.ist9 C dX4_doHome_196 (by omega) rfl ?_
        refine G.ild7 C dX4_doHome_198 ?_
        refine G.if_lt C 217 dX4_doHome_200 (by decide) (fun h200 => ?_) (fun h200 => absurd (i_lt h174) h200)
        refine G.ild9 C dX4_doHome_217 ?_
        refine G.if_lt C 279 dX4_doHome_219 (by decide) (fun h219 => ?_) (fun h219 => ?_)
        · refine G.aldn0 C dX4_doHome_279 ?_
          refine G.ild5 C dX4_doHome_280 ?_
          refine G.bipush C 24 dX4_doHome_282 (by decide) ?_
          refine G.callVV2 C (k_X4_sit l hy hn (by omega)) (cwV 2 C.1.2.2.2.2 gX4_doHome_X4_sit rfl rfl rfl (by decide +kernel) ⟨Nat.le_of_ble_eq_true rfl, Nat.le_of_ble_eq_true rfl⟩) gO_d rfl (Nat.le_of_ble_eq_true rfl) dX4_doHome_284 ?_
          refine G.iconst C (-1) dX4_doHome_287 (by decide) ?_
          refine G.ist5 C dX4_doHome_288 (by omega) rfl ?_
          refine G.goto C 145 dX4_doHome_290 (by decide) ?_
          exact G.back (k_X4_doHome_145x l (by decide) (hF.trans (mRun_end (by simp [mStep, h147, h174, h183, h200, h219]) hyn)) C hrt hlk) rfl ⟨rfl, rfl, trivial⟩
        · refine G.aldn0 C dX4_doHome_222 ?_
          refine G.ild9 C dX4_doHome_223 ?_
          refine G.iconst C 2 dX4_doHome_225 (by decide) ?_
          refine G.callVI2 C (k_X4_of l (w := 2) (mSit_in h219) (by omega) rfl) (cwV 2 C.1.2.2.2.2 gX4_doHome_X4_of rfl rfl rfl (by decide +kernel) ⟨Nat.le_of_ble_eq_true rfl, Nat.le_of_ble_eq_true rfl⟩) gO_d rfl (Nat.le_of_ble_eq_true rfl) dX4_doHome_226 ?_
          refine G.aldn0 C dX4_doHome_229 ?_
          refine G.ild5 C dX4_doHome_230 ?_
          refine G.iconst C 2 dX4_doHome_232 (by decide) ?_
          refine G.callVI2 C (k_X4_of l (w := 2) hy (by omega) rfl) (cwV 2 C.1.2.2.2.2 gX4_doHome_X4_of rfl rfl rfl (by decide +kernel) ⟨Nat.le_of_ble_eq_true rfl, Nat.le_of_ble_eq_true rfl⟩) gO_d rfl (Nat.le_of_ble_eq_true rfl) dX4_doHome_233 ?_
          refine G.icmp_ge C 279 dX4_doHome_236 (by decide) (fun h236 => ?_) (fun h236 => ?_)
          · refine G.aldn0 C dX4_doHome_279 ?_
            refine G.ild5 C dX4_doHome_280 ?_
            refine G.bipush C 24 dX4_doHome_282 (by decide) ?_
            refine G.callVV2 C (k_X4_sit l hy hn (by omega)) (cwV 2 C.1.2.2.2.2 gX4_doHome_X4_sit rfl rfl rfl (by decide +kernel) ⟨Nat.le_of_ble_eq_true rfl, Nat.le_of_ble_eq_true rfl⟩) gO_d rfl (Nat.le_of_ble_eq_true rfl) dX4_doHome_284 ?_
            refine G.iconst C (-1) dX4_doHome_287 (by decide) ?_
            refine G.ist5 C dX4_doHome_288 (by omega) rfl ?_
            refine G.goto C 145 dX4_doHome_290 (by decide) ?_
            exact G.back (k_X4_doHome_145x l (by decide) (hF.trans (mRun_end (by simp [mStep, h147, h174, h183, h200, h219, h236]) hyn)) C hrt hlk) rfl ⟨rfl, rfl, trivial⟩
          · refine G.ild4 C dX4_doHome_239 ?_
            refine G.ildn3 C dX4_doHome_241 ?_
            refine G.icmp_ge C 279 dX4_doHome_242 (by decide) (fun h242 => ?_) (fun h242 => ?_)
            · refine G.aldn0 C dX4_doHome_279 ?_
              refine G.ild5 C dX4_doHome_280 ?_
              refine G.bipush C 24 dX4_doHome_282 (by decide) ?_
              refine G.callVV2 C (k_X4_sit l hy hn (by omega)) (cwV 2 C.1.2.2.2.2 gX4_doHome_X4_sit rfl rfl rfl (by decide +kernel) ⟨Nat.le_of_ble_eq_true rfl, Nat.le_of_ble_eq_true rfl⟩) gO_d rfl (Nat.le_of_ble_eq_true rfl) dX4_doHome_284 ?_
              refine G.iconst C (-1) dX4_doHome_287 (by decide) ?_
              refine G.ist5 C dX4_doHome_288 (by omega) rfl ?_
              refine G.goto C 145 dX4_doHome_290 (by decide) ?_
              exact G.back (k_X4_doHome_145x l (by decide) (hF.trans (mRun_end (by simp [mStep, h147, h174, h183, h200, h219, h236, h242]) hyn)) C hrt hlk) rfl ⟨rfl, rfl, trivial⟩
            · refine G.aldn0 C dX4_doHome_245 ?_
              refine G.ild5 C dX4_doHome_246 ?_
              refine G.ild9 C dX4_doHome_248 ?_
              refine G.callVV2 C (k_X4_countShift l hy (mSit_in h219)) (cwV 2 C.1.2.2.2.2 gX4_doHome_X4_countShift rfl rfl rfl (by decide +kernel) ⟨Nat.le_of_ble_eq_true rfl, Nat.le_of_ble_eq_true rfl⟩) gO_d rfl (Nat.le_of_ble_eq_true rfl) dX4_doHome_250 ?_
              refine G.iinc4 C _ dX4_doHome_253 (by omega) rfl rfl ?_
              refine G.aldn0 C dX4_doHome_256 ?_
              refine G.ild9 C dX4_doHome_257 ?_
              refine G.iconst C 3 dX4_doHome_259 (by decide) ?_
              refine G.iconst C (-1) dX4_doHome_260 (by decide) ?_
              refine G.callVV3 C (k_X4_put l (w := 3) (mSit_in h219) (by omega) rfl) (cwV 3 C.1.2.2.2.2 gX4_doHome_X4_put rfl rfl rfl (by decide +kernel) ⟨Nat.le_of_ble_eq_true rfl, Nat.le_of_ble_eq_true rfl⟩) gO_d rfl (Nat.le_of_ble_eq_true rfl) dX4_doHome_261 ?_
              refine G.aldn0 C dX4_doHome_264 ?_
              refine G.ild5 C dX4_doHome_265 ?_
              refine G.ild8 C dX4_doHome_267 ?_
              refine G.callVV2 C (k_X4_sit l hy (mOut_ok (mCount_ok hok (mSit_in h219) hn).1 (mSit_in h219) (mCount_ok hok (mSit_in h219) hn).2).2 (by omega)) (cwV 2 C.1.2.2.2.2 gX4_doHome_X4_sit rfl rfl rfl (by decide +kernel) ⟨Nat.le_of_ble_eq_true rfl, Nat.le_of_ble_eq_true rfl⟩) gO_d rfl (Nat.le_of_ble_eq_true rfl) dX4_doHome_269 ?_
              refine G.ild9 C dX4_doHome_272 ?_
              refine G.ist5 C dX4_doHome_274 (by omega) rfl ?_
              refine G.goto C 290 dX4_doHome_276 (by decide) ?_
              refine G.goto C 145 dX4_doHome_290 (by decide) ?_
              obtain ⟨f, rfl⟩ : ∃ z, f2 = z + 1 := ⟨f2 - 1, by omega⟩
              exact G.back (ih (d := mSitS (cW (mCount d y (mSit d (mHk d y 1))) 1 (9 * ix (mSit d (mHk d y 1)) + 3) (-1)) y (mHk d y 1)) (y := mSit d (mHk d y 1)) (s2 := s2 + 1) (n := n + 1) (f2 := f) (mSitS_ok (mOut_ok (mCount_ok hok (mSit_in h219) hn).1 (mSit_in h219) (mCount_ok hok (mSit_in h219) hn).2).1 hy (mOut_ok (mCount_ok hok (mSit_in h219) hn).1 (mSit_in h219) (mCount_ok hok (mSit_in h219) hn).2).2 (by omega)).1 (mSit_in h219) (mSitS_ok (mOut_ok (mCount_ok hok (mSit_in h219) hn).1 (mSit_in h219) (mCount_ok hok (mSit_in h219) hn).2).1 hy (mOut_ok (mCount_ok hok (mSit_in h219) hn).1 (mSit_in h219) (mCount_ok hok (mSit_in h219) hn).2).2 (by omega)).2 (by rw [hs]; exact nI_1 n) (by omega) (by omega) (hF.trans (mRun_go (by simp [mStep, h147, h174, h183, h200, h219, h236, h242]) hyn))) rfl ⟨rfl, rfl, rfl, rfl, trivial⟩
theorem mo_pos {a : Int32} {n : Nat} (h : a = nI n) (h24 : n ≤ 24) (hp : ¬ a ≤ 0) : 0 < n := by
  rcases Nat.eq_zero_or_pos n with e | e
  · subst e; rw [h] at hp; exact absurd (by decide) hp
  · exact e
theorem mH0_ok {d : cSt} {t : Int32} (h : mOK d) : mOK (mH0 d t) ∧ mStp (mH0 d t) 0 := ⟨mOK_W (mOK_W h (fun k hk => by omega)) (fun k hk => by omega), by unfold mStp mH0; simp [cW, nI_0]⟩
theorem mH0_lo {d : cSt} {t : Int32} {q : Nat} (h : q < 168) : mH0 d t 1 q = d 1 q := by
  unfold mH0
  simp only [cW, if_true, if_neg (show ¬ q = 180 by omega), if_neg (show ¬ q = 168 by omega)]
set_option maxRecDepth 100000 in
set_option maxHeartbeats 4000000 in
theorem k_X4_doHome (l : Launch) {E : gEn} {σ : gSt} {π : Nat → Nat} {o : Int64} {d : cSt} {x t r : Int32} {dF : cSt} {moN : Nat} (hx : vp_in x 16) (hok : mOK d) (hmo : d 1 171 = nI moN) (h24 : moN ≤ 24) (hd : dF = (mHome d x t).1) (hr : r = (mHome d x t).2) : CtI l yX4_doHome wsX4_doHome ({ frames := 5, cells := 0, slots := 0, locals := 111 } : Room) E [.ref (E.2.1 10 0), .int x, .int t] (gU σ 10 d) π o (r) (gU σ 10 dF) π o := by
  refine CtI.of (cc := cX4_doHome) (own := RX4) (maxL := 10) (ret := (some .int)) [some (.ref (E.2.1 10 0)), some (.int x), some (.int t), none, none, none, none, none, none, none] (by decide) rfl rfl (Nat.le_of_ble_eq_true rfl) rfl ?_
  intro p e s m args below meth cd C hrt hlk
  have hinX4 : ∀ w ∈ wsX40, w ∈ wsX4_doHome := by decide +kernel
  have h3 := vix hx
  have hok0 := (mH0_ok (t := t) hok).1
  have hn0 := (mH0_ok (t := t) hok).2
  have ho := mOK_own hok hx
  refine G.aldn0 C dX4_doHome_0 ?_
  refine G.getD C hinX4 1 (by decide) rfl (C.1.2.2.2.2 (.fieldLink RX4 7 RX4 "z" "[I") (by decide +kernel)) rfl dX4_doHome_1 ?_
  refine G.sipush C 168 dX4_doHome_4 (by decide) ?_
  refine G.ildn2 C dX4_doHome_7 ?_
  refine G.iastU C (n := 232) (j := 1) (d0 := 168) rfl (gV_d (by omega)) (by unfold vp_in; decide) (by decide) dX4_doHome_8 ?_
  refine G.aldn0 C dX4_doHome_9 ?_
  refine G.getD C hinX4 1 (by decide) rfl (C.1.2.2.2.2 (.fieldLink RX4 7 RX4 "z" "[I") (by decide +kernel)) rfl dX4_doHome_10 ?_
  refine G.sipush C 180 dX4_doHome_13 (by decide) ?_
  refine G.iconst C 0 dX4_doHome_16 (by decide) ?_
  refine G.iastU C (n := 232) (j := 1) (d0 := 180) rfl (gV_d (by omega)) (by unfold vp_in; decide) (by decide) dX4_doHome_17 ?_
  refine G.cast (σ' := gU σ 10 (mH0 d t)) ?_ rfl rfl rfl rfl rfl
  refine G.aldn0 C dX4_doHome_18 ?_
  refine G.getD C hinX4 1 (by decide) rfl (C.1.2.2.2.2 (.fieldLink RX4 7 RX4 "z" "[I") (by decide +kernel)) rfl dX4_doHome_19 ?_
  refine G.sipush C 171 dX4_doHome_22 (by decide) ?_
  refine G.ialdU C (n := 232) (j := 1) (d0 := 171) rfl (gV_d (by omega)) (by unfold vp_in; decide) (by decide) dX4_doHome_25 ?_
  refine G.topI (d 1 171) rfl ?_
  refine G.istn3 C dX4_doHome_26 (by omega) rfl ?_
  refine G.iconst C 0 dX4_doHome_27 (by decide) ?_
  refine G.ist4 C dX4_doHome_28 (by omega) rfl ?_
  refine G.ildn1 C dX4_doHome_30 ?_
  refine G.ist5 C dX4_doHome_31 (by omega) rfl ?_
  refine G.aldn0 C dX4_doHome_33 ?_
  refine G.ildn1 C dX4_doHome_34 ?_
  refine G.iconst C 1 dX4_doHome_35 (by decide) ?_
  refine G.callVI2 C (k_X4_of l (w := 1) hx (by omega) rfl) (cwV 2 C.1.2.2.2.2 gX4_doHome_X4_of rfl rfl rfl (by decide +kernel) ⟨Nat.le_of_ble_eq_true rfl, Nat.le_of_ble_eq_true rfl⟩) gO_d rfl (Nat.le_of_ble_eq_true rfl) dX4_doHome_36 ?_
  refine G.topI (d 1 (9 * ix x + 1)) (mH0_lo (by omega)) ?_
  refine G.ist6 C dX4_doHome_39 (by omega) rfl ?_
  refine G.ildn2 C dX4_doHome_41 ?_
  refine G.aldn0 C dX4_doHome_42 ?_
  refine G.getD C hinX4 1 (by decide) rfl (C.1.2.2.2.2 (.fieldLink RX4 7 RX4 "z" "[I") (by decide +kernel)) rfl dX4_doHome_43 ?_
  refine G.sipush C 170 dX4_doHome_46 (by decide) ?_
  refine G.ialdU C (n := 232) (j := 1) (d0 := 170) rfl (gV_d (by omega)) (by unfold vp_in; decide) (by decide) dX4_doHome_49 ?_
  refine G.topI (d 1 170) rfl ?_
  refine G.icmp_le C 70 dX4_doHome_50 (by decide) (fun h50 => ?_) (fun h50 => ?_)
  · refine G.aldn0 C dX4_doHome_70 ?_
    refine G.ild6 C dX4_doHome_71 ?_
    refine G.callVI1 C (k_X4_isOpen l ho) (cwV 1 C.1.2.2.2.2 gX4_doHome_X4_isOpen rfl rfl rfl (by decide +kernel) ⟨Nat.le_of_ble_eq_true rfl, Nat.le_of_ble_eq_true rfl⟩) gO_d rfl (Nat.le_of_ble_eq_true rfl) dX4_doHome_73 ?_
    refine G.if_eqB C 145 dX4_doHome_76 (by decide) (fun h76 => ?_) (fun h76 => ?_)
    · exact G.back (k_X4_doHome_145 l hmo h24 moN (n := 0) (f2 := 25) hok0 hx hn0 (by decide) (by omega) (by omega) (by rw [hd, hr]; simp [mHome, mHome0, h50, h76]) C hrt hlk) rfl ⟨rfl, rfl, rfl, rfl, trivial⟩
    · refine G.aldn0 C dX4_doHome_79 ?_
      refine G.ild6 C dX4_doHome_80 ?_
      refine G.callVI1 C (k_X4_sitter l) (cwV 1 C.1.2.2.2.2 gX4_doHome_X4_sitter rfl rfl rfl (by decide +kernel) ⟨Nat.le_of_ble_eq_true rfl, Nat.le_of_ble_eq_true rfl⟩) gO_d rfl (Nat.le_of_ble_eq_true rfl) dX4_doHome_82 ?_
      refine G.ist7 C dX4_doHome_85 (by omega) rfl ?_
      refine G.iconst C (-1) dX4_doHome_87 (by decide) ?_
      refine G.ist5 C dX4_doHome_88 (by omega) rfl ?_
      refine G.ild7 C dX4_doHome_90 ?_
      refine G.if_lt C 124 dX4_doHome_92 (by decide) (fun h92 => ?_) (fun h92 => ?_)
      · refine G.ild7 C dX4_doHome_124 ?_
        refine G.if_lt C 138 dX4_doHome_126 (by decide) (fun h126 => ?_) (fun h126 => absurd (h92) h126)
        refine G.aldn0 C dX4_doHome_138 ?_
        refine G.ildn1 C dX4_doHome_139 ?_
        refine G.ild6 C dX4_doHome_140 ?_
        refine G.callVV2 C (k_X4_sit l hx hn0 (by omega)) (cwV 2 C.1.2.2.2.2 gX4_doHome_X4_sit rfl rfl rfl (by decide +kernel) ⟨Nat.le_of_ble_eq_true rfl, Nat.le_of_ble_eq_true rfl⟩) gO_d rfl (Nat.le_of_ble_eq_true rfl) dX4_doHome_142 ?_
        exact G.back (k_X4_doHome_145x l (by decide) (by rw [hd, hr]; simp [mHome, mHome0, h50, h76, h92, h126, mRun_neg]) C hrt hlk) rfl ⟨rfl, rfl, trivial⟩
      · refine G.ildn3 C dX4_doHome_95 ?_
        refine G.if_le C 124 dX4_doHome_96 (by decide) (fun h96 => ?_) (fun h96 => ?_)
        · refine G.ild7 C dX4_doHome_124 ?_
          refine G.if_lt C 138 dX4_doHome_126 (by decide) (fun h126 => absurd h126 (h92)) (fun h126 => ?_)
          refine G.aldn0 C dX4_doHome_129 ?_
          refine G.ild7 C dX4_doHome_130 ?_
          refine G.iconst C 3 dX4_doHome_132 (by decide) ?_
          refine G.bipush C 24 dX4_doHome_133 (by decide) ?_
          refine G.callVV3 C (k_X4_put l (w := 3) (mSit_in h92) (by omega) rfl) (cwV 3 C.1.2.2.2.2 gX4_doHome_X4_put rfl rfl rfl (by decide +kernel) ⟨Nat.le_of_ble_eq_true rfl, Nat.le_of_ble_eq_true rfl⟩) gO_d rfl (Nat.le_of_ble_eq_true rfl) dX4_doHome_135 ?_
          refine G.aldn0 C dX4_doHome_138 ?_
          refine G.ildn1 C dX4_doHome_139 ?_
          refine G.ild6 C dX4_doHome_140 ?_
          refine G.callVV2 C (k_X4_sit l hx (mOut_ok hok0 (mSit_in h92) hn0).2 (by omega)) (cwV 2 C.1.2.2.2.2 gX4_doHome_X4_sit rfl rfl rfl (by decide +kernel) ⟨Nat.le_of_ble_eq_true rfl, Nat.le_of_ble_eq_true rfl⟩) gO_d rfl (Nat.le_of_ble_eq_true rfl) dX4_doHome_142 ?_
          exact G.back (k_X4_doHome_145x l (by decide) (by rw [hd, hr]; simp [mHome, mHome0, h50, h76, h92, h96, h126, mRun_neg]) C hrt hlk) rfl ⟨rfl, rfl, trivial⟩
        · refine G.aldn0 C dX4_doHome_99 ?_
          refine G.ildn1 C dX4_doHome_100 ?_
          refine G.ild7 C dX4_doHome_101 ?_
          refine G.callVV2 C (k_X4_countShift l hx (mSit_in h92)) (cwV 2 C.1.2.2.2.2 gX4_doHome_X4_countShift rfl rfl rfl (by decide +kernel) ⟨Nat.le_of_ble_eq_true rfl, Nat.le_of_ble_eq_true rfl⟩) gO_d rfl (Nat.le_of_ble_eq_true rfl) dX4_doHome_103 ?_
          refine G.iinc4 C _ dX4_doHome_106 (by omega) rfl rfl ?_
          refine G.aldn0 C dX4_doHome_109 ?_
          refine G.ild7 C dX4_doHome_110 ?_
          refine G.iconst C 3 dX4_doHome_112 (by decide) ?_
          refine G.iconst C (-1) dX4_doHome_113 (by decide) ?_
          refine G.callVV3 C (k_X4_put l (w := 3) (mSit_in h92) (by omega) rfl) (cwV 3 C.1.2.2.2.2 gX4_doHome_X4_put rfl rfl rfl (by decide +kernel) ⟨Nat.le_of_ble_eq_true rfl, Nat.le_of_ble_eq_true rfl⟩) gO_d rfl (Nat.le_of_ble_eq_true rfl) dX4_doHome_114 ?_
          refine G.ild7 C dX4_doHome_117 ?_
          refine G.ist5 C dX4_doHome_119 (by omega) rfl ?_
          refine G.goto C 138 dX4_doHome_121 (by decide) ?_
          refine G.aldn0 C dX4_doHome_138 ?_
          refine G.ildn1 C dX4_doHome_139 ?_
          refine G.ild6 C dX4_doHome_140 ?_
          refine G.callVV2 C (k_X4_sit l hx (mOut_ok (mCount_ok hok0 (mSit_in h92) hn0).1 (mSit_in h92) (mCount_ok hok0 (mSit_in h92) hn0).2).2 (by omega)) (cwV 2 C.1.2.2.2.2 gX4_doHome_X4_sit rfl rfl rfl (by decide +kernel) ⟨Nat.le_of_ble_eq_true rfl, Nat.le_of_ble_eq_true rfl⟩) gO_d rfl (Nat.le_of_ble_eq_true rfl) dX4_doHome_142 ?_
          exact G.back (k_X4_doHome_145 l hmo h24 (moN - 1) (n := 1) (f2 := 25) (mSitS_ok (mOut_ok (mCount_ok hok0 (mSit_in h92) hn0).1 (mSit_in h92) (mCount_ok hok0 (mSit_in h92) hn0).2).1 hx (mOut_ok (mCount_ok hok0 (mSit_in h92) hn0).1 (mSit_in h92) (mCount_ok hok0 (mSit_in h92) hn0).2).2 (by omega)).1 (mSit_in h92) (mSitS_ok (mOut_ok (mCount_ok hok0 (mSit_in h92) hn0).1 (mSit_in h92) (mCount_ok hok0 (mSit_in h92) hn0).2).1 hx (mOut_ok (mCount_ok hok0 (mSit_in h92) hn0).1 (mSit_in h92) (mCount_ok hok0 (mSit_in h92) hn0).2).2 (by omega)).2 (by decide) (by have := mo_pos hmo h24 h96; omega) (by omega) (by rw [hd, hr]; simp [mHome, mHome0, h50, h76, h92, h96]) C hrt hlk) rfl ⟨rfl, rfl, rfl, rfl, trivial⟩
  · refine G.aldn0 C dX4_doHome_53 ?_
    refine G.ildn1 C dX4_doHome_54 ?_
    refine G.iconst C 5 dX4_doHome_55 (by decide) ?_
    refine G.aldn0 C dX4_doHome_56 ?_
    refine G.ildn1 C dX4_doHome_57 ?_
    refine G.iconst C 5 dX4_doHome_58 (by decide) ?_
    refine G.callVI2 C (k_X4_of l (w := 5) hx (by omega) rfl) (cwV 2 C.1.2.2.2.2 gX4_doHome_X4_of rfl rfl rfl (by decide +kernel) ⟨Nat.le_of_ble_eq_true rfl, Nat.le_of_ble_eq_true rfl⟩) gO_d rfl (Nat.le_of_ble_eq_true rfl) dX4_doHome_59 ?_
    refine G.topI (d 1 (9 * ix x + 5)) (mH0_lo (by omega)) ?_
    refine G.iconst C 1 dX4_doHome_62 (by decide) ?_
    refine G.iadd C dX4_doHome_63 ?_
    refine G.callVV3 C (k_X4_put l (w := 5) hx (by omega) rfl) (cwV 3 C.1.2.2.2.2 gX4_doHome_X4_put rfl rfl rfl (by decide +kernel) ⟨Nat.le_of_ble_eq_true rfl, Nat.le_of_ble_eq_true rfl⟩) gO_d rfl (Nat.le_of_ble_eq_true rfl) dX4_doHome_64 ?_
    refine G.goto C 145 dX4_doHome_67 (by decide) ?_
    exact G.back (k_X4_doHome_145 l hmo h24 moN (n := 0) (f2 := 25) (mOK_W hok0 (fun k hk => by omega)) hx (by unfold mStp; rw [← hn0]; simp only [cW, if_true, if_neg (show ¬ 180 = 9 * ix x + 5 by omega)]) (by decide) (by omega) (by omega) (by rw [hd, hr]; simp [mHome, mHome0, h50]) C hrt hlk) rfl ⟨rfl, rfl, rfl, rfl, trivial⟩
