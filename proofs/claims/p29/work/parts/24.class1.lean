/-! the class itself: states by their blocks -/
def gT (σ : gSt) (c0 c1 c2 c9 : cSt) : gSt := gU (gU (gU (gU σ 0 c0) 1 c1) 2 c2) 9 c9
theorem gT0 {σ : gSt} {c0 c1 c2 c9 c : cSt} : gU (gT σ c0 c1 c2 c9) 0 c = gT σ c c1 c2 c9 := by
  unfold gT
  rw [gU_comm _ (show (9 : Nat) ≠ 0 by decide), gU_comm _ (show (2 : Nat) ≠ 0 by decide), gU_comm _ (show (1 : Nat) ≠ 0 by decide), gU_gU]
theorem gT1 {σ : gSt} {c0 c1 c2 c9 c : cSt} : gU (gT σ c0 c1 c2 c9) 1 c = gT σ c0 c c2 c9 := by
  unfold gT
  rw [gU_comm _ (show (9 : Nat) ≠ 1 by decide), gU_comm _ (show (2 : Nat) ≠ 1 by decide), gU_gU]
theorem gT2 {σ : gSt} {c0 c1 c2 c9 c : cSt} : gU (gT σ c0 c1 c2 c9) 2 c = gT σ c0 c1 c c9 := by
  unfold gT
  rw [gU_comm _ (show (9 : Nat) ≠ 2 by decide), gU_gU]
theorem gT9 {σ : gSt} {c0 c1 c2 c9 c : cSt} : gU (gT σ c0 c1 c2 c9) 9 c = gT σ c0 c1 c2 c := gU_gU ..
theorem gT_0 {σ : gSt} {c0 c1 c2 c9 : cSt} : gT σ c0 c1 c2 c9 0 = c0 := rfl
theorem gT_1 {σ : gSt} {c0 c1 c2 c9 : cSt} : gT σ c0 c1 c2 c9 1 = c1 := rfl
theorem gT_2 {σ : gSt} {c0 c1 c2 c9 : cSt} : gT σ c0 c1 c2 c9 2 = c2 := rfl
theorem gT_9 {σ : gSt} {c0 c1 c2 c9 : cSt} : gT σ c0 c1 c2 c9 9 = c9 := rfl
section GT
variable {p : Program} {l : Launch} {e : Env} {R : Room} {s : State} {m : MethodId} {args : Array Value} {below : List Frame} {meth : Method} {c : Code} {Q : State → Prop} {cc : ByteArray} {own : String} {Ts : List Cond} {nL cl sl : Nat} {E : gEn} {A : Nat → Prop} {σ : gSt} {π π' : Nat → Nat} {o o' : Int64} {c0 c1 c2 c9 d : cSt}
theorem T0I {y : MethodName} {ws : List Cond} {rm : Room} {av : List Value} {r : Int32} (h : CtI l y ws rm E av (gU (gT σ c0 c1 c2 c9) 0 c0) π o r (gU (gT σ c0 c1 c2 c9) 0 d) π' o') : CtI l y ws rm E av (gT σ c0 c1 c2 c9) π o r (gT σ d c1 c2 c9) π' o' := by rwa [gT0, gT0] at h
theorem T0L {y : MethodName} {ws : List Cond} {rm : Room} {av : List Value} {r : Int64} (h : CtL l y ws rm E av (gU (gT σ c0 c1 c2 c9) 0 c0) π o r (gU (gT σ c0 c1 c2 c9) 0 d) π' o') : CtL l y ws rm E av (gT σ c0 c1 c2 c9) π o r (gT σ d c1 c2 c9) π' o' := by rwa [gT0, gT0] at h
theorem T0D {y : MethodName} {ws : List Cond} {rm : Room} {av : List Value} {r : UInt64} (h : CtD l y ws rm E av (gU (gT σ c0 c1 c2 c9) 0 c0) π o r (gU (gT σ c0 c1 c2 c9) 0 d) π' o') : CtD l y ws rm E av (gT σ c0 c1 c2 c9) π o r (gT σ d c1 c2 c9) π' o' := by rwa [gT0, gT0] at h
theorem T0V {y : MethodName} {ws : List Cond} {rm : Room} {av : List Value} (h : CtV l y ws rm E av (gU (gT σ c0 c1 c2 c9) 0 c0) π o (gU (gT σ c0 c1 c2 c9) 0 d) π' o') : CtV l y ws rm E av (gT σ c0 c1 c2 c9) π o (gT σ d c1 c2 c9) π' o' := by rwa [gT0, gT0] at h
theorem T1I {y : MethodName} {ws : List Cond} {rm : Room} {av : List Value} {r : Int32} (h : CtI l y ws rm E av (gU (gT σ c0 c1 c2 c9) 1 c1) π o r (gU (gT σ c0 c1 c2 c9) 1 d) π' o') : CtI l y ws rm E av (gT σ c0 c1 c2 c9) π o r (gT σ c0 d c2 c9) π' o' := by rwa [gT1, gT1] at h
theorem T1L {y : MethodName} {ws : List Cond} {rm : Room} {av : List Value} {r : Int64} (h : CtL l y ws rm E av (gU (gT σ c0 c1 c2 c9) 1 c1) π o r (gU (gT σ c0 c1 c2 c9) 1 d) π' o') : CtL l y ws rm E av (gT σ c0 c1 c2 c9) π o r (gT σ c0 d c2 c9) π' o' := by rwa [gT1, gT1] at h
theorem T1D {y : MethodName} {ws : List Cond} {rm : Room} {av : List Value} {r : UInt64} (h : CtD l y ws rm E av (gU (gT σ c0 c1 c2 c9) 1 c1) π o r (gU (gT σ c0 c1 c2 c9) 1 d) π' o') : CtD l y ws rm E av (gT σ c0 c1 c2 c9) π o r (gT σ c0 d c2 c9) π' o' := by rwa [gT1, gT1] at h
theorem T1V {y : MethodName} {ws : List Cond} {rm : Room} {av : List Value} (h : CtV l y ws rm E av (gU (gT σ c0 c1 c2 c9) 1 c1) π o (gU (gT σ c0 c1 c2 c9) 1 d) π' o') : CtV l y ws rm E av (gT σ c0 c1 c2 c9) π o (gT σ c0 d c2 c9) π' o' := by rwa [gT1, gT1] at h
theorem T2I {y : MethodName} {ws : List Cond} {rm : Room} {av : List Value} {r : Int32} (h : CtI l y ws rm E av (gU (gT σ c0 c1 c2 c9) 2 c2) π o r (gU (gT σ c0 c1 c2 c9) 2 d) π' o') : CtI l y ws rm E av (gT σ c0 c1 c2 c9) π o r (gT σ c0 c1 d c9) π' o' := by rwa [gT2, gT2] at h
theorem T2L {y : MethodName} {ws : List Cond} {rm : Room} {av : List Value} {r : Int64} (h : CtL l y ws rm E av (gU (gT σ c0 c1 c2 c9) 2 c2) π o r (gU (gT σ c0 c1 c2 c9) 2 d) π' o') : CtL l y ws rm E av (gT σ c0 c1 c2 c9) π o r (gT σ c0 c1 d c9) π' o' := by rwa [gT2, gT2] at h
theorem T2D {y : MethodName} {ws : List Cond} {rm : Room} {av : List Value} {r : UInt64} (h : CtD l y ws rm E av (gU (gT σ c0 c1 c2 c9) 2 c2) π o r (gU (gT σ c0 c1 c2 c9) 2 d) π' o') : CtD l y ws rm E av (gT σ c0 c1 c2 c9) π o r (gT σ c0 c1 d c9) π' o' := by rwa [gT2, gT2] at h
theorem T2V {y : MethodName} {ws : List Cond} {rm : Room} {av : List Value} (h : CtV l y ws rm E av (gU (gT σ c0 c1 c2 c9) 2 c2) π o (gU (gT σ c0 c1 c2 c9) 2 d) π' o') : CtV l y ws rm E av (gT σ c0 c1 c2 c9) π o (gT σ c0 c1 d c9) π' o' := by rwa [gT2, gT2] at h
theorem T9I {y : MethodName} {ws : List Cond} {rm : Room} {av : List Value} {r : Int32} (h : CtI l y ws rm E av (gU (gT σ c0 c1 c2 c9) 9 c9) π o r (gU (gT σ c0 c1 c2 c9) 9 d) π' o') : CtI l y ws rm E av (gT σ c0 c1 c2 c9) π o r (gT σ c0 c1 c2 d) π' o' := by rwa [gT9, gT9] at h
theorem T9L {y : MethodName} {ws : List Cond} {rm : Room} {av : List Value} {r : Int64} (h : CtL l y ws rm E av (gU (gT σ c0 c1 c2 c9) 9 c9) π o r (gU (gT σ c0 c1 c2 c9) 9 d) π' o') : CtL l y ws rm E av (gT σ c0 c1 c2 c9) π o r (gT σ c0 c1 c2 d) π' o' := by rwa [gT9, gT9] at h
theorem T9D {y : MethodName} {ws : List Cond} {rm : Room} {av : List Value} {r : UInt64} (h : CtD l y ws rm E av (gU (gT σ c0 c1 c2 c9) 9 c9) π o r (gU (gT σ c0 c1 c2 c9) 9 d) π' o') : CtD l y ws rm E av (gT σ c0 c1 c2 c9) π o r (gT σ c0 c1 c2 d) π' o' := by rwa [gT9, gT9] at h
theorem T9V {y : MethodName} {ws : List Cond} {rm : Room} {av : List Value} (h : CtV l y ws rm E av (gU (gT σ c0 c1 c2 c9) 9 c9) π o (gU (gT σ c0 c1 c2 c9) 9 d) π' o') : CtV l y ws rm E av (gT σ c0 c1 c2 c9) π o (gT σ c0 c1 c2 d) π' o' := by rwa [gT9, gT9] at h
theorem G.getCT0N (C : gCx p s m c cc nL own Ts args E A R cl sl) {pc : Nat} {lv : List (Option Value)} {st : List Value} {index : Nat} {v : Value} (hin : ∀ w ∈ u_ws RX0 TX0 10, w ∈ Ts) (k : Nat) (hk : k < 10) (hr : (TX0 k).1 = RX0) (hlink : (Cond.fieldLinkNest own index RX0 (TX0 k).2.1 (TX0 k).2.2.1 RX3) ∈ gNst) (hf : (gFc E c0 0)[k]? = some v) (hd : decode cc pc = .ok (.getfield index, 3)) (kk : G p l e R s m args below meth c nL cl sl A Q E (gT σ c0 c1 c2 c9) π o (pc + 3) lv (v :: st)) : G p l e R s m args below meth c nL cl sl A Q E (gT σ c0 c1 c2 c9) π o pc lv (.ref (E.2.1 0 0) :: st) := G.getCsN C (by omega) hin k hk hr hlink hf hd kk
theorem G.getWT0N (C : gCx p s m c cc nL own Ts args E A R cl sl) {pc : Nat} {lv : List (Option Value)} {st : List Value} {index : Nat} {v : Value} (hin : ∀ w ∈ u_ws RX2 TX2 3, w ∈ Ts) (k : Nat) (hk : k < 3) (hr : (TX2 k).1 = RX2) (hlink : (Cond.fieldLinkNest own index RX2 (TX2 k).2.1 (TX2 k).2.2.1 RX3) ∈ gNst) (hf : (gFw E c0 0)[k]? = some v) (hd : decode cc pc = .ok (.getfield index, 3)) (kk : G p l e R s m args below meth c nL cl sl A Q E (gT σ c0 c1 c2 c9) π o (pc + 3) lv (v :: st)) : G p l e R s m args below meth c nL cl sl A Q E (gT σ c0 c1 c2 c9) π o pc lv (.ref (E.2.1 0 17) :: st) := G.getWsN C (by omega) hin k hk hr hlink hf hd kk
theorem G.getCT1N (C : gCx p s m c cc nL own Ts args E A R cl sl) {pc : Nat} {lv : List (Option Value)} {st : List Value} {index : Nat} {v : Value} (hin : ∀ w ∈ u_ws RX0 TX0 10, w ∈ Ts) (k : Nat) (hk : k < 10) (hr : (TX0 k).1 = RX0) (hlink : (Cond.fieldLinkNest own index RX0 (TX0 k).2.1 (TX0 k).2.2.1 RX3) ∈ gNst) (hf : (gFc E c1 1)[k]? = some v) (hd : decode cc pc = .ok (.getfield index, 3)) (kk : G p l e R s m args below meth c nL cl sl A Q E (gT σ c0 c1 c2 c9) π o (pc + 3) lv (v :: st)) : G p l e R s m args below meth c nL cl sl A Q E (gT σ c0 c1 c2 c9) π o pc lv (.ref (E.2.1 1 0) :: st) := G.getCsN C (by omega) hin k hk hr hlink hf hd kk
theorem G.getWT1N (C : gCx p s m c cc nL own Ts args E A R cl sl) {pc : Nat} {lv : List (Option Value)} {st : List Value} {index : Nat} {v : Value} (hin : ∀ w ∈ u_ws RX2 TX2 3, w ∈ Ts) (k : Nat) (hk : k < 3) (hr : (TX2 k).1 = RX2) (hlink : (Cond.fieldLinkNest own index RX2 (TX2 k).2.1 (TX2 k).2.2.1 RX3) ∈ gNst) (hf : (gFw E c1 1)[k]? = some v) (hd : decode cc pc = .ok (.getfield index, 3)) (kk : G p l e R s m args below meth c nL cl sl A Q E (gT σ c0 c1 c2 c9) π o (pc + 3) lv (v :: st)) : G p l e R s m args below meth c nL cl sl A Q E (gT σ c0 c1 c2 c9) π o pc lv (.ref (E.2.1 1 17) :: st) := G.getWsN C (by omega) hin k hk hr hlink hf hd kk
theorem G.getCT2N (C : gCx p s m c cc nL own Ts args E A R cl sl) {pc : Nat} {lv : List (Option Value)} {st : List Value} {index : Nat} {v : Value} (hin : ∀ w ∈ u_ws RX0 TX0 10, w ∈ Ts) (k : Nat) (hk : k < 10) (hr : (TX0 k).1 = RX0) (hlink : (Cond.fieldLinkNest own index RX0 (TX0 k).2.1 (TX0 k).2.2.1 RX3) ∈ gNst) (hf : (gFc E c2 2)[k]? = some v) (hd : decode cc pc = .ok (.getfield index, 3)) (kk : G p l e R s m args below meth c nL cl sl A Q E (gT σ c0 c1 c2 c9) π o (pc + 3) lv (v :: st)) : G p l e R s m args below meth c nL cl sl A Q E (gT σ c0 c1 c2 c9) π o pc lv (.ref (E.2.1 2 0) :: st) := G.getCsN C (by omega) hin k hk hr hlink hf hd kk
theorem G.getWT2N (C : gCx p s m c cc nL own Ts args E A R cl sl) {pc : Nat} {lv : List (Option Value)} {st : List Value} {index : Nat} {v : Value} (hin : ∀ w ∈ u_ws RX2 TX2 3, w ∈ Ts) (k : Nat) (hk : k < 3) (hr : (TX2 k).1 = RX2) (hlink : (Cond.fieldLinkNest own index RX2 (TX2 k).2.1 (TX2 k).2.2.1 RX3) ∈ gNst) (hf : (gFw E c2 2)[k]? = some v) (hd : decode cc pc = .ok (.getfield index, 3)) (kk : G p l e R s m args below meth c nL cl sl A Q E (gT σ c0 c1 c2 c9) π o (pc + 3) lv (v :: st)) : G p l e R s m args below meth c nL cl sl A Q E (gT σ c0 c1 c2 c9) π o pc lv (.ref (E.2.1 2 17) :: st) := G.getWsN C (by omega) hin k hk hr hlink hf hd kk
theorem G.getMT (C : gCx p s m c cc nL own Ts args E A R cl sl) {pc : Nat} {lv : List (Option Value)} {st : List Value} {index : Nat} {v : Value} (hin : ∀ w ∈ u_ws RX3 TX3 9, w ∈ Ts) (k : Nat) (hk : k < 9) (hr : (TX3 k).1 = RX3) (hlink : (Cond.fieldLink own index RX3 (TX3 k).2.1 (TX3 k).2.2.1).before args s = true) (hf : (gFm E c9)[k]? = some v) (hd : decode cc pc = .ok (.getfield index, 3)) (kk : G p l e R s m args below meth c nL cl sl A Q E (gT σ c0 c1 c2 c9) π o (pc + 3) lv (v :: st)) : G p l e R s m args below meth c nL cl sl A Q E (gT σ c0 c1 c2 c9) π o pc lv (.ref (E.2.1 9 0) :: st) := G.getMs C hin k hk hr hlink hf hd kk
theorem G.getRTN (C : gCx p s m c cc nL own Ts args E A R cl sl) {pc : Nat} {lv : List (Option Value)} {st : List Value} {index : Nat} {v : Value} (hin : ∀ w ∈ u_ws RX1 TX1 4, w ∈ Ts) (k : Nat) (hk : k < 4) (hr : (TX1 k).1 = RX1) (hlink : (Cond.fieldLinkNest own index RX1 (TX1 k).2.1 (TX1 k).2.2.1 RX3) ∈ gNst) (hf : (gFr c9)[k]? = some v) (hd : decode cc pc = .ok (.getfield index, 3)) (kk : G p l e R s m args below meth c nL cl sl A Q E (gT σ c0 c1 c2 c9) π o (pc + 3) lv (v :: st)) : G p l e R s m args below meth c nL cl sl A Q E (gT σ c0 c1 c2 c9) π o pc lv (.ref (E.2.1 9 3) :: st) := G.getRsN C hin k hk hr hlink hf hd kk
theorem G.ialdT0 (C : gCx p s m c cc nL own Ts args E A R cl sl) {pc : Nat} {lv : List (Option Value)} {st : List Value} {j n d0 : Nat} {x : Int32} (hn : gN 0 j = some n) (hv : gV E 0 j) (hx : vp_in x n) (hk : ix x = d0) (hd : decode cc pc = .ok (.iaload, 1)) (k : G p l e R s m args below meth c nL cl sl A Q E (gT σ c0 c1 c2 c9) π o (pc + 1) lv (.int (c0 j d0) :: st)) : G p l e R s m args below meth c nL cl sl A Q E (gT σ c0 c1 c2 c9) π o pc lv (.int x :: .ref (E.2.1 0 j) :: st) := G.iald C hn hv hx hk hd k
theorem G.iastT0 (C : gCx p s m c cc nL own Ts args E A R cl sl) {pc : Nat} {lv : List (Option Value)} {st : List Value} {j n d0 : Nat} {x y : Int32} (hn : gN 0 j = some n) (hv : gV E 0 j) (hx : vp_in x n) (hk : ix x = d0) (hd : decode cc pc = .ok (.iastore, 1)) (k : G p l e R s m args below meth c nL cl sl A Q E (gT σ (cW c0 j d0 y) c1 c2 c9) π o (pc + 1) lv st) : G p l e R s m args below meth c nL cl sl A Q E (gT σ c0 c1 c2 c9) π o pc lv (.int y :: .int x :: .ref (E.2.1 0 j) :: st) := G.iast C hn hv hx hk hd (by rw [gT0]; exact k)
theorem G.ialdT1 (C : gCx p s m c cc nL own Ts args E A R cl sl) {pc : Nat} {lv : List (Option Value)} {st : List Value} {j n d0 : Nat} {x : Int32} (hn : gN 1 j = some n) (hv : gV E 1 j) (hx : vp_in x n) (hk : ix x = d0) (hd : decode cc pc = .ok (.iaload, 1)) (k : G p l e R s m args below meth c nL cl sl A Q E (gT σ c0 c1 c2 c9) π o (pc + 1) lv (.int (c1 j d0) :: st)) : G p l e R s m args below meth c nL cl sl A Q E (gT σ c0 c1 c2 c9) π o pc lv (.int x :: .ref (E.2.1 1 j) :: st) := G.iald C hn hv hx hk hd k
theorem G.ialdT2 (C : gCx p s m c cc nL own Ts args E A R cl sl) {pc : Nat} {lv : List (Option Value)} {st : List Value} {j n d0 : Nat} {x : Int32} (hn : gN 2 j = some n) (hv : gV E 2 j) (hx : vp_in x n) (hk : ix x = d0) (hd : decode cc pc = .ok (.iaload, 1)) (k : G p l e R s m args below meth c nL cl sl A Q E (gT σ c0 c1 c2 c9) π o (pc + 1) lv (.int (c2 j d0) :: st)) : G p l e R s m args below meth c nL cl sl A Q E (gT σ c0 c1 c2 c9) π o pc lv (.int x :: .ref (E.2.1 2 j) :: st) := G.iald C hn hv hx hk hd k
theorem G.ialdT9 (C : gCx p s m c cc nL own Ts args E A R cl sl) {pc : Nat} {lv : List (Option Value)} {st : List Value} {j n d0 : Nat} {x : Int32} (hn : gN 9 j = some n) (hv : gV E 9 j) (hx : vp_in x n) (hk : ix x = d0) (hd : decode cc pc = .ok (.iaload, 1)) (k : G p l e R s m args below meth c nL cl sl A Q E (gT σ c0 c1 c2 c9) π o (pc + 1) lv (.int (c9 j d0) :: st)) : G p l e R s m args below meth c nL cl sl A Q E (gT σ c0 c1 c2 c9) π o pc lv (.int x :: .ref (E.2.1 9 j) :: st) := G.iald C hn hv hx hk hd k
theorem G.iastT9 (C : gCx p s m c cc nL own Ts args E A R cl sl) {pc : Nat} {lv : List (Option Value)} {st : List Value} {j n d0 : Nat} {x y : Int32} (hn : gN 9 j = some n) (hv : gV E 9 j) (hx : vp_in x n) (hk : ix x = d0) (hd : decode cc pc = .ok (.iastore, 1)) (k : G p l e R s m args below meth c nL cl sl A Q E (gT σ c0 c1 c2 (cW c9 j d0 y)) π o (pc + 1) lv st) : G p l e R s m args below meth c nL cl sl A Q E (gT σ c0 c1 c2 c9) π o pc lv (.int y :: .int x :: .ref (E.2.1 9 j) :: st) := G.iast C hn hv hx hk hd (by rw [gT9]; exact k)
theorem G.putMT (C : gCx p s m c cc nL own Ts args E A R cl sl) {pc : Nat} {lv : List (Option Value)} {st : List Value} {index : Nat} {x : Int32} {ty : FieldType} (hin : ∀ w ∈ u_ws RX3 TX3 9, w ∈ Ts) (k : Nat) (hk : k < 9) (hr : (TX3 k).1 = RX3) (hlink : (Cond.fieldLink own index RX3 (TX3 k).2.1 (TX3 k).2.2.1).before args s = true) (hfin : (TX3 k).2.2.2 = false) (hty : parseFieldDescriptor (TX3 k).2.2.1 = some ty) (hn : narrow ty (.int x) = .int x) (hfit : fits ty (.int x) = true) (hfs : gFm E (cW c9 0 k x) = (gFm E c9).set k (.int x)) (hd : decode cc pc = .ok (.putfield index, 3)) (kk : G p l e R s m args below meth c nL cl sl A Q E (gT σ c0 c1 c2 (cW c9 0 k x)) π o (pc + 3) lv st) : G p l e R s m args below meth c nL cl sl A Q E (gT σ c0 c1 c2 c9) π o pc lv (.int x :: .ref (E.2.1 9 0) :: st) := G.putMs C hin k hk hr hlink hfin hty hn hfit hfs hd (by rw [gT9]; exact kk)
end GT
/-! the class: its own helpers -/
def tTry (c0 c1 : cSt) (x t : Int32) : Bool × cSt := if cWhyHome c0 x t = 0 then (true, cCome c0 x t) else (false, c1)
def tTN (c0 c1 : cSt) (x w : Int32) : Int32 := if w = 0 then c1 4 (ix x) else if w = 1 then c1 0 8 - c0 0 8 else cAt c1 24 - cAt c0 24
def tAll (c : cSt) (t : Int32) : Nat → cSt
  | 0 => c
  | k + 1 => if cEx (tAll c t k) (nI k) = true then (if tAll c t k 4 k = -1 then cCome (tAll c t k) (nI k) t else tAll c t k) else tAll c t k
def tFH (c : cSt) : Nat → Nat → Int32
  | 0, _ => -1
  | n + 1, k => if cOpen c (nI k) = true then (if c 12 k = -1 then nI k else tFH c n (k + 1)) else tFH c n (k + 1)
def tGood (c : cSt) : Int32 := if cSitD (tAll c (c 0 7) 16) ≤ cSitD (tAll c 1439 16) then 1 else 0
def tShare (c : cSt) : UInt64 := if cDoves c = 0 then FP.dconst1 else FP.ddiv (FP.i2d (cHome c)) (FP.i2d (cDoves c))

set_option maxRecDepth 100000 in
set_option maxHeartbeats 4000000 in
theorem k_X3_tryHome (l : Launch) {E : gEn} {σ : gSt} {π : Nat → Nat} {o : Int64} {c0 c1 c2 c9 : cSt} {x t : Int32} (hx : vp_in x 16) : CtI l yX3_tryHome wsX3_tryHome ({ frames := 5, cells := 0, slots := 0, locals := 119 } : Room) E [.ref (E.2.1 9 0), .int x, .int t] (gT σ c0 c1 c2 c9) π o (bI (tTry c0 c1 x t).1) (gT σ c0 (tTry c0 c1 x t).2 c2 c9) π o := by
  refine CtI.of (cc := cX3_tryHome) (own := RX3) (maxL := 3) (ret := (some .boolean)) [some (.ref (E.2.1 9 0)), some (.int x), some (.int t)] (by decide) rfl rfl (Nat.le_of_ble_eq_true rfl) rfl ?_
  intro p e s m args below meth cd C hrt hlk
  have hinX0 : ∀ w ∈ wsX00, w ∈ wsX3_tryHome := by decide +kernel
  have hinX2 : ∀ w ∈ wsX20, w ∈ wsX3_tryHome := by decide +kernel
  have hinX3 : ∀ w ∈ wsX30, w ∈ wsX3_tryHome := by decide +kernel
  refine G.aldn0 C dX3_tryHome_0 ?_
  refine G.getMT C hinX3 0 (by decide) rfl (C.1.2.2.2.2 (.fieldLink RX3 10 RX3 "now" "LLateDoves$Cote;") (by decide +kernel)) rfl dX3_tryHome_1 ?_
  refine G.ildn1 C dX3_tryHome_4 ?_
  refine G.ildn2 C dX3_tryHome_5 ?_
  refine G.callVI2 C (T0I (k_X0_reasonNotHome l (by omega) hx)) (cwV 2 C.1.2.2.2.2 gX3_tryHome_X0_reasonNotHome rfl rfl rfl (by decide +kernel) ⟨Nat.le_of_ble_eq_true rfl, Nat.le_of_ble_eq_true rfl⟩) (gO_c (by omega)) rfl (Nat.le_of_ble_eq_true rfl) dX3_tryHome_6 ?_
  refine G.if_eq C 14 dX3_tryHome_9 (by decide) (fun h9 => ?_) (fun h9 => ?_)
  · refine G.aldn0 C dX3_tryHome_14 ?_
    refine G.getMT C hinX3 1 (by decide) rfl (C.1.2.2.2.2 (.fieldLink RX3 16 RX3 "trial" "LLateDoves$Cote;") (by decide +kernel)) rfl dX3_tryHome_15 ?_
    refine G.aldn0 C dX3_tryHome_18 ?_
    refine G.getMT C hinX3 0 (by decide) rfl (C.1.2.2.2.2 (.fieldLink RX3 10 RX3 "now" "LLateDoves$Cote;") (by decide +kernel)) rfl dX3_tryHome_19 ?_
    refine G.callVV1 C (T1V (d := c0) (k_X0_copyFrom l (by omega) (by omega) (by decide))) (cwV 1 C.1.2.2.2.2 gX3_tryHome_X0_copyFrom rfl rfl rfl (by decide +kernel) ⟨Nat.le_of_ble_eq_true rfl, Nat.le_of_ble_eq_true rfl⟩) (gO_c (by omega)) rfl (Nat.le_of_ble_eq_true rfl) dX3_tryHome_22 ?_
    refine G.aldn0 C dX3_tryHome_25 ?_
    refine G.getMT C hinX3 1 (by decide) rfl (C.1.2.2.2.2 (.fieldLink RX3 16 RX3 "trial" "LLateDoves$Cote;") (by decide +kernel)) rfl dX3_tryHome_26 ?_
    refine G.ildn1 C dX3_tryHome_29 ?_
    refine G.ildn2 C dX3_tryHome_30 ?_
    refine G.callVI2 C (T1I (k_X0_comeHome l (by omega) hx)) (cwV 2 C.1.2.2.2.2 gX3_tryHome_X0_comeHome rfl rfl rfl (by decide +kernel) ⟨Nat.le_of_ble_eq_true rfl, Nat.le_of_ble_eq_true rfl⟩) (gO_c (by omega)) rfl (Nat.le_of_ble_eq_true rfl) dX3_tryHome_31 ?_
    refine G.pop C dX3_tryHome_34 rfl ?_
    refine G.iconst C 1 dX3_tryHome_35 (by decide) ?_
    exact G.zret C hlk hrt dX3_tryHome_36 (by rw [tTry, if_pos h9] <;> rfl) (by intro H h; rw [tTry, if_pos h9]; exact h)
  · refine G.iconst C 0 dX3_tryHome_12 (by decide) ?_
    exact G.zret C hlk hrt dX3_tryHome_13 (by rw [tTry, if_neg h9] <;> rfl) (by intro H h; rw [tTry, if_neg h9]; exact h)
set_option maxRecDepth 100000 in
set_option maxHeartbeats 4000000 in
theorem k_X3_trialNumber (l : Launch) {E : gEn} {σ : gSt} {π : Nat → Nat} {o : Int64} {c0 c1 c2 c9 : cSt} {x w : Int32} (hx : vp_in x 16) : CtI l yX3_trialNumber wsX3_trialNumber ({ frames := 2, cells := 0, slots := 0, locals := 44 } : Room) E [.ref (E.2.1 9 0), .int x, .int w] (gT σ c0 c1 c2 c9) π o (tTN c0 c1 x w) (gT σ c0 c1 c2 c9) π o := by
  refine CtI.of (cc := cX3_trialNumber) (own := RX3) (maxL := 3) (ret := (some .int)) [some (.ref (E.2.1 9 0)), some (.int x), some (.int w)] (by decide) rfl rfl (Nat.le_of_ble_eq_true rfl) rfl ?_
  intro p e s m args below meth cd C hrt hlk
  have hinX0 : ∀ w ∈ wsX00, w ∈ wsX3_trialNumber := by decide +kernel
  have hinX3 : ∀ w ∈ wsX30, w ∈ wsX3_trialNumber := by decide +kernel
  refine G.ildn2 C dX3_trialNumber_0 ?_
  refine G.if_ne C 16 dX3_trialNumber_1 (by decide) (fun h1 => ?_) (fun h1 => ?_)
  · refine G.ildn2 C dX3_trialNumber_16 ?_
    refine G.iconst C 1 dX3_trialNumber_17 (by decide) ?_
    refine G.icmp_ne C 37 dX3_trialNumber_18 (by decide) (fun h18 => ?_) (fun h18 => ?_)
    · refine G.aldn0 C dX3_trialNumber_37 ?_
      refine G.getMT C hinX3 1 (by decide) rfl (C.1.2.2.2.2 (.fieldLink RX3 16 RX3 "trial" "LLateDoves$Cote;") (by decide +kernel)) rfl dX3_trialNumber_38 ?_
      refine G.bipush C 24 dX3_trialNumber_41 (by decide) ?_
      refine G.callVI1 C (T1I (k_X0_placedAt l (by omega))) (cwV 1 C.1.2.2.2.2 gX3_trialNumber_X0_placedAt rfl rfl rfl (by decide +kernel) ⟨Nat.le_of_ble_eq_true rfl, Nat.le_of_ble_eq_true rfl⟩) (gO_c (by omega)) rfl (Nat.le_of_ble_eq_true rfl) dX3_trialNumber_43 ?_
      refine G.aldn0 C dX3_trialNumber_46 ?_
      refine G.getMT C hinX3 0 (by decide) rfl (C.1.2.2.2.2 (.fieldLink RX3 10 RX3 "now" "LLateDoves$Cote;") (by decide +kernel)) rfl dX3_trialNumber_47 ?_
      refine G.bipush C 24 dX3_trialNumber_50 (by decide) ?_
      refine G.callVI1 C (T0I (k_X0_placedAt l (by omega))) (cwV 1 C.1.2.2.2.2 gX3_trialNumber_X0_placedAt rfl rfl rfl (by decide +kernel) ⟨Nat.le_of_ble_eq_true rfl, Nat.le_of_ble_eq_true rfl⟩) (gO_c (by omega)) rfl (Nat.le_of_ble_eq_true rfl) dX3_trialNumber_52 ?_
      refine G.isub C dX3_trialNumber_55 ?_
      exact G.iret C hlk hrt dX3_trialNumber_56 (by rw [tTN, if_neg h1, if_neg h18] <;> rfl) (by exact fun _ h => h)
    · refine G.aldn0 C dX3_trialNumber_21 ?_
      refine G.getMT C hinX3 1 (by decide) rfl (C.1.2.2.2.2 (.fieldLink RX3 16 RX3 "trial" "LLateDoves$Cote;") (by decide +kernel)) rfl dX3_trialNumber_22 ?_
      refine G.getCT1N C hinX0 8 (by decide) rfl (by simp [gNst, TX0, TX1, TX2]) rfl dX3_trialNumber_25 ?_
      refine G.aldn0 C dX3_trialNumber_28 ?_
      refine G.getMT C hinX3 0 (by decide) rfl (C.1.2.2.2.2 (.fieldLink RX3 10 RX3 "now" "LLateDoves$Cote;") (by decide +kernel)) rfl dX3_trialNumber_29 ?_
      refine G.getCT0N C hinX0 8 (by decide) rfl (by simp [gNst, TX0, TX1, TX2]) rfl dX3_trialNumber_32 ?_
      refine G.isub C dX3_trialNumber_35 ?_
      exact G.iret C hlk hrt dX3_trialNumber_36 (by rw [tTN, if_neg h1, if_pos h18] <;> rfl) (by exact fun _ h => h)
  · refine G.aldn0 C dX3_trialNumber_4 ?_
    refine G.getMT C hinX3 1 (by decide) rfl (C.1.2.2.2.2 (.fieldLink RX3 16 RX3 "trial" "LLateDoves$Cote;") (by decide +kernel)) rfl dX3_trialNumber_5 ?_
    refine G.getCT1N C hinX0 0 (by decide) rfl (by simp [gNst, TX0, TX1, TX2]) rfl dX3_trialNumber_8 ?_
    refine G.iconst C 2 dX3_trialNumber_11 (by decide) ?_
    refine G.aaldD C (by omega) 4 (by unfold vp_in; decide) (by decide) dX3_trialNumber_12 ?_
    refine G.ildn1 C dX3_trialNumber_13 ?_
    refine G.ialdT1 C (n := 16) (j := 4) (d0 := _) (gN_c (by omega) rfl) (gV_c (by omega) (by omega)) (by first | assumption | exact vp_in_nI (by omega) (by omega) | (unfold vp_in; decide)) rfl dX3_trialNumber_14 ?_
    exact G.iret C hlk hrt dX3_trialNumber_15 (by rw [tTN, if_pos h1] <;> rfl) (by exact fun _ h => h)
set_option maxRecDepth 100000 in
set_option maxHeartbeats 4000000 in
theorem k_X3_sittingIfAllCame (l : Launch) {E : gEn} {σ : gSt} {π : Nat → Nat} {o : Int64} {c0 c1 c2 c9 : cSt} {t : Int32} : CtI l yX3_sittingIfAllCame wsX3_sittingIfAllCame ({ frames := 5, cells := 0, slots := 0, locals := 119 } : Room) E [.ref (E.2.1 9 0), .int t] (gT σ c0 c1 c2 c9) π o (cSitD (tAll c0 t 16)) (gT σ c0 (tAll c0 t 16) c2 c9) π o := by
  refine CtI.of (cc := cX3_sittingIfAllCame) (own := RX3) (maxL := 3) (ret := (some .int)) [some (.ref (E.2.1 9 0)), some (.int t), none] (by decide) rfl rfl (Nat.le_of_ble_eq_true rfl) rfl ?_
  intro p e s m args below meth cd C hrt hlk
  have hinX0 : ∀ w ∈ wsX00, w ∈ wsX3_sittingIfAllCame := by decide +kernel
  have hinX2 : ∀ w ∈ wsX20, w ∈ wsX3_sittingIfAllCame := by decide +kernel
  have hinX3 : ∀ w ∈ wsX30, w ∈ wsX3_sittingIfAllCame := by decide +kernel
  refine G.aldn0 C dX3_sittingIfAllCame_0 ?_
  refine G.getMT C hinX3 1 (by decide) rfl (C.1.2.2.2.2 (.fieldLink RX3 16 RX3 "trial" "LLateDoves$Cote;") (by decide +kernel)) rfl dX3_sittingIfAllCame_1 ?_
  refine G.aldn0 C dX3_sittingIfAllCame_4 ?_
  refine G.getMT C hinX3 0 (by decide) rfl (C.1.2.2.2.2 (.fieldLink RX3 10 RX3 "now" "LLateDoves$Cote;") (by decide +kernel)) rfl dX3_sittingIfAllCame_5 ?_
  refine G.callVV1 C (T1V (d := c0) (k_X0_copyFrom l (by omega) (by omega) (by decide))) (cwV 1 C.1.2.2.2.2 gX3_sittingIfAllCame_X0_copyFrom rfl rfl rfl (by decide +kernel) ⟨Nat.le_of_ble_eq_true rfl, Nat.le_of_ble_eq_true rfl⟩) (gO_c (by omega)) rfl (Nat.le_of_ble_eq_true rfl) dX3_sittingIfAllCame_8 ?_
  refine G.iconst C 0 dX3_sittingIfAllCame_11 (by decide) ?_
  refine G.istn2 C dX3_sittingIfAllCame_12 (by omega) rfl ?_
  have L13 : ∀ (n k : Nat), k + n = 16 → G p l e ({ frames := 5, cells := 0, slots := 0, locals := 119 } : Room) s m args below meth cd 3 0 0 (gA E) (gQI below args s (cSitD (tAll c0 t 16)) E (gT σ c0 (tAll c0 t 16) c2 c9) π o) E (gT σ c0 (tAll c0 t k) c2 c9) π o 13 [some (.ref (E.2.1 9 0)), some (.int t), some (.int (nI k))] [] := by
    intro n
    induction n with
    | zero =>
      intro k hk
      obtain rfl : 16 = k := by omega
      refine G.ildn2 C dX3_sittingIfAllCame_13 ?_
      refine G.bipush C 16 dX3_sittingIfAllCame_14 (by decide) ?_
      refine G.icmp_ge C 61 dX3_sittingIfAllCame_16 (by decide) (fun _ => ?_) (fun h => absurd (nI_le (a := 16) (b := 16) (by omega) (by decide)) h)
      refine G.aldn0 C dX3_sittingIfAllCame_61 ?_
      refine G.getMT C hinX3 1 (by decide) rfl (C.1.2.2.2.2 (.fieldLink RX3 16 RX3 "trial" "LLateDoves$Cote;") (by decide +kernel)) rfl dX3_sittingIfAllCame_62 ?_
      refine G.callVI0 C (T1I (k_X0_sittingByDoves l (by omega))) (cwV 0 C.1.2.2.2.2 gX3_sittingIfAllCame_X0_sittingByDoves rfl rfl rfl (by decide +kernel) ⟨Nat.le_of_ble_eq_true rfl, Nat.le_of_ble_eq_true rfl⟩) (gO_c (by omega)) rfl (Nat.le_of_ble_eq_true rfl) dX3_sittingIfAllCame_65 ?_
      exact G.iret C hlk hrt dX3_sittingIfAllCame_68 (by rfl) (by exact fun _ h => h)
    | succ n ih =>
      intro k hk
      have hk2 : k < 16 := by omega
      refine G.ildn2 C dX3_sittingIfAllCame_13 ?_
      refine G.bipush C 16 dX3_sittingIfAllCame_14 (by decide) ?_
      refine G.icmp_ge C 61 dX3_sittingIfAllCame_16 (by decide) (fun h => absurd h (nI_ge (b := 16) hk2 (by decide))) (fun _ => ?_)
      refine G.aldn0 C dX3_sittingIfAllCame_19 ?_
      refine G.getMT C hinX3 1 (by decide) rfl (C.1.2.2.2.2 (.fieldLink RX3 16 RX3 "trial" "LLateDoves$Cote;") (by decide +kernel)) rfl dX3_sittingIfAllCame_20 ?_
      refine G.ildn2 C dX3_sittingIfAllCame_23 ?_
      refine G.callVI1 C (T1I (k_X0_exists l (by omega))) (cwV 1 C.1.2.2.2.2 gX3_sittingIfAllCame_X0_exists rfl rfl rfl (by decide +kernel) ⟨Nat.le_of_ble_eq_true rfl, Nat.le_of_ble_eq_true rfl⟩) (gO_c (by omega)) rfl (Nat.le_of_ble_eq_true rfl) dX3_sittingIfAllCame_24 ?_
      refine G.if_eqB C 55 dX3_sittingIfAllCame_27 (by decide) (fun h27 => ?_) (fun h27 => ?_)
      · refine G.iincN2 C dX3_sittingIfAllCame_55 (by omega) rfl ?_
        refine G.goto C 13 dX3_sittingIfAllCame_58 (by decide) ?_
        exact G.back (ih (k + 1) (by omega) ) (by first | (simp only [tAll, ]; done) | (simp [tAll, h27]; done)) ⟨(by first | rfl | simp), (by first | rfl | simp), (by first | rfl | simp), trivial⟩
      · refine G.aldn0 C dX3_sittingIfAllCame_30 ?_
        refine G.getMT C hinX3 1 (by decide) rfl (C.1.2.2.2.2 (.fieldLink RX3 16 RX3 "trial" "LLateDoves$Cote;") (by decide +kernel)) rfl dX3_sittingIfAllCame_31 ?_
        refine G.getCT1N C hinX0 0 (by decide) rfl (by simp [gNst, TX0, TX1, TX2]) rfl dX3_sittingIfAllCame_34 ?_
        refine G.iconst C 2 dX3_sittingIfAllCame_37 (by decide) ?_
        refine G.aaldD C (by omega) 4 (by unfold vp_in; decide) (by decide) dX3_sittingIfAllCame_38 ?_
        refine G.ildn2 C dX3_sittingIfAllCame_39 ?_
        refine G.ialdT1 C (n := 16) (j := 4) (d0 := k) (gN_c (by omega) rfl) (gV_c (by omega) (by omega)) (by first | assumption | exact vp_in_nI (by omega) (by omega) | (unfold vp_in; decide)) (ix_nI (by omega)) dX3_sittingIfAllCame_40 ?_
        refine G.iconst C (-1) dX3_sittingIfAllCame_41 (by decide) ?_
        refine G.icmp_ne C 55 dX3_sittingIfAllCame_42 (by decide) (fun h42 => ?_) (fun h42 => ?_)
        · refine G.iincN2 C dX3_sittingIfAllCame_55 (by omega) rfl ?_
          refine G.goto C 13 dX3_sittingIfAllCame_58 (by decide) ?_
          exact G.back (ih (k + 1) (by omega) ) (by first | (simp only [tAll, if_pos h27, if_neg h42]; done) | (simp [tAll, h27]; done)) ⟨(by first | rfl | simp), (by first | rfl | simp), (by first | rfl | simp), trivial⟩
        · refine G.aldn0 C dX3_sittingIfAllCame_45 ?_
          refine G.getMT C hinX3 1 (by decide) rfl (C.1.2.2.2.2 (.fieldLink RX3 16 RX3 "trial" "LLateDoves$Cote;") (by decide +kernel)) rfl dX3_sittingIfAllCame_46 ?_
          refine G.ildn2 C dX3_sittingIfAllCame_49 ?_
          refine G.ildn1 C dX3_sittingIfAllCame_50 ?_
          refine G.callVI2 C (T1I (k_X0_comeHome l (by omega) (vp_in_nI (by omega) (by omega)))) (cwV 2 C.1.2.2.2.2 gX3_sittingIfAllCame_X0_comeHome rfl rfl rfl (by decide +kernel) ⟨Nat.le_of_ble_eq_true rfl, Nat.le_of_ble_eq_true rfl⟩) (gO_c (by omega)) rfl (Nat.le_of_ble_eq_true rfl) dX3_sittingIfAllCame_51 ?_
          refine G.pop C dX3_sittingIfAllCame_54 rfl ?_
          refine G.iincN2 C dX3_sittingIfAllCame_55 (by omega) rfl ?_
          refine G.goto C 13 dX3_sittingIfAllCame_58 (by decide) ?_
          exact G.back (ih (k + 1) (by omega) ) (by first | (simp only [tAll, if_pos h27, if_pos h42]; done) | (simp [tAll, h27]; done)) ⟨(by first | rfl | simp), (by first | rfl | simp), (by first | rfl | simp), trivial⟩
  exact G.back (L13 16 0 (Nat.zero_add _) ) rfl ⟨(by first | rfl | simp), (by first | rfl | simp), (by first | rfl | simp), trivial⟩
set_option maxRecDepth 100000 in
set_option maxHeartbeats 4000000 in
theorem k_X3_freeHole (l : Launch) {E : gEn} {σ : gSt} {π : Nat → Nat} {o : Int64} {c0 c1 c2 c9 : cSt} : CtI l yX3_freeHole wsX3_freeHole ({ frames := 2, cells := 0, slots := 0, locals := 41 } : Room) E [.ref (E.2.1 9 0)] (gT σ c0 c1 c2 c9) π o (tFH c0 24 0) (gT σ c0 c1 c2 c9) π o := by
  refine CtI.of (cc := cX3_freeHole) (own := RX3) (maxL := 2) (ret := (some .int)) [some (.ref (E.2.1 9 0)), none] (by decide) rfl rfl (Nat.le_of_ble_eq_true rfl) rfl ?_
  intro p e s m args below meth cd C hrt hlk
  have hinX0 : ∀ w ∈ wsX00, w ∈ wsX3_freeHole := by decide +kernel
  have hinX3 : ∀ w ∈ wsX30, w ∈ wsX3_freeHole := by decide +kernel
  refine G.iconst C 0 dX3_freeHole_0 (by decide) ?_
  refine G.istn1 C dX3_freeHole_1 (by omega) rfl ?_
  have L2 : ∀ (n k : Nat), k + n = 24 → tFH c0 24 0 = tFH c0 n k → G p l e ({ frames := 2, cells := 0, slots := 0, locals := 41 } : Room) s m args below meth cd 2 0 0 (gA E) (gQI below args s (tFH c0 24 0) E (gT σ c0 c1 c2 c9) π o) E (gT σ c0 c1 c2 c9) π o 2 [some (.ref (E.2.1 9 0)), some (.int (nI k))] [] := by
    intro n
    induction n with
    | zero =>
      intro k hk  hq0
      obtain rfl : 24 = k := by omega
      refine G.ildn1 C dX3_freeHole_2 ?_
      refine G.bipush C 24 dX3_freeHole_3 (by decide) ?_
      refine G.icmp_ge C 42 dX3_freeHole_5 (by decide) (fun _ => ?_) (fun h => absurd (nI_le (a := 24) (b := 24) (by omega) (by decide)) h)
      refine G.iconst C (-1) dX3_freeHole_42 (by decide) ?_
      exact G.iret C hlk hrt dX3_freeHole_43 (by rw [hq0]; simp [tFH, *]) (by exact fun _ h => h)
    | succ n ih =>
      intro k hk  hq0
      have hk2 : k < 24 := by omega
      refine G.ildn1 C dX3_freeHole_2 ?_
      refine G.bipush C 24 dX3_freeHole_3 (by decide) ?_
      refine G.icmp_ge C 42 dX3_freeHole_5 (by decide) (fun h => absurd h (nI_ge (b := 24) hk2 (by decide))) (fun _ => ?_)
      refine G.aldn0 C dX3_freeHole_8 ?_
      refine G.getMT C hinX3 0 (by decide) rfl (C.1.2.2.2.2 (.fieldLink RX3 10 RX3 "now" "LLateDoves$Cote;") (by decide +kernel)) rfl dX3_freeHole_9 ?_
      refine G.ildn1 C dX3_freeHole_12 ?_
      refine G.callVI1 C (T0I (k_X0_isOpen l (by omega))) (cwV 1 C.1.2.2.2.2 gX3_freeHole_X0_isOpen rfl rfl rfl (by decide +kernel) ⟨Nat.le_of_ble_eq_true rfl, Nat.le_of_ble_eq_true rfl⟩) (gO_c (by omega)) rfl (Nat.le_of_ble_eq_true rfl) dX3_freeHole_13 ?_
      refine G.if_eqB C 36 dX3_freeHole_16 (by decide) (fun h16 => ?_) (fun h16 => ?_)
      · refine G.iincN1 C dX3_freeHole_36 (by omega) rfl ?_
        refine G.goto C 2 dX3_freeHole_39 (by decide) ?_
        exact G.back (ih (k + 1) (by omega) (by rw [hq0]; simp [tFH, *])) rfl ⟨(by first | rfl | simp), (by first | rfl | simp), trivial⟩
      · refine G.aldn0 C dX3_freeHole_19 ?_
        refine G.getMT C hinX3 0 (by decide) rfl (C.1.2.2.2.2 (.fieldLink RX3 10 RX3 "now" "LLateDoves$Cote;") (by decide +kernel)) rfl dX3_freeHole_20 ?_
        refine G.getCT0N C hinX0 1 (by decide) rfl (by simp [gNst, TX0, TX1, TX2]) rfl dX3_freeHole_23 ?_
        refine G.iconst C 1 dX3_freeHole_26 (by decide) ?_
        refine G.aaldH C (by omega) 12 (by unfold vp_in; decide) (by decide) dX3_freeHole_27 ?_
        refine G.ildn1 C dX3_freeHole_28 ?_
        refine G.ialdT0 C (n := 24) (j := 12) (d0 := k) (gN_c (by omega) rfl) (gV_c (by omega) (by omega)) (by first | assumption | exact vp_in_nI (by omega) (by omega) | (unfold vp_in; decide)) (ix_nI (by omega)) dX3_freeHole_29 ?_
        refine G.iconst C (-1) dX3_freeHole_30 (by decide) ?_
        refine G.icmp_ne C 36 dX3_freeHole_31 (by decide) (fun h31 => ?_) (fun h31 => ?_)
        · refine G.iincN1 C dX3_freeHole_36 (by omega) rfl ?_
          refine G.goto C 2 dX3_freeHole_39 (by decide) ?_
          exact G.back (ih (k + 1) (by omega) (by rw [hq0]; simp [tFH, *])) rfl ⟨(by first | rfl | simp), (by first | rfl | simp), trivial⟩
        · refine G.ildn1 C dX3_freeHole_34 ?_
          exact G.iret C hlk hrt dX3_freeHole_35 (by rw [hq0]; simp [tFH, *]) (by exact fun _ h => h)
  exact G.back (L2 24 0 (Nat.zero_add _) rfl) rfl ⟨(by first | rfl | simp), (by first | rfl | simp), trivial⟩
set_option maxRecDepth 100000 in
set_option maxHeartbeats 4000000 in
theorem k_X3_lateIsAsGood (l : Launch) {E : gEn} {σ : gSt} {π : Nat → Nat} {o : Int64} {c0 c1 c2 c9 : cSt} : CtI l yX3_lateIsAsGood wsX3_lateIsAsGood ({ frames := 6, cells := 0, slots := 0, locals := 141 } : Room) E [.ref (E.2.1 9 0)] (gT σ c0 c1 c2 c9) π o (tGood c0) (gT σ c0 (tAll c0 (c0 0 7) 16) c2 c9) π o := by
  refine CtI.of (cc := cX3_lateIsAsGood) (own := RX3) (maxL := 1) (ret := (some .int)) [some (.ref (E.2.1 9 0))] (by decide) rfl rfl (Nat.le_of_ble_eq_true rfl) rfl ?_
  intro p e s m args below meth cd C hrt hlk
  have hinX0 : ∀ w ∈ wsX00, w ∈ wsX3_lateIsAsGood := by decide +kernel
  have hinX2 : ∀ w ∈ wsX20, w ∈ wsX3_lateIsAsGood := by decide +kernel
  have hinX3 : ∀ w ∈ wsX30, w ∈ wsX3_lateIsAsGood := by decide +kernel
  refine G.aldn0 C dX3_lateIsAsGood_0 ?_
  refine G.sipush C 1439 dX3_lateIsAsGood_1 (by decide) ?_
  refine G.callVI1 C (k_X3_sittingIfAllCame l) (cwV 1 C.1.2.2.2.2 gX3_lateIsAsGood_X3_sittingIfAllCame rfl rfl rfl (by decide +kernel) ⟨Nat.le_of_ble_eq_true rfl, Nat.le_of_ble_eq_true rfl⟩) gO_m rfl (Nat.le_of_ble_eq_true rfl) dX3_lateIsAsGood_4 ?_
  refine G.aldn0 C dX3_lateIsAsGood_7 ?_
  refine G.aldn0 C dX3_lateIsAsGood_8 ?_
  refine G.getMT C hinX3 0 (by decide) rfl (C.1.2.2.2.2 (.fieldLink RX3 10 RX3 "now" "LLateDoves$Cote;") (by decide +kernel)) rfl dX3_lateIsAsGood_9 ?_
  refine G.getCT0N C hinX0 7 (by decide) rfl (by simp [gNst, TX0, TX1, TX2]) rfl dX3_lateIsAsGood_12 ?_
  refine G.callVI1 C (k_X3_sittingIfAllCame l) (cwV 1 C.1.2.2.2.2 gX3_lateIsAsGood_X3_sittingIfAllCame rfl rfl rfl (by decide +kernel) ⟨Nat.le_of_ble_eq_true rfl, Nat.le_of_ble_eq_true rfl⟩) gO_m rfl (Nat.le_of_ble_eq_true rfl) dX3_lateIsAsGood_15 ?_
  refine G.icmp_ge C 25 dX3_lateIsAsGood_18 (by decide) (fun h18 => ?_) (fun h18 => ?_)
  · refine G.iconst C 1 dX3_lateIsAsGood_25 (by decide) ?_
    exact G.iret C hlk hrt dX3_lateIsAsGood_26 (by rw [tGood, if_pos h18]) (by exact fun _ h => h)
  · refine G.iconst C 0 dX3_lateIsAsGood_21 (by decide) ?_
    refine G.goto C 26 dX3_lateIsAsGood_22 (by decide) ?_
    exact G.iret C hlk hrt dX3_lateIsAsGood_26 (by rw [tGood, if_neg h18]) (by exact fun _ h => h)
set_option maxRecDepth 100000 in
set_option maxHeartbeats 4000000 in
theorem k_X3_homeShare (l : Launch) {E : gEn} {σ : gSt} {π : Nat → Nat} {o : Int64} {c0 c1 c2 c9 : cSt} : CtD l yX3_homeShare wsX3_homeShare ({ frames := 2, cells := 0, slots := 0, locals := 43 } : Room) E [.ref (E.2.1 9 0)] (gT σ c0 c1 c2 c9) π o (tShare c0) (gT σ c0 c1 c2 c9) π o := by
  refine CtD.of (cc := cX3_homeShare) (own := RX3) (maxL := 2) (ret := (some .double)) [some (.ref (E.2.1 9 0)), none] (by decide) rfl rfl (Nat.le_of_ble_eq_true rfl) rfl ?_
  intro p e s m args below meth cd C hrt hlk
  have hinX0 : ∀ w ∈ wsX00, w ∈ wsX3_homeShare := by decide +kernel
  have hinX3 : ∀ w ∈ wsX30, w ∈ wsX3_homeShare := by decide +kernel
  refine G.aldn0 C dX3_homeShare_0 ?_
  refine G.getMT C hinX3 0 (by decide) rfl (C.1.2.2.2.2 (.fieldLink RX3 10 RX3 "now" "LLateDoves$Cote;") (by decide +kernel)) rfl dX3_homeShare_1 ?_
  refine G.callVI0 C (T0I (k_X0_doveCount l (by omega))) (cwV 0 C.1.2.2.2.2 gX3_homeShare_X0_doveCount rfl rfl rfl (by decide +kernel) ⟨Nat.le_of_ble_eq_true rfl, Nat.le_of_ble_eq_true rfl⟩) (gO_c (by omega)) rfl (Nat.le_of_ble_eq_true rfl) dX3_homeShare_4 ?_
  refine G.istn1 C dX3_homeShare_7 (by omega) rfl ?_
  refine G.ildn1 C dX3_homeShare_8 ?_
  refine G.if_ne C 14 dX3_homeShare_9 (by decide) (fun h9 => ?_) (fun h9 => ?_)
  · refine G.aldn0 C dX3_homeShare_14 ?_
    refine G.getMT C hinX3 0 (by decide) rfl (C.1.2.2.2.2 (.fieldLink RX3 10 RX3 "now" "LLateDoves$Cote;") (by decide +kernel)) rfl dX3_homeShare_15 ?_
    refine G.callVI0 C (T0I (k_X0_inOwnHoles l (by omega))) (cwV 0 C.1.2.2.2.2 gX3_homeShare_X0_inOwnHoles rfl rfl rfl (by decide +kernel) ⟨Nat.le_of_ble_eq_true rfl, Nat.le_of_ble_eq_true rfl⟩) (gO_c (by omega)) rfl (Nat.le_of_ble_eq_true rfl) dX3_homeShare_18 ?_
    refine G.i2d C dX3_homeShare_21 ?_
    refine G.ildn1 C dX3_homeShare_22 ?_
    refine G.i2d C dX3_homeShare_23 ?_
    refine G.ddiv C dX3_homeShare_24 (shr_all _ (Nat.lt_succ_of_le (cnt_le _ 16)) _ (Nat.lt_succ_of_le (cnt_le _ 16)) (fun q => h9 (by unfold cDoves; rw [q]; rfl))).1 ?_
    exact G.dret C hlk hrt dX3_homeShare_25 (by rw [tShare, if_neg h9]) (by exact fun _ h => h)
  · refine G.dconst1 C dX3_homeShare_12 ?_
    exact G.dret C hlk hrt dX3_homeShare_13 (by rw [tShare, if_pos h9]) (by exact fun _ h => h)
