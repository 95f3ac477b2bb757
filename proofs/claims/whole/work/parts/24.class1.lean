/-! the class itself: states by their blocks -/
def gT (σ : gSt) (c0 c1 c2 c9 : cSt) : gSt := gU (gU (gU (gU σ 0 c0) 1 c1) 2 c2) 9 c9
theorem gT0 {σ : gSt} {c0 c1 c2 c9 c : cSt} : gU (gT σ c0 c1 c2 c9) 0 c = gT σ c c1 c2 c9 := by
  unfold gT
  rw [gU_comm _ (show (9 : Nat) ≠ 0 by decide), gU_comm _ (show (2 : Nat) ≠ 0 by decide), gU_comm _ (show (1 : Nat) ≠ 0 by decide), gU_gU]
theorem gT1 {σ : gSt} {c0 c1 c2 c9 c : cSt} : gU (gT σ c0 c1 c2 c9) 1 c = gT σ c0 c c2 c9 := by
  unfold gT
  rw [gU_comm _ (show (9 : Nat) ≠ 1 by decide), gU_comm _ (show (2 : Nat) ≠ 1 by decide), gU_gU]
theorem gT2 {σ : gSt} {c0 c1 c2 c9 c : cSt} : gU (gT σ c0 c1 c2 c9) 2 c = gT σ c0 c1 c c9 := by
  unfold gT
  rw [gU_comm _ (show (9 : Nat) ≠ 2 by decide), gU_gU]
theorem gT9 {σ : gSt} {c0 c1 c2 c9 c : cSt} : gU (gT σ c0 c1 c2 c9) 9 c = gT σ c0 c1 c2 c := gU_gU ..
theorem gT_0 {σ : gSt} {c0 c1 c2 c9 : cSt} : gT σ c0 c1 c2 c9 0 = c0 := rfl
theorem gT_1 {σ : gSt} {c0 c1 c2 c9 : cSt} : gT σ c0 c1 c2 c9 1 = c1 := rfl
theorem gT_2 {σ : gSt} {c0 c1 c2 c9 : cSt} : gT σ c0 c1 c2 c9 2 = c2 := rfl
theorem gT_9 {σ : gSt} {c0 c1 c2 c9 : cSt} : gT σ c0 c1 c2 c9 9 = c9 := rfl
section GT
variable {p : Program} {l : Launch} {e : Env} {R : Room} {s : State} {m : MethodId} {args : Array Value} {below : List Frame} {meth : Method} {c : Code} {Q : State → Prop} {cc : ByteArray} {own : String} {Ts : List Cond} {nL cl sl : Nat} {E : gEn} {A : Nat → Prop} {σ : gSt} {π π' : Nat → Nat} {o o' : Int64} {c0 c1 c2 c9 d : cSt}
theorem T0I {y : MethodName} {ws : List Cond} {rm : Room} {av : List Value} {r : Int32} (h : CtI l y ws rm E av (gU (gT σ c0 c1 c2 c9) 0 c0) π o r (gU (gT σ c0 c1 c2 c9) 0 d) π' o') : CtI l y ws rm E av (gT σ c0 c1 c2 c9) π o r (gT σ d c1 c2 c9) π' o' := by rwa [gT0, gT0] at h
theorem T0L {y : MethodName} {ws : List Cond} {rm : Room} {av : List Value} {r : Int64} (h : CtL l y ws rm E av (gU (gT σ c0 c1 c2 c9) 0 c0) π o r (gU (gT σ c0 c1 c2 c9) 0 d) π' o') : CtL l y ws rm E av (gT σ c0 c1 c2 c9) π o r (gT σ d c1 c2 c9) π' o' := by rwa [gT0, gT0] at h
theorem T0D {y : MethodName} {ws : List Cond} {rm : Room} {av : List Value} {r : UInt64} (h : CtD l y ws rm E av (gU (gT σ c0 c1 c2 c9) 0 c0) π o r (gU (gT σ c0 c1 c2 c9) 0 d) π' o') : CtD l y ws rm E av (gT σ c0 c1 c2 c9) π o r (gT σ d c1 c2 c9) π' o' := by rwa [gT0, gT0] at h
theorem T0V {y : MethodName} {ws : List Cond} {rm : Room} {av : List Value} (h : CtV l y ws rm E av (gU (gT σ c0 c1 c2 c9) 0 c0) π o (gU (gT σ c0 c1 c2 c9) 0 d) π' o') : CtV l y ws rm E av (gT σ c0 c1 c2 c9) π o (gT σ d c1 c2 c9) π' o' := by rwa [gT0, gT0] at h
theorem T1I {y : MethodName} {ws : List Cond} {rm : Room} {av : List Value} {r : Int32} (h : CtI l y ws rm E av (gU (gT σ c0 c1 c2 c9) 1 c1) π o r (gU (gT σ c0 c1 c2 c9) 1 d) π' o') : CtI l y ws rm E av (gT σ c0 c1 c2 c9) π o r (gT σ c0 d c2 c9) π' o' := by rwa [gT1, gT1] at h
theorem T1L {y : MethodName} {ws : List Cond} {rm : Room} {av : List Value} {r : Int64} (h : CtL l y ws rm E av (gU (gT σ c0 c1 c2 c9) 1 c1) π o r (gU (gT σ c0 c1 c2 c9) 1 d) π' o') : CtL l y ws rm E av (gT σ c0 c1 c2 c9) π o r (gT σ c0 d c2 c9) π' o' := by rwa [gT1, gT1] at h
theorem T1D {y : MethodName} {ws : List Cond} {rm : Room} {av : List Value} {r : UInt64} (h : CtD l y ws rm E av (gU (gT σ c0 c1 c2 c9) 1 c1) π o r (gU (gT σ c0 c1 c2 c9) 1 d) π' o') : CtD l y ws rm E av (gT σ c0 c1 c2 c9) π o r (gT σ c0 d c2 c9) π' o' := by rwa [gT1, gT1] at h
theorem T1V {y : MethodName} {ws : List Cond} {rm : Room} {av : List Value} (h : CtV l y ws rm E av (gU (gT σ c0 c1 c2 c9) 1 c1) π o (gU (gT σ c0 c1 c2 c9) 1 d) π' o') : CtV l y ws rm E av (gT σ c0 c1 c2 c9) π o (gT σ c0 d c2 c9) π' o' := by rwa [gT1, gT1] at h
theorem T2I {y : MethodName} {ws : List Cond} {rm : Room} {av : List Value} {r : Int32} (h : CtI l y ws rm E av (gU (gT σ c0 c1 c2 c9) 2 c2) π o r (gU (gT σ c0 c1 c2 c9) 2 d) π' o') : CtI l y ws rm E av (gT σ c0 c1 c2 c9) π o r (gT σ c0 c1 d c9) π' o' := by rwa [gT2, gT2] at h
theorem T2L {y : MethodName} {ws : List Cond} {rm : Room} {av : List Value} {r : Int64} (h : CtL l y ws rm E av (gU (gT σ c0 c1 c2 c9) 2 c2) π o r (gU (gT σ c0 c1 c2 c9) 2 d) π' o') : CtL l y ws rm E av (gT σ c0 c1 c2 c9) π o r (gT σ c0 c1 d c9) π' o' := by rwa [gT2, gT2] at h
theorem T2D {y : MethodName} {ws : List Cond} {rm : Room} {av : List Value} {r : UInt64} (h : CtD l y ws rm E av (gU (gT σ c0 c1 c2 c9) 2 c2) π o r (gU (gT σ c0 c1 c2 c9) 2 d) π' o') : CtD l y ws rm E av (gT σ c0 c1 c2 c9) π o r (gT σ c0 c1 d c9) π' o' := by rwa [gT2, gT2] at h
theorem T2V {y : MethodName} {ws : List Cond} {rm : Room} {av : List Value} (h : CtV l y ws rm E av (gU (gT σ c0 c1 c2 c9) 2 c2) π o (gU (gT σ c0 c1 c2 c9) 2 d) π' o') : CtV l y ws rm E av (gT σ c0 c1 c2 c9) π o (gT σ c0 c1 d c9) π' o' := by rwa [gT2, gT2] at h
theorem T9I {y : MethodName} {ws : List Cond} {rm : Room} {av : List Value} {r : Int32} (h : CtI l y ws rm E av (gU (gT σ c0 c1 c2 c9) 9 c9) π o r (gU (gT σ c0 c1 c2 c9) 9 d) π' o') : CtI l y ws rm E av (gT σ c0 c1 c2 c9) π o r (gT σ c0 c1 c2 d) π' o' := by rwa [gT9, gT9] at h
theorem T9L {y : MethodName} {ws : List Cond} {rm : Room} {av : List Value} {r : Int64} (h : CtL l y ws rm E av (gU (gT σ c0 c1 c2 c9) 9 c9) π o r (gU (gT σ c0 c1 c2 c9) 9 d) π' o') : CtL l y ws rm E av (gT σ c0 c1 c2 c9) π o r (gT σ c0 c1 c2 d) π' o' := by rwa [gT9, gT9] at h
theorem T9D {y : MethodName} {ws : List Cond} {rm : Room} {av : List Value} {r : UInt64} (h : CtD l y ws rm E av (gU (gT σ c0 c1 c2 c9) 9 c9) π o r (gU (gT σ c0 c1 c2 c9) 9 d) π' o') : CtD l y ws rm E av (gT σ c0 c1 c2 c9) π o r (gT σ c0 c1 c2 d) π' o' := by rwa [gT9, gT9] at h
theorem T9V {y : MethodName} {ws : List Cond} {rm : Room} {av : List Value} (h : CtV l y ws rm E av (gU (gT σ c0 c1 c2 c9) 9 c9) π o (gU (gT σ c0 c1 c2 c9) 9 d) π' o') : CtV l y ws rm E av (gT σ c0 c1 c2 c9) π o (gT σ c0 c1 c2 d) π' o' := by rwa [gT9, gT9] at h
theorem G.getCT0N (C : gCx p s m c cc nL own Ts args E A R cl sl) {pc : Nat} {lv : List (Option Value)} {st : List Value} {index : Nat} {v : Value} (hin : ∀ w ∈ u_ws RX0 TX0 10, w ∈ Ts) (k : Nat) (hk : k < 10) (hr : (TX0 k).1 = RX0) (hlink : (Cond.fieldLinkNest own index RX0 (TX0 k).2.1 (TX0 k).2.2.1 RX3) ∈ gNst) (hf : (gFc E c0 0)[k]? = some v) (hd : decode cc pc = .ok (.getfield index, 3)) (kk : G p l e R s m args below meth c nL cl sl A Q E (gT σ c0 c1 c2 c9) π o (pc + 3) lv (v :: st)) : G p l e R s m args below meth c nL cl sl A Q E (gT σ c0 c1 c2 c9) π o pc lv (.ref (E.2.1 0 0) :: st) := G.getCsN C (by omega) hin k hk hr hlink hf hd kk
theorem G.getWT0N (C : gCx p s m c cc nL own Ts args E A R cl sl) {pc : Nat} {lv : List (Option Value)} {st : List Value} {index : Nat} {v : Value} (hin : ∀ w ∈ u_ws RX2 TX2 3, w ∈ Ts) (k : Nat) (hk : k < 3) (hr : (TX2 k).1 = RX2) (hlink : (Cond.fieldLinkNest own index RX2 (TX2 k).2.1 (TX2 k).2.2.1 RX3) ∈ gNst) (hf : (gFw E c0 0)[k]? = some v) (hd : decode cc pc = .ok (.getfield index, 3)) (kk : G p l e R s m args below meth c nL cl sl A Q E (gT σ c0 c1 c2 c9) π o (pc + 3) lv (v :: st)) : G p l e R s m args below meth c nL cl sl A Q E (gT σ c0 c1 c2 c9) π o pc lv (.ref (E.2.1 0 17) :: st) := G.getWsN C (by omega) hin k hk hr hlink hf hd kk
theorem G.getCT1N (C : gCx p s m c cc nL own Ts args E A R cl sl) {pc : Nat} {lv : List (Option Value)} {st : List Value} {index : Nat} {v : Value} (hin : ∀ w ∈ u_ws RX0 TX0 10, w ∈ Ts) (k : Nat) (hk : k < 10) (hr : (TX0 k).1 = RX0) (hlink : (Cond.fieldLinkNest own index RX0 (TX0 k).2.1 (TX0 k).2.2.1 RX3) ∈ gNst) (hf : (gFc E c1 1)[k]? = some v) (hd : decode cc pc = .ok (.getfield index, 3)) (kk : G p l e R s m args below meth c nL cl sl A Q E (gT σ c0 c1 c2 c9) π o (pc + 3) lv (v :: st)) : G p l e R s m args below meth c nL cl sl A Q E (gT σ c0 c1 c2 c9) π o pc lv (.ref (E.2.1 1 0) :: st) := G.getCsN C (by omega) hin k hk hr hlink hf hd kk
theorem G.getWT1N (C : gCx p s m c cc nL own Ts args E A R cl sl) {pc : Nat} {lv : List (Option Value)} {st : List Value} {index : Nat} {v : Value} (hin : ∀ w ∈ u_ws RX2 TX2 3, w ∈ Ts) (k : Nat) (hk : k < 3) (hr : (TX2 k).1 = RX2) (hlink : (Cond.fieldLinkNest own index RX2 (TX2 k).2.1 (TX2 k).2.2.1 RX3) ∈ gNst) (hf : (gFw E c1 1)[k]? = some v) (hd : decode cc pc = .ok (.getfield index, 3)) (kk : G p l e R s m args below meth c nL cl sl A Q E (gT σ c0 c1 c2 c9) π o (pc + 3) lv (v :: st)) : G p l e R s m args below meth c nL cl sl A Q E (gT σ c0 c1 c2 c9) π o pc lv (.ref (E.2.1 1 17) :: st) := G.getWsN C (by omega) hin k hk hr hlink hf hd kk
theorem G.getCT2N (C : gCx p s m c cc nL own Ts args E A R cl sl) {pc : Nat} {lv : List (Option Value)} {st : List Value} {index : Nat} {v : Value} (hin : ∀ w ∈ u_ws RX0 TX0 10, w ∈ Ts) (k : Nat) (hk : k < 10) (hr : (TX0 k).1 = RX0) (hlink : (Cond.fieldLinkNest own index RX0 (TX0 k).2.1 (TX0 k).2.2.1 RX3) ∈ gNst) (hf : (gFc E c2 2)[k]? = some v) (hd : decode cc pc = .ok (.getfield index, 3)) (kk : G p l e R s m args below meth c nL cl sl A Q E (gT σ c0 c1 c2 c9) π o (pc + 3) lv (v :: st)) : G p l e R s m args below meth c nL cl sl A Q E (gT σ c0 c1 c2 c9) π o pc lv (.ref (E.2.1 2 0) :: st) := G.getCsN C (by omega) hin k hk hr hlink hf hd kk
theorem G.getWT2N (C : gCx p s m c cc nL own Ts args E A R cl sl) {pc : Nat} {lv : List (Option Value)} {st : List Value} {index : Nat} {v : Value} (hin : ∀ w ∈ u_ws RX2 TX2 3, w ∈ Ts) (k : Nat) (hk : k < 3) (hr : (TX2 k).1 = RX2) (hlink : (Cond.fieldLinkNest own index RX2 (TX2 k).2.1 (TX2 k).2.2.1 RX3) ∈ gNst) (hf : (gFw E c2 2)[k]? = some v) (hd : decode cc pc = .ok (.getfield index, 3)) (kk : G p l e R s m args below meth c nL cl sl A Q E (gT σ c0 c1 c2 c9) π o (pc + 3) lv (v :: st)) : G p l e R s m args below meth c nL cl sl A Q E (gT σ c0 c1 c2 c9) π o pc lv (.ref (E.2.1 2 17) :: st) := G.getWsN C (by omega) hin k hk hr hlink hf hd kk
theorem G.getMT (C : gCx p s m c cc nL own Ts args E A R cl sl) {pc : Nat} {lv : List (Option Value)} {st : List Value} {index : Nat} {v : Value} (hin : ∀ w ∈ u_ws RX3 TX3 9, w ∈ Ts) (k : Nat) (hk : k < 9) (hr : (TX3 k).1 = RX3) (hlink : (Cond.fieldLink own index RX3 (TX3 k).2.1 (TX3 k).2.2.1).before args s = true) (hf : (gFm E c9)[k]? = some v) (hd : decode cc pc = .ok (.getfield index, 3)) (kk : G p l e R s m args below meth c nL cl sl A Q E (gT σ c0 c1 c2 c9) π o (pc + 3) lv (v :: st)) : G p l e R s m args below meth c nL cl sl A Q E (gT σ c0 c1 c2 c9) π o pc lv (.ref (E.2.1 9 0) :: st) := G.getMs C hin k hk hr hlink hf hd kk
theorem G.getRTN (C : gCx p s m c cc nL own Ts args E A R cl sl) {pc : Nat} {lv : List (Option Value)} {st : List Value} {index : Nat} {v : Value} (hin : ∀ w ∈ u_ws RX1 TX1 4, w ∈ Ts) (k : Nat) (hk : k < 4) (hr : (TX1 k).1 = RX1) (hlink : (Cond.fieldLinkNest own index RX1 (TX1 k).2.1 (TX1 k).2.2.1 RX3) ∈ gNst) (hf : (gFr c9)[k]? = some v) (hd : decode cc pc = .ok (.getfield index, 3)) (kk : G p l e R s m args below meth c nL cl sl A Q E (gT σ c0 c1 c2 c9) π o (pc + 3) lv (v :: st)) : G p l e R s m args below meth c nL cl sl A Q E (gT σ c0 c1 c2 c9) π o pc lv (.ref (E.2.1 9 3) :: st) := G.getRsN C hin k hk hr hlink hf hd kk
theorem G.ialdT0 (C : gCx p s m c cc nL own Ts args E A R cl sl) {pc : Nat} {lv : List (Option Value)} {st : List Value} {j n d0 : Nat} {x : Int32} (hn : gN 0 j = some n) (hv : gV 0 j) (hx : vp_in x n) (hk : ix x = d0) (hd : decode cc pc = .ok (.iaload, 1)) (k : G p l e R s m args below meth c nL cl sl A Q E (gT σ c0 c1 c2 c9) π o (pc + 1) lv (.int (c0 j d0) :: st)) : G p l e R s m args below meth c nL cl sl A Q E (gT σ c0 c1 c2 c9) π o pc lv (.int x :: .ref (E.2.1 0 j) :: st) := G.iald C hn hv hx hk hd k
theorem G.iastT0 (C : gCx p s m c cc nL own Ts args E A R cl sl) {pc : Nat} {lv : List (Option Value)} {st : List Value} {j n d0 : Nat} {x y : Int32} (hn : gN 0 j = some n) (hv : gV 0 j) (hx : vp_in x n) (hk : ix x = d0) (hd : decode cc pc = .ok (.iastore, 1)) (k : G p l e R s m args below meth c nL cl sl A Q E (gT σ (cW c0 j d0 y) c1 c2 c9) π o (pc + 1) lv st) : G p l e R s m args below meth c nL cl sl A Q E (gT σ c0 c1 c2 c9) π o pc lv (.int y :: .int x :: .ref (E.2.1 0 j) :: st) := G.iast C hn hv hx hk hd (by rw [gT0]; exact k)
theorem G.ialdT1 (C : gCx p s m c cc nL own Ts args E A R cl sl) {pc : Nat} {lv : List (Option Value)} {st : List Value} {j n d0 : Nat} {x : Int32} (hn : gN 1 j = some n) (hv : gV 1 j) (hx : vp_in x n) (hk : ix x = d0) (hd : decode cc pc = .ok (.iaload, 1)) (k : G p l e R s m args below meth c nL cl sl A Q E (gT σ c0 c1 c2 c9) π o (pc + 1) lv (.int (c1 j d0) :: st)) : G p l e R s m args below meth c nL cl sl A Q E (gT σ c0 c1 c2 c9) π o pc lv (.int x :: .ref (E.2.1 1 j) :: st) := G.iald C hn hv hx hk hd k
theorem G.ialdT2 (C : gCx p s m c cc nL own Ts args E A R cl sl) {pc : Nat} {lv : List (Option Value)} {st : List Value} {j n d0 : Nat} {x : Int32} (hn : gN 2 j = some n) (hv : gV 2 j) (hx : vp_in x n) (hk : ix x = d0) (hd : decode cc pc = .ok (.iaload, 1)) (k : G p l e R s m args below meth c nL cl sl A Q E (gT σ c0 c1 c2 c9) π o (pc + 1) lv (.int (c2 j d0) :: st)) : G p l e R s m args below meth c nL cl sl A Q E (gT σ c0 c1 c2 c9) π o pc lv (.int x :: .ref (E.2.1 2 j) :: st) := G.iald C hn hv hx hk hd k
theorem G.ialdT9 (C : gCx p s m c cc nL own Ts args E A R cl sl) {pc : Nat} {lv : List (Option Value)} {st : List Value} {j n d0 : Nat} {x : Int32} (hn : gN 9 j = some n) (hv : gV 9 j) (hx : vp_in x n) (hk : ix x = d0) (hd : decode cc pc = .ok (.iaload, 1)) (k : G p l e R s m args below meth c nL cl sl A Q E (gT σ c0 c1 c2 c9) π o (pc + 1) lv (.int (c9 j d0) :: st)) : G p l e R s m args below meth c nL cl sl A Q E (gT σ c0 c1 c2 c9) π o pc lv (.int x :: .ref (E.2.1 9 j) :: st) := G.iald C hn hv hx hk hd k
theorem G.iastT9 (C : gCx p s m c cc nL own Ts args E A R cl sl) {pc : Nat} {lv : List (Option Value)} {st : List Value} {j n d0 : Nat} {x y : Int32} (hn : gN 9 j = some n) (hv : gV 9 j) (hx : vp_in x n) (hk : ix x = d0) (hd : decode cc pc = .ok (.iastore, 1)) (k : G p l e R s m args below meth c nL cl sl A Q E (gT σ c0 c1 c2 (cW c9 j d0 y)) π o (pc + 1) lv st) : G p l e R s m args below meth c nL cl sl A Q E (gT σ c0 c1 c2 c9) π o pc lv (.int y :: .int x :: .ref (E.2.1 9 j) :: st) := G.iast C hn hv hx hk hd (by rw [gT9]; exact k)
theorem G.putMT (C : gCx p s m c cc nL own Ts args E A R cl sl) {pc : Nat} {lv : List (Option Value)} {st : List Value} {index : Nat} {x : Int32} {ty : FieldType} (hin : ∀ w ∈ u_ws RX3 TX3 9, w ∈ Ts) (k : Nat) (hk : k < 9) (hr : (TX3 k).1 = RX3) (hlink : (Cond.fieldLink own index RX3 (TX3 k).2.1 (TX3 k).2.2.1).before args s = true) (hfin : (TX3 k).2.2.2 = false) (hty : parseFieldDescriptor (TX3 k).2.2.1 = some ty) (hn : narrow ty (.int x) = .int x) (hfit : fits ty (.int x) = true) (hfs : gFm E (cW c9 0 k x) = (gFm E c9).set k (.int x)) (hd : decode cc pc = .ok (.putfield index, 3)) (kk : G p l e R s m args below meth c nL cl sl A Q E (gT σ c0 c1 c2 (cW c9 0 k x)) π o (pc + 3) lv st) : G p l e R s m args below meth c nL cl sl A Q E (gT σ c0 c1 c2 c9) π o pc lv (.int x :: .ref (E.2.1 9 0) :: st) := G.putMs C hin k hk hr hlink hfin hty hn hfit hfs hd (by rw [gT9]; exact kk)
end GT
/-! the class: its own helpers -/
def tPH (c : cSt) (x y : Int32) : Int32 × cSt := if cEx c x = true then (if cWhyHome c x y = 0 then (cWhyHome c x y, cCome c x y) else (cWhyHome c x y, c)) else (10, c)
def tPB (c : cSt) (x y : Int32) : Int32 × cSt := if cWhyBuy c x = 0 then (cWhyBuy c x, (cAdd c x y).2) else (cWhyBuy c x, c)
def tPM (c : cSt) (x y : Int32) : Int32 × cSt := if cEx c x = true then (if cEx c y = true then (if cWhyPair c x y = 0 then (cWhyPair c x y, cPair c x y) else (cWhyPair c x y, c)) else (10, c)) else (10, c)
def tPS (c : cSt) (x : Int32) : Int32 × cSt := if cWhyShut c x = 0 then (cWhyShut c x, cW c 13 (ix x) 0) else (cWhyShut c x, c)
def tPP (c c9 : cSt) : Int32 × cSt := if c9 3 1 = 98 then tPB c (c9 3 2) (c9 3 3) else if c9 3 1 = 104 then tPH c (c9 3 2) (c9 3 3) else if c9 3 1 = 109 then tPM c (c9 3 2) (c9 3 3) else if c9 3 1 = 111 then (if hHole (c9 3 2) = true then (0, cW c 13 (ix (c9 3 2)) 1) else (0, c)) else if c9 3 1 = 120 then tPS c (c9 3 2) else (0, cNight c)
def tTry (c0 c1 : cSt) (x t : Int32) : Bool × cSt := if cWhyHome c0 x t = 0 then (true, cCome c0 x t) else (false, c1)
def tTN (c0 c1 : cSt) (x w : Int32) : Int32 := if w = 0 then c1 4 (ix x) else if w = 1 then c1 0 8 - c0 0 8 else cAt c1 24 - cAt c0 24
def tAll (c : cSt) (t : Int32) : Nat → cSt
  | 0 => c
  | k + 1 => if cEx (tAll c t k) (nI k) = true then (if tAll c t k 4 k = -1 then cCome (tAll c t k) (nI k) t else tAll c t k) else tAll c t k
def tFH (c : cSt) : Nat → Nat → Int32
  | 0, _ => -1
  | n + 1, k => if cOpen c (nI k) = true then (if c 12 k = -1 then nI k else tFH c n (k + 1)) else tFH c n (k + 1)
def tGood (c : cSt) : Int32 := if cSitD (tAll c (c 0 7) 16) ≤ cSitD (tAll c 1439 16) then 1 else 0
def tShare (c : cSt) : UInt64 := if cDoves c = 0 then FP.dconst1 else FP.ddiv (FP.i2d (cHome c)) (FP.i2d (cDoves c))
def tMD (c0 c1 : cSt) (e : Int64) (x : Int32) : Int64 := dgF (fun w => if (tTry c0 c1 x 1439).1 = true then tTN c0 (tTry c0 c1 x 1439).2 x (nI w) else -1) 3 (31 * dgF (fun v => c0 (2 + v) (ix x)) 8 (31 * e + x.toInt64) + (cWhyHome c0 x 1439).toInt64)
def tMW (c : cSt) : Nat → Int64 → Int64
  | 0, e => e
  | k + 1, e => 31 * (31 * tMW c k e + (c 18 k).toInt64) + (c 19 k).toInt64
theorem tMW_0 {c : cSt} {e : Int64} : tMW c 0 e = e := rfl
theorem tMW_s {c : cSt} {n : Nat} {e : Int64} : tMW c (n + 1) e = 31 * (31 * tMW c n e + (c 18 n).toInt64) + (c 19 n).toInt64 := rfl
set_option maxRecDepth 100000 in
set_option maxHeartbeats 4000000 in
theorem k_X3_mix (l : Launch) {E : gEn} {σ : gSt} {π : Nat → Nat} {o : Int64} {x y : Int64} : CtL l yX3_mix wsX3_mix ({ frames := 0, cells := 0, slots := 0, locals := 0 } : Room) E [.long x, .long y] σ π o (31 * x + y) σ π o := by
  refine CtL.of (cc := cX3_mix) (own := RX3) (maxL := 4) (ret := (some .long)) [some (.long x), none, some (.long y), none] (by decide) rfl rfl (Nat.le_of_ble_eq_true rfl) rfl ?_
  intro p e s m args below meth cd C hrt hlk
  refine G.ldc2 C (v := 31) (C.1.2.2.2.2 (.constantLong RX3 299 31) (by decide +kernel)) dX3_mix_0 ?_
  refine G.lldn0 C dX3_mix_3 ?_
  refine G.lmul C dX3_mix_4 ?_
  refine G.lldn2 C dX3_mix_5 ?_
  refine G.ladd C dX3_mix_6 ?_
  exact G.lret C hlk hrt dX3_mix_7 (by rfl) (by exact fun _ h => h)
set_option maxRecDepth 100000 in
set_option maxHeartbeats 4000000 in
theorem k_X3_playHome (l : Launch) {E : gEn} {σ : gSt} {π : Nat → Nat} {o : Int64} {c0 c1 c2 c9 : cSt} {x y : Int32} : CtI l yX3_playHome wsX3_playHome ({ frames := 5, cells := 0, slots := 0, locals := 119 } : Room) E [.ref (E.2.1 9 0), .int x, .int y] (gT σ c0 c1 c2 c9) π o ((tPH c0 x y).1) (gT σ (tPH c0 x y).2 c1 c2 c9) π o := by
  refine CtI.of (cc := cX3_playHome) (own := RX3) (maxL := 4) (ret := (some .int)) [some (.ref (E.2.1 9 0)), some (.int x), some (.int y), none] (by decide) rfl rfl (Nat.le_of_ble_eq_true rfl) rfl ?_
  intro p e s m args below meth cd C hrt hlk
  have hinX0 : ∀ w ∈ wsX00, w ∈ wsX3_playHome := by decide +kernel
  have hinX2 : ∀ w ∈ wsX20, w ∈ wsX3_playHome := by decide +kernel
  have hinX3 : ∀ w ∈ wsX30, w ∈ wsX3_playHome := by decide +kernel
  refine G.aldn0 C dX3_playHome_0 ?_
  refine G.getMT C hinX3 0 (by decide) rfl (C.1.2.2.2.2 (.fieldLink RX3 10 RX3 "now" "LLateDoves$Cote;") (by decide +kernel)) rfl dX3_playHome_1 ?_
  refine G.ildn1 C dX3_playHome_4 ?_
  refine G.callVI1 C (T0I (k_X0_exists l (by omega))) (cwV 1 C.1.2.2.2.2 gX3_playHome_X0_exists rfl rfl rfl (by decide +kernel) ⟨Nat.le_of_ble_eq_true rfl, Nat.le_of_ble_eq_true rfl⟩) (gO_c (by omega)) rfl (Nat.le_of_ble_eq_true rfl) dX3_playHome_5 ?_
  refine G.if_neB C 14 dX3_playHome_8 (by decide) (fun h8 => ?_) (fun h8 => ?_)
  · refine G.aldn0 C dX3_playHome_14 ?_
    refine G.getMT C hinX3 0 (by decide) rfl (C.1.2.2.2.2 (.fieldLink RX3 10 RX3 "now" "LLateDoves$Cote;") (by decide +kernel)) rfl dX3_playHome_15 ?_
    refine G.ildn1 C dX3_playHome_18 ?_
    refine G.ildn2 C dX3_playHome_19 ?_
    refine G.callVI2 C (T0I (k_X0_reasonNotHome l (by omega) (cEx_in h8))) (cwV 2 C.1.2.2.2.2 gX3_playHome_X0_reasonNotHome rfl rfl rfl (by decide +kernel) ⟨Nat.le_of_ble_eq_true rfl, Nat.le_of_ble_eq_true rfl⟩) (gO_c (by omega)) rfl (Nat.le_of_ble_eq_true rfl) dX3_playHome_20 ?_
    refine G.istn3 C dX3_playHome_23 (by omega) rfl ?_
    refine G.ildn3 C dX3_playHome_24 ?_
    refine G.if_ne C 38 dX3_playHome_25 (by decide) (fun h25 => ?_) (fun h25 => ?_)
    · refine G.ildn3 C dX3_playHome_38 ?_
      exact G.iret C hlk hrt dX3_playHome_39 (by rw [tPH, if_pos h8, if_neg h25] <;> rfl) (by intro H h; rw [tPH, if_pos h8, if_neg h25]; exact h)
    · refine G.aldn0 C dX3_playHome_28 ?_
      refine G.getMT C hinX3 0 (by decide) rfl (C.1.2.2.2.2 (.fieldLink RX3 10 RX3 "now" "LLateDoves$Cote;") (by decide +kernel)) rfl dX3_playHome_29 ?_
      refine G.ildn1 C dX3_playHome_32 ?_
      refine G.ildn2 C dX3_playHome_33 ?_
      refine G.callVI2 C (T0I (k_X0_comeHome l (by omega) (cEx_in h8))) (cwV 2 C.1.2.2.2.2 gX3_playHome_X0_comeHome rfl rfl rfl (by decide +kernel) ⟨Nat.le_of_ble_eq_true rfl, Nat.le_of_ble_eq_true rfl⟩) (gO_c (by omega)) rfl (Nat.le_of_ble_eq_true rfl) dX3_playHome_34 ?_
      refine G.pop C dX3_playHome_37 rfl ?_
      refine G.ildn3 C dX3_playHome_38 ?_
      exact G.iret C hlk hrt dX3_playHome_39 (by rw [tPH, if_pos h8, if_pos h25] <;> rfl) (by intro H h; rw [tPH, if_pos h8, if_pos h25]; exact h)
  · refine G.bipush C 10 dX3_playHome_11 (by decide) ?_
    exact G.iret C hlk hrt dX3_playHome_13 (by rw [tPH, if_neg (by rw [h8]; decide)] <;> rfl) (by intro H h; rw [tPH, if_neg (by rw [h8]; decide)]; exact h)
set_option maxRecDepth 100000 in
set_option maxHeartbeats 4000000 in
theorem k_X3_playBuy (l : Launch) {E : gEn} {σ : gSt} {π : Nat → Nat} {o : Int64} {c0 c1 c2 c9 : cSt} {x y : Int32} (hx : vp_in x 24) : CtI l yX3_playBuy wsX3_playBuy ({ frames := 3, cells := 0, slots := 0, locals := 64 } : Room) E [.ref (E.2.1 9 0), .int x, .int y] (gT σ c0 c1 c2 c9) π o ((tPB c0 x y).1) (gT σ (tPB c0 x y).2 c1 c2 c9) π o := by
  refine CtI.of (cc := cX3_playBuy) (own := RX3) (maxL := 4) (ret := (some .int)) [some (.ref (E.2.1 9 0)), some (.int x), some (.int y), none] (by decide) rfl rfl (Nat.le_of_ble_eq_true rfl) rfl ?_
  intro p e s m args below meth cd C hrt hlk
  have hinX0 : ∀ w ∈ wsX00, w ∈ wsX3_playBuy := by decide +kernel
  have hinX3 : ∀ w ∈ wsX30, w ∈ wsX3_playBuy := by decide +kernel
  refine G.aldn0 C dX3_playBuy_0 ?_
  refine G.getMT C hinX3 0 (by decide) rfl (C.1.2.2.2.2 (.fieldLink RX3 10 RX3 "now" "LLateDoves$Cote;") (by decide +kernel)) rfl dX3_playBuy_1 ?_
  refine G.ildn1 C dX3_playBuy_4 ?_
  refine G.callVI1 C (T0I (k_X0_reasonNotToBuy l (by omega) hx)) (cwV 1 C.1.2.2.2.2 gX3_playBuy_X0_reasonNotToBuy rfl rfl rfl (by decide +kernel) ⟨Nat.le_of_ble_eq_true rfl, Nat.le_of_ble_eq_true rfl⟩) (gO_c (by omega)) rfl (Nat.le_of_ble_eq_true rfl) dX3_playBuy_5 ?_
  refine G.istn3 C dX3_playBuy_8 (by omega) rfl ?_
  refine G.ildn3 C dX3_playBuy_9 ?_
  refine G.if_ne C 23 dX3_playBuy_10 (by decide) (fun h10 => ?_) (fun h10 => ?_)
  · refine G.ildn3 C dX3_playBuy_23 ?_
    exact G.iret C hlk hrt dX3_playBuy_24 (by rw [tPB, if_neg h10] <;> rfl) (by intro H h; rw [tPB, if_neg h10]; exact h)
  · refine G.aldn0 C dX3_playBuy_13 ?_
    refine G.getMT C hinX3 0 (by decide) rfl (C.1.2.2.2.2 (.fieldLink RX3 10 RX3 "now" "LLateDoves$Cote;") (by decide +kernel)) rfl dX3_playBuy_14 ?_
    refine G.ildn1 C dX3_playBuy_17 ?_
    refine G.ildn2 C dX3_playBuy_18 ?_
    refine G.callVI2 C (T0I (k_X0_addDove l (by omega) hx)) (cwV 2 C.1.2.2.2.2 gX3_playBuy_X0_addDove rfl rfl rfl (by decide +kernel) ⟨Nat.le_of_ble_eq_true rfl, Nat.le_of_ble_eq_true rfl⟩) (gO_c (by omega)) rfl (Nat.le_of_ble_eq_true rfl) dX3_playBuy_19 ?_
    refine G.pop C dX3_playBuy_22 rfl ?_
    refine G.ildn3 C dX3_playBuy_23 ?_
    exact G.iret C hlk hrt dX3_playBuy_24 (by rw [tPB, if_pos h10] <;> rfl) (by intro H h; rw [tPB, if_pos h10]; exact h)
set_option maxRecDepth 100000 in
set_option maxHeartbeats 4000000 in
theorem k_X3_playMate (l : Launch) {E : gEn} {σ : gSt} {π : Nat → Nat} {o : Int64} {c0 c1 c2 c9 : cSt} {x y : Int32} : CtI l yX3_playMate wsX3_playMate ({ frames := 1, cells := 0, slots := 0, locals := 23 } : Room) E [.ref (E.2.1 9 0), .int x, .int y] (gT σ c0 c1 c2 c9) π o ((tPM c0 x y).1) (gT σ (tPM c0 x y).2 c1 c2 c9) π o := by
  refine CtI.of (cc := cX3_playMate) (own := RX3) (maxL := 4) (ret := (some .int)) [some (.ref (E.2.1 9 0)), some (.int x), some (.int y), none] (by decide) rfl rfl (Nat.le_of_ble_eq_true rfl) rfl ?_
  intro p e s m args below meth cd C hrt hlk
  have hinX0 : ∀ w ∈ wsX00, w ∈ wsX3_playMate := by decide +kernel
  have hinX3 : ∀ w ∈ wsX30, w ∈ wsX3_playMate := by decide +kernel
  refine G.aldn0 C dX3_playMate_0 ?_
  refine G.getMT C hinX3 0 (by decide) rfl (C.1.2.2.2.2 (.fieldLink RX3 10 RX3 "now" "LLateDoves$Cote;") (by decide +kernel)) rfl dX3_playMate_1 ?_
  refine G.ildn1 C dX3_playMate_4 ?_
  refine G.callVI1 C (T0I (k_X0_exists l (by omega))) (cwV 1 C.1.2.2.2.2 gX3_playMate_X0_exists rfl rfl rfl (by decide +kernel) ⟨Nat.le_of_ble_eq_true rfl, Nat.le_of_ble_eq_true rfl⟩) (gO_c (by omega)) rfl (Nat.le_of_ble_eq_true rfl) dX3_playMate_5 ?_
  refine G.if_eqB C 22 dX3_playMate_8 (by decide) (fun h8 => ?_) (fun h8 => ?_)
  · refine G.bipush C 10 dX3_playMate_22 (by decide) ?_
    exact G.iret C hlk hrt dX3_playMate_24 (by rw [tPM, if_neg (by rw [h8]; decide)] <;> rfl) (by intro H h; rw [tPM, if_neg (by rw [h8]; decide)]; exact h)
  · refine G.aldn0 C dX3_playMate_11 ?_
    refine G.getMT C hinX3 0 (by decide) rfl (C.1.2.2.2.2 (.fieldLink RX3 10 RX3 "now" "LLateDoves$Cote;") (by decide +kernel)) rfl dX3_playMate_12 ?_
    refine G.ildn2 C dX3_playMate_15 ?_
    refine G.callVI1 C (T0I (k_X0_exists l (by omega))) (cwV 1 C.1.2.2.2.2 gX3_playMate_X0_exists rfl rfl rfl (by decide +kernel) ⟨Nat.le_of_ble_eq_true rfl, Nat.le_of_ble_eq_true rfl⟩) (gO_c (by omega)) rfl (Nat.le_of_ble_eq_true rfl) dX3_playMate_16 ?_
    refine G.if_neB C 25 dX3_playMate_19 (by decide) (fun h19 => ?_) (fun h19 => ?_)
    · refine G.aldn0 C dX3_playMate_25 ?_
      refine G.getMT C hinX3 0 (by decide) rfl (C.1.2.2.2.2 (.fieldLink RX3 10 RX3 "now" "LLateDoves$Cote;") (by decide +kernel)) rfl dX3_playMate_26 ?_
      refine G.ildn1 C dX3_playMate_29 ?_
      refine G.ildn2 C dX3_playMate_30 ?_
      refine G.callVI2 C (T0I (k_X0_reasonNotToPair l (by omega) (cEx_in h8) (cEx_in h19))) (cwV 2 C.1.2.2.2.2 gX3_playMate_X0_reasonNotToPair rfl rfl rfl (by decide +kernel) ⟨Nat.le_of_ble_eq_true rfl, Nat.le_of_ble_eq_true rfl⟩) (gO_c (by omega)) rfl (Nat.le_of_ble_eq_true rfl) dX3_playMate_31 ?_
      refine G.istn3 C dX3_playMate_34 (by omega) rfl ?_
      refine G.ildn3 C dX3_playMate_35 ?_
      refine G.if_ne C 48 dX3_playMate_36 (by decide) (fun h36 => ?_) (fun h36 => ?_)
      · refine G.ildn3 C dX3_playMate_48 ?_
        exact G.iret C hlk hrt dX3_playMate_49 (by rw [tPM, if_pos h8, if_pos h19, if_neg h36] <;> rfl) (by intro H h; rw [tPM, if_pos h8, if_pos h19, if_neg h36]; exact h)
      · refine G.aldn0 C dX3_playMate_39 ?_
        refine G.getMT C hinX3 0 (by decide) rfl (C.1.2.2.2.2 (.fieldLink RX3 10 RX3 "now" "LLateDoves$Cote;") (by decide +kernel)) rfl dX3_playMate_40 ?_
        refine G.ildn1 C dX3_playMate_43 ?_
        refine G.ildn2 C dX3_playMate_44 ?_
        refine G.callVV2 C (T0V (k_X0_pair l (by omega) (cEx_in h8) (cEx_in h19))) (cwV 2 C.1.2.2.2.2 gX3_playMate_X0_pair rfl rfl rfl (by decide +kernel) ⟨Nat.le_of_ble_eq_true rfl, Nat.le_of_ble_eq_true rfl⟩) (gO_c (by omega)) rfl (Nat.le_of_ble_eq_true rfl) dX3_playMate_45 ?_
        refine G.ildn3 C dX3_playMate_48 ?_
        exact G.iret C hlk hrt dX3_playMate_49 (by rw [tPM, if_pos h8, if_pos h19, if_pos h36] <;> rfl) (by intro H h; rw [tPM, if_pos h8, if_pos h19, if_pos h36]; exact h)
    · refine G.bipush C 10 dX3_playMate_22 (by decide) ?_
      exact G.iret C hlk hrt dX3_playMate_24 (by rw [tPM, if_pos h8, if_neg (by rw [h19]; decide)] <;> rfl) (by intro H h; rw [tPM, if_pos h8, if_neg (by rw [h19]; decide)]; exact h)
set_option maxRecDepth 100000 in
set_option maxHeartbeats 4000000 in
theorem k_X3_playShut (l : Launch) {E : gEn} {σ : gSt} {π : Nat → Nat} {o : Int64} {c0 c1 c2 c9 : cSt} {x : Int32} (hx : vp_in x 24) : CtI l yX3_playShut wsX3_playShut ({ frames := 3, cells := 0, slots := 0, locals := 62 } : Room) E [.ref (E.2.1 9 0), .int x] (gT σ c0 c1 c2 c9) π o ((tPS c0 x).1) (gT σ (tPS c0 x).2 c1 c2 c9) π o := by
  refine CtI.of (cc := cX3_playShut) (own := RX3) (maxL := 3) (ret := (some .int)) [some (.ref (E.2.1 9 0)), some (.int x), none] (by decide) rfl rfl (Nat.le_of_ble_eq_true rfl) rfl ?_
  intro p e s m args below meth cd C hrt hlk
  have hinX0 : ∀ w ∈ wsX00, w ∈ wsX3_playShut := by decide +kernel
  have hinX3 : ∀ w ∈ wsX30, w ∈ wsX3_playShut := by decide +kernel
  refine G.aldn0 C dX3_playShut_0 ?_
  refine G.getMT C hinX3 0 (by decide) rfl (C.1.2.2.2.2 (.fieldLink RX3 10 RX3 "now" "LLateDoves$Cote;") (by decide +kernel)) rfl dX3_playShut_1 ?_
  refine G.ildn1 C dX3_playShut_4 ?_
  refine G.callVI1 C (T0I (k_X0_reasonNotToShut l (by omega) hx)) (cwV 1 C.1.2.2.2.2 gX3_playShut_X0_reasonNotToShut rfl rfl rfl (by decide +kernel) ⟨Nat.le_of_ble_eq_true rfl, Nat.le_of_ble_eq_true rfl⟩) (gO_c (by omega)) rfl (Nat.le_of_ble_eq_true rfl) dX3_playShut_5 ?_
  refine G.istn2 C dX3_playShut_8 (by omega) rfl ?_
  refine G.ildn2 C dX3_playShut_9 ?_
  refine G.if_ne C 22 dX3_playShut_10 (by decide) (fun h10 => ?_) (fun h10 => ?_)
  · refine G.ildn2 C dX3_playShut_22 ?_
    exact G.iret C hlk hrt dX3_playShut_23 (by rw [tPS, if_neg h10] <;> rfl) (by intro H h; rw [tPS, if_neg h10]; exact h)
  · refine G.aldn0 C dX3_playShut_13 ?_
    refine G.getMT C hinX3 0 (by decide) rfl (C.1.2.2.2.2 (.fieldLink RX3 10 RX3 "now" "LLateDoves$Cote;") (by decide +kernel)) rfl dX3_playShut_14 ?_
    refine G.ildn1 C dX3_playShut_17 ?_
    refine G.iconst C 0 dX3_playShut_18 (by decide) ?_
    refine G.callVV2 C (T0V (k_X0_setOpen l (by omega) hx)) (cwV 2 C.1.2.2.2.2 gX3_playShut_X0_setOpen rfl rfl rfl (by decide +kernel) ⟨Nat.le_of_ble_eq_true rfl, Nat.le_of_ble_eq_true rfl⟩) (gO_c (by omega)) rfl (Nat.le_of_ble_eq_true rfl) dX3_playShut_19 ?_
    refine G.ildn2 C dX3_playShut_22 ?_
    exact G.iret C hlk hrt dX3_playShut_23 (by rw [tPS, if_pos h10] <;> rfl) (by intro H h; rw [tPS, if_pos h10]; exact h)
set_option maxRecDepth 100000 in
set_option maxHeartbeats 4000000 in
theorem k_X3_playPart (l : Launch) {E : gEn} {σ : gSt} {π : Nat → Nat} {o : Int64} {c0 c1 c2 c9 : cSt} (h98 : c9 3 1 = 98 → vp_in (c9 3 2) 24) (h120 : c9 3 1 = 120 → vp_in (c9 3 2) 24) : CtI l yX3_playPart wsX3_playPart ({ frames := 6, cells := 0, slots := 0, locals := 142 } : Room) E [.ref (E.2.1 9 0)] (gT σ c0 c1 c2 c9) π o ((tPP c0 c9).1) (gT σ (tPP c0 c9).2 c1 c2 c9) π o := by
  refine CtI.of (cc := cX3_playPart) (own := RX3) (maxL := 3) (ret := (some .int)) [some (.ref (E.2.1 9 0)), none, none] (by decide) rfl rfl (Nat.le_of_ble_eq_true rfl) rfl ?_
  intro p e s m args below meth cd C hrt hlk
  have hinX0 : ∀ w ∈ wsX00, w ∈ wsX3_playPart := by decide +kernel
  have hinX1 : ∀ w ∈ wsX10, w ∈ wsX3_playPart := by decide +kernel
  have hinX2 : ∀ w ∈ wsX20, w ∈ wsX3_playPart := by decide +kernel
  have hinX3 : ∀ w ∈ wsX30, w ∈ wsX3_playPart := by decide +kernel
  refine G.aldn0 C dX3_playPart_0 ?_
  refine G.getMT C hinX3 8 (by decide) rfl (C.1.2.2.2.2 (.fieldLink RX3 44 RX3 "reader" "LLateDoves$PartReader;") (by decide +kernel)) rfl dX3_playPart_1 ?_
  refine G.getRTN C hinX1 2 (by decide) rfl (by simp [gNst, TX0, TX1, TX2]) rfl dX3_playPart_4 ?_
  refine G.istn1 C dX3_playPart_7 (by omega) rfl ?_
  refine G.aldn0 C dX3_playPart_8 ?_
  refine G.getMT C hinX3 8 (by decide) rfl (C.1.2.2.2.2 (.fieldLink RX3 44 RX3 "reader" "LLateDoves$PartReader;") (by decide +kernel)) rfl dX3_playPart_9 ?_
  refine G.getRTN C hinX1 3 (by decide) rfl (by simp [gNst, TX0, TX1, TX2]) rfl dX3_playPart_12 ?_
  refine G.istn2 C dX3_playPart_15 (by omega) rfl ?_
  refine G.aldn0 C dX3_playPart_16 ?_
  refine G.getMT C hinX3 8 (by decide) rfl (C.1.2.2.2.2 (.fieldLink RX3 44 RX3 "reader" "LLateDoves$PartReader;") (by decide +kernel)) rfl dX3_playPart_17 ?_
  refine G.getRTN C hinX1 1 (by decide) rfl (by simp [gNst, TX0, TX1, TX2]) rfl dX3_playPart_20 ?_
  have hp23 : True := trivial
  by_cases h23_98 : c9 3 1 = 98
  · refine G.lookup C 79 dX3_playPart_23 (by decide) (off := 56) (by rw [h23_98]; decide) (by decide) ?_
    refine G.aldn0 C dX3_playPart_79 ?_
    refine G.ildn1 C dX3_playPart_80 ?_
    refine G.ildn2 C dX3_playPart_81 ?_
    refine G.callVI2 C (k_X3_playBuy l (h98 h23_98)) (cwV 2 C.1.2.2.2.2 gX3_playPart_X3_playBuy rfl rfl rfl (by decide +kernel) ⟨Nat.le_of_ble_eq_true rfl, Nat.le_of_ble_eq_true rfl⟩) gO_m rfl (Nat.le_of_ble_eq_true rfl) dX3_playPart_82 ?_
    exact G.iret C hlk hrt dX3_playPart_85 (by rw [tPP, if_pos h23_98] <;> rfl) (by intro H h; rw [tPP, if_pos h23_98]; exact h)
  by_cases h23_104 : c9 3 1 = 104
  · refine G.lookup C 72 dX3_playPart_23 (by decide) (off := 49) (by rw [h23_104]; decide) (by decide) ?_
    refine G.aldn0 C dX3_playPart_72 ?_
    refine G.ildn1 C dX3_playPart_73 ?_
    refine G.ildn2 C dX3_playPart_74 ?_
    refine G.callVI2 C (k_X3_playHome l) (cwV 2 C.1.2.2.2.2 gX3_playPart_X3_playHome rfl rfl rfl (by decide +kernel) ⟨Nat.le_of_ble_eq_true rfl, Nat.le_of_ble_eq_true rfl⟩) gO_m rfl (Nat.le_of_ble_eq_true rfl) dX3_playPart_75 ?_
    exact G.iret C hlk hrt dX3_playPart_78 (by rw [tPP, if_neg h23_98, if_pos h23_104] <;> rfl) (by intro H h; rw [tPP, if_neg h23_98, if_pos h23_104]; exact h)
  by_cases h23_109 : c9 3 1 = 109
  · refine G.lookup C 86 dX3_playPart_23 (by decide) (off := 63) (by rw [h23_109]; decide) (by decide) ?_
    refine G.aldn0 C dX3_playPart_86 ?_
    refine G.ildn1 C dX3_playPart_87 ?_
    refine G.ildn2 C dX3_playPart_88 ?_
    refine G.callVI2 C (k_X3_playMate l) (cwV 2 C.1.2.2.2.2 gX3_playPart_X3_playMate rfl rfl rfl (by decide +kernel) ⟨Nat.le_of_ble_eq_true rfl, Nat.le_of_ble_eq_true rfl⟩) gO_m rfl (Nat.le_of_ble_eq_true rfl) dX3_playPart_89 ?_
    exact G.iret C hlk hrt dX3_playPart_92 (by rw [tPP, if_neg h23_98, if_neg h23_104, if_pos h23_109] <;> rfl) (by intro H h; rw [tPP, if_neg h23_98, if_neg h23_104, if_pos h23_109]; exact h)
  by_cases h23_111 : c9 3 1 = 111
  · refine G.lookup C 99 dX3_playPart_23 (by decide) (off := 76) (by rw [h23_111]; decide) (by decide) ?_
    refine G.aldn0 C dX3_playPart_99 ?_
    refine G.getMT C hinX3 0 (by decide) rfl (C.1.2.2.2.2 (.fieldLink RX3 10 RX3 "now" "LLateDoves$Cote;") (by decide +kernel)) rfl dX3_playPart_100 ?_
    refine G.ildn1 C dX3_playPart_103 ?_
    refine G.iconst C 1 dX3_playPart_104 (by decide) ?_
    refine G.callVV2 C (T0V (k_X0_setOpenG l (by omega))) (cwV 2 C.1.2.2.2.2 gX3_playPart_X0_setOpen rfl rfl rfl (by decide +kernel) ⟨Nat.le_of_ble_eq_true rfl, Nat.le_of_ble_eq_true rfl⟩) (gO_c (by omega)) rfl (Nat.le_of_ble_eq_true rfl) dX3_playPart_105 ?_
    refine G.iconst C 0 dX3_playPart_108 (by decide) ?_
    exact G.iret C hlk hrt dX3_playPart_109 (by rw [tPP, if_neg h23_98, if_neg h23_104, if_neg h23_109, if_pos h23_111]; split <;> rfl) (by intro H h; rw [tPP, if_neg h23_98, if_neg h23_104, if_neg h23_109, if_pos h23_111]; by_cases hh : hHole (c9 3 2) = true; (rw [if_pos hh]; rw [cSetO, if_pos hh] at h; exact h); (rw [if_neg hh]; rw [cSetO, if_neg hh] at h; exact h))
  by_cases h23_120 : c9 3 1 = 120
  · refine G.lookup C 93 dX3_playPart_23 (by decide) (off := 70) (by rw [h23_120]; decide) (by decide) ?_
    refine G.aldn0 C dX3_playPart_93 ?_
    refine G.ildn1 C dX3_playPart_94 ?_
    refine G.callVI1 C (k_X3_playShut l (h120 h23_120)) (cwV 1 C.1.2.2.2.2 gX3_playPart_X3_playShut rfl rfl rfl (by decide +kernel) ⟨Nat.le_of_ble_eq_true rfl, Nat.le_of_ble_eq_true rfl⟩) gO_m rfl (Nat.le_of_ble_eq_true rfl) dX3_playPart_95 ?_
    exact G.iret C hlk hrt dX3_playPart_98 (by rw [tPP, if_neg h23_98, if_neg h23_104, if_neg h23_109, if_neg h23_111, if_pos h23_120] <;> rfl) (by intro H h; rw [tPP, if_neg h23_98, if_neg h23_104, if_neg h23_109, if_neg h23_111, if_pos h23_120]; exact h)
  refine G.lookup C 110 dX3_playPart_23 (by decide) (off := 87) ((lv_osw h23_98 (by decide)).trans ((lv_osw h23_104 (by decide)).trans ((lv_osw h23_109 (by decide)).trans ((lv_osw h23_111 (by decide)).trans ((lv_osw h23_120 (by decide)).trans rfl))))) (by decide) ?_
  refine G.aldn0 C dX3_playPart_110 ?_
  refine G.getMT C hinX3 0 (by decide) rfl (C.1.2.2.2.2 (.fieldLink RX3 10 RX3 "now" "LLateDoves$Cote;") (by decide +kernel)) rfl dX3_playPart_111 ?_
  refine G.callVI0 C (T0I (k_X0_endNight l (by omega))) (cwV 0 C.1.2.2.2.2 gX3_playPart_X0_endNight rfl rfl rfl (by decide +kernel) ⟨Nat.le_of_ble_eq_true rfl, Nat.le_of_ble_eq_true rfl⟩) (gO_c (by omega)) rfl (Nat.le_of_ble_eq_true rfl) dX3_playPart_114 ?_
  refine G.pop C dX3_playPart_117 rfl ?_
  refine G.iconst C 0 dX3_playPart_118 (by decide) ?_
  exact G.iret C hlk hrt dX3_playPart_119 (by rw [tPP, if_neg h23_98, if_neg h23_104, if_neg h23_109, if_neg h23_111, if_neg h23_120] <;> rfl) (by intro H h; rw [tPP, if_neg h23_98, if_neg h23_104, if_neg h23_109, if_neg h23_111, if_neg h23_120]; exact h)
set_option maxRecDepth 100000 in
set_option maxHeartbeats 4000000 in
theorem k_X3_tryHome (l : Launch) {E : gEn} {σ : gSt} {π : Nat → Nat} {o : Int64} {c0 c1 c2 c9 : cSt} {x t : Int32} (hx : vp_in x 16) : CtI l yX3_tryHome wsX3_tryHome ({ frames := 5, cells := 0, slots := 0, locals := 119 } : Room) E [.ref (E.2.1 9 0), .int x, .int t] (gT σ c0 c1 c2 c9) π o (bI (tTry c0 c1 x t).1) (gT σ c0 (tTry c0 c1 x t).2 c2 c9) π o := by
  refine CtI.of (cc := cX3_tryHome) (own := RX3) (maxL := 3) (ret := (some .boolean)) [some (.ref (E.2.1 9 0)), some (.int x), some (.int t)] (by decide) rfl rfl (Nat.le_of_ble_eq_true rfl) rfl ?_
  intro p e s m args below meth cd C hrt hlk
  have hinX0 : ∀ w ∈ wsX00, w ∈ wsX3_tryHome := by decide +kernel
  have hinX2 : ∀ w ∈ wsX20, w ∈ wsX3_tryHome := by decide +kernel
  have hinX3 : ∀ w ∈ wsX30, w ∈ wsX3_tryHome := by decide +kernel
  refine G.aldn0 C dX3_tryHome_0 ?_
  refine G.getMT C hinX3 0 (by decide) rfl (C.1.2.2.2.2 (.fieldLink RX3 10 RX3 "now" "LLateDoves$Cote;") (by decide +kernel)) rfl dX3_tryHome_1 ?_
  refine G.ildn1 C dX3_tryHome_4 ?_
  refine G.ildn2 C dX3_tryHome_5 ?_
  refine G.callVI2 C (T0I (k_X0_reasonNotHome l (by omega) hx)) (cwV 2 C.1.2.2.2.2 gX3_tryHome_X0_reasonNotHome rfl rfl rfl (by decide +kernel) ⟨Nat.le_of_ble_eq_true rfl, Nat.le_of_ble_eq_true rfl⟩) (gO_c (by omega)) rfl (Nat.le_of_ble_eq_true rfl) dX3_tryHome_6 ?_
  refine G.if_eq C 14 dX3_tryHome_9 (by decide) (fun h9 => ?_) (fun h9 => ?_)
  · refine G.aldn0 C dX3_tryHome_14 ?_
    refine G.getMT C hinX3 1 (by decide) rfl (C.1.2.2.2.2 (.fieldLink RX3 16 RX3 "trial" "LLateDoves$Cote;") (by decide +kernel)) rfl dX3_tryHome_15 ?_
    refine G.aldn0 C dX3_tryHome_18 ?_
    refine G.getMT C hinX3 0 (by decide) rfl (C.1.2.2.2.2 (.fieldLink RX3 10 RX3 "now" "LLateDoves$Cote;") (by decide +kernel)) rfl dX3_tryHome_19 ?_
    refine G.callVV1 C (T1V (d := c0) (k_X0_copyFrom l (by omega) (by omega) (by decide))) (cwV 1 C.1.2.2.2.2 gX3_tryHome_X0_copyFrom rfl rfl rfl (by decide +kernel) ⟨Nat.le_of_ble_eq_true rfl, Nat.le_of_ble_eq_true rfl⟩) (gO_c (by omega)) rfl (Nat.le_of_ble_eq_true rfl) dX3_tryHome_22 ?_
    refine G.aldn0 C dX3_tryHome_25 ?_
    refine G.getMT C hinX3 1 (by decide) rfl (C.1.2.2.2.2 (.fieldLink RX3 16 RX3 "trial" "LLateDoves$Cote;") (by decide +kernel)) rfl dX3_tryHome_26 ?_
    refine G.ildn1 C dX3_tryHome_29 ?_
    refine G.ildn2 C dX3_tryHome_30 ?_
    refine G.callVI2 C (T1I (k_X0_comeHome l (by omega) hx)) (cwV 2 C.1.2.2.2.2 gX3_tryHome_X0_comeHome rfl rfl rfl (by decide +kernel) ⟨Nat.le_of_ble_eq_true rfl, Nat.le_of_ble_eq_true rfl⟩) (gO_c (by omega)) rfl (Nat.le_of_ble_eq_true rfl) dX3_tryHome_31 ?_
    refine G.pop C dX3_tryHome_34 rfl ?_
    refine G.iconst C 1 dX3_tryHome_35 (by decide) ?_
    exact G.zret C hlk hrt dX3_tryHome_36 (by rw [tTry, if_pos h9] <;> rfl) (by intro H h; rw [tTry, if_pos h9]; exact h)
  · refine G.iconst C 0 dX3_tryHome_12 (by decide) ?_
    exact G.zret C hlk hrt dX3_tryHome_13 (by rw [tTry, if_neg h9] <;> rfl) (by intro H h; rw [tTry, if_neg h9]; exact h)
set_option maxRecDepth 100000 in
set_option maxHeartbeats 4000000 in
theorem k_X3_trialNumber (l : Launch) {E : gEn} {σ : gSt} {π : Nat → Nat} {o : Int64} {c0 c1 c2 c9 : cSt} {x w : Int32} (hx : vp_in x 16) : CtI l yX3_trialNumber wsX3_trialNumber ({ frames := 2, cells := 0, slots := 0, locals := 44 } : Room) E [.ref (E.2.1 9 0), .int x, .int w] (gT σ c0 c1 c2 c9) π o (tTN c0 c1 x w) (gT σ c0 c1 c2 c9) π o := by
  refine CtI.of (cc := cX3_trialNumber) (own := RX3) (maxL := 3) (ret := (some .int)) [some (.ref (E.2.1 9 0)), some (.int x), some (.int w)] (by decide) rfl rfl (Nat.le_of_ble_eq_true rfl) rfl ?_
  intro p e s m args below meth cd C hrt hlk
  have hinX0 : ∀ w ∈ wsX00, w ∈ wsX3_trialNumber := by decide +kernel
  have hinX3 : ∀ w ∈ wsX30, w ∈ wsX3_trialNumber := by decide +kernel
  refine G.ildn2 C dX3_trialNumber_0 ?_
  refine G.if_ne C 16 dX3_trialNumber_1 (by decide) (fun h1 => ?_) (fun h1 => ?_)
  · refine G.ildn2 C dX3_trialNumber_16 ?_
    refine G.iconst C 1 dX3_trialNumber_17 (by decide) ?_
    refine G.icmp_ne C 37 dX3_trialNumber_18 (by decide) (fun h18 => ?_) (fun h18 => ?_)
    · refine G.aldn0 C dX3_trialNumber_37 ?_
      refine G.getMT C hinX3 1 (by decide) rfl (C.1.2.2.2.2 (.fieldLink RX3 16 RX3 "trial" "LLateDoves$Cote;") (by decide +kernel)) rfl dX3_trialNumber_38 ?_
      refine G.bipush C 24 dX3_trialNumber_41 (by decide) ?_
      refine G.callVI1 C (T1I (k_X0_placedAt l (by omega))) (cwV 1 C.1.2.2.2.2 gX3_trialNumber_X0_placedAt rfl rfl rfl (by decide +kernel) ⟨Nat.le_of_ble_eq_true rfl, Nat.le_of_ble_eq_true rfl⟩) (gO_c (by omega)) rfl (Nat.le_of_ble_eq_true rfl) dX3_trialNumber_43 ?_
      refine G.aldn0 C dX3_trialNumber_46 ?_
      refine G.getMT C hinX3 0 (by decide) rfl (C.1.2.2.2.2 (.fieldLink RX3 10 RX3 "now" "LLateDoves$Cote;") (by decide +kernel)) rfl dX3_trialNumber_47 ?_
      refine G.bipush C 24 dX3_trialNumber_50 (by decide) ?_
      refine G.callVI1 C (T0I (k_X0_placedAt l (by omega))) (cwV 1 C.1.2.2.2.2 gX3_trialNumber_X0_placedAt rfl rfl rfl (by decide +kernel) ⟨Nat.le_of_ble_eq_true rfl, Nat.le_of_ble_eq_true rfl⟩) (gO_c (by omega)) rfl (Nat.le_of_ble_eq_true rfl) dX3_trialNumber_52 ?_
      refine G.isub C dX3_trialNumber_55 ?_
      exact G.iret C hlk hrt dX3_trialNumber_56 (by rw [tTN, if_neg h1, if_neg h18] <;> rfl) (by exact fun _ h => h)
    · refine G.aldn0 C dX3_trialNumber_21 ?_
      refine G.getMT C hinX3 1 (by decide) rfl (C.1.2.2.2.2 (.fieldLink RX3 16 RX3 "trial" "LLateDoves$Cote;") (by decide +kernel)) rfl dX3_trialNumber_22 ?_
      refine G.getCT1N C hinX0 8 (by decide) rfl (by simp [gNst, TX0, TX1, TX2]) rfl dX3_trialNumber_25 ?_
      refine G.aldn0 C dX3_trialNumber_28 ?_
      refine G.getMT C hinX3 0 (by decide) rfl (C.1.2.2.2.2 (.fieldLink RX3 10 RX3 "now" "LLateDoves$Cote;") (by decide +kernel)) rfl dX3_trialNumber_29 ?_
      refine G.getCT0N C hinX0 8 (by decide) rfl (by simp [gNst, TX0, TX1, TX2]) rfl dX3_trialNumber_32 ?_
      refine G.isub C dX3_trialNumber_35 ?_
      exact G.iret C hlk hrt dX3_trialNumber_36 (by rw [tTN, if_neg h1, if_pos h18] <;> rfl) (by exact fun _ h => h)
  · refine G.aldn0 C dX3_trialNumber_4 ?_
    refine G.getMT C hinX3 1 (by decide) rfl (C.1.2.2.2.2 (.fieldLink RX3 16 RX3 "trial" "LLateDoves$Cote;") (by decide +kernel)) rfl dX3_trialNumber_5 ?_
    refine G.getCT1N C hinX0 0 (by decide) rfl (by simp [gNst, TX0, TX1, TX2]) rfl dX3_trialNumber_8 ?_
    refine G.iconst C 2 dX3_trialNumber_11 (by decide) ?_
    refine G.aaldD C (by omega) 4 (by unfold vp_in; decide) (by decide) dX3_trialNumber_12 ?_
    refine G.ildn1 C dX3_trialNumber_13 ?_
    refine G.ialdT1 C (n := 16) (j := 4) (d0 := _) (gN_c (by omega) rfl) (gV_c (by omega) (by omega)) (by first | assumption | exact vp_in_nI (by omega) (by omega) | (unfold vp_in; decide)) rfl dX3_trialNumber_14 ?_
    exact G.iret C hlk hrt dX3_trialNumber_15 (by rw [tTN, if_pos h1] <;> rfl) (by exact fun _ h => h)
set_option maxRecDepth 100000 in
set_option maxHeartbeats 4000000 in
theorem k_X3_sittingIfAllCame (l : Launch) {E : gEn} {σ : gSt} {π : Nat → Nat} {o : Int64} {c0 c1 c2 c9 : cSt} {t : Int32} : CtI l yX3_sittingIfAllCame wsX3_sittingIfAllCame ({ frames := 5, cells := 0, slots := 0, locals := 119 } : Room) E [.ref (E.2.1 9 0), .int t] (gT σ c0 c1 c2 c9) π o (cSitD (tAll c0 t 16)) (gT σ c0 (tAll c0 t 16) c2 c9) π o := by
  refine CtI.of (cc := cX3_sittingIfAllCame) (own := RX3) (maxL := 3) (ret := (some .int)) [some (.ref (E.2.1 9 0)), some (.int t), none] (by decide) rfl rfl (Nat.le_of_ble_eq_true rfl) rfl ?_
  intro p e s m args below meth cd C hrt hlk
  have hinX0 : ∀ w ∈ wsX00, w ∈ wsX3_sittingIfAllCame := by decide +kernel
  have hinX2 : ∀ w ∈ wsX20, w ∈ wsX3_sittingIfAllCame := by decide +kernel
  have hinX3 : ∀ w ∈ wsX30, w ∈ wsX3_sittingIfAllCame := by decide +kernel
  refine G.aldn0 C dX3_sittingIfAllCame_0 ?_
  refine G.getMT C hinX3 1 (by decide) rfl (C.1.2.2.2.2 (.fieldLink RX3 16 RX3 "trial" "LLateDoves$Cote;") (by decide +kernel)) rfl dX3_sittingIfAllCame_1 ?_
  refine G.aldn0 C dX3_sittingIfAllCame_4 ?_
  refine G.getMT C hinX3 0 (by decide) rfl (C.1.2.2.2.2 (.fieldLink RX3 10 RX3 "now" "LLateDoves$Cote;") (by decide +kernel)) rfl dX3_sittingIfAllCame_5 ?_
  refine G.callVV1 C (T1V (d := c0) (k_X0_copyFrom l (by omega) (by omega) (by decide))) (cwV 1 C.1.2.2.2.2 gX3_sittingIfAllCame_X0_copyFrom rfl rfl rfl (by decide +kernel) ⟨Nat.le_of_ble_eq_true rfl, Nat.le_of_ble_eq_true rfl⟩) (gO_c (by omega)) rfl (Nat.le_of_ble_eq_true rfl) dX3_sittingIfAllCame_8 ?_
  refine G.iconst C 0 dX3_sittingIfAllCame_11 (by decide) ?_
  refine G.istn2 C dX3_sittingIfAllCame_12 (by omega) rfl ?_
  have L13 : ∀ (n k : Nat), k + n = 16 → G p l e ({ frames := 5, cells := 0, slots := 0, locals := 119 } : Room) s m args below meth cd 3 0 0 (gA E) (gQI below args s (cSitD (tAll c0 t 16)) E (gT σ c0 (tAll c0 t 16) c2 c9) π o) E (gT σ c0 (tAll c0 t k) c2 c9) π o 13 [some (.ref (E.2.1 9 0)), some (.int t), some (.int (nI k))] [] := by
    intro n
    induction n with
    | zero =>
      intro k hk
      obtain rfl : 16 = k := by omega
      refine G.ildn2 C dX3_sittingIfAllCame_13 ?_
      refine G.bipush C 16 dX3_sittingIfAllCame_14 (by decide) ?_
      refine G.icmp_ge C 61 dX3_sittingIfAllCame_16 (by decide) (fun _ => ?_) (fun h => absurd (nI_le (a := 16) (b := 16) (by omega) (by decide)) h)
      refine G.aldn0 C dX3_sittingIfAllCame_61 ?_
      refine G.getMT C hinX3 1 (by decide) rfl (C.1.2.2.2.2 (.fieldLink RX3 16 RX3 "trial" "LLateDoves$Cote;") (by decide +kernel)) rfl dX3_sittingIfAllCame_62 ?_
      refine G.callVI0 C (T1I (k_X0_sittingByDoves l (by omega))) (cwV 0 C.1.2.2.2.2 gX3_sittingIfAllCame_X0_sittingByDoves rfl rfl rfl (by decide +kernel) ⟨Nat.le_of_ble_eq_true rfl, Nat.le_of_ble_eq_true rfl⟩) (gO_c (by omega)) rfl (Nat.le_of_ble_eq_true rfl) dX3_sittingIfAllCame_65 ?_
      exact G.iret C hlk hrt dX3_sittingIfAllCame_68 (by rfl) (by exact fun _ h => h)
    | succ n ih =>
      intro k hk
      have hk2 : k < 16 := by omega
      refine G.ildn2 C dX3_sittingIfAllCame_13 ?_
      refine G.bipush C 16 dX3_sittingIfAllCame_14 (by decide) ?_
      refine G.icmp_ge C 61 dX3_sittingIfAllCame_16 (by decide) (fun h => absurd h (nI_ge (b := 16) hk2 (by decide))) (fun _ => ?_)
      refine G.aldn0 C dX3_sittingIfAllCame_19 ?_
      refine G.getMT C hinX3 1 (by decide) rfl (C.1.2.2.2.2 (.fieldLink RX3 16 RX3 "trial" "LLateDoves$Cote;") (by decide +kernel)) rfl dX3_sittingIfAllCame_20 ?_
      refine G.ildn2 C dX3_sittingIfAllCame_23 ?_
      refine G.callVI1 C (T1I (k_X0_exists l (by omega))) (cwV 1 C.1.2.2.2.2 gX3_sittingIfAllCame_X0_exists rfl rfl rfl (by decide +kernel) ⟨Nat.le_of_ble_eq_true rfl, Nat.le_of_ble_eq_true rfl⟩) (gO_c (by omega)) rfl (Nat.le_of_ble_eq_true rfl) dX3_sittingIfAllCame_24 ?_
      refine G.if_eqB C 55 dX3_sittingIfAllCame_27 (by decide) (fun h27 => ?_) (fun h27 => ?_)
      · refine G.iincN2 C dX3_sittingIfAllCame_55 (by omega) rfl ?_
        refine G.goto C 13 dX3_sittingIfAllCame_58 (by decide) ?_
        exact G.back (ih (k + 1) (by omega) ) (by first | (simp only [tAll, ]; done) | (simp [tAll, h27]; done)) ⟨(by first | rfl | simp), (by first | rfl | simp), (by first | rfl | simp), trivial⟩
      · refine G.aldn0 C dX3_sittingIfAllCame_30 ?_
        refine G.getMT C hinX3 1 (by decide) rfl (C.1.2.2.2.2 (.fieldLink RX3 16 RX3 "trial" "LLateDoves$Cote;") (by decide +kernel)) rfl dX3_sittingIfAllCame_31 ?_
        refine G.getCT1N C hinX0 0 (by decide) rfl (by simp [gNst, TX0, TX1, TX2]) rfl dX3_sittingIfAllCame_34 ?_
        refine G.iconst C 2 dX3_sittingIfAllCame_37 (by decide) ?_
        refine G.aaldD C (by omega) 4 (by unfold vp_in; decide) (by decide) dX3_sittingIfAllCame_38 ?_
        refine G.ildn2 C dX3_sittingIfAllCame_39 ?_
        refine G.ialdT1 C (n := 16) (j := 4) (d0 := k) (gN_c (by omega) rfl) (gV_c (by omega) (by omega)) (by first | assumption | exact vp_in_nI (by omega) (by omega) | (unfold vp_in; decide)) (ix_nI (by omega)) dX3_sittingIfAllCame_40 ?_
        refine G.iconst C (-1) dX3_sittingIfAllCame_41 (by decide) ?_
        refine G.icmp_ne C 55 dX3_sittingIfAllCame_42 (by decide) (fun h42 => ?_) (fun h42 => ?_)
        · refine G.iincN2 C dX3_sittingIfAllCame_55 (by omega) rfl ?_
          refine G.goto C 13 dX3_sittingIfAllCame_58 (by decide) ?_
          exact G.back (ih (k + 1) (by omega) ) (by first | (simp only [tAll, if_pos h27, if_neg h42]; done) | (simp [tAll, h27]; done)) ⟨(by first | rfl | simp), (by first | rfl | simp), (by first | rfl | simp), trivial⟩
        · refine G.aldn0 C dX3_sittingIfAllCame_45 ?_
          refine G.getMT C hinX3 1 (by decide) rfl (C.1.2.2.2.2 (.fieldLink RX3 16 RX3 "trial" "LLateDoves$Cote;") (by decide +kernel)) rfl dX3_sittingIfAllCame_46 ?_
          refine G.ildn2 C dX3_sittingIfAllCame_49 ?_
          refine G.ildn1 C dX3_sittingIfAllCame_50 ?_
          refine G.callVI2 C (T1I (k_X0_comeHome l (by omega) (vp_in_nI (by omega) (by omega)))) (cwV 2 C.1.2.2.2.2 gX3_sittingIfAllCame_X0_comeHome rfl rfl rfl (by decide +kernel) ⟨Nat.le_of_ble_eq_true rfl, Nat.le_of_ble_eq_true rfl⟩) (gO_c (by omega)) rfl (Nat.le_of_ble_eq_true rfl) dX3_sittingIfAllCame_51 ?_
          refine G.pop C dX3_sittingIfAllCame_54 rfl ?_
          refine G.iincN2 C dX3_sittingIfAllCame_55 (by omega) rfl ?_
          refine G.goto C 13 dX3_sittingIfAllCame_58 (by decide) ?_
          exact G.back (ih (k + 1) (by omega) ) (by first | (simp only [tAll, if_pos h27, if_pos h42]; done) | (simp [tAll, h27]; done)) ⟨(by first | rfl | simp), (by first | rfl | simp), (by first | rfl | simp), trivial⟩
  exact G.back (L13 16 0 (Nat.zero_add _) ) rfl ⟨(by first | rfl | simp), (by first | rfl | simp), (by first | rfl | simp), trivial⟩
set_option maxRecDepth 100000 in
set_option maxHeartbeats 4000000 in
theorem k_X3_freeHole (l : Launch) {E : gEn} {σ : gSt} {π : Nat → Nat} {o : Int64} {c0 c1 c2 c9 : cSt} : CtI l yX3_freeHole wsX3_freeHole ({ frames := 2, cells := 0, slots := 0, locals := 41 } : Room) E [.ref (E.2.1 9 0)] (gT σ c0 c1 c2 c9) π o (tFH c0 24 0) (gT σ c0 c1 c2 c9) π o := by
  refine CtI.of (cc := cX3_freeHole) (own := RX3) (maxL := 2) (ret := (some .int)) [some (.ref (E.2.1 9 0)), none] (by decide) rfl rfl (Nat.le_of_ble_eq_true rfl) rfl ?_
  intro p e s m args below meth cd C hrt hlk
  have hinX0 : ∀ w ∈ wsX00, w ∈ wsX3_freeHole := by decide +kernel
  have hinX3 : ∀ w ∈ wsX30, w ∈ wsX3_freeHole := by decide +kernel
  refine G.iconst C 0 dX3_freeHole_0 (by decide) ?_
  refine G.istn1 C dX3_freeHole_1 (by omega) rfl ?_
  have L2 : ∀ (n k : Nat), k + n = 24 → tFH c0 24 0 = tFH c0 n k → G p l e ({ frames := 2, cells := 0, slots := 0, locals := 41 } : Room) s m args below meth cd 2 0 0 (gA E) (gQI below args s (tFH c0 24 0) E (gT σ c0 c1 c2 c9) π o) E (gT σ c0 c1 c2 c9) π o 2 [some (.ref (E.2.1 9 0)), some (.int (nI k))] [] := by
    intro n
    induction n with
    | zero =>
      intro k hk  hq0
      obtain rfl : 24 = k := by omega
      refine G.ildn1 C dX3_freeHole_2 ?_
      refine G.bipush C 24 dX3_freeHole_3 (by decide) ?_
      refine G.icmp_ge C 42 dX3_freeHole_5 (by decide) (fun _ => ?_) (fun h => absurd (nI_le (a := 24) (b := 24) (by omega) (by decide)) h)
      refine G.iconst C (-1) dX3_freeHole_42 (by decide) ?_
      exact G.iret C hlk hrt dX3_freeHole_43 (by rw [hq0]; simp [tFH, *]) (by exact fun _ h => h)
    | succ n ih =>
      intro k hk  hq0
      have hk2 : k < 24 := by omega
      refine G.ildn1 C dX3_freeHole_2 ?_
      refine G.bipush C 24 dX3_freeHole_3 (by decide) ?_
      refine G.icmp_ge C 42 dX3_freeHole_5 (by decide) (fun h => absurd h (nI_ge (b := 24) hk2 (by decide))) (fun _ => ?_)
      refine G.aldn0 C dX3_freeHole_8 ?_
      refine G.getMT C hinX3 0 (by decide) rfl (C.1.2.2.2.2 (.fieldLink RX3 10 RX3 "now" "LLateDoves$Cote;") (by decide +kernel)) rfl dX3_freeHole_9 ?_
      refine G.ildn1 C dX3_freeHole_12 ?_
      refine G.callVI1 C (T0I (k_X0_isOpen l (by omega))) (cwV 1 C.1.2.2.2.2 gX3_freeHole_X0_isOpen rfl rfl rfl (by decide +kernel) ⟨Nat.le_of_ble_eq_true rfl, Nat.le_of_ble_eq_true rfl⟩) (gO_c (by omega)) rfl (Nat.le_of_ble_eq_true rfl) dX3_freeHole_13 ?_
      refine G.if_eqB C 36 dX3_freeHole_16 (by decide) (fun h16 => ?_) (fun h16 => ?_)
      · refine G.iincN1 C dX3_freeHole_36 (by omega) rfl ?_
        refine G.goto C 2 dX3_freeHole_39 (by decide) ?_
        exact G.back (ih (k + 1) (by omega) (by rw [hq0]; simp [tFH, *])) rfl ⟨(by first | rfl | simp), (by first | rfl | simp), trivial⟩
      · refine G.aldn0 C dX3_freeHole_19 ?_
        refine G.getMT C hinX3 0 (by decide) rfl (C.1.2.2.2.2 (.fieldLink RX3 10 RX3 "now" "LLateDoves$Cote;") (by decide +kernel)) rfl dX3_freeHole_20 ?_
        refine G.getCT0N C hinX0 1 (by decide) rfl (by simp [gNst, TX0, TX1, TX2]) rfl dX3_freeHole_23 ?_
        refine G.iconst C 1 dX3_freeHole_26 (by decide) ?_
        refine G.aaldH C (by omega) 12 (by unfold vp_in; decide) (by decide) dX3_freeHole_27 ?_
        refine G.ildn1 C dX3_freeHole_28 ?_
        refine G.ialdT0 C (n := 24) (j := 12) (d0 := k) (gN_c (by omega) rfl) (gV_c (by omega) (by omega)) (by first | assumption | exact vp_in_nI (by omega) (by omega) | (unfold vp_in; decide)) (ix_nI (by omega)) dX3_freeHole_29 ?_
        refine G.iconst C (-1) dX3_freeHole_30 (by decide) ?_
        refine G.icmp_ne C 36 dX3_freeHole_31 (by decide) (fun h31 => ?_) (fun h31 => ?_)
        · refine G.iincN1 C dX3_freeHole_36 (by omega) rfl ?_
          refine G.goto C 2 dX3_freeHole_39 (by decide) ?_
          exact G.back (ih (k + 1) (by omega) (by rw [hq0]; simp [tFH, *])) rfl ⟨(by first | rfl | simp), (by first | rfl | simp), trivial⟩
        · refine G.ildn1 C dX3_freeHole_34 ?_
          exact G.iret C hlk hrt dX3_freeHole_35 (by rw [hq0]; simp [tFH, *]) (by exact fun _ h => h)
  exact G.back (L2 24 0 (Nat.zero_add _) rfl) rfl ⟨(by first | rfl | simp), (by first | rfl | simp), trivial⟩
set_option maxRecDepth 100000 in
set_option maxHeartbeats 4000000 in
theorem k_X3_lateIsAsGood (l : Launch) {E : gEn} {σ : gSt} {π : Nat → Nat} {o : Int64} {c0 c1 c2 c9 : cSt} : CtI l yX3_lateIsAsGood wsX3_lateIsAsGood ({ frames := 6, cells := 0, slots := 0, locals := 141 } : Room) E [.ref (E.2.1 9 0)] (gT σ c0 c1 c2 c9) π o (tGood c0) (gT σ c0 (tAll c0 (c0 0 7) 16) c2 c9) π o := by
  refine CtI.of (cc := cX3_lateIsAsGood) (own := RX3) (maxL := 1) (ret := (some .int)) [some (.ref (E.2.1 9 0))] (by decide) rfl rfl (Nat.le_of_ble_eq_true rfl) rfl ?_
  intro p e s m args below meth cd C hrt hlk
  have hinX0 : ∀ w ∈ wsX00, w ∈ wsX3_lateIsAsGood := by decide +kernel
  have hinX2 : ∀ w ∈ wsX20, w ∈ wsX3_lateIsAsGood := by decide +kernel
  have hinX3 : ∀ w ∈ wsX30, w ∈ wsX3_lateIsAsGood := by decide +kernel
  refine G.aldn0 C dX3_lateIsAsGood_0 ?_
  refine G.sipush C 1439 dX3_lateIsAsGood_1 (by decide) ?_
  refine G.callVI1 C (k_X3_sittingIfAllCame l) (cwV 1 C.1.2.2.2.2 gX3_lateIsAsGood_X3_sittingIfAllCame rfl rfl rfl (by decide +kernel) ⟨Nat.le_of_ble_eq_true rfl, Nat.le_of_ble_eq_true rfl⟩) gO_m rfl (Nat.le_of_ble_eq_true rfl) dX3_lateIsAsGood_4 ?_
  refine G.aldn0 C dX3_lateIsAsGood_7 ?_
  refine G.aldn0 C dX3_lateIsAsGood_8 ?_
  refine G.getMT C hinX3 0 (by decide) rfl (C.1.2.2.2.2 (.fieldLink RX3 10 RX3 "now" "LLateDoves$Cote;") (by decide +kernel)) rfl dX3_lateIsAsGood_9 ?_
  refine G.getCT0N C hinX0 7 (by decide) rfl (by simp [gNst, TX0, TX1, TX2]) rfl dX3_lateIsAsGood_12 ?_
  refine G.callVI1 C (k_X3_sittingIfAllCame l) (cwV 1 C.1.2.2.2.2 gX3_lateIsAsGood_X3_sittingIfAllCame rfl rfl rfl (by decide +kernel) ⟨Nat.le_of_ble_eq_true rfl, Nat.le_of_ble_eq_true rfl⟩) gO_m rfl (Nat.le_of_ble_eq_true rfl) dX3_lateIsAsGood_15 ?_
  refine G.icmp_ge C 25 dX3_lateIsAsGood_18 (by decide) (fun h18 => ?_) (fun h18 => ?_)
  · refine G.iconst C 1 dX3_lateIsAsGood_25 (by decide) ?_
    exact G.iret C hlk hrt dX3_lateIsAsGood_26 (by rw [tGood, if_pos h18]) (by exact fun _ h => h)
  · refine G.iconst C 0 dX3_lateIsAsGood_21 (by decide) ?_
    refine G.goto C 26 dX3_lateIsAsGood_22 (by decide) ?_
    exact G.iret C hlk hrt dX3_lateIsAsGood_26 (by rw [tGood, if_neg h18]) (by exact fun _ h => h)
set_option maxRecDepth 100000 in
set_option maxHeartbeats 4000000 in
theorem k_X3_homeShare (l : Launch) {E : gEn} {σ : gSt} {π : Nat → Nat} {o : Int64} {c0 c1 c2 c9 : cSt} : CtD l yX3_homeShare wsX3_homeShare ({ frames := 2, cells := 0, slots := 0, locals := 43 } : Room) E [.ref (E.2.1 9 0)] (gT σ c0 c1 c2 c9) π o (tShare c0) (gT σ c0 c1 c2 c9) π o := by
  refine CtD.of (cc := cX3_homeShare) (own := RX3) (maxL := 2) (ret := (some .double)) [some (.ref (E.2.1 9 0)), none] (by decide) rfl rfl (Nat.le_of_ble_eq_true rfl) rfl ?_
  intro p e s m args below meth cd C hrt hlk
  have hinX0 : ∀ w ∈ wsX00, w ∈ wsX3_homeShare := by decide +kernel
  have hinX3 : ∀ w ∈ wsX30, w ∈ wsX3_homeShare := by decide +kernel
  refine G.aldn0 C dX3_homeShare_0 ?_
  refine G.getMT C hinX3 0 (by decide) rfl (C.1.2.2.2.2 (.fieldLink RX3 10 RX3 "now" "LLateDoves$Cote;") (by decide +kernel)) rfl dX3_homeShare_1 ?_
  refine G.callVI0 C (T0I (k_X0_doveCount l (by omega))) (cwV 0 C.1.2.2.2.2 gX3_homeShare_X0_doveCount rfl rfl rfl (by decide +kernel) ⟨Nat.le_of_ble_eq_true rfl, Nat.le_of_ble_eq_true rfl⟩) (gO_c (by omega)) rfl (Nat.le_of_ble_eq_true rfl) dX3_homeShare_4 ?_
  refine G.istn1 C dX3_homeShare_7 (by omega) rfl ?_
  refine G.ildn1 C dX3_homeShare_8 ?_
  refine G.if_ne C 14 dX3_homeShare_9 (by decide) (fun h9 => ?_) (fun h9 => ?_)
  · refine G.aldn0 C dX3_homeShare_14 ?_
    refine G.getMT C hinX3 0 (by decide) rfl (C.1.2.2.2.2 (.fieldLink RX3 10 RX3 "now" "LLateDoves$Cote;") (by decide +kernel)) rfl dX3_homeShare_15 ?_
    refine G.callVI0 C (T0I (k_X0_inOwnHoles l (by omega))) (cwV 0 C.1.2.2.2.2 gX3_homeShare_X0_inOwnHoles rfl rfl rfl (by decide +kernel) ⟨Nat.le_of_ble_eq_true rfl, Nat.le_of_ble_eq_true rfl⟩) (gO_c (by omega)) rfl (Nat.le_of_ble_eq_true rfl) dX3_homeShare_18 ?_
    refine G.i2d C dX3_homeShare_21 ?_
    refine G.ildn1 C dX3_homeShare_22 ?_
    refine G.i2d C dX3_homeShare_23 ?_
    refine G.ddiv C dX3_homeShare_24 (shr_all _ (Nat.lt_succ_of_le (cnt_le _ 16)) _ (Nat.lt_succ_of_le (cnt_le _ 16)) (fun q => h9 (by unfold cDoves; rw [q]; rfl))).1 ?_
    exact G.dret C hlk hrt dX3_homeShare_25 (by rw [tShare, if_neg h9]) (by exact fun _ h => h)
  · refine G.dconst1 C dX3_homeShare_12 ?_
    exact G.dret C hlk hrt dX3_homeShare_13 (by rw [tShare, if_pos h9]) (by exact fun _ h => h)
set_option maxRecDepth 100000 in
set_option maxHeartbeats 4000000 in
theorem k_X3_mixDove (l : Launch) {E : gEn} {σ : gSt} {π : Nat → Nat} {o : Int64} {c0 c1 c2 c9 : cSt} {e0 : Int64} {x : Int32} (hx : vp_in x 16) : CtL l yX3_mixDove wsX3_mixDove ({ frames := 6, cells := 0, slots := 0, locals := 141 } : Room) E [.ref (E.2.1 9 0), .long e0, .int x] (gT σ c0 c1 c2 c9) π o (tMD c0 c1 e0 x) (gT σ c0 (tTry c0 c1 x 1439).2 c2 c9) π o := by
  refine CtL.of (cc := cX3_mixDove) (own := RX3) (maxL := 8) (ret := (some .long)) [some (.ref (E.2.1 9 0)), some (.long e0), none, some (.int x), none, none, none, none] (by decide) rfl rfl (Nat.le_of_ble_eq_true rfl) rfl ?_
  intro p e s m args below meth cd C hrt hlk
  have hinX0 : ∀ w ∈ wsX00, w ∈ wsX3_mixDove := by decide +kernel
  have hinX2 : ∀ w ∈ wsX20, w ∈ wsX3_mixDove := by decide +kernel
  have hinX3 : ∀ w ∈ wsX30, w ∈ wsX3_mixDove := by decide +kernel
  refine G.lldn1 C dX3_mixDove_0 ?_
  refine G.ildn3 C dX3_mixDove_1 ?_
  refine G.i2l C dX3_mixDove_2 ?_
  refine G.callSL2 C (k_X3_mix l) (va_cwS 2 C.1.2.2.2.2 gX3_mixDove_X3_mix rfl rfl rfl (by decide +kernel) ⟨Nat.le_of_ble_eq_true rfl, Nat.le_of_ble_eq_true rfl⟩) (Nat.le_of_ble_eq_true rfl) dX3_mixDove_3 ?_
  refine G.lst4 C dX3_mixDove_6 (by omega) rfl ?_
  refine G.iconst C 0 dX3_mixDove_8 (by decide) ?_
  refine G.ist6 C dX3_mixDove_9 (by omega) rfl ?_
  have L11 : ∀ (n v : Nat), v + n = 8 → G p l e ({ frames := 6, cells := 0, slots := 0, locals := 141 } : Room) s m args below meth cd 8 0 0 (gA E) (gQL below args s (tMD c0 c1 e0 x) E (gT σ c0 (tTry c0 c1 x 1439).2 c2 c9) π o) E (gT σ c0 c1 c2 c9) π o 11 [some (.ref (E.2.1 9 0)), some (.long e0), none, some (.int x), some (.long (dgF (fun v => c0 (2 + v) (ix x)) v (31 * e0 + x.toInt64))), none, some (.int (nI v)), none] [] := by
    intro n
    induction n with
    | zero =>
      intro v hk
      obtain rfl : 8 = v := by omega
      refine G.ild6 C dX3_mixDove_11 ?_
      refine G.bipush C 8 dX3_mixDove_13 (by decide) ?_
      refine G.icmp_ge C 44 dX3_mixDove_15 (by decide) (fun _ => ?_) (fun h => absurd (nI_le (a := 8) (b := 8) (by omega) (by decide)) h)
      refine G.lld4 C dX3_mixDove_44 ?_
      refine G.aldn0 C dX3_mixDove_46 ?_
      refine G.getMT C hinX3 0 (by decide) rfl (C.1.2.2.2.2 (.fieldLink RX3 10 RX3 "now" "LLateDoves$Cote;") (by decide +kernel)) rfl dX3_mixDove_47 ?_
      refine G.ildn3 C dX3_mixDove_50 ?_
      refine G.sipush C 1439 dX3_mixDove_51 (by decide) ?_
      refine G.callVI2 C (T0I (k_X0_reasonNotHome l (by omega) hx)) (cwV 2 C.1.2.2.2.2 gX3_mixDove_X0_reasonNotHome rfl rfl rfl (by decide +kernel) ⟨Nat.le_of_ble_eq_true rfl, Nat.le_of_ble_eq_true rfl⟩) (gO_c (by omega)) rfl (Nat.le_of_ble_eq_true rfl) dX3_mixDove_54 ?_
      refine G.i2l C dX3_mixDove_57 ?_
      refine G.callSL2 C (k_X3_mix l) (va_cwS 2 C.1.2.2.2.2 gX3_mixDove_X3_mix rfl rfl rfl (by decide +kernel) ⟨Nat.le_of_ble_eq_true rfl, Nat.le_of_ble_eq_true rfl⟩) (Nat.le_of_ble_eq_true rfl) dX3_mixDove_58 ?_
      refine G.lst4 C dX3_mixDove_61 (by omega) rfl ?_
      refine G.aldn0 C dX3_mixDove_63 ?_
      refine G.ildn3 C dX3_mixDove_64 ?_
      refine G.sipush C 1439 dX3_mixDove_65 (by decide) ?_
      refine G.callVI2 C (k_X3_tryHome l hx) (cwV 2 C.1.2.2.2.2 gX3_mixDove_X3_tryHome rfl rfl rfl (by decide +kernel) ⟨Nat.le_of_ble_eq_true rfl, Nat.le_of_ble_eq_true rfl⟩) gO_m rfl (Nat.le_of_ble_eq_true rfl) dX3_mixDove_68 ?_
      refine G.ist6 C dX3_mixDove_71 (by omega) rfl ?_
      refine G.iconst C 0 dX3_mixDove_73 (by decide) ?_
      refine G.ist7 C dX3_mixDove_74 (by omega) rfl ?_
      have L76 : ∀ (n w : Nat), w + n = 3 → G p l e ({ frames := 6, cells := 0, slots := 0, locals := 141 } : Room) s m args below meth cd 8 0 0 (gA E) (gQL below args s (tMD c0 c1 e0 x) E (gT σ c0 (tTry c0 c1 x 1439).2 c2 c9) π o) E (gT σ c0 (tTry c0 c1 x 1439).2 c2 c9) π o 76 [some (.ref (E.2.1 9 0)), some (.long e0), none, some (.int x), some (.long (dgF (fun w => if (tTry c0 c1 x 1439).1 = true then tTN c0 (tTry c0 c1 x 1439).2 x (nI w) else -1) w (31 * dgF (fun v => c0 (2 + v) (ix x)) 8 (31 * e0 + x.toInt64) + (cWhyHome c0 x 1439).toInt64))), none, some (.int (bI (tTry c0 c1 x 1439).1)), some (.int (nI w))] [] := by
        intro n
        induction n with
        | zero =>
          intro w hk
          obtain rfl : 3 = w := by omega
          refine G.ild7 C dX3_mixDove_76 ?_
          refine G.iconst C 3 dX3_mixDove_78 (by decide) ?_
          refine G.icmp_ge C 114 dX3_mixDove_79 (by decide) (fun _ => ?_) (fun h => absurd (nI_le (a := 3) (b := 3) (by omega) (by decide)) h)
          refine G.lld4 C dX3_mixDove_114 ?_
          exact G.lret C hlk hrt dX3_mixDove_116 (by rfl) (by exact fun _ h => h)
        | succ n ih =>
          intro w hk
          have hk2 : w < 3 := by omega
          refine G.ild7 C dX3_mixDove_76 ?_
          refine G.iconst C 3 dX3_mixDove_78 (by decide) ?_
          refine G.icmp_ge C 114 dX3_mixDove_79 (by decide) (fun h => absurd h (nI_ge (b := 3) hk2 (by decide))) (fun _ => ?_)
          refine G.lld4 C dX3_mixDove_82 ?_
          refine G.ild6 C dX3_mixDove_84 ?_
          refine G.if_eqB C 100 dX3_mixDove_86 (by decide) (fun h86 => ?_) (fun h86 => ?_)
          · refine G.ldc2 C (v := (-1)) (C.1.2.2.2.2 (.constantLong RX3 301 (-1)) (by decide +kernel)) dX3_mixDove_100 ?_
            refine G.callSL2 C (k_X3_mix l) (va_cwS 2 C.1.2.2.2.2 gX3_mixDove_X3_mix rfl rfl rfl (by decide +kernel) ⟨Nat.le_of_ble_eq_true rfl, Nat.le_of_ble_eq_true rfl⟩) (Nat.le_of_ble_eq_true rfl) dX3_mixDove_103 ?_
            refine G.lst4 C dX3_mixDove_106 (by omega) rfl ?_
            refine G.iincN7 C dX3_mixDove_108 (by omega) rfl ?_
            refine G.goto C 76 dX3_mixDove_111 (by decide) ?_
            exact G.back (ih (w + 1) (by omega) ) rfl ⟨(by first | with_reducible rfl | (rw [dgF_s (n := w)]; rw [if_pos h86]; done) | (rw [dgF_s (n := w)]; rw [if_neg (by rw [h86]; decide)]; rfl) | (exact congrArg (fun z => some (Value.int z)) (nI_s1 w))), (by first | with_reducible rfl | (rw [dgF_s (n := w)]; rw [if_pos h86]; done) | (rw [dgF_s (n := w)]; rw [if_neg (by rw [h86]; decide)]; rfl) | (exact congrArg (fun z => some (Value.int z)) (nI_s1 w))), (by first | with_reducible rfl | (rw [dgF_s (n := w)]; rw [if_pos h86]; done) | (rw [dgF_s (n := w)]; rw [if_neg (by rw [h86]; decide)]; rfl) | (exact congrArg (fun z => some (Value.int z)) (nI_s1 w))), (by first | with_reducible rfl | (rw [dgF_s (n := w)]; rw [if_pos h86]; done) | (rw [dgF_s (n := w)]; rw [if_neg (by rw [h86]; decide)]; rfl) | (exact congrArg (fun z => some (Value.int z)) (nI_s1 w))), (by first | with_reducible rfl | (rw [dgF_s (n := w)]; rw [if_pos h86]; done) | (rw [dgF_s (n := w)]; rw [if_neg (by rw [h86]; decide)]; rfl) | (exact congrArg (fun z => some (Value.int z)) (nI_s1 w))), (by first | with_reducible rfl | (rw [dgF_s (n := w)]; rw [if_pos h86]; done) | (rw [dgF_s (n := w)]; rw [if_neg (by rw [h86]; decide)]; rfl) | (exact congrArg (fun z => some (Value.int z)) (nI_s1 w))), trivial⟩
          · refine G.aldn0 C dX3_mixDove_89 ?_
            refine G.ildn3 C dX3_mixDove_90 ?_
            refine G.ild7 C dX3_mixDove_91 ?_
            refine G.callVI2 C (k_X3_trialNumber l hx) (cwV 2 C.1.2.2.2.2 gX3_mixDove_X3_trialNumber rfl rfl rfl (by decide +kernel) ⟨Nat.le_of_ble_eq_true rfl, Nat.le_of_ble_eq_true rfl⟩) gO_m rfl (Nat.le_of_ble_eq_true rfl) dX3_mixDove_93 ?_
            refine G.i2l C dX3_mixDove_96 ?_
            refine G.goto C 103 dX3_mixDove_97 (by decide) ?_
            refine G.callSL2 C (k_X3_mix l) (va_cwS 2 C.1.2.2.2.2 gX3_mixDove_X3_mix rfl rfl rfl (by decide +kernel) ⟨Nat.le_of_ble_eq_true rfl, Nat.le_of_ble_eq_true rfl⟩) (Nat.le_of_ble_eq_true rfl) dX3_mixDove_103 ?_
            refine G.lst4 C dX3_mixDove_106 (by omega) rfl ?_
            refine G.iincN7 C dX3_mixDove_108 (by omega) rfl ?_
            refine G.goto C 76 dX3_mixDove_111 (by decide) ?_
            exact G.back (ih (w + 1) (by omega) ) rfl ⟨(by first | with_reducible rfl | (rw [dgF_s (n := w)]; rw [if_pos h86]; done) | (rw [dgF_s (n := w)]; rw [if_neg (by rw [h86]; decide)]; rfl) | (exact congrArg (fun z => some (Value.int z)) (nI_s1 w))), (by first | with_reducible rfl | (rw [dgF_s (n := w)]; rw [if_pos h86]; done) | (rw [dgF_s (n := w)]; rw [if_neg (by rw [h86]; decide)]; rfl) | (exact congrArg (fun z => some (Value.int z)) (nI_s1 w))), (by first | with_reducible rfl | (rw [dgF_s (n := w)]; rw [if_pos h86]; done) | (rw [dgF_s (n := w)]; rw [if_neg (by rw [h86]; decide)]; rfl) | (exact congrArg (fun z => some (Value.int z)) (nI_s1 w))), (by first | with_reducible rfl | (rw [dgF_s (n := w)]; rw [if_pos h86]; done) | (rw [dgF_s (n := w)]; rw [if_neg (by rw [h86]; decide)]; rfl) | (exact congrArg (fun z => some (Value.int z)) (nI_s1 w))), (by first | with_reducible rfl | (rw [dgF_s (n := w)]; rw [if_pos h86]; done) | (rw [dgF_s (n := w)]; rw [if_neg (by rw [h86]; decide)]; rfl) | (exact congrArg (fun z => some (Value.int z)) (nI_s1 w))), (by first | with_reducible rfl | (rw [dgF_s (n := w)]; rw [if_pos h86]; done) | (rw [dgF_s (n := w)]; rw [if_neg (by rw [h86]; decide)]; rfl) | (exact congrArg (fun z => some (Value.int z)) (nI_s1 w))), trivial⟩
      exact G.back (L76 3 0 (Nat.zero_add _) ) rfl ⟨(by first | with_reducible rfl | (rw [dgF_0]; done) | rfl), (by first | with_reducible rfl | (rw [dgF_0]; done) | rfl), (by first | with_reducible rfl | (rw [dgF_0]; done) | rfl), (by first | with_reducible rfl | (rw [dgF_0]; done) | rfl), (by first | with_reducible rfl | (rw [dgF_0]; done) | rfl), (by first | with_reducible rfl | (rw [dgF_0]; done) | rfl), trivial⟩
    | succ n ih =>
      intro v hk
      have hk2 : v < 8 := by omega
      refine G.ild6 C dX3_mixDove_11 ?_
      refine G.bipush C 8 dX3_mixDove_13 (by decide) ?_
      refine G.icmp_ge C 44 dX3_mixDove_15 (by decide) (fun h => absurd h (nI_ge (b := 8) hk2 (by decide))) (fun _ => ?_)
      refine G.lld4 C dX3_mixDove_18 ?_
      refine G.aldn0 C dX3_mixDove_20 ?_
      refine G.getMT C hinX3 0 (by decide) rfl (C.1.2.2.2.2 (.fieldLink RX3 10 RX3 "now" "LLateDoves$Cote;") (by decide +kernel)) rfl dX3_mixDove_21 ?_
      refine G.getCT0N C hinX0 0 (by decide) rfl (by simp [gNst, TX0, TX1, TX2]) rfl dX3_mixDove_24 ?_
      refine G.ild6 C dX3_mixDove_27 ?_
      refine G.aaldD C (by omega) (2 + v) (vp_in_nI (by omega) (by omega)) (by rw [ix_nI (by omega)]) dX3_mixDove_29 ?_
      refine G.ildn3 C dX3_mixDove_30 ?_
      refine G.ialdT0 C (n := 16) (j := 2 + v) (d0 := _) (gN_row (by omega) hk2) (gV_c (by omega) (by omega)) hx rfl dX3_mixDove_31 ?_
      refine G.i2l C dX3_mixDove_32 ?_
      refine G.callSL2 C (k_X3_mix l) (va_cwS 2 C.1.2.2.2.2 gX3_mixDove_X3_mix rfl rfl rfl (by decide +kernel) ⟨Nat.le_of_ble_eq_true rfl, Nat.le_of_ble_eq_true rfl⟩) (Nat.le_of_ble_eq_true rfl) dX3_mixDove_33 ?_
      refine G.lst4 C dX3_mixDove_36 (by omega) rfl ?_
      refine G.iincN6 C dX3_mixDove_38 (by omega) rfl ?_
      refine G.goto C 11 dX3_mixDove_41 (by decide) ?_
      exact G.back (ih (v + 1) (by omega) ) rfl ⟨(by first | with_reducible rfl | (rw [dgF_s (n := v)]; done) | (exact congrArg (fun z => some (Value.int z)) (nI_s1 v))), (by first | with_reducible rfl | (rw [dgF_s (n := v)]; done) | (exact congrArg (fun z => some (Value.int z)) (nI_s1 v))), (by first | with_reducible rfl | (rw [dgF_s (n := v)]; done) | (exact congrArg (fun z => some (Value.int z)) (nI_s1 v))), (by first | with_reducible rfl | (rw [dgF_s (n := v)]; done) | (exact congrArg (fun z => some (Value.int z)) (nI_s1 v))), (by first | with_reducible rfl | (rw [dgF_s (n := v)]; done) | (exact congrArg (fun z => some (Value.int z)) (nI_s1 v))), trivial⟩
  exact G.back (L11 8 0 (Nat.zero_add _) ) rfl ⟨(by first | with_reducible rfl | (rw [dgF_0]; done) | rfl), (by first | with_reducible rfl | (rw [dgF_0]; done) | rfl), (by first | with_reducible rfl | (rw [dgF_0]; done) | rfl), (by first | with_reducible rfl | (rw [dgF_0]; done) | rfl), (by first | with_reducible rfl | (rw [dgF_0]; done) | rfl), trivial⟩
set_option maxRecDepth 100000 in
set_option maxHeartbeats 4000000 in
theorem k_X3_mixWay (l : Launch) {E : gEn} {σ : gSt} {π : Nat → Nat} {o : Int64} {c0 c1 c2 c9 : cSt} {e0 : Int64} {n0 : Nat} (hn0 : c0 17 2 = nI n0) (h25 : n0 ≤ 25) : CtL l yX3_mixWay wsX3_mixWay ({ frames := 1, cells := 0, slots := 0, locals := 23 } : Room) E [.ref (E.2.1 9 0), .long e0] (gT σ c0 c1 c2 c9) π o (tMW c0 n0 e0) (gT σ c0 c1 c2 c9) π o := by
  refine CtL.of (cc := cX3_mixWay) (own := RX3) (maxL := 6) (ret := (some .long)) [some (.ref (E.2.1 9 0)), some (.long e0), none, none, none, none] (by decide) rfl rfl (Nat.le_of_ble_eq_true rfl) rfl ?_
  intro p e s m args below meth cd C hrt hlk
  have hinX0 : ∀ w ∈ wsX00, w ∈ wsX3_mixWay := by decide +kernel
  have hinX2 : ∀ w ∈ wsX20, w ∈ wsX3_mixWay := by decide +kernel
  have hinX3 : ∀ w ∈ wsX30, w ∈ wsX3_mixWay := by decide +kernel
  refine G.lldn1 C dX3_mixWay_0 ?_
  refine G.lstn3 C dX3_mixWay_1 (by omega) rfl ?_
  refine G.iconst C 0 dX3_mixWay_2 (by decide) ?_
  refine G.ist5 C dX3_mixWay_3 (by omega) rfl ?_
  have L5 : ∀ (n k : Nat), k + n = n0 → G p l e ({ frames := 1, cells := 0, slots := 0, locals := 23 } : Room) s m args below meth cd 6 0 0 (gA E) (gQL below args s (tMW c0 n0 e0) E (gT σ c0 c1 c2 c9) π o) E (gT σ c0 c1 c2 c9) π o 5 [some (.ref (E.2.1 9 0)), some (.long e0), none, some (.long (tMW c0 k e0)), none, some (.int (nI k))] [] := by
    intro n
    induction n with
    | zero =>
      intro k hk
      obtain rfl : n0 = k := by omega
      refine G.ild5 C dX3_mixWay_5 ?_
      refine G.aldn0 C dX3_mixWay_7 ?_
      refine G.getMT C hinX3 0 (by decide) rfl (C.1.2.2.2.2 (.fieldLink RX3 10 RX3 "now" "LLateDoves$Cote;") (by decide +kernel)) rfl dX3_mixWay_8 ?_
      refine G.getCT0N C hinX0 5 (by decide) rfl (by simp [gNst, TX0, TX1, TX2]) rfl dX3_mixWay_11 ?_
      refine G.getWT0N C hinX2 2 (by decide) rfl (by simp [gNst, TX0, TX1, TX2]) rfl dX3_mixWay_14 ?_
      refine G.topI (nI n0) hn0 ?_
      refine G.icmp_ge C 64 dX3_mixWay_17 (by decide) (fun _ => ?_) (fun h => absurd (nI_le (a := n0) (b := n0) (by omega) (by omega)) h)
      refine G.lldn3 C dX3_mixWay_64 ?_
      exact G.lret C hlk hrt dX3_mixWay_65 (by rfl) (by exact fun _ h => h)
    | succ n ih =>
      intro k hk
      have hk2 : k < n0 := by omega
      refine G.ild5 C dX3_mixWay_5 ?_
      refine G.aldn0 C dX3_mixWay_7 ?_
      refine G.getMT C hinX3 0 (by decide) rfl (C.1.2.2.2.2 (.fieldLink RX3 10 RX3 "now" "LLateDoves$Cote;") (by decide +kernel)) rfl dX3_mixWay_8 ?_
      refine G.getCT0N C hinX0 5 (by decide) rfl (by simp [gNst, TX0, TX1, TX2]) rfl dX3_mixWay_11 ?_
      refine G.getWT0N C hinX2 2 (by decide) rfl (by simp [gNst, TX0, TX1, TX2]) rfl dX3_mixWay_14 ?_
      refine G.topI (nI n0) hn0 ?_
      refine G.icmp_ge C 64 dX3_mixWay_17 (by decide) (fun h => absurd h (nI_ge (b := n0) hk2 (by omega))) (fun _ => ?_)
      refine G.lldn3 C dX3_mixWay_20 ?_
      refine G.aldn0 C dX3_mixWay_21 ?_
      refine G.getMT C hinX3 0 (by decide) rfl (C.1.2.2.2.2 (.fieldLink RX3 10 RX3 "now" "LLateDoves$Cote;") (by decide +kernel)) rfl dX3_mixWay_22 ?_
      refine G.getCT0N C hinX0 5 (by decide) rfl (by simp [gNst, TX0, TX1, TX2]) rfl dX3_mixWay_25 ?_
      refine G.getWT0N C hinX2 0 (by decide) rfl (by simp [gNst, TX0, TX1, TX2]) rfl dX3_mixWay_28 ?_
      refine G.ild5 C dX3_mixWay_31 ?_
      refine G.ialdT0 C (n := 25) (j := 18) (d0 := k) (gN_c (by omega) rfl) (gV_c (by omega) (by omega)) (vp_in_nI (by omega) (by omega)) (ix_nI (by omega)) dX3_mixWay_33 ?_
      refine G.i2l C dX3_mixWay_34 ?_
      refine G.callSL2 C (k_X3_mix l) (va_cwS 2 C.1.2.2.2.2 gX3_mixWay_X3_mix rfl rfl rfl (by decide +kernel) ⟨Nat.le_of_ble_eq_true rfl, Nat.le_of_ble_eq_true rfl⟩) (Nat.le_of_ble_eq_true rfl) dX3_mixWay_35 ?_
      refine G.lstn3 C dX3_mixWay_38 (by omega) rfl ?_
      refine G.lldn3 C dX3_mixWay_39 ?_
      refine G.aldn0 C dX3_mixWay_40 ?_
      refine G.getMT C hinX3 0 (by decide) rfl (C.1.2.2.2.2 (.fieldLink RX3 10 RX3 "now" "LLateDoves$Cote;") (by decide +kernel)) rfl dX3_mixWay_41 ?_
      refine G.getCT0N C hinX0 5 (by decide) rfl (by simp [gNst, TX0, TX1, TX2]) rfl dX3_mixWay_44 ?_
      refine G.getWT0N C hinX2 1 (by decide) rfl (by simp [gNst, TX0, TX1, TX2]) rfl dX3_mixWay_47 ?_
      refine G.ild5 C dX3_mixWay_50 ?_
      refine G.ialdT0 C (n := 25) (j := 19) (d0 := k) (gN_c (by omega) rfl) (gV_c (by omega) (by omega)) (vp_in_nI (by omega) (by omega)) (ix_nI (by omega)) dX3_mixWay_52 ?_
      refine G.i2l C dX3_mixWay_53 ?_
      refine G.callSL2 C (k_X3_mix l) (va_cwS 2 C.1.2.2.2.2 gX3_mixWay_X3_mix rfl rfl rfl (by decide +kernel) ⟨Nat.le_of_ble_eq_true rfl, Nat.le_of_ble_eq_true rfl⟩) (Nat.le_of_ble_eq_true rfl) dX3_mixWay_54 ?_
      refine G.lstn3 C dX3_mixWay_57 (by omega) rfl ?_
      refine G.iincN5 C dX3_mixWay_58 (by omega) rfl ?_
      refine G.goto C 5 dX3_mixWay_61 (by decide) ?_
      exact G.back (ih (k + 1) (by omega) ) rfl ⟨(by first | with_reducible rfl | (rw [tMW_s (n := k)]; done) | (exact congrArg (fun z => some (Value.int z)) (nI_s1 k))), (by first | with_reducible rfl | (rw [tMW_s (n := k)]; done) | (exact congrArg (fun z => some (Value.int z)) (nI_s1 k))), (by first | with_reducible rfl | (rw [tMW_s (n := k)]; done) | (exact congrArg (fun z => some (Value.int z)) (nI_s1 k))), (by first | with_reducible rfl | (rw [tMW_s (n := k)]; done) | (exact congrArg (fun z => some (Value.int z)) (nI_s1 k))), trivial⟩
  exact G.back (L5 n0 0 (Nat.zero_add _) ) rfl ⟨(by first | with_reducible rfl | (rw [tMW_0]; done) | rfl), (by first | with_reducible rfl | (rw [tMW_0]; done) | rfl), (by first | with_reducible rfl | (rw [tMW_0]; done) | rfl), (by first | with_reducible rfl | (rw [tMW_0]; done) | rfl), trivial⟩
set_option maxRecDepth 100000 in
set_option maxHeartbeats 4000000 in
theorem k_X3_clearBuffer (l : Launch) {E : gEn} {σ : gSt} {π : Nat → Nat} {o : Int64} {c0 c1 c2 c9 : cSt} : CtI l yX3_clearBuffer wsX3_clearBuffer ({ frames := 0, cells := 0, slots := 0, locals := 0 } : Room) E [.ref (E.2.1 9 0)] (gT σ c0 c1 c2 c9) π o (c9 0 7) (gT σ c0 c1 c2 (cW c9 0 7 0)) π o := by
  refine CtI.of (cc := cX3_clearBuffer) (own := RX3) (maxL := 2) (ret := (some .int)) [some (.ref (E.2.1 9 0)), none] (by decide) rfl rfl (Nat.le_of_ble_eq_true rfl) rfl ?_
  intro p e s m args below meth cd C hrt hlk
  have hinX3 : ∀ w ∈ wsX30, w ∈ wsX3_clearBuffer := by decide +kernel
  refine G.aldn0 C dX3_clearBuffer_0 ?_
  refine G.getMT C hinX3 7 (by decide) rfl (C.1.2.2.2.2 (.fieldLink RX3 38 RX3 "length" "I") (by decide +kernel)) rfl dX3_clearBuffer_1 ?_
  refine G.istn1 C dX3_clearBuffer_4 (by omega) rfl ?_
  refine G.aldn0 C dX3_clearBuffer_5 ?_
  refine G.iconst C 0 dX3_clearBuffer_6 (by decide) ?_
  refine G.putMT (ty := .int) C hinX3 7 (by decide) rfl (C.1.2.2.2.2 (.fieldLink RX3 38 RX3 "length" "I") (by decide +kernel)) rfl rfl rfl rfl pfX3_7 dX3_clearBuffer_7 ?_
  refine G.ildn1 C dX3_clearBuffer_10 ?_
  exact G.iret C hlk hrt dX3_clearBuffer_11 (by rfl) (by exact fun _ h => h)
