/-! EXCEPTIONS OVER THE LAYER VZ: a method that throws E, and leaves the world W'; its callers pass it on, or catch it -/
/-- what Throwable's constructor reads: two statics that no method of ours may change -/
def vzSt (A : Nat → Prop) (U : State) (H : Heap) : Prop := vx_Zq Bundle.tN "UNASSIGNED_STACK" Bundle.steD A U H ∧ vx_Zq Bundle.tN "SUPPRESSED_SENTINEL" Bundle.listD A U H
theorem vzSt.moved {A : Nat → Prop} {u U : State} {H : Heap} (hvm : u.vm.Alike U.vm) (h : vzSt A u H) : vzSt A U H := ⟨h.1.moved hvm, h.2.moved hvm⟩
theorem vzSt.kept {A : Nat → Prop} {U : State} {H H1 : Heap} (h : vzSt A U H) (hq : ∀ a : Nat, a < H.size → ¬ A a → H1[a]? = H[a]?) : vzSt A U H1 := ⟨h.1.kept hq, h.2.kept hq⟩
theorem vzSt.narrow {A B : Nat → Prop} {U : State} {H : Heap} (h : vzSt A U H) (hAB : ∀ q, B q → A q) : vzSt B U H := ⟨h.1.narrow hAB, h.2.narrow hAB⟩
def vzPreX (D : va_G) (T : vzT) (sz : Nat) (W : va_W) (U : State) : Prop := vzPre D T sz W U ∧ vzSt (va_A W sz) U U.heap
theorem vzBlindX (D : va_G) (T : vzT) (sz : Nat) (W : va_W) (av : List Value) : FrameBlind (va_Pc av (vzPreX D T sz W)) := by
  intro a U g mk q
  obtain ⟨h1, h2, h3⟩ := q
  have h4 := vzBlind D T sz W av a U g mk ⟨h1, h2⟩
  exact ⟨h4.1, h4.2, vzSt.moved (u := U) (U := U.calling g mk a) (Vm.Alike.refl U.vm) h3⟩
def cnX (l : Launch) (y : MethodName) (ws : List Cond) (rm : Room) (D : va_G) (T : vzT) (av : List Value) (W : va_W) (E : String) {S : Type} (W' : S → va_W) : Prop := ∀ sz : Nat, vx_Met l y ws rm (va_Pc av (vzPreX D T sz W)) (fun _ _ _ _ => False) (vx_X (fun _ : S => True) (fun E' u t => E' = E ∧ vzPost D (va_A W sz) (W' u) t) (va_A W sz)) rm.cells rm.slots (va_A W sz)
/-- a method with a table of its own, that returns an int -/
def cnIZ (l : Launch) (y : MethodName) (ws : List Cond) (rm : Room) (D : va_G) (T : vzT) (av : List Value) (W : va_W) (r : Int32) {S : Type} (W' : S → va_W) : Prop := ∀ sz : Nat, Met l y ws rm (va_Pc av (vzPreX D T sz W)) (va_Qi (fun (r' : Int32) (_ : S) => r' = r) (fun u t => vzPost D (va_A W sz) (W' u) t) (va_A W sz)) rm.cells rm.slots (va_A W sz)
def VX (p : Program) (l : Launch) (e : Env) (R : Room) (s : State) (m : MethodId) (args : Array Value) (below : List Frame) (meth : Method) (c : Code) (nL : Nat) (D : va_G) (A : Nat → Prop) (Q : State → Prop) (ws : va_W) (kc ks : Nat) (pc : Nat) (lv : vzLoc) (E : String) : Prop :=
  ∀ (H : Heap) (locs : List Loc) (ls : Array Slot) (q9 : Nat) (ce : Cell) (rest : List Value), va_P D vwCl ws H → va_D A ws → va_S A s.heap H locs → lv_has ls nL lv → H[q9]? = some ce → ce.vm = .none → s.vm.findClass E = some ce.cls → vx_W p l e R s m args below meth c H locs kc ks Q (F0 m pc ls rest) q9
section VXL
variable {p : Program} {l : Launch} {e : Env} {R : Room} {s : State} {m : MethodId} {args : Array Value} {below : List Frame} {meth : Method} {c : Code} {cc : ByteArray} {nL : Nat} {Ts : List Cond} {y : MethodName} {D : va_G} {T : vzT} {A : Nat → Prop} {Q : State → Prop} {ws : va_W} {kc ks pc : Nat} {lv : vzLoc} {st : List Value} {E : String}
theorem vz_throw (C : MX p s m args meth c cc nL Ts y D T A) (hst : l.stackTraces = false) (hZ : vzSt A s s.heap) (hno : ∀ x ∈ c.exceptionTable.toList, False) {cls text : String} {names : List String} {ik is ic mc ms : Nat} {S : Type} {W' : S → va_W} (u : S)
    (d0 : decode cc pc = .ok (.new ik, 3)) (d3 : decode cc (pc + 3) = .ok (.dup, 1)) (d4 : decode cc (pc + 4) = .ok (.ldc is, 2)) (d6 : decode cc (pc + 6) = .ok (.invokespecial ic, 3)) (d9 : decode cc (pc + 9) = .ok (.athrow, 1))
    (hcls : Bundle.fit cls = true) (hnames : ∀ n ∈ names, Bundle.fit n = true) (hk : Cond.classLink y.cls ik cls ∈ Ts) (hini : Cond.initialized cls ∈ Ts) (htx : (y.cls, is, text) ∈ stL) (hex : cls ∈ exL)
    (h1 : ∀ w ∈ (vx_atS y.cls ic cls names).filter goodWord, w ∈ Ts) (h2 : ∀ w ∈ (vx_atS y.cls ic cls names).filter (fun w => !goodWord w), w ∈ Cond.castable cls cls :: dcL.map Cond.declares)
    (hgood : ∀ w ∈ Cond.classLink y.cls ik cls :: Cond.initialized cls :: vx_atS y.cls ic cls names, vx_ot w = true)
    (hRf : names.length + 3 < R.frames) (hRl : (st.map fun v => v.category).sum + (13 * (names.length + 1) + 43) ≤ R.locals) (hRc : kc + 1 ≤ R.cells) (hRs : ks + 6 ≤ R.slots) (hc : kc + 1 ≤ mc) (hs : ks + 6 ≤ ms) (hE : cls = E) (hW : ws = W' u) : VZ p l e R s m args below meth c nL D A (vx_MQ below (fun _ _ _ _ => False) (vx_X (fun _ : S => True) (fun E' u t => E' = E ∧ vzPost D A (W' u) t) A) args s mc ms A) ws kc ks pc lv st := fun H locs ls hP hD hS hl => by
  subst hE; subst hW
  obtain ⟨sa, hsa⟩ := C.nw.2.1 _ htx
  refine vx_throwS C.x C.b hst C.own hcls hnames (C.ts _ hk) (C.ts _ hini) hsa (vx_hat (B := Cond.castable cls cls :: dcL.map Cond.declares) (fun w hw => C.ts _ (h1 w hw)) h2 (vx_c (va_Nw.use rfl (C.nw.2.2.1 _ hex)) (fun w hw => (List.mem_map.mp hw).elim fun x hx => hx.2 ▸ va_Nw.use rfl (C.nw.2.2.2.2 x hx.1)))) hgood hZ.1 hZ.2 hS (hl.1.trans C.ml.symm) d0 d3 d4 d6 d9 (fun x hx => (hno x hx).elim) hRf hRl hRc hRs C.lk (fun t hvm hz hk2 => ⟨u, trivial, ⟨rfl, hP.kept (fun k q hq => hk2 _ ((hP k q hq).lt)), hD⟩, Nat.le_trans hS.1 hz, fun q hq hA => (hk2 q (Nat.lt_of_lt_of_le hq hS.1)).trans (hS.2.1 q hq hA)⟩) hS.2.2 hc hs
theorem vz_out (C : MX p s m args meth c cc nL Ts y D T A) (hno : ∀ x ∈ c.exceptionTable.toList, False) {mc ms : Nat} {S : Type} {W' : S → va_W} {E1 : String} (u : S) (hc : kc ≤ mc) (hs : ks ≤ ms) (hE : E1 = E) (hW : ws = W' u) : VX p l e R s m args below meth c nL D A (vx_MQ below (fun _ _ _ _ => False) (vx_X (fun _ : S => True) (fun E' u t => E' = E ∧ vzPost D A (W' u) t) A) args s mc ms A) ws kc ks pc lv E1 := fun H locs ls q9 ce rest hP hD hS hl hcell hv hcl => by
  subst hE; subst hW
  exact vx_out (fun x hx => (hno x hx).elim) C.lk hcell hv hcl (fun t ht hvm => ⟨u, trivial, ⟨rfl, by rw [ht]; exact hP, hD⟩, hS.F ht⟩) hS.2.2 hc hs
theorem vz_xws {ws' : va_W} (h : ws' = ws) (k : VX p l e R s m args below meth c nL D A Q ws' kc ks pc lv E) : VX p l e R s m args below meth c nL D A Q ws kc ks pc lv E := h ▸ k
theorem vz_xwiden {k' n' : Nat} (h1 : kc ≤ k') (h2 : ks ≤ n') (k : VX p l e R s m args below meth c nL D A Q ws k' n' pc lv E) : VX p l e R s m args below meth c nL D A Q ws kc ks pc lv E := fun H locs ls q9 ce rest hP hD hS hl hcell hv hcl => vx_widen h1 h2 (k H locs ls q9 ce rest hP hD hS hl hcell hv hcl)
theorem vz_catch (C : MX p s m args meth c cc nL Ts y D T A) {name : String} (pre : List ExceptionTableEntry) (x : ExceptionTableEntry) (suf : List ExceptionTableEntry) {tgt : Nat} (hsplit : c.exceptionTable.toList = pre ++ x :: suf)
    (hpass : ∀ z ∈ pre, covers z pc = false ∨ (z.catchType ≠ 0 ∧ ∃ nm : String, Cond.classLink y.cls z.catchType nm ∈ Ts ∧ (E, nm) ∈ ncL)) (hx : covers x pc = true) (h0 : x.catchType ≠ 0) (hlink : Cond.classLink y.cls x.catchType name ∈ Ts) (hex : E ∈ exL) (hE : E = name) (ht : x.handlerPc = tgt)
    (k : ∀ q9 : Nat, VZ p l e R s m args below meth c nL D A Q ws kc ks tgt lv [.ref q9]) : VX p l e R s m args below meth c nL D A Q ws kc ks pc lv E := fun H locs ls q9 ce rest hP hD hS hl hcell hv hcl => by
  subst hE
  refine vx_catch C.own pre x suf hsplit (fun z hz => (hpass z hz).imp id (fun h => ⟨h.1, h.2.elim fun nm h => ⟨nm, C.ts _ h.1, C.nw.2.2.2.1 _ h.2⟩⟩)) hx h0 (C.ts _ hlink) (va_Nw.use rfl (C.nw.2.2.1 _ hex)) hcell hv hcl ?_
  rw [ht]
  exact k q9 H locs ls hP hD hS hl
theorem vz_callF {H : Heap} {locs : List Loc} {ls : Array Slot} {A0 AX : Nat → Prop} {H0 : Heap} {mc ms : Nat} {free : Addr → Prop} {st0 rest : List Value} {SX : Type} {px : SX → Prop} {BX : String → SX → State → Prop} (hr : vx_Run p l e R s m args below meth c H locs kc ks mc ms (F0 m pc ls st0) rest (fun _ _ _ => False) (vx_X px BX AX) free) (hS : va_S A0 H0 H locs) (hf : ∀ q, free q → A0 q) (hAX : ∀ q, q < H.size → AX q → A0 q)
    (kx : ∀ (E : String) (ce : Cell) (q9 : Addr) (u : SX) (t : State) (H1 : Heap) (locs1 : List Loc), t.heap = H1 → s.vm.Alike t.vm → px u → BX E u t → H.size ≤ H1.size → (∀ q : Nat, q < H.size → ¬ AX q → H1[q]? = H[q]?) → va_S A0 H0 H1 locs1 → H1[q9]? = some ce → ce.vm = .none → s.vm.findClass E = some ce.cls → vx_W p l e R s m args below meth c H1 locs1 (kc + mc) (ks + ms) Q (F0 m pc ls rest) q9) : W p l e R s m args below meth c H locs kc ks Q (F0 m pc ls st0) := by
  intro T hT X
  rcases hr T hT X with ⟨v, st₀, t, T', L, h0, X', hL, e1, e2, hfalse, st⟩ | ⟨q, st₀, t, T', L, E, ce, h0, X', hL, e1, e2, ⟨u, hp, hb, hF⟩, hce, hcv, hcl, st⟩
  · exact hfalse.elim
  · obtain ⟨k1, k2, k3⟩ := vx_keep h0 e1 hS hAX hf hL hF
    obtain ⟨t2, a1, b1⟩ := kx E ce q u t T'.heap (locs ++ L) e1.symm (by rw [← e2]; exact X'.warmed.alike) hp hb k1 k2 k3 (by rw [e1]; exact hce) hcv hcl T' rfl X'
    exact ⟨t2, st.trans a1, b1⟩
variable {y1 : MethodName} {C1 : String} {ws1 ws1' : List Cond} {rm1 : Room} {bytes : ByteArray} {maxL index n : Nat} {ret1 : Option FieldType} {As rest : List Value} {b : Nat} {W1 W1' wr : va_W}
theorem vz_callX (C : MX p s m args meth c cc nL Ts y D T A) (hZ : vzSt A s s.heap) {S : Type} (W1f : S → va_W) (W2 : S → va_W) (hc : cnX l y1 ws1 rm1 D T (.ref b :: As) W1 E W1f) (hdg : decode cc pc = .ok (.invokevirtual index, 3)) (hg : GoodIn Ts (wsV y.cls index C1 y1 ws1)) (hw : ws1 = Cond.code y1 bytes maxL ret1 :: ws1') (hd : y1.cls = C1 ∧ y1.cls ≠ "java/lang/invoke/MethodHandle" ∧ y1.cls ≠ "java/lang/invoke/VarHandle" ∧ (parseMethodDescriptor y1.desc).map (fun d => d.parameters.length) = some n) (hR : rm1.frames + 1 ≤ R.frames ∧ 8 + (maxL + 11) + rm1.locals ≤ R.locals) (hf : kc + rm1.cells ≤ R.cells ∧ ks + rm1.slots ≤ R.slots) {ci q0 : Nat} {fs : List Value} {cl : vw_C} (hcl : vwCl[ci]? = some cl) (hC1 : cl.1 = C1) (hq : W1[q0]? = some (b, .inr (ci, fs))) (hn : As.length = n) (hst : st = As.reverse ++ .ref b :: rest) (hrm : (rest.map fun v => v.category).sum ≤ 8) (isC isR isN : List Nat) (hnd : (va_nd isC && va_nd isR && va_nd isN && isR.all (fun i => !isC.contains i)) = true) (hC : isC.map (fun i => ws[i]?) = W1.map some) (hRR : isR.map (fun i => ws[i]?) = wr.map some) (hN : ∀ u : S, isN.map (fun i => (wr ++ W1f u)[i]?) = (W2 u).map some) (k : ∀ u : S, VX p l e R s m args below meth c nL D A Q (W2 u) (kc + rm1.cells) (ks + rm1.slots) pc lv E) : VZ p l e R s m args below meth c nL D A Q ws kc ks pc lv st := fun H locs ls hP hD hS hl => by
  subst hst
  subst hC1
  obtain ⟨hndC, hndR, hndN, hdis⟩ := vz_nd hnd
  have hPc : va_P D vwCl W1 H := hP.sub isC (vz_fm hC)
  have hDc := hD.sub isC hndC hC
  have hFc := va_free hD hS C.hA isC hC
  have hZ1 : vzSt (va_A W1 H.size) s H := (hZ.kept (fun a h1 h2 => hS.2.1 a h1 h2)).narrow hFc
  refine vz_callF (vx_runV (As := As) (rest := rest) ⟨C.x, C.b, C.ml, C.own, C.ts⟩ (hc H.size) (cwV n C.ts hg hw rfl rfl hd hR) ⟨vzBlindX D T H.size W1 (.ref b :: As), va_recv C.K hPc hcl hq, fun U hU hW => ⟨rfl, ⟨by rw [hU], by rw [hU]; exact hPc, va_K.moved hW.alike C.K, vzNW.warm hW C.nw, hDc.weaken (fun _ _ _ _ => trivial)⟩, by rw [hU]; exact hZ1.moved hW.alike⟩⟩ rfl hn hl.1 rfl (lv_room hrm) hdg hf) hS hFc (fun q _ h => hFc q h) (fun E1 ce q9 u t H1 locs1 ht hvm hpx hB hz1 hk1 hS1 hcell hv hcl9 => ?_)
  obtain ⟨hE, hP1, hD1⟩ := hB
  subst hE
  rw [ht] at hP1
  obtain ⟨hP2, hD2⟩ := va_join (wr := wr) (w1 := W1f u) hP hD isC isR hC hRR hndR hdis hk1 hFc hP1 hD1
  exact k u H1 locs1 ls q9 ce rest (hP2.sub isN (vz_fm (hN u))) (hD2.sub isN hndN (hN u)) hS1 hl hcell hv hcl9
theorem vz_catchSi (C : MX p s m args meth c cc nL Ts y D T A) {r : Int32} {S : Type} (W1f : S → va_W) (W2 : S → va_W) {hh : List (Nat × Nat × Nat × Nat)} (hc : cnI l y1 ws1 rm1 D T As W1 r W1f) (hdg : decode cc pc = .ok (.invokestatic index, 3)) (hg : GoodIn Ts (va_wsS y.cls index y1 ws1)) (hw : ws1 = Cond.codeWith y1 bytes maxL ret1 hh :: ws1') (hd : y1.cls ≠ "java/lang/invoke/MethodHandle" ∧ y1.cls ≠ "java/lang/invoke/VarHandle" ∧ (parseMethodDescriptor y1.desc).map (fun d => d.parameters.length) = some n) (hR : rm1.frames + 1 ≤ R.frames ∧ 8 + (maxL + 11) + rm1.locals ≤ R.locals) (hf : kc + rm1.cells ≤ R.cells ∧ ks + rm1.slots ≤ R.slots) (hn : As.length = n) (hst : st = As.reverse ++ rest) (hrm : (rest.map fun v => v.category).sum ≤ 8) (isC isR isN : List Nat) (hnd : (va_nd isC && va_nd isR && va_nd isN && isR.all (fun i => !isC.contains i)) = true) (hC : isC.map (fun i => ws[i]?) = W1.map some) (hRR : isR.map (fun i => ws[i]?) = wr.map some) (hN : ∀ u : S, isN.map (fun i => (wr ++ W1f u)[i]?) = (W2 u).map some) (k : ∀ u : S, VZ p l e R s m args below meth c nL D A Q (W2 u) (kc + rm1.cells) (ks + rm1.slots) (pc + 3) lv (.int r :: rest)) : VZ p l e R s m args below meth c nL D A Q ws kc ks pc lv st := fun H locs ls hP hD hS hl => by
  subst hst
  obtain ⟨hndC, hndR, hndN, hdis⟩ := vz_nd hnd
  have hPc : va_P D vwCl W1 H := hP.sub isC (vz_fm hC)
  have hDc := hD.sub isC hndC hC
  have hFc := va_free hD hS C.hA isC hC
  refine va_calli (vx_runSW (As := As) (rest := rest) ⟨C.x, C.b, C.ml, C.own, C.ts⟩ (hc H.size) (vx_cwSW n C.ts hg hw rfl rfl hd hR) ⟨vzBlind D T H.size W1 As, fun U hU hW => ⟨rfl, by rw [hU], by rw [hU]; exact hPc, va_K.moved hW.alike C.K, vzNW.warm hW C.nw, hDc.weaken (fun _ _ _ _ => trivial)⟩⟩ rfl hn hl.1 rfl (lv_room hrm) hdg hf) hS (fun q _ h => hFc q h) hFc (fun r1 u t H1 locs1 ht hvm hw hB hz1 hk1 hS1 => ?_)
  obtain ⟨hP1, hD1⟩ := hB
  rw [ht] at hP1
  subst hw
  obtain ⟨hP2, hD2⟩ := va_join (wr := wr) (w1 := W1f u) hP hD isC isR hC hRR hndR hdis hk1 hFc hP1 hD1
  exact k u H1 locs1 ls (hP2.sub isN (vz_fm (hN u))) (hD2.sub isN hndN (hN u)) hS1 hl
theorem vz_catchZi (C : MX p s m args meth c cc nL Ts y D T A) (hZ : vzSt A s s.heap) {r : Int32} {S : Type} (W1f : S → va_W) (W2 : S → va_W) {hh : List (Nat × Nat × Nat × Nat)} (hc : cnIZ l y1 ws1 rm1 D T As W1 r W1f) (hdg : decode cc pc = .ok (.invokestatic index, 3)) (hg : GoodIn Ts (va_wsS y.cls index y1 ws1)) (hw : ws1 = Cond.codeWith y1 bytes maxL ret1 hh :: ws1') (hd : y1.cls ≠ "java/lang/invoke/MethodHandle" ∧ y1.cls ≠ "java/lang/invoke/VarHandle" ∧ (parseMethodDescriptor y1.desc).map (fun d => d.parameters.length) = some n) (hR : rm1.frames + 1 ≤ R.frames ∧ 8 + (maxL + 11) + rm1.locals ≤ R.locals) (hf : kc + rm1.cells ≤ R.cells ∧ ks + rm1.slots ≤ R.slots) (hn : As.length = n) (hst : st = As.reverse ++ rest) (hrm : (rest.map fun v => v.category).sum ≤ 8) (isC isR isN : List Nat) (hnd : (va_nd isC && va_nd isR && va_nd isN && isR.all (fun i => !isC.contains i)) = true) (hC : isC.map (fun i => ws[i]?) = W1.map some) (hRR : isR.map (fun i => ws[i]?) = wr.map some) (hN : ∀ u : S, isN.map (fun i => (wr ++ W1f u)[i]?) = (W2 u).map some) (k : ∀ u : S, VZ p l e R s m args below meth c nL D A Q (W2 u) (kc + rm1.cells) (ks + rm1.slots) (pc + 3) lv (.int r :: rest)) : VZ p l e R s m args below meth c nL D A Q ws kc ks pc lv st := fun H locs ls hP hD hS hl => by
  subst hst
  obtain ⟨hndC, hndR, hndN, hdis⟩ := vz_nd hnd
  have hPc : va_P D vwCl W1 H := hP.sub isC (vz_fm hC)
  have hDc := hD.sub isC hndC hC
  have hFc := va_free hD hS C.hA isC hC
  have hZ1 : vzSt (va_A W1 H.size) s H := (hZ.kept (fun a h1 h2 => hS.2.1 a h1 h2)).narrow hFc
  refine va_calli (vx_runSW (As := As) (rest := rest) ⟨C.x, C.b, C.ml, C.own, C.ts⟩ (hc H.size) (vx_cwSW n C.ts hg hw rfl rfl hd hR) ⟨vzBlindX D T H.size W1 As, fun U hU hW => ⟨rfl, ⟨by rw [hU], by rw [hU]; exact hPc, va_K.moved hW.alike C.K, vzNW.warm hW C.nw, hDc.weaken (fun _ _ _ _ => trivial)⟩, by rw [hU]; exact hZ1.moved hW.alike⟩⟩ rfl hn hl.1 rfl (lv_room hrm) hdg hf) hS (fun q _ h => hFc q h) hFc (fun r1 u t H1 locs1 ht hvm hw hB hz1 hk1 hS1 => ?_)
  obtain ⟨hP1, hD1⟩ := hB
  rw [ht] at hP1
  subst hw
  obtain ⟨hP2, hD2⟩ := va_join (wr := wr) (w1 := W1f u) hP hD isC isR hC hRR hndR hdis hk1 hFc hP1 hD1
  exact k u H1 locs1 ls (hP2.sub isN (vz_fm (hN u))) (hD2.sub isN hndN (hN u)) hS1 hl
end VXL
theorem cnX.mk {l : Launch} {y : MethodName} {ws ws' : List Cond} {rm : Room} {D : va_G} {T : vzT} {av : List Value} {W : va_W} {E : String} {S : Type} {W' : S → va_W} {cc : ByteArray} {nL : Nat} {ret : Option FieldType} (hy : plainName y.cls = true) (hw : ws = Cond.code y cc nL ret :: ws') (hn : (lg_sl av).length ≤ nL)
    (body : ∀ (p : Program) (e : Env) (s : State) (m : MethodId) (args : Array Value) (below : List Frame) (meth : Method) (c : Code) (A : Nat → Prop), MX p s m args meth c cc nL ws y D T A → vzSt A s s.heap → (∀ x ∈ c.exceptionTable.toList, False) → VZ p l e rm s m args below meth c nL D A (vx_MQ below (fun _ _ _ _ => False) (vx_X (fun _ : S => True) (fun E' u t => E' = E ∧ vzPost D A (W' u) t) A) args s rm.cells rm.slots A) W 0 0 0 (lv_args 0 av) []) : cnX l y ws rm D T av W E W' := by
  intro sz
  refine vx_ofW (cc := cc) (maxL := nL) (ret := ret) hy hw ?_
  intro p e s m args below meth c s₁ B hml hno hv
  obtain ⟨rfl, ⟨hsz, hP, hK, hN, hD0⟩, hZ⟩ := hv
  subst hsz
  have hl := lv_entry av hn
  rw [lg_entry_eq]
  exact body p e s m av.toArray below meth c (va_A W s.heap.size) ⟨B.exec, B.bytes, hml, findClass_of_methodNamed B.named, atoms_spec (ws := ws) B.pre, B.notSynchronized, (name_of_methodNamed B.named B.method).1, hK, hN, fun q h => Or.inr h⟩ hZ hno s.heap [] _ hP hD0.self va_S.rf hl
theorem vz_ofWH {l : Launch} {y : MethodName} {ws ws' : List Cond} {rm : Room} {Pc : Array Value → State → Prop} {Qc : Array Value → State → Outcome → State → Prop} {mc ms : Nat} {free : Addr → Prop} {cc : ByteArray} {maxL : Nat} {ret : Option FieldType} {hh : List (Nat × Nat × Nat × Nat)}
    (hy : plainName y.cls = true) (hw : ws = Cond.codeWith y cc maxL ret hh :: ws')
    (body : ∀ p e s m args below meth c s₁, BodyLoose p l y (headSpec ws rm) cc maxL ret e s m args below meth c s₁ → c.maxLocals = maxL → Pc args s →
      W p l e (headSpec ws rm).room s m args below meth c s.heap [] 0 0 (MQ below Qc args s mc ms free) (entryFrame m args maxL)) : Met l y ws rm Pc Qc mc ms free := by
  refine MetFree.of_bodyS (code := cc) (maxLocals := maxL) (ret := ret) hy ?_ ?_
  · intro args s m h hn
    obtain ⟨m9, meth, c, hn9, h1, h2, h3, h4, -, h5, h6, -⟩ := Cond.codeWith_spec (atoms_spec (ws := ws) h _ (by rw [hw]; exact List.mem_cons_self))
    cases hn.symm.trans hn9
    exact ⟨meth, c, h1, h2, h3, h4, h5, h6⟩
  · intro p e s m args below meth c s₁ B hml hP _
    have hh0 : s₁.heap = s.heap := by rw [B.state]; rfl
    obtain ⟨t, a1, o, b1, b2, b3⟩ := body p e s m args below meth c s₁ B hml hP s₁ hh0 (Stand.of_body B)
    exact ⟨t, o, a1, b1, b2, ⟨b3.1, b3.2⟩⟩
theorem cnI.mkH {l : Launch} {y : MethodName} {ws ws' : List Cond} {rm : Room} {D : va_G} {T : vzT} {av : List Value} {W : va_W} {r : Int32} {S : Type} {W' : S → va_W} {cc : ByteArray} {nL : Nat} {ret : Option FieldType} {hh : List (Nat × Nat × Nat × Nat)} (hy : plainName y.cls = true) (hw : ws = Cond.codeWith y cc nL ret hh :: ws') (hn : (lg_sl av).length ≤ nL)
    (body : ∀ (p : Program) (e : Env) (s : State) (m : MethodId) (args : Array Value) (below : List Frame) (meth : Method) (c : Code) (A : Nat → Prop), MX p s m args meth c cc nL ws y D T A → meth.sig.returnType = ret → c.exceptionTable.toList = tableOf hh → VZ p l e rm s m args below meth c nL D A (MQ below (va_Qi (fun (r' : Int32) (_ : S) => r' = r) (fun u t => vzPost D A (W' u) t) A) args s rm.cells rm.slots A) W 0 0 0 (lv_args 0 av) []) : cnI l y ws rm D T av W r W' := by
  intro sz
  refine vz_ofWH (cc := cc) (maxL := nL) (ret := ret) (hh := hh) hy hw ?_
  intro p e s m args below meth c s₁ B hml hv
  obtain ⟨rfl, hsz, hP, hK, hN, hD0⟩ := hv
  subst hsz
  have hl := lv_entry av hn
  rw [lg_entry_eq]
  exact body p e s m av.toArray below meth c (va_A W s.heap.size) ⟨B.exec, B.bytes, hml, findClass_of_methodNamed B.named, atoms_spec (ws := ws) B.pre, B.notSynchronized, (name_of_methodNamed B.named B.method).1, hK, hN, fun q h => Or.inr h⟩ B.returns (vx_table (x := y) B (atoms_spec (ws := ws) B.pre _ (by rw [hw]; exact List.mem_cons_self))) s.heap [] _ hP hD0.self va_S.rf hl
theorem cnIZ.mkH {l : Launch} {y : MethodName} {ws ws' : List Cond} {rm : Room} {D : va_G} {T : vzT} {av : List Value} {W : va_W} {r : Int32} {S : Type} {W' : S → va_W} {cc : ByteArray} {nL : Nat} {ret : Option FieldType} {hh : List (Nat × Nat × Nat × Nat)} (hy : plainName y.cls = true) (hw : ws = Cond.codeWith y cc nL ret hh :: ws') (hn : (lg_sl av).length ≤ nL)
    (body : ∀ (p : Program) (e : Env) (s : State) (m : MethodId) (args : Array Value) (below : List Frame) (meth : Method) (c : Code) (A : Nat → Prop), MX p s m args meth c cc nL ws y D T A → meth.sig.returnType = ret → vzSt A s s.heap → c.exceptionTable.toList = tableOf hh → VZ p l e rm s m args below meth c nL D A (MQ below (va_Qi (fun (r' : Int32) (_ : S) => r' = r) (fun u t => vzPost D A (W' u) t) A) args s rm.cells rm.slots A) W 0 0 0 (lv_args 0 av) []) : cnIZ l y ws rm D T av W r W' := by
  intro sz
  refine vz_ofWH (cc := cc) (maxL := nL) (ret := ret) (hh := hh) hy hw ?_
  intro p e s m args below meth c s₁ B hml hv
  obtain ⟨rfl, ⟨hsz, hP, hK, hN, hD0⟩, hZ⟩ := hv
  subst hsz
  have hl := lv_entry av hn
  rw [lg_entry_eq]
  exact body p e s m av.toArray below meth c (va_A W s.heap.size) ⟨B.exec, B.bytes, hml, findClass_of_methodNamed B.named, atoms_spec (ws := ws) B.pre, B.notSynchronized, (name_of_methodNamed B.named B.method).1, hK, hN, fun q h => Or.inr h⟩ B.returns hZ (vx_table (x := y) B (atoms_spec (ws := ws) B.pre _ (by rw [hw]; exact List.mem_cons_self))) s.heap [] _ hP hD0.self va_S.rf hl
