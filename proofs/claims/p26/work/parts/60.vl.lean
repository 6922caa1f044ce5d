/-! MORE OF THE LAYER -/
section VL4
variable {p : Program} {l : Launch} {e : Env} {R : Room} {s : State} {m : MethodId} {args : Array Value} {below : List Frame} {meth : Method} {c : Code} {cc : ByteArray} {nL : Nat} {Ts : List Cond} {y : MethodName} {D : va_G} {T : vzT} {A : Nat → Prop} {Q : State → Prop} {ws : va_W} {kc ks pc : Nat} {lv : vzLoc} {st : List Value}
theorem vz_ldc2 (C : MX p s m args meth c cc nL Ts y D T A) {index : Nat} {v : Int64} (hdg : decode cc pc = .ok (.ldc2_w index, 3)) (hm : Cond.constantLong y.cls index v ∈ Ts) (k : VZ p l e R s m args below meth c nL D A Q ws kc ks (pc + 3) lv (.long v :: st)) : VZ p l e R s m args below meth c nL D A Q ws kc ks pc lv st := fun H locs ls hP hD hS hl => lv_ldc2 C.x C.b C.own (C.ts _ hm) hdg (k H locs ls hP hD hS hl)
theorem vz_lmul (C : MX p s m args meth c cc nL Ts y D T A) {x y2 z : Int64} (hdg : decode cc pc = .ok (.lmul, 1)) (hz : x * y2 = z) (k : VZ p l e R s m args below meth c nL D A Q ws kc ks (pc + 1) lv (.long z :: st)) : VZ p l e R s m args below meth c nL D A Q ws kc ks pc lv (.long y2 :: .long x :: st) := fun H locs ls hP hD hS hl => lv_lmul C.x C.b hdg (hz ▸ k H locs ls hP hD hS hl)
theorem vz_lushr (C : MX p s m args meth c cc nL Ts y D T A) {x z : Int64} {y2 : Int32} (hdg : decode cc pc = .ok (.lushr, 1)) (hz : (x.toUInt64 >>> (y2.toInt64.toUInt64 &&& Int64.toUInt64 63)).toInt64 = z) (k : VZ p l e R s m args below meth c nL D A Q ws kc ks (pc + 1) lv (.long z :: st)) : VZ p l e R s m args below meth c nL D A Q ws kc ks pc lv (.int y2 :: .long x :: st) := fun H locs ls hP hD hS hl => lv_lushr C.x C.b hdg hz (k H locs ls hP hD hS hl)
theorem vz_l2i (C : MX p s m args meth c cc nL Ts y D T A) {x : Int64} {z : Int32} (hdg : decode cc pc = .ok (.l2i, 1)) (hz : x.toInt32 = z) (k : VZ p l e R s m args below meth c nL D A Q ws kc ks (pc + 1) lv (.int z :: st)) : VZ p l e R s m args below meth c nL D A Q ws kc ks pc lv (.long x :: st) := fun H locs ls hP hD hS hl => lv_l2i C.x C.b hdg hz (k H locs ls hP hD hS hl)
theorem vz_perm (ws' : va_W) (is : List Nat) (hnd : va_nd is = true) (h : is.map (fun i => ws[i]?) = ws'.map some) (k : VZ p l e R s m args below meth c nL D A Q ws' kc ks pc lv st) : VZ p l e R s m args below meth c nL D A Q ws kc ks pc lv st := fun H locs ls hP hD hS hl => k H locs ls (hP.sub is (vz_fm h)) (hD.sub is hnd h) hS hl
theorem vz_sld (C : MX p s m args meth c cc nL Ts y D T A) {b L : Nat} {xs : Nat → Int32} (hX : va_X b L xs s s.heap) (hbl : b < s.heap.size) (hbA : ¬ A b) {i v : Int32} (j : Nat) (hdg : decode cc pc = .ok (.iaload, 1)) (hi : i = nI j) (hj : j < L) (hL : L < 2 ^ 31) (hv : xs j = v) (k : VZ p l e R s m args below meth c nL D A Q ws kc ks (pc + 1) lv (.int v :: st)) : VZ p l e R s m args below meth c nL D A Q ws kc ks pc lv (.int i :: .ref b :: st) := fun H locs ls hP hD hS hl => by
  subst hi
  subst hv
  refine va_sld C.x C.b hX hbl hbA hS (vp_in_nI hj hL) hdg ?_
  rw [nI_clamp (Nat.lt_trans hj hL)]
  exact k H locs ls hP hD hS hl
theorem vz_slen (C : MX p s m args meth c cc nL Ts y D T A) {b L : Nat} {xs : Nat → Int32} (hX : va_X b L xs s s.heap) (hbl : b < s.heap.size) (hbA : ¬ A b) (hdg : decode cc pc = .ok (.arraylength, 1)) (k : VZ p l e R s m args below meth c nL D A Q ws kc ks (pc + 1) lv (.int (nI L) :: st)) : VZ p l e R s m args below meth c nL D A Q ws kc ks pc lv (.ref b :: st) := fun H locs ls hP hD hS hl =>
  va_slen C.x C.b hX hbl hbA hS hdg (k H locs ls hP hD hS hl)
variable {y1 : MethodName} {C1 : String} {ws1 ws1' : List Cond} {rm1 : Room} {bytes : ByteArray} {maxL index n : Nat} {ret1 : Option FieldType} {As rest : List Value} {b : Nat} {W1 W1' wr : va_W}
theorem vz_callSZi (C : MX p s m args meth c cc nL Ts y D T A) (hZ : vzSt A s s.heap) {r : Int32} {S : Type} (W1f : S → va_W) (W2 : S → va_W) (hc : cnIZ l y1 ws1 rm1 D T As W1 r W1f) (hdg : decode cc pc = .ok (.invokestatic index, 3)) (hg : GoodIn Ts (va_wsS y.cls index y1 ws1)) (hw : ws1 = Cond.code y1 bytes maxL ret1 :: ws1') (hd : y1.cls ≠ "java/lang/invoke/MethodHandle" ∧ y1.cls ≠ "java/lang/invoke/VarHandle" ∧ (parseMethodDescriptor y1.desc).map (fun d => d.parameters.length) = some n) (hR : rm1.frames + 1 ≤ R.frames ∧ 8 + (maxL + 11) + rm1.locals ≤ R.locals) (hf : kc + rm1.cells ≤ R.cells ∧ ks + rm1.slots ≤ R.slots) (hn : As.length = n) (hst : st = As.reverse ++ rest) (hrm : (rest.map fun v => v.category).sum ≤ 8) (isC isR isN : List Nat) (hnd : (va_nd isC && va_nd isR && va_nd isN && isR.all (fun i => !isC.contains i)) = true) (hC : isC.map (fun i => ws[i]?) = W1.map some) (hRR : isR.map (fun i => ws[i]?) = wr.map some) (hN : ∀ u : S, isN.map (fun i => (wr ++ W1f u)[i]?) = (W2 u).map some) (k : ∀ u : S, VZ p l e R s m args below meth c nL D A Q (W2 u) (kc + rm1.cells) (ks + rm1.slots) (pc + 3) lv (.int r :: rest)) : VZ p l e R s m args below meth c nL D A Q ws kc ks pc lv st := fun H locs ls hP hD hS hl => by
  subst hst
  obtain ⟨hndC, hndR, hndN, hdis⟩ := vz_nd hnd
  have hPc : va_P D vwCl W1 H := hP.sub isC (vz_fm hC)
  have hDc := hD.sub isC hndC hC
  have hFc := va_free hD hS C.hA isC hC
  have hZ1 : vzSt (va_A W1 H.size) s H := (hZ.kept (fun a h1 h2 => hS.2.1 a h1 h2)).narrow hFc
  refine va_calli (va_runS (As := As) (rest := rest) ⟨C.x, C.b, C.ml, C.own, C.ts⟩ (hc H.size) (va_cwS n C.ts hg hw rfl rfl hd hR) ⟨vzBlindX D T H.size W1 As, fun U hU hW => ⟨rfl, ⟨by rw [hU], by rw [hU]; exact hPc, va_K.moved hW.alike C.K, vzNW.warm hW C.nw, hDc.weaken (fun _ _ _ _ => trivial)⟩, by rw [hU]; exact hZ1.moved hW.alike⟩⟩ rfl hn hl.1 rfl (lv_room hrm) hdg hf) hS (fun q _ h => hFc q h) hFc (fun r1 u t H1 locs1 ht hvm hw hB hz1 hk1 hS1 => ?_)
  obtain ⟨hP1, hD1⟩ := hB
  rw [ht] at hP1
  subst hw
  obtain ⟨hP2, hD2⟩ := va_join (wr := wr) (w1 := W1f u) hP hD isC isR hC hRR hndR hdis hk1 hFc hP1 hD1
  exact k u H1 locs1 ls (hP2.sub isN (vz_fm (hN u))) (hD2.sub isN hndN (hN u)) hS1 hl
end VL4
theorem cnI.to {l : Launch} {y : MethodName} {ws : List Cond} {rm : Room} {D : va_G} {T : vzT} {av : List Value} {W : va_W} {r r2 : Int32} {S1 S2 : Type} {W1 : S1 → va_W} {W2 : S2 → va_W} (h : cnI l y ws rm D T av W r W1) (hr : r = r2) (hu : ∀ u : S1, ∃ u2 : S2, W1 u = W2 u2) : cnI l y ws rm D T av W r2 W2 := by
  subst hr
  intro sz
  refine MetFree.mono (h sz) (fun _ _ p => p) (fun _ _ _ _ _ p => p) (fun a s o t _ q => ?_)
  obtain ⟨⟨⟨r', u, h1, h2, h3⟩, h4⟩, h5⟩ := q
  obtain ⟨u2, e⟩ := hu u
  refine ⟨⟨⟨r', u2, h1, h2, ?_⟩, h4⟩, h5⟩
  show vzPost D (va_A W sz) (W2 u2) t
  rw [← e]
  exact h3
theorem cnIZ.to {l : Launch} {y : MethodName} {ws : List Cond} {rm : Room} {D : va_G} {T : vzT} {av : List Value} {W : va_W} {r r2 : Int32} {S1 S2 : Type} {W1 : S1 → va_W} {W2 : S2 → va_W} (h : cnIZ l y ws rm D T av W r W1) (hr : r = r2) (hu : ∀ u : S1, ∃ u2 : S2, W1 u = W2 u2) : cnIZ l y ws rm D T av W r2 W2 := by
  subst hr
  intro sz
  refine MetFree.mono (h sz) (fun _ _ p => p) (fun _ _ _ _ _ p => p) (fun a s o t _ q => ?_)
  obtain ⟨⟨⟨r', u, h1, h2, h3⟩, h4⟩, h5⟩ := q
  obtain ⟨u2, e⟩ := hu u
  refine ⟨⟨⟨r', u2, h1, h2, ?_⟩, h4⟩, h5⟩
  show vzPost D (va_A W sz) (W2 u2) t
  rw [← e]
  exact h3
theorem cnL.to {l : Launch} {y : MethodName} {ws : List Cond} {rm : Room} {D : va_G} {T : vzT} {av : List Value} {W : va_W} {r r2 : Int64} {S1 S2 : Type} {W1 : S1 → va_W} {W2 : S2 → va_W} (h : cnL l y ws rm D T av W r W1) (hr : r = r2) (hu : ∀ u : S1, ∃ u2 : S2, W1 u = W2 u2) : cnL l y ws rm D T av W r2 W2 := by
  subst hr
  intro sz
  refine MetFree.mono (h sz) (fun _ _ p => p) (fun _ _ _ _ _ p => p) (fun a s o t _ q => ?_)
  obtain ⟨⟨⟨r', u, h1, h2, h3⟩, h4⟩, h5⟩ := q
  obtain ⟨u2, e⟩ := hu u
  refine ⟨⟨⟨r', u2, h1, h2, ?_⟩, h4⟩, h5⟩
  show vzPost D (va_A W sz) (W2 u2) t
  rw [← e]
  exact h3
theorem cnI.toZ {l : Launch} {y : MethodName} {ws : List Cond} {rm : Room} {D : va_G} {T : vzT} {av : List Value} {W : va_W} {r : Int32} {S1 : Type} {W1 : S1 → va_W} (h : cnI l y ws rm D T av W r W1) : cnIZ l y ws rm D T av W r W1 := by
  intro sz
  exact MetFree.mono (h sz) (fun _ _ p => ⟨p.1, p.2.1⟩) (fun _ _ _ _ _ p => p) (fun a s o t _ q => q)
/-- more room asked than used -/
theorem cnIZ.more {l : Launch} {y : MethodName} {ws : List Cond} {f c n o c2 n2 : Nat} {D : va_G} {T : vzT} {av : List Value} {W : va_W} {r : Int32} {S1 : Type} {W1 : S1 → va_W} (h : cnIZ l y ws { frames := f, cells := c, slots := n, locals := o } D T av W r W1) (hr : c = c2 ∧ n = n2) : cnIZ l y ws { frames := f, cells := c2, slots := n2, locals := o } D T av W r W1 := by
  obtain ⟨h1, h2⟩ := hr
  subst h1
  subst h2
  exact h
theorem cnIZ.mk {l : Launch} {y : MethodName} {ws ws' : List Cond} {rm : Room} {D : va_G} {T : vzT} {av : List Value} {W : va_W} {r : Int32} {S : Type} {W' : S → va_W} {cc : ByteArray} {nL : Nat} {ret : Option FieldType} (hy : plainName y.cls = true) (hw : ws = Cond.code y cc nL ret :: ws') (hn : (lg_sl av).length ≤ nL)
    (body : ∀ (p : Program) (e : Env) (s : State) (m : MethodId) (args : Array Value) (below : List Frame) (meth : Method) (c : Code) (A : Nat → Prop), MX p s m args meth c cc nL ws y D T A → vzSt A s s.heap → meth.sig.returnType = ret → VZ p l e rm s m args below meth c nL D A (MQ below (va_Qi (fun (r' : Int32) (_ : S) => r' = r) (fun u t => vzPost D A (W' u) t) A) args s rm.cells rm.slots A) W 0 0 0 (lv_args 0 av) []) : cnIZ l y ws rm D T av W r W' := by
  intro sz
  refine Met.ofW (cc := cc) (maxL := nL) (ret := ret) hy hw ?_
  intro p e s m args below meth c s₁ B hml hv
  obtain ⟨rfl, ⟨hsz, hP, hK, hN, hD0⟩, hZ⟩ := hv
  subst hsz
  have hl := lv_entry av hn
  rw [lg_entry_eq]
  exact body p e s m av.toArray below meth c (va_A W s.heap.size) ⟨B.exec, B.bytes, hml, findClass_of_methodNamed B.named, atoms_spec (ws := ws) B.pre, B.notSynchronized, (name_of_methodNamed B.named B.method).1, hK, hN, fun q h => Or.inr h⟩ hZ B.returns s.heap [] _ hP hD0.self va_S.rf hl
/-- a method that reads the law's script: an array that no world holds -/
def cnS (l : Launch) (y : MethodName) (ws : List Cond) (rm : Room) (D : va_G) (T : vzT) (av : List Value) (b L : Nat) (xs : Nat → Int32) (r : Int32) : Prop := ∀ sz : Nat, Met l y ws rm (va_Pc av (fun U => vzPre D T sz [] U ∧ va_X b L xs U U.heap ∧ b < sz)) (va_Qi (fun (r' : Int32) (_ : Unit) => r' = r) (fun u t => vzPost D (va_A [] sz) ((fun _ : Unit => ([] : va_W)) u) t) (va_A [] sz)) rm.cells rm.slots (va_A [] sz)
theorem vzBlindS (D : va_G) (T : vzT) (sz b L : Nat) (xs : Nat → Int32) (av : List Value) : FrameBlind (va_Pc av (fun U => vzPre D T sz [] U ∧ va_X b L xs U U.heap ∧ b < sz)) := by
  intro a U g mk q
  obtain ⟨h1, h2, h3, h4⟩ := q
  have h5 := vzBlind D T sz [] av a U g mk ⟨h1, h2⟩
  exact ⟨h5.1, h5.2, va_X.moved (u := U) (U := U.calling g mk a) (Vm.Alike.refl U.vm) h3, h4⟩
theorem cnS.mk {l : Launch} {y : MethodName} {ws ws' : List Cond} {rm : Room} {D : va_G} {T : vzT} {av : List Value} {b L : Nat} {xs : Nat → Int32} {r : Int32} {cc : ByteArray} {nL : Nat} {ret : Option FieldType} (hy : plainName y.cls = true) (hw : ws = Cond.code y cc nL ret :: ws') (hn : (lg_sl av).length ≤ nL)
    (body : ∀ (p : Program) (e : Env) (s : State) (m : MethodId) (args : Array Value) (below : List Frame) (meth : Method) (c : Code) (A : Nat → Prop), MX p s m args meth c cc nL ws y D T A → va_X b L xs s s.heap → b < s.heap.size → ¬ A b → meth.sig.returnType = ret → VZ p l e rm s m args below meth c nL D A (MQ below (va_Qi (fun (r' : Int32) (_ : Unit) => r' = r) (fun u t => vzPost D A ((fun _ : Unit => ([] : va_W)) u) t) A) args s rm.cells rm.slots A) [] 0 0 0 (lv_args 0 av) []) : cnS l y ws rm D T av b L xs r := by
  intro sz
  refine Met.ofW (cc := cc) (maxL := nL) (ret := ret) hy hw ?_
  intro p e s m args below meth c s₁ B hml hv
  obtain ⟨rfl, ⟨hsz, hP, hK, hN, hD0⟩, hX, hb⟩ := hv
  subst hsz
  have hl := lv_entry av hn
  rw [lg_entry_eq]
  exact body p e s m av.toArray below meth c (va_A [] s.heap.size) ⟨B.exec, B.bytes, hml, findClass_of_methodNamed B.named, atoms_spec (ws := ws) B.pre, B.notSynchronized, (name_of_methodNamed B.named B.method).1, hK, hN, fun q h => Or.inr h⟩ hX hb (fun h => h.elim (fun ⟨k, e9, h9⟩ => by simp at h9) (fun h9 => absurd h9 (Nat.not_le.mpr hb))) B.returns s.heap [] _ hP hD0.self va_S.rf hl
section VL5
variable {p : Program} {l : Launch} {e : Env} {R : Room} {s : State} {m : MethodId} {args : Array Value} {below : List Frame} {meth : Method} {c : Code} {cc : ByteArray} {nL : Nat} {Ts : List Cond} {y : MethodName} {D : va_G} {T : vzT} {A : Nat → Prop} {Q : State → Prop} {ws : va_W} {kc ks pc : Nat} {lv : vzLoc} {st : List Value}
variable {y1 : MethodName} {C1 : String} {ws1 ws1' : List Cond} {rm1 : Room} {bytes : ByteArray} {maxL index n : Nat} {ret1 : Option FieldType} {As rest : List Value} {W1 W1' wr : va_W}
theorem vz_callSs (C : MX p s m args meth c cc nL Ts y D T A) {r : Int32} {b L : Nat} {xs : Nat → Int32} (hX : va_X b L xs s s.heap) (hbl : b < s.heap.size) (hbA : ¬ A b) (hc : cnS l y1 ws1 rm1 D T As b L xs r) (hdg : decode cc pc = .ok (.invokestatic index, 3)) (hg : GoodIn Ts (va_wsS y.cls index y1 ws1)) (hw : ws1 = Cond.code y1 bytes maxL ret1 :: ws1') (hd : y1.cls ≠ "java/lang/invoke/MethodHandle" ∧ y1.cls ≠ "java/lang/invoke/VarHandle" ∧ (parseMethodDescriptor y1.desc).map (fun d => d.parameters.length) = some n)  (hR : rm1.frames + 1 ≤ R.frames ∧ 8 + (maxL + 11) + rm1.locals ≤ R.locals) (hf : kc + rm1.cells ≤ R.cells ∧ ks + rm1.slots ≤ R.slots) (hn : As.length = n) (hst : st = As.reverse ++ rest) (hrm : (rest.map fun v => v.category).sum ≤ 8) (k : VZ p l e R s m args below meth c nL D A Q ws (kc + rm1.cells) (ks + rm1.slots) (pc + 3) lv (.int r :: rest)) : VZ p l e R s m args below meth c nL D A Q ws kc ks pc lv st := fun H locs ls hP hD hS hl => by
  subst hst
  have hq : H[b]? = s.heap[b]? := hS.2.1 b hbl hbA
  have hFc : ∀ q, va_A [] H.size q → A q := fun q h => h.elim (fun ⟨k, e9, h9⟩ => by simp at h9) (fun h9 => C.hA q (Nat.le_trans hS.1 h9))
  have hE : va_P D vwCl [] H := fun k q hq => by simp at hq
  have hE2 : va_D (fun _ => True) [] := ⟨fun i j p q h => by simp at h, fun k q h => by simp at h⟩
  refine va_calli (va_runS (As := As) (rest := rest) ⟨C.x, C.b, C.ml, C.own, C.ts⟩ (hc H.size) (va_cwS n C.ts hg hw rfl rfl hd hR) ⟨vzBlindS D T H.size b L xs As, fun U hU hW => ⟨rfl, ⟨by rw [hU], by rw [hU]; exact hE, va_K.moved hW.alike C.K, vzNW.warm hW C.nw, hE2⟩, by rw [hU]; exact (hX.kept hq).moved hW.alike, Nat.lt_of_lt_of_le hbl hS.1⟩⟩ rfl hn hl.1 rfl (lv_room hrm) hdg hf) hS (fun q _ h => hFc q h) hFc (fun r1 u t H1 locs1 ht hvm hw hB hz1 hk1 hS1 => ?_)
  subst hw
  refine k H1 locs1 ls (fun i q hi => ?_) hD hS1 hl
  have h0 := hP i q hi
  have hlt := h0.lt
  exact hP.kept (fun i' q' hi' => hk1 _ ((hP i' q' hi').lt) (fun h => h.elim (fun ⟨k, e9, h9⟩ => by simp at h9) (fun h9 => absurd h9 (Nat.not_le.mpr ((hP i' q' hi').lt))))) i q hi
end VL5
