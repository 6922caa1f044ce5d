/-! THE LAW'S OWN ROWS: the script, the switch -/
theorem lw_cmpL {x y : Int64} (h : x = y) : lg_cmp x y = 0 := by
  subst h
  unfold lg_cmp
  simp
theorem lw_cmpr (x : Int64) : lg_cmp x x = 0 := lw_cmpL rfl
section VZLAW
variable {p : Program} {l : Launch} {e : Env} {R : Room} {s : State} {m : MethodId} {args : Array Value} {below : List Frame} {meth : Method} {c : Code} {cc : ByteArray} {nL : Nat} {Ts : List Cond} {y : MethodName} {D : va_G} {T : vzT} {A : Nat → Prop} {Q : State → Prop} {ws : va_W} {kc ks pc : Nat} {lv : vzLoc} {st : List Value}
theorem vz_sld (C : MX p s m args meth c cc nL Ts y D T A) {b L : Nat} {xs : Nat → Int32} (hX : va_X b L xs s s.heap) (hbl : b < s.heap.size) (hbA : ¬ A b) {i v : Int32} (j : Nat) (hdg : decode cc pc = .ok (.iaload, 1)) (hi : i = nI j) (hj : j < L) (hL : L < 2 ^ 31) (hv : xs j = v) (k : VZ p l e R s m args below meth c nL D A Q ws kc ks (pc + 1) lv (.int v :: st)) : VZ p l e R s m args below meth c nL D A Q ws kc ks pc lv (.int i :: .ref b :: st) := fun H locs ls hP hD hS hl => by
  subst hi
  subst hv
  refine va_sld C.x C.b hX hbl hbA hS (vp_in_nI hj hL) hdg ?_
  rw [nI_clamp (Nat.lt_trans hj hL)]
  exact k H locs ls hP hD hS hl
theorem vz_slen (C : MX p s m args meth c cc nL Ts y D T A) {b L : Nat} {xs : Nat → Int32} (hX : va_X b L xs s s.heap) (hbl : b < s.heap.size) (hbA : ¬ A b) (hdg : decode cc pc = .ok (.arraylength, 1)) (k : VZ p l e R s m args below meth c nL D A Q ws kc ks (pc + 1) lv (.int (nI L) :: st)) : VZ p l e R s m args below meth c nL D A Q ws kc ks pc lv (.ref b :: st) := fun H locs ls hP hD hS hl =>
  va_slen C.x C.b hX hbl hbA hS hdg (k H locs ls hP hD hS hl)
theorem vz_tin (C : MX p s m args meth c cc nL Ts y D T A) {dflt lo hi : Int} {offs : Array Int} {len : Nat} {x : Int32} {off : Int} {tgt : Nat} (hdg : decode cc pc = .ok (.tableswitch dflt lo hi offs, len)) (h1 : ¬ x.toInt < lo) (h2 : ¬ hi < x.toInt) (ho : offs[(x.toInt - lo).toNat]? = some off) (ht : (pc : Int) + off = (tgt : Int)) (k : VZ p l e R s m args below meth c nL D A Q ws kc ks tgt lv st) : VZ p l e R s m args below meth c nL D A Q ws kc ks pc lv (.int x :: st) := fun H locs ls hP hD hS hl =>
  lv_tableIn C.x C.b hdg h1 h2 ho ht (k H locs ls hP hD hS hl)
theorem vz_tout (C : MX p s m args meth c cc nL Ts y D T A) {dflt lo hi : Int} {offs : Array Int} {len : Nat} {x : Int32} {tgt : Nat} (hdg : decode cc pc = .ok (.tableswitch dflt lo hi offs, len)) (h : x.toInt < lo ∨ hi < x.toInt) (ht : (pc : Int) + dflt = (tgt : Int)) (k : VZ p l e R s m args below meth c nL D A Q ws kc ks tgt lv st) : VZ p l e R s m args below meth c nL D A Q ws kc ks pc lv (.int x :: st) := fun H locs ls hP hD hS hl =>
  lv_tableOut C.x C.b hdg h ht (k H locs ls hP hD hS hl)
end VZLAW
