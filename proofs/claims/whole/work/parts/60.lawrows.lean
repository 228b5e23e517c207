/-! THE LAW'S OWN ROWS: its script, and calls that make nothing -/
section lawrows
variable {K : KT} {p : Program} {l : Launch} {e : Env} {R : Room} {s : State} {m : MethodId} {args : Array Value} {below : List Frame} {meth : Method} {c : Code} {Q : State → Prop} {nL : Nat} {own : String} {cc : ByteArray} {rr : Option FieldType}
variable {V : VW} {sz cells slots pc : Nat} {lv : List (Nat × Value)} {st : List Value}
theorem G.slen (cx : Cx K p s m args meth c own cc nL rr) {b L : Nat} {xs : Nat → Int32} (hX : va_X b L xs s s.heap) (hbl : b < s.heap.size) (hbA : ¬ kA K b) (hd : decode cc pc = .ok (.arraylength, 1)) (kk : G K p l e R s m args below meth c Q nL V sz cells slots (pc + 1) lv (.int (nI L) :: st)) : G K p l e R s m args below meth c Q nL V sz cells slots pc lv (.ref b :: st) := by
  intro H locs ls h1 h2 h3 h4
  exact va_slen cx.1 cx.2.1 hX hbl hbA h3 hd (kk H locs ls h1 h2 h3 h4)
theorem G.sld (cx : Cx K p s m args meth c own cc nL rr) {b L : Nat} {xs : Nat → Int32} (hX : va_X b L xs s s.heap) (hbl : b < s.heap.size) (hbA : ¬ kA K b) (hd : decode cc pc = .ok (.iaload, 1)) (j : Nat) (hj : j < L) (hL : L ≤ 2048) (kk : G K p l e R s m args below meth c Q nL V sz cells slots (pc + 1) lv (.int (xs j) :: st)) : G K p l e R s m args below meth c Q nL V sz cells slots pc lv (.int (nI j) :: .ref b :: st) := by
  intro H locs ls h1 h2 h3 h4
  refine va_sld cx.1 cx.2.1 hX hbl hbA h3 (vp_in_nI hj (by omega)) hd ?_
  rw [nI_clamp (by omega)]
  exact kk H locs ls h1 h2 h3 h4
theorem G.callVc {y : MethodName} {cc2 : ByteArray} {maxL d index : Nat} {As rest st0 : List Value} {v : Int32} {V2 : VW} {bb : Nat} (cx : Cx K p s m args meth c own cc nL rr) {T : u_T} {N ci : Nat} {fs : List Value} (hM : Ct l K y cc2 maxL (some .int) d (.ref bb :: As) V sz (some (.int v)) V2 sz 0 0) (ok : okV y cc2 maxL (some .int) As.length) (hd : decode cc pc = .ok (.invokevirtual index, 3)) (hw : Cond.methodLink own index y ∈ wsL_law) (hc : vwCl[ci]? = some (y.cls, T, N)) (hV : V bb = some (.inr (ci, fs))) (hst : st0 = As.reverse ++ .ref bb :: rest) (hrest : (rest.map fun v => v.category).sum ≤ 8) (hR : d + 1 ≤ R.frames ∧ 8 + (maxL + 11) + 30 * d ≤ R.locals) (hf : cells ≤ R.cells ∧ slots ≤ R.slots) (kk : G K p l e R s m args below meth c Q nL V2 sz cells slots (pc + 3) lv (.int v :: rest)) : G K p l e R s m args below meth c Q nL V sz cells slots pc lv st0 :=
  G.callV cx hM ok hd hw hc rfl hV hst hrest (Nat.le_refl _) hR hf kk
end lawrows
