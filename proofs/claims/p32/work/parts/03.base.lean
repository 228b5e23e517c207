/-! THE SMALL MACHINE: a method's start, its contract and its steps over a picture V of the heap: V says what stands at each address of the world; the heap itself, the locals' row and what was written are hidden. -/
abbrev KT : Type := va_G × (Nat → ClassId) × Nat × Nat × Nat × Nat × Nat × (Nat → Int32)
abbrev VW : Type := Nat → Option va_E
def kn (K : KT) : Nat := K.2.2.1
def kA (K : KT) : Nat → Prop := fun q => kn K ≤ q
def tysK (K : KT) : List (ClassId × FieldType) := [(K.2.1 0, .int), (K.2.1 1, .object RX6), (K.2.1 2, .object RX3), (K.2.1 3, .object RX0)]
def nestM : List (String × Nat × MethodName) := [(RX0, 17, yX6_init), (RX0, 24, yX3_init), (RX0, 32, yX9_copyNumbers), (RX1, 21, yX9_copyNumbers), (RX0, 80, yX9_within), (RX1, 33, yX9_within), (RX0, 240, yX9_bitsOf)]
def hv (K : KT) (V : VW) (H : Heap) : Prop := ∀ (a : Nat) (x : va_E), V a = some x → kn K ≤ a ∧ va_at K.1 vwCl (a, x) H
def KU (K : KT) (U : State) : Prop := va_K K.1 vwCl (tysK K) U ∧ (∀ q ∈ nestM, va_Nw (.methodLinkNest q.1 q.2.1 q.2.2 RX9) U) ∧ (va_Nw (.fieldLinkNest RX0 206 RX9 "HIGHEST_SETTINGS" "[I" RX9) U ∧ va_Nw (.fieldLinkNest RX0 25 RX9 "FIRST_SETTINGS" "[I" RX9) U) ∧ va_AO RX6 U ∧ va_AO RX3 U ∧ va_AO RX0 U
def fS (j : Nat) : Int32 := if j = 0 then 50 else if j = 1 then 25 else 2
def hS (j : Nat) : Int32 := if j = 0 then 500 else if j = 1 then 200 else 50
def ZU (K : KT) (U : State) (H : Heap) : Prop := va_Z RX9 "FIRST_SETTINGS" "[I" (.ref K.2.2.2.1) (kA K) U H ∧ va_T .int K.2.2.2.1 3 (fun j => .int (fS j)) (kA K) U H ∧ va_Z RX9 "HIGHEST_SETTINGS" "[I" (.ref K.2.2.2.2.1) (kA K) U H ∧ va_T .int K.2.2.2.2.1 3 (fun j => .int (hS j)) (kA K) U H ∧ va_T .int K.2.2.2.2.2.1 K.2.2.2.2.2.2.1 (fun j => .int (K.2.2.2.2.2.2.2 j)) (kA K) U H
def Wd (K : KT) (sz : Nat) (V : VW) (U : State) : Prop := U.heap.size = sz ∧ kn K ≤ sz ∧ hv K V U.heap ∧ KU K U ∧ ZU K U U.heap
def rmL (d mc ms : Nat) : Room := { frames := d, cells := mc, slots := ms, locals := (30 * d + 24 * (d - 6)) }
def QCt (K : KT) (rv : Option Value) (V : VW) (sz : Nat) : Array Value → State → Outcome → State → Prop := fun _ st oc t => oc = .returned rv ∧ t.heap.size = sz ∧ hv K V t.heap ∧ va_F (kA K) st t
/-- a contract: from the picture V the method y returns rv and leaves the picture V' -/
def Ct (l : Launch) (K : KT) (y : MethodName) (cc : ByteArray) (maxL : Nat) (ret : Option FieldType) (d : Nat) (As : List Value) (V : VW) (sz : Nat) (rv : Option Value) (V' : VW) (sz' mc ms : Nat) : Prop :=
  Met l y (wsO y cc maxL ret) (rmL d mc ms) (va_Pc As (Wd K sz V)) (QCt K rv V' sz') mc ms (kA K)
def Cx (K : KT) (p : Program) (s : State) (m : MethodId) (args : Array Value) (meth : Method) (c : Code) (own : String) (cc : ByteArray) (nL : Nat) (ret : Option FieldType) : Prop :=
  p.tables.exec = Jvm.exec ∧ c.code = cc ∧ c.maxLocals = nL ∧ s.vm.findClass own = some m.cls ∧ (∀ w ∈ wsL_law, w.before args s = true) ∧ KU K s ∧ ZU K s s.heap ∧ kn K ≤ s.heap.size ∧ meth.locks = false ∧ meth.sig.returnType = ret
def vset (V : VW) (a : Nat) (x : va_E) : VW := fun q => if q = a then some x else V q
theorem vset_self (V : VW) (a : Nat) (x : va_E) : vset V a x a = some x := if_pos rfl
theorem vset_ne (V : VW) {a q : Nat} (x : va_E) (h : q ≠ a) : vset V a x q = V q := if_neg h
theorem KU.moved {K : KT} {u U : State} (hW : u.WarmedH U.vm) (h : KU K u) : KU K U :=
  ⟨va_K.moved hW.alike h.1, fun q hq => va_Nw.warmM hW (h.2.1 q hq), ⟨va_Nw.warmF hW h.2.2.1.1, va_Nw.warmF hW h.2.2.1.2⟩, va_AO.moved hW.alike h.2.2.2.1, va_AO.moved hW.alike h.2.2.2.2.1, va_AO.moved hW.alike h.2.2.2.2.2⟩
theorem KU.same {K : KT} {u U : State} (hE : u.vm = U.vm) (h : KU K u) : KU K U := by
  have hA : u.vm.Alike U.vm := by rw [hE]; exact Vm.Alike.refl _
  exact ⟨va_K.moved hA h.1, fun q hq => va_Nw.same rfl hE (h.2.1 q hq), ⟨va_Nw.same rfl hE h.2.2.1.1, va_Nw.same rfl hE h.2.2.1.2⟩, va_AO.moved hA h.2.2.2.1, va_AO.moved hA h.2.2.2.2.1, va_AO.moved hA h.2.2.2.2.2⟩
theorem ZU.moved {K : KT} {u U : State} {H : Heap} (hA : u.vm.Alike U.vm) (h : ZU K u H) : ZU K U H := ⟨va_Z.moved hA h.1, va_T.moved hA h.2.1, va_Z.moved hA h.2.2.1, va_T.moved hA h.2.2.2.1, va_T.moved hA h.2.2.2.2⟩
theorem ZU.kept {K : KT} {U : State} {H H1 : Heap} (h : ZU K U H) (hq : ∀ a : Nat, a < H.size → ¬ kA K a → H1[a]? = H[a]?) : ZU K U H1 := ⟨va_Z.kept h.1 hq, va_T.kept h.2.1 hq, va_Z.kept h.2.2.1 hq, va_T.kept h.2.2.2.1 hq, va_T.kept h.2.2.2.2 hq⟩
theorem Wd.blind {K : KT} {sz : Nat} {V : VW} {As : List Value} : FrameBlind (va_Pc As (Wd K sz V)) := by
  intro a U g mk h
  obtain ⟨h0, h1, h2, h3, h4, h5⟩ := h
  exact ⟨h0, h1, h2, h3, h4.same rfl, h5.moved (Vm.Alike.refl U.vm)⟩
section GS
variable {K : KT} {p : Program} {l : Launch} {e : Env} {R : Room} {s : State} {m : MethodId} {args : Array Value} {below : List Frame} {meth : Method} {c : Code} {Q : State → Prop} {nL : Nat} {own : String} {cc : ByteArray} {ret : Option FieldType}
variable {V : VW} {sz cells slots pc : Nat} {lv : List (Nat × Value)} {st : List Value}
def G (K : KT) (p : Program) (l : Launch) (e : Env) (R : Room) (s : State) (m : MethodId) (args : Array Value) (below : List Frame) (meth : Method) (c : Code) (Q : State → Prop) (nL : Nat) (V : VW) (sz cells slots pc : Nat) (lv : List (Nat × Value)) (st : List Value) : Prop :=
  ∀ (H : Heap) (locs : List Loc) (ls : Array Slot), H.size = sz → hv K V H → va_S (kA K) s.heap H locs → lv_has ls nL lv → W p l e R s m args below meth c H locs cells slots Q (F0 m pc ls st)
theorem G.cast {V' : VW} (h : V = V') (kk : G K p l e R s m args below meth c Q nL V' sz cells slots pc lv st) : G K p l e R s m args below meth c Q nL V sz cells slots pc lv st := h ▸ kk
theorem G.castS {st' : List Value} (h : st = st') (kk : G K p l e R s m args below meth c Q nL V sz cells slots pc lv st') : G K p l e R s m args below meth c Q nL V sz cells slots pc lv st := h ▸ kk
theorem G.castL {lv' : List (Nat × Value)} (ps : List Nat) (h : lv_pick lv ps = lv') (kk : G K p l e R s m args below meth c Q nL V sz cells slots pc lv' st) : G K p l e R s m args below meth c Q nL V sz cells slots pc lv st :=
  fun H locs ls h1 h2 h3 h4 => kk H locs ls h1 h2 h3 (lv_sub h4 ps h)
theorem Ct.ofG {y : MethodName} {maxL : Nat} {d : Nat} {As : List Value} {rv : Option Value} {V' : VW} {sz' mc ms : Nat} (hy : plainName y.cls = true) (hA : (lg_sl As).length ≤ maxL)
    (body : ∀ (p : Program) (e : Env) (s : State) (m : MethodId) (args : Array Value) (below : List Frame) (meth : Method) (c : Code), Cx K p s m args meth c y.cls cc maxL ret → meth.name = y.name →
      G K p l e (rmL d mc ms) s m args below meth c (MQ below (QCt K rv V' sz') args s mc ms (kA K)) maxL V sz 0 0 0 (lv_args 0 As) []) : Ct l K y cc maxL ret d As V sz rv V' sz' mc ms := by
  refine Met.ofW (cc := cc) (maxL := maxL) (ret := ret) hy rfl ?_
  intro p e s m args below meth c s₁ B hml hp
  obtain ⟨rfl, hz, hn, hh, hK, hZ⟩ := hp
  have hts := atoms_spec (ws := wsO y cc maxL ret) B.pre
  have hin : meth.name = y.name := (name_of_methodNamed B.named B.method).1
  rw [lg_entry_eq]
  exact body p e s m _ below meth c ⟨B.exec, B.bytes, hml, findClass_of_methodNamed B.named, fun w hw => hts w (List.mem_cons_of_mem _ hw), hK, hZ, by rw [hz]; exact hn, B.notSynchronized, B.returns⟩ hin s.heap [] _ hz hh va_S.rf (lv_entry As hA)
theorem G.iret {rv : Option Value} {V' : VW} {sz' : Nat} {v : Int32} (cx : Cx K p s m args meth c own cc nL ret) (hr : ret = some .int) (hd : decode cc pc = .ok (.ireturn, 1)) (hv' : rv = some (.int v)) (hV : V = V') (hz : sz = sz') :
    G K p l e R s m args below meth c (MQ below (QCt K rv V' sz') args s cells slots (kA K)) nL V sz cells slots pc lv [.int v] := by
  intro H locs ls h1 h2 h3 h4
  obtain ⟨hx, hb, -, -, -, -, -, -, hlk, hrt⟩ := cx
  subst hV; subst hz; subst hv'
  exact W.iret hx hb (hrt.trans hr) (fun t ht hW => ⟨rfl, by rw [ht]; exact h1, by rw [ht]; exact h2, h3.F ht⟩) h3.2.2 hd hlk
theorem G.zret {rv : Option Value} {V' : VW} {sz' : Nat} {v : Int32} (cx : Cx K p s m args meth c own cc nL ret) (hr : ret = some .boolean) (hd : decode cc pc = .ok (.ireturn, 1)) (hn : narrow .boolean (.int v) = .int v) (hv' : rv = some (.int v)) (hV : V = V') (hz : sz = sz') :
    G K p l e R s m args below meth c (MQ below (QCt K rv V' sz') args s cells slots (kA K)) nL V sz cells slots pc lv [.int v] := by
  intro H locs ls h1 h2 h3 h4
  obtain ⟨hx, hb, -, -, -, -, -, -, hlk, hrt⟩ := cx
  subst hV; subst hz; subst hv'
  exact W.zret (ty := .boolean) hx hb (hrt.trans hr) hn (fun t ht hW => ⟨rfl, by rw [ht]; exact h1, by rw [ht]; exact h2, h3.F ht⟩) h3.2.2 hd hlk
theorem G.vret {rv : Option Value} {V' : VW} {sz' : Nat} (cx : Cx K p s m args meth c own cc nL ret) (hr : ret = none) (hd : decode cc pc = .ok (.return_, 1)) (hv' : rv = none) (hV : V = V') (hz : sz = sz') :
    G K p l e R s m args below meth c (MQ below (QCt K rv V' sz') args s cells slots (kA K)) nL V sz cells slots pc lv [] := by
  intro H locs ls h1 h2 h3 h4
  obtain ⟨hx, hb, -, -, -, -, -, -, hlk, hrt⟩ := cx
  subst hV; subst hz; subst hv'
  exact W.vret hx hb (hrt.trans hr) (fun t ht hW => ⟨rfl, by rw [ht]; exact h1, by rw [ht]; exact h2, h3.F ht⟩) h3.2.2 hd hlk
theorem G.aretq {rv : Option Value} {V' : VW} {sz' : Nat} {v : Value} {rt : FieldType} (cx : Cx K p s m args meth c own cc nL ret) (hr : ret = some rt) (hn : (∃ n, rt = .object n) ∨ ∃ t, rt = .array t) (hq : v = .null ∨ ∃ a, v = .ref a) (hd : decode cc pc = .ok (.areturn, 1)) (hv' : rv = some v) (hV : V = V') (hz : sz = sz') :
    G K p l e R s m args below meth c (MQ below (QCt K rv V' sz') args s cells slots (kA K)) nL V sz cells slots pc lv [v] := by
  intro H locs ls h1 h2 h3 h4
  obtain ⟨hx, hb, -, -, -, -, -, -, hlk, hrt⟩ := cx
  subst hV; subst hz; subst hv'
  exact W.aret (rt := rt) hx hb (hrt.trans hr) hn hq (fun t ht hW => ⟨rfl, by rw [ht]; exact h1, by rw [ht]; exact h2, h3.F ht⟩) h3.2.2 hd hlk
theorem G.iload_n (cx : Cx K p s m args meth c own cc nL ret) {k : Fin 4} {i : Nat} {x : Int32} (hd : decode cc pc = .ok (.iload_n k, 1)) (hi : (k : Nat) = i) (q : Nat) (hl : lv[q]? = some (i, .int x)) (kk : G K p l e R s m args below meth c Q nL V sz cells slots (pc + 1) lv (.int x :: st)) : G K p l e R s m args below meth c Q nL V sz cells slots pc lv st := fun H locs ls h1 h2 h3 h4 => lv_iload_n cx.1 cx.2.1 hd hi (lv_at h4 q hl) (kk H locs ls h1 h2 h3 h4)
theorem G.iload (cx : Cx K p s m args meth c own cc nL ret) {i : Nat} {x : Int32} (hd : decode cc pc = .ok (.iload i, 2)) (q : Nat) (hl : lv[q]? = some (i, .int x)) (kk : G K p l e R s m args below meth c Q nL V sz cells slots (pc + 2) lv (.int x :: st)) : G K p l e R s m args below meth c Q nL V sz cells slots pc lv st := fun H locs ls h1 h2 h3 h4 => lv_iload cx.1 cx.2.1 hd (lv_at h4 q hl) (kk H locs ls h1 h2 h3 h4)
theorem G.aload_n (cx : Cx K p s m args meth c own cc nL ret) {k : Fin 4} {i : Nat} {x : Nat} (hd : decode cc pc = .ok (.aload_n k, 1)) (hi : (k : Nat) = i) (q : Nat) (hl : lv[q]? = some (i, .ref x)) (kk : G K p l e R s m args below meth c Q nL V sz cells slots (pc + 1) lv (.ref x :: st)) : G K p l e R s m args below meth c Q nL V sz cells slots pc lv st := fun H locs ls h1 h2 h3 h4 => lv_aload_n cx.1 cx.2.1 hd hi (lv_at h4 q hl) (kk H locs ls h1 h2 h3 h4)
theorem G.aload (cx : Cx K p s m args meth c own cc nL ret) {i : Nat} {x : Nat} (hd : decode cc pc = .ok (.aload i, 2)) (q : Nat) (hl : lv[q]? = some (i, .ref x)) (kk : G K p l e R s m args below meth c Q nL V sz cells slots (pc + 2) lv (.ref x :: st)) : G K p l e R s m args below meth c Q nL V sz cells slots pc lv st := fun H locs ls h1 h2 h3 h4 => lv_aload cx.1 cx.2.1 hd (lv_at h4 q hl) (kk H locs ls h1 h2 h3 h4)
theorem G.fload_n (cx : Cx K p s m args meth c own cc nL ret) {k : Fin 4} {i : Nat} {x : UInt32} (hd : decode cc pc = .ok (.fload_n k, 1)) (hi : (k : Nat) = i) (q : Nat) (hl : lv[q]? = some (i, .float x)) (kk : G K p l e R s m args below meth c Q nL V sz cells slots (pc + 1) lv (.float x :: st)) : G K p l e R s m args below meth c Q nL V sz cells slots pc lv st := fun H locs ls h1 h2 h3 h4 => lv_fload_n cx.1 cx.2.1 hd hi (lv_at h4 q hl) (kk H locs ls h1 h2 h3 h4)
theorem G.fload (cx : Cx K p s m args meth c own cc nL ret) {i : Nat} {x : UInt32} (hd : decode cc pc = .ok (.fload i, 2)) (q : Nat) (hl : lv[q]? = some (i, .float x)) (kk : G K p l e R s m args below meth c Q nL V sz cells slots (pc + 2) lv (.float x :: st)) : G K p l e R s m args below meth c Q nL V sz cells slots pc lv st := fun H locs ls h1 h2 h3 h4 => lv_fload cx.1 cx.2.1 hd (lv_at h4 q hl) (kk H locs ls h1 h2 h3 h4)
theorem G.aload_nN (cx : Cx K p s m args meth c own cc nL ret) {k : Fin 4} {i : Nat} (hd : decode cc pc = .ok (.aload_n k, 1)) (hi : (k : Nat) = i) (q : Nat) (hl : lv[q]? = some (i, .null)) (kk : G K p l e R s m args below meth c Q nL V sz cells slots (pc + 1) lv (.null :: st)) : G K p l e R s m args below meth c Q nL V sz cells slots pc lv st := fun H locs ls h1 h2 h3 h4 => lv_aload_nN cx.1 cx.2.1 hd hi (lv_at h4 q hl) (kk H locs ls h1 h2 h3 h4)
theorem G.aloadN (cx : Cx K p s m args meth c own cc nL ret) {i : Nat} (hd : decode cc pc = .ok (.aload i, 2)) (q : Nat) (hl : lv[q]? = some (i, .null)) (kk : G K p l e R s m args below meth c Q nL V sz cells slots (pc + 2) lv (.null :: st)) : G K p l e R s m args below meth c Q nL V sz cells slots pc lv st := fun H locs ls h1 h2 h3 h4 => lv_aloadN cx.1 cx.2.1 hd (lv_at h4 q hl) (kk H locs ls h1 h2 h3 h4)
theorem G.istore_n (cx : Cx K p s m args meth c own cc nL ret) {k : Fin 4} {i : Nat} {x : Int32} {lv2 : List (Nat × Value)} (hd : decode cc pc = .ok (.istore_n k, 1)) (hi : (k : Nat) = i) (hn : i < nL) (hl : (i, Value.int x) :: lv.filter (fun q => !(q.1 == i) && !(q.1 + 1 == i && q.2.category == 2)) = lv2) (kk : G K p l e R s m args below meth c Q nL V sz cells slots (pc + 1) lv2 st) : G K p l e R s m args below meth c Q nL V sz cells slots pc lv (.int x :: st) := fun H locs ls h1 h2 h3 h4 => lv_istore_n cx.1 cx.2.1 hd hi h4 hn hl (fun ls2 h5 => kk H locs ls2 h1 h2 h3 h5)
theorem G.istore (cx : Cx K p s m args meth c own cc nL ret) {i : Nat} {x : Int32} {lv2 : List (Nat × Value)} (hd : decode cc pc = .ok (.istore i, 2)) (hn : i < nL) (hl : (i, Value.int x) :: lv.filter (fun q => !(q.1 == i) && !(q.1 + 1 == i && q.2.category == 2)) = lv2) (kk : G K p l e R s m args below meth c Q nL V sz cells slots (pc + 2) lv2 st) : G K p l e R s m args below meth c Q nL V sz cells slots pc lv (.int x :: st) := fun H locs ls h1 h2 h3 h4 => lv_istore cx.1 cx.2.1 hd h4 hn hl (fun ls2 h5 => kk H locs ls2 h1 h2 h3 h5)
theorem G.astore_n (cx : Cx K p s m args meth c own cc nL ret) {k : Fin 4} {i : Nat} {x : Nat} {lv2 : List (Nat × Value)} (hd : decode cc pc = .ok (.astore_n k, 1)) (hi : (k : Nat) = i) (hn : i < nL) (hl : (i, Value.ref x) :: lv.filter (fun q => !(q.1 == i) && !(q.1 + 1 == i && q.2.category == 2)) = lv2) (kk : G K p l e R s m args below meth c Q nL V sz cells slots (pc + 1) lv2 st) : G K p l e R s m args below meth c Q nL V sz cells slots pc lv (.ref x :: st) := fun H locs ls h1 h2 h3 h4 => lv_astore_n cx.1 cx.2.1 hd hi h4 hn hl (fun ls2 h5 => kk H locs ls2 h1 h2 h3 h5)
theorem G.astore (cx : Cx K p s m args meth c own cc nL ret) {i : Nat} {x : Nat} {lv2 : List (Nat × Value)} (hd : decode cc pc = .ok (.astore i, 2)) (hn : i < nL) (hl : (i, Value.ref x) :: lv.filter (fun q => !(q.1 == i) && !(q.1 + 1 == i && q.2.category == 2)) = lv2) (kk : G K p l e R s m args below meth c Q nL V sz cells slots (pc + 2) lv2 st) : G K p l e R s m args below meth c Q nL V sz cells slots pc lv (.ref x :: st) := fun H locs ls h1 h2 h3 h4 => lv_astore cx.1 cx.2.1 hd h4 hn hl (fun ls2 h5 => kk H locs ls2 h1 h2 h3 h5)
theorem G.fstore_n (cx : Cx K p s m args meth c own cc nL ret) {k : Fin 4} {i : Nat} {x : UInt32} {lv2 : List (Nat × Value)} (hd : decode cc pc = .ok (.fstore_n k, 1)) (hi : (k : Nat) = i) (hn : i < nL) (hl : (i, Value.float x) :: lv.filter (fun q => !(q.1 == i) && !(q.1 + 1 == i && q.2.category == 2)) = lv2) (kk : G K p l e R s m args below meth c Q nL V sz cells slots (pc + 1) lv2 st) : G K p l e R s m args below meth c Q nL V sz cells slots pc lv (.float x :: st) := fun H locs ls h1 h2 h3 h4 => lv_fstore_n cx.1 cx.2.1 hd hi h4 hn hl (fun ls2 h5 => kk H locs ls2 h1 h2 h3 h5)
theorem G.fstore (cx : Cx K p s m args meth c own cc nL ret) {i : Nat} {x : UInt32} {lv2 : List (Nat × Value)} (hd : decode cc pc = .ok (.fstore i, 2)) (hn : i < nL) (hl : (i, Value.float x) :: lv.filter (fun q => !(q.1 == i) && !(q.1 + 1 == i && q.2.category == 2)) = lv2) (kk : G K p l e R s m args below meth c Q nL V sz cells slots (pc + 2) lv2 st) : G K p l e R s m args below meth c Q nL V sz cells slots pc lv (.float x :: st) := fun H locs ls h1 h2 h3 h4 => lv_fstore cx.1 cx.2.1 hd h4 hn hl (fun ls2 h5 => kk H locs ls2 h1 h2 h3 h5)
theorem G.astore_nN (cx : Cx K p s m args meth c own cc nL ret) {k : Fin 4} {i : Nat} {lv2 : List (Nat × Value)} (hd : decode cc pc = .ok (.astore_n k, 1)) (hi : (k : Nat) = i) (hn : i < nL) (hl : (i, Value.null) :: lv.filter (fun q => !(q.1 == i) && !(q.1 + 1 == i && q.2.category == 2)) = lv2) (kk : G K p l e R s m args below meth c Q nL V sz cells slots (pc + 1) lv2 st) : G K p l e R s m args below meth c Q nL V sz cells slots pc lv (.null :: st) := fun H locs ls h1 h2 h3 h4 => lv_astore_nN cx.1 cx.2.1 hd hi h4 hn hl (fun ls2 h5 => kk H locs ls2 h1 h2 h3 h5)
theorem G.astoreN (cx : Cx K p s m args meth c own cc nL ret) {i : Nat} {lv2 : List (Nat × Value)} (hd : decode cc pc = .ok (.astore i, 2)) (hn : i < nL) (hl : (i, Value.null) :: lv.filter (fun q => !(q.1 == i) && !(q.1 + 1 == i && q.2.category == 2)) = lv2) (kk : G K p l e R s m args below meth c Q nL V sz cells slots (pc + 2) lv2 st) : G K p l e R s m args below meth c Q nL V sz cells slots pc lv (.null :: st) := fun H locs ls h1 h2 h3 h4 => lv_astoreN cx.1 cx.2.1 hd h4 hn hl (fun ls2 h5 => kk H locs ls2 h1 h2 h3 h5)
theorem G.iinc (cx : Cx K p s m args meth c own cc nL ret) {i k : Nat} {n : Int} {x v : Int32} {lv2 : List (Nat × Value)} (hd : decode cc pc = .ok (.iinc i n, 3)) (hk : lv[k]? = some (i, .int x)) (hv9 : x + Int32.ofInt n = v) (hn : i < nL) (hl : (i, Value.int v) :: lv.filter (fun q => !(q.1 == i) && !(q.1 + 1 == i && q.2.category == 2)) = lv2) (kk : G K p l e R s m args below meth c Q nL V sz cells slots (pc + 3) lv2 st) : G K p l e R s m args below meth c Q nL V sz cells slots pc lv st := fun H locs ls h1 h2 h3 h4 => lv_iinc cx.1 cx.2.1 hd h4 hk hv9 hn hl (fun ls2 h5 => kk H locs ls2 h1 h2 h3 h5)
theorem G.iconst (cx : Cx K p s m args meth c own cc nL ret) {n : Int} {v : Int32} (hd : decode cc pc = .ok (.iconst n, 1)) (hv9 : Int32.ofInt n = v) (kk : G K p l e R s m args below meth c Q nL V sz cells slots (pc + 1) lv (.int v :: st)) : G K p l e R s m args below meth c Q nL V sz cells slots pc lv st := fun H locs ls h1 h2 h3 h4 => lv_iconst cx.1 cx.2.1 hd hv9 (kk H locs ls h1 h2 h3 h4)
theorem G.bipush (cx : Cx K p s m args meth c own cc nL ret) {n : Int} {v : Int32} (hd : decode cc pc = .ok (.bipush n, 2)) (hv9 : (Int8.ofInt n).toInt32 = v) (kk : G K p l e R s m args below meth c Q nL V sz cells slots (pc + 2) lv (.int v :: st)) : G K p l e R s m args below meth c Q nL V sz cells slots pc lv st := fun H locs ls h1 h2 h3 h4 => lv_bipush cx.1 cx.2.1 hd hv9 (kk H locs ls h1 h2 h3 h4)
theorem G.sipush (cx : Cx K p s m args meth c own cc nL ret) {n : Int} {v : Int32} (hd : decode cc pc = .ok (.sipush n, 3)) (hv9 : (Int16.ofInt n).toInt32 = v) (kk : G K p l e R s m args below meth c Q nL V sz cells slots (pc + 3) lv (.int v :: st)) : G K p l e R s m args below meth c Q nL V sz cells slots pc lv st := fun H locs ls h1 h2 h3 h4 => lv_sipush cx.1 cx.2.1 hd hv9 (kk H locs ls h1 h2 h3 h4)
theorem G.ldc (cx : Cx K p s m args meth c own cc nL ret) {index : Nat} {v : Int32} (hd : decode cc pc = .ok (.ldc index, 2)) (hw : Cond.constant own index v ∈ wsL_law) (kk : G K p l e R s m args below meth c Q nL V sz cells slots (pc + 2) lv (.int v :: st)) : G K p l e R s m args below meth c Q nL V sz cells slots pc lv st := fun H locs ls h1 h2 h3 h4 => lv_ldc cx.1 cx.2.1 cx.2.2.2.1 (cx.2.2.2.2.1 _ hw) hd (kk H locs ls h1 h2 h3 h4)
theorem G.ldcf (cx : Cx K p s m args meth c own cc nL ret) {index : Nat} {v : UInt32} (hd : decode cc pc = .ok (.ldc index, 2)) (hw : Cond.constantFloat own index v ∈ wsL_law) (kk : G K p l e R s m args below meth c Q nL V sz cells slots (pc + 2) lv (.float v :: st)) : G K p l e R s m args below meth c Q nL V sz cells slots pc lv st := fun H locs ls h1 h2 h3 h4 => lv_ldcf cx.1 cx.2.1 cx.2.2.2.1 (cx.2.2.2.2.1 _ hw) hd (kk H locs ls h1 h2 h3 h4)
theorem G.null (cx : Cx K p s m args meth c own cc nL ret)  (hd : decode cc pc = .ok (.aconst_null, 1))  (kk : G K p l e R s m args below meth c Q nL V sz cells slots (pc + 1) lv (.null :: st)) : G K p l e R s m args below meth c Q nL V sz cells slots pc lv st := fun H locs ls h1 h2 h3 h4 => lv_null cx.1 cx.2.1 hd (kk H locs ls h1 h2 h3 h4)
theorem G.iadd (cx : Cx K p s m args meth c own cc nL ret) {x y : Int32} (hd : decode cc pc = .ok (.iadd, 1))  (kk : G K p l e R s m args below meth c Q nL V sz cells slots (pc + 1) lv (.int (x + y) :: st)) : G K p l e R s m args below meth c Q nL V sz cells slots pc lv (.int y :: .int x :: st) := fun H locs ls h1 h2 h3 h4 => lv_iadd cx.1 cx.2.1 hd (kk H locs ls h1 h2 h3 h4)
theorem G.isub (cx : Cx K p s m args meth c own cc nL ret) {x y : Int32} (hd : decode cc pc = .ok (.isub, 1))  (kk : G K p l e R s m args below meth c Q nL V sz cells slots (pc + 1) lv (.int (x - y) :: st)) : G K p l e R s m args below meth c Q nL V sz cells slots pc lv (.int y :: .int x :: st) := fun H locs ls h1 h2 h3 h4 => lv_isub cx.1 cx.2.1 hd (kk H locs ls h1 h2 h3 h4)
theorem G.imul (cx : Cx K p s m args meth c own cc nL ret) {x y : Int32} (hd : decode cc pc = .ok (.imul, 1))  (kk : G K p l e R s m args below meth c Q nL V sz cells slots (pc + 1) lv (.int (x * y) :: st)) : G K p l e R s m args below meth c Q nL V sz cells slots pc lv (.int y :: .int x :: st) := fun H locs ls h1 h2 h3 h4 => lv_imul cx.1 cx.2.1 hd (kk H locs ls h1 h2 h3 h4)
theorem G.ior (cx : Cx K p s m args meth c own cc nL ret) {x y : Int32} (hd : decode cc pc = .ok (.ior, 1))  (kk : G K p l e R s m args below meth c Q nL V sz cells slots (pc + 1) lv (.int (x ||| y) :: st)) : G K p l e R s m args below meth c Q nL V sz cells slots pc lv (.int y :: .int x :: st) := fun H locs ls h1 h2 h3 h4 => lv_ior cx.1 cx.2.1 hd (kk H locs ls h1 h2 h3 h4)
theorem G.iand (cx : Cx K p s m args meth c own cc nL ret) {x y : Int32} (hd : decode cc pc = .ok (.iand, 1))  (kk : G K p l e R s m args below meth c Q nL V sz cells slots (pc + 1) lv (.int (x &&& y) :: st)) : G K p l e R s m args below meth c Q nL V sz cells slots pc lv (.int y :: .int x :: st) := fun H locs ls h1 h2 h3 h4 => lv_iand cx.1 cx.2.1 hd (kk H locs ls h1 h2 h3 h4)
theorem G.ishl (cx : Cx K p s m args meth c own cc nL ret) {x y : Int32} (hd : decode cc pc = .ok (.ishl, 1))  (kk : G K p l e R s m args below meth c Q nL V sz cells slots (pc + 1) lv (.int (x <<< (y &&& 31)) :: st)) : G K p l e R s m args below meth c Q nL V sz cells slots pc lv (.int y :: .int x :: st) := fun H locs ls h1 h2 h3 h4 => lv_ishl cx.1 cx.2.1 hd (kk H locs ls h1 h2 h3 h4)
theorem G.idiv (cx : Cx K p s m args meth c own cc nL ret) {x y : Int32} (hd : decode cc pc = .ok (.idiv, 1)) (hne : ¬ y = 0) (kk : G K p l e R s m args below meth c Q nL V sz cells slots (pc + 1) lv (.int (x / y) :: st)) : G K p l e R s m args below meth c Q nL V sz cells slots pc lv (.int y :: .int x :: st) := fun H locs ls h1 h2 h3 h4 => lv_idiv cx.1 cx.2.1 hd hne (kk H locs ls h1 h2 h3 h4)
theorem G.irem (cx : Cx K p s m args meth c own cc nL ret) {x y : Int32} (hd : decode cc pc = .ok (.irem, 1)) (hne : ¬ y = 0) (kk : G K p l e R s m args below meth c Q nL V sz cells slots (pc + 1) lv (.int (x - x / y * y) :: st)) : G K p l e R s m args below meth c Q nL V sz cells slots pc lv (.int y :: .int x :: st) := fun H locs ls h1 h2 h3 h4 => lv_irem cx.1 cx.2.1 hd hne (kk H locs ls h1 h2 h3 h4)
theorem G.ineg (cx : Cx K p s m args meth c own cc nL ret) {x : Int32} (hd : decode cc pc = .ok (.ineg, 1))  (kk : G K p l e R s m args below meth c Q nL V sz cells slots (pc + 1) lv (.int (-x) :: st)) : G K p l e R s m args below meth c Q nL V sz cells slots pc lv (.int x :: st) := fun H locs ls h1 h2 h3 h4 => lv_ineg cx.1 cx.2.1 hd (kk H locs ls h1 h2 h3 h4)
theorem G.dup (cx : Cx K p s m args meth c own cc nL ret) {va : Value} (hd : decode cc pc = .ok (.dup, 1)) (hva : va.category = 1) (kk : G K p l e R s m args below meth c Q nL V sz cells slots (pc + 1) lv (va :: va :: st)) : G K p l e R s m args below meth c Q nL V sz cells slots pc lv (va :: st) := fun H locs ls h1 h2 h3 h4 => lv_dup cx.1 cx.2.1 hd hva (kk H locs ls h1 h2 h3 h4)
theorem G.dup_x1 (cx : Cx K p s m args meth c own cc nL ret) {va vb : Value} (hd : decode cc pc = .ok (.dup_x1, 1)) (hva : va.category = 1) (hvb : vb.category = 1) (kk : G K p l e R s m args below meth c Q nL V sz cells slots (pc + 1) lv (va :: vb :: va :: st)) : G K p l e R s m args below meth c Q nL V sz cells slots pc lv (va :: vb :: st) := fun H locs ls h1 h2 h3 h4 => lv_dup_x1 cx.1 cx.2.1 hd hva hvb (kk H locs ls h1 h2 h3 h4)
theorem G.dup2 (cx : Cx K p s m args meth c own cc nL ret) {va vb : Value} (hd : decode cc pc = .ok (.dup2, 1)) (hva : va.category = 1) (hvb : vb.category = 1) (kk : G K p l e R s m args below meth c Q nL V sz cells slots (pc + 1) lv (va :: vb :: va :: vb :: st)) : G K p l e R s m args below meth c Q nL V sz cells slots pc lv (va :: vb :: st) := fun H locs ls h1 h2 h3 h4 => lv_dup2_11 cx.1 cx.2.1 hd hva hvb (kk H locs ls h1 h2 h3 h4)
theorem G.pop (cx : Cx K p s m args meth c own cc nL ret) {va : Value} (hd : decode cc pc = .ok (.pop, 1)) (hva : va.category = 1) (kk : G K p l e R s m args below meth c Q nL V sz cells slots (pc + 1) lv st) : G K p l e R s m args below meth c Q nL V sz cells slots pc lv (va :: st) := fun H locs ls h1 h2 h3 h4 => lv_pop cx.1 cx.2.1 hd hva (kk H locs ls h1 h2 h3 h4)
theorem G.goto (cx : Cx K p s m args meth c own cc nL ret) {off : Int} {tgt : Nat} (hd : decode cc pc = .ok (.goto off, 3)) (ht : (pc : Int) + off = (tgt : Int)) (kk : G K p l e R s m args below meth c Q nL V sz cells slots tgt lv st) : G K p l e R s m args below meth c Q nL V sz cells slots pc lv st := fun H locs ls h1 h2 h3 h4 => lv_goto cx.1 cx.2.1 hd ht (kk H locs ls h1 h2 h3 h4)
theorem G.i2f (cx : Cx K p s m args meth c own cc nL ret) {x : Int32} (hd : decode cc pc = .ok (.i2f, 1))  (kk : G K p l e R s m args below meth c Q nL V sz cells slots (pc + 1) lv (.float (FP.i2f x) :: st)) : G K p l e R s m args below meth c Q nL V sz cells slots pc lv (.int x :: st) := fun H locs ls h1 h2 h3 h4 => lv_i2f cx.1 cx.2.1 hd (kk H locs ls h1 h2 h3 h4)
theorem G.f2i (cx : Cx K p s m args meth c own cc nL ret) {x : UInt32} (hd : decode cc pc = .ok (.f2i, 1))  (kk : G K p l e R s m args below meth c Q nL V sz cells slots (pc + 1) lv (.int (FP.f2i x) :: st)) : G K p l e R s m args below meth c Q nL V sz cells slots pc lv (.float x :: st) := fun H locs ls h1 h2 h3 h4 => lv_f2i cx.1 cx.2.1 hd (kk H locs ls h1 h2 h3 h4)
theorem G.fdiv (cx : Cx K p s m args meth c own cc nL ret) {x y : UInt32} (hd : decode cc pc = .ok (.fdiv, 1)) (hne : vf_n32 (FP.fdiv x y)) (kk : G K p l e R s m args below meth c Q nL V sz cells slots (pc + 1) lv (.float (FP.fdiv x y) :: st)) : G K p l e R s m args below meth c Q nL V sz cells slots pc lv (.float y :: .float x :: st) := fun H locs ls h1 h2 h3 h4 => lv_fdiv cx.1 cx.2.1 hd hne (kk H locs ls h1 h2 h3 h4)
theorem G.fmul (cx : Cx K p s m args meth c own cc nL ret) {x y : UInt32} (hd : decode cc pc = .ok (.fmul, 1)) (hne : vf_n32 (FP.fmul x y)) (kk : G K p l e R s m args below meth c Q nL V sz cells slots (pc + 1) lv (.float (FP.fmul x y) :: st)) : G K p l e R s m args below meth c Q nL V sz cells slots pc lv (.float y :: .float x :: st) := fun H locs ls h1 h2 h3 h4 => lv_fmul cx.1 cx.2.1 hd hne (kk H locs ls h1 h2 h3 h4)
theorem G.fsub (cx : Cx K p s m args meth c own cc nL ret) {x y : UInt32} (hd : decode cc pc = .ok (.fsub, 1)) (hne : vf_n32 (FP.fsub x y)) (kk : G K p l e R s m args below meth c Q nL V sz cells slots (pc + 1) lv (.float (FP.fsub x y) :: st)) : G K p l e R s m args below meth c Q nL V sz cells slots pc lv (.float y :: .float x :: st) := fun H locs ls h1 h2 h3 h4 => lv_fsub cx.1 cx.2.1 hd hne (kk H locs ls h1 h2 h3 h4)
theorem G.fcmp (cx : Cx K p s m args meth c own cc nL ret) {x y : UInt32} {op : CmpOp} (hd : decode cc pc = .ok (.fcmp op, 1))  (kk : G K p l e R s m args below meth c Q nL V sz cells slots (pc + 1) lv (.int (Op.cmpValue (FP.fcmp x y) op) :: st)) : G K p l e R s m args below meth c Q nL V sz cells slots pc lv (.float y :: .float x :: st) := fun H locs ls h1 h2 h3 h4 => lv_fcmp cx.1 cx.2.1 hd (kk H locs ls h1 h2 h3 h4)
theorem G.if_eq (cx : Cx K p s m args meth c own cc nL ret) {x : Int32} {off : Int} {tgt : Nat} (hd : decode cc pc = .ok (.ifCond .eq off, 3)) (ht : (pc : Int) + off = (tgt : Int)) (kt : x = 0 → G K p l e R s m args below meth c Q nL V sz cells slots tgt lv st) (kf : ¬ x = 0 → G K p l e R s m args below meth c Q nL V sz cells slots (pc + 3) lv st) : G K p l e R s m args below meth c Q nL V sz cells slots pc lv (.int x :: st) := fun H locs ls h1 h2 h3 h4 => lv_if_eq cx.1 cx.2.1 hd ht (fun h5 => kt h5 H locs ls h1 h2 h3 h4) (fun h5 => kf h5 H locs ls h1 h2 h3 h4)
theorem G.if_ne (cx : Cx K p s m args meth c own cc nL ret) {x : Int32} {off : Int} {tgt : Nat} (hd : decode cc pc = .ok (.ifCond .ne off, 3)) (ht : (pc : Int) + off = (tgt : Int)) (kt : ¬ x = 0 → G K p l e R s m args below meth c Q nL V sz cells slots tgt lv st) (kf : x = 0 → G K p l e R s m args below meth c Q nL V sz cells slots (pc + 3) lv st) : G K p l e R s m args below meth c Q nL V sz cells slots pc lv (.int x :: st) := fun H locs ls h1 h2 h3 h4 => lv_if_ne cx.1 cx.2.1 hd ht (fun h5 => kt h5 H locs ls h1 h2 h3 h4) (fun h5 => kf h5 H locs ls h1 h2 h3 h4)
theorem G.if_lt (cx : Cx K p s m args meth c own cc nL ret) {x : Int32} {off : Int} {tgt : Nat} (hd : decode cc pc = .ok (.ifCond .lt off, 3)) (ht : (pc : Int) + off = (tgt : Int)) (kt : x < 0 → G K p l e R s m args below meth c Q nL V sz cells slots tgt lv st) (kf : ¬ x < 0 → G K p l e R s m args below meth c Q nL V sz cells slots (pc + 3) lv st) : G K p l e R s m args below meth c Q nL V sz cells slots pc lv (.int x :: st) := fun H locs ls h1 h2 h3 h4 => lv_if_lt cx.1 cx.2.1 hd ht (fun h5 => kt h5 H locs ls h1 h2 h3 h4) (fun h5 => kf h5 H locs ls h1 h2 h3 h4)
theorem G.if_ge (cx : Cx K p s m args meth c own cc nL ret) {x : Int32} {off : Int} {tgt : Nat} (hd : decode cc pc = .ok (.ifCond .ge off, 3)) (ht : (pc : Int) + off = (tgt : Int)) (kt : 0 ≤ x → G K p l e R s m args below meth c Q nL V sz cells slots tgt lv st) (kf : ¬ 0 ≤ x → G K p l e R s m args below meth c Q nL V sz cells slots (pc + 3) lv st) : G K p l e R s m args below meth c Q nL V sz cells slots pc lv (.int x :: st) := fun H locs ls h1 h2 h3 h4 => lv_if_ge cx.1 cx.2.1 hd ht (fun h5 => kt h5 H locs ls h1 h2 h3 h4) (fun h5 => kf h5 H locs ls h1 h2 h3 h4)
theorem G.if_gt (cx : Cx K p s m args meth c own cc nL ret) {x : Int32} {off : Int} {tgt : Nat} (hd : decode cc pc = .ok (.ifCond .gt off, 3)) (ht : (pc : Int) + off = (tgt : Int)) (kt : 0 < x → G K p l e R s m args below meth c Q nL V sz cells slots tgt lv st) (kf : ¬ 0 < x → G K p l e R s m args below meth c Q nL V sz cells slots (pc + 3) lv st) : G K p l e R s m args below meth c Q nL V sz cells slots pc lv (.int x :: st) := fun H locs ls h1 h2 h3 h4 => lv_if_gt cx.1 cx.2.1 hd ht (fun h5 => kt h5 H locs ls h1 h2 h3 h4) (fun h5 => kf h5 H locs ls h1 h2 h3 h4)
theorem G.if_le (cx : Cx K p s m args meth c own cc nL ret) {x : Int32} {off : Int} {tgt : Nat} (hd : decode cc pc = .ok (.ifCond .le off, 3)) (ht : (pc : Int) + off = (tgt : Int)) (kt : x ≤ 0 → G K p l e R s m args below meth c Q nL V sz cells slots tgt lv st) (kf : ¬ x ≤ 0 → G K p l e R s m args below meth c Q nL V sz cells slots (pc + 3) lv st) : G K p l e R s m args below meth c Q nL V sz cells slots pc lv (.int x :: st) := fun H locs ls h1 h2 h3 h4 => lv_if_le cx.1 cx.2.1 hd ht (fun h5 => kt h5 H locs ls h1 h2 h3 h4) (fun h5 => kf h5 H locs ls h1 h2 h3 h4)
theorem G.icmp_eq (cx : Cx K p s m args meth c own cc nL ret) {x y : Int32} {off : Int} {tgt : Nat} (hd : decode cc pc = .ok (.if_icmp .eq off, 3)) (ht : (pc : Int) + off = (tgt : Int)) (kt : x = y → G K p l e R s m args below meth c Q nL V sz cells slots tgt lv st) (kf : ¬ x = y → G K p l e R s m args below meth c Q nL V sz cells slots (pc + 3) lv st) : G K p l e R s m args below meth c Q nL V sz cells slots pc lv (.int y :: .int x :: st) := fun H locs ls h1 h2 h3 h4 => lv_icmp_eq cx.1 cx.2.1 hd ht (fun h5 => kt h5 H locs ls h1 h2 h3 h4) (fun h5 => kf h5 H locs ls h1 h2 h3 h4)
theorem G.icmp_ne (cx : Cx K p s m args meth c own cc nL ret) {x y : Int32} {off : Int} {tgt : Nat} (hd : decode cc pc = .ok (.if_icmp .ne off, 3)) (ht : (pc : Int) + off = (tgt : Int)) (kt : ¬ x = y → G K p l e R s m args below meth c Q nL V sz cells slots tgt lv st) (kf : x = y → G K p l e R s m args below meth c Q nL V sz cells slots (pc + 3) lv st) : G K p l e R s m args below meth c Q nL V sz cells slots pc lv (.int y :: .int x :: st) := fun H locs ls h1 h2 h3 h4 => lv_icmp_ne cx.1 cx.2.1 hd ht (fun h5 => kt h5 H locs ls h1 h2 h3 h4) (fun h5 => kf h5 H locs ls h1 h2 h3 h4)
theorem G.icmp_lt (cx : Cx K p s m args meth c own cc nL ret) {x y : Int32} {off : Int} {tgt : Nat} (hd : decode cc pc = .ok (.if_icmp .lt off, 3)) (ht : (pc : Int) + off = (tgt : Int)) (kt : x < y → G K p l e R s m args below meth c Q nL V sz cells slots tgt lv st) (kf : ¬ x < y → G K p l e R s m args below meth c Q nL V sz cells slots (pc + 3) lv st) : G K p l e R s m args below meth c Q nL V sz cells slots pc lv (.int y :: .int x :: st) := fun H locs ls h1 h2 h3 h4 => lv_icmp_lt cx.1 cx.2.1 hd ht (fun h5 => kt h5 H locs ls h1 h2 h3 h4) (fun h5 => kf h5 H locs ls h1 h2 h3 h4)
theorem G.icmp_ge (cx : Cx K p s m args meth c own cc nL ret) {x y : Int32} {off : Int} {tgt : Nat} (hd : decode cc pc = .ok (.if_icmp .ge off, 3)) (ht : (pc : Int) + off = (tgt : Int)) (kt : y ≤ x → G K p l e R s m args below meth c Q nL V sz cells slots tgt lv st) (kf : ¬ y ≤ x → G K p l e R s m args below meth c Q nL V sz cells slots (pc + 3) lv st) : G K p l e R s m args below meth c Q nL V sz cells slots pc lv (.int y :: .int x :: st) := fun H locs ls h1 h2 h3 h4 => lv_icmp_ge cx.1 cx.2.1 hd ht (fun h5 => kt h5 H locs ls h1 h2 h3 h4) (fun h5 => kf h5 H locs ls h1 h2 h3 h4)
theorem G.icmp_gt (cx : Cx K p s m args meth c own cc nL ret) {x y : Int32} {off : Int} {tgt : Nat} (hd : decode cc pc = .ok (.if_icmp .gt off, 3)) (ht : (pc : Int) + off = (tgt : Int)) (kt : y < x → G K p l e R s m args below meth c Q nL V sz cells slots tgt lv st) (kf : ¬ y < x → G K p l e R s m args below meth c Q nL V sz cells slots (pc + 3) lv st) : G K p l e R s m args below meth c Q nL V sz cells slots pc lv (.int y :: .int x :: st) := fun H locs ls h1 h2 h3 h4 => lv_icmp_gt cx.1 cx.2.1 hd ht (fun h5 => kt h5 H locs ls h1 h2 h3 h4) (fun h5 => kf h5 H locs ls h1 h2 h3 h4)
theorem G.icmp_le (cx : Cx K p s m args meth c own cc nL ret) {x y : Int32} {off : Int} {tgt : Nat} (hd : decode cc pc = .ok (.if_icmp .le off, 3)) (ht : (pc : Int) + off = (tgt : Int)) (kt : x ≤ y → G K p l e R s m args below meth c Q nL V sz cells slots tgt lv st) (kf : ¬ x ≤ y → G K p l e R s m args below meth c Q nL V sz cells slots (pc + 3) lv st) : G K p l e R s m args below meth c Q nL V sz cells slots pc lv (.int y :: .int x :: st) := fun H locs ls h1 h2 h3 h4 => lv_icmp_le cx.1 cx.2.1 hd ht (fun h5 => kt h5 H locs ls h1 h2 h3 h4) (fun h5 => kf h5 H locs ls h1 h2 h3 h4)
theorem G.ifnonnull (cx : Cx K p s m args meth c own cc nL ret) {x : Nat} {off : Int} {tgt : Nat} (hd : decode cc pc = .ok (.ifnonnull off, 3)) (ht : (pc : Int) + off = (tgt : Int)) (kk : G K p l e R s m args below meth c Q nL V sz cells slots tgt lv st) : G K p l e R s m args below meth c Q nL V sz cells slots pc lv (.ref x :: st) := fun H locs ls h1 h2 h3 h4 => lv_ifnonnull cx.1 cx.2.1 hd ht (kk H locs ls h1 h2 h3 h4)
theorem G.ifnull (cx : Cx K p s m args meth c own cc nL ret) {x : Nat} {off : Int} (hd : decode cc pc = .ok (.ifnull off, 3))  (kk : G K p l e R s m args below meth c Q nL V sz cells slots (pc + 3) lv st) : G K p l e R s m args below meth c Q nL V sz cells slots pc lv (.ref x :: st) := fun H locs ls h1 h2 h3 h4 => lv_ifnull cx.1 cx.2.1 hd (kk H locs ls h1 h2 h3 h4)
theorem G.ifnullN (cx : Cx K p s m args meth c own cc nL ret) {off : Int} {tgt : Nat} (hd : decode cc pc = .ok (.ifnull off, 3)) (ht : (pc : Int) + off = (tgt : Int)) (kk : G K p l e R s m args below meth c Q nL V sz cells slots tgt lv st) : G K p l e R s m args below meth c Q nL V sz cells slots pc lv (.null :: st) := fun H locs ls h1 h2 h3 h4 => lv_ifnullN cx.1 cx.2.1 hd ht (kk H locs ls h1 h2 h3 h4)
theorem G.ifnonnullN (cx : Cx K p s m args meth c own cc nL ret) {off : Int} (hd : decode cc pc = .ok (.ifnonnull off, 3))  (kk : G K p l e R s m args below meth c Q nL V sz cells slots (pc + 3) lv st) : G K p l e R s m args below meth c Q nL V sz cells slots pc lv (.null :: st) := fun H locs ls h1 h2 h3 h4 => lv_ifnonnullN cx.1 cx.2.1 hd (kk H locs ls h1 h2 h3 h4)
theorem G.tableIn (cx : Cx K p s m args meth c own cc nL ret) {dflt lo hi : Int} {offs : Array Int} {len : Nat} {x : Int32} {off : Int} {tgt : Nat} (hd : decode cc pc = .ok (.tableswitch dflt lo hi offs, len)) (g1 : ¬ x.toInt < lo) (g2 : ¬ hi < x.toInt) (ho : offs[(x.toInt - lo).toNat]? = some off) (ht : (pc : Int) + off = (tgt : Int)) (kk : G K p l e R s m args below meth c Q nL V sz cells slots tgt lv st) : G K p l e R s m args below meth c Q nL V sz cells slots pc lv (.int x :: st) := fun H locs ls h1 h2 h3 h4 => lv_tableIn cx.1 cx.2.1 hd g1 g2 ho ht (kk H locs ls h1 h2 h3 h4)
theorem G.tableOut (cx : Cx K p s m args meth c own cc nL ret) {dflt lo hi : Int} {offs : Array Int} {len : Nat} {x : Int32} {tgt : Nat} (hd : decode cc pc = .ok (.tableswitch dflt lo hi offs, len)) (g : x.toInt < lo ∨ hi < x.toInt) (ht : (pc : Int) + dflt = (tgt : Int)) (kk : G K p l e R s m args below meth c Q nL V sz cells slots tgt lv st) : G K p l e R s m args below meth c Q nL V sz cells slots pc lv (.int x :: st) := fun H locs ls h1 h2 h3 h4 => lv_tableOut cx.1 cx.2.1 hd g ht (kk H locs ls h1 h2 h3 h4)
theorem G.get (cx : Cx K p s m args meth c own cc nL ret) {C : String} {T : u_T} {N ci index a : Nat} {fs : List Value} (k : Nat) {v : Value} (hd : decode cc pc = .ok (.getfield index, 3)) (hw : Cond.fieldLink own index (T k).1 (T k).2.1 (T k).2.2.1 ∈ wsL_law) (hin : ∀ w ∈ u_ws C T N, w ∈ wsL_law) (hc : vwCl[ci]? = some (C, T, N)) (hk : k < N) (hV : V a = some (.inr (ci, fs))) (hf : fs[k]? = some v) (kk : G K p l e R s m args below meth c Q nL V sz cells slots (pc + 3) lv (v :: st)) : G K p l e R s m args below meth c Q nL V sz cells slots pc lv (.ref a :: st) := by
  intro H locs ls h1 h2 h3 h4
  obtain ⟨hx, hb, -, ho, hts, hK, -⟩ := id cx
  have hP : va_P K.1 vwCl [(a, .inr (ci, fs))] H := by
    intro j q hq
    cases j with
    | zero => cases hq; exact (h2 a _ hV).2
    | succ j => simp at hq
  exact va_get hx hb hts hin ho hK.1 hP 0 rfl hc k hk (hts _ hw) (fun _ h => h) hf hd (kk H locs ls h1 h2 h3 h4)
theorem hv.put {a : Nat} {x : va_E} {H H1 : Heap} (h : hv K V H) (ha : kn K ≤ a) (he : va_at K.1 vwCl (a, x) H1) (oq : ∀ q : Nat, q ≠ a → H1[q]? = H[q]?) : hv K (vset V a x) H1 := by
  intro q y hy
  by_cases hq : q = a
  · subst hq
    rw [vset_self] at hy
    cases hy
    exact ⟨ha, he⟩
  · rw [vset_ne V x hq] at hy
    obtain ⟨g1, g2⟩ := h q y hy
    exact ⟨g1, g2.kept (oq q hq)⟩
theorem G.put (cx : Cx K p s m args meth c own cc nL ret) {C : String} {T : u_T} {N ci index a : Nat} {fs fs2 : List Value} (k : Nat) {v : Value} {ty : FieldType} (ty0 : Nat → FieldType) (hty : ∀ k, k < N → parseFieldDescriptor (T k).2.2.1 = some (ty0 k)) (hnm : ∀ a, a < N → ∀ b, b < N → a ≠ b → (T a).2.1 ≠ (T b).2.1) (hd : decode cc pc = .ok (.putfield index, 3)) (hw : Cond.fieldLink own index (T k).1 (T k).2.1 (T k).2.2.1 ∈ wsL_law) (hin : ∀ w ∈ u_ws C T N, w ∈ wsL_law) (hc : vwCl[ci]? = some (C, T, N)) (hk : k < N) (hfin : (T k).2.2.2 = false) (ht : ty0 k = ty) (hn : narrow ty v = v) (hfit : fits ty v = true) (hV : V a = some (.inr (ci, fs))) (hl : k < fs.length) (hfs : fs.set k v = fs2) (kk : G K p l e R s m args below meth c Q nL (vset V a (.inr (ci, fs2))) sz cells slots (pc + 3) lv st) : G K p l e R s m args below meth c Q nL V sz cells slots pc lv (v :: .ref a :: st) := by
  intro H locs ls h1 h2 h3 h4
  subst hfs
  obtain ⟨hx, hb, -, ho, hts, hK, -⟩ := id cx
  have hap := va_apart (own := own) (tys := tysK K) hts hin ty0 hty hnm hK.1 hc
  obtain ⟨hka, r, e1, cell, q1, q2, q3, q4⟩ := h2 a _ hV
  have hr : r = (C, T, N) := Option.some.inj (e1.symm.trans hc)
  subst hr
  obtain ⟨hSl, hfc, kC, hkC, hkind⟩ := hK.1.1 ci _ hc
  obtain ⟨cf, kf, fi, f, hi, hsl⟩ := hSl k hk
  have hlay := hts _ (hin _ (u_in_lay hk))
  unfold u_lay at hlay
  rw [if_neg (by rw [hfin]; decide)] at hlay
  have hst := (u_facts hfc hkC (u_lays hts hin hk) hi).1
  have h6 := u_store hfc hkC hkind hlay hi ((hty k hk).trans (congrArg some ht)) hn hfit
  refine W.putK hx hb (f := f) ⟨ho, hts _ hw, ⟨_, _, _, hi⟩, hst⟩ (by rw [q2]; exact h6) q1 q3 (by rw [hsl]; exact k2_hasslot (q4 k hk)) rfl rfl hd fun H1 g1 g2 g3 => ?_
  rw [hsl] at g1 ⊢
  exact kk H1 _ ls (g2.trans h1) (h2.put hka ⟨_, hc, t_OB.to (V := updV (vp_V fs) k v) ⟨_, g1, q2, q3, t_set q4 hap hk v⟩ (fun j _ => vp_updV_set hl v j)⟩ g3) (h3.put g2 g3 hka) h4
theorem G.putF (cx : Cx K p s m args meth c own cc nL ret) (hini : meth.name = "<init>") {C : String} {T : u_T} {N ci index a : Nat} {fs fs2 : List Value} (k : Nat) {v : Value} {ty : FieldType} (ty0 : Nat → FieldType) (hty : ∀ k, k < N → parseFieldDescriptor (T k).2.2.1 = some (ty0 k)) (hnm : ∀ a, a < N → ∀ b, b < N → a ≠ b → (T a).2.1 ≠ (T b).2.1) (hd : decode cc pc = .ok (.putfield index, 3)) (hw : Cond.fieldLink own index (T k).1 (T k).2.1 (T k).2.2.1 ∈ wsL_law) (hin : ∀ w ∈ u_ws C T N, w ∈ wsL_law) (hc : vwCl[ci]? = some (C, T, N)) (hk : k < N) (hfin : (T k).2.2.2 = true) (hdecl : (T k).1 = own) (ht : ty0 k = ty) (hn : narrow ty v = v) (hfit : fits ty v = true) (hV : V a = some (.inr (ci, fs))) (hl : k < fs.length) (hfs : fs.set k v = fs2) (kk : G K p l e R s m args below meth c Q nL (vset V a (.inr (ci, fs2))) sz cells slots (pc + 3) lv st) : G K p l e R s m args below meth c Q nL V sz cells slots pc lv (v :: .ref a :: st) := by
  intro H locs ls h1 h2 h3 h4
  subst hfs
  obtain ⟨hx, hb, -, ho, hts, hK, -⟩ := id cx
  have hap := va_apart (own := own) (tys := tysK K) hts hin ty0 hty hnm hK.1 hc
  obtain ⟨hka, r, e1, cell, q1, q2, q3, q4⟩ := h2 a _ hV
  have hr : r = (C, T, N) := Option.some.inj (e1.symm.trans hc)
  subst hr
  obtain ⟨hSl, hfc, kC, hkC, hkind⟩ := hK.1.1 ci _ hc
  obtain ⟨cf, kf, fi, f, hi, hsl⟩ := hSl k hk
  have hlay := hts _ (hin _ (u_in_lay hk))
  unfold u_lay at hlay
  rw [if_pos hfin] at hlay
  have hst := (u_facts hfc hkC (u_lays hts hin hk) hi).1
  have hcf : m.cls = cf := by
    obtain ⟨_, _, c', _, _, _, -, -, hf', -, -, -, hown2, -⟩ := Cond.laysFinal_spec hlay
    have e1 : c' = cf := by have := hi.symm.trans hf'; simp at this; exact this.1.symm
    rw [hdecl] at hown2
    rw [← e1]; exact Option.some.inj (ho.symm.trans hown2)
  have h6 := u_fits hfc hkC hkind (Or.inr hlay) hi ((hty k hk).trans (congrArg some ht)) hn hfit
  refine W.putFinK hx hb ho (hts _ hw) hi hst hcf hini (by rw [q2]; exact h6) q1 q3 (by rw [hsl]; exact k2_hasslot (q4 k hk)) rfl rfl hd fun H1 g1 g2 g3 => ?_
  rw [hsl] at g1 ⊢
  exact kk H1 _ ls (g2.trans h1) (h2.put hka ⟨_, hc, t_OB.to (V := updV (vp_V fs) k v) ⟨_, g1, q2, q3, t_set q4 hap hk v⟩ (fun j _ => vp_updV_set hl v j)⟩ g3) (h3.put g2 g3 hka) h4
theorem hv.one {a : Nat} {x : va_E} {H : Heap} (h2 : hv K V H) (hV : V a = some x) : va_P K.1 vwCl [(a, x)] H := by
  intro j q hq
  cases j with
  | zero => cases hq; exact (h2 a _ hV).2
  | succ j => simp at hq
theorem G.iald (cx : Cx K p s m args meth c own cc nL ret) {a n j : Nat} {f : Nat → Int32} {i : Int32} (hd : decode cc pc = .ok (.iaload, 1)) (hV : V a = some (.inl (K.2.1 0, n, .inl f))) (hi : i = nI j) (hj : j < n) (hn : n < 2 ^ 31) (kk : G K p l e R s m args below meth c Q nL V sz cells slots (pc + 1) lv (.int (f j) :: st)) : G K p l e R s m args below meth c Q nL V sz cells slots pc lv (.int i :: .ref a :: st) := by
  intro H locs ls h1 h2 h3 h4
  subst hi
  obtain ⟨hx, hb, -, ho, hts, hK, -⟩ := id cx
  refine va_iald hx hb hK.1 (h2.one hV) 0 0 rfl rfl (vp_in_nI hj hn) hd ?_
  rw [nI_clamp (Nat.lt_trans hj hn)]
  exact kk H locs ls h1 h2 h3 h4
theorem G.aald (cx : Cx K p s m args meth c own cc nL ret) (t : Nat) {C : String} {a n j : Nat} {f : Nat → Option Nat} {i : Int32} (ht : (tysK K)[t]? = some (K.2.1 t, .object C)) (hd : decode cc pc = .ok (.aaload, 1)) (hV : V a = some (.inl (K.2.1 t, n, .inr (.inr (.inr (.inr f)))))) (hi : i = nI j) (hj : j < n) (hn : n < 2 ^ 31) (kk : G K p l e R s m args below meth c Q nL V sz cells slots (pc + 1) lv (va_rf (f j) :: st)) : G K p l e R s m args below meth c Q nL V sz cells slots pc lv (.int i :: .ref a :: st) := by
  intro H locs ls h1 h2 h3 h4
  subst hi
  obtain ⟨hx, hb, -, ho, hts, hK, -⟩ := id cx
  refine va_aldq hx hb hK.1 (h2.one hV) 0 t rfl ht (vp_in_nI hj hn) hd ?_
  rw [nI_clamp (Nat.lt_trans hj hn)]
  exact kk H locs ls h1 h2 h3 h4
theorem G.alen (cx : Cx K p s m args meth c own cc nL ret) (t : Nat) {ty : FieldType} {a : Nat} {x : vp_A} {v : Int32} (ht : (tysK K)[t]? = some (K.2.1 t, ty)) (hd : decode cc pc = .ok (.arraylength, 1)) (hV : V a = some (.inl (K.2.1 t, x))) (hv9 : Int32.ofNat x.1 = v) (kk : G K p l e R s m args below meth c Q nL V sz cells slots (pc + 1) lv (.int v :: st)) : G K p l e R s m args below meth c Q nL V sz cells slots pc lv (.ref a :: st) := by
  intro H locs ls h1 h2 h3 h4
  obtain ⟨hx, hb, -, ho, hts, hK, -⟩ := id cx
  exact va_alen hx hb hK.1 (h2.one hV) 0 t rfl ht hv9 hd (kk H locs ls h1 h2 h3 h4)
theorem G.iast (cx : Cx K p s m args meth c own cc nL ret) {a n j : Nat} {f : Nat → Int32} {i x : Int32} (hd : decode cc pc = .ok (.iastore, 1)) (hV : V a = some (.inl (K.2.1 0, n, .inl f))) (hi : i = nI j) (hj : j < n) (hn : n < 2 ^ 31) (kk : G K p l e R s m args below meth c Q nL (vset V a (.inl (K.2.1 0, n, .inl (upd f j x)))) sz cells slots (pc + 1) lv st) : G K p l e R s m args below meth c Q nL V sz cells slots pc lv (.int x :: .int i :: .ref a :: st) := by
  intro H locs ls h1 h2 h3 h4
  subst hi
  obtain ⟨hx, hb, -, ho, hts, hK, -⟩ := id cx
  have hin := vp_in_nI hj hn
  obtain ⟨hka, hat⟩ := h2 a _ hV
  refine W.iast hx hb hat ((hK.1.2 0 _ rfl).1 n (fun j => .int (f j))) (fun q => by cases q) (by show ¬ (_ < _ ∨ (arrV _ _ _).slots.size ≤ _); rw [arrV_size]; exact hin) rfl rfl hd fun H1 g1 g2 g3 => ?_
  refine kk H1 _ ls (g2.trans h1) (h2.put hka ?_ g3) (h3.put g2 g3 hka) h4
  show H1[a]? = some (vp_cell _ _)
  rw [g1, nI_clamp (Nat.lt_trans hj hn), vp_cell_i, vp_cell_i, arrV_store]
  congr 2
  funext q
  by_cases hq : q = j
  · subst hq; simp [updV, upd]
  · simp [updV, upd, hq]
theorem G.aast (cx : Cx K p s m args meth c own cc nL ret) (t : Nat) {C : String} {T : u_T} {N ci a n j b : Nat} {f : Nat → Option Nat} {fs : List Value} {i : Int32} (ht : (tysK K)[t]? = some (K.2.1 t, .object C)) (hc : vwCl[ci]? = some (C, T, N)) (hd : decode cc pc = .ok (.aastore, 1)) (hV : V a = some (.inl (K.2.1 t, n, .inr (.inr (.inr (.inr f)))))) (hB : V b = some (.inr (ci, fs))) (hi : i = nI j) (hj : j < n) (hn : n < 2 ^ 31) (kk : G K p l e R s m args below meth c Q nL (vset V a (.inl (K.2.1 t, n, .inr (.inr (.inr (.inr (va_up f j (some b)))))))) sz cells slots (pc + 1) lv st) : G K p l e R s m args below meth c Q nL V sz cells slots pc lv (.ref b :: .int i :: .ref a :: st) := by
  intro H locs ls h1 h2 h3 h4
  subst hi
  obtain ⟨hx, hb, -, ho, hts, hK, -⟩ := id cx
  have hin := vp_in_nI hj hn
  have hjc := nI_clamp (Nat.lt_trans hj hn)
  obtain ⟨hka, hat⟩ := h2 a _ hV
  obtain ⟨-, r', hr', cellV, g1, g2, g3, -⟩ := h2 b _ hB
  have hcls := (hK.1.1 ci _ hc).2
  obtain ⟨kA', comp, k1, k2, k3, -⟩ := (hK.1.2 t _ ht).2
  have hr2 : r' = (C, T, N) := Option.some.inj (hr'.symm.trans hc)
  subst hr2
  have hcomp : comp = K.1.1 ci := Option.some.inj (k3.symm.trans hcls.1)
  subst hcomp
  obtain ⟨kC, hkC, -⟩ := hcls.2
  refine W.aast hx hb hat (fun q h => by cases h) (fun h => by cases h) k1 k2 rfl hkC ⟨fun q => hin (Or.inl q), by show _ < (arrV _ _ _).slots.size; rw [arrV_size, hjc]; exact hj⟩ g1 (fun q h => by rw [g3] at h; cases h) (by rw [g2]; exact hkC) (by rw [g2]; exact va_assign hcls) rfl rfl hd fun H1 e1 z1 oq => ?_
  refine kk H1 _ ls (z1.trans h1) (h2.put hka ?_ oq) (h3.put z1 oq hka) h4
  show H1[a]? = some (vp_cell _ _)
  rw [e1, hjc, vp_cell_q, vp_cell_q, arrV_store]
  congr 2
  funext q
  by_cases hq : q = j
  · subst hq; simp [updV, va_up, va_rf]
  · simp [updV, va_up, hq]
/-- behind a call -/
theorem G.ofRun {mc ms : Nat} {st0 rest : List Value} {a : Array Value} {rv : Option Value} {V' : VW} {sz' : Nat}
    (hr : ∀ (H : Heap) (locs : List Loc) (ls : Array Slot), H.size = sz → hv K V H → va_S (kA K) s.heap H locs → lv_has ls nL lv → va_Run p l e R s m args below meth c H locs cells slots mc ms (F0 m pc ls st0) rest (QCt K rv V' sz' a) (kA K))
    (hz : sz ≤ sz') (kk : G K p l e R s m args below meth c Q nL V' sz' (cells + mc) (slots + ms) (pc + 3) lv (rv.toList ++ rest)) : G K p l e R s m args below meth c Q nL V sz cells slots pc lv st0 := by
  intro H locs ls h1 h2 h3 h4 T hT X
  obtain ⟨v, st₀, t, T', L, h0, X', hL, e1, e2, ⟨hv9, hz9, hh9, hF⟩, st⟩ := hr H locs ls h1 h2 h3 h4 T hT X
  cases hv9
  have hF2 := hF.2
  rw [h0] at hF2
  obtain ⟨t2, a1, b1⟩ := kk T'.heap (locs ++ L) ls (by rw [e1]; exact hz9) (by rw [e1]; exact hh9)
    ⟨Nat.le_trans h3.1 (by rw [e1, hz9, h1]; exact hz), fun q g1 g2 => by rw [e1, hF2 q (Nat.lt_of_lt_of_le g1 h3.1) g2]; exact h3.2.1 q g1 g2, fun q hq => by
      rcases List.mem_append.mp hq with h | h
      · exact h3.2.2 q h
      · exact hL q h⟩ h4 T' rfl X'
  exact ⟨t2, st t2 a1, b1⟩
def okB (y : MethodName) (cc : ByteArray) (maxL : Nat) (ret : Option FieldType) (n : Nat) : Prop := Cond.initialized y.cls ∈ wsL_law ∧ Cond.code y cc maxL ret ∈ wsL_law ∧ (y.cls ≠ "java/lang/invoke/MethodHandle" ∧ y.cls ≠ "java/lang/invoke/VarHandle" ∧ (parseMethodDescriptor y.desc).map (fun d => d.parameters.length) = some n)
def okV (y : MethodName) (cc : ByteArray) (maxL : Nat) (ret : Option FieldType) (n : Nat) : Prop := (Cond.instanceMethod y ∈ wsL_law ∧ Cond.selects y.cls y y ∈ wsL_law) ∧ okB y cc maxL ret n
def okS (y : MethodName) (cc : ByteArray) (maxL : Nat) (ret : Option FieldType) (n : Nat) : Prop := Cond.static y ∈ wsL_law ∧ okB y cc maxL ret n
def okI (y : MethodName) (cc : ByteArray) (maxL : Nat) (n : Nat) : Prop := (Cond.instanceMethod y ∈ wsL_law ∧ y.name = "<init>") ∧ okB y cc maxL none n
theorem goodU {w : Cond} (h : w ∈ wsL_law) : w ∈ wsL_law ∧ ((w.onTables && w.keeps) = true ∨ ∃ ty, w = .arrayClass ty) := ⟨h, good_of_word (List.all_eq_true.mp wsL_good _ h)⟩
theorem goodU_O {y : MethodName} {cc2 : ByteArray} {n2 : Nat} {r2 : Option FieldType} (h : Cond.code y cc2 n2 r2 ∈ wsL_law) : GoodIn wsL_law (wsO y cc2 n2 r2) := fun w hw => (List.mem_cons.mp hw).elim (fun e => by subst e; exact goodU h) (fun hw => goodU hw)
theorem Wd.after {H : Heap} {locs : List Loc} (cx : Cx K p s m args meth c own cc nL ret) (h1 : H.size = sz) (h2 : hv K V H) (h3 : va_S (kA K) s.heap H locs) {U : State} (hU : U.heap = H) (hW : s.WarmedH U.vm) : Wd K sz V U := by
  obtain ⟨-, -, -, -, -, hK, hZ, hn, -⟩ := cx
  refine ⟨by rw [hU]; exact h1, by rw [← h1]; exact Nat.le_trans hn h3.1, by rw [hU]; exact h2, hK.moved hW, ?_⟩
  rw [hU]
  exact (hZ.kept h3.2.1).moved hW.alike
section GCall
variable {y : MethodName} {cc2 : ByteArray} {maxL d mc ms n index : Nat} {ret2 : Option FieldType} {As rest st0 : List Value} {rv : Option Value} {V' : VW} {sz' b : Nat}
theorem G.callV (cx : Cx K p s m args meth c own cc nL ret) {C : String} {T : u_T} {N ci : Nat} {fs : List Value} (hM : Ct l K y cc2 maxL ret2 d (.ref b :: As) V sz rv V' sz' mc ms) (ok : okV y cc2 maxL ret2 As.length) (hd : decode cc pc = .ok (.invokevirtual index, 3)) (hw : Cond.methodLink own index y ∈ wsL_law) (hc : vwCl[ci]? = some (C, T, N)) (hCy : C = y.cls) (hV : V b = some (.inr (ci, fs))) (hst : st0 = As.reverse ++ .ref b :: rest) (hrest : (rest.map fun v => v.category).sum ≤ 8) (hz : sz ≤ sz') (hR : d + 1 ≤ R.frames ∧ 8 + (maxL + 11) + (30 * d + 24 * (d - 6)) ≤ R.locals) (hf : cells + mc ≤ R.cells ∧ slots + ms ≤ R.slots)
    (kk : G K p l e R s m args below meth c Q nL V' sz' (cells + mc) (slots + ms) (pc + 3) lv (rv.toList ++ rest)) : G K p l e R s m args below meth c Q nL V sz cells slots pc lv st0 := by
  refine G.ofRun (rest := rest) (a := (Value.ref b :: As).toArray) (mc := mc) (ms := ms) (fun H locs ls h1 h2 h3 h4 => ?_) hz kk
  obtain ⟨hx, hb, hml, ho, hts, hK, -⟩ := id cx
  obtain ⟨⟨o1, o2⟩, o3, o4, o5, o6, o7⟩ := ok
  subst hCy
  obtain ⟨-, hat⟩ := h2 b _ hV
  exact va_runV (Ts := wsL_law) (C := y.cls) ⟨hx, hb, hml, ho, hts⟩ hM (cwV As.length hts (fun w hw' => by
      unfold wsV at hw'
      rcases List.mem_append.mp hw' with h | h
      · simp only [List.mem_cons, List.not_mem_nil, or_false] at h
        rcases h with rfl | rfl | rfl | rfl
        · exact goodU hw
        · exact goodU o1
        · exact goodU o2
        · exact goodU o3
      · exact goodU_O o4 w h) rfl rfl rfl ⟨rfl, o5, o6, o7⟩ hR) ⟨Wd.blind, va_recv hK.1 (h2.one hV) (ci := ci) (q0 := 0) hc rfl, fun U hU hW => ⟨rfl, Wd.after cx h1 h2 h3 hU hW⟩⟩ rfl rfl h4.1 hst (lv_room hrest) hd hf
theorem G.callS (cx : Cx K p s m args meth c own cc nL ret) (hM : Ct l K y cc2 maxL ret2 d As V sz rv V' sz' mc ms) (ok : okS y cc2 maxL ret2 As.length) (hd : decode cc pc = .ok (.invokestatic index, 3)) (hw : Cond.methodLink own index y ∈ wsL_law) (hCy : y.cls = own) (hst : st0 = As.reverse ++ rest) (hrest : (rest.map fun v => v.category).sum ≤ 8) (hz : sz ≤ sz') (hR : d + 1 ≤ R.frames ∧ 8 + (maxL + 11) + (30 * d + 24 * (d - 6)) ≤ R.locals) (hf : cells + mc ≤ R.cells ∧ slots + ms ≤ R.slots)
    (kk : G K p l e R s m args below meth c Q nL V' sz' (cells + mc) (slots + ms) (pc + 3) lv (rv.toList ++ rest)) : G K p l e R s m args below meth c Q nL V sz cells slots pc lv st0 := by
  refine G.ofRun (rest := rest) (a := As.toArray) (mc := mc) (ms := ms) (fun H locs ls h1 h2 h3 h4 => ?_) hz kk
  obtain ⟨hx, hb, hml, ho, hts, hK, -⟩ := id cx
  obtain ⟨o1, o3, o4, o5, o6, o7⟩ := ok
  exact va_runS (Ts := wsL_law) ⟨hx, hb, hml, ho, hts⟩ hM (cwS As.length hts (fun w hw' => by
      unfold wsS at hw'
      rcases List.mem_append.mp hw' with h | h
      · simp only [List.mem_cons, List.not_mem_nil, or_false] at h
        rcases h with rfl | rfl | rfl
        · exact goodU hw
        · exact goodU o1
        · rw [← hCy]; exact goodU o3
      · exact goodU_O o4 w h) rfl rfl rfl ⟨hCy, o5, o6, o7⟩ hR) ⟨Wd.blind, fun U hU hW => ⟨rfl, Wd.after cx h1 h2 h3 hU hW⟩⟩ rfl rfl h4.1 hst (lv_room hrest) hd hf
theorem G.callSN (cx : Cx K p s m args meth c own cc nL ret) (hM : Ct l K y cc2 maxL ret2 d As V sz rv V' sz' mc ms) (ok : okS y cc2 maxL ret2 As.length) (hd : decode cc pc = .ok (.invokestatic index, 3)) (hw : (own, index, y) ∈ nestM) (hst : st0 = As.reverse ++ rest) (hrest : (rest.map fun v => v.category).sum ≤ 8) (hz : sz ≤ sz') (hR : d + 1 ≤ R.frames ∧ 8 + (maxL + 11) + (30 * d + 24 * (d - 6)) ≤ R.locals) (hf : cells + mc ≤ R.cells ∧ slots + ms ≤ R.slots)
    (kk : G K p l e R s m args below meth c Q nL V' sz' (cells + mc) (slots + ms) (pc + 3) lv (rv.toList ++ rest)) : G K p l e R s m args below meth c Q nL V sz cells slots pc lv st0 := by
  refine G.ofRun (rest := rest) (a := As.toArray) (mc := mc) (ms := ms) (fun H locs ls h1 h2 h3 h4 => ?_) hz kk
  obtain ⟨hx, hb, hml, ho, hts, hK, -⟩ := id cx
  obtain ⟨o1, o3, o4, o5, o6, o7⟩ := ok
  exact va_runSN (Ts := wsL_law) ⟨hx, hb, hml, ho, hts⟩ hM ⟨va_cnB As.length hts (goodU_O o4) rfl rfl rfl (hK.2.1 _ hw) (hts _ o3) ⟨o5, o6, o7⟩ hR, hts _ o1, trivial⟩ ⟨Wd.blind, fun U hU hW => ⟨rfl, Wd.after cx h1 h2 h3 hU hW⟩⟩ rfl rfl h4.1 hst (lv_room hrest) hd hf
theorem G.callI (cx : Cx K p s m args meth c own cc nL ret) (hM : Ct l K y cc2 maxL none d (.ref b :: As) V sz rv V' sz' mc ms) (ok : okI y cc2 maxL As.length) (hd : decode cc pc = .ok (.invokespecial index, 3)) (hw : Cond.methodLink own index y ∈ wsL_law) (hst : st0 = As.reverse ++ .ref b :: rest) (hrest : (rest.map fun v => v.category).sum ≤ 8) (hz : sz ≤ sz') (hR : d + 1 ≤ R.frames ∧ 8 + (maxL + 11) + (30 * d + 24 * (d - 6)) ≤ R.locals) (hf : cells + mc ≤ R.cells ∧ slots + ms ≤ R.slots)
    (kk : G K p l e R s m args below meth c Q nL V' sz' (cells + mc) (slots + ms) (pc + 3) lv (rv.toList ++ rest)) : G K p l e R s m args below meth c Q nL V sz cells slots pc lv st0 := by
  refine G.ofRun (rest := rest) (a := (Value.ref b :: As).toArray) (mc := mc) (ms := ms) (fun H locs ls h1 h2 h3 h4 => ?_) hz kk
  obtain ⟨hx, hb, hml, ho, hts, hK, -⟩ := id cx
  obtain ⟨⟨o1, o2⟩, o3, o4, o5, o6, o7⟩ := ok
  exact va_runI (Ts := wsL_law) ⟨hx, hb, hml, ho, hts⟩ hM (cwI As.length hts (goodU_O o4) rfl rfl rfl (hts _ o3) (hts _ hw) (hts _ o1) o2 ⟨o5, o6, o7⟩ hR) ⟨Wd.blind, fun U hU hW => ⟨rfl, Wd.after cx h1 h2 h3 hU hW⟩⟩ rfl rfl h4.1 hst (lv_room hrest) hd hf
theorem G.callIN (cx : Cx K p s m args meth c own cc nL ret) (hM : Ct l K y cc2 maxL none d (.ref b :: As) V sz rv V' sz' mc ms) (ok : okI y cc2 maxL As.length) (hd : decode cc pc = .ok (.invokespecial index, 3)) (hw : (own, index, y) ∈ nestM) (hst : st0 = As.reverse ++ .ref b :: rest) (hrest : (rest.map fun v => v.category).sum ≤ 8) (hz : sz ≤ sz') (hR : d + 1 ≤ R.frames ∧ 8 + (maxL + 11) + (30 * d + 24 * (d - 6)) ≤ R.locals) (hf : cells + mc ≤ R.cells ∧ slots + ms ≤ R.slots)
    (kk : G K p l e R s m args below meth c Q nL V' sz' (cells + mc) (slots + ms) (pc + 3) lv (rv.toList ++ rest)) : G K p l e R s m args below meth c Q nL V sz cells slots pc lv st0 := by
  refine G.ofRun (rest := rest) (a := (Value.ref b :: As).toArray) (mc := mc) (ms := ms) (fun H locs ls h1 h2 h3 h4 => ?_) hz kk
  obtain ⟨hx, hb, hml, ho, hts, hK, -⟩ := id cx
  obtain ⟨⟨o1, o2⟩, o3, o4, o5, o6, o7⟩ := ok
  exact va_runIN (Ts := wsL_law) ⟨hx, hb, hml, ho, hts⟩ hM ⟨va_cnB As.length hts (goodU_O o4) rfl rfl rfl (hK.2.1 _ hw) (hts _ o3) ⟨o5, o6, o7⟩ hR, o2, hts _ o1⟩ ⟨Wd.blind, fun U hU hW => ⟨rfl, Wd.after cx h1 h2 h3 hU hW⟩⟩ rfl rfl h4.1 hst (lv_room hrest) hd hf
end GCall
end GS
