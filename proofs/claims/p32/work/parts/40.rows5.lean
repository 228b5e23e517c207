/-! ALLOCATION over a picture: the new cell stands at sz. -/
section Rows5
variable {K : KT} {p : Program} {l : Launch} {e : Env} {R : Room} {s : State} {m : MethodId} {args : Array Value} {below : List Frame} {meth : Method} {c : Code} {Q : State → Prop} {nL : Nat} {own : String} {cc : ByteArray} {ret : Option FieldType}
variable {V : VW} {sz cells slots pc : Nat} {lv : List (Nat × Value)} {st : List Value}
theorem G.objI (cx : Cx K p s m args meth c own cc nL ret) {index a : Nat} (hd : decode cc pc = .ok (.invokespecial index, 3)) (hw : Cond.methodLink own index objectInit ∈ wsL_law) (hR : 1 ≤ R.frames ∧ 21 ≤ R.locals) (hr : (st.map fun v => v.category).sum ≤ 8) (kk : G K p l e R s m args below meth c Q nL V sz cells slots (pc + 3) lv st) : G K p l e R s m args below meth c Q nL V sz cells slots pc lv (.ref a :: st) := by
  intro H locs ls h1 h2 h3 h4
  obtain ⟨hx, hb, hml, ho, hts, -⟩ := id cx
  refine W.objInit hx hb ho (hts _ hw) (hts _ wm_im_objectInit) (hts _ wm_co_objectInit) rfl (by rw [hml]; exact h4.1) rfl hd hR.1 ?_ (kk H locs ls h1 h2 h3 h4)
  show 2 * 0 + _ + 12 ≤ _
  omega
theorem va_at.lt' {D : va_G} {cl : List vw_C} {q : Nat × va_E} {H : Heap} (h : va_at D cl q H) : q.1 < H.size := by
  have hP : va_P D cl [q] H := by
    intro k x hx
    cases k with
    | zero => cases hx; exact h
    | succ k => simp at hx
  exact (hP 0 q rfl).lt
theorem hv.grow {x : va_E} {H H1 : Heap} (h : hv K V H) (h1 : H.size = sz) (hs : kn K ≤ sz) (he : va_at K.1 vwCl (sz, x) H1) (oq : ∀ q : Nat, q < sz → H1[q]? = H[q]?) : hv K (vset V sz x) H1 := by
  intro q y hy
  by_cases hq : q = sz
  · subst hq
    rw [vset_self] at hy
    cases hy
    exact ⟨hs, he⟩
  · rw [vset_ne V x hq] at hy
    obtain ⟨g1, g2⟩ := h q y hy
    exact ⟨g1, g2.kept (oq q (h1 ▸ g2.lt'))⟩
theorem va_S.grow {A : Nat → Prop} {H0 H H1 : Heap} {locs : List Loc} (h3 : va_S A H0 H locs) (z1 : H1.size = H.size + 1) (o1 : ∀ q : Nat, q < H.size → H1[q]? = H[q]?) : va_S A H0 H1 locs :=
  ⟨Nat.le_trans h3.1 (by omega), fun x h1 h2 => (o1 x (Nat.lt_of_lt_of_le h1 h3.1)).trans (h3.2.1 x h1 h2), h3.2.2⟩
theorem G.new (cx : Cx K p s m args meth c own cc nL ret) {C : String} {T : u_T} {N ci index : Nat} {fs : List Value} (ty0 : Nat → FieldType) (hty : ∀ k, k < N → parseFieldDescriptor (T k).2.2.1 = some (ty0 k)) (hd : decode cc pc = .ok (.new index, 3)) (hw : Cond.classLink own index C ∈ wsL_law) (hin : ∀ w ∈ u_ws C T N, w ∈ wsL_law) (hi : Cond.instantiable C N ∈ wsL_law) (hz : Cond.initialized C ∈ wsL_law) (hc : vwCl[ci]? = some (C, T, N)) (hfs : ∀ j, j < N → defaultValue (ty0 j) = vp_V fs j) (hcells : cells + 1 ≤ R.cells) (hslots : slots + N ≤ R.slots) (kk : G K p l e R s m args below meth c Q nL (vset V sz (.inr (ci, fs))) (sz + 1) (cells + 1) (slots + N) (pc + 3) lv (.ref sz :: st)) : G K p l e R s m args below meth c Q nL V sz cells slots pc lv st := by
  intro H locs ls h1 h2 h3 h4
  obtain ⟨hx, hb, hml, ho, hts, hK, -, hn, -⟩ := id cx
  have hKn := hK.1.1 ci _ hc
  refine W.newcK hx hb ho (hts _ hw) (hts _ hi) (hts _ hz) rfl hd hcells hslots hKn.2.1 h1 fun H1 kC hkC e1 z1 o1 => ?_
  have hkn : kn K ≤ sz := by rw [← h1]; exact Nat.le_trans hn h3.1
  exact kk H1 _ ls z1 (h2.grow h1 hkn ⟨_, hc, (u_born ty0 hts hin hKn hkC e1 hty).to hfs⟩ o1) (h3.grow (by omega) (fun q hq => o1 q (by omega))) h4
theorem G.newi (cx : Cx K p s m args meth c own cc nL ret) {i : Int32} (hd : decode cc pc = .ok (.newarray .int, 2)) (hw : Cond.arrayClass .int ∈ wsL_law) (n : Nat) (hi : i = nI n) (hn : n < 10000) (hcells : cells + 1 ≤ R.cells) (hslots : slots + n ≤ R.slots) (kk : G K p l e R s m args below meth c Q nL (vset V sz (.inl (K.2.1 0, n, .inl (fun _ => 0)))) (sz + 1) (cells + 1) (slots + n) (pc + 2) lv (.ref sz :: st)) : G K p l e R s m args below meth c Q nL V sz cells slots pc lv (.int i :: st) := by
  intro H locs ls h1 h2 h3 h4
  subst hi
  obtain ⟨hx, hb, hml, ho, hts, hK, -, hn0, -⟩ := id cx
  have hkn : kn K ≤ sz := by rw [← h1]; exact Nat.le_trans hn0 h3.1
  refine va_newaK (atype := .int) (N := n) hx hb (hts _ hw) rfl hd rfl (Int32.not_lt.mpr (nI_pos' (by omega))) (nI_clamp (by omega)) (by show n * 4 ≤ 536870912; omega) hcells hslots h1 fun H1 cA e1 z1 o1 hAr hNm => ?_
  have hcA : cA = K.2.1 0 := Option.some.inj (hNm.symm.trans (hK.1.2 0 _ rfl).2)
  subst hcA
  exact kk H1 _ ls z1 (h2.grow h1 hkn (by show H1[sz]? = some (vp_cell _ _); rw [vp_cell_i]; exact e1) o1) (h3.grow (by omega) (fun q hq => o1 q (by omega))) h4
theorem G.newr (cx : Cx K p s m args meth c own cc nL ret) (t : Nat) {C : String} {i : Int32} {index : Nat} (ht : (tysK K)[t]? = some (K.2.1 t, .object C)) (hO : ∀ U, KU K U → va_AO C U) (hd : decode cc pc = .ok (.anewarray index, 3)) (hw : Cond.classLink own index C ∈ wsL_law) (n : Nat) (hi : i = nI n) (hn : n < 10000) (hcells : cells + 1 ≤ R.cells) (hslots : slots + n ≤ R.slots) (kk : G K p l e R s m args below meth c Q nL (vset V sz (.inl (K.2.1 t, n, .inr (.inr (.inr (.inr (fun _ => none))))))) (sz + 1) (cells + 1) (slots + n) (pc + 3) lv (.ref sz :: st)) : G K p l e R s m args below meth c Q nL V sz cells slots pc lv (.int i :: st) := by
  intro H locs ls h1 h2 h3 h4
  subst hi
  obtain ⟨hx, hb, hml, ho, hts, hK, -, hn0, -⟩ := id cx
  have hkn : kn K ≤ sz := by rw [← h1]; exact Nat.le_trans hn0 h3.1
  have hcl : (nI n).toNatClampNeg = n := nI_clamp (by omega)
  refine W.anew hx hb ho (hts _ hw) (va_AO.use (hO s hK)) rfl hd rfl (Int32.not_lt.mpr (nI_pos' (by omega))) (by rw [hcl]; omega) hcells (by rw [hcl]; exact hslots) fun cA kA comp f1 f2 f3 f4 => ?_
  have hcA : cA = K.2.1 t := by
    obtain ⟨-, -, -, -, -, f5⟩ := (hK.1.2 t _ ht).2
    exact Option.some.inj (f1.symm.trans f5)
  subst hcA
  rw [hcl, h1]
  generalize hH1 : H.push ({ cls := K.2.1 t, slots := Array.replicate n .null, vm := .none } : Cell) = H1
  have z1 : H1.size = H.size + 1 := by rw [← hH1, Array.size_push]
  have e1 : H1[sz]? = some (arrV (K.2.1 t) n (fun _ => .null)) := by rw [← hH1, ← h1, Array.getElem?_push_size, ← arrV_new]
  have o1 : ∀ q : Nat, q < H.size → H1[q]? = H[q]? := fun q hq => by rw [← hH1, Array.getElem?_push, if_neg (Nat.ne_of_lt hq)]
  exact kk H1 _ ls (by omega) (h2.grow h1 hkn (by show H1[sz]? = some (vp_cell _ _); rw [vp_cell_q]; exact e1) (fun q hq => o1 q (by omega))) (h3.grow z1 o1) h4
end Rows5
