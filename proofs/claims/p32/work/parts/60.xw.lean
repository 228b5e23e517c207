/-! THE LAW'S OWN NUMBERS: six arrays from A on hold y, as the class's books hold z. xwL: the class's object at x with all its rest s, behind it the law's arrays. -/
def laG (y : Zt) : Zt := fun j => y (190 + j)
def laA (y : Zt) : Zt := fun j => y (10 * (j / 3) + j % 3)
def laB (y : Zt) : Zt := fun j => y (10 * (j / 4) + 3 + j % 4 + 3 * (j % 4 / 2))
def laC (y : Zt) : Zt := fun j => y (10 * (j / 3) + 5 + j % 3)
def laT (y : Zt) : Zt := fun j => y (160 + j)
def laK (y : Zt) : Zt := fun j => y (207 + j)
def lacell (K : KT) (y : Zt) (i : Nat) : va_E :=
  if i = 0 then .inl (K.2.1 0, 17, .inl (cutF 17 (laG y))) else if i = 1 then .inl (K.2.1 0, 48, .inl (cutF 48 (laA y))) else if i = 2 then .inl (K.2.1 0, 64, .inl (cutF 64 (laB y)))
  else if i = 3 then .inl (K.2.1 0, 48, .inl (cutF 48 (laC y))) else if i = 4 then .inl (K.2.1 0, 30, .inl (cutF 30 (laT y))) else .inl (K.2.1 0, 24, .inl (cutF 24 (laK y)))
def pwL (K : KT) (A : Nat) (y : Zt) (V : VW) : VW := fun a => if A ≤ a ∧ a < A + 6 then some (lacell K y (a - A)) else V a
abbrev Ot : Type := Zt × (Nat → Zt) × (Nat → Nat) × Zt × Zt × Zt
def xwL (K : KT) (x : Nat) (z : Zt) (s : Ot) (y : Zt) (V : VW) : VW := ww K x z s.1 s.2.1 s.2.2.1 s.2.2.2.1 s.2.2.2.2.1 s.2.2.2.2.2 (pwL K (x + 194) y V)
section XW
variable {K : KT} {x A j n : Nat} {z y y' : Zt} {s : Ot} {V : VW} {v : Int32}
theorem pw_at {i : Nat} (hi : i < 6) : pwL K A y V (A + i) = some (lacell K y i) := by
  unfold pwL; rw [if_pos ⟨by omega, by omega⟩, Nat.add_sub_cancel_left]
theorem pw_up {i : Nat} {e : va_E} (hi : i < 6) (hx : e = lacell K y' i) (ho : ∀ j, j < 6 → j ≠ i → lacell K y j = lacell K y' j) : vset (pwL K A y V) (A + i) e = pwL K A y' V := by
  funext a
  by_cases ha : a = A + i
  · subst ha; rw [vset_self, pw_at hi, hx]
  · rw [vset_ne _ _ ha]
    unfold pwL
    by_cases h : A ≤ a ∧ a < A + 6
    · rw [if_pos h, if_pos h, ho (a - A) (by omega) (by omega)]
    · rw [if_neg h, if_neg h]
theorem ww_vset {t f u g : Zt} {hs : Nat → Zt} {π : Nat → Nat} {a : Nat} {e : va_E} (h : a < x ∨ x + 194 ≤ a) : vset (ww K x z t hs π f u g V) a e = ww K x z t hs π f u g (vset V a e) := by
  funext q; unfold ww vset
  by_cases h1 : q = a
  · subst h1; rw [if_pos rfl, if_neg (by omega), if_pos rfl]
  · rw [if_neg h1, if_neg h1]
theorem pw_vset {a : Nat} {e : va_E} (h : a < A ∨ A + 6 ≤ a) : vset (pwL K A y V) a e = pwL K A y (vset V a e) := by
  funext q; unfold pwL vset
  by_cases h1 : q = a
  · subst h1; rw [if_pos rfl, if_neg (by omega), if_pos rfl]
  · rw [if_neg h1, if_neg h1]
theorem xw_vset {a : Nat} {e : va_E} (h : a < x ∨ x + 200 ≤ a) : vset (xwL K x z s y V) a e = xwL K x z s y (vset V a e) := by
  unfold xwL; rw [ww_vset (by omega), pw_vset (by omega)]
theorem xw_out {a : Nat} (h : a < x ∨ x + 200 ≤ a) : xwL K x z s y V a = V a := by
  unfold xwL; rw [ww_out (by omega)]; unfold pwL; rw [if_neg (by omega)]
theorem xw_o : xwL K x z s y V x = some (.inr (9, [.ref (x + 1), .ref (x + 32), .ref (x + 63), .ref (x + 189), .ref (x + 191)])) := ww_x
theorem xw_la {i : Nat} (hi : i < 6) : xwL K x z s y V (x + 194 + i) = some (lacell K y i) := by
  unfold xwL; rw [ww_out (by omega)]; exact pw_at hi
theorem xw_up {i : Nat} {e : va_E} (hi : i < 6) (hx : e = lacell K y' i) (ho : ∀ j, j < 6 → j ≠ i → lacell K y j = lacell K y' j) : vset (xwL K x z s y V) (x + 194 + i) e = xwL K x z s y' V := by
  unfold xwL; rw [ww_vset (by omega), pw_up hi hx ho]
/-- a law's array keeps, where the number that changed isn't its own -/
theorem lc_keep {i : Nat} (h0 : i = 0 → n < 190 ∨ 206 < n) (h1 : i = 1 → ∀ j, j < 48 → 10 * (j / 3) + j % 3 ≠ n) (h2 : i = 2 → ∀ j, j < 64 → 10 * (j / 4) + 3 + j % 4 + 3 * (j % 4 / 2) ≠ n) (h3 : i = 3 → ∀ j, j < 48 → 10 * (j / 3) + 5 + j % 3 ≠ n) (h4 : i = 4 → n < 160 ∨ 189 < n) (h5 : 5 ≤ i → n < 207 ∨ 230 < n) : lacell K y i = lacell K (upd y n v) i := by
  unfold lacell
  by_cases g0 : i = 0
  · rw [if_pos g0, if_pos g0, cut_eq (n := 17) (f := laG y) (g := laG (upd y n v)) (fun j hj => (upd_n y v (by have := h0 g0; omega)).symm)]
  rw [if_neg g0, if_neg g0]
  by_cases g1 : i = 1
  · rw [if_pos g1, if_pos g1, cut_eq (n := 48) (f := laA y) (g := laA (upd y n v)) (fun j hj => (upd_n y v (h1 g1 j hj)).symm)]
  rw [if_neg g1, if_neg g1]
  by_cases g2 : i = 2
  · rw [if_pos g2, if_pos g2, cut_eq (n := 64) (f := laB y) (g := laB (upd y n v)) (fun j hj => (upd_n y v (h2 g2 j hj)).symm)]
  rw [if_neg g2, if_neg g2]
  by_cases g3 : i = 3
  · rw [if_pos g3, if_pos g3, cut_eq (n := 48) (f := laC y) (g := laC (upd y n v)) (fun j hj => (upd_n y v (h3 g3 j hj)).symm)]
  rw [if_neg g3, if_neg g3]
  by_cases g4 : i = 4
  · rw [if_pos g4, if_pos g4, cut_eq (n := 30) (f := laT y) (g := laT (upd y n v)) (fun j hj => (upd_n y v (by have := h4 g4; omega)).symm)]
  rw [if_neg g4, if_neg g4, cut_eq (n := 24) (f := laK y) (g := laK (upd y n v)) (fun j hj => (upd_n y v (by have := h5 (by omega); omega)).symm)]
theorem cut_upd {N m j : Nat} {f g : Zt} (hf : g j = v) (ho : ∀ q, q < N → q ≠ j → g q = f q) : cutF N (upd f j v) = cutF N g := by
  refine cut_eq fun q hq => ?_
  by_cases h : q = j
  · subst h; rw [upd_s, hf]
  · rw [upd_n _ _ h, ho q hq h]

theorem xl_g : xwL K x z s y V (x + 194) = some (.inl (K.2.1 0, 17, .inl (cutF 17 (laG y)))) := xw_la (i := 0) (by decide)
theorem xr_g (hj : j < 17) (hn : 190 + j = n) : cutF 17 (laG y) j = y n := by subst hn; exact cut_at hj
theorem xs_g (hj : j < 17) (hn : 190 + j = n) : vset (xwL K x z s y V) (x + 194) (.inl (K.2.1 0, 17, .inl (cutF 17 (upd (laG y) j v)))) = xwL K x z s (upd y n v) V := by
  refine xw_up (i := 0) (by decide) ?_ (fun i hi hne => lc_keep ?_ ?_ ?_ ?_ ?_ ?_)
  · show _ = Sum.inl _
    rw [cut_upd (m := 0) (N := 17) (f := laG y) (g := laG (upd y n v)) (by show upd y n v (190 + j) = v; rw [hn]; exact upd_s _ _ _) (fun q hq hqj => by show upd y n v (190 + q) = y (190 + q); exact upd_n _ _ (by omega))]
  all_goals first | (intros; omega) | (intro h; intros; omega)

theorem xl_a : xwL K x z s y V (x + 195) = some (.inl (K.2.1 0, 48, .inl (cutF 48 (laA y)))) := xw_la (i := 1) (by decide)
theorem xr_a (hj : j < 48) (hn : 10 * (j / 3) + j % 3 = n) : cutF 48 (laA y) j = y n := by subst hn; exact cut_at hj
theorem xs_a (hj : j < 48) (hn : 10 * (j / 3) + j % 3 = n) : vset (xwL K x z s y V) (x + 195) (.inl (K.2.1 0, 48, .inl (cutF 48 (upd (laA y) j v)))) = xwL K x z s (upd y n v) V := by
  refine xw_up (i := 1) (by decide) ?_ (fun i hi hne => lc_keep ?_ ?_ ?_ ?_ ?_ ?_)
  · show _ = Sum.inl _
    rw [cut_upd (m := 0) (N := 48) (f := laA y) (g := laA (upd y n v)) (by show upd y n v (10 * (j / 3) + j % 3) = v; rw [hn]; exact upd_s _ _ _) (fun q hq hqj => by show upd y n v (10 * (q / 3) + q % 3) = y (10 * (q / 3) + q % 3); exact upd_n _ _ (by omega))]
  all_goals first | (intros; omega) | (intro h; intros; omega)

theorem xl_b : xwL K x z s y V (x + 196) = some (.inl (K.2.1 0, 64, .inl (cutF 64 (laB y)))) := xw_la (i := 2) (by decide)
theorem xr_b (hj : j < 64) (hn : 10 * (j / 4) + 3 + j % 4 + 3 * (j % 4 / 2) = n) : cutF 64 (laB y) j = y n := by subst hn; exact cut_at hj
theorem xs_b (hj : j < 64) (hn : 10 * (j / 4) + 3 + j % 4 + 3 * (j % 4 / 2) = n) : vset (xwL K x z s y V) (x + 196) (.inl (K.2.1 0, 64, .inl (cutF 64 (upd (laB y) j v)))) = xwL K x z s (upd y n v) V := by
  refine xw_up (i := 2) (by decide) ?_ (fun i hi hne => lc_keep ?_ ?_ ?_ ?_ ?_ ?_)
  · show _ = Sum.inl _
    rw [cut_upd (m := 0) (N := 64) (f := laB y) (g := laB (upd y n v)) (by show upd y n v (10 * (j / 4) + 3 + j % 4 + 3 * (j % 4 / 2)) = v; rw [hn]; exact upd_s _ _ _) (fun q hq hqj => by show upd y n v (10 * (q / 4) + 3 + q % 4 + 3 * (q % 4 / 2)) = y (10 * (q / 4) + 3 + q % 4 + 3 * (q % 4 / 2)); exact upd_n _ _ (by omega))]
  all_goals first | (intros; omega) | (intro h; intros; omega)

theorem xl_c : xwL K x z s y V (x + 197) = some (.inl (K.2.1 0, 48, .inl (cutF 48 (laC y)))) := xw_la (i := 3) (by decide)
theorem xr_c (hj : j < 48) (hn : 10 * (j / 3) + 5 + j % 3 = n) : cutF 48 (laC y) j = y n := by subst hn; exact cut_at hj
theorem xs_c (hj : j < 48) (hn : 10 * (j / 3) + 5 + j % 3 = n) : vset (xwL K x z s y V) (x + 197) (.inl (K.2.1 0, 48, .inl (cutF 48 (upd (laC y) j v)))) = xwL K x z s (upd y n v) V := by
  refine xw_up (i := 3) (by decide) ?_ (fun i hi hne => lc_keep ?_ ?_ ?_ ?_ ?_ ?_)
  · show _ = Sum.inl _
    rw [cut_upd (m := 0) (N := 48) (f := laC y) (g := laC (upd y n v)) (by show upd y n v (10 * (j / 3) + 5 + j % 3) = v; rw [hn]; exact upd_s _ _ _) (fun q hq hqj => by show upd y n v (10 * (q / 3) + 5 + q % 3) = y (10 * (q / 3) + 5 + q % 3); exact upd_n _ _ (by omega))]
  all_goals first | (intros; omega) | (intro h; intros; omega)

theorem xl_t : xwL K x z s y V (x + 198) = some (.inl (K.2.1 0, 30, .inl (cutF 30 (laT y)))) := xw_la (i := 4) (by decide)
theorem xr_t (hj : j < 30) (hn : 160 + j = n) : cutF 30 (laT y) j = y n := by subst hn; exact cut_at hj
theorem xs_t (hj : j < 30) (hn : 160 + j = n) : vset (xwL K x z s y V) (x + 198) (.inl (K.2.1 0, 30, .inl (cutF 30 (upd (laT y) j v)))) = xwL K x z s (upd y n v) V := by
  refine xw_up (i := 4) (by decide) ?_ (fun i hi hne => lc_keep ?_ ?_ ?_ ?_ ?_ ?_)
  · show _ = Sum.inl _
    rw [cut_upd (m := 0) (N := 30) (f := laT y) (g := laT (upd y n v)) (by show upd y n v (160 + j) = v; rw [hn]; exact upd_s _ _ _) (fun q hq hqj => by show upd y n v (160 + q) = y (160 + q); exact upd_n _ _ (by omega))]
  all_goals first | (intros; omega) | (intro h; intros; omega)

theorem xl_k : xwL K x z s y V (x + 199) = some (.inl (K.2.1 0, 24, .inl (cutF 24 (laK y)))) := xw_la (i := 5) (by decide)
theorem xr_k (hj : j < 24) (hn : 207 + j = n) : cutF 24 (laK y) j = y n := by subst hn; exact cut_at hj
theorem xs_k (hj : j < 24) (hn : 207 + j = n) : vset (xwL K x z s y V) (x + 199) (.inl (K.2.1 0, 24, .inl (cutF 24 (upd (laK y) j v)))) = xwL K x z s (upd y n v) V := by
  refine xw_up (i := 5) (by decide) ?_ (fun i hi hne => lc_keep ?_ ?_ ?_ ?_ ?_ ?_)
  · show _ = Sum.inl _
    rw [cut_upd (m := 0) (N := 24) (f := laK y) (g := laK (upd y n v)) (by show upd y n v (207 + j) = v; rw [hn]; exact upd_s _ _ _) (fun q hq hqj => by show upd y n v (207 + q) = y (207 + q); exact upd_n _ _ (by omega))]
  all_goals first | (intros; omega) | (intro h; intros; omega)

end XW
section Rows60
variable {K : KT} {p : Program} {l : Launch} {e : Env} {R : Room} {s : State} {m : MethodId} {args : Array Value} {below : List Frame} {meth : Method} {c : Code} {Q : State → Prop} {nL : Nat} {own : String} {cc : ByteArray} {ret : Option FieldType}
variable {V : VW} {sz cells slots pc : Nat} {lv : List (Nat × Value)} {st : List Value}
theorem G.ishr (cx : Cx K p s m args meth c own cc nL ret) {x y : Int32} (hd : decode cc pc = .ok (.ishr, 1)) (kk : G K p l e R s m args below meth c Q nL V sz cells slots (pc + 1) lv (.int (x >>> (y &&& 31)) :: st)) : G K p l e R s m args below meth c Q nL V sz cells slots pc lv (.int y :: .int x :: st) := fun H locs ls h1 h2 h3 h4 => lv_ishr cx.1 cx.2.1 hd (kk H locs ls h1 h2 h3 h4)
/-- the script -/
theorem G.slenK (cx : Cx K p s m args meth c own cc nL ret) (hd : decode cc pc = .ok (.arraylength, 1)) (kk : G K p l e R s m args below meth c Q nL V sz cells slots (pc + 1) lv (.int (nI K.2.2.2.2.2.2.1) :: st)) : G K p l e R s m args below meth c Q nL V sz cells slots pc lv (.ref K.2.2.2.2.2.1 :: st) := by
  intro H locs ls h1 h2 h3 h4
  obtain ⟨hx, hb, hml, ho, hts, hK, hZ, -⟩ := id cx
  exact va_tlen hx hb hZ.2.2.2.2 h3 rfl hd (kk H locs ls h1 h2 h3 h4)
theorem G.sldK (cx : Cx K p s m args meth c own cc nL ret) (hd : decode cc pc = .ok (.iaload, 1)) {j : Nat} (hj : j < K.2.2.2.2.2.2.1) (hL : K.2.2.2.2.2.2.1 ≤ 260) (kk : G K p l e R s m args below meth c Q nL V sz cells slots (pc + 1) lv (.int (K.2.2.2.2.2.2.2 j) :: st)) : G K p l e R s m args below meth c Q nL V sz cells slots pc lv (.int (nI j) :: .ref K.2.2.2.2.2.1 :: st) := by
  intro H locs ls h1 h2 h3 h4
  obtain ⟨hx, hb, hml, ho, hts, hK, hZ, -⟩ := id cx
  exact va_ti hx hb hZ.2.2.2.2 h3 (vp_in_nI hj (by omega)) (by rw [nI_clamp (by omega)]) hd (kk H locs ls h1 h2 h3 h4)
theorem G.callVg {y : MethodName} {cc2 : ByteArray} {maxL d index : Nat} {ret2 : Option FieldType} {As rest st0 st1 : List Value} {rv : Option Value} {V2 : VW} {bb : Nat} (cx : Cx K p s m args meth c own cc nL ret) {T : u_T} {N ci : Nat} {fs : List Value} (hM : Ct l K y cc2 maxL ret2 d (.ref bb :: As) V sz rv V2 sz 0 0) (ok : okV y cc2 maxL ret2 As.length) (hd : decode cc pc = .ok (.invokevirtual index, 3)) (hw : Cond.methodLink own index y ∈ wsL_law) (hc : vwCl[ci]? = some (y.cls, T, N)) (hV : V bb = some (.inr (ci, fs))) (hst : st0 = As.reverse ++ .ref bb :: rest) (hrest : (rest.map fun v => v.category).sum ≤ 8) (hR : d + 1 ≤ R.frames ∧ 8 + (maxL + 11) + (30 * d + 24 * (d - 6)) ≤ R.locals) (hf : cells ≤ R.cells ∧ slots ≤ R.slots) (hs : rv.toList ++ rest = st1) (kk : G K p l e R s m args below meth c Q nL V2 sz cells slots (pc + 3) lv st1) : G K p l e R s m args below meth c Q nL V sz cells slots pc lv st0 := by
  subst hs
  exact G.callV cx hM ok hd hw hc rfl hV hst hrest (Nat.le_refl _) hR hf kk
theorem G.callSg {y : MethodName} {cc2 : ByteArray} {maxL d index : Nat} {ret2 : Option FieldType} {As rest st0 st1 : List Value} {rv : Option Value} {V2 : VW} (cx : Cx K p s m args meth c own cc nL ret) (hM : Ct l K y cc2 maxL ret2 d As V sz rv V2 sz 0 0) (ok : okS y cc2 maxL ret2 As.length) (hd : decode cc pc = .ok (.invokestatic index, 3)) (hw : Cond.methodLink own index y ∈ wsL_law) (hCy : y.cls = own) (hst : st0 = As.reverse ++ rest) (hrest : (rest.map fun v => v.category).sum ≤ 8) (hR : d + 1 ≤ R.frames ∧ 8 + (maxL + 11) + (30 * d + 24 * (d - 6)) ≤ R.locals) (hf : cells ≤ R.cells ∧ slots ≤ R.slots) (hs : rv.toList ++ rest = st1) (kk : G K p l e R s m args below meth c Q nL V2 sz cells slots (pc + 3) lv st1) : G K p l e R s m args below meth c Q nL V sz cells slots pc lv st0 := by
  subst hs
  exact G.callS cx hM ok hd hw hCy hst hrest (Nat.le_refl _) hR hf kk
end Rows60
/-! a contract whose end is only told by a property -/
def QCp (K : KT) (Po : Option Value → VW → Prop) (sz : Nat) : Array Value → State → Outcome → State → Prop := fun _ st oc t => ∃ (rv : Option Value) (V2 : VW), Po rv V2 ∧ oc = .returned rv ∧ t.heap.size = sz ∧ hv K V2 t.heap ∧ va_F (kA K) st t
def Cp (l : Launch) (K : KT) (y : MethodName) (cc : ByteArray) (maxL : Nat) (ret : Option FieldType) (d : Nat) (As : List Value) (V : VW) (sz : Nat) (Po : Option Value → VW → Prop) : Prop :=
  Met l y (wsO y cc maxL ret) (rmL d 0 0) (va_Pc As (Wd K sz V)) (QCp K Po sz) 0 0 (kA K)
section Cps
variable {K : KT} {p : Program} {l : Launch} {e : Env} {R : Room} {s : State} {m : MethodId} {args : Array Value} {below : List Frame} {meth : Method} {c : Code} {Q : State → Prop} {nL : Nat} {own : String} {cc : ByteArray} {ret : Option FieldType}
variable {V : VW} {sz cells slots pc : Nat} {lv : List (Nat × Value)} {st : List Value} {Po : Option Value → VW → Prop}
theorem Cp.ofG {y : MethodName} {maxL : Nat} {d : Nat} {As : List Value} (hy : plainName y.cls = true) (hA : (lg_sl As).length ≤ maxL)
    (body : ∀ (p : Program) (e : Env) (s : State) (m : MethodId) (args : Array Value) (below : List Frame) (meth : Method) (c : Code), Cx K p s m args meth c y.cls cc maxL ret → meth.name = y.name →
      G K p l e (rmL d 0 0) s m args below meth c (MQ below (QCp K Po sz) args s 0 0 (kA K)) maxL V sz 0 0 0 (lv_args 0 As) []) : Cp l K y cc maxL ret d As V sz Po := by
  refine Met.ofW (cc := cc) (maxL := maxL) (ret := ret) hy rfl ?_
  intro p e s m args below meth c s₁ B hml hp
  obtain ⟨rfl, hz, hn, hh, hK, hZ⟩ := hp
  have hts := atoms_spec (ws := wsO y cc maxL ret) B.pre
  have hin : meth.name = y.name := (name_of_methodNamed B.named B.method).1
  rw [lg_entry_eq]
  exact body p e s m _ below meth c ⟨B.exec, B.bytes, hml, findClass_of_methodNamed B.named, fun w hw => hts w (List.mem_cons_of_mem _ hw), hK, hZ, by rw [hz]; exact hn, B.notSynchronized, B.returns⟩ hin s.heap [] _ hz hh va_S.rf (lv_entry As hA)
theorem G.zretP {v : Int32} (cx : Cx K p s m args meth c own cc nL ret) (hr : ret = some .boolean) (hd : decode cc pc = .ok (.ireturn, 1)) (hn : narrow .boolean (.int v) = .int v) (hP : Po (some (.int v)) V) :
    G K p l e R s m args below meth c (MQ below (QCp K Po sz) args s cells slots (kA K)) nL V sz cells slots pc lv [.int v] := by
  intro H locs ls h1 h2 h3 h4
  obtain ⟨hx, hb, -, -, -, -, -, -, hlk, hrt⟩ := cx
  exact W.zret (ty := .boolean) hx hb (hrt.trans hr) hn (fun t ht hW => ⟨_, _, hP, rfl, by rw [ht]; exact h1, by rw [ht]; exact h2, h3.F ht⟩) h3.2.2 hd hlk
theorem G.callSp {y : MethodName} {cc2 : ByteArray} {maxL d index : Nat} {ret2 : Option FieldType} {As rest st0 : List Value} (cx : Cx K p s m args meth c own cc nL ret) (hM : Cp l K y cc2 maxL ret2 d As V sz Po) (ok : okS y cc2 maxL ret2 As.length) (hd : decode cc pc = .ok (.invokestatic index, 3)) (hw : Cond.methodLink own index y ∈ wsL_law) (hCy : y.cls = own) (hst : st0 = As.reverse ++ rest) (hrest : (rest.map fun v => v.category).sum ≤ 8) (hR : d + 1 ≤ R.frames ∧ 8 + (maxL + 11) + (30 * d + 24 * (d - 6)) ≤ R.locals) (hf : cells ≤ R.cells ∧ slots ≤ R.slots)
    (kk : ∀ (rv : Option Value) (V2 : VW), Po rv V2 → G K p l e R s m args below meth c Q nL V2 sz cells slots (pc + 3) lv (rv.toList ++ rest)) : G K p l e R s m args below meth c Q nL V sz cells slots pc lv st0 := by
  intro H locs ls h1 h2 h3 h4 T hT X
  obtain ⟨hx, hb, hml, ho, hts, hK, -⟩ := id cx
  obtain ⟨o1, o3, o4, o5, o6, o7⟩ := ok
  have hr : va_Run p l e R s m args below meth c H locs cells slots 0 0 (F0 m pc ls st0) rest (QCp K Po sz As.toArray) (kA K) := va_runS (Ts := wsL_law) ⟨hx, hb, hml, ho, hts⟩ hM (cwS As.length hts (fun w hw' => by
      unfold wsS at hw'
      rcases List.mem_append.mp hw' with h | h
      · simp only [List.mem_cons, List.not_mem_nil, or_false] at h
        rcases h with rfl | rfl | rfl
        · exact goodU hw
        · exact goodU o1
        · rw [← hCy]; exact goodU o3
      · exact goodU_O o4 w h) rfl rfl rfl ⟨hCy, o5, o6, o7⟩ hR) ⟨Wd.blind, fun U hU hW => ⟨rfl, Wd.after cx h1 h2 h3 hU hW⟩⟩ rfl rfl h4.1 hst (lv_room hrest) hd hf
  obtain ⟨v, st₀, t, T', L, h0, X', hL, e1, e2, ⟨rv9, V9, hP9, hv9, hz9, hh9, hF⟩, st⟩ := hr T hT X
  cases hv9
  have hF2 := hF.2
  rw [h0] at hF2
  obtain ⟨t2, a1, b1⟩ := kk v V9 hP9 T'.heap (locs ++ L) ls (by rw [e1]; exact hz9) (by rw [e1]; exact hh9)
    ⟨Nat.le_trans h3.1 (by rw [e1, hz9, h1]; exact Nat.le_refl _), fun q g1 g2 => by rw [e1, hF2 q (Nat.lt_of_lt_of_le g1 h3.1) g2]; exact h3.2.1 q g1 g2, fun q hq => by
      rcases List.mem_append.mp hq with h | h
      · exact h3.2.2 q h
      · exact hL q h⟩ h4 T' rfl X'
  exact ⟨t2, st t2 a1, b1⟩
end Cps
theorem ok_L_isSo : okS yL_isSo cL_isSo 9 (some .boolean) 7 := ⟨wm_st_yL_isSo, ⟨wm_in_L, wm_co_yL_isSo, by decide, by decide, by decide +kernel⟩⟩
theorem ok_L_areSailors : okS yL_areSailors cL_areSailors 17 (some .boolean) 6 := ⟨wm_st_yL_areSailors, ⟨wm_in_L, wm_co_yL_areSailors, by decide, by decide, by decide +kernel⟩⟩
theorem ok_L_balance : okS yL_balance cL_balance 4 (some .int) 4 := ⟨wm_st_yL_balance, ⟨wm_in_L, wm_co_yL_balance, by decide, by decide, by decide +kernel⟩⟩
theorem ok_L_earned : okS yL_earned cL_earned 5 (some .int) 3 := ⟨wm_st_yL_earned, ⟨wm_in_L, wm_co_yL_earned, by decide, by decide, by decide +kernel⟩⟩
theorem ok_L_why : okS yL_why cL_why 8 (some .int) 8 := ⟨wm_st_yL_why, ⟨wm_in_L, wm_co_yL_why, by decide, by decide, by decide +kernel⟩⟩
theorem ok_L_bits : okS yL_bits cL_bits 7 (some .int) 2 := ⟨wm_st_yL_bits, ⟨wm_in_L, wm_co_yL_bits, by decide, by decide, by decide +kernel⟩⟩
theorem ok_L_cell : okS yL_cell cL_cell 2 (some .int) 2 := ⟨wm_st_yL_cell, ⟨wm_in_L, wm_co_yL_cell, by decide, by decide, by decide +kernel⟩⟩
theorem ok_L_ship : okS yL_ship cL_ship 16 (some .boolean) 9 := ⟨wm_st_yL_ship, ⟨wm_in_L, wm_co_yL_ship, by decide, by decide, by decide +kernel⟩⟩
theorem ok_L_low : okS yL_low cL_low 2 (some .int) 2 := ⟨wm_st_yL_low, ⟨wm_in_L, wm_co_yL_low, by decide, by decide, by decide +kernel⟩⟩
theorem ok_L_spend : okS yL_spend cL_spend 3 none 2 := ⟨wm_st_yL_spend, ⟨wm_in_L, wm_co_yL_spend, by decide, by decide, by decide +kernel⟩⟩
theorem ok_L_clear : okS yL_clear cL_clear 5 none 4 := ⟨wm_st_yL_clear, ⟨wm_in_L, wm_co_yL_clear, by decide, by decide, by decide +kernel⟩⟩
theorem ok_L_pay : okS yL_pay cL_pay 5 none 5 := ⟨wm_st_yL_pay, ⟨wm_in_L, wm_co_yL_pay, by decide, by decide, by decide +kernel⟩⟩
theorem ok_L_write : okS yL_write cL_write 6 none 5 := ⟨wm_st_yL_write, ⟨wm_in_L, wm_co_yL_write, by decide, by decide, by decide +kernel⟩⟩
theorem ok_L_people : okS yL_people cL_people 21 (some .boolean) 9 := ⟨wm_st_yL_people, ⟨wm_in_L, wm_co_yL_people, by decide, by decide, by decide +kernel⟩⟩
theorem ok_L_fine : okS yL_fine cL_fine 5 none 5 := ⟨wm_st_yL_fine, ⟨wm_in_L, wm_co_yL_fine, by decide, by decide, by decide +kernel⟩⟩
theorem ok_L_isClear : okS yL_isClear cL_isClear 9 (some .boolean) 6 := ⟨wm_st_yL_isClear, ⟨wm_in_L, wm_co_yL_isClear, by decide, by decide, by decide +kernel⟩⟩
