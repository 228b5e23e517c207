theorem arrV_cg {cA : ClassId} {N : Nat} {f g : Nat → Value} (h : ∀ q, q < N → f q = g q) : arrV cA N f = arrV cA N g := by
  have e : (fun j : Fin N => f j.val) = fun j : Fin N => g j.val := funext fun j => h j.val j.isLt
  unfold arrV; rw [e]
section Rows6
variable {K : KT} {p : Program} {l : Launch} {e : Env} {R : Room} {s : State} {m : MethodId} {args : Array Value} {below : List Frame} {meth : Method} {c : Code} {Q : State → Prop} {nL : Nat} {own : String} {cc : ByteArray} {ret : Option FieldType}
variable {V : VW} {sz cells slots pc : Nat} {lv : List (Nat × Value)} {st : List Value}
theorem G.newrF (cx : Cx K p s m args meth c own cc nL ret) (t : Nat) {C : String} {i : Int32} {index : Nat} (ht : (tysK K)[t]? = some (K.2.1 t, .object C)) (hO : ∀ U, KU K U → va_AO C U) (hd : decode cc pc = .ok (.anewarray index, 3)) (hw : Cond.classLink own index C ∈ wsL_law) (n : Nat) (f : Nat → Option Nat) (hf9 : ∀ q, q < n → f q = none) (hi : i = nI n) (hn : n < 10000) (hcells : cells + 1 ≤ R.cells) (hslots : slots + n ≤ R.slots) (kk : G K p l e R s m args below meth c Q nL (vset V sz (.inl (K.2.1 t, n, .inr (.inr (.inr (.inr f)))))) (sz + 1) (cells + 1) (slots + n) (pc + 3) lv (.ref sz :: st)) : G K p l e R s m args below meth c Q nL V sz cells slots pc lv (.int i :: st) := by
  intro H locs ls h1 h2 h3 h4
  subst hi
  obtain ⟨hx, hb, hml, ho, hts, hK, -, hn0, -⟩ := id cx
  have hkn : kn K ≤ sz := by rw [← h1]; exact Nat.le_trans hn0 h3.1
  have hcl : (nI n).toNatClampNeg = n := nI_clamp (by omega)
  refine W.anew hx hb ho (hts _ hw) (va_AO.use (hO s hK)) rfl hd rfl (Int32.not_lt.mpr (nI_pos' (by omega))) (by rw [hcl]; omega) hcells (by rw [hcl]; exact hslots) fun cA kA comp f1 f2 f3 f4 => ?_
  have hcA : cA = K.2.1 t := by
    obtain ⟨-, -, -, -, -, f5⟩ := (hK.1.2 t _ ht).2
    exact Option.some.inj (f1.symm.trans f5)
  subst hcA
  rw [hcl, h1]
  generalize hH1 : H.push ({ cls := K.2.1 t, slots := Array.replicate n .null, vm := .none } : Cell) = H1
  have z1 : H1.size = H.size + 1 := by rw [← hH1, Array.size_push]
  have e1 : H1[sz]? = some (arrV (K.2.1 t) n (fun _ => .null)) := by rw [← hH1, ← h1, Array.getElem?_push_size, ← arrV_new]
  have o1 : ∀ q : Nat, q < H.size → H1[q]? = H[q]? := fun q hq => by rw [← hH1, Array.getElem?_push, if_neg (Nat.ne_of_lt hq)]
  exact kk H1 _ ls (by omega) (h2.grow h1 hkn (by show H1[sz]? = some (vp_cell _ _); rw [vp_cell_q, e1]; exact congrArg some (arrV_cg (fun q hq => by rw [hf9 q hq]; rfl))) (fun q hq => o1 q (by omega))) (h3.grow z1 o1) h4
end Rows6
/-! the books while they are made: k sailors stand -/
def ia (K : KT) (b : Nat) (V : VW) (B : List Value) (k : Nat) : VW := fun a => if b + 2 ≤ a ∧ a < b + 2 + k then some (.inr (6, [.int 0, .int 0, .int 0, .int 0, .int 0, .int 0, .int 0, .int 0, .int 0, .int 0])) else if a = b + 1 then some (.inl (K.2.1 1, 16, .inr (.inr (.inr (.inr (fun q => if q < 16 ∧ k ≤ q then none else some (b + 2 + q))))))) else if a = b then some (.inr (0, B)) else V a
def ib (K : KT) (b : Nat) (V : VW) (B : List Value) (k : Nat) : VW := fun a => if b + 19 ≤ a ∧ a < b + 19 + k then some (.inr (3, [.int 0, .int 0, .int 0, .int 0, .int 0])) else if a = b + 18 then some (.inl (K.2.1 2, 6, .inr (.inr (.inr (.inr (fun q => if q < 6 ∧ k ≤ q then none else some (b + 19 + q))))))) else ia K b V B 16 a
section IA
variable {K : KT} {b k : Nat} {V : VW} {B B2 : List Value}
theorem ia_b : ia K b V B k b = some (.inr (0, B)) := by
  unfold ia; rw [if_neg (by omega), if_neg (by omega), if_pos rfl]
theorem ia_a : ia K b V B k (b + 1) = some (.inl (K.2.1 1, 16, .inr (.inr (.inr (.inr (fun q => if q < 16 ∧ k ≤ q then none else some (b + 2 + q))))))) := by
  unfold ia; rw [if_neg (by omega), if_pos rfl]
theorem ia_put : vset (ia K b V B k) b (.inr (0, B2)) = ia K b V B2 k := by
  funext a; simp only [vset, ia]
  by_cases h : a = b
  · subst h; rw [if_pos rfl, if_neg (by omega), if_neg (by omega), if_pos rfl]
  · rw [if_neg h, if_neg h, if_neg h]
theorem ia_0 {x : va_E} : vset (vset (vset V b x) (b + 1) (.inl (K.2.1 1, 16, .inr (.inr (.inr (.inr (fun q => if q < 16 ∧ 0 ≤ q then none else some (b + 2 + q)))))))) b (.inr (0, B)) = ia K b V B 0 := by
  funext a; simp only [vset, ia]
  by_cases h : a = b
  · subst h; rw [if_pos rfl, if_neg (by omega), if_neg (by omega), if_pos rfl]
  · rw [if_neg h, if_neg (show ¬ (b + 2 ≤ a ∧ a < b + 2 + 0) by omega)]
    by_cases h1 : a = b + 1
    · rw [if_pos h1, if_pos h1]
    · rw [if_neg h1, if_neg h, if_neg h1, if_neg h]
theorem ia_s (hk : k < 16) : vset (vset (ia K b V B k) (b + 2 + k) (.inr (6, [.int 0, .int 0, .int 0, .int 0, .int 0, .int 0, .int 0, .int 0, .int 0, .int 0]))) (b + 1) (.inl (K.2.1 1, 16, .inr (.inr (.inr (.inr (va_up (fun q => if q < 16 ∧ k ≤ q then none else some (b + 2 + q)) k (some (b + 2 + k)))))))) = ia K b V B (k + 1) := by
  have e : (va_up (fun q => if q < 16 ∧ k ≤ q then none else some (b + 2 + q)) k (some (b + 2 + k)) : Nat → Option Nat) = fun q => if q < 16 ∧ k + 1 ≤ q then none else some (b + 2 + q) := by
    funext q; simp only [va_up]
    by_cases h : q = k
    · subst h; simp
    · by_cases g : q < 16 ∧ k ≤ q
      · rw [if_neg h, if_pos g, if_pos (by omega)]
      · rw [if_neg h, if_neg g, if_neg (by omega)]
  rw [e]
  funext a; simp only [vset, ia]
  by_cases h1 : a = b + 1
  · rw [if_pos h1, if_neg (by omega), if_pos h1]
  rw [if_neg h1]
  by_cases h2 : a = b + 2 + k
  · rw [if_pos h2, if_pos (by omega)]
  rw [if_neg h2]
  by_cases h3 : b + 2 ≤ a ∧ a < b + 2 + k
  · rw [if_pos h3, if_pos (by omega)]
  · rw [if_neg h3, if_neg h1, if_neg (show ¬ (b + 2 ≤ a ∧ a < b + 2 + (k + 1)) by omega), if_neg h1]
theorem ib_b : ib K b V B k b = some (.inr (0, B)) := by
  unfold ib; rw [if_neg (by omega), if_neg (by omega), ia_b]
theorem ib_a : ib K b V B k (b + 18) = some (.inl (K.2.1 2, 6, .inr (.inr (.inr (.inr (fun q => if q < 6 ∧ k ≤ q then none else some (b + 19 + q))))))) := by
  unfold ib; rw [if_neg (by omega), if_pos rfl]
theorem ib_0 : vset (vset (ia K b V B 16) (b + 18) (.inl (K.2.1 2, 6, .inr (.inr (.inr (.inr (fun q => if q < 6 ∧ 0 ≤ q then none else some (b + 19 + q)))))))) b (.inr (0, B2)) = ib K b V B2 0 := by
  funext a; simp only [vset, ib]
  by_cases h : a = b
  · subst h; rw [if_pos rfl, if_neg (by omega), if_neg (by omega), ia_b]
  · rw [if_neg h, if_neg (show ¬ (b + 19 ≤ a ∧ a < b + 19 + 0) by omega)]
    by_cases h1 : a = b + 18
    · rw [if_pos h1, if_pos h1]
    · rw [if_neg h1, if_neg h1]; unfold ia; rw [if_neg h, if_neg h]
theorem ib_s (hk : k < 6) : vset (vset (ib K b V B k) (b + 19 + k) (.inr (3, [.int 0, .int 0, .int 0, .int 0, .int 0]))) (b + 18) (.inl (K.2.1 2, 6, .inr (.inr (.inr (.inr (va_up (fun q => if q < 6 ∧ k ≤ q then none else some (b + 19 + q)) k (some (b + 19 + k)))))))) = ib K b V B (k + 1) := by
  have e : (va_up (fun q => if q < 6 ∧ k ≤ q then none else some (b + 19 + q)) k (some (b + 19 + k)) : Nat → Option Nat) = fun q => if q < 6 ∧ k + 1 ≤ q then none else some (b + 19 + q) := by
    funext q; simp only [va_up]
    by_cases h : q = k
    · subst h; simp
    · by_cases g : q < 6 ∧ k ≤ q
      · rw [if_neg h, if_pos g, if_pos (by omega)]
      · rw [if_neg h, if_neg g, if_neg (by omega)]
  rw [e]
  funext a; simp only [vset, ib]
  by_cases h1 : a = b + 18
  · rw [if_pos h1, if_neg (by omega), if_pos h1]
  rw [if_neg h1]
  by_cases h2 : a = b + 19 + k
  · rw [if_pos h2, if_pos (by omega)]
  rw [if_neg h2]
  by_cases h3 : b + 19 ≤ a ∧ a < b + 19 + k
  · rw [if_pos h3, if_pos (by omega)]
  · rw [if_neg h3, if_neg h1, if_neg (show ¬ (b + 19 ≤ a ∧ a < b + 19 + (k + 1)) by omega), if_neg h1]
end IA
def z0C : Zt := upd (upd (upd (upd (fun _ => 0) 195 500) 203 50) 204 25) 205 2
