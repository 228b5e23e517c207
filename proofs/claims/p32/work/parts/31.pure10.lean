/-! THE CLASS READS: T the characters (-1 behind the end). -/
section RowsX
variable {K : KT} {p : Program} {l : Launch} {e : Env} {R : Room} {s : State} {m : MethodId} {args : Array Value} {below : List Frame} {meth : Method} {c : Code} {Q : State → Prop} {nL : Nat} {own : String} {cc : ByteArray} {ret : Option FieldType}
variable {V : VW} {sz cells slots pc : Nat} {lv : List (Nat × Value)} {st : List Value}
theorem G.iaddV (cx : Cx K p s m args meth c own cc nL ret) {x y v : Int32} (hd : decode cc pc = .ok (.iadd, 1)) (h : x + y = v) (kk : G K p l e R s m args below meth c Q nL V sz cells slots (pc + 1) lv (.int v :: st)) : G K p l e R s m args below meth c Q nL V sz cells slots pc lv (.int y :: .int x :: st) := G.iadd cx hd (by rw [h]; exact kk)
theorem G.isubV (cx : Cx K p s m args meth c own cc nL ret) {x y v : Int32} (hd : decode cc pc = .ok (.isub, 1)) (h : x - y = v) (kk : G K p l e R s m args below meth c Q nL V sz cells slots (pc + 1) lv (.int v :: st)) : G K p l e R s m args below meth c Q nL V sz cells slots pc lv (.int y :: .int x :: st) := G.isub cx hd (by rw [h]; exact kk)
theorem G.aastH (cx : Cx K p s m args meth c own cc nL ret) {x : Nat} {z t f u g : Zt} {hs : Nat → Zt} {π : Nat → Nat} {i : Int32} (hd : decode cc pc = .ok (.aastore, 1)) (j q : Nat) (hi : i = nI j) (hj : j < 4) (hq : q < 4) (kk : G K p l e R s m args below meth c Q nL (ww K x z t hs (piset π j q) f u g V) sz cells slots (pc + 1) lv st) : G K p l e R s m args below meth c Q nL (ww K x z t hs π f u g V) sz cells slots pc lv (.ref (x + 65 + 31 * q) :: .int i :: .ref (x + 64) :: st) :=
  G.aast cx 3 rfl rfl hd ww_ha (by rw [← ww_bh_self (K := K) (x := x) (hs := hs) hq]; exact bw_b) hi hj (by decide) (G.cast wwPi kk)
end RowsX
theorem upd_id {z : Zt} {i : Nat} {v : Int32} (h : z i = v) : upd z i v = z := by
  funext q; unfold upd
  by_cases hq : q = i
  · rw [if_pos hq, hq, h]
  · rw [if_neg hq]
def cAt (f : Zt) (n q : Nat) : Int32 := if q < n then f q else -1
def cTypA (n : Nat) (c : Int32) : Int32 := if ¬ (32 ≤ c ∧ c ≤ 126) then -1000001 else if n < 60 then nI (n + 1) else -1000003
def cNumV (T : Nat → Int32) (p d : Nat) : Int32 := if d = 0 then -1 else nVal T p d
theorem dig_nI {c : Int32} (h : 48 ≤ c ∧ c ≤ 57) : ∃ v, v < 10 ∧ c = nI (48 + v) := by
  have h0 : ¬ c < 0 := fun q => absurd (Int32.le_trans h.1 (Int32.le_of_lt q)) (by decide)
  obtain ⟨v, hv, rfl⟩ := nI_of h0
  have h1 : 48 ≤ v := (nI_leI (by decide) hv).mp h.1
  have h2 : v ≤ 57 := (nI_leI hv (by decide)).mp h.2
  exact ⟨v - 48, by omega, congrArg nI (by omega)⟩
theorem nVal_s {T : Nat → Int32} {p k v : Nat} (hk : k < 3) (hv : v < 10 ^ k) (h : nVal T p k = nI v) (hd : 48 ≤ T (p + k) ∧ T (p + k) ≤ 57) : ∃ w, w < 10 ^ (k + 1) ∧ nVal T p (k + 1) = nI w := by
  obtain ⟨c, hc, hcT⟩ := dig_nI hd
  have hb : 10 ^ k ≤ 1000 := Nat.le_trans (Nat.pow_le_pow_right (by decide) (by omega : k ≤ 3)) (by decide)
  refine ⟨10 * v + c, by rw [Nat.pow_succ]; omega, ?_⟩
  show 10 * nVal T p k + T (p + k) - 48 = _
  rw [h, hcT, show (10 : Int32) = nI 10 from rfl, pk_mul, nI_add, show (48 : Int32) = nI 48 from rfl, pk_sub (by omega)]
  exact congrArg nI (by omega)
