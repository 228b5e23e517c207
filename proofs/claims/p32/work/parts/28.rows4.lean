/-! COPIES: one books' picture beside another; the raw copy of numbers from array to array. -/
section Rows4
variable {K : KT} {p : Program} {l : Launch} {e : Env} {R : Room} {s : State} {m : MethodId} {args : Array Value} {below : List Frame} {meth : Method} {c : Code} {Q : State → Prop} {nL : Nat} {own : String} {cc : ByteArray} {ret : Option FieldType}
variable {V : VW} {sz cells slots pc : Nat} {lv : List (Nat × Value)} {st : List Value} {b b2 k j : Nat} {z z2 : Zt}
theorem G.getV (cx : Cx K p s m args meth c own cc nL ret) {C : String} {T : u_T} {N ci index a : Nat} {fs : List Value} (hd : decode cc pc = .ok (.getfield index, 3)) (k : Nat) {v : Value} (hw : Cond.fieldLink own index (T k).1 (T k).2.1 (T k).2.2.1 ∈ wsL_law) (hin : ∀ w ∈ u_ws C T N, w ∈ wsL_law) (hc : vwCl[ci]? = some (C, T, N)) (hk : k < N) (hV : V a = some (.inr (ci, fs))) (hf : fs[k]? = some v) (kk : G K p l e R s m args below meth c Q nL V sz cells slots (pc + 3) lv (v :: st)) : G K p l e R s m args below meth c Q nL V sz cells slots pc lv (.ref a :: st) := G.get cx k hd hw hin hc hk hV hf kk
theorem vset_id {a : Nat} {x : va_E} (h : V a = some x) : vset V a x = V := by
  funext q; unfold vset
  by_cases hq : q = a
  · rw [if_pos hq, hq, h]
  · rw [if_neg hq]
theorem vset_vset (a : Nat) (x y : va_E) : vset (vset V a x) a y = vset V a y := by
  funext q; unfold vset
  by_cases hq : q = a
  · rw [if_pos hq, if_pos hq]
  · rw [if_neg hq, if_neg hq, if_neg hq]
def apt (b b2 : Nat) : Prop := b + 31 ≤ b2 ∨ b2 + 31 ≤ b
theorem ob_at (hA : apt b b2) (hO : bw K b2 z2 V = V) {i : Nat} (hi : i < 31) : bw K b z V (b2 + i) = some (bcell K b2 z2 i) := by
  rw [bw_out (by unfold apt at hA; omega), ← hO, bw_at hi]
theorem ob_b (hA : apt b b2) (hO : bw K b2 z2 V = V) : bw K b z V b2 = some (.inr (0, blist b2 z2)) := ob_at (i := 0) hA hO (by decide)
theorem ob_crew (hA : apt b b2) (hO : bw K b2 z2 V = V) : bw K b z V (b2 + 1) = some (.inl (K.2.1 1, 16, .inr (.inr (.inr (.inr (fun k => some (b2 + 2 + k))))))) := ob_at (i := 1) hA hO (by decide)
theorem ob_chest (hA : apt b b2) (hO : bw K b2 z2 V = V) : bw K b z V (b2 + 18) = some (.inl (K.2.1 2, 6, .inr (.inr (.inr (.inr (fun k => some (b2 + 19 + k))))))) := ob_at (i := 18) hA hO (by decide)
theorem ob_set (hA : apt b b2) (hO : bw K b2 z2 V = V) : bw K b z V (b2 + 25) = some (.inl (K.2.1 0, 3, .inl (setF z2))) := ob_at (i := 25) hA hO (by decide)
theorem ob_e (hA : apt b b2) (hO : bw K b2 z2 V = V) : bw K b z V (b2 + 26) = some (.inr (1, elist b2 z2)) := ob_at (i := 26) hA hO (by decide)
theorem ob_t (hA : apt b b2) (hO : bw K b2 z2 V = V) : bw K b z V (b2 + 30) = some (.inr (8, tlist z2)) := ob_at (i := 30) hA hO (by decide)
theorem ob_s (hA : apt b b2) (hO : bw K b2 z2 V = V) (hk : k < 16) : bw K b z V (b2 + 2 + k) = some (.inr (6, slist z2 k)) := by
  rw [Nat.add_assoc, ob_at hA hO (by omega), bc_s hk]
theorem ob_i (hA : apt b b2) (hO : bw K b2 z2 V = V) (hk : k < 6) : bw K b z V (b2 + 19 + k) = some (.inr (3, ilist z2 k)) := by
  rw [Nat.add_assoc, ob_at hA hO (by omega), bc_i hk]
theorem ob_ea (hA : apt b b2) (hO : bw K b2 z2 V = V) (hk : k < 3) : bw K b z V (b2 + 27 + k) = some (.inl (K.2.1 0, 8, .inl (entF z2 k))) := by
  rw [Nat.add_assoc, ob_at hA hO (by omega), bc_e hk]
/-- n numbers from a on are the other's -/
def cpR (z z2 : Zt) (a n : Nat) : Zt := fun i => if a ≤ i ∧ i < a + n then z2 i else z i
theorem cpR_0 (z z2 : Zt) (a : Nat) : cpR z z2 a 0 = z := by
  funext i; unfold cpR; rw [if_neg (by omega)]
theorem cpR_s (z z2 : Zt) (a n : Nat) : upd (cpR z z2 a n) (a + n) (z2 (a + n)) = cpR z z2 a (n + 1) := by
  funext i; simp only [upd, cpR]
  by_cases h : i = a + n
  · rw [if_pos h, if_pos (by omega), h]
  · rw [if_neg h]
    by_cases g : a ≤ i ∧ i < a + n
    · rw [if_pos g, if_pos (by omega)]
    · rw [if_neg g, if_neg (by omega)]
theorem cpR_1 (z z2 : Zt) (a : Nat) : upd z a (z2 a) = cpR z z2 a 1 := by
  have h := cpR_s z z2 a 0
  rw [cpR_0] at h
  exact h
theorem cpR_cp (z z2 : Zt) (a n q : Nat) : cpR (cpR z z2 a n) z2 (a + n) q = cpR z z2 a (n + q) := by
  funext i; simp only [cpR]
  by_cases h : a + n ≤ i ∧ i < a + n + q
  · rw [if_pos h, if_pos (by omega)]
  · rw [if_neg h]
    by_cases g : a ≤ i ∧ i < a + n
    · rw [if_pos g, if_pos (by omega)]
    · rw [if_neg g, if_neg (by omega)]
theorem cp_s (z z2 : Zt) (k : Nat) : upd (upd (upd (upd (upd (upd (upd (upd (upd (upd z (10 * k + 0) (z2 (10 * k))) (10 * k + 1) (z2 (10 * k + 1))) (10 * k + 2) (z2 (10 * k + 2))) (10 * k + 3) (z2 (10 * k + 3))) (10 * k + 4) (z2 (10 * k + 4))) (10 * k + 5) (z2 (10 * k + 5))) (10 * k + 6) (z2 (10 * k + 6))) (10 * k + 7) (z2 (10 * k + 7))) (10 * k + 8) (- -z2 (10 * k + 8))) (10 * k + 9) (z2 (10 * k + 9)) = cpR z z2 (10 * k) 10 := by
  rw [Int32.neg_neg, Nat.add_zero, cpR_1 z z2 (10 * k), cpR_s, cpR_s, cpR_s, cpR_s, cpR_s, cpR_s, cpR_s, cpR_s, cpR_s]
theorem cp_i (z z2 : Zt) (k : Nat) : upd (upd (upd (upd (upd z (160 + 5 * k + 0) (z2 (160 + 5 * k))) (160 + 5 * k + 1) (z2 (160 + 5 * k + 1))) (160 + 5 * k + 2) (z2 (160 + 5 * k + 2))) (160 + 5 * k + 3) (z2 (160 + 5 * k + 3))) (160 + 5 * k + 4) (z2 (160 + 5 * k + 4)) = cpR z z2 (160 + 5 * k) 5 := by
  rw [Nat.add_zero, cpR_1 z z2 (160 + 5 * k), cpR_s, cpR_s, cpR_s, cpR_s]
theorem cp_t (z z2 : Zt) : upd (upd (upd (upd (upd (upd (upd (upd z (195 + 0) (z2 195)) (195 + 1) (z2 196)) (195 + 2) (z2 197)) (195 + 3) (z2 198)) (195 + 4) (z2 199)) (195 + 5) (z2 200)) (195 + 6) (z2 201)) (195 + 7) (z2 202) = cpR z z2 195 8 := by
  show upd (upd (upd (upd (upd (upd (upd (upd z 195 (z2 195)) (195 + 1) (z2 (195 + 1))) (195 + 2) (z2 (195 + 2))) (195 + 3) (z2 (195 + 3))) (195 + 4) (z2 (195 + 4))) (195 + 5) (z2 (195 + 5))) (195 + 6) (z2 (195 + 6))) (195 + 7) (z2 (195 + 7)) = _
  rw [cpR_1 z z2 195, cpR_s, cpR_s, cpR_s, cpR_s, cpR_s, cpR_s, cpR_s]
/-- n numbers of an array are the other's -/
def cpA (n : Nat) (f g : Zt) : Zt := fun i => if i < n then f i else g i
theorem cpA_0 (f g : Zt) : cpA 0 f g = g := by funext i; unfold cpA; rw [if_neg (by omega)]
theorem cpA_s (f g : Zt) (n : Nat) : upd (cpA n f g) n (f n) = cpA (n + 1) f g := by
  funext i; simp only [upd, cpA]
  by_cases h : i = n
  · rw [if_pos h, if_pos (by omega), h]
  · rw [if_neg h]
    by_cases g : i < n
    · rw [if_pos g, if_pos (by omega)]
    · rw [if_neg g, if_neg (by omega)]
/-- a column of the book is the other's -/
def cpE (z z2 : Zt) (w : Nat) : Zt := fun i => if 207 ≤ i ∧ i < 231 ∧ i % 3 = w then z2 i else z i
theorem bwEr (z z2 : Zt) {w : Nat} (hw : w < 3) : vset (bw K b z V) (b + 27 + w) (.inl (K.2.1 0, 8, .inl (cpA 8 (entF z2 w) (entF z w)))) = bw K b (cpE z z2 w) V := by
  have key : ∀ n, n ≤ 8 → ∀ f : Zt, f = (fun i => if 207 ≤ i ∧ i < 207 + 3 * n ∧ i % 3 = w then z2 i else z i) → vset (bw K b z V) (b + 27 + w) (.inl (K.2.1 0, 8, .inl (cpA n (entF z2 w) (entF z w)))) = bw K b f V := by
    intro n
    induction n with
    | zero =>
      intro _ f hf
      rw [cpA_0, vset_id (bw_ea hw)]
      congr 1; rw [hf]; funext i; rw [if_neg (by omega)]
    | succ n ih =>
      intro hn f hf
      have e := ih (by omega) _ rfl
      rw [← cpA_s, ← vset_vset (b + 27 + w) (.inl (K.2.1 0, 8, .inl (cpA n (entF z2 w) (entF z w)))) _, e]
      have hc : cpA n (entF z2 w) (entF z w) = entF (fun i => if 207 ≤ i ∧ i < 207 + 3 * n ∧ i % 3 = w then z2 i else z i) w := by
        funext i; simp only [cpA, entF]
        by_cases h8 : i < 8
        · rw [if_pos h8, if_pos h8, if_pos h8]
          by_cases h : i < n
          · rw [if_pos h, if_pos (by omega)]
          · rw [if_neg h, if_neg (by omega)]
        · rw [if_neg h8, if_neg h8, if_neg h8]; split <;> rfl
      rw [hc, entF_at (show n < 8 by omega), bwEa hw (by omega)]
      congr 1; rw [hf]; funext i; simp only [upd]
      by_cases h : i = 207 + 3 * n + w
      · rw [if_pos h, if_pos (by omega), h]
      · rw [if_neg h]
        by_cases g : 207 ≤ i ∧ i < 207 + 3 * n ∧ i % 3 = w
        · rw [if_pos g, if_pos (by omega)]
        · rw [if_neg g, if_neg (by omega)]
  refine key 8 (by omega) _ ?_
  rfl
theorem bwSr (z z2 f : Zt) (hf : ∀ i, i < 3 → f i = z2 (203 + i)) : vset (bw K b z V) (b + 25) (.inl (K.2.1 0, 3, .inl (cpA 3 f (setF z)))) = bw K b (cpR z z2 203 3) V := by
  have h1 : cpA 3 f (setF z) = upd (upd (upd (setF z) 0 (z2 203)) 1 (z2 204)) 2 (z2 205) := by
    rw [← cpA_s, ← cpA_s, ← cpA_s, cpA_0, hf 0 (by omega), hf 1 (by omega), hf 2 (by omega)]
  have h2 : cpR z z2 203 3 = upd (upd (upd z (203 + 0) (z2 203)) (203 + 1) (z2 204)) (203 + 2) (z2 205) := by
    rw [← cpR_s, ← cpR_s, ← cpR_s, cpR_0]
  have s1 : ∀ (y : Zt) (j : Nat) (v : Int32), j < 3 → upd (setF y) j v = setF (upd y (203 + j) v) := by
    intro y j v hj
    funext i; simp only [setF, upd]
    by_cases h : i = j
    · subst h; simp [hj]
    · by_cases h3 : i < 3 <;> simp [h, h3]
  rw [h1, h2, s1 _ 0 _ (by omega), s1 _ 1 _ (by omega), ← bwSet (b := b) (K := K) (V := V) (j := 2) (by omega), ← bwSet (b := b) (K := K) (V := V) (j := 1) (by omega), ← bwSet (b := b) (K := K) (V := V) (j := 0) (by omega), s1 _ 0 _ (by omega), s1 _ 1 _ (by omega), vset_vset, vset_vset]
theorem cp_e (z z2 : Zt) : upd (cpE (cpE (cpE z z2 0) z2 1) z2 2) 206 (z2 206) = cpR z z2 206 25 := by
  funext i; simp only [upd, cpE, cpR]
  by_cases h : i = 206
  · rw [if_pos h, if_pos (by omega), h]
  rw [if_neg h]
  by_cases g : 207 ≤ i ∧ i < 231
  · rw [if_pos (show 206 ≤ i ∧ i < 206 + 25 by omega)]
    rcases (show i % 3 = 0 ∨ i % 3 = 1 ∨ i % 3 = 2 by omega) with q | q | q
    · rw [if_neg (by omega), if_neg (by omega), if_pos (by omega)]
    · rw [if_neg (by omega), if_pos (by omega)]
    · rw [if_pos (by omega)]
  · rw [if_neg (by omega), if_neg (by omega), if_neg (by omega), if_neg (by omega)]
theorem cp_all (z z2 : Zt) : ∀ i, i < 231 → upd (upd (upd (upd (upd (cpR (cpR (cpR (cpR z z2 0 190) z2 203 3) z2 206 25) z2 195 8) 194 (z2 194)) 190 (z2 190)) 192 (z2 192)) 193 (z2 193)) 191 (z2 191) i = z2 i := by
  intro i hi
  simp only [upd, cpR]
  by_cases h1 : i = 191
  · rw [if_pos h1, h1]
  by_cases h2 : i = 193
  · rw [if_neg h1, if_pos h2, h2]
  by_cases h3 : i = 192
  · rw [if_neg h1, if_neg h2, if_pos h3, h3]
  by_cases h4 : i = 190
  · rw [if_neg h1, if_neg h2, if_neg h3, if_pos h4, h4]
  by_cases h5 : i = 194
  · rw [if_neg h1, if_neg h2, if_neg h3, if_neg h4, if_pos h5, h5]
  rw [if_neg h1, if_neg h2, if_neg h3, if_neg h4, if_neg h5]
  split
  · rfl
  split
  · rfl
  split
  · rfl
  split
  · rfl
  omega
theorem bz_fit {x : Int32} (h : x = 0 ∨ x = 1) : fits .boolean (.int x) = true := by
  rcases h with rfl | rfl <;> decide
theorem bz_nar {x : Int32} (h : x = 0 ∨ x = 1) : narrow .boolean (.int x) = .int x := by
  rcases h with rfl | rfl <;> decide
end Rows4
