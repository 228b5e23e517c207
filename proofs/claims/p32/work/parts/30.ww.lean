/-! THE WHOLE OBJECT: one picture of its 194 cells from x on: now, trial, the history's four books, which of them are the states 0 to 3, the text, the order's numbers; scalars g: 0 states kept, 1 the text's length, 2 done, 3 position, 4 reason, 5 cause, 6 letter, 7 place. -/
def wcell (K : KT) (x : Nat) (z t : Zt) (hs : Nat → Zt) (π : Nat → Nat) (f u g : Zt) (i : Nat) : va_E :=
  if i = 0 then .inr (9, [.ref (x + 1), .ref (x + 32), .ref (x + 63), .ref (x + 189), .ref (x + 191)]) else if i < 32 then bcell K (x + 1) z (i - 1) else if i < 63 then bcell K (x + 32) t (i - 32)
  else if i = 63 then .inr (2, [.ref (x + 64), .int (g 0)]) else if i = 64 then .inl (K.2.1 3, 4, .inr (.inr (.inr (.inr (fun k => some (x + 65 + 31 * π k))))))
  else if i < 189 then bcell K (x + 65 + 31 * ((i - 65) / 31)) (hs ((i - 65) / 31)) ((i - 65) % 31)
  else if i = 189 then .inr (7, [.ref (x + 190), .int (g 1)]) else if i = 190 then .inl (K.2.1 0, 60, .inl (cutF 60 f))
  else if i = 191 then .inr (5, [.ref (x + 192), .int (g 2), .int (g 3), .int (g 4), .int (g 5)]) else if i = 192 then .inr (4, [.ref (x + 193), .int (g 6), .int (g 7)]) else .inl (K.2.1 0, 3, .inl (cutF 3 u))
def ww (K : KT) (x : Nat) (z t : Zt) (hs : Nat → Zt) (π : Nat → Nat) (f u g : Zt) (V : VW) : VW := fun a => if x ≤ a ∧ a < x + 194 then some (wcell K x z t hs π f u g (a - x)) else V a
def hset (h : Nat → Zt) (p : Nat) (z : Zt) : Nat → Zt := fun q => if q = p then z else h q
section WW
variable {K : KT} {x k j : Nat} {z t f u g z' t' f' u' g' : Zt} {hs hs' : Nat → Zt} {π π' : Nat → Nat} {V : VW}
theorem ww_at {i : Nat} (hi : i < 194) : ww K x z t hs π f u g V (x + i) = some (wcell K x z t hs π f u g i) := by
  unfold ww; rw [if_pos ⟨by omega, by omega⟩, Nat.add_sub_cancel_left]
theorem ww_out {a : Nat} (h : a < x ∨ x + 194 ≤ a) : ww K x z t hs π f u g V a = V a := by
  unfold ww; rw [if_neg (by omega)]
theorem ww_x : ww K x z t hs π f u g V x = some (.inr (9, [.ref (x + 1), .ref (x + 32), .ref (x + 63), .ref (x + 189), .ref (x + 191)])) := ww_at (i := 0) (by decide)
theorem ww_h : ww K x z t hs π f u g V (x + 63) = some (.inr (2, [.ref (x + 64), .int (g 0)])) := ww_at (i := 63) (by decide)
theorem ww_ha : ww K x z t hs π f u g V (x + 64) = some (.inl (K.2.1 3, 4, .inr (.inr (.inr (.inr (fun k => some (x + 65 + 31 * π k))))))) := ww_at (i := 64) (by decide)
theorem ww_t : ww K x z t hs π f u g V (x + 189) = some (.inr (7, [.ref (x + 190), .int (g 1)])) := ww_at (i := 189) (by decide)
theorem ww_tx : ww K x z t hs π f u g V (x + 190) = some (.inl (K.2.1 0, 60, .inl (cutF 60 f))) := ww_at (i := 190) (by decide)
theorem ww_r : ww K x z t hs π f u g V (x + 191) = some (.inr (5, [.ref (x + 192), .int (g 2), .int (g 3), .int (g 4), .int (g 5)])) := ww_at (i := 191) (by decide)
theorem ww_o : ww K x z t hs π f u g V (x + 192) = some (.inr (4, [.ref (x + 193), .int (g 6), .int (g 7)])) := ww_at (i := 192) (by decide)
theorem ww_nu : ww K x z t hs π f u g V (x + 193) = some (.inl (K.2.1 0, 3, .inl (cutF 3 u))) := ww_at (i := 193) (by decide)
theorem ww_up {i : Nat} {y : va_E} (hi : i < 194) (hx : y = wcell K x z' t' hs' π' f' u' g' i) (ho : ∀ j, j < 194 → j ≠ i → wcell K x z t hs π f u g j = wcell K x z' t' hs' π' f' u' g' j) : vset (ww K x z t hs π f u g V) (x + i) y = ww K x z' t' hs' π' f' u' g' V := by
  funext a
  by_cases ha : a = x + i
  · subst ha; rw [vset_self, ww_at hi, hx]
  · rw [vset_ne _ _ ha]
    unfold ww
    by_cases h : x ≤ a ∧ a < x + 194
    · rw [if_pos h, if_pos h, ho (a - x) (by omega) (by omega)]
    · rw [if_neg h, if_neg h]
theorem ww_b1 (z9 : Zt) : bw K (x + 1) z9 (ww K x z t hs π f u g V) = ww K x z9 t hs π f u g V := by
  funext a; unfold bw
  by_cases h : x + 1 ≤ a ∧ a < x + 1 + 31
  · rw [if_pos h]; unfold ww; rw [if_pos ⟨by omega, by omega⟩]; unfold wcell
    rw [if_neg (by omega), if_pos (by omega), show a - x - 1 = a - (x + 1) by omega]
  · rw [if_neg h]; unfold ww
    by_cases g : x ≤ a ∧ a < x + 194
    · rw [if_pos g, if_pos g]; unfold wcell
      by_cases h0 : a - x = 0
      · rw [if_pos h0, if_pos h0]
      · rw [if_neg h0, if_neg h0, if_neg (show ¬ a - x < 32 by omega), if_neg (show ¬ a - x < 32 by omega)]
    · rw [if_neg g, if_neg g]
theorem ww_b2 (z9 : Zt) : bw K (x + 32) z9 (ww K x z t hs π f u g V) = ww K x z z9 hs π f u g V := by
  funext a; unfold bw
  by_cases h : x + 32 ≤ a ∧ a < x + 32 + 31
  · rw [if_pos h]; unfold ww; rw [if_pos ⟨by omega, by omega⟩]; unfold wcell
    rw [if_neg (by omega), if_neg (by omega), if_pos (by omega), show a - x - 32 = a - (x + 32) by omega]
  · rw [if_neg h]; unfold ww
    by_cases g : x ≤ a ∧ a < x + 194
    · rw [if_pos g, if_pos g]; unfold wcell
      by_cases h0 : a - x = 0
      · rw [if_pos h0, if_pos h0]
      by_cases h1 : a - x < 32
      · rw [if_neg h0, if_neg h0, if_pos h1, if_pos h1]
      · rw [if_neg h0, if_neg h0, if_neg h1, if_neg h1, if_neg (show ¬ a - x < 63 by omega), if_neg (show ¬ a - x < 63 by omega)]
    · rw [if_neg g, if_neg g]
theorem ww_bh (z9 : Zt) {p : Nat} (hp : p < 4) : bw K (x + 65 + 31 * p) z9 (ww K x z t hs π f u g V) = ww K x z t (hset hs p z9) π f u g V := by
  funext a; unfold bw
  by_cases h : x + 65 + 31 * p ≤ a ∧ a < x + 65 + 31 * p + 31
  · rw [if_pos h]; unfold ww; rw [if_pos ⟨by omega, by omega⟩]; unfold wcell
    rw [if_neg (by omega), if_neg (by omega), if_neg (by omega), if_neg (by omega), if_neg (by omega), if_pos (by omega), show (a - x - 65) / 31 = p by omega, show (a - x - 65) % 31 = a - (x + 65 + 31 * p) by omega]
    simp [hset]
  · rw [if_neg h]; unfold ww
    by_cases g : x ≤ a ∧ a < x + 194
    · rw [if_pos g, if_pos g]; unfold wcell
      by_cases h5 : 65 ≤ a - x ∧ a - x < 189
      · rw [if_neg (by omega), if_neg (by omega), if_neg (by omega), if_neg (by omega), if_neg (by omega), if_pos h5.2, if_neg (by omega), if_neg (by omega), if_neg (by omega), if_neg (by omega), if_neg (by omega), if_pos h5.2]
        have hne : (a - x - 65) / 31 ≠ p := by omega
        simp [hset, hne]
      · by_cases h0 : a - x = 0
        · rw [if_pos h0, if_pos h0]
        by_cases h1 : a - x < 32
        · rw [if_neg h0, if_neg h0, if_pos h1, if_pos h1]
        by_cases h2 : a - x < 63
        · rw [if_neg h0, if_neg h0, if_neg h1, if_neg h1, if_pos h2, if_pos h2]
        by_cases h3 : a - x = 63
        · rw [if_neg h0, if_neg h0, if_neg h1, if_neg h1, if_neg h2, if_neg h2, if_pos h3, if_pos h3]
        by_cases h4 : a - x = 64
        · rw [if_neg h0, if_neg h0, if_neg h1, if_neg h1, if_neg h2, if_neg h2, if_neg h3, if_neg h3, if_pos h4, if_pos h4]
        · rw [if_neg h0, if_neg h0, if_neg h1, if_neg h1, if_neg h2, if_neg h2, if_neg h3, if_neg h3, if_neg h4, if_neg h4, if_neg (show ¬ a - x < 189 by omega), if_neg (show ¬ a - x < 189 by omega)]
    · rw [if_neg g, if_neg g]
theorem hset_self (h : Nat → Zt) (p : Nat) : hset h p (h p) = h := by
  funext q; unfold hset
  by_cases hq : q = p
  · rw [if_pos hq, hq]
  · rw [if_neg hq]
theorem ww_bh_self {p : Nat} (hp : p < 4) : bw K (x + 65 + 31 * p) (hs p) (ww K x z t hs π f u g V) = ww K x z t hs π f u g V := by
  rw [ww_bh _ hp, hset_self]
theorem wcell_keep {i : Nat} (hi : i < 194) (h : i ≠ 63) (h2 : i ≠ 64) (h3 : i < 189) (e1 : z = z') (e2 : t = t') (e3 : hs = hs') : wcell K x z t hs π f u g i = wcell K x z' t' hs' π' f' u' g' i := by
  unfold wcell; rw [e1, e2, e3, if_neg h, if_neg h2, if_pos h3, if_neg h, if_neg h2, if_pos h3]
theorem ww_low (i : Nat) (hi : i < 194) (h9 : 189 ≤ i ∨ i = 63 ∨ i = 64) {y : va_E} (hx : y = wcell K x z' t' hs' π' f' u' g' i) (e1 : z = z') (e2 : t = t') (e3 : hs = hs')
    (h63 : i ≠ 63 → (g 0) = (g' 0)) (h64 : i ≠ 64 → π = π') (h189 : i ≠ 189 → (g 1) = (g' 1)) (h190 : i ≠ 190 → f = f') (h191 : i ≠ 191 → (g 2) = (g' 2) ∧ (g 3) = (g' 3) ∧ (g 4) = (g' 4) ∧ (g 5) = (g' 5))
    (h192 : i ≠ 192 → (g 6) = (g' 6) ∧ (g 7) = (g' 7)) (h193 : i ≠ 193 → u = u') : vset (ww K x z t hs π f u g V) (x + i) y = ww K x z' t' hs' π' f' u' g' V := by
  refine ww_up hi hx (fun j hj hne => ?_)
  by_cases q1 : j = 63
  · subst q1; unfold wcell; rw [h63 (Ne.symm hne)]; rfl
  by_cases q2 : j = 64
  · subst q2; unfold wcell; rw [h64 (Ne.symm hne)]; rfl
  by_cases q3 : j < 189
  · exact wcell_keep hj q1 q2 q3 e1 e2 e3
  rcases (show j = 189 ∨ j = 190 ∨ j = 191 ∨ j = 192 ∨ j = 193 by omega) with rfl | rfl | rfl | rfl | rfl
  · unfold wcell; rw [h189 (Ne.symm hne)]; rfl
  · unfold wcell; rw [h190 (Ne.symm hne)]; rfl
  · obtain ⟨a1, a2, a3, a4⟩ := h191 (Ne.symm hne); unfold wcell; rw [a1, a2, a3, a4]; rfl
  · obtain ⟨a1, a2⟩ := h192 (Ne.symm hne); unfold wcell; rw [a1, a2]; rfl
  · unfold wcell; rw [h193 (Ne.symm hne)]; rfl
end WW
section RowsW
variable {K : KT} {p : Program} {l : Launch} {e : Env} {R : Room} {s : State} {m : MethodId} {args : Array Value} {below : List Frame} {meth : Method} {c : Code} {Q : State → Prop} {nL : Nat} {own : String} {cc : ByteArray} {ret : Option FieldType}
variable {V : VW} {sz cells slots pc : Nat} {lv : List (Nat × Value)} {st : List Value} {x k j : Nat} {z t f u g : Zt} {hs : Nat → Zt} {π : Nat → Nat}
theorem G.putKe (cx : Cx K p s m args meth c own cc nL ret) {index : Nat} (hd : decode cc pc = .ok (.putfield index, 3)) {v : Int32} (hw : Cond.fieldLink own index (TX2 1).1 (TX2 1).2.1 (TX2 1).2.2.1 ∈ wsL_law) (kk : G K p l e R s m args below meth c Q nL (ww K x z t hs π f u (upd g 0 v) V) sz cells slots (pc + 3) lv st) : G K p l e R s m args below meth c Q nL (ww K x z t hs π f u g V) sz cells slots pc lv (.int v :: .ref (x + 63) :: st) :=
  G.put cx 1 tyX2 tyX2_ok nmX2 hd hw inlX2 rfl (by decide) rfl rfl rfl rfl ww_h (by simp) rfl (G.cast (ww_low (g' := upd g 0 v) 63 (by decide) (by decide) rfl rfl rfl rfl (fun h => absurd rfl h) (fun _ => rfl) (fun _ => rfl) (fun _ => rfl) (fun _ => ⟨rfl, rfl, rfl, rfl⟩) (fun _ => ⟨rfl, rfl⟩) (fun _ => rfl)) kk)
theorem G.putLe (cx : Cx K p s m args meth c own cc nL ret) {index : Nat} (hd : decode cc pc = .ok (.putfield index, 3)) {v : Int32} (hw : Cond.fieldLink own index (TX7 1).1 (TX7 1).2.1 (TX7 1).2.2.1 ∈ wsL_law) (kk : G K p l e R s m args below meth c Q nL (ww K x z t hs π f u (upd g 1 v) V) sz cells slots (pc + 3) lv st) : G K p l e R s m args below meth c Q nL (ww K x z t hs π f u g V) sz cells slots pc lv (.int v :: .ref (x + 189) :: st) :=
  G.put cx 1 tyX7 tyX7_ok nmX7 hd hw inlX7 rfl (by decide) rfl rfl rfl rfl ww_t (by simp) rfl (G.cast (ww_low (g' := upd g 1 v) 189 (by decide) (by decide) rfl rfl rfl rfl (fun _ => rfl) (fun _ => rfl) (fun h => absurd rfl h) (fun _ => rfl) (fun _ => ⟨rfl, rfl, rfl, rfl⟩) (fun _ => ⟨rfl, rfl⟩) (fun _ => rfl)) kk)
theorem G.putDo (cx : Cx K p s m args meth c own cc nL ret) {index : Nat} (hd : decode cc pc = .ok (.putfield index, 3)) {v : Int32} (hw : Cond.fieldLink own index (TX5 1).1 (TX5 1).2.1 (TX5 1).2.2.1 ∈ wsL_law) (kk : G K p l e R s m args below meth c Q nL (ww K x z t hs π f u (upd g 2 v) V) sz cells slots (pc + 3) lv st) : G K p l e R s m args below meth c Q nL (ww K x z t hs π f u g V) sz cells slots pc lv (.int v :: .ref (x + 191) :: st) :=
  G.put cx 1 tyX5 tyX5_ok nmX5 hd hw inlX5 rfl (by decide) rfl rfl rfl rfl ww_r (by simp) rfl (G.cast (ww_low (g' := upd g 2 v) 191 (by decide) (by decide) rfl rfl rfl rfl (fun _ => rfl) (fun _ => rfl) (fun _ => rfl) (fun _ => rfl) (fun h => absurd rfl h) (fun _ => ⟨rfl, rfl⟩) (fun _ => rfl)) kk)
theorem G.putPo (cx : Cx K p s m args meth c own cc nL ret) {index : Nat} (hd : decode cc pc = .ok (.putfield index, 3)) {v : Int32} (hw : Cond.fieldLink own index (TX5 2).1 (TX5 2).2.1 (TX5 2).2.2.1 ∈ wsL_law) (kk : G K p l e R s m args below meth c Q nL (ww K x z t hs π f u (upd g 3 v) V) sz cells slots (pc + 3) lv st) : G K p l e R s m args below meth c Q nL (ww K x z t hs π f u g V) sz cells slots pc lv (.int v :: .ref (x + 191) :: st) :=
  G.put cx 2 tyX5 tyX5_ok nmX5 hd hw inlX5 rfl (by decide) rfl rfl rfl rfl ww_r (by simp) rfl (G.cast (ww_low (g' := upd g 3 v) 191 (by decide) (by decide) rfl rfl rfl rfl (fun _ => rfl) (fun _ => rfl) (fun _ => rfl) (fun _ => rfl) (fun h => absurd rfl h) (fun _ => ⟨rfl, rfl⟩) (fun _ => rfl)) kk)
theorem G.putRe (cx : Cx K p s m args meth c own cc nL ret) {index : Nat} (hd : decode cc pc = .ok (.putfield index, 3)) {v : Int32} (hw : Cond.fieldLink own index (TX5 3).1 (TX5 3).2.1 (TX5 3).2.2.1 ∈ wsL_law) (kk : G K p l e R s m args below meth c Q nL (ww K x z t hs π f u (upd g 4 v) V) sz cells slots (pc + 3) lv st) : G K p l e R s m args below meth c Q nL (ww K x z t hs π f u g V) sz cells slots pc lv (.int v :: .ref (x + 191) :: st) :=
  G.put cx 3 tyX5 tyX5_ok nmX5 hd hw inlX5 rfl (by decide) rfl rfl rfl rfl ww_r (by simp) rfl (G.cast (ww_low (g' := upd g 4 v) 191 (by decide) (by decide) rfl rfl rfl rfl (fun _ => rfl) (fun _ => rfl) (fun _ => rfl) (fun _ => rfl) (fun h => absurd rfl h) (fun _ => ⟨rfl, rfl⟩) (fun _ => rfl)) kk)
theorem G.putCa (cx : Cx K p s m args meth c own cc nL ret) {index : Nat} (hd : decode cc pc = .ok (.putfield index, 3)) {v : Int32} (hw : Cond.fieldLink own index (TX5 4).1 (TX5 4).2.1 (TX5 4).2.2.1 ∈ wsL_law) (kk : G K p l e R s m args below meth c Q nL (ww K x z t hs π f u (upd g 5 v) V) sz cells slots (pc + 3) lv st) : G K p l e R s m args below meth c Q nL (ww K x z t hs π f u g V) sz cells slots pc lv (.int v :: .ref (x + 191) :: st) :=
  G.put cx 4 tyX5 tyX5_ok nmX5 hd hw inlX5 rfl (by decide) rfl rfl rfl rfl ww_r (by simp) rfl (G.cast (ww_low (g' := upd g 5 v) 191 (by decide) (by decide) rfl rfl rfl rfl (fun _ => rfl) (fun _ => rfl) (fun _ => rfl) (fun _ => rfl) (fun h => absurd rfl h) (fun _ => ⟨rfl, rfl⟩) (fun _ => rfl)) kk)
theorem G.putLt (cx : Cx K p s m args meth c own cc nL ret) {index : Nat} (hd : decode cc pc = .ok (.putfield index, 3)) {v : Int32} (hw : Cond.fieldLink own index (TX4 1).1 (TX4 1).2.1 (TX4 1).2.2.1 ∈ wsL_law) (kk : G K p l e R s m args below meth c Q nL (ww K x z t hs π f u (upd g 6 v) V) sz cells slots (pc + 3) lv st) : G K p l e R s m args below meth c Q nL (ww K x z t hs π f u g V) sz cells slots pc lv (.int v :: .ref (x + 192) :: st) :=
  G.put cx 1 tyX4 tyX4_ok nmX4 hd hw inlX4 rfl (by decide) rfl rfl rfl rfl ww_o (by simp) rfl (G.cast (ww_low (g' := upd g 6 v) 192 (by decide) (by decide) rfl rfl rfl rfl (fun _ => rfl) (fun _ => rfl) (fun _ => rfl) (fun _ => rfl) (fun _ => ⟨rfl, rfl, rfl, rfl⟩) (fun h => absurd rfl h) (fun _ => rfl)) kk)
theorem G.putPl (cx : Cx K p s m args meth c own cc nL ret) {index : Nat} (hd : decode cc pc = .ok (.putfield index, 3)) {v : Int32} (hw : Cond.fieldLink own index (TX4 2).1 (TX4 2).2.1 (TX4 2).2.2.1 ∈ wsL_law) (kk : G K p l e R s m args below meth c Q nL (ww K x z t hs π f u (upd g 7 v) V) sz cells slots (pc + 3) lv st) : G K p l e R s m args below meth c Q nL (ww K x z t hs π f u g V) sz cells slots pc lv (.int v :: .ref (x + 192) :: st) :=
  G.put cx 2 tyX4 tyX4_ok nmX4 hd hw inlX4 rfl (by decide) rfl rfl rfl rfl ww_o (by simp) rfl (G.cast (ww_low (g' := upd g 7 v) 192 (by decide) (by decide) rfl rfl rfl rfl (fun _ => rfl) (fun _ => rfl) (fun _ => rfl) (fun _ => rfl) (fun _ => ⟨rfl, rfl, rfl, rfl⟩) (fun h => absurd rfl h) (fun _ => rfl)) kk)
theorem wwTx {f9 : Zt} : vset (ww K x z t hs π f u g V) (x + 190) (.inl (K.2.1 0, 60, .inl (cutF 60 f9))) = ww K x z t hs π f9 u g V :=
  ww_low (f' := f9) 190 (by decide) (by decide) rfl rfl rfl rfl (fun _ => rfl) (fun _ => rfl) (fun _ => rfl) (fun h => absurd rfl h) (fun _ => ⟨rfl, rfl, rfl, rfl⟩) (fun _ => ⟨rfl, rfl⟩) (fun _ => rfl)
theorem wwNu {f9 : Zt} : vset (ww K x z t hs π f u g V) (x + 193) (.inl (K.2.1 0, 3, .inl (cutF 3 f9))) = ww K x z t hs π f f9 g V :=
  ww_low (u' := f9) 193 (by decide) (by decide) rfl rfl rfl rfl (fun _ => rfl) (fun _ => rfl) (fun _ => rfl) (fun _ => rfl) (fun _ => ⟨rfl, rfl, rfl, rfl⟩) (fun _ => ⟨rfl, rfl⟩) (fun h => absurd rfl h)
def piset (h : Nat → Nat) (j v : Nat) : Nat → Nat := fun q => if q = j then v else h q
theorem wwPi {j v : Nat} : vset (ww K x z t hs π f u g V) (x + 64) (.inl (K.2.1 3, 4, .inr (.inr (.inr (.inr (va_up (fun k => some (x + 65 + 31 * π k)) j (some (x + 65 + 31 * v)))))))) = ww K x z t hs (piset π j v) f u g V := by
  refine ww_low 64 (by decide) (by decide) ?_ rfl rfl rfl (fun _ => rfl) (fun h => absurd rfl h) (fun _ => rfl) (fun _ => rfl) (fun _ => ⟨rfl, rfl, rfl, rfl⟩) (fun _ => ⟨rfl, rfl⟩) (fun _ => rfl)
  have e : (va_up (fun k => some (x + 65 + 31 * π k)) j (some (x + 65 + 31 * v)) : Nat → Option Nat) = fun k => some (x + 65 + 31 * piset π j v k) := by
    funext q; simp only [va_up, piset]
    by_cases h : q = j
    · simp [h]
    · simp [h]
  rw [e]; rfl
end RowsW
