/-! THE PICTURES: the books' numbers z (as the reference counts them: 10 a sailor from 0, 5 an item from 160, the ship's from 190, cash and sums from 195, settings from 203, the book from 206); bw: the class's 31 cells of one Books at b; mw: the reference's 6 cells at c. -/
abbrev Zt : Type := Nat → Int32
abbrev Rt : Type := Zt × Zt × Zt × Zt × Zt
def slist (z : Zt) (k : Nat) : List Value := [.int (z (10 * k)), .int (z (10 * k + 1)), .int (z (10 * k + 2)), .int (z (10 * k + 3)), .int (z (10 * k + 4)), .int (z (10 * k + 5)), .int (z (10 * k + 6)), .int (z (10 * k + 7)), .int (-(z (10 * k + 8))), .int (z (10 * k + 9))]
def ilist (z : Zt) (k : Nat) : List Value := [.int (z (160 + 5 * k)), .int (z (160 + 5 * k + 1)), .int (z (160 + 5 * k + 2)), .int (z (160 + 5 * k + 3)), .int (z (160 + 5 * k + 4))]
def blist (b : Nat) (z : Zt) : List Value := [.ref (b + 1), .ref (b + 18), .ref (b + 25), .ref (b + 26), .ref (b + 30), .int (z 194), .int (z 190), .int (z 192), .int (z 193), .int (z 191)]
def tlist (z : Zt) : List Value := [.int (z 195), .int (z 196), .int (z 197), .int (z 198), .int (z 199), .int (z 200), .int (z 201), .int (z 202)]
def elist (b : Nat) (z : Zt) : List Value := [.ref (b + 27), .ref (b + 28), .ref (b + 29), .int (z 206)]
def setF (z : Zt) : Nat → Int32 := fun k => if k < 3 then z (203 + k) else 0
def entF (z : Zt) (w : Nat) : Nat → Int32 := fun k => if k < 8 then z (207 + 3 * k + w) else 0
def bcell (K : KT) (b : Nat) (z : Zt) (i : Nat) : va_E :=
  if i = 0 then .inr (0, blist b z) else if i = 1 then .inl (K.2.1 1, 16, .inr (.inr (.inr (.inr (fun k => some (b + 2 + k))))))
  else if i < 18 then .inr (6, slist z (i - 2)) else if i = 18 then .inl (K.2.1 2, 6, .inr (.inr (.inr (.inr (fun k => some (b + 19 + k))))))
  else if i < 25 then .inr (3, ilist z (i - 19)) else if i = 25 then .inl (K.2.1 0, 3, .inl (setF z)) else if i = 26 then .inr (1, elist b z)
  else if i < 30 then .inl (K.2.1 0, 8, .inl (entF z (i - 27))) else .inr (8, tlist z)
def bw (K : KT) (b : Nat) (z : Zt) (V : VW) : VW := fun a => if b ≤ a ∧ a < b + 31 then some (bcell K b z (a - b)) else V a
def mlist (c : Nat) (g : Zt) : List Value := [.ref (c + 1), .ref (c + 2), .ref (c + 3), .int (g 0), .ref (c + 4), .int (g 1), .int (g 2), .ref (c + 5), .int (g 3), .int (g 4), .int (g 5), .int (g 6), .int (g 7)]
/-- what an array of n places holds of f -/
def cutF (n : Nat) (f : Zt) : Zt := fun i => if i < n then f i else 0
theorem cut_at {n j : Nat} {f : Zt} (h : j < n) : cutF n f j = f j := if_pos h
theorem cut_up {n j : Nat} {f : Zt} {x : Int32} (h : j < n) : upd (cutF n f) j x = cutF n (upd f j x) := by
  funext i; simp only [cutF, upd]
  by_cases h1 : i = j
  · subst h1; simp [h]
  · simp [h1]
theorem cut_eq {n : Nat} {f g : Zt} (h : ∀ i, i < n → f i = g i) : cutF n f = cutF n g := by
  funext i; simp only [cutF]
  by_cases h1 : i < n
  · simp [h1, h i h1]
  · simp [h1]
def mcell (K : KT) (c : Nat) (z : Zt) (r : Rt) (i : Nat) : va_E :=
  if i = 0 then .inr (10, mlist c r.2.2.2.2) else if i = 1 then .inl (K.2.1 0, 231, .inl (cutF 231 z)) else if i = 2 then .inl (K.2.1 0, 231, .inl (cutF 231 r.1))
  else if i = 3 then .inl (K.2.1 0, 924, .inl (cutF 924 r.2.1)) else if i = 4 then .inl (K.2.1 0, 60, .inl (cutF 60 r.2.2.1)) else .inl (K.2.1 0, 3, .inl (cutF 3 r.2.2.2.1))
def mw (K : KT) (c : Nat) (z : Zt) (r : Rt) (V : VW) : VW := fun a => if c ≤ a ∧ a < c + 6 then some (mcell K c z r (a - c)) else V a
section views
variable {K : KT} {b c k j : Nat} {z z' : Zt} {r r' : Rt} {V : VW}
theorem bw_at {i : Nat} (hi : i < 31) : bw K b z V (b + i) = some (bcell K b z i) := by
  unfold bw; rw [if_pos ⟨by omega, by omega⟩, Nat.add_sub_cancel_left]
theorem bw_out {a : Nat} (h : a < b ∨ b + 31 ≤ a) : bw K b z V a = V a := by
  unfold bw; rw [if_neg (by omega)]
theorem bw_b : bw K b z V b = some (.inr (0, blist b z)) := bw_at (i := 0) (by decide)
theorem bw_crew : bw K b z V (b + 1) = some (.inl (K.2.1 1, 16, .inr (.inr (.inr (.inr (fun k => some (b + 2 + k))))))) := bw_at (i := 1) (by decide)
theorem bw_s (hk : k < 16) : bw K b z V (b + 2 + k) = some (.inr (6, slist z k)) := by
  rw [Nat.add_assoc, bw_at (by omega)]; unfold bcell
  rw [if_neg (by omega), if_neg (by omega), if_pos (by omega), show 2 + k - 2 = k by omega]
theorem bw_chest : bw K b z V (b + 18) = some (.inl (K.2.1 2, 6, .inr (.inr (.inr (.inr (fun k => some (b + 19 + k))))))) := bw_at (i := 18) (by decide)
theorem bw_i (hk : k < 6) : bw K b z V (b + 19 + k) = some (.inr (3, ilist z k)) := by
  rw [Nat.add_assoc, bw_at (by omega)]; unfold bcell
  rw [if_neg (by omega), if_neg (by omega), if_neg (by omega), if_neg (by omega), if_pos (by omega), show 19 + k - 19 = k by omega]
theorem bw_set : bw K b z V (b + 25) = some (.inl (K.2.1 0, 3, .inl (setF z))) := bw_at (i := 25) (by decide)
theorem bw_e : bw K b z V (b + 26) = some (.inr (1, elist b z)) := bw_at (i := 26) (by decide)
theorem bw_ea (hk : k < 3) : bw K b z V (b + 27 + k) = some (.inl (K.2.1 0, 8, .inl (entF z k))) := by
  rw [Nat.add_assoc, bw_at (by omega)]; unfold bcell
  rw [if_neg (by omega), if_neg (by omega), if_neg (by omega), if_neg (by omega), if_neg (by omega), if_neg (by omega), if_neg (by omega), if_pos (by omega), show 27 + k - 27 = k by omega]
theorem bw_t : bw K b z V (b + 30) = some (.inr (8, tlist z)) := bw_at (i := 30) (by decide)
theorem bw_up {i : Nat} {x : va_E} (hi : i < 31) (hx : x = bcell K b z' i) (ho : ∀ j, j < 31 → j ≠ i → bcell K b z j = bcell K b z' j) : vset (bw K b z V) (b + i) x = bw K b z' V := by
  funext a
  by_cases ha : a = b + i
  · subst ha; rw [vset_self, bw_at hi, hx]
  · rw [vset_ne _ _ ha]
    unfold bw
    by_cases h : b ≤ a ∧ a < b + 31
    · rw [if_pos h, if_pos h, ho (a - b) (by omega) (by omega)]
    · rw [if_neg h, if_neg h]
theorem upd_s (z : Zt) (i : Nat) (v : Int32) : upd z i v i = v := if_pos rfl
theorem upd_n (z : Zt) {i j : Nat} (v : Int32) (h : j ≠ i) : upd z i v j = z j := if_neg h
/-- a cell of the books keeps, where the number that changed isn't its own -/
theorem bc_keep {n : Nat} {v : Int32} {j : Nat} (hj : j < 31) (hb : j = 0 → n < 190 ∨ 194 < n) (hs : 2 ≤ j → j < 18 → n < 10 * (j - 2) ∨ 10 * (j - 2) + 9 < n) (hi : 19 ≤ j → j < 25 → n < 160 + 5 * (j - 19) ∨ 160 + 5 * (j - 19) + 4 < n)
    (h25 : j = 25 → n < 203 ∨ 205 < n) (h26 : j = 26 → n ≠ 206) (he : 27 ≤ j → j < 30 → n < 207 ∨ 231 ≤ n ∨ n % 3 ≠ j - 27) (ht : j = 30 → n < 195 ∨ 202 < n) : bcell K b z j = bcell K b (upd z n v) j := by
  unfold bcell
  by_cases h0 : j = 0
  · simp only [h0, if_true, blist]
    have := hb h0
    simp (disch := omega) only [upd_n]
  by_cases h1 : j = 1
  · simp [h1]
  by_cases h2 : j < 18
  · have := hs (by omega) h2
    simp only [h0, h1, h2, if_true, if_false, slist]
    simp (disch := omega) only [upd_n]
  by_cases h3 : j = 18
  · simp [h3]
  by_cases h4 : j < 25
  · have := hi (by omega) h4
    simp only [h0, h1, h2, h3, h4, if_true, if_false, ilist]
    simp (disch := omega) only [upd_n]
  by_cases h5 : j = 25
  · have := h25 h5
    simp only [h5]
    have e : setF z = setF (upd z n v) := by
      funext k; unfold setF
      by_cases hk : k < 3
      · rw [if_pos hk, if_pos hk, upd_n _ _ (by omega)]
      · rw [if_neg hk, if_neg hk]
    simp [e]
  by_cases h6 : j = 26
  · have := h26 h6
    simp only [h6, elist]
    simp [upd_n, this.symm]
  by_cases h7 : j < 30
  · have := he (by omega) h7
    have e : entF z (j - 27) = entF (upd z n v) (j - 27) := by
      funext k; unfold entF
      by_cases hk : k < 8
      · rw [if_pos hk, if_pos hk, upd_n _ _ (by omega)]
      · rw [if_neg hk, if_neg hk]
    simp only [h0, h1, h2, h3, h4, h5, h6, h7, if_true, if_false, e]
  · have := ht (by omega)
    simp only [h0, h1, h2, h3, h4, h5, h6, h7, if_true, if_false, tlist]
    simp (disch := omega) only [upd_n]
theorem bc_s (hk : k < 16) : bcell K b z (2 + k) = .inr (6, slist z k) := by
  unfold bcell
  rw [if_neg (by omega), if_neg (by omega), if_pos (by omega), show 2 + k - 2 = k by omega]
theorem bc_i (hk : k < 6) : bcell K b z (19 + k) = .inr (3, ilist z k) := by
  unfold bcell
  rw [if_neg (by omega), if_neg (by omega), if_neg (by omega), if_neg (by omega), if_pos (by omega), show 19 + k - 19 = k by omega]
theorem bwS {n : Nat} {v : Int32} {fs : List Value} (hk : k < 16) (hn : 10 * k ≤ n ∧ n ≤ 10 * k + 9) (hf : fs = slist (upd z n v) k) : vset (bw K b z V) (b + 2 + k) (.inr (6, fs)) = bw K b (upd z n v) V := by
  rw [Nat.add_assoc]
  refine bw_up (by omega) (by rw [bc_s hk, hf]) (fun j hj hne => bc_keep hj ?_ ?_ ?_ ?_ ?_ ?_ ?_) <;> omega
theorem bwI {n : Nat} {v : Int32} {fs : List Value} (hk : k < 6) (hn : 160 + 5 * k ≤ n ∧ n ≤ 160 + 5 * k + 4) (hf : fs = ilist (upd z n v) k) : vset (bw K b z V) (b + 19 + k) (.inr (3, fs)) = bw K b (upd z n v) V := by
  rw [Nat.add_assoc]
  refine bw_up (by omega) (by rw [bc_i hk, hf]) (fun j hj hne => bc_keep hj ?_ ?_ ?_ ?_ ?_ ?_ ?_) <;> omega
theorem bwT {n : Nat} {v : Int32} {fs : List Value} (hn : 195 ≤ n ∧ n ≤ 202) (hf : fs = tlist (upd z n v)) : vset (bw K b z V) (b + 30) (.inr (8, fs)) = bw K b (upd z n v) V := by
  refine bw_up (by omega) (by rw [hf]; rfl) (fun j hj hne => bc_keep hj ?_ ?_ ?_ ?_ ?_ ?_ ?_) <;> omega
theorem bwB {n : Nat} {v : Int32} {fs : List Value} (hn : 190 ≤ n ∧ n ≤ 194) (hf : fs = blist b (upd z n v)) : vset (bw K b z V) b (.inr (0, fs)) = bw K b (upd z n v) V := by
  refine bw_up (i := 0) (by omega) (by rw [hf]; rfl) (fun j hj hne => bc_keep hj ?_ ?_ ?_ ?_ ?_ ?_ ?_) <;> omega
theorem bwE {v : Int32} {fs : List Value} (hf : fs = elist b (upd z 206 v)) : vset (bw K b z V) (b + 26) (.inr (1, fs)) = bw K b (upd z 206 v) V := by
  refine bw_up (by omega) (by rw [hf]; rfl) (fun j hj hne => bc_keep hj ?_ ?_ ?_ ?_ ?_ ?_ ?_) <;> omega
theorem bwSet {v : Int32} (hj : j < 3) : vset (bw K b z V) (b + 25) (.inl (K.2.1 0, 3, .inl (upd (setF z) j v))) = bw K b (upd z (203 + j) v) V := by
  refine bw_up (by omega) ?_ (fun i hi hne => bc_keep hi ?_ ?_ ?_ ?_ ?_ ?_ ?_) <;> try omega
  have e : upd (setF z) j v = setF (upd z (203 + j) v) := by
    funext i; simp only [setF, upd]
    by_cases h : i = j
    · subst h; simp [hj]
    · by_cases h3 : i < 3 <;> simp [h, h3]
  rw [e]; rfl
theorem bc_e (hk : k < 3) : bcell K b z (27 + k) = .inl (K.2.1 0, 8, .inl (entF z k)) := by
  unfold bcell
  rw [if_neg (by omega), if_neg (by omega), if_neg (by omega), if_neg (by omega), if_neg (by omega), if_neg (by omega), if_neg (by omega), if_pos (by omega), show 27 + k - 27 = k by omega]
theorem bwEa {v : Int32} (hk : k < 3) (hj : j < 8) : vset (bw K b z V) (b + 27 + k) (.inl (K.2.1 0, 8, .inl (upd (entF z k) j v))) = bw K b (upd z (207 + 3 * j + k) v) V := by
  rw [Nat.add_assoc]
  refine bw_up (by omega) ?_ (fun i hi hne => bc_keep hi ?_ ?_ ?_ ?_ ?_ ?_ ?_) <;> try omega
  have e : upd (entF z k) j v = entF (upd z (207 + 3 * j + k) v) k := by
    funext i; simp only [entF, upd]
    by_cases h : i = j
    · subst h; simp [hj]
    · by_cases h3 : i < 8
      · rw [if_neg h, if_pos h3, if_pos h3, if_neg (by omega)]
      · rw [if_neg h, if_neg h3, if_neg h3]
  rw [e, bc_e hk]
theorem bw_bw : bw K b z (bw K b z' V) = bw K b z V := by
  funext a; unfold bw
  by_cases h : b ≤ a ∧ a < b + 31
  · rw [if_pos h, if_pos h]
  · rw [if_neg h, if_neg h, if_neg h]
theorem bw_comm {b' : Nat} (h : b + 31 ≤ b' ∨ b' + 31 ≤ b) : bw K b z (bw K b' z' V) = bw K b' z' (bw K b z V) := by
  funext a; unfold bw
  by_cases h1 : b ≤ a ∧ a < b + 31
  · rw [if_pos h1, if_neg (by omega), if_pos h1]
  · rw [if_neg h1]
    by_cases h2 : b' ≤ a ∧ a < b' + 31
    · rw [if_pos h2, if_pos h2]
    · rw [if_neg h2, if_neg h2, if_neg h1]
-- the reference
theorem mw_at {i : Nat} (hi : i < 6) : mw K c z r V (c + i) = some (mcell K c z r i) := by
  unfold mw; rw [if_pos ⟨by omega, by omega⟩, Nat.add_sub_cancel_left]
theorem mw_out {a : Nat} (h : a < c ∨ c + 6 ≤ a) : mw K c z r V a = V a := by
  unfold mw; rw [if_neg (by omega)]
theorem mw_m : mw K c z r V c = some (.inr (10, mlist c r.2.2.2.2)) := mw_at (i := 0) (by decide)
theorem mw_z : mw K c z r V (c + 1) = some (.inl (K.2.1 0, 231, .inl (cutF 231 z))) := mw_at (i := 1) (by decide)
theorem mw_as : mw K c z r V (c + 2) = some (.inl (K.2.1 0, 231, .inl (cutF 231 r.1))) := mw_at (i := 2) (by decide)
theorem mw_be : mw K c z r V (c + 3) = some (.inl (K.2.1 0, 924, .inl (cutF 924 r.2.1))) := mw_at (i := 3) (by decide)
theorem mw_tx : mw K c z r V (c + 4) = some (.inl (K.2.1 0, 60, .inl (cutF 60 r.2.2.1))) := mw_at (i := 4) (by decide)
theorem mw_nu : mw K c z r V (c + 5) = some (.inl (K.2.1 0, 3, .inl (cutF 3 r.2.2.2.1))) := mw_at (i := 5) (by decide)
theorem mw_up {i : Nat} {x : va_E} (hi : i < 6) (hx : x = mcell K c z' r' i) (ho : ∀ j, j < 6 → j ≠ i → mcell K c z r j = mcell K c z' r' j) : vset (mw K c z r V) (c + i) x = mw K c z' r' V := by
  funext a
  by_cases ha : a = c + i
  · subst ha; rw [vset_self, mw_at hi, hx]
  · rw [vset_ne _ _ ha]
    unfold mw
    by_cases h : c ≤ a ∧ a < c + 6
    · rw [if_pos h, if_pos h, ho (a - c) (by omega) (by omega)]
    · rw [if_neg h, if_neg h]
theorem mwZ : vset (mw K c z r V) (c + 1) (.inl (K.2.1 0, 231, .inl (cutF 231 z'))) = mw K c z' r V := by
  refine mw_up (by omega) rfl (fun j hj hne => ?_)
  unfold mcell; simp [hne]
theorem mwAs {f : Zt} : vset (mw K c z r V) (c + 2) (.inl (K.2.1 0, 231, .inl (cutF 231 f))) = mw K c z (f, r.2) V := by
  refine mw_up (by omega) rfl (fun j hj hne => ?_)
  unfold mcell; simp [hne]
theorem mwBe {f : Zt} : vset (mw K c z r V) (c + 3) (.inl (K.2.1 0, 924, .inl (cutF 924 f))) = mw K c z (r.1, f, r.2.2) V := by
  refine mw_up (by omega) rfl (fun j hj hne => ?_)
  unfold mcell; simp [hne]
theorem mwTx {f : Zt} : vset (mw K c z r V) (c + 4) (.inl (K.2.1 0, 60, .inl (cutF 60 f))) = mw K c z (r.1, r.2.1, f, r.2.2.2) V := by
  refine mw_up (by omega) rfl (fun j hj hne => ?_)
  unfold mcell; simp [hne]
theorem mwNu {f : Zt} : vset (mw K c z r V) (c + 5) (.inl (K.2.1 0, 3, .inl (cutF 3 f))) = mw K c z (r.1, r.2.1, r.2.2.1, f, r.2.2.2.2) V := by
  refine mw_up (by omega) rfl (fun j hj hne => ?_)
  unfold mcell
  have : j < 5 := by omega
  by_cases h0 : j = 0
  · simp [h0]
  by_cases h1 : j = 1
  · simp [h1]
  by_cases h2 : j = 2
  · simp [h2]
  by_cases h3 : j = 3
  · simp [h3]
  by_cases h4 : j = 4
  · simp [h4]
  omega
theorem mwG {fs : List Value} {g : Zt} (hf : fs = mlist c g) : vset (mw K c z r V) c (.inr (10, fs)) = mw K c z (r.1, r.2.1, r.2.2.1, r.2.2.2.1, g) V := by
  refine mw_up (i := 0) (by omega) (by rw [hf]; rfl) (fun j hj hne => ?_)
  unfold mcell; simp [hne]
end views
theorem setF_at {z : Zt} {j : Nat} (h : j < 3) : setF z j = z (203 + j) := if_pos h
theorem entF_at {z : Zt} {w j : Nat} (h : j < 8) : entF z w j = z (207 + 3 * j + w) := if_pos h
/-- two books with the same 231 numbers are one picture -/
theorem bw_eq {K : KT} {b : Nat} {z z' : Zt} {V : VW} (h : ∀ i, i < 231 → z i = z' i) : bw K b z V = bw K b z' V := by
  funext a; unfold bw
  by_cases h1 : b ≤ a ∧ a < b + 31
  · rw [if_pos h1, if_pos h1]
    congr 1
    generalize a - b = j at *
    unfold bcell
    by_cases g : 2 ≤ j ∧ j < 18
    · obtain ⟨k, rfl⟩ : ∃ k, j = 2 + k := ⟨j - 2, by omega⟩
      have hk : k < 16 := by omega
      rw [if_neg (by omega), if_neg (by omega), if_pos (by omega), if_neg (by omega), if_neg (by omega), if_pos (by omega), show 2 + k - 2 = k by omega]
      simp only [slist]
      rw [h (10 * k) (by omega), h (10 * k + 1) (by omega), h (10 * k + 2) (by omega), h (10 * k + 3) (by omega), h (10 * k + 4) (by omega), h (10 * k + 5) (by omega), h (10 * k + 6) (by omega), h (10 * k + 7) (by omega), h (10 * k + 8) (by omega), h (10 * k + 9) (by omega)]
    by_cases g2 : 19 ≤ j ∧ j < 25
    · obtain ⟨k, rfl⟩ : ∃ k, j = 19 + k := ⟨j - 19, by omega⟩
      have hk : k < 6 := by omega
      have e : ilist z k = ilist z' k := by
        simp only [ilist]
        rw [h (160 + 5 * k) (by omega), h (160 + 5 * k + 1) (by omega), h (160 + 5 * k + 2) (by omega), h (160 + 5 * k + 3) (by omega), h (160 + 5 * k + 4) (by omega)]
      rw [show 19 + k - 19 = k by omega, e]
      simp [show ¬ (19 + k = 0) by omega, show ¬ (19 + k = 1) by omega, show ¬ (19 + k < 18) by omega, show ¬ (19 + k = 18) by omega, show 19 + k < 25 by omega]
    have e0 : blist b z = blist b z' := by simp only [blist]; rw [h 194 (by omega), h 190 (by omega), h 192 (by omega), h 193 (by omega), h 191 (by omega)]
    have e1 : setF z = setF z' := by
      funext i; simp only [setF]
      by_cases hi : i < 3
      · rw [if_pos hi, if_pos hi, h _ (by omega)]
      · rw [if_neg hi, if_neg hi]
    have e2 : elist b z = elist b z' := by simp only [elist]; rw [h 206 (by omega)]
    have e3 : tlist z = tlist z' := by
      simp only [tlist]; rw [h 195 (by omega), h 196 (by omega), h 197 (by omega), h 198 (by omega), h 199 (by omega), h 200 (by omega), h 201 (by omega), h 202 (by omega)]
    have e4 : ∀ w, w < 3 → entF z w = entF z' w := by
      intro w hw; funext i; simp only [entF]
      by_cases hi : i < 8
      · rw [if_pos hi, if_pos hi, h _ (by omega)]
      · rw [if_neg hi, if_neg hi]
    by_cases h0 : j = 0
    · simp [h0, e0]
    by_cases h1 : j = 1
    · simp [h1]
    by_cases h2 : j < 18
    · omega
    by_cases h3 : j = 18
    · simp [h3]
    by_cases h4 : j < 25
    · omega
    by_cases h5 : j = 25
    · simp [h5, e1]
    by_cases h6 : j = 26
    · simp [h6, e2]
    by_cases h7 : j < 30
    · simp [h0, h1, h2, h3, h4, h5, h6, h7, e4 (j - 27) (by omega)]
    · simp [h0, h1, h2, h3, h4, h5, h6, h7, e3]
  · rw [if_neg h1, if_neg h1]
theorem mw_eq {K : KT} {c : Nat} {z z' : Zt} {r : Rt} {V : VW} (h : ∀ i, i < 231 → z i = z' i) : mw K c z r V = mw K c z' r V := by
  unfold mw mcell; rw [cut_eq h]
def b2 (P : Prop) [Decidable P] : Int32 := if P then 1 else 0
theorem b2_eq0 {P : Prop} [Decidable P] : b2 P = 0 ↔ ¬ P := by unfold b2; by_cases h : P <;> simp [h]
theorem b2_ne0 {P : Prop} [Decidable P] : ¬ b2 P = 0 ↔ P := by unfold b2; by_cases h : P <;> simp [h]
theorem b2_t {P : Prop} [Decidable P] (h : P) : b2 P = 1 := if_pos h
theorem b2_f {P : Prop} [Decidable P] (h : ¬ P) : b2 P = 0 := if_neg h
theorem b2_narrow {P : Prop} [Decidable P] : narrow .boolean (.int (b2 P)) = .int (b2 P) := by unfold b2; by_cases h : P <;> simp [h] <;> decide
