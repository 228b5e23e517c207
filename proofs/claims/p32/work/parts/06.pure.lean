/-! THE BOOKS AS NUMBERS: what each call answers and leaves, said of z alone -/
def zWages (r a b : Int32) : Int32 := if r = 0 then (a + b) / 2 else if r = 1 then 2 * a + b else if r = 2 then 2 * (a + b) + (a + b) / 7 else 4 * a + 2 * b
def zEarn (z : Zt) (k : Nat) : Int32 := zWages (z (10 * k)) (z (10 * k + 3)) (z (10 * k + 4))
def zChg (z : Zt) (k : Nat) : Int32 := z (10 * k + 5) + z (10 * k + 6) + z (10 * k + 7)
def zBal (z : Zt) (k : Nat) : Int32 := if z (10 * k + 2) = 2 then 0 else zEarn z k + z (10 * k + 8) - zChg z k
def zSpend (z : Zt) (x : Int32) : Zt := upd (upd z 196 (z 196 + (if z 195 < x then x - z 195 else 0))) 195 (if z 195 < x then 0 else z 195 - x)
/-- the book's rows move on by one, down to the place lo -/
def zShift (z : Zt) (lo : Nat) : Zt := fun i => if 207 + lo ≤ i ∧ i < 231 then z (i - 3) else z i
def zWrite (z : Zt) (a kind x : Int32) : Zt := if x = 0 then z else upd (upd (upd (upd (zShift z 3) 207 a) 208 kind) 209 x) 206 (z 206 + (if z 206 < 8 then 1 else 0))
theorem zShift_top (z : Zt) : zShift z 24 = z := by
  funext i; unfold zShift; rw [if_neg (by omega)]
theorem zShift_step (z : Zt) {lo : Nat} (h : 3 ≤ lo) (h2 : lo < 24) : upd (zShift z (lo + 1)) (207 + lo) (zShift z (lo + 1) (207 + lo - 3)) = zShift z lo := by
  funext i; simp only [zShift, upd]
  by_cases h1 : i = 207 + lo
  · subst h1; rw [if_pos rfl, if_neg (by omega), if_pos (by omega)]
  · rw [if_neg h1]
    by_cases h3 : 207 + lo ≤ i ∧ i < 231
    · rw [if_pos h3, if_pos (by omega)]
    · rw [if_neg h3, if_neg (by omega)]
def zClear (z : Zt) (k : Nat) : Zt := fun i => if 10 * k + 3 ≤ i ∧ i ≤ 10 * k + 8 then 0 else z i
def zC1 (z : Zt) (k w : Nat) (x : Int32) : Zt := upd z (10 * k + w) (z (10 * k + w) + x)
def zC2 (z : Zt) (w : Nat) (x : Int32) : Zt := upd z 201 (z 201 + (if w = 6 then x else 0))
def zC3 (z : Zt) (w : Nat) (x : Int32) : Zt := upd z 200 (z 200 + (if w = 5 then x else 0))
def zC4 (z : Zt) (w : Nat) (x : Int32) : Zt := upd z 198 (z 198 + (if w = 7 then x else 0))
def zCharge (z : Zt) (k w : Nat) (x : Int32) : Zt := zWrite (zC4 (zC3 (zC2 (zC1 z k w x) w x) w x) w x) (nI k) (nI (w - 5)) x
def zPay (z : Zt) (k : Nat) (x : Int32) : Zt := zWrite (zSpend (upd (upd z (10 * k + 9) (z (10 * k + 9) + x)) 199 (z 199 + x)) x) (nI k) 3 x
def zClr (z : Zt) (k hi : Nat) : Zt := fun i => if 10 * k + 3 ≤ i ∧ i < 10 * k + hi then 0 else z i
theorem zClr_0 (z : Zt) (k : Nat) : zClr z k 3 = z := by funext i; simp only [zClr]; rw [if_neg (by omega)]
theorem zClr_s (z : Zt) (k : Nat) {j : Nat} (h : 3 ≤ j) : upd (zClr z k j) (10 * k + j) 0 = zClr z k (j + 1) := by
  funext i; simp only [zClr, upd]
  by_cases h1 : i = 10 * k + j
  · rw [if_pos h1, if_pos (by omega)]
  · rw [if_neg h1]
    by_cases h2 : 10 * k + 3 ≤ i ∧ i < 10 * k + j
    · rw [if_pos h2, if_pos (by omega)]
    · rw [if_neg h2, if_neg (by omega)]
theorem zClr_e (z : Zt) (k : Nat) : zClr z k 9 = zClear z k := by
  funext i; simp only [zClr, zClear]
  by_cases h : 10 * k + 3 ≤ i ∧ i ≤ 10 * k + 8
  · rw [if_pos h, if_pos (by omega)]
  · rw [if_neg h, if_neg (by omega)]
/-- the reference's history: a row of 924 numbers, n states in it -/
def bSh (f : Zt) (k : Nat) : Zt := fun i => if i < k then f (231 + i) else f i
theorem bSh_0 (f : Zt) : bSh f 0 = f := by funext i; simp [bSh]
theorem bSh_s (f : Zt) (k : Nat) : upd (bSh f k) k (bSh f k (231 + k)) = bSh f (k + 1) := by
  funext i; simp only [bSh, upd]
  by_cases h : i = k
  · subst h; rw [if_pos rfl, if_neg (by omega), if_pos (by omega)]
  · rw [if_neg h]
    by_cases h2 : i < k
    · rw [if_pos h2, if_pos (by omega)]
    · rw [if_neg h2, if_neg (by omega)]
def bCp (f : Zt) (n : Nat) (src : Zt) (k : Nat) : Zt := fun i => if 231 * n ≤ i ∧ i < 231 * n + k then src (i - 231 * n) else f i
theorem bCp_0 (f : Zt) (n : Nat) (src : Zt) : bCp f n src 0 = f := by funext i; simp only [bCp]; rw [if_neg (by omega)]
theorem bCp_s (f : Zt) (n : Nat) (src : Zt) (k : Nat) : upd (bCp f n src k) (231 * n + k) (src k) = bCp f n src (k + 1) := by
  funext i; simp only [bCp, upd]
  by_cases h : i = 231 * n + k
  · subst h; rw [if_pos rfl, if_pos (by omega), Nat.add_sub_cancel_left]
  · rw [if_neg h]
    by_cases h2 : 231 * n ≤ i ∧ i < 231 * n + k
    · rw [if_pos h2, if_pos (by omega)]
    · rw [if_neg h2, if_neg (by omega)]
def recB (f : Zt) (n : Nat) (src : Zt) : Zt := if n = 4 then bCp (bSh f 693) 3 src 231 else bCp f n src 231
def recN (n : Nat) : Nat := if n = 4 then 4 else n + 1
theorem upd_upd (z : Zt) (i : Nat) (v w : Int32) : upd (upd z i v) i w = upd z i w := by
  funext j; simp only [upd]; by_cases h : j = i <;> simp [h]
/-- a copy of k places -/
def cpF (f g : Zt) (k : Nat) : Zt := fun i => if i < k then g i else f i
theorem cpF_0 (f g : Zt) : cpF f g 0 = f := by funext i; simp [cpF]
theorem cpF_s (f g : Zt) (k : Nat) : upd (cpF f g k) k (g k) = cpF f g (k + 1) := by
  funext i; simp only [cpF, upd]
  by_cases h : i = k
  · subst h; simp
  · rw [if_neg h]
    by_cases h2 : i < k
    · rw [if_pos h2, if_pos (by omega)]
    · rw [if_neg h2, if_neg (by omega)]
/-- the rest of the reference behind a record of src -/
def rRec (r : Rt) (n : Nat) (src : Zt) : Rt := (r.1, recB r.2.1 n src, r.2.2.1, r.2.2.2.1, upd r.2.2.2.2 0 (nI (recN n)))
theorem mw_put {K : KT} {o : Nat} {z z' a b t nu g : Zt} {V : VW} : mw K o (cpF z z' 231) (a, b, t, nu, g) V = mw K o z' (a, b, t, nu, g) V := mw_eq (fun i hi => by simp [cpF, hi])
theorem mw_aside {K : KT} {o : Nat} {z a a' b t nu g : Zt} {V : VW} : mw K o z (cpF a a' 231, b, t, nu, g) V = mw K o z (a', b, t, nu, g) V := by
  unfold mw mcell; simp only []
  rw [cut_eq (n := 231) (f := cpF a a' 231) (g := a') (fun i hi => by simp [cpF, hi])]
