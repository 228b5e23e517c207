/-! THE BOOKS AS NUMBERS: what each call answers and leaves, said of z alone -/
def zWages (r a b : Int32) : Int32 := if r = 0 then (a + b) / 2 else if r = 1 then 2 * a + b else if r = 2 then 2 * (a + b) + (a + b) / 7 else 4 * a + 2 * b
def zEarn (z : Zt) (k : Nat) : Int32 := zWages (z (10 * k)) (z (10 * k + 3)) (z (10 * k + 4))
def zChg (z : Zt) (k : Nat) : Int32 := z (10 * k + 5) + z (10 * k + 6) + z (10 * k + 7)
def zBal (z : Zt) (k : Nat) : Int32 := if z (10 * k + 2) = 2 then 0 else zEarn z k + z (10 * k + 8) - zChg z k
def zSpend (z : Zt) (x : Int32) : Zt := upd (upd z 196 (z 196 + (if z 195 < x then x - z 195 else 0))) 195 (if z 195 < x then 0 else z 195 - x)
/-- the book's rows move on by one, down to the place lo -/
def zShift (z : Zt) (lo : Nat) : Zt := fun i => if 207 + lo ≤ i ∧ i < 231 then z (i - 3) else z i
def zWrite (z : Zt) (a kind x : Int32) : Zt := if x = 0 then z else upd (upd (upd (upd (zShift z 3) 207 a) 208 kind) 209 x) 206 (z 206 + (if z 206 < 8 then 1 else 0))
theorem zShift_top (z : Zt) : zShift z 24 = z := by
  funext i; unfold zShift; rw [if_neg (by omega)]
theorem zShift_step (z : Zt) {lo : Nat} (h : 3 ≤ lo) (h2 : lo < 24) : upd (zShift z (lo + 1)) (207 + lo) (zShift z (lo + 1) (207 + lo - 3)) = zShift z lo := by
  funext i; simp only [zShift, upd]
  by_cases h1 : i = 207 + lo
  · subst h1; rw [if_pos rfl, if_neg (by omega), if_pos (by omega)]
  · rw [if_neg h1]
    by_cases h3 : 207 + lo ≤ i ∧ i < 231
    · rw [if_pos h3, if_pos (by omega)]
    · rw [if_neg h3, if_neg (by omega)]
def zClear (z : Zt) (k : Nat) : Zt := fun i => if 10 * k + 3 ≤ i ∧ i ≤ 10 * k + 8 then 0 else z i
