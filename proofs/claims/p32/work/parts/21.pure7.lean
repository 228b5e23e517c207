/-! THE CLASS'S OWN STEPS, where they are told otherwise than the reference's -/
def zBegin (z : Zt) (k : Nat) (d : Int32) : Zt := upd (zClear z k) (10 * k + 8) (-d)
theorem zBegin_eq (z : Zt) (k : Nat) (d : Int32) : upd (upd (upd (upd (upd (upd z (10 * k + 3) 0) (10 * k + 4) 0) (10 * k + 5) 0) (10 * k + 6) 0) (10 * k + 7) 0) (10 * k + 8) (-d) = zBegin z k d := by
  funext i; simp only [zBegin, zClear, upd]
  by_cases h8 : i = 10 * k + 8
  · simp [h8]
  simp only [h8, if_false]
  by_cases h : 10 * k + 3 ≤ i ∧ i ≤ 10 * k + 8
  · rw [if_pos h]
    rcases (show i = 10 * k + 7 ∨ i = 10 * k + 6 ∨ i = 10 * k + 5 ∨ i = 10 * k + 4 ∨ i = 10 * k + 3 by omega) with e | e | e | e | e <;> subst e <;> simp
  · rw [if_neg h, if_neg (by omega), if_neg (by omega), if_neg (by omega), if_neg (by omega), if_neg (by omega)]
def cBal (z : Zt) (k : Nat) : Int32 := zEarn z k - -(z (10 * k + 8)) - zChg z k
def cEarnA (z : Zt) (k : Nat) (m t : Int32) : Int32 := if ¬ t = 0 then zWages (z (10 * k)) (z (10 * k + 3) + m) (z (10 * k + 4)) else zWages (z (10 * k)) (z (10 * k + 3)) (z (10 * k + 4) + m)
def cDay (z : Zt) (k : Nat) (m t : Int32) : Zt := if ¬ t = 0 then upd z (10 * k + 3) (z (10 * k + 3) + m) else upd z (10 * k + 4) (z (10 * k + 4) + m)
def cMiss (z : Zt) (x : Int32) : Int32 := if z 195 < x then x - z 195 else 0
def cTake (z : Zt) (x : Int32) : Zt := upd (upd z 196 (z 196 + cMiss z x)) 195 (z 195 + (cMiss z x - x))
def cTellS (z : Zt) (k : Nat) (q : Int32) : Int32 := if q = 0 then z (10 * k) else if q = 1 then z (10 * k + 1) else if q = 2 then z (10 * k + 2) else if q = 3 then 10000 + cBal z k else if q = 4 then 10000 + cBal z k else if q = 5 then z (10 * k + 3) else if q = 6 then z (10 * k + 4) else if q = 7 then zEarn z k else if q = 8 then z (10 * k + 5) else if q = 9 then z (10 * k + 6) else if q = 10 then z (10 * k + 7) else if q = 11 then -(z (10 * k + 8)) else if q = 12 then z (10 * k + 9) else -1000001
def cTellI (z : Zt) (j : Nat) (q : Int32) : Int32 := if q = 0 then z (160 + 5 * j) else if q = 1 then z (160 + 5 * j + 1) else if q = 2 then z (160 + 5 * j + 2) else if q = 3 then z (160 + 5 * j + 3) else if q = 4 then z (160 + 5 * j + 4) else -1000001
/-- one row of the book moves on by one, down to the place lo -/
def zAhL (z : Zt) (w lo : Nat) : Zt := fun i => if (207 ≤ i ∧ i < 231) ∧ (i - 207) % 3 = w ∧ lo ≤ (i - 207) / 3 then z (i - 3) else z i
theorem zAhL_8 (z : Zt) (w : Nat) : zAhL z w 8 = z := by
  funext i; simp only [zAhL]; rw [if_neg (by omega)]
theorem zAhL_s (z : Zt) {w lo : Nat} (hw : w < 3) (h : 1 ≤ lo) (h2 : lo < 8) : upd (zAhL z w (lo + 1)) (207 + 3 * lo + w) (zAhL z w (lo + 1) (207 + 3 * (lo - 1) + w)) = zAhL z w lo := by
  funext i; simp only [zAhL, upd]
  by_cases h1 : i = 207 + 3 * lo + w
  · rw [if_pos h1, if_neg (by omega), if_pos (by omega), h1]
    congr 1; omega
  · rw [if_neg h1]
    by_cases h3 : (207 ≤ i ∧ i < 231) ∧ (i - 207) % 3 = w ∧ lo ≤ (i - 207) / 3
    · rw [if_pos h3, if_pos (by omega)]
    · rw [if_neg h3, if_neg (by omega)]
def cPut (z : Zt) (w : Nat) (x : Int32) : Zt := upd (zAhL z w 1) (207 + w) x
def clp (x : Int32) : Int32 := if x ≤ 0 then 0 else x
def cEnter (z : Zt) (a q x : Int32) : Zt := if x ≤ 0 then z else upd (cPut (cPut (cPut z 0 a) 1 q) 2 x) 206 (z 206 + (if z 206 < 8 then 1 else 0))
theorem cEnter_eq (z : Zt) (a q x : Int32) : cEnter z a q x = zWrite z a q (clp x) := by
  unfold cEnter zWrite clp
  by_cases hx : x ≤ 0
  · rw [if_pos hx, if_pos hx, if_pos rfl]
  · have hx0 : ¬ x = 0 := fun e => hx (by rw [e]; decide)
    rw [if_neg hx, if_neg hx, if_neg hx0]
    congr 1
    funext i; simp only [cPut, zAhL, zShift, upd]
    by_cases h9 : i = 209
    · subst h9; simp
    by_cases h8 : i = 208
    · subst h8; simp
    by_cases h7 : i = 207
    · subst h7; simp
    by_cases h : 207 + 3 ≤ i ∧ i < 231
    · rcases (show (i - 207) % 3 = 0 ∨ (i - 207) % 3 = 1 ∨ (i - 207) % 3 = 2 by omega) with e | e | e <;> simp [h7, h8, h9, h, e] <;> grind
    · simp [h7, h8, h9]; grind
def cTellE (z : Zt) (g q : Int32) : Int32 := if g < 0 ∨ ¬ (0 ≤ q ∧ q ≤ 2) then -1000001 else if z 206 ≤ g then -1000004 else if g.toNatClampNeg < 8 then z (207 + 3 * g.toNatClampNeg + (if q = 0 then 0 else if q = 1 then 1 else 2)) else -1000004
