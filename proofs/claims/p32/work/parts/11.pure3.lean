theorem sw_ne {x k : Int32} {n : Int} (h : ¬ x = k) (e : n = k.toInt) : x.toInt ≠ n := fun g => h (Int32.toInt_inj.mp (g.trans e))
theorem in_of {q : Int32} {n : Nat} (hn : n < 2 ^ 31) (h : 0 ≤ q ∧ q ≤ nI n) : ∃ w, w ≤ n ∧ q = nI w := by
  obtain ⟨j, hj, rfl⟩ := nI_of (Int32.not_lt.mpr h.1)
  exact ⟨j, (nI_leI hj hn).mp h.2, rfl⟩
theorem in_of2 {q : Int32} {a n : Nat} (hn : n < 2 ^ 31) (ha : a < 2 ^ 31) (h : nI a ≤ q ∧ q ≤ nI n) : ∃ w, a ≤ w ∧ w ≤ n ∧ q = nI w := by
  have h0 : (0 : Int32) ≤ q := Int32.le_trans (nI_pos' ha) h.1
  obtain ⟨j, hj, rfl⟩ := nI_of (Int32.not_lt.mpr h0)
  exact ⟨j, (nI_leI ha hj).mp h.1, (nI_leI hj hn).mp h.2, rfl⟩
def zDoSet (z : Zt) (q v : Int32) : Zt := upd z (203 + q.toNatClampNeg) v
def zTellS (z : Zt) (k : Nat) (q : Int32) : Int32 := if q = 0 then z (10 * k + 0) else if q = 1 then z (10 * k + 1) else if q = 2 then z (10 * k + 2) else if q = 3 then 10000 + zBal z k else if q = 4 then 10000 + zBal z k else if q = 5 then z (10 * k + 3) else if q = 6 then z (10 * k + 4) else if q = 7 then zEarn z k else if q = 8 then z (10 * k + 5) else if q = 9 then z (10 * k + 6) else if q = 10 then z (10 * k + 7) else if q = 11 then -(z (10 * k + 8)) else if q = 12 then z (10 * k + 9) else -1000001
def zSailor (z : Zt) (a q : Int32) : Int32 := if ¬ (0 ≤ a ∧ a ≤ z 194 - 1) then -1000001 else zTellS z a.toNatClampNeg q
def zItem (z : Zt) (i q : Int32) : Int32 := if (0 ≤ i ∧ i ≤ 5) ∧ (0 ≤ q ∧ q ≤ 4) then z (160 + 5 * i.toNatClampNeg + q.toNatClampNeg) else -1000001
def zBook (z : Zt) (g q : Int32) : Int32 := if g < 0 ∨ ¬ (0 ≤ q ∧ q ≤ 2) then -1000001 else if g < z 206 then z (207 + 3 * g.toNatClampNeg + q.toNatClampNeg) else -1000004
def zWhyP (z : Zt) (a i m : Int32) : Int32 := if (0 ≤ a ∧ a ≤ z 194 - 1) ∧ (0 ≤ i ∧ i ≤ 5) ∧ (1 ≤ m ∧ m ≤ 99) then zWhy z a.toNatClampNeg i.toNatClampNeg m else -1000001
def zMostF (z : Zt) (k j : Nat) : Nat → Nat → Nat
  | 0, m => m
  | f + 1, m => if m < 99 ∧ zWhy z k j (nI (m + 1)) = 0 then zMostF z k j f (m + 1) else m
def zMost (z : Zt) (a i : Int32) : Int32 := if ¬ (0 ≤ a ∧ a ≤ z 194 - 1) ∨ ¬ (0 ≤ i ∧ i ≤ 5) then -1000001 else nI (zMostF z a.toNatClampNeg i.toNatClampNeg 99 0)
def zClrV (z : Zt) (k d : Nat) : Int32 := zWages (z (10 * k + 0)) (z (10 * k + 3) + (if z 191 = 1 then nI d else 0)) (z (10 * k + 4) + (if z 191 = 1 then 0 else nI d))
def zClrF (z : Zt) (k : Nat) : Nat → Nat → Int32
  | 0, _ => -1000004
  | f + 1, d => if zClrV z k d < zChg z k - z (10 * k + 8) then zClrF z k f (d + 1) else nI d
def zClearIn (z : Zt) (a : Int32) : Int32 := if ¬ (0 ≤ a ∧ a ≤ z 194 - 1) then -1000001 else if z (10 * a.toNatClampNeg + 2) = 2 then -1000002 else zClrF z a.toNatClampNeg 401 0
def zPaid (z : Zt) : Nat → Int32
  | 0 => 0
  | n + 1 => zPaid z n + (if 0 < zBal z n then zBal z n else 0)
def zDebt (z : Zt) : Nat → Int32
  | 0 => 0
  | n + 1 => zDebt z n - (if zBal z n < 0 then zBal z n else 0)
def zDSet (z : Zt) : Nat → Int32
  | 0 => 0
  | n + 1 => zDSet z n ||| (if zBal z n < 0 then 1 <<< (nI n &&& 31) else 0)
def zIfPO (z : Zt) (N : Nat) (q : Int32) : Int32 := if q = 0 then zPaid z N else if q = 1 then (if z 195 < zPaid z N then zPaid z N - z 195 else 0) else if q = 2 then zDebt z N else if q = 3 then zDSet z N else -1000001
def zPoorer (z : Zt) (o k : Nat) : Prop := zBal z o < zBal z k ∨ zBal z o = zBal z k ∧ o < k
def zAhead (z : Zt) (k : Nat) : Nat → Nat
  | 0 => 0
  | n + 1 => zAhead z k n + (if ¬ z (10 * n + 2) = 2 ∧ (zBal z n < zBal z k ∨ zBal z n = zBal z k ∧ n < k) then 1 else 0)
theorem zAhead_le (z : Zt) (k : Nat) : ∀ n, zAhead z k n ≤ n
  | 0 => Nat.le_refl _
  | n + 1 => by have := zAhead_le z k n; simp only [zAhead]; split <;> omega
def zFound (z : Zt) (N : Nat) (p : Int32) : Nat → Int32
  | 0 => -1000004
  | n + 1 => if ¬ z (10 * n + 2) = 2 ∧ nI (zAhead z n N) = p then nI n else zFound z N p n
def zPoorest (z : Zt) (N : Nat) (p : Int32) : Int32 := if p < 0 then -1000001 else zFound z N p N
def zCount (z : Zt) (N : Nat) (g : Zt) (q : Int32) : Int32 := if 8 ≤ q ∧ q ≤ 14 then z (195 + q.toNatClampNeg - 8) else if 20 ≤ q ∧ q ≤ 22 then z (203 + q.toNatClampNeg - 20) else if q = 0 then z 190 else if q = 1 then z 191 else if q = 2 then z 192 else if q = 3 then z 193 else if q = 4 then z 194 else if q = 5 then zSet z 0 N else if q = 6 then zSet z 1 N else if q = 7 then zSet z 2 N else if q = 15 then 100000 + z 202 else if q = 16 then z 206 else if q = 17 then g 0 else if q = 18 then g 1 else -1000001
