def cNoLeave (z : Zt) (N : Nat) (w : Int32) : Int32 := if ¬ (0 ≤ w ∧ w ≤ 1) then -1000001 else if ¬ z 191 = 0 ∨ ¬ zSet z 1 N = 0 then -1000002 else 0
def cLeaveTo (z : Zt) (w : Int32) : Nat → Zt
  | 0 => z
  | n + 1 => if cLeaveTo z w n (10 * n + 1) = w ∧ ¬ cLeaveTo z w n (10 * n + 2) = 2 then upd (cLeaveTo z w n) (10 * n + 2) 1 else cLeaveTo z w n
theorem cLeaveTo_o (z : Zt) (w : Int32) {i : Nat} : ∀ n, (∀ k, k < n → i ≠ 10 * k + 2) → cLeaveTo z w n i = z i
  | 0, _ => rfl
  | n + 1, h => by
    simp only [cLeaveTo]
    split
    · rw [upd_n _ _ (h n (by omega))]; exact cLeaveTo_o z w n (fun k hk => h k (by omega))
    · exact cLeaveTo_o z w n (fun k hk => h k (by omega))
def cLeaveN (z : Zt) (w : Int32) : Nat → Nat
  | 0 => 0
  | n + 1 => cLeaveN z w n + (if cLeaveTo z w n (10 * n + 1) = w ∧ ¬ cLeaveTo z w n (10 * n + 2) = 2 then 1 else 0)
theorem cLeaveN_le (z : Zt) (w : Int32) : ∀ n, cLeaveN z w n ≤ n
  | 0 => Nat.le_refl _
  | n + 1 => by have := cLeaveN_le z w n; simp only [cLeaveN]; split <;> omega
def cPO1 (z : Zt) (n : Nat) : Zt := if 0 < cBal z n then cPay z n (cBal z n) else z
def cPOTo (z : Zt) : Nat → Zt
  | 0 => z
  | n + 1 => zBegin (cPO1 (cPOTo z n) n) n (if cBal (cPOTo z n) n < 0 then -(cBal (cPOTo z n) n) else 0)
def cPOSum (z : Zt) : Nat → Int32
  | 0 => 0
  | n + 1 => if 0 < cBal (cPOTo z n) n then cPOSum z n + cBal (cPOTo z n) n else cPOSum z n
theorem cEnter_lo (z : Zt) (a q x : Int32) {i : Nat} (h : i < 206) : cEnter z a q x i = z i := by rw [cEnter_eq]; exact zWrite_lo _ _ _ _ h
theorem cTake_o (z : Zt) (x : Int32) {i : Nat} (h1 : i ≠ 195) (h2 : i ≠ 196) : cTake z x i = z i := by
  simp only [cTake]; rw [upd_n _ _ h1, upd_n _ _ h2]
theorem cPay_o (z : Zt) (k : Nat) (x : Int32) {i : Nat} (h : i < 206) (h1 : i ≠ 10 * k + 9) (h2 : i ≠ 199) (h3 : i ≠ 195) (h4 : i ≠ 196) : cPay z k x i = z i := by
  unfold cPay
  rw [cEnter_lo _ _ _ _ h, cTake_o _ _ h3 h4, upd_n _ _ h2, upd_n _ _ h1]
theorem cPOTo_o (z : Zt) {i : Nat} (h : i < 206) (h2 : i ≠ 199) (h3 : i ≠ 195) (h4 : i ≠ 196) : ∀ n, (∀ k, k < n → i < 10 * k + 3 ∨ 10 * k + 9 < i) → cPOTo z n i = z i
  | 0, _ => rfl
  | n + 1, hk => by
    have hn := hk n (by omega)
    have ih := cPOTo_o z h h2 h3 h4 n (fun k hk' => hk k (by omega))
    simp only [cPOTo]
    rw [zBegin_o _ _ _ (by omega)]
    unfold cPO1
    split
    · rw [cPay_o _ _ _ h (by omega) h2 h3 h4]; exact ih
    · exact ih
def cDoPO (z : Zt) (N : Nat) : Zt := upd (upd (cPOTo z N) 190 (cPOTo z N 190 + 1)) 192 0
def cNoPO (z : Zt) : Int32 := if ¬ z 191 = 0 ∨ z 192 = 0 then -1000002 else 0
def cNoSail (z : Zt) : Int32 := if ¬ z 191 = 0 then -1000002 else 0
def cNoPort (z : Zt) : Int32 := if z 191 = 0 then -1000002 else 0
theorem cFine_o (z : Zt) (k : Nat) (x : Int32) {i : Nat} (h : i < 206) (h1 : i ≠ 10 * k + 6) (h2 : i ≠ 201) : cFine z k x i = z i := by
  unfold cFine; rw [cEnter_lo _ _ _ _ h, upd_n _ _ h2, upd_n _ _ h1]
/-- fines of a watch: the part of each, lo how many one coin more are left when the sailors before n have had theirs -/
def cLo (z : Zt) (w lo : Int32) : Nat → Int32
  | 0 => lo
  | n + 1 => if z (10 * n + 1) = w ∧ ¬ z (10 * n + 2) = 2 then cLo z w lo n - 1 else cLo z w lo n
def cPart (z : Zt) (w p lo : Int32) (n : Nat) : Int32 := if 0 < cLo z w lo n then p + 1 else p
def cCan (z : Zt) (w p lo : Int32) : Nat → Nat → Bool
  | 0, _ => true
  | f + 1, k => if (z (10 * k + 1) = w ∧ ¬ z (10 * k + 2) = 2) ∧ cBal z k - cPart z w p lo k < -4000 then false else cCan z w p lo f (k + 1)
def cFineTo (z : Zt) (w p lo : Int32) : Nat → Zt
  | 0 => z
  | n + 1 => if cFineTo z w p lo n (10 * n + 1) = w ∧ ¬ cFineTo z w p lo n (10 * n + 2) = 2 then cFine (cFineTo z w p lo n) n (if 0 < cLo z w lo n then p + 1 else p) else cFineTo z w p lo n
theorem cFineTo_o (z : Zt) (w p lo : Int32) {i : Nat} (h : i < 206) (h2 : i ≠ 201) : ∀ n, (∀ k, k < n → i ≠ 10 * k + 6) → cFineTo z w p lo n i = z i
  | 0, _ => rfl
  | n + 1, h1 => by
    simp only [cFineTo]
    split
    · rw [cFine_o _ _ _ h (h1 n (by omega)) h2]; exact cFineTo_o z w p lo h h2 n (fun k hk => h1 k (by omega))
    · exact cFineTo_o z w p lo h h2 n (fun k hk => h1 k (by omega))
def cPaid (z : Zt) : Nat → Int32
  | 0 => 0
  | n + 1 => cPaid z n + (if 0 < cBal z n then cBal z n else 0)
def cDebt (z : Zt) : Nat → Int32
  | 0 => 0
  | n + 1 => cDebt z n + (if 0 < -(cBal z n) then -(cBal z n) else 0)
def cDSet (z : Zt) : Nat → Int32
  | 0 => 0
  | n + 1 => cDSet z n ||| (if cBal z n < 0 then 1 <<< (nI n &&& 31) else 0)
def cIfPO (z : Zt) (N : Nat) (q : Int32) : Int32 := if q = 0 then cPaid z N else if q = 1 then cMiss z (cPaid z N) else if q = 2 then cDebt z N else if q = 3 then cDSet z N else -1000001
def cAhead (z : Zt) (k : Nat) (x : Int32) : Nat → Nat
  | 0 => 0
  | n + 1 => cAhead z k x n + (if ¬ z (10 * n + 2) = 2 ∧ (cBal z n < x ∨ cBal z n = x ∧ n < k) then 1 else 0)
theorem cAhead_le (z : Zt) (k : Nat) (x : Int32) : ∀ n, cAhead z k x n ≤ n
  | 0 => Nat.le_refl _
  | n + 1 => by have := cAhead_le z k x n; simp only [cAhead]; split <;> omega
def cFind (z : Zt) (N : Nat) (p : Int32) : Nat → Nat → Int32
  | 0, _ => -1000004
  | f + 1, k => if ¬ z (10 * k + 2) = 2 ∧ nI (cAhead z k (cBal z k) N) = p then nI k else cFind z N p f (k + 1)
def cPoorest (z : Zt) (N : Nat) (p : Int32) : Int32 := if p < 0 then -1000001 else cFind z N p N 0
def cClrF (z : Zt) (k : Nat) : Nat → Nat → Int32
  | 0, _ => -1000004
  | f + 1, d => if cEarnA z k (nI d) (z 191) < -(z (10 * k + 8)) + zChg z k then cClrF z k f (d + 1) else nI d
def cClearIn (z : Zt) (a : Int32) : Int32 := if ¬ (0 ≤ a ∧ a ≤ z 194 - 1) then -1000001 else if z (10 * a.toNatClampNeg + 2) = 2 then -1000002 else cClrF z a.toNatClampNeg 401 0
def cCoins (z : Zt) (q : Int32) : Int32 := if q = 8 then z 195 else if q = 9 then z 196 else if q = 10 then z 197 else if q = 11 then z 198 else if q = 12 then z 199 else if q = 13 then z 200 else if q = 14 then z 201 else if q = 15 then 100000 + z 202 else -1000001
def cTell (z : Zt) (N : Nat) (q : Int32) : Int32 := if q = 0 then z 190 else if q = 1 then (if ¬ z 191 = 0 then 1 else 0) else if q = 2 then z 192 else if q = 3 then z 193 else if q = 4 then z 194 else if q = 5 then zSet z 0 N else if q = 6 then zSet z 1 N else if q = 7 then zSet z 2 N else if q = 16 then z 206 else if q = 20 then z (203 + 0) else if q = 21 then z (203 + 1) else if q = 22 then z (203 + 2) else cCoins z q
def mn (x y : Int32) : Int32 := if y < x then y else x
def cMost1 (z : Zt) (k j : Nat) : Int32 := if ¬ z (10 * k + 2) = 0 ∨ z (160 + 5 * j + 1) ≤ 0 ∨ cBal z k + z (203 + 0) < 0 then 0 else mn (mn ((cBal z k + z (203 + 0)) / z (160 + 5 * j + 1)) (z (160 + 5 * j))) 99
def cMost (z : Zt) (a i : Int32) : Int32 := if ¬ (0 ≤ a ∧ a ≤ z 194 - 1) ∨ ¬ (0 ≤ i ∧ i ≤ 5) then -1000001 else cMost1 z a.toNatClampNeg i.toNatClampNeg
