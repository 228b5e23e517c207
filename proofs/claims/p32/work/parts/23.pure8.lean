theorem lt_sub1 {a : Int32} {N : Nat} (h16 : N ≤ 16) (h0 : ¬ a < 0) (h : ¬ nI N ≤ a) : 0 ≤ a ∧ a ≤ nI N - 1 := by
  obtain ⟨j, hj, rfl⟩ := nI_of h0
  have h2 : j < N := Nat.not_le.mp (mt (nI_leI (by omega) hj).mpr h)
  refine ⟨nI_pos' hj, Int32.le_iff_toInt_le.mpr ?_⟩
  rw [nI_toInt hj, show (1 : Int32) = nI 1 from rfl, pk_sub_toInt (by omega) (by decide)]
  omega
theorem lt_6 {i : Int32} (h0 : ¬ i < 0) (h : ¬ 6 ≤ i) : 0 ≤ i ∧ i ≤ 5 := by
  obtain ⟨j, hj, rfl⟩ := nI_of h0
  have h2 : j < 6 := Nat.not_le.mp (mt (nI_leI (by decide) hj).mpr h)
  exact ⟨nI_pos' hj, (nI_leI (a := j) (b := 5) hj (by decide)).mpr (by omega)⟩
def cNoSign (z : Zt) (N : Nat) (q w : Int32) : Int32 := if ¬ (0 ≤ q ∧ q ≤ 3) ∨ ¬ (0 ≤ w ∧ w ≤ 1) then -1000001 else if ¬ z 191 = 0 then -1000002 else if 16 ≤ N then -1000003 else 0
def cDoSign (z : Zt) (N : Nat) (q w : Int32) : Zt := upd (zBegin (upd (upd (upd (upd z (10 * N + 0) q) (10 * N + 1) w) (10 * N + 2) 0) (10 * N + 9) 0) N 0) 194 (nI (N + 1))
def cNoBuy (z : Zt) (i m c : Int32) : Int32 := if ¬ (0 ≤ i ∧ i ≤ 5) ∨ ¬ (1 ≤ m ∧ m ≤ 99) ∨ ¬ (1 ≤ c ∧ c ≤ 99) then -1000001 else if ¬ z 191 = 0 then -1000002 else if 500 < z (160 + 5 * i.toNatClampNeg) + m then -1000003 else 0
def cBuy1 (z : Zt) (m c : Int32) : Zt := cTake (upd z 197 (z 197 + m * c)) (m * c)
def cDoBuy (z : Zt) (j : Nat) (m c : Int32) : Zt := upd (upd (upd (cBuy1 z m c) (160 + 5 * j + 0) (cBuy1 z m c (160 + 5 * j) + m)) (160 + 5 * j + 2) (cBuy1 z m c (160 + 5 * j + 2) + m)) (160 + 5 * j + 1) (c + c * cBuy1 z m c (203 + 1) / 100)
def cWhy (z : Zt) (k j : Nat) (m : Int32) : Int32 := if ¬ z (10 * k + 2) = 0 then 1 else if z (160 + 5 * j) < m then 2 else if cBal z k - m * z (160 + 5 * j + 1) < -(z (203 + 0)) then 3 else 0
def cNoSell (z : Zt) (a i m : Int32) : Int32 := if ¬ (0 ≤ a ∧ a ≤ z 194 - 1) ∨ ¬ (0 ≤ i ∧ i ≤ 5) ∨ ¬ (1 ≤ m ∧ m ≤ 99) then -1000001 else if ¬ cWhy z a.toNatClampNeg i.toNatClampNeg m = 0 then -1000002 else 0
def cSell1 (z : Zt) (j : Nat) (m x : Int32) : Zt := upd (upd (upd z (160 + 5 * j + 0) (z (160 + 5 * j) - m)) (160 + 5 * j + 3) (z (160 + 5 * j + 3) + m)) (160 + 5 * j + 4) (z (160 + 5 * j + 4) + x)
def cSell2 (y z : Zt) (k : Nat) (x : Int32) : Zt := upd (upd z (10 * k + 5) (y (10 * k + 5) + x)) 200 (y 200 + x)
def cDoSell (z : Zt) (k j : Nat) (m : Int32) : Zt := cEnter (cSell2 z (cSell1 z j m (m * z (160 + 5 * j + 1))) k (m * z (160 + 5 * j + 1))) (nI k) 0 (m * z (160 + 5 * j + 1))
def cWhyP (z : Zt) (a i m : Int32) : Int32 := if ¬ (0 ≤ a ∧ a ≤ z 194 - 1) ∨ ¬ (0 ≤ i ∧ i ≤ 5) ∨ ¬ (1 ≤ m ∧ m ≤ 99) then -1000001 else cWhy z a.toNatClampNeg i.toNatClampNeg m
def cNoAdv (z : Zt) (a x : Int32) : Int32 := if ¬ (0 ≤ a ∧ a ≤ z 194 - 1) ∨ ¬ (1 ≤ x ∧ x ≤ 999) then -1000001 else if ¬ z 191 = 0 ∨ z (10 * a.toNatClampNeg + 2) = 2 ∨ cBal z a.toNatClampNeg < x then -1000002 else 0
def cDoAdv (z : Zt) (k : Nat) (x : Int32) : Zt := cEnter (cTake (upd (upd z (10 * k + 7) (z (10 * k + 7) + x)) 198 (z 198 + x)) x) (nI k) 2 x
def cFine (z : Zt) (k : Nat) (x : Int32) : Zt := cEnter (upd (upd z (10 * k + 6) (z (10 * k + 6) + x)) 201 (z 201 + x)) (nI k) 1 x
def cNoFine (z : Zt) (a x : Int32) : Int32 := if ¬ (0 ≤ a ∧ a ≤ z 194 - 1) ∨ ¬ (1 ≤ x ∧ x ≤ 999) then -1000001 else if z (10 * a.toNatClampNeg + 2) = 2 ∨ cBal z a.toNatClampNeg - x < -4000 then -1000002 else 0
def cNoBack (z : Zt) (a t : Int32) : Int32 := if ¬ (0 ≤ a ∧ a ≤ z 194 - 1) ∨ ¬ (0 ≤ t ∧ t ≤ 99) then -1000001 else if ¬ z (10 * a.toNatClampNeg + 2) = 1 ∨ cBal z a.toNatClampNeg - t * z (203 + 2) < -4000 then -1000002 else 0
def cDoBack (z : Zt) (k : Nat) (t : Int32) : Zt := cFine (upd z (10 * k + 2) 0) k (t * z (203 + 2))
def cSailTo (z : Zt) : Nat → Zt
  | 0 => z
  | n + 1 => if cSailTo z n (10 * n + 2) = 1 then zBegin (upd (upd (cSailTo z n) 202 (cSailTo z n 202 + cBal (cSailTo z n) n)) (10 * n + 2) 2) n 0 else cSailTo z n
def cLeft (z : Zt) : Nat → Nat
  | 0 => 0
  | n + 1 => cLeft z n + (if cSailTo z n (10 * n + 2) = 1 then 1 else 0)
theorem cLeft_le (z : Zt) : ∀ n, cLeft z n ≤ n
  | 0 => Nat.le_refl _
  | n + 1 => by have := cLeft_le z n; simp only [cLeft]; split <;> omega
theorem zBegin_o (z : Zt) (k : Nat) (d : Int32) {i : Nat} (h : i < 10 * k + 3 ∨ 10 * k + 8 < i) : zBegin z k d i = z i := by
  simp only [zBegin, zClear, upd]; rw [if_neg (by omega), if_neg (by omega)]
theorem cSailTo_o (z : Zt) {i : Nat} (h2 : i ≠ 202) : ∀ n, (∀ k, k < n → i < 10 * k + 2 ∨ 10 * k + 8 < i) → cSailTo z n i = z i
  | 0, _ => rfl
  | n + 1, h => by
    simp only [cSailTo]
    have hn := h n (by omega)
    split
    · rw [zBegin_o _ _ _ (by omega), upd_n _ _ (by omega), upd_n _ _ h2]; exact cSailTo_o z h2 n (fun k hk => h k (by omega))
    · exact cSailTo_o z h2 n (fun k hk => h k (by omega))
def cDayTo (z : Zt) (m : Int32) : Nat → Zt
  | 0 => z
  | n + 1 => if ¬ cDayTo z m n (10 * n + 2) = 2 then cDay (cDayTo z m n) n m (cDayTo z m n 191) else cDayTo z m n
theorem cDay_o (z : Zt) (k : Nat) (m t : Int32) {i : Nat} (h : i ≠ 10 * k + 3 ∧ i ≠ 10 * k + 4) : cDay z k m t i = z i := by
  unfold cDay; split
  · exact upd_n _ _ h.1
  · exact upd_n _ _ h.2
theorem cDayTo_o (z : Zt) (m : Int32) {i : Nat} : ∀ n, (∀ k, k < n → i ≠ 10 * k + 3 ∧ i ≠ 10 * k + 4) → cDayTo z m n i = z i
  | 0, _ => rfl
  | n + 1, h => by
    simp only [cDayTo]
    split
    · rw [cDay_o _ _ _ _ (h n (by omega))]; exact cDayTo_o z m n (fun k hk => h k (by omega))
    · exact cDayTo_o z m n (fun k hk => h k (by omega))
def cNoDays (z : Zt) (m : Int32) : Int32 := if ¬ (1 ≤ m ∧ m ≤ 99) then -1000001 else if 999 < z 192 + m then -1000003 else 0
def cPay (z : Zt) (k : Nat) (x : Int32) : Zt := cEnter (cTake (upd (upd z (10 * k + 9) (z (10 * k + 9) + x)) 199 (z 199 + x)) x) (nI k) 3 x
def cNoDis (z : Zt) (a : Int32) : Int32 := if ¬ (0 ≤ a ∧ a ≤ z 194 - 1) then -1000001 else if ¬ z 191 = 0 ∨ z (10 * a.toNatClampNeg + 2) = 2 ∨ cBal z a.toNatClampNeg < 0 then -1000002 else 0
def cDoDis (z : Zt) (k : Nat) : Zt := zBegin (upd (cPay z k (cBal z k)) (10 * k + 2) 2) k 0
