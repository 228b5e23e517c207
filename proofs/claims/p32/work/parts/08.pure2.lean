theorem sail_of {z : Zt} {N : Nat} {a : Int32} (hN : z 194 = nI N) (h16 : N ≤ 16) (h : 0 ≤ a ∧ a ≤ z 194 - 1) : ∃ k, k < N ∧ a = nI k := by
  obtain ⟨j, hj, rfl⟩ := nI_of (Int32.not_lt.mpr h.1)
  have h2 := Int32.le_iff_toInt_le.mp h.2
  rw [hN, nI_toInt hj, show (1 : Int32) = nI 1 from rfl, pk_sub_toInt (by omega) (by decide)] at h2
  exact ⟨j, by omega, rfl⟩
theorem item_of {i : Int32} (h : 0 ≤ i ∧ i ≤ 5) : ∃ j, j < 6 ∧ i = nI j := by
  obtain ⟨j, hj, rfl⟩ := nI_of (Int32.not_lt.mpr h.1)
  have h2 : nI j ≤ nI 5 := h.2
  have := (nI_leI hj (by decide)).mp h2
  exact ⟨j, by omega, rfl⟩
def zNoSign (z : Zt) (q w : Int32) : Int32 := if ¬ (0 ≤ q ∧ q ≤ 3) ∨ ¬ (0 ≤ w ∧ w ≤ 1) then -1000001 else if z 191 = 1 then -1000002 else if z 194 = 16 then -1000003 else 0
def zDoSign (z : Zt) (N : Nat) (q w : Int32) : Zt := upd (upd (upd (upd (zClear (upd z 194 (nI (N + 1))) N) (10 * N + 0) q) (10 * N + 1) w) (10 * N + 2) 0) (10 * N + 9) 0
def zNoStock (z : Zt) (i m c : Int32) : Int32 := if ¬ (0 ≤ i ∧ i ≤ 5) ∨ ¬ (1 ≤ m ∧ m ≤ 99) ∨ ¬ (1 ≤ c ∧ c ≤ 99) then -1000001 else if z 191 = 1 then -1000002 else if 500 < z (160 + 5 * i.toNatClampNeg + 0) + m then -1000003 else 0
def zPrice (z : Zt) (c : Int32) : Int32 := c + c * z 204 / 100
def zDoStock (z : Zt) (j : Nat) (m c : Int32) : Zt := zSpend (upd (upd (upd (upd z (160 + 5 * j + 0) (z (160 + 5 * j + 0) + m)) (160 + 5 * j + 2) (z (160 + 5 * j + 2) + m)) (160 + 5 * j + 1) (zPrice z c)) 197 (z 197 + m * c)) (m * c)
def zWhy (z : Zt) (k j : Nat) (m : Int32) : Int32 := if ¬ z (10 * k + 2) = 0 then 1 else if z (160 + 5 * j + 0) < m then 2 else if zBal z k - m * z (160 + 5 * j + 1) < -(z 203) then 3 else 0
def zNoSell (z : Zt) (a i m : Int32) : Int32 := if ¬ (0 ≤ a ∧ a ≤ z 194 - 1) ∨ ¬ (0 ≤ i ∧ i ≤ 5) ∨ ¬ (1 ≤ m ∧ m ≤ 99) then -1000001 else if 0 < zWhy z a.toNatClampNeg i.toNatClampNeg m then -1000002 else 0
def zDoSell (z : Zt) (k j : Nat) (m : Int32) : Zt := zCharge (upd (upd (upd z (160 + 5 * j + 0) (z (160 + 5 * j + 0) - m)) (160 + 5 * j + 3) (z (160 + 5 * j + 3) + m)) (160 + 5 * j + 4) (z (160 + 5 * j + 4) + m * z (160 + 5 * j + 1))) k 5 (m * z (160 + 5 * j + 1))
def zNoAdv (z : Zt) (a x : Int32) : Int32 := if ¬ (0 ≤ a ∧ a ≤ z 194 - 1) ∨ ¬ (1 ≤ x ∧ x ≤ 999) then -1000001 else if z 191 = 1 ∨ z (10 * a.toNatClampNeg + 2) = 2 ∨ zBal z a.toNatClampNeg < x then -1000002 else 0
def zDoAdv (z : Zt) (k : Nat) (x : Int32) : Zt := zSpend (zCharge z k 7 x) x
def zNoFine (z : Zt) (a x : Int32) : Int32 := if ¬ (0 ≤ a ∧ a ≤ z 194 - 1) ∨ ¬ (1 ≤ x ∧ x ≤ 999) then -1000001 else if z (10 * a.toNatClampNeg + 2) = 2 ∨ zBal z a.toNatClampNeg - x < -4000 then -1000002 else 0
def zDoFine (z : Zt) (k : Nat) (x : Int32) : Zt := zCharge z k 6 x
def zOfW (z : Zt) (w : Int32) : Nat → Nat
  | 0 => 0
  | n + 1 => zOfW z w n + (if z (10 * n + 1) = w ∧ ¬ z (10 * n + 2) = 2 then 1 else 0)
theorem zOfW_le (z : Zt) (w : Int32) : ∀ n, zOfW z w n ≤ n
  | 0 => Nat.le_refl _
  | n + 1 => by have := zOfW_le z w n; simp only [zOfW]; split <;> omega
theorem zOfW_mono (z : Zt) (w : Int32) (a : Nat) : ∀ b, zOfW z w a ≤ zOfW z w (a + b)
  | 0 => Nat.le_refl _
  | b + 1 => Nat.le_trans (zOfW_mono z w a b) (by show _ ≤ zOfW z w (a + b + 1); simp only [zOfW]; omega)
theorem zOfW_pos {z : Zt} {w : Int32} {k N : Nat} (hk : k < N) (h : z (10 * k + 1) = w ∧ ¬ z (10 * k + 2) = 2) : 0 < zOfW z w N := by
  have h1 := zOfW_mono z w (k + 1) (N - (k + 1))
  rw [show k + 1 + (N - (k + 1)) = N by omega] at h1
  have h2 : zOfW z w (k + 1) = zOfW z w k + 1 := by simp only [zOfW]; rw [if_pos h]
  omega
def zPart (z : Zt) (N k : Nat) (w x : Int32) : Int32 := x / nI (zOfW z w N) + (if nI (zOfW z w k) < x - x / nI (zOfW z w N) * nI (zOfW z w N) then 1 else 0)
def zCan (z : Zt) (N : Nat) (w x : Int32) : Nat → Bool
  | 0 => decide (0 < zOfW z w N)
  | n + 1 => zCan z N w x n && (!decide (z (10 * n + 1) = w ∧ ¬ z (10 * n + 2) = 2) || !decide (zBal z n - zPart z N n w x < -4000))
def zFineTo (z : Zt) (N : Nat) (w x : Int32) : Nat → Zt
  | 0 => z
  | n + 1 => if zFineTo z N w x n (10 * n + 1) = w ∧ ¬ zFineTo z N w x n (10 * n + 2) = 2 then zCharge (zFineTo z N w x n) n 6 (zPart (zFineTo z N w x n) N n w x) else zFineTo z N w x n
theorem zWrite_lo (z : Zt) (a q x : Int32) {i : Nat} (h : i < 206) : zWrite z a q x i = z i := by
  unfold zWrite
  by_cases hx : x = 0
  · rw [if_pos hx]
  · rw [if_neg hx, upd_n _ _ (by omega), upd_n _ _ (by omega), upd_n _ _ (by omega), upd_n _ _ (by omega)]
    simp only [zShift]; rw [if_neg (by omega)]
theorem zCharge_lo (z : Zt) (k w : Nat) (x : Int32) {i : Nat} (h : i < 206) (h1 : i ≠ 10 * k + w) (h2 : i ≠ 201) (h3 : i ≠ 200) (h4 : i ≠ 198) : zCharge z k w x i = z i := by
  unfold zCharge
  rw [zWrite_lo _ _ _ _ h]
  simp only [zC4, zC3, zC2, zC1]
  rw [upd_n _ _ h4, upd_n _ _ h3, upd_n _ _ h2, upd_n _ _ h1]
theorem zFineTo_lo (z : Zt) (N : Nat) (w x : Int32) {i : Nat} (h : i < 206) (h2 : i ≠ 201) (h3 : i ≠ 200) (h4 : i ≠ 198) : ∀ n, (∀ k, k < n → i ≠ 10 * k + 6) → zFineTo z N w x n i = z i
  | 0, _ => rfl
  | n + 1, h1 => by
    simp only [zFineTo]
    split
    · rw [zCharge_lo _ _ _ _ h (h1 n (by omega)) h2 h3 h4]; exact zFineTo_lo z N w x h h2 h3 h4 n (fun k hk => h1 k (by omega))
    · exact zFineTo_lo z N w x h h2 h3 h4 n (fun k hk => h1 k (by omega))
def zNoFW (z : Zt) (N : Nat) (w x : Int32) : Int32 := if ¬ (0 ≤ w ∧ w ≤ 1) ∨ ¬ (1 ≤ x ∧ x ≤ 999) then -1000001 else if zCan z N w x N = true then 0 else -1000002
def zSet (z : Zt) (q : Int32) : Nat → Int32
  | 0 => 0
  | n + 1 => zSet z q n ||| (if z (10 * n + 2) = q then 1 <<< (nI n &&& 31) else 0)
def zAbo (z : Zt) (w : Int32) : Nat → Nat
  | 0 => 0
  | n + 1 => zAbo z w n + (if z (10 * n + 1) = w ∧ z (10 * n + 2) = 0 then 1 else 0)
theorem zAbo_le (z : Zt) (w : Int32) : ∀ n, zAbo z w n ≤ n
  | 0 => Nat.le_refl _
  | n + 1 => by have := zAbo_le z w n; simp only [zAbo]; split <;> omega
def zNoLeave (z : Zt) (N : Nat) (w : Int32) : Int32 := if ¬ (0 ≤ w ∧ w ≤ 1) then -1000001 else if z 191 = 1 ∨ ¬ zSet z 1 N = 0 ∨ zAbo z w N = 0 then -1000002 else 0
def zLeaveTo (z : Zt) (w : Int32) : Nat → Zt
  | 0 => z
  | n + 1 => if zLeaveTo z w n (10 * n + 1) = w ∧ zLeaveTo z w n (10 * n + 2) = 0 then upd (zLeaveTo z w n) (10 * n + 2) 1 else zLeaveTo z w n
theorem zLeaveTo_o (z : Zt) (w : Int32) {i : Nat} : ∀ n, (∀ k, k < n → i ≠ 10 * k + 2) → zLeaveTo z w n i = z i
  | 0, _ => rfl
  | n + 1, h => by
    simp only [zLeaveTo]
    split
    · rw [upd_n _ _ (h n (by omega))]; exact zLeaveTo_o z w n (fun k hk => h k (by omega))
    · exact zLeaveTo_o z w n (fun k hk => h k (by omega))
def zNoBack (z : Zt) (a t : Int32) : Int32 := if ¬ (0 ≤ a ∧ a ≤ z 194 - 1) ∨ ¬ (0 ≤ t ∧ t ≤ 99) then -1000001 else if ¬ z (10 * a.toNatClampNeg + 2) = 1 ∨ zBal z a.toNatClampNeg - t * z 205 < -4000 then -1000002 else 0
def zDoBack (z : Zt) (k : Nat) (t : Int32) : Zt := zCharge (upd z (10 * k + 2) 0) k 6 (t * z 205)
def zSailTo (z : Zt) : Nat → Zt
  | 0 => z
  | n + 1 => if zSailTo z n (10 * n + 2) = 1 then zClear (upd (upd (zSailTo z n) 202 (zSailTo z n 202 + zBal (zSailTo z n) n)) (10 * n + 2) 2) n else zSailTo z n
def zLeft (z : Zt) : Nat → Nat
  | 0 => 0
  | n + 1 => zLeft z n + (if zSailTo z n (10 * n + 2) = 1 then 1 else 0)
theorem zLeft_le (z : Zt) : ∀ n, zLeft z n ≤ n
  | 0 => Nat.le_refl _
  | n + 1 => by have := zLeft_le z n; simp only [zLeft]; split <;> omega
theorem zSailTo_o (z : Zt) {i : Nat} (h2 : i ≠ 202) : ∀ n, (∀ k, k < n → i < 10 * k + 2 ∨ 10 * k + 8 < i) → zSailTo z n i = z i
  | 0, _ => rfl
  | n + 1, h => by
    simp only [zSailTo]
    have hn := h n (by omega)
    split
    · simp only [zClear]; rw [if_neg (by omega), upd_n _ _ (by omega), upd_n _ _ h2]; exact zSailTo_o z h2 n (fun k hk => h k (by omega))
    · exact zSailTo_o z h2 n (fun k hk => h k (by omega))
def zNoSail (z : Zt) : Int32 := if z 191 = 1 then -1000002 else 0
def zDoSail (z : Zt) (N : Nat) : Zt := upd (zSailTo z N) 191 1
def zNoPort (z : Zt) : Int32 := if z 191 = 1 then 0 else -1000002
def zDoPort (z : Zt) : Zt := upd (upd z 191 0) 193 (z 193 + 1)
def zNoDays (z : Zt) (m : Int32) : Int32 := if ¬ (1 ≤ m ∧ m ≤ 99) then -1000001 else if 999 < z 192 + m then -1000003 else 0
def zDayTo (z : Zt) (m : Int32) : Nat → Zt
  | 0 => upd z 192 (z 192 + m)
  | n + 1 => if ¬ zDayTo z m n (10 * n + 2) = 2 then (if zDayTo z m n 191 = 1 then upd (zDayTo z m n) (10 * n + 3) (zDayTo z m n (10 * n + 3) + m) else upd (zDayTo z m n) (10 * n + 4) (zDayTo z m n (10 * n + 4) + m)) else zDayTo z m n
theorem zDayTo_o (z : Zt) (m : Int32) {i : Nat} (h2 : i ≠ 192) : ∀ n, (∀ k, k < n → i ≠ 10 * k + 3 ∧ i ≠ 10 * k + 4) → zDayTo z m n i = z i
  | 0, _ => upd_n _ _ h2
  | n + 1, h => by
    have hn := h n (by omega)
    have ih := zDayTo_o z m h2 n (fun k hk => h k (by omega))
    simp only [zDayTo]
    split
    · split
      · rw [upd_n _ _ hn.1]; exact ih
      · rw [upd_n _ _ hn.2]; exact ih
    · exact ih
theorem zDayTo_192 (z : Zt) (m : Int32) : ∀ n, n ≤ 16 → zDayTo z m n 192 = z 192 + m
  | 0, _ => upd_s _ _ _
  | n + 1, h => by
    have ih := zDayTo_192 z m n (by omega)
    simp only [zDayTo]
    split
    · split
      · rw [upd_n _ _ (by omega)]; exact ih
      · rw [upd_n _ _ (by omega)]; exact ih
    · exact ih
def zNoDis (z : Zt) (a : Int32) : Int32 := if ¬ (0 ≤ a ∧ a ≤ z 194 - 1) then -1000001 else if z 191 = 1 ∨ z (10 * a.toNatClampNeg + 2) = 2 ∨ zBal z a.toNatClampNeg < 0 then -1000002 else 0
def zDoDis (z : Zt) (k : Nat) : Zt := zClear (upd (zPay z k (zBal z k)) (10 * k + 2) 2) k
def zNoPO (z : Zt) : Int32 := if z 191 = 1 ∨ z 192 = 0 then -1000002 else 0
/-- one sailor is paid off -/
def zPO1 (z : Zt) (n : Nat) : Zt := if 0 < zBal z n then zPay z n (zBal z n) else z
def zPOTo (z : Zt) : Nat → Zt
  | 0 => z
  | n + 1 => if ¬ zPOTo z n (10 * n + 2) = 2 then upd (zClear (zPO1 (zPOTo z n) n) n) (10 * n + 8) (if zBal (zPOTo z n) n < 0 then zBal (zPOTo z n) n else 0) else zPOTo z n
def zPOSum (z : Zt) : Nat → Int32
  | 0 => 0
  | n + 1 => if ¬ zPOTo z n (10 * n + 2) = 2 then (if 0 < zBal (zPOTo z n) n then zPOSum z n + zBal (zPOTo z n) n else zPOSum z n) else zPOSum z n
def zDoPO (z : Zt) (N : Nat) : Zt := upd (upd (zPOTo z N) 190 (zPOTo z N 190 + 1)) 192 0
theorem zPay_o (z : Zt) (k : Nat) (x : Int32) {i : Nat} (h : i < 206) (h1 : i ≠ 10 * k + 9) (h2 : i ≠ 199) (h3 : i ≠ 195) (h4 : i ≠ 196) : zPay z k x i = z i := by
  unfold zPay
  rw [zWrite_lo _ _ _ _ h]
  simp only [zSpend]
  rw [upd_n _ _ h3, upd_n _ _ h4, upd_n _ _ h2, upd_n _ _ h1]
theorem zPOTo_o (z : Zt) {i : Nat} (h : i < 206) (h2 : i ≠ 199) (h3 : i ≠ 195) (h4 : i ≠ 196) : ∀ n, (∀ k, k < n → i < 10 * k + 3 ∨ 10 * k + 9 < i) → zPOTo z n i = z i
  | 0, _ => rfl
  | n + 1, hk => by
    have hn := hk n (by omega)
    have ih := zPOTo_o z h h2 h3 h4 n (fun k hk' => hk k (by omega))
    simp only [zPOTo]
    split
    · rw [upd_n _ _ (by omega)]
      simp only [zClear]; rw [if_neg (by omega)]
      unfold zPO1
      split
      · rw [zPay_o _ _ _ h (by omega) h2 h3 h4]; exact ih
      · exact ih
    · exact ih
def zNoSet (q v : Int32) : Int32 := if ¬ (0 ≤ q ∧ q ≤ 2) ∨ ¬ (0 ≤ v ∧ v ≤ (if q = 0 then 500 else if q = 1 then 200 else 50)) then -1000001 else 0
