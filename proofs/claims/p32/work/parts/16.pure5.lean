/-! THE ORDERS: q the letter, f the numbers -/
def zNN (z : Zt) : Nat := (z 194).toNatClampNeg
theorem zNN_of {z : Zt} {N : Nat} (hN : z 194 = nI N) (h : N ≤ 16) : zNN z = N := by unfold zNN; rw [hN]; exact nI_clamp (by omega)
def zNoOrd (z : Zt) (q : Int32) (f : Zt) : Int32 := if q = 104 then zNoSign z (f 0) (f 1) else if q = 98 then zNoStock z (f 0) (f 1) (f 2) else if q = 118 then zNoSell z (f 0) (f 1) (f 2) else if q = 97 then zNoAdv z (f 0) (f 1) else if q = 102 then zNoFine z (f 0) (f 1) else if q = 100 then zNoDays z (f 0) else if q = 108 then zNoLeave z (zNN z) (f 0) else if q = 114 then zNoBack z (f 0) (f 1) else if q = 111 then zNoSail z else if q = 112 then zNoPort z else zNoPO z
def zDoOrd (z : Zt) (q : Int32) (f : Zt) : Zt := if q = 104 then zDoSign z (zNN z) (f 0) (f 1) else if q = 98 then zDoStock z (f 0).toNatClampNeg (f 1) (f 2) else if q = 118 then zDoSell z (f 0).toNatClampNeg (f 1).toNatClampNeg (f 2) else if q = 97 then zDoAdv z (f 0).toNatClampNeg (f 1) else if q = 102 then zDoFine z (f 0).toNatClampNeg (f 1) else if q = 100 then zDayTo z (f 0) (zNN z) else if q = 108 then zLeaveTo z (f 0) (zNN z) else if q = 114 then zDoBack z (f 0).toNatClampNeg (f 1) else if q = 111 then zDoSail z (zNN z) else if q = 112 then zDoPort z else zDoPO z (zNN z)
def zOrdR (z : Zt) (q : Int32) (f : Zt) : Int32 := if q = 104 then nI (zNN z) else if q = 98 then zPrice z (f 2) else if q = 118 then f 2 * z (160 + 5 * (f 1).toNatClampNeg + 1) else if q = 97 then zDoAdv z (f 0).toNatClampNeg (f 1) 195 else if q = 102 then 5000 + zBal (zDoFine z (f 0).toNatClampNeg (f 1)) (f 0).toNatClampNeg else if q = 100 then z 192 + f 0 else if q = 108 then nI (zAbo z (f 0) (zNN z)) else if q = 114 then f 1 * z 205 else if q = 111 then nI (zLeft z (zNN z)) else if q = 112 then z 193 + 1 else zPOSum z (zNN z)
theorem zSpend_o (z : Zt) (x : Int32) {i : Nat} (h1 : i ≠ 195) (h2 : i ≠ 196) : zSpend z x i = z i := by
  simp only [zSpend]; rw [upd_n _ _ h1, upd_n _ _ h2]
/-- how many there are behind an order -/
theorem zDoOrd_194 {z : Zt} {q : Int32} {f : Zt} {N : Nat} (hN : z 194 = nI N) (h16 : N ≤ 16) (hok : 0 ≤ zNoOrd z q f) : ∃ M, M ≤ 16 ∧ zDoOrd z q f 194 = nI M := by
  have hNN := zNN_of hN h16
  unfold zDoOrd zNoOrd at *
  rw [hNN] at *
  by_cases h1 : q = 104
  · rw [if_pos h1] at *
    have hl := zNoSign_ok hN h16 hok
    refine ⟨N + 1, hl, ?_⟩
    simp only [zDoSign]
    rw [upd_n _ _ (by omega), upd_n _ _ (by omega), upd_n _ _ (by omega), upd_n _ _ (by omega)]
    simp only [zClear]; rw [if_neg (by omega), upd_s]
  rw [if_neg h1] at *
  refine ⟨N, h16, ?_⟩
  by_cases h2 : q = 98
  · rw [if_pos h2] at *
    obtain ⟨j, hj, e⟩ := item_of (zNoStock_ok hok)
    rw [e, nI_clamp (by omega)]
    simp only [zDoStock]; rw [zSpend_o _ _ (by omega) (by omega), upd_n _ _ (by omega), upd_n _ _ (by omega), upd_n _ _ (by omega), upd_n _ _ (by omega), hN]
  rw [if_neg h2] at *
  by_cases h3 : q = 118
  · rw [if_pos h3] at *
    obtain ⟨g1, g2⟩ := zNoSell_ok hok
    obtain ⟨k, hk, e⟩ := sail_of hN h16 g1
    obtain ⟨j, hj, e2⟩ := item_of g2
    rw [e, e2, nI_clamp (by omega), nI_clamp (by omega)]
    simp only [zDoSell]; rw [zCharge_lo _ _ _ _ (by omega) (by omega) (by omega) (by omega) (by omega), upd_n _ _ (by omega), upd_n _ _ (by omega), upd_n _ _ (by omega), hN]
  rw [if_neg h3] at *
  by_cases h4 : q = 97
  · rw [if_pos h4] at *
    obtain ⟨k, hk, e⟩ := sail_of hN h16 (zNoAdv_ok hok)
    rw [e, nI_clamp (by omega)]
    simp only [zDoAdv]; rw [zSpend_o _ _ (by omega) (by omega), zCharge_lo _ _ _ _ (by omega) (by omega) (by omega) (by omega) (by omega), hN]
  rw [if_neg h4] at *
  by_cases h5 : q = 102
  · rw [if_pos h5] at *
    obtain ⟨k, hk, e⟩ := sail_of hN h16 (zNoFine_ok hok)
    rw [e, nI_clamp (by omega)]
    simp only [zDoFine]; rw [zCharge_lo _ _ _ _ (by omega) (by omega) (by omega) (by omega) (by omega), hN]
  rw [if_neg h5] at *
  by_cases h6 : q = 100
  · rw [if_pos h6] at *
    exact (zDayTo_o z _ (by omega) N (fun k hk => by omega)).trans hN
  rw [if_neg h6] at *
  by_cases h7 : q = 108
  · rw [if_pos h7] at *
    exact (zLeaveTo_o z _ N (fun k hk => by omega)).trans hN
  rw [if_neg h7] at *
  by_cases h8 : q = 114
  · rw [if_pos h8] at *
    obtain ⟨k, hk, e⟩ := sail_of hN h16 (zNoBack_ok hok)
    rw [e, nI_clamp (by omega)]
    simp only [zDoBack]; rw [zCharge_lo _ _ _ _ (by omega) (by omega) (by omega) (by omega) (by omega), upd_n _ _ (by omega), hN]
  rw [if_neg h8] at *
  by_cases h9 : q = 111
  · rw [if_pos h9]
    simp only [zDoSail]; rw [upd_n _ _ (by omega)]
    exact (zSailTo_o z (by omega) N (fun k hk => by omega)).trans hN
  rw [if_neg h9] at *
  by_cases h10 : q = 112
  · rw [if_pos h10]
    simp only [zDoPort]; rw [upd_n _ _ (by omega), upd_n _ _ (by omega), hN]
  rw [if_neg h10]
  simp only [zDoPO]; rw [upd_n _ _ (by omega), upd_n _ _ (by omega)]
  exact (zPOTo_o z (by omega) (by omega) (by omega) (by omega) N (fun k hk => by omega)).trans hN
/-! the run of a text: after k orders the place is tU k, the numbers tNu k, the books tZ k, the scalars tG k -/
def tU (T : Nat → Int32) : Nat → Nat
  | 0 => 0
  | k + 1 => (rdAns T (tU T k)).toNatClampNeg
def tNu (T : Nat → Int32) (nu : Zt) : Nat → Zt
  | 0 => nu
  | k + 1 => rdNum T (tU T k) (tNu T nu k)
def tZ (T : Nat → Int32) (nu z : Zt) : Nat → Zt
  | 0 => z
  | k + 1 => zDoOrd (tZ T nu z k) (T (tU T k)) (tNu T nu (k + 1))
def tRd (T : Nat → Int32) (g : Zt) (u : Nat) : Zt := upd (upd g 2 (T u)) 3 (nI (rdBrk T u))
def tG (T : Nat → Int32) (nu z g : Zt) : Nat → Zt
  | 0 => upd g 7 0
  | k + 1 => upd (upd (tRd T (tG T nu z g k) (tU T k)) 6 (zNoOrd (tZ T nu z k) (T (tU T k)) (tNu T nu (k + 1)))) 7 (nI (k + 1))
/-- the cause that is told of the order k -/
def tCau (T : Nat → Int32) (nu z : Zt) (k : Nat) : Int32 := if rdAns T (tU T k) < 0 then nI (rdBrk T (tU T k)) else zNoOrd (tZ T nu z k) (T (tU T k)) (tNu T nu (k + 1))
def tRea (T : Nat → Int32) (k : Nat) : Int32 := if rdAns T (tU T k) < 0 then 1 else 2
def tBad (T : Nat → Int32) (nu z : Zt) (k : Nat) : Prop := rdAns T (tU T k) < 0 ∨ tCau T nu z k < 0
def txK (T : Nat → Int32) (L : Nat) (nu z : Zt) : Nat → Nat → Nat
  | 0, k => k
  | f + 1, k => if L ≤ tU T k then k else if rdAns T (tU T k) < 0 ∨ tCau T nu z k < 0 then k else txK T L nu z f (k + 1)
def tFail (T : Nat → Int32) (nu z g : Zt) (k : Nat) : Zt := upd (upd (upd (tRd T (tG T nu z g k) (tU T k)) 6 (tCau T nu z k)) 4 (nI (tU T k))) 5 (tRea T k)
def txG (T : Nat → Int32) (L : Nat) (nu z g : Zt) : Zt := if L ≤ tU T (txK T L nu z L 0) then tG T nu z g (txK T L nu z L 0) else tFail T nu z g (txK T L nu z L 0)
def txN (T : Nat → Int32) (L : Nat) (nu z : Zt) : Zt := if L ≤ tU T (txK T L nu z L 0) then tNu T nu (txK T L nu z L 0) else tNu T nu (txK T L nu z L 0 + 1)
def txR (r : Rt) (T : Nat → Int32) (L : Nat) (z : Zt) : Rt := (r.1, r.2.1, r.2.2.1, txN T L r.2.2.2.1 z, txG T L r.2.2.2.1 z r.2.2.2.2)
theorem rdA_gt (T : Nat → Int32) (M p0 : Nat) : ∀ f k, ¬ rdA T M p0 f k < 0 → ∃ v, p0 < v ∧ v ≤ p0 + 4 * (k + f) + 1 ∧ rdA T M p0 f k = nI v
  | 0, k, h => by
    simp only [rdA] at *
    split at h
    · rename_i h1
      rw [if_pos h1]
      have := plF_ge T M p0 k
      have := plF_le T M p0 k
      exact ⟨plF T M p0 k + 1, by omega, by omega, rfl⟩
    · exact absurd (by decide) h
  | f + 1, k, h => by
    simp only [rdA] at *
    split at h
    · exact absurd (by decide) h
    · rename_i h1
      rw [if_neg h1]
      obtain ⟨v, a, b, c⟩ := rdA_gt T M p0 f (k + 1) h
      exact ⟨v, a, by omega, c⟩
theorem rdAns_gt {T : Nat → Int32} {u : Nat} (h : ¬ rdAns T u < 0) : ∃ v, u < v ∧ v ≤ u + 14 ∧ rdAns T u = nI v := by
  unfold rdAns at *
  split at h
  · exact absurd (by decide) h
  · rename_i h1
    rw [if_neg h1]
    obtain ⟨M, hM, e⟩ := tNum_nat (Int32.not_lt.mp h1)
    have e2 : rdM T u = M := by unfold rdM; rw [e]; exact nI_clamp (by omega)
    rw [e2] at h ⊢
    obtain ⟨v, a, b, c⟩ := rdA_gt T M (u + 1) M 0 h
    exact ⟨v, by omega, by omega, c⟩
theorem txK_s {T : Nat → Int32} {L k : Nat} {nu z : Zt} (hk : k < L) (h1 : ¬ L ≤ tU T k) (h2 : ¬ (rdAns T (tU T k) < 0 ∨ tCau T nu z k < 0)) : txK T L nu z (L - k) k = txK T L nu z (L - (k + 1)) (k + 1) := by
  rw [show L - k = L - (k + 1) + 1 by omega]; simp only [txK]; rw [if_neg h1, if_neg h2]
theorem txK_e {T : Nat → Int32} {L k : Nat} {nu z : Zt} (h1 : L ≤ tU T k) : txK T L nu z (L - k) k = k := by
  cases h : L - k with
  | zero => rfl
  | succ f => simp only [txK]; rw [if_pos h1]
theorem txK_b {T : Nat → Int32} {L k : Nat} {nu z : Zt} (h1 : ¬ L ≤ tU T k) (h2 : rdAns T (tU T k) < 0 ∨ tCau T nu z k < 0) : txK T L nu z (L - k) k = k := by
  cases h : L - k with
  | zero => rfl
  | succ f => simp only [txK]; rw [if_neg h1, if_pos h2]
