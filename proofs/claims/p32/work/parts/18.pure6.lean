theorem tG_k (T : Nat → Int32) (nu z g : Zt) {i : Nat} (h : i ≠ 2 ∧ i ≠ 3 ∧ i ≠ 6 ∧ i ≠ 7) : ∀ k, tG T nu z g k i = g i
  | 0 => upd_n _ _ h.2.2.2
  | k + 1 => by
    simp only [tG, tRd]
    rw [upd_n _ _ h.2.2.2, upd_n _ _ h.2.2.1, upd_n _ _ h.2.1, upd_n _ _ h.1]
    exact tG_k T nu z g h k
theorem tG_7 (T : Nat → Int32) (nu z g : Zt) : ∀ k, tG T nu z g k 7 = nI k
  | 0 => upd_s _ _ _
  | k + 1 => upd_s _ _ _
theorem txG_k (T : Nat → Int32) (L : Nat) (nu z g : Zt) {i : Nat} (h : i = 0 ∨ i = 1) : txG T L nu z g i = g i := by
  unfold txG
  split
  · exact tG_k T nu z g (by omega) _
  · simp only [tFail, tRd]
    rw [upd_n _ _ (by omega), upd_n _ _ (by omega), upd_n _ _ (by omega), upd_n _ _ (by omega), upd_n _ _ (by omega)]
    exact tG_k T nu z g (by omega) _
theorem txG_7 {T : Nat → Int32} {L : Nat} {nu z g : Zt} (h : L ≤ tU T (txK T L nu z L 0)) : txG T L nu z g 7 = nI (txK T L nu z L 0) := by
  unfold txG; rw [if_pos h]; exact tG_7 _ _ _ _ _
theorem txG_4 {T : Nat → Int32} {L : Nat} {nu z g : Zt} (h : ¬ L ≤ tU T (txK T L nu z L 0)) : txG T L nu z g 4 = nI (tU T (txK T L nu z L 0)) := by
  unfold txG; rw [if_neg h]; simp only [tFail]; rw [upd_n _ _ (by omega), upd_s]
theorem txG_5 {T : Nat → Int32} {L : Nat} {nu z g : Zt} (h : ¬ L ≤ tU T (txK T L nu z L 0)) : txG T L nu z g 5 = tRea T (txK T L nu z L 0) := by
  unfold txG; rw [if_neg h]; simp only [tFail]; rw [upd_s]
theorem txG_6 {T : Nat → Int32} {L : Nat} {nu z g : Zt} (h : ¬ L ≤ tU T (txK T L nu z L 0)) : txG T L nu z g 6 = tCau T nu z (txK T L nu z L 0) := by
  unfold txG; rw [if_neg h]; simp only [tFail]; rw [upd_n _ _ (by omega), upd_n _ _ (by omega), upd_s]
/-- what fault answers -/
def mFault (T : Nat → Int32) (L : Nat) (nu z : Zt) (q : Int32) : Int32 := if ¬ (0 ≤ q ∧ q ≤ 2) then -1000001 else if L ≤ tU T (txK T L nu z L 0) then -1000004 else if q = 0 then nI (tU T (txK T L nu z L 0)) else if q = 1 then tRea T (txK T L nu z L 0) else tCau T nu z (txK T L nu z L 0)
/-- the reference's rest behind the tries of fault and play: the books are put aside -/
def rTry (r : Rt) (T : Nat → Int32) (L : Nat) (z : Zt) : Rt := (z, r.2.1, r.2.2.1, txN T L r.2.2.2.1 z, txG T L r.2.2.2.1 z r.2.2.2.2)
