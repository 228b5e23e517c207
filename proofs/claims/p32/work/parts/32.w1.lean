theorem cNum_s {T : Nat → Int32} {p k v : Nat} (hk3 : k ≤ 3) (hv : v < 10 ^ k) (h : nVal T p k = nI v) : (if cNumV T p k < 0 then 0 else cNumV T p k) * 10 + T (p + k) - 48 = cNumV T p (k + 1) := by
  have e : (if cNumV T p k < 0 then 0 else cNumV T p k) = nVal T p k := by
    unfold cNumV
    by_cases hk : k = 0
    · subst hk; rfl
    · rw [if_neg hk, if_neg]; rw [h]; exact Int32.not_lt.mpr (nI_pos' (Nat.lt_of_lt_of_le hv (Nat.le_trans (Nat.pow_le_pow_right (by decide) hk3) (by decide))))
  rw [e, Int32.mul_comm]
  unfold cNumV; rw [if_neg (by omega)]; rfl
