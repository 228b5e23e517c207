/-! READING AN ORDER: T the text's characters (0 behind its end), fr where the order begins -/
def nDg (T : Nat → Int32) (p : Nat) : Nat → Nat → Nat
  | 0, d => d
  | f + 1, d => if 48 ≤ T (p + d) ∧ T (p + d) ≤ 57 then nDg T p f (d + 1) else d
def nVal (T : Nat → Int32) (p : Nat) : Nat → Int32
  | 0 => 0
  | d + 1 => 10 * nVal T p d + T (p + d) - 48
theorem nDg_le (T : Nat → Int32) (p : Nat) : ∀ f d, nDg T p f d ≤ d + f
  | 0, d => Nat.le_refl _
  | f + 1, d => by have := nDg_le T p f (d + 1); simp only [nDg]; split <;> omega
def plF (T : Nat → Int32) (M p0 : Nat) : Nat → Nat
  | 0 => p0
  | k + 1 => plF T M p0 k + nDg T (plF T M p0 k) 3 0 + (if k + 1 < M then 1 else 0)
theorem plF_le (T : Nat → Int32) (M p0 : Nat) : ∀ k, plF T M p0 k ≤ p0 + 4 * k
  | 0 => Nat.le_refl _
  | k + 1 => by have := plF_le T M p0 k; have := nDg_le T (plF T M p0 k) 3 0; simp only [plF]; split <;> omega
theorem plF_ge (T : Nat → Int32) (M p0 : Nat) : ∀ k, p0 ≤ plF T M p0 k
  | 0 => Nat.le_refl _
  | k + 1 => by have := plF_ge T M p0 k; simp only [plF]; omega
def nuF (T : Nat → Int32) (M p0 : Nat) (nu : Zt) : Nat → Zt
  | 0 => nu
  | k + 1 => upd (nuF T M p0 nu k) k (nVal T (plF T M p0 k) (nDg T (plF T M p0 k) 3 0))
def brF (T : Nat → Int32) (M fr p0 : Nat) : Nat → Nat
  | 0 => 0
  | k + 1 => plF T M p0 k + nDg T (plF T M p0 k) 3 0 - fr
def rdBad (T : Nat → Int32) (M p0 k : Nat) : Bool := decide (nDg T (plF T M p0 k) 3 0 = 0) || (decide (k + 1 < M) && !decide (T (plF T M p0 k + nDg T (plF T M p0 k) 3 0) = 44))
def rdA (T : Nat → Int32) (M p0 : Nat) : Nat → Nat → Int32
  | 0, k => if T (plF T M p0 k) = 59 then nI (plF T M p0 k + 1) else -1
  | f + 1, k => if rdBad T M p0 k = true then -1 else rdA T M p0 f (k + 1)
def rdB (T : Nat → Int32) (M fr p0 : Nat) : Nat → Nat → Nat
  | 0, k => plF T M p0 k - fr
  | f + 1, k => if rdBad T M p0 k = true then plF T M p0 k + nDg T (plF T M p0 k) 3 0 - fr else rdB T M fr p0 f (k + 1)
def rdU (T : Nat → Int32) (M p0 : Nat) (nu : Zt) : Nat → Nat → Zt
  | 0, k => nuF T M p0 nu k
  | f + 1, k => if rdBad T M p0 k = true then nuF T M p0 nu (k + 1) else rdU T M p0 nu f (k + 1)
def rdM (T : Nat → Int32) (u : Nat) : Nat := (tNum (T u)).toNatClampNeg
def rdAns (T : Nat → Int32) (u : Nat) : Int32 := if tNum (T u) < 0 then -1 else rdA T (rdM T u) (u + 1) (rdM T u) 0
def rdBrk (T : Nat → Int32) (u : Nat) : Nat := if tNum (T u) < 0 then 0 else rdB T (rdM T u) u (u + 1) (rdM T u) 0
def rdNum (T : Nat → Int32) (u : Nat) (nu : Zt) : Zt := if tNum (T u) < 0 then nu else rdU T (rdM T u) (u + 1) nu (rdM T u) 0
theorem tNum_nat {q : Int32} (h : 0 ≤ tNum q) : ∃ M, M ≤ 3 ∧ tNum q = nI M := by
  unfold tNum at *
  split at h
  · exact ⟨0, by omega, by rw [if_pos (by assumption)]; rfl⟩
  · split at h
    · exact ⟨1, by omega, by rw [if_neg (by assumption), if_pos (by assumption)]; rfl⟩
    · split at h
      · exact ⟨2, by omega, by rw [if_neg (by assumption), if_neg (by assumption), if_pos (by assumption)]; rfl⟩
      · split at h
        · exact ⟨3, by omega, by rw [if_neg (by assumption), if_neg (by assumption), if_neg (by assumption), if_pos (by assumption)]; rfl⟩
        · exact absurd h (by decide)
theorem nDg_s (T : Nat → Int32) (p : Nat) {d : Nat} (hd : d < 3) (h : 48 ≤ T (p + d) ∧ T (p + d) ≤ 57) : nDg T p (3 - d) d = nDg T p (3 - (d + 1)) (d + 1) := by
  rw [show 3 - d = 3 - (d + 1) + 1 by omega]; simp only [nDg]; rw [if_pos h]
theorem nDg_e (T : Nat → Int32) (p : Nat) {d : Nat} (hd : d < 3) (h : ¬ (48 ≤ T (p + d) ∧ T (p + d) ≤ 57)) : nDg T p (3 - d) d = d := by
  rw [show 3 - d = 3 - (d + 1) + 1 by omega]; simp only [nDg]; rw [if_neg h]
theorem nDg_3 (T : Nat → Int32) (p : Nat) {d : Nat} (hd : d = 3) : nDg T p (3 - d) d = d := by subst hd; rfl
theorem rdA_s {T : Nat → Int32} {M p0 k : Nat} (hk : k < M) (h : ¬ rdBad T M p0 k = true) : rdA T M p0 (M - k) k = rdA T M p0 (M - (k + 1)) (k + 1) := by
  rw [show M - k = M - (k + 1) + 1 by omega]; simp only [rdA]; rw [if_neg h]
theorem rdA_b {T : Nat → Int32} {M p0 k : Nat} (hk : k < M) (h : rdBad T M p0 k = true) : rdA T M p0 (M - k) k = -1 := by
  rw [show M - k = M - (k + 1) + 1 by omega]; simp only [rdA]; rw [if_pos h]
theorem rdB_s {T : Nat → Int32} {M fr p0 k : Nat} (hk : k < M) (h : ¬ rdBad T M p0 k = true) : rdB T M fr p0 (M - k) k = rdB T M fr p0 (M - (k + 1)) (k + 1) := by
  rw [show M - k = M - (k + 1) + 1 by omega]; simp only [rdB]; rw [if_neg h]
theorem rdB_b {T : Nat → Int32} {M fr p0 k : Nat} (hk : k < M) (h : rdBad T M p0 k = true) : rdB T M fr p0 (M - k) k = plF T M p0 k + nDg T (plF T M p0 k) 3 0 - fr := by
  rw [show M - k = M - (k + 1) + 1 by omega]; simp only [rdB]; rw [if_pos h]
theorem rdU_s {T : Nat → Int32} {M p0 k : Nat} {nu : Zt} (hk : k < M) (h : ¬ rdBad T M p0 k = true) : rdU T M p0 nu (M - k) k = rdU T M p0 nu (M - (k + 1)) (k + 1) := by
  rw [show M - k = M - (k + 1) + 1 by omega]; simp only [rdU]; rw [if_neg h]
theorem rdU_b {T : Nat → Int32} {M p0 k : Nat} {nu : Zt} (hk : k < M) (h : rdBad T M p0 k = true) : rdU T M p0 nu (M - k) k = nuF T M p0 nu (k + 1) := by
  rw [show M - k = M - (k + 1) + 1 by omega]; simp only [rdU]; rw [if_pos h]
theorem bad_0 {T : Nat → Int32} {M p0 k : Nat} (h : nDg T (plF T M p0 k) 3 0 = 0) : rdBad T M p0 k = true := by simp [rdBad, h]
theorem bad_c {T : Nat → Int32} {M p0 k : Nat} (h : k + 1 < M) (h2 : ¬ T (plF T M p0 k + nDg T (plF T M p0 k) 3 0) = 44) : rdBad T M p0 k = true := by simp [rdBad, h, h2]
theorem good_l {T : Nat → Int32} {M p0 k : Nat} (h0 : ¬ nDg T (plF T M p0 k) 3 0 = 0) (h : M ≤ k + 1) : ¬ rdBad T M p0 k = true := by simp [rdBad, h0, Nat.not_lt.mpr h]
theorem good_c {T : Nat → Int32} {M p0 k : Nat} (h0 : ¬ nDg T (plF T M p0 k) 3 0 = 0) (h2 : T (plF T M p0 k + nDg T (plF T M p0 k) 3 0) = 44) : ¬ rdBad T M p0 k = true := by simp [rdBad, h0, h2]
/-- the reference's rest behind a read order -/
def rRead (r : Rt) (T : Nat → Int32) (u : Nat) : Rt := (r.1, r.2.1, r.2.2.1, rdNum T u r.2.2.2.1, upd (upd r.2.2.2.2 2 (T u)) 3 (nI (rdBrk T u)))
