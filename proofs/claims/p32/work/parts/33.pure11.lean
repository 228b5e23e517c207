/-! the class's readFrom: T the characters, u where the order begins -/
def plE (T : Nat → Int32) (M p0 : Nat) : Nat → Nat
  | 0 => p0
  | k + 1 => plF T M p0 k + nDg T (plF T M p0 k) 3 0
def crU (T : Nat → Int32) (M p0 : Nat) (nu : Zt) : Nat → Nat → Zt
  | 0, k => nuF T M p0 nu k
  | f + 1, k => if nDg T (plF T M p0 k) 3 0 = 0 then nuF T M p0 nu k else if rdBad T M p0 k = true then nuF T M p0 nu (k + 1) else crU T M p0 nu f (k + 1)
def crNum (T : Nat → Int32) (u : Nat) (nu : Zt) : Zt := if tNum (T u) < 0 then nu else crU T (rdM T u) (u + 1) nu (rdM T u) 0
def crPl (T : Nat → Int32) (u : Nat) : Nat := if rdAns T u < 0 then u + rdBrk T u else (rdAns T u).toNatClampNeg
theorem upd_76 (g : Zt) (a b : Int32) : upd (upd g 7 a) 6 b = upd (upd g 6 b) 7 a := by
  funext i; simp only [upd]
  by_cases h : i = 6
  · subst h; rfl
  · rw [if_neg h, if_neg h]
theorem nVal_ex (T : Nat → Int32) (p : Nat) : ∀ f d v, d + f ≤ 3 → v < 10 ^ d → nVal T p d = nI v → ∃ w, w < 10 ^ (nDg T p f d) ∧ nVal T p (nDg T p f d) = nI w
  | 0, d, v, _, hv, h => ⟨v, hv, h⟩
  | f + 1, d, v, hd, hv, h => by
    simp only [nDg]
    split
    · rename_i hg
      obtain ⟨w, hw, e⟩ := nVal_s (by omega) hv h hg
      exact nVal_ex T p f (d + 1) w (by omega) hw e
    · exact ⟨v, hv, h⟩
theorem cNum_neg {T : Nat → Int32} {p : Nat} (h : ¬ 0 ≤ cNumV T p (nDg T p 3 0)) : nDg T p 3 0 = 0 := by
  by_cases h0 : nDg T p 3 0 = 0
  · exact h0
  · obtain ⟨w, hw, e⟩ := nVal_ex T p 3 0 0 (by omega) (by decide) rfl
    refine absurd ?_ h
    unfold cNumV; rw [if_neg h0, e]
    have := nDg_le T p 3 0
    exact nI_pos' (Nat.lt_of_lt_of_le hw (Nat.le_trans (Nat.pow_le_pow_right (by decide) this) (by decide)))
theorem cNum_pos {T : Nat → Int32} {p : Nat} (h : 0 ≤ cNumV T p (nDg T p 3 0)) : ¬ nDg T p 3 0 = 0 := by
  intro h0; unfold cNumV at h; rw [if_pos h0] at h; revert h; decide
theorem cNum_val {T : Nat → Int32} {p : Nat} (h : ¬ nDg T p 3 0 = 0) : cNumV T p (nDg T p 3 0) = nVal T p (nDg T p 3 0) := if_neg h
theorem plE_p {T : Nat → Int32} {M p0 k : Nat} (h : 0 < k) : plE T M p0 k = plF T M p0 (k - 1) + nDg T (plF T M p0 (k - 1)) 3 0 := by
  obtain ⟨j, rfl⟩ : ∃ j, k = j + 1 := ⟨k - 1, by omega⟩
  rfl
theorem plE_c {T : Nat → Int32} {M p0 k : Nat} (h : 0 < k) (hM : k < M) : plF T M p0 k = plE T M p0 k + 1 := by
  obtain ⟨j, rfl⟩ : ∃ j, k = j + 1 := ⟨k - 1, by omega⟩
  simp only [plF, plE]; rw [if_pos hM]
theorem plE_0 {T : Nat → Int32} {M p0 k : Nat} (h : k ≤ 0) : plE T M p0 k = plF T M p0 k := by
  obtain rfl : k = 0 := by omega
  rfl
theorem plE_M (T : Nat → Int32) (M p0 : Nat) : plE T M p0 M = plF T M p0 M := by
  cases M with
  | zero => rfl
  | succ j => simp only [plF, plE]; rw [if_neg (by omega)]; rfl
theorem plE_le (T : Nat → Int32) (M p0 : Nat) : ∀ k, plE T M p0 k ≤ p0 + 4 * k
  | 0 => Nat.le_refl _
  | k + 1 => by have := plF_le T M p0 k; have := nDg_le T (plF T M p0 k) 3 0; simp only [plE]; omega
theorem plE_ge (T : Nat → Int32) (M p0 : Nat) : ∀ k, p0 ≤ plE T M p0 k
  | 0 => Nat.le_refl _
  | k + 1 => by have := plF_ge T M p0 k; simp only [plE]; omega
theorem crU_s {T : Nat → Int32} {M p0 k : Nat} {nu : Zt} (hk : k < M) (hD : ¬ nDg T (plF T M p0 k) 3 0 = 0) (h : ¬ rdBad T M p0 k = true) : crU T M p0 nu (M - k) k = crU T M p0 nu (M - (k + 1)) (k + 1) := by
  rw [show M - k = M - (k + 1) + 1 by omega]; simp only [crU]; rw [if_neg hD, if_neg h]
theorem crU_b {T : Nat → Int32} {M p0 k : Nat} {nu : Zt} (hk : k < M) (hD : ¬ nDg T (plF T M p0 k) 3 0 = 0) (h : rdBad T M p0 k = true) : crU T M p0 nu (M - k) k = nuF T M p0 nu (k + 1) := by
  rw [show M - k = M - (k + 1) + 1 by omega]; simp only [crU]; rw [if_neg hD, if_pos h]
theorem crU_0 {T : Nat → Int32} {M p0 k : Nat} {nu : Zt} (hk : k < M) (hD : nDg T (plF T M p0 k) 3 0 = 0) : crU T M p0 nu (M - k) k = nuF T M p0 nu k := by
  rw [show M - k = M - (k + 1) + 1 by omega]; simp only [crU]; rw [if_pos hD]
theorem cr_next {T : Nat → Int32} {M p0 k u : Nat} {nu : Zt} (h0 : 0 < k) (hk : k < M) (hD : ¬ nDg T (plF T M p0 (k - 1)) 3 0 = 0) (h : ¬ rdBad T M p0 (k - 1) = true)
    (hA : rdA T M p0 (M - (k - 1)) (k - 1) = rdA T M p0 M 0) (hB : rdB T M u p0 (M - (k - 1)) (k - 1) = rdB T M u p0 M 0) (hU : crU T M p0 nu (M - (k - 1)) (k - 1) = crU T M p0 nu M 0) :
    rdA T M p0 (M - k) k = rdA T M p0 M 0 ∧ rdB T M u p0 (M - k) k = rdB T M u p0 M 0 ∧ crU T M p0 nu (M - k) k = crU T M p0 nu M 0 := by
  obtain ⟨j, rfl⟩ : ∃ j, k = j + 1 := ⟨k - 1, by omega⟩
  simp only [Nat.add_sub_cancel] at *
  exact ⟨(rdA_s (by omega) h).symm.trans hA, (rdB_s (by omega) h).symm.trans hB, (crU_s (by omega) hD h).symm.trans hU⟩
theorem cr_last {T : Nat → Int32} {M p0 u : Nat} {nu : Zt} (hD : M = 0 ∨ ¬ nDg T (plF T M p0 (M - 1)) 3 0 = 0)
    (hA : rdA T M p0 (M - (M - 1)) (M - 1) = rdA T M p0 M 0) (hB : rdB T M u p0 (M - (M - 1)) (M - 1) = rdB T M u p0 M 0) (hU : crU T M p0 nu (M - (M - 1)) (M - 1) = crU T M p0 nu M 0) :
    rdA T M p0 0 M = rdA T M p0 M 0 ∧ rdB T M u p0 0 M = rdB T M u p0 M 0 ∧ crU T M p0 nu 0 M = crU T M p0 nu M 0 := by
  cases M with
  | zero => exact ⟨rfl, rfl, rfl⟩
  | succ j =>
    have hDD := hD.resolve_left (by omega)
    simp only [Nat.add_sub_cancel] at *
    have hg : ¬ rdBad T (j + 1) p0 j = true := good_l hDD (by omega)
    have e : j + 1 - (j + 1) = 0 := Nat.sub_self _
    have a1 := (rdA_s (by omega) hg).symm.trans hA
    have a2 := (rdB_s (by omega) hg).symm.trans hB
    have a3 := (crU_s (by omega) hDD hg).symm.trans hU
    rw [e] at a1 a2 a3
    exact ⟨a1, a2, a3⟩
theorem cr_no {T : Nat → Int32} {u : Nat} {nu : Zt} (h : tNum (T u) < 0) : rdAns T u < 0 ∧ crPl T u = u ∧ crNum T u nu = nu := by
  have h1 : rdAns T u = -1 := if_pos h
  have h2 : rdBrk T u = 0 := if_pos h
  refine ⟨by rw [h1]; decide, ?_, if_pos h⟩
  unfold crPl; rw [h1, h2]; rfl
theorem cr_bad {T : Nat → Int32} {u M k : Nat} {nu nu2 : Zt} (h : ¬ tNum (T u) < 0) (eM : rdM T u = M) (hk : k < M) (hb : rdBad T M (u + 1) k = true) (hA : rdA T M (u + 1) (M - k) k = rdA T M (u + 1) M 0) (hB : rdB T M u (u + 1) (M - k) k = rdB T M u (u + 1) M 0) (hU : crU T M (u + 1) nu (M - k) k = crU T M (u + 1) nu M 0) (hN : crU T M (u + 1) nu (M - k) k = nu2) :
    rdAns T u < 0 ∧ crPl T u = plF T M (u + 1) k + nDg T (plF T M (u + 1) k) 3 0 ∧ crNum T u nu = nu2 := by
  have h1 : rdAns T u = -1 := by unfold rdAns; rw [if_neg h, eM, ← hA]; exact rdA_b hk hb
  have h2 : rdBrk T u = plF T M (u + 1) k + nDg T (plF T M (u + 1) k) 3 0 - u := by unfold rdBrk; rw [if_neg h, eM, ← hB]; exact rdB_b hk hb
  have := plF_ge T M (u + 1) k
  refine ⟨by rw [h1]; decide, ?_, ?_⟩
  · unfold crPl; rw [h1, h2, if_pos (by decide)]; omega
  · unfold crNum; rw [if_neg h, eM, ← hU, hN]
theorem cr_end {T : Nat → Int32} {u M : Nat} {nu : Zt} (hu : u < 1000) (hM : M ≤ 3) (h : ¬ tNum (T u) < 0) (eM : rdM T u = M) (hA : rdA T M (u + 1) 0 M = rdA T M (u + 1) M 0) (hB : rdB T M u (u + 1) 0 M = rdB T M u (u + 1) M 0) (hU : crU T M (u + 1) nu 0 M = crU T M (u + 1) nu M 0) :
    (T (plE T M (u + 1) M) = 59 → ¬ rdAns T u < 0 ∧ crPl T u = plE T M (u + 1) M + 1) ∧ (¬ T (plE T M (u + 1) M) = 59 → rdAns T u < 0 ∧ crPl T u = plE T M (u + 1) M) ∧ crNum T u nu = nuF T M (u + 1) nu M := by
  have h1 : rdAns T u = if T (plF T M (u + 1) M) = 59 then nI (plF T M (u + 1) M + 1) else -1 := by unfold rdAns; rw [if_neg h, eM, ← hA]; rfl
  have h2 : rdBrk T u = plF T M (u + 1) M - u := by unfold rdBrk; rw [if_neg h, eM, ← hB]; rfl
  have g1 := plF_ge T M (u + 1) M
  have g2 := plF_le T M (u + 1) M
  rw [plE_M]
  refine ⟨fun q => ?_, fun q => ?_, ?_⟩
  · rw [if_pos q] at h1
    have hp := nI_pos' (n := plF T M (u + 1) M + 1) (by omega)
    refine ⟨by rw [h1]; exact Int32.not_lt.mpr hp, ?_⟩
    unfold crPl; rw [h1, if_neg (Int32.not_lt.mpr hp), nI_clamp (by omega)]
  · rw [if_neg q] at h1
    refine ⟨by rw [h1]; decide, ?_⟩
    unfold crPl; rw [h1, h2, if_pos (by decide)]; omega
  · unfold crNum; rw [if_neg h, eM, ← hU]; rfl
