theorem zCan_0 {z : Zt} {N k : Nat} {w x : Int32} (h : ¬ zCan z N w x k = true) : (0 : Int32) = b2 (zCan z N w x (k + 1) = true) := (b2_f (by simp [zCan, h])).symm
theorem zCan_1 {z : Zt} {N k : Nat} {w x : Int32} (h : zCan z N w x k = true) (h2 : ¬ (z (10 * k + 1) = w ∧ ¬ z (10 * k + 2) = 2)) : (1 : Int32) = b2 (zCan z N w x (k + 1) = true) := (b2_t (by simp only [zCan, h, decide_eq_false h2]; rfl)).symm
theorem zCan_2 {z : Zt} {N k : Nat} {w x : Int32} (h : zCan z N w x k = true) (h2 : ¬ zBal z k - zPart z N k w x < -4000) : (1 : Int32) = b2 (zCan z N w x (k + 1) = true) := (b2_t (by simp only [zCan, h, decide_eq_false h2]; simp)).symm
theorem zCan_3 {z : Zt} {N k : Nat} {w x : Int32} (h : zCan z N w x k = true) (h1 : z (10 * k + 1) = w ∧ ¬ z (10 * k + 2) = 2) (h2 : zBal z k - zPart z N k w x < -4000) : (0 : Int32) = b2 (zCan z N w x (k + 1) = true) := (b2_f (by simp only [zCan, h, decide_eq_true h1, decide_eq_true h2]; simp)).symm
theorem zNoSign_ok {z : Zt} {N : Nat} {q w : Int32} (hN : z 194 = nI N) (h16 : N ≤ 16) (h : 0 ≤ zNoSign z q w) : N < 16 := by
  rcases Nat.lt_or_ge N 16 with h1 | h1
  · exact h1
  · exfalso
    have e : N = 16 := by omega
    subst e
    unfold zNoSign at h
    rw [hN] at h
    have e2 : nI 16 = 16 := rfl
    rw [e2] at h
    by_cases cq1 : ¬ (0 ≤ q ∧ q ≤ 3) ∨ ¬ (0 ≤ w ∧ w ≤ 1)
    · rw [if_pos cq1] at h; exact absurd h (by decide)
    · rw [if_neg cq1] at h
      by_cases cq2 : z 191 = 1
      · rw [if_pos cq2] at h; exact absurd h (by decide)
      · rw [if_neg cq2, if_pos rfl] at h; exact absurd h (by decide)
theorem ok_or {P : Prop} [Decidable P] {e x : Int32} (h : 0 ≤ (if P then e else x)) (he : ¬ 0 ≤ e) : ¬ P := fun hp => he (by rw [if_pos hp] at h; exact h)
theorem zNoStock_ok {z : Zt} {i m c : Int32} (h : 0 ≤ zNoStock z i m c) : 0 ≤ i ∧ i ≤ 5 := by
  have := ok_or h (by decide); exact Decidable.byContradiction fun g => this (Or.inl g)
theorem zNoSell_ok {z : Zt} {a i m : Int32} (h : 0 ≤ zNoSell z a i m) : (0 ≤ a ∧ a ≤ z 194 - 1) ∧ (0 ≤ i ∧ i ≤ 5) := by
  have := ok_or h (by decide)
  exact ⟨Decidable.byContradiction fun g => this (Or.inl g), Decidable.byContradiction fun g => this (Or.inr (Or.inl g))⟩
theorem zNoAdv_ok {z : Zt} {a x : Int32} (h : 0 ≤ zNoAdv z a x) : 0 ≤ a ∧ a ≤ z 194 - 1 := by
  have := ok_or h (by decide); exact Decidable.byContradiction fun g => this (Or.inl g)
theorem zNoFine_ok {z : Zt} {a x : Int32} (h : 0 ≤ zNoFine z a x) : 0 ≤ a ∧ a ≤ z 194 - 1 := by
  have := ok_or h (by decide); exact Decidable.byContradiction fun g => this (Or.inl g)
theorem zNoBack_ok {z : Zt} {a x : Int32} (h : 0 ≤ zNoBack z a x) : 0 ≤ a ∧ a ≤ z 194 - 1 := by
  have := ok_or h (by decide); exact Decidable.byContradiction fun g => this (Or.inl g)
theorem zNoDis_ok {z : Zt} {a : Int32} (h : 0 ≤ zNoDis z a) : 0 ≤ a ∧ a ≤ z 194 - 1 := by
  have := ok_or h (by decide); exact Decidable.byContradiction fun g => this g
