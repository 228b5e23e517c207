/-! BOTH OBJECTS TOGETHER: what holds between two calls of the law -/
def Re (B : Nat) (z : Zt) (h : Nat → Zt) (π : Nat → Nat) (f g : Zt) (r : Rt) (N n L : Nat) : Prop :=
  INV B N z ∧ (n ≤ 4 ∧ g 0 = nI n ∧ r.2.2.2.2 0 = nI n) ∧ (L ≤ 60 ∧ g 1 = nI L ∧ r.2.2.2.2 1 = nI L) ∧ (∀ i, i < L → f i = r.2.2.1 i) ∧ (∀ k, k < 4 → π k < 4) ∧ (∀ k l, k < 4 → l < 4 → π k = π l → k = l) ∧ (∀ k, k < n → (∀ i, i < 231 → h (π k) i = r.2.1 (231 * (n - 1 - k) + i)) ∧ ∃ M, INV B M (h (π k)))
theorem Re_same {B C : Nat} {z : Zt} {h : Nat → Zt} {π : Nat → Nat} {f g g2 : Zt} {r r2 : Rt} {N n L : Nat} (hR : Re B z h π f g r N n L) (hB : B ≤ C) (e0 : g2 0 = g 0) (e1 : g2 1 = g 1) (e2 : r2.2.1 = r.2.1) (e3 : r2.2.2.1 = r.2.2.1) (e4 : r2.2.2.2.2 0 = r.2.2.2.2 0) (e5 : r2.2.2.2.2 1 = r.2.2.2.2 1) : Re C z h π f g2 r2 N n L := by
  obtain ⟨h1, ⟨h2, h3, h4⟩, ⟨h5, h6, h7⟩, h8, h9, h10, h11⟩ := hR
  refine ⟨h1.B hB, ⟨h2, e0.trans h3, e4.trans h4⟩, ⟨h5, e1.trans h6, e5.trans h7⟩, by rw [e3]; exact h8, h9, h10, fun k hk => ?_⟩
  obtain ⟨a, M, b⟩ := h11 k hk
  rw [e2]
  exact ⟨a, M, b.B hB⟩
theorem rotR_0 (π : Nat → Nat) : rotR π 0 = π 3 := rfl
theorem rotR_s (π : Nat → Nat) {k : Nat} (hk : k < 3) : rotR π (k + 1) = π k := by
  rcases (show k = 0 ∨ k = 1 ∨ k = 2 by omega) with rfl | rfl | rfl <;> rfl
theorem rotL_3 (π : Nat → Nat) : rotL π 3 = π 0 := rfl
theorem rotL_s (π : Nat → Nat) {k : Nat} (hk : k < 3) : rotL π k = π (k + 1) := by
  rcases (show k = 0 ∨ k = 1 ∨ k = 2 by omega) with rfl | rfl | rfl <;> rfl
/-- a change: what was before it goes into the history -/
theorem Re_rec {B C : Nat} {z D : Zt} {h : Nat → Zt} {π : Nat → Nat} {f g g2 : Zt} {r r2 : Rt} {N n L M : Nat} (hR : Re B z h π f g r N n L) (hB : B ≤ C) (hD : INV C M D) (e0 : g2 0 = g 0) (e1 : g2 1 = g 1) (e2 : r2.2.1 = r.2.1) (e3 : r2.2.2.1 = r.2.2.1) (e5 : r2.2.2.2.2 1 = r.2.2.2.2 1) :
    Re C D (hset h (π 3) z) (rotR π) f (if n < 4 then upd g2 0 (nI (n + 1)) else g2) (rRec r2 n z) M (recN n) L := by
  obtain ⟨h1, ⟨h2, h3, h4⟩, ⟨h5, h6, h7⟩, h8, h9, h10, h11⟩ := hR
  have en : recN n = if n = 4 then 4 else n + 1 := rfl
  refine ⟨hD, ⟨by rw [en]; split <;> omega, ?_, upd_s r2.2.2.2.2 0 (nI (recN n))⟩, ⟨h5, ?_, ?_⟩, ?_, ?_, ?_, ?_⟩
  · by_cases hn : n < 4
    · rw [if_pos hn, upd_s, en, if_neg (by omega)]
    · obtain rfl : n = 4 := by omega
      rw [if_neg hn, e0, h3]; rfl
  · by_cases hn : n < 4
    · rw [if_pos hn, upd_n _ _ (by omega), e1, h6]
    · rw [if_neg hn, e1, h6]
  · show upd r2.2.2.2.2 0 (nI (recN n)) 1 = _
    rw [upd_n _ _ (by omega), e5, h7]
  · show ∀ i, i < L → f i = r2.2.2.1 i
    rw [e3]; exact h8
  · intro k hk
    rcases (show k = 0 ∨ ∃ j, k = j + 1 ∧ j < 3 by
      cases k with
      | zero => exact Or.inl rfl
      | succ j => exact Or.inr ⟨j, rfl, by omega⟩) with rfl | ⟨j, rfl, hj⟩
    · rw [rotR_0]; exact h9 3 (by omega)
    · rw [rotR_s π hj]; exact h9 j (by omega)
  · have hv : ∀ k, k < 4 → ∃ j, j < 4 ∧ rotR π k = π j ∧ k % 4 = (j + 1) % 4 := by
      intro k hk
      rcases (show k = 0 ∨ ∃ j, k = j + 1 ∧ j < 3 by
        cases k with
        | zero => exact Or.inl rfl
        | succ j => exact Or.inr ⟨j, rfl, by omega⟩) with rfl | ⟨j, rfl, hj⟩
      · exact ⟨3, by omega, rotR_0 π, by omega⟩
      · exact ⟨j, by omega, rotR_s π hj, by omega⟩
    intro k l hk hl he
    obtain ⟨a, ha, ea, ma⟩ := hv k hk
    obtain ⟨b, hb, eb, mb⟩ := hv l hl
    have := h10 a b ha hb (by rw [← ea, ← eb]; exact he)
    omega
  · intro k hk
    have hb : (rRec r2 n z).2.1 = recB r.2.1 n z := by show recB r2.2.1 n z = _; rw [e2]
    rw [hb]
    rcases (show k = 0 ∨ ∃ j, k = j + 1 by
      cases k with
      | zero => exact Or.inl rfl
      | succ j => exact Or.inr ⟨j, rfl⟩) with rfl | ⟨j, rfl⟩
    · rw [rotR_0]
      have e : hset h (π 3) z (π 3) = z := if_pos rfl
      rw [e]
      refine ⟨fun i hi => ?_, N, h1.B hB⟩
      unfold recB
      by_cases hn : n = 4
      · subst hn
        rw [if_pos rfl]
        unfold bCp
        rw [show recN 4 = 4 from rfl, if_pos (by omega)]
        exact congrArg z (by omega)
      · rw [if_neg hn]
        unfold bCp
        rw [en, if_neg hn, if_pos (by omega)]
        exact congrArg z (by omega)
    · have hj3 : j < 3 := by rw [en] at hk; split at hk <;> omega
      have hjn : j < n := by rw [en] at hk; split at hk <;> omega
      rw [rotR_s π hj3]
      have e : hset h (π 3) z (π j) = h (π j) := if_neg (fun q => by have := h10 j 3 (by omega) (by omega) q; omega)
      rw [e]
      obtain ⟨a, M2, b⟩ := h11 j hjn
      refine ⟨fun i hi => ?_, M2, b.B hB⟩
      rw [a i hi]
      unfold recB
      by_cases hn : n = 4
      · subst hn
        rw [if_pos rfl]
        unfold bCp bSh
        rw [show recN 4 = 4 from rfl, if_neg (by omega), if_pos (by omega)]
        exact congrArg r.2.1 (by omega)
      · rw [if_neg hn]
        unfold bCp
        rw [en, if_neg hn, if_neg (by omega)]
        exact congrArg r.2.1 (by omega)
/-- the latest state comes back -/
theorem Re_undo {B C : Nat} {z : Zt} {h : Nat → Zt} {π : Nat → Nat} {f g : Zt} {r : Rt} {N n L : Nat} (hR : Re B z h π f g r N n L) (hB : B ≤ C) (hn : 0 < n) :
    ∃ M, Re C (h (π 0)) h (rotL π) f (upd g 0 (nI (n - 1))) (r.1, r.2.1, r.2.2.1, r.2.2.2.1, upd r.2.2.2.2 0 (nI (n - 1))) M (n - 1) L ∧ ∀ i, i < 231 → h (π 0) i = r.2.1 (231 * (n - 1) + i) := by
  obtain ⟨h1, ⟨h2, h3, h4⟩, ⟨h5, h6, h7⟩, h8, h9, h10, h11⟩ := hR
  obtain ⟨a, M, b⟩ := h11 0 hn
  refine ⟨M, ⟨b.B hB, ⟨by omega, upd_s _ _ _, upd_s r.2.2.2.2 0 (nI (n - 1))⟩, ⟨h5, ?_, ?_⟩, h8, ?_, ?_, ?_⟩, fun i hi => a i hi⟩
  · rw [upd_n _ _ (by omega)]; exact h6
  · show upd r.2.2.2.2 0 (nI (n - 1)) 1 = _
    rw [upd_n _ _ (by omega)]; exact h7
  · intro k hk
    by_cases e : k < 3
    · rw [rotL_s π e]; exact h9 _ (by omega)
    · obtain rfl : k = 3 := by omega
      rw [rotL_3]; exact h9 0 (by omega)
  · have hv : ∀ k, k < 4 → ∃ j, j < 4 ∧ rotL π k = π j ∧ j % 4 = (k + 1) % 4 := by
      intro k hk
      by_cases e : k < 3
      · exact ⟨k + 1, by omega, rotL_s π e, by omega⟩
      · obtain rfl : k = 3 := by omega
        exact ⟨0, by omega, rotL_3 π, by omega⟩
    intro k l hk hl he
    obtain ⟨a, ha, ea, ma⟩ := hv k hk
    obtain ⟨b, hb, eb, mb⟩ := hv l hl
    have := h10 a b ha hb (by rw [← ea, ← eb]; exact he)
    omega
  · intro k hk
    rw [rotL_s π (by omega)]
    obtain ⟨a, M2, b⟩ := h11 (k + 1) (by omega)
    refine ⟨fun i hi => ?_, M2, b.B hB⟩
    rw [a i hi]
    exact congrArg r.2.1 (by omega)
/-- a character more -/
theorem Re_type {B C : Nat} {z : Zt} {h : Nat → Zt} {π : Nat → Nat} {f g : Zt} {r : Rt} {N n L : Nat} (hR : Re B z h π f g r N n L) (hB : B ≤ C) (y : Int32) :
    cTypA L y = tyAns y L ∧ ∃ L2, Re C z h π (if (32 ≤ y ∧ y ≤ 126) ∧ L < 60 then upd f L y else f) (if (32 ≤ y ∧ y ≤ 126) ∧ L < 60 then upd g 1 (nI (L + 1)) else g) (tyR r y L) N n L2 := by
  have hR0 := hR
  obtain ⟨h1, ⟨h2, h3, h4⟩, ⟨h5, h6, h7⟩, h8, h9, h10, h11⟩ := hR
  unfold cTypA tyAns tyR
  by_cases hv : 32 ≤ y ∧ y ≤ 126
  · by_cases hL : L < 60
    · rw [if_neg (not_not_intro hv), if_neg (not_not_intro hv), if_pos hL, if_neg (show ¬ L = 60 by omega), if_pos ⟨hv, hL⟩, if_pos ⟨hv, hL⟩, if_neg (show ¬ (¬ (32 ≤ y ∧ y ≤ 126) ∨ L = 60) from fun q => q.elim (fun q => q hv) (fun q => by omega))]
      refine ⟨rfl, L + 1, h1.B hB, ⟨h2, ?_, ?_⟩, ⟨by omega, upd_s _ _ _, upd_s r.2.2.2.2 1 (nI (L + 1))⟩, ?_, h9, h10, ?_⟩
      · rw [upd_n _ _ (by omega)]; exact h3
      · show upd r.2.2.2.2 1 (nI (L + 1)) 0 = _
        rw [upd_n _ _ (by omega)]; exact h4
      · intro i hi
        show upd f L y i = upd r.2.2.1 L y i
        by_cases e : i = L
        · subst e; rw [upd_s, upd_s]
        · rw [upd_n _ _ e, upd_n _ _ e]; exact h8 i (by omega)
      · intro k hk
        obtain ⟨a, M, b⟩ := h11 k hk
        exact ⟨a, M, b.B hB⟩
    · rw [if_neg (not_not_intro hv), if_neg (not_not_intro hv), if_neg hL, if_pos (show L = 60 by omega), if_neg (fun q => hL q.2), if_neg (fun q => hL q.2), if_pos (Or.inr (show L = 60 by omega))]
      exact ⟨rfl, L, Re_same hR0 hB rfl rfl rfl rfl rfl rfl⟩
  · rw [if_pos hv, if_pos hv, if_neg (fun q => hv q.1), if_neg (fun q => hv q.1), if_pos (Or.inl hv)]
    exact ⟨rfl, L, Re_same hR0 hB rfl rfl rfl rfl rfl rfl⟩
theorem Re_clear {B C : Nat} {z : Zt} {h : Nat → Zt} {π : Nat → Nat} {f g : Zt} {r : Rt} {N n L : Nat} (hR : Re B z h π f g r N n L) (hB : B ≤ C) : Re C z h π f (upd g 1 0) (r.1, r.2.1, r.2.2.1, r.2.2.2.1, upd r.2.2.2.2 1 0) N n 0 := by
  obtain ⟨h1, ⟨h2, h3, h4⟩, ⟨h5, h6, h7⟩, h8, h9, h10, h11⟩ := hR
  refine ⟨h1.B hB, ⟨h2, ?_, ?_⟩, ⟨by omega, upd_s _ _ _, upd_s r.2.2.2.2 1 0⟩, fun i hi => absurd hi (by omega), h9, h10, fun k hk => ?_⟩
  · rw [upd_n _ _ (by omega)]; exact h3
  · show upd r.2.2.2.2 1 0 0 = _
    rw [upd_n _ _ (by omega)]; exact h4
  · obtain ⟨a, M, b⟩ := h11 k hk
    exact ⟨a, M, b.B hB⟩
/-! the text's run, as fault and play tell it -/
theorem Re_sim {B : Nat} {z : Zt} {h : Nat → Zt} {π : Nat → Nat} {f g : Zt} {r : Rt} {N n L : Nat} (hR : Re B z h π f g r N n L) : sim (cAt f L) (tAt r.2.2.1 L) := by
  intro q
  unfold cAt tAt
  by_cases hq : q < L
  · rw [if_pos hq, if_pos hq]; exact Or.inl (hR.2.2.2.1 q hq)
  · rw [if_neg hq, if_neg hq]; exact Or.inr ⟨rfl, rfl⟩
section ends
variable {T W : Nat → Int32} {nu nv z g : Zt} {B N L : Nat}
/-- all that fault and play need -/
theorem run_tell (h : sim T W) (hI : INV B N z) (hB : B + 60 < 1000000) (hL : L ≤ 60) :
    (∀ k, k ≤ cxK T L nu z 60 0 → ∃ N1, N1 ≤ 16 ∧ cTz T nu z k 194 = nI N1) ∧
    ((cxZ T L nu z) 191 = 0 ∨ (cxZ T L nu z) 191 = 1) ∧
    (∀ q, (0 ≤ q ∧ q ≤ 2) → cTellF (cxG T L nu z g) q = mFault W L nv z q) ∧
    (if (cxG T L nu z g) 4 = 0 then (cxG T L nu z g) 2 else -1000002) = (if L ≤ tU W (txK W L nv z L 0) then nI (txK W L nv z L 0) else -1000002) ∧
    (L ≤ tU W (txK W L nv z L 0) → cxZ T L nu z = tZ W nv z (txK W L nv z L 0) ∧ (∃ M, INV (B + 60) M (tZ W nv z (txK W L nv z L 0))) ∧ 0 ≤ nI (txK W L nv z L 0)) := by
  obtain ⟨k, hk, e1, e2, ⟨hr, hu⟩, he⟩ := run_end (nu := nu) (nv := nv) h hI hB hL
  obtain ⟨ek, M, hM⟩ := hr k (Nat.le_refl k)
  have hz : ∀ j, j ≤ k → ∃ N1, N1 ≤ 16 ∧ cTz T nu z j 194 = nI N1 := fun j hj => by
    obtain ⟨a, M, b⟩ := hr j hj
    exact ⟨M, b.1.2, by rw [a]; exact b.1.1⟩
  rw [e2]
  refine ⟨fun j hj => hz j (by omega), ?_, ?_, ?_, ?_⟩
  · unfold cxZ
    rw [e1, sim_tU h, sim_ans h]
    by_cases g1 : L ≤ tU W k
    · rw [if_pos g1, ek]; exact hM.2.1
    rw [if_neg g1]
    by_cases g2 : rdAns W (tU W k) < 0
    · rw [if_pos g2, ek]; exact hM.2.1
    rw [if_neg g2]
    obtain ⟨o1, o2, o3⟩ := run_1 h hM (by omega) ek g2
    by_cases g3 : zNoOrd (tZ W nv z k) (W (tU W k)) (tNu W nv (k + 1)) < 0
    · rw [(o2 g3).2]; exact hM.2.1
    · obtain ⟨d1, M2, d2⟩ := o3 g3
      rw [d1]; exact d2.2.1
  · intro q hq
    unfold cTellF mFault cxG
    rw [if_neg (not_not_intro hq), e2, e1, sim_tU h]
    by_cases g1 : L ≤ tU W k
    · rw [if_pos g1, if_pos g1, if_pos (cTG_45 _ _ (Or.inl rfl) _)]
    rw [if_neg g1, if_neg g1]
    have he := (he.resolve_left g1).2
    have c4 : (cFail T nu z g k) 4 = tRea W k := by
      unfold cFail
      rw [upd_n _ _ (by omega), upd_s]
      unfold cRea tRea
      rw [sim_tU h, sim_ans h]
    have c3 : (cFail T nu z g k) 3 = nI (tU W k) := by
      unfold cFail
      rw [upd_n _ _ (by omega), upd_n _ _ (by omega), upd_n _ _ (by omega), upd_n _ _ (by omega), cTG_3, sim_tU h]
    have c5 : (cFail T nu z g k) 5 = tCau W nv z k := by
      unfold cFail
      rw [upd_s]
      unfold cCau
      rw [sim_tU h, sim_ans h, sim_brk h]
      by_cases g2 : rdAns W (tU W k) < 0
      · rw [if_pos g2]; unfold tCau; rw [if_pos g2]
      · rw [if_neg g2]
        have e9 : tCau W nv z k = zNoOrd (tZ W nv z k) (W (tU W k)) (tNu W nv (k + 1)) := by unfold tCau; rw [if_neg g2]
        obtain ⟨o1, o2, o3⟩ := run_1 h hM (by omega) ek g2
        rw [e9]
        exact (o2 (by rw [← e9]; exact he.resolve_left g2)).1
    have h0 : ¬ tRea W k = 0 := by unfold tRea; split <;> decide
    rw [c4, c3, c5, if_neg h0]
  · unfold cxG
    rw [e1, sim_tU h]
    by_cases g1 : L ≤ tU W k
    · rw [if_pos g1, if_pos g1, if_pos (cTG_45 _ _ (Or.inl rfl) _), cTG_2]
    · rw [if_neg g1, if_neg g1]
      have c4 : (cFail T nu z g k) 4 = cRea T k := by
        unfold cFail
        rw [upd_n _ _ (by omega), upd_s]
      have h0 : ¬ cRea T k = 0 := by unfold cRea; split <;> decide
      rw [c4, if_neg h0]
  · intro g1
    refine ⟨?_, ⟨M, hM.B (by omega)⟩, nI_pos' (by omega)⟩
    unfold cxZ
    rw [e1, sim_tU h, if_pos g1, ek]
end ends
