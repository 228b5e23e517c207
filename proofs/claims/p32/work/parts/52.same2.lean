/-! the loops of both sides -/
theorem cSailTo_eq {B N : Nat} {z : Zt} (h : INV B N z) : ∀ n, n ≤ N → cSailTo z n = zSailTo z n ∧ cLeft z n = zLeft z n
  | 0, _ => ⟨rfl, rfl⟩
  | n + 1, hn => by
    obtain ⟨i1, i2⟩ := cSailTo_eq h n (by omega)
    have e : cBal (zSailTo z n) n = zBal (zSailTo z n) n := (INV.sailTo h n (by omega)).bal (by omega)
    simp only [cSailTo, zSailTo, cLeft, zLeft, i1, i2, e, zBegin_0]
    exact ⟨trivial, trivial⟩
theorem cDayTo_eq {z : Zt} {m : Int32} (hs : seaIn z) : ∀ n, n ≤ 16 → upd (cDayTo z m n) 192 (z 192 + m) = zDayTo z m n
  | 0, _ => rfl
  | n + 1, hn => by
    have ih := cDayTo_eq (m := m) hs n (by omega)
    have h191 : cDayTo z m n 191 = z 191 := cDayTo_o z m n (fun k hk => by omega)
    have r : ∀ p, p ≠ 192 → zDayTo z m n p = cDayTo z m n p := fun p hp => by rw [← ih, upd_n _ _ hp]
    simp only [cDayTo, zDayTo]
    rw [r (10 * n + 2) (by omega), r 191 (by omega), r (10 * n + 3) (by omega), r (10 * n + 4) (by omega)]
    by_cases hg : cDayTo z m n (10 * n + 2) = 2
    · rw [if_neg (not_not_intro hg), if_neg (not_not_intro hg)]; exact ih
    · rw [if_pos hg, if_pos hg]
      unfold cDay
      rw [h191]
      by_cases h1 : z 191 = 1
      · rw [if_pos h1, if_pos (show ¬ z 191 = 0 by rw [h1]; decide), upd_comm (by omega), ih]
      · rw [if_neg h1, if_neg (show ¬ ¬ z 191 = 0 from not_not_intro (hs.resolve_right h1)), upd_comm (by omega), ih]
theorem bit_ne : ∀ n, n < 16 → ¬ ((1 : Int32) <<< (nI n &&& 31)) = 0 := by decide
theorem or_0 {a b : Int32} (h : a ||| b = 0) : a = 0 ∧ b = 0 := by
  have := Int32.or_eq_zero_iff.mp h
  exact this
theorem zSet_0 {z : Zt} {q : Int32} : ∀ n, n ≤ 16 → zSet z q n = 0 → ∀ k, k < n → ¬ z (10 * k + 2) = q
  | 0, _, _, _, hk => absurd hk (by omega)
  | n + 1, hn, h, k, hk => by
    simp only [zSet] at h
    obtain ⟨a, b⟩ := or_0 h
    by_cases e : k = n
    · subst e
      intro g
      rw [if_pos g] at b
      exact bit_ne k (by omega) b
    · exact zSet_0 n (by omega) a k (by omega)
theorem cLeaveTo_eq {B N : Nat} {z : Zt} {w : Int32} (h : INV B N z) (h0 : zSet z 1 N = 0) : ∀ n, n ≤ N → cLeaveTo z w n = zLeaveTo z w n ∧ cLeaveN z w n = zAbo z w n
  | 0, _ => ⟨rfl, rfl⟩
  | n + 1, hn => by
    obtain ⟨i1, i2⟩ := cLeaveTo_eq (w := w) h h0 n (by omega)
    have h16 := h.1.2
    have e1 : zLeaveTo z w n (10 * n + 1) = z (10 * n + 1) := zLeaveTo_o z w n (fun k hk => by omega)
    have e2 : zLeaveTo z w n (10 * n + 2) = z (10 * n + 2) := zLeaveTo_o z w n (fun k hk => by omega)
    have hne := zSet_0 N h16 h0 n (by omega)
    have h3 : z (10 * n + 2) = 0 ∨ z (10 * n + 2) = 1 ∨ z (10 * n + 2) = 2 := by
      obtain ⟨-, -, -, -, -, -, -, d, -, -, hd, hs⟩ := h
      obtain ⟨a, b, c, f, w, y, -, -, -, hs4⟩ := hs n (by omega)
      exact hs4
    have hc : (¬ z (10 * n + 2) = 2) ↔ z (10 * n + 2) = 0 := by
      rcases h3 with g | g | g
      · rw [g]; decide
      · exact absurd g hne
      · rw [g]; decide
    simp only [cLeaveTo, zLeaveTo, cLeaveN, zAbo, i1, i2, e1, e2, hc]
    exact ⟨trivial, trivial⟩
theorem noLeave_eq {B N : Nat} {z : Zt} (h : INV B N z) (w : Int32) : cNoLv z N w = zNoLeave z N w := by
  unfold cNoLv zNoLeave
  simp only [sea_iff h.2.1]
  by_cases h0 : zSet z 1 N = 0
  · rw [(cLeaveTo_eq (w := w) h h0 N (Nat.le_refl N)).2]
    simp only [h0, not_true_eq_false, or_false, false_or]
    by_cases g : z 191 = 1
    · simp [g]
    · simp [g]
  · simp [h0]
theorem zClear_id {z : Zt} {k : Nat} (h : ∀ p, 10 * k + 3 ≤ p → p ≤ 10 * k + 8 → z p = 0) : zClear z k = z := by
  funext i
  unfold zClear
  by_cases g : 10 * k + 3 ≤ i ∧ i ≤ 10 * k + 8
  · rw [if_pos g, h i g.1 g.2]
  · rw [if_neg g]
theorem cPOTo_eq {B N : Nat} {z : Zt} (h : INV B N z) : ∀ n, n ≤ N → cPOTo z n = zPOTo z n ∧ cPOSum z n = zPOSum z n
  | 0, _ => ⟨rfl, rfl⟩
  | n + 1, hn => by
    obtain ⟨e1, e2⟩ := cPOTo_eq h n (by omega)
    have hI := INV.poTo h n (by omega)
    have e : cBal (zPOTo z n) n = zBal (zPOTo z n) n := hI.bal (by omega)
    simp only [cPOTo, zPOTo, cPOSum, zPOSum, e1, e2]
    unfold cPO1
    simp only [e]
    by_cases hg : zPOTo z n (10 * n + 2) = 2
    · have hb : zBal (zPOTo z n) n = 0 := if_pos hg
      rw [hb]
      simp only [hg, not_true_eq_false, if_false]
      rw [if_neg (show ¬ (0 : Int32) < 0 by decide), if_neg (show ¬ (0 : Int32) < 0 by decide), if_neg (show ¬ (0 : Int32) < 0 by decide), zBegin_0]
      refine ⟨zClear_id ?_, rfl⟩
      obtain ⟨-, -, -, -, -, -, -, d, -, -, hd, hs⟩ := hI
      obtain ⟨a, b, c, f, w, y, ⟨ea, eb, ec, ef, ev, ey⟩, -, hs3, -⟩ := hs n (by omega)
      obtain ⟨r1, r2, r3, r4, r5, r6⟩ := hs3 hg
      rw [r1] at ea; rw [r2] at eb; rw [r3] at ec; rw [r4] at ef; rw [r5] at ev; rw [r6] at ey
      intro p p1 p2
      rcases (show p = 10 * n + 3 ∨ p = 10 * n + 4 ∨ p = 10 * n + 5 ∨ p = 10 * n + 6 ∨ p = 10 * n + 7 ∨ p = 10 * n + 8 by omega) with rfl | rfl | rfl | rfl | rfl | rfl <;> assumption
    · simp only [hg, not_false_eq_true, if_true]
      refine ⟨?_, trivial⟩
      have e5 : (if 0 < zBal (zPOTo z n) n then cPay (zPOTo z n) n (zBal (zPOTo z n) n) else zPOTo z n) = zPO1 (zPOTo z n) n := by
        unfold zPO1
        by_cases g : 0 < zBal (zPOTo z n) n
        · rw [if_pos g, if_pos g, cPay_eq (Int32.le_of_lt g)]
        · rw [if_neg g, if_neg g]
      rw [e5]
      unfold zBegin
      congr 1
      by_cases g : zBal (zPOTo z n) n < 0
      · rw [if_pos g, if_pos g, Int32.neg_neg]
      · rw [if_neg g, if_neg g]; decide
theorem cDoPO_eq {B N : Nat} {z : Zt} (h : INV B N z) : cDoPO z N = zDoPO z N := by
  unfold cDoPO zDoPO; rw [(cPOTo_eq h N (Nat.le_refl N)).1]
/-- what is paid together -/
theorem poSum_in {B N : Nat} {z : Zt} (h : INV B N z) : ∀ n, n ≤ N → ∃ q : Int, zPOSum z n = iI q ∧ 0 ≤ q ∧ q ≤ 4000 * n
  | 0, _ => ⟨0, i0, by omega, by omega⟩
  | n + 1, hn => by
    obtain ⟨q, e, h0, h1⟩ := poSum_in h n (by omega)
    obtain ⟨b, eb, -, hb1, hb2, -⟩ := (INV.poTo h n (by omega)).bal2 (k := n) (by omega)
    simp only [zPOSum]
    rw [e, eb]
    split
    · split
      · rename_i g
        have h16 := h.1.2
        rw [i0, iI_lt (by omega) (by omega) (by omega) (by omega)] at g
        exact ⟨q + b, iI_add q b, by omega, by omega⟩
      · exact ⟨q, rfl, h0, by omega⟩
    · exact ⟨q, rfl, h0, by omega⟩
/-! fines of a watch -/
theorem zOfW_congr {z z2 : Zt} {w : Int32} : ∀ n, (∀ k, k < n → z2 (10 * k + 1) = z (10 * k + 1) ∧ z2 (10 * k + 2) = z (10 * k + 2)) → zOfW z2 w n = zOfW z w n
  | 0, _ => rfl
  | n + 1, h => by
    simp only [zOfW]
    rw [zOfW_congr n (fun k hk => h k (by omega)), (h n (by omega)).1, (h n (by omega)).2]
theorem cLo_eq (z : Zt) (w : Int32) (r : Int) : ∀ n, cLo z w (iI r) n = iI (r - zOfW z w n)
  | 0 => by simp [cLo, zOfW]
  | n + 1 => by
    simp only [cLo, zOfW]
    rw [cLo_eq z w r n]
    by_cases g : z (10 * n + 1) = w ∧ ¬ z (10 * n + 2) = 2
    · rw [if_pos g, if_pos g, i1, iI_sub]; exact congrArg iI (by omega)
    · rw [if_neg g, if_neg g]; rfl
/-- the part of each, as both sides tell it -/
theorem part_eq {z : Zt} {N : Nat} {w : Int32} {x : Int} (h16 : N ≤ 16) (hx1 : 1 ≤ x) (hx : x ≤ 999) (hM : 0 < zOfW z w N) {k : Nat} (hk : k ≤ N) :
    cPart z w (iI x / nI (zOfW z w N)) (iI x - iI x / nI (zOfW z w N) * nI (zOfW z w N)) k = zPart z N k w (iI x) ∧ ∃ n : Int, 0 ≤ n ∧ n ≤ 1000 ∧ zPart z N k w (iI x) = iI n := by
  have hM2 := zOfW_le z w N
  have hK := zOfW_le z w k
  generalize hMM : zOfW z w N = M at *
  have ed : iI x / nI M = iI (x / M) := by rw [iI_nat, iI_div (by omega) (by omega) (by omega) (by omega)]
  have hdm := Int.mul_ediv_add_emod x M
  have hm0 := Int.emod_nonneg x (show (M : Int) ≠ 0 by omega)
  have hm1 := Int.emod_lt_of_pos x (show (0 : Int) < M by omega)
  have hq0 : 0 ≤ x / (M : Int) := Int.ediv_nonneg (by omega) (by omega)
  have hq1 : x / (M : Int) ≤ x := Int.ediv_le_self _ (by omega)
  have er : iI x - iI (x / M) * nI M = iI (x % M) := by
    rw [iI_nat, iI_mul, iI_sub]
    refine congrArg iI ?_
    rw [Int.mul_comm (x / M) M]; omega
  unfold cPart zPart
  rw [hMM, ed, er, cLo_eq, iI_nat (zOfW z w k), i0, i1]
  have L1 : iI 0 < iI (x % (M : Int) - zOfW z w k) ↔ 0 < x % (M : Int) - zOfW z w k := iI_lt (by omega) (by omega) (by omega) (by omega)
  have L2 : iI (zOfW z w k) < iI (x % (M : Int)) ↔ (zOfW z w k : Int) < x % (M : Int) := iI_lt (by omega) (by omega) (by omega) (by omega)
  by_cases g : (zOfW z w k : Int) < x % M
  · rw [if_pos (L1.mpr (by omega)), if_pos (L2.mpr g)]
    exact ⟨rfl, x / M + 1, by omega, by omega, iI_add _ _⟩
  · rw [if_neg (mt L1.mp (by omega)), if_neg (mt L2.mp g)]
    exact ⟨by rw [iI_add, Int.add_zero], x / M, by omega, by omega, by rw [iI_add, Int.add_zero]⟩
theorem zCan_iff {z : Zt} {N : Nat} {w x : Int32} : ∀ n, (zCan z N w x n = true ↔ 0 < zOfW z w N ∧ ∀ k, k < n → (z (10 * k + 1) = w ∧ ¬ z (10 * k + 2) = 2) → ¬ zBal z k - zPart z N k w x < -4000)
  | 0 => by simp [zCan]
  | n + 1 => by
    simp only [zCan, Bool.and_eq_true, zCan_iff n, Bool.or_eq_true, Bool.not_eq_true', decide_eq_false_iff_not]
    constructor
    · rintro ⟨⟨h1, h2⟩, h3⟩
      refine ⟨h1, fun k hk hf => ?_⟩
      by_cases e : k = n
      · subst e; exact h3.resolve_left (fun q => q hf)
      · exact h2 k (by omega) hf
    · rintro ⟨h1, h2⟩
      refine ⟨⟨h1, fun k hk => h2 k (by omega)⟩, ?_⟩
      by_cases hf : z (10 * n + 1) = w ∧ ¬ z (10 * n + 2) = 2
      · exact Or.inr (h2 n (by omega) hf)
      · exact Or.inl hf
theorem cCan_iff {z : Zt} {w p lo : Int32} : ∀ f k, (cCan z w p lo f k = true ↔ ∀ j, k ≤ j → j < k + f → (z (10 * j + 1) = w ∧ ¬ z (10 * j + 2) = 2) → ¬ cBal z j - cPart z w p lo j < -4000)
  | 0, k => by
    simp only [cCan, true_iff]
    intro j h1 h2; omega
  | f + 1, k => by
    simp only [cCan]
    by_cases g : (z (10 * k + 1) = w ∧ ¬ z (10 * k + 2) = 2) ∧ cBal z k - cPart z w p lo k < -4000
    · rw [if_pos g]
      constructor
      · intro q; exact absurd q (by decide)
      · intro q; exact absurd g.2 (q k (Nat.le_refl k) (by omega) g.1)
    · rw [if_neg g, cCan_iff f (k + 1)]
      constructor
      · intro q j h1 h2 hf
        by_cases e : j = k
        · subst e; exact fun q2 => g ⟨hf, q2⟩
        · exact q j (by omega) (by omega) hf
      · intro q j h1 h2 hf; exact q j (by omega) (by omega) hf
theorem noFW_eq {B N : Nat} {z : Zt} (h : INV B N z) (w x : Int32) : cNoFW z N w x = zNoFW z N w x := by
  unfold cNoFW zNoFW
  by_cases hv : ¬ (0 ≤ w ∧ w ≤ 1) ∨ ¬ (1 ≤ x ∧ x ≤ 999)
  · rw [if_pos hv, if_pos hv]
  rw [if_neg hv, if_neg hv]
  have hx : 1 ≤ x ∧ x ≤ 999 := Classical.byContradiction (fun q => hv (Or.inr q))
  rw [i999] at hx
  obtain ⟨y, rfl, hy1, hy9⟩ := in_1 (by omega) (by omega) hx
  have hz := zCan_iff (z := z) (N := N) (w := w) (x := iI y) N
  by_cases hM : zOfW z w N = 0
  · rw [if_pos hM, if_neg]
    intro q; have := (hz.mp q).1; omega
  · rw [if_neg hM]
    have hc := cCan_iff (z := z) (w := w) (p := iI y / nI (zOfW z w N)) (lo := iI y - iI y / nI (zOfW z w N) * nI (zOfW z w N)) N 0
    have hh : cCan z w (iI y / nI (zOfW z w N)) (iI y - iI y / nI (zOfW z w N) * nI (zOfW z w N)) N 0 = true ↔ zCan z N w (iI y) N = true := by
      rw [hc, hz]
      constructor
      · intro q
        refine ⟨by omega, fun k hk hf => ?_⟩
        have := q k (by omega) (by omega) hf
        rw [h.bal hk, (part_eq h.1.2 hy1 hy9 (by omega) (by omega)).1] at this
        exact this
      · rintro ⟨-, q⟩ j h1 h2 hf
        rw [h.bal (by omega), (part_eq h.1.2 hy1 hy9 (by omega) (by omega)).1]
        exact q j (by omega) hf
    by_cases g : zCan z N w (iI y) N = true
    · rw [if_pos g, if_neg (not_not_intro (hh.mpr g))]
    · rw [if_neg g, if_pos (mt hh.mp g)]
theorem fineTo_all {B N : Nat} {z : Zt} {w : Int32} {x : Int} (h : INV B N z) (hx1 : 1 ≤ x) (hx : x ≤ 999) (hc : zCan z N w (iI x) N = true) : ∀ n, n ≤ N → INV B N (zFineTo z N w (iI x) n) ∧ cFineTo z w (iI x / nI (zOfW z w N)) (iI x - iI x / nI (zOfW z w N) * nI (zOfW z w N)) n = zFineTo z N w (iI x) n
  | 0, _ => ⟨h, rfl⟩
  | n + 1, hn => by
    obtain ⟨hI, he⟩ := fineTo_all h hx1 hx hc n (by omega)
    have h16 := h.1.2
    obtain ⟨hM, hcan⟩ := (zCan_iff N).mp hc
    obtain ⟨hp, v, hv0, hv1, hv⟩ := part_eq (z := z) (w := w) h16 hx1 hx hM (k := n) (by omega)
    have r : ∀ i, i < 206 → i ≠ 201 → i ≠ 200 → i ≠ 198 → (∀ k, k < n → i ≠ 10 * k + 6) → zFineTo z N w (iI x) n i = z i := fun i a b c d e => zFineTo_lo z N w (iI x) a b c d n e
    have hw : ∀ q, q ≤ N → zOfW (zFineTo z N w (iI x) n) w q = zOfW z w q := fun q hq => zOfW_congr q (fun k hk => ⟨r _ (by omega) (by omega) (by omega) (by omega) (by omega), r _ (by omega) (by omega) (by omega) (by omega) (by omega)⟩)
    have hpp : zPart (zFineTo z N w (iI x) n) N n w (iI x) = iI v := by
      rw [← hv]; unfold zPart; rw [hw N (Nat.le_refl N), hw n (by omega)]
    have e1 : zFineTo z N w (iI x) n (10 * n + 1) = z (10 * n + 1) := r _ (by omega) (by omega) (by omega) (by omega) (by omega)
    have e2 : zFineTo z N w (iI x) n (10 * n + 2) = z (10 * n + 2) := r _ (by omega) (by omega) (by omega) (by omega) (by omega)
    have hcp : (if 0 < cLo z w (iI x - iI x / nI (zOfW z w N) * nI (zOfW z w N)) n then iI x / nI (zOfW z w N) + 1 else iI x / nI (zOfW z w N)) = iI v := hp.trans hv
    simp only [zFineTo, cFineTo, he, hpp, hcp]
    by_cases g : zFineTo z N w (iI x) n (10 * n + 1) = w ∧ ¬ zFineTo z N w (iI x) n (10 * n + 2) = 2
    · rw [if_pos g, if_pos g, cFine_eq (by omega) (by rw [i0, iI_le (by omega) (by omega) (by omega) (by omega)]; omega)]
      refine ⟨hI.doFine (by omega) hv0 (by omega) g.2 ?_, rfl⟩
      rw [zBal_congr (fun i h1 h2 => r i (by omega) (by omega) (by omega) (by omega) (by omega)), ← hv]
      exact hcan n (by omega) (by rw [← e1, ← e2]; exact g)
    · rw [if_neg g, if_neg g]; exact ⟨hI, rfl⟩
