theorem upd_comm {z : Zt} {i j : Nat} {v w : Int32} (h : i ≠ j) : upd (upd z i v) j w = upd (upd z j w) i v := by
  funext q; simp only [upd]
  by_cases h1 : q = j
  · subst h1; rw [if_pos rfl, if_neg (fun e => h e.symm), if_pos rfl]
  · rw [if_neg h1, if_neg h1]
theorem in_1 {x : Int32} {n : Int} (h0 : 0 ≤ n) (hn : n < 2147483648) (h : 1 ≤ x ∧ x ≤ iI n) : ∃ m : Int, x = iI m ∧ 1 ≤ m ∧ m ≤ n := by
  have h1 := Int32.le_iff_toInt_le.mp h.1
  have h2 := Int32.le_iff_toInt_le.mp h.2
  rw [i1, iI_toInt (by decide) (by decide)] at h1
  rw [iI_toInt (by omega) hn] at h2
  exact ⟨x.toInt, iI_self x, h1, h2⟩
theorem in_0 {x : Int32} {n : Int} (h0 : 0 ≤ n) (hn : n < 2147483648) (h : 0 ≤ x ∧ x ≤ iI n) : ∃ m : Int, x = iI m ∧ 0 ≤ m ∧ m ≤ n := by
  have h1 := Int32.le_iff_toInt_le.mp h.1
  have h2 := Int32.le_iff_toInt_le.mp h.2
  rw [i0, iI_toInt (by decide) (by decide)] at h1
  rw [iI_toInt (by omega) hn] at h2
  exact ⟨x.toInt, iI_self x, h1, h2⟩

/-- m coins at most 99, what is sold of an item -/
theorem mul_bd {m b M S : Int} (h1 : 0 ≤ m) (h2 : m ≤ M) (h3 : 0 ≤ b) (h4 : b ≤ S) : 0 ≤ m * b ∧ m * b ≤ M * S := by
  refine ⟨Int.mul_nonneg h1 h3, ?_⟩
  exact Int.mul_le_mul h2 h4 h3 (by omega)
theorem INV.doSell {B N k j : Nat} {z : Zt} {m : Int} (h : INV B N z) (hk : k < N) (hj : j < 6) (hm1 : 1 ≤ m) (hm : m ≤ 99) (hw : zWhy z k j (iI m) = 0) : INV B N (zDoSell z k j (iI m)) ∧ ∃ n : Int, 0 ≤ n ∧ n ≤ 100000 ∧ iI m * z (160 + 5 * j + 1) = iI n := by
  have h16 := h.1.2
  obtain ⟨a, b, ea, eb, ha0, ha5, hb0, hb3, hab⟩ := h.2.2.2.2.2.2.1 j hj
  obtain ⟨s0, s1, s2, ⟨es, hs0, hs5⟩, -, -⟩ := h.2.2.1
  obtain ⟨q, eq, -, hq1, hq2, -⟩ := h.bal2 hk
  have hn := mul_bd (m := m) (b := b) (M := 99) (S := 300) (by omega) hm hb0 hb3
  unfold zWhy at hw
  by_cases g1 : z (10 * k + 2) = 0
  case neg => rw [if_pos g1] at hw; exact absurd hw (by decide)
  rw [if_neg (not_not_intro g1)] at hw
  by_cases g2 : z (160 + 5 * j + 0) < iI m
  · rw [if_pos g2] at hw; exact absurd hw (by decide)
  rw [if_neg g2] at hw
  by_cases g3 : zBal z k - iI m * z (160 + 5 * j + 1) < -(z 203)
  · rw [if_pos g3] at hw; exact absurd hw (by decide)
  have g2' : ¬ iI a < iI m := by rw [← ea]; exact g2
  rw [iI_lt (by omega) (by omega) (by omega) (by omega)] at g2'
  rw [eq, eb, es, iI_mul, iI_sub, iI_neg, iI_lt (by omega) (by omega) (by omega) (by omega)] at g3
  have en : iI m * z (160 + 5 * j + 1) = iI (m * b) := by rw [eb, iI_mul]
  refine ⟨?_, m * b, hn.1, by omega, en⟩
  unfold zDoSell
  rw [en]
  have hI : INV B N (upd (upd (upd z (160 + 5 * j + 0) (z (160 + 5 * j + 0) - iI m)) (160 + 5 * j + 3) (z (160 + 5 * j + 3) + iI m)) (160 + 5 * j + 4) (z (160 + 5 * j + 4) + iI (m * b))) := by
    refine INV.free (INV.free (h.item0 hj ?_) (Or.inr (Or.inr (Or.inr ⟨j, hj, by omega, by omega⟩)))) (Or.inr (Or.inr (Or.inr ⟨j, hj, by omega, by omega⟩)))
    refine ⟨a - m, b, ?_, ?_, by omega, by omega, hb0, hb3, by omega⟩
    · show upd z (160 + 5 * j) _ (160 + 5 * j) = _
      rw [upd_s]
      show z (160 + 5 * j) - iI m = _
      rw [ea, iI_sub]
    · rw [upd_n _ _ (by omega), eb]
  have hne : ∀ p, p < 160 → (upd (upd (upd z (160 + 5 * j + 0) (z (160 + 5 * j + 0) - iI m)) (160 + 5 * j + 3) (z (160 + 5 * j + 3) + iI m)) (160 + 5 * j + 4) (z (160 + 5 * j + 4) + iI (m * b))) p = z p := fun p hp => by
    rw [upd_n _ _ (by omega), upd_n _ _ (by omega), upd_n _ _ (by omega)]
  refine hI.charge hk (Or.inl rfl) (q := q) ?_ hn.1 ?_ (by omega) (by omega) (by omega)
  · rw [hne _ (by omega), g1]; decide
  · rw [zBal_congr (fun i h1 h2 => hne i (by omega)), eq]
theorem price_iI {c s : Int} (hc1 : 1 ≤ c) (hc : c ≤ 99) (hs0 : 0 ≤ s) (hs : s ≤ 200) : iI c + iI c * iI s / 100 = iI (c + c * s / 100) ∧ 1 ≤ c + c * s / 100 ∧ c + c * s / 100 ≤ 300 := by
  have hn := mul_bd (m := c) (b := s) (M := 99) (S := 200) (by omega) hc hs0 hs
  generalize hx : c * s = x at *
  rw [iI_mul, hx, i100, iI_div (by omega) (by omega) (by omega) (by omega), iI_add]
  exact ⟨rfl, by omega, by omega⟩
theorem INV.doStock {B N j : Nat} {z : Zt} {m c : Int} (h : INV B N z) (hj : j < 6) (hm1 : 1 ≤ m) (hm : m ≤ 99) (hc1 : 1 ≤ c) (hc : c ≤ 99) (hw : ¬ 500 < z (160 + 5 * j + 0) + iI m) : INV B N (zDoStock z j (iI m) (iI c)) ∧ ∃ n : Int, 1 ≤ n ∧ n ≤ 300 ∧ zPrice z (iI c) = iI n := by
  obtain ⟨a, b, ea, eb, ha0, ha5, hb0, hb3, hab⟩ := h.2.2.2.2.2.2.1 j hj
  obtain ⟨s0, s1, s2, -, ⟨es, hs0, hs5⟩, -⟩ := h.2.2.1
  obtain ⟨p1, p2, p3⟩ := price_iI hc1 hc hs0 hs5
  have ep : zPrice z (iI c) = iI (c + c * s1 / 100) := by unfold zPrice; rw [es, p1]
  have hn := mul_bd (m := m) (b := c) (M := 99) (S := 99) (by omega) hm (by omega) hc
  have ea' : z (160 + 5 * j + 0) = iI a := ea
  rw [ea', i500, iI_add, iI_lt (by omega) (by omega) (by omega) (by omega)] at hw
  refine ⟨?_, _, p2, p3, ep⟩
  unfold zDoStock
  rw [iI_mul, ep, ea', iI_add, upd_comm (i := 160 + 5 * j + 2) (j := 160 + 5 * j + 1) (by omega)]
  refine INV.spend (INV.free (INV.free (h.item hj ?_) (Or.inr (Or.inr (Or.inr ⟨j, hj, by omega, by omega⟩)))) (Or.inl (by omega))) hn.1 (by omega)
  refine ⟨a + m, c + c * s1 / 100, ?_, ?_, by omega, by omega, by omega, by omega, by omega⟩
  · rw [upd_n _ _ (by omega)]; exact upd_s _ _ _
  · rw [upd_s]
theorem INV.doAdv {B N k : Nat} {z : Zt} {m : Int} (h : INV B N z) (hk : k < N) (hm1 : 1 ≤ m) (hm : m ≤ 999) (hg : ¬ z (10 * k + 2) = 2) (hw : ¬ zBal z k < iI m) : INV B N (zDoAdv z k (iI m)) := by
  obtain ⟨q, eq, -, hq1, hq2, -⟩ := h.bal2 hk
  rw [eq, iI_lt (by omega) (by omega) (by omega) (by omega)] at hw
  unfold zDoAdv
  exact (h.charge hk (Or.inr (Or.inr rfl)) hg (by omega) eq (by omega) (by omega) (by omega)).spend (by omega) (by omega)
theorem INV.doFine {B N k : Nat} {z : Zt} {m : Int} (h : INV B N z) (hk : k < N) (hm1 : 0 ≤ m) (hm : m ≤ 100000) (hg : ¬ z (10 * k + 2) = 2) (hw : ¬ zBal z k - iI m < -4000) : INV B N (zCharge z k 6 (iI m)) := by
  obtain ⟨q, eq, -, hq1, hq2, -⟩ := h.bal2 hk
  rw [eq, iI_sub, im4000, iI_lt (by omega) (by omega) (by omega) (by omega)] at hw
  exact h.charge hk (Or.inr (Or.inl rfl)) hg (by omega) eq (by omega) (by omega) (by omega)
/-- one sailor is somewhere else -/
theorem INV.where_ {B N k : Nat} {z : Zt} {v : Int32} (h : INV B N z) (hk : k < N) (hv : v = 0 ∨ v = 1) : INV B N (upd z (10 * k + 2) v) := by
  have h16 := h.1.2
  have hne : ∀ p, p ≠ 10 * k + 2 → upd z (10 * k + 2) v p = z p := fun p hp => upd_n _ _ hp
  refine h.mk2 (hne _ (by omega)) (hne _ (by omega)) (hne _ (by omega)) (hne _ (by omega)) (hne _ (by omega)) (hne _ (by omega)) (hne _ (by omega)) (cash_congr (hne _ (by omega)) h.2.2.2.1) (ent_congr (hne _ (by omega)) h.2.2.2.2.1) (fun j hj hi => itIn_congr (hne _ (by omega)) (hne _ (by omega)) hi) ?_
  intro k2 hk2 d hd _ hs
  by_cases e : k2 = k
  · subst e
    obtain ⟨a, b, c, f, w, y, hs1, hs2, -, -⟩ := hs
    refine ⟨a, b, c, f, w, y, ?_, ?_, ?_, ?_⟩
    · rw [hne _ (by omega), hne _ (by omega), hne _ (by omega), hne _ (by omega), hne _ (by omega), hne _ (by omega)]; exact hs1
    · rw [hne _ (by omega)]; exact hs2
    · rw [upd_s]; intro g; rcases hv with e | e <;> rw [e] at g <;> exact absurd g (by decide)
    · rw [upd_s]; rcases hv with e | e
      · exact Or.inl e
      · exact Or.inr (Or.inl e)
  · exact sIn_congr (fun i h1 h2 _ => hne _ (by omega)) hs
theorem INV.doBack {B N k : Nat} {z : Zt} {m : Int} (h : INV B N z) (hk : k < N) (hm1 : 0 ≤ m) (hm : m ≤ 99) (hg : z (10 * k + 2) = 1) (hw : ¬ zBal z k - iI m * z 205 < -4000) : INV B N (zDoBack z k (iI m)) ∧ ∃ n : Int, 0 ≤ n ∧ n ≤ 100000 ∧ iI m * z 205 = iI n := by
  obtain ⟨s0, s1, s2, -, -, ⟨es, hs0, hs5⟩⟩ := h.2.2.1
  have hn := mul_bd (m := m) (b := s2) (M := 99) (S := 50) (by omega) hm hs0 hs5
  have en : iI m * z 205 = iI (m * s2) := by rw [es, iI_mul]
  refine ⟨?_, m * s2, hn.1, by omega, en⟩
  have h16 := h.1.2
  unfold zDoBack
  rw [en] at hw ⊢
  have hb : zBal (upd z (10 * k + 2) 0) k = zBal z k := by
    unfold zBal
    rw [upd_s, hg, if_neg (by decide), if_neg (by decide)]
    unfold zEarn zChg
    rw [upd_n _ _ (by omega), upd_n _ _ (by omega), upd_n _ _ (by omega), upd_n _ _ (by omega), upd_n _ _ (by omega), upd_n _ _ (by omega), upd_n _ _ (by omega)]
  refine (h.where_ hk (Or.inl rfl)).doFine hk hn.1 (by omega) ?_ ?_
  · rw [upd_s]; decide
  · rw [hb]; exact hw
theorem INV.leaveTo {B N : Nat} {z : Zt} {w : Int32} (h : INV B N z) : ∀ n, n ≤ N → INV B N (zLeaveTo z w n)
  | 0, _ => h
  | n + 1, hn => by
    have ih := INV.leaveTo (w := w) h n (by omega)
    simp only [zLeaveTo]
    split
    · exact ih.where_ (by omega) (Or.inr rfl)
    · exact ih
/-- a sailor's sums are emptied; then the carried debt q -/
theorem INV.clear {B N k : Nat} {z : Zt} {q : Int} (h : INV B N z) (hk : k < N) (hq : q ≤ 0) (hq2 : -4000 ≤ q) (hg : z (10 * k + 2) = 2 → q = 0) : INV B N (upd (zClear z k) (10 * k + 8) (iI q)) := by
  have h16 := h.1.2
  have hne : ∀ p, p < 10 * k + 3 ∨ 10 * k + 8 < p → upd (zClear z k) (10 * k + 8) (iI q) p = z p := fun p hp => by
    rw [upd_n _ _ (by omega)]; unfold zClear; rw [if_neg (by omega)]
  refine h.mk2 (hne _ (by omega)) (hne _ (by omega)) (hne _ (by omega)) (hne _ (by omega)) (hne _ (by omega)) (hne _ (by omega)) (hne _ (by omega)) (cash_congr (hne _ (by omega)) h.2.2.2.1) (ent_congr (hne _ (by omega)) h.2.2.2.2.1) (fun j hj hi => itIn_congr (hne _ (by omega)) (hne _ (by omega)) hi) ?_
  intro k2 hk2 d hd _ hs
  by_cases e : k2 = k
  · subst e
    obtain ⟨a, b, c, f, w, y, hs1, hs2, hs3, hs4⟩ := hs
    have hz : ∀ p, 10 * k2 + 3 ≤ p → p ≤ 10 * k2 + 7 → upd (zClear z k2) (10 * k2 + 8) (iI q) p = 0 := fun p h1 h2 => by
      rw [upd_n _ _ (by omega)]; unfold zClear; rw [if_pos (by omega)]
    have hw := wgI_0 (z (10 * k2))
    refine ⟨0, 0, 0, 0, 0, q, ?_, ?_, ?_, ?_⟩
    · rw [hz _ (by omega) (by omega), hz _ (by omega) (by omega), hz _ (by omega) (by omega), hz _ (by omega) (by omega), hz _ (by omega) (by omega), upd_s]
      exact ⟨i0, i0, i0, i0, i0, rfl⟩
    · rw [hne _ (by omega)]; omega
    · rw [hne _ (by omega)]; intro g; exact ⟨rfl, rfl, rfl, rfl, rfl, hg g⟩
    · rw [hne _ (by omega)]; exact hs4
  · exact sIn_congr (fun i h1 h2 _ => hne _ (by omega)) hs
/-- a sailor is gone: the sums empty -/
theorem INV.gone {B N k : Nat} {z : Zt} (h : INV B N z) (hk : k < N) : INV B N (zClear (upd z (10 * k + 2) 2) k) := by
  have h16 := h.1.2
  have hne : ∀ p, p < 10 * k + 2 ∨ 10 * k + 8 < p → zClear (upd z (10 * k + 2) 2) k p = z p := fun p hp => by
    unfold zClear; rw [if_neg (by omega), upd_n _ _ (by omega)]
  refine h.mk2 (hne _ (by omega)) (hne _ (by omega)) (hne _ (by omega)) (hne _ (by omega)) (hne _ (by omega)) (hne _ (by omega)) (hne _ (by omega)) (cash_congr (hne _ (by omega)) h.2.2.2.1) (ent_congr (hne _ (by omega)) h.2.2.2.2.1) (fun j hj hi => itIn_congr (hne _ (by omega)) (hne _ (by omega)) hi) ?_
  intro k2 hk2 d hd _ hs
  by_cases e : k2 = k
  · subst e
    have hd0 : 0 ≤ d := by obtain ⟨a, b, c, f, w, y, hs1, hs2, hs3, hs4⟩ := hs; omega
    have hz : ∀ p, 10 * k2 + 3 ≤ p → p ≤ 10 * k2 + 8 → zClear (upd z (10 * k2 + 2) 2) k2 p = 0 := fun p h1 h2 => by
      unfold zClear; rw [if_pos (by omega)]
    have h2 : zClear (upd z (10 * k2 + 2) 2) k2 (10 * k2 + 2) = 2 := by unfold zClear; rw [if_neg (by omega), upd_s]
    have hw := wgI_0 (z (10 * k2))
    refine ⟨0, 0, 0, 0, 0, 0, ?_, ?_, ?_, ?_⟩
    · rw [hz _ (by omega) (by omega), hz _ (by omega) (by omega), hz _ (by omega) (by omega), hz _ (by omega) (by omega), hz _ (by omega) (by omega), hz _ (by omega) (by omega)]
      exact ⟨i0, i0, i0, i0, i0, i0⟩
    · rw [hne _ (by omega)]; omega
    · intro _; exact ⟨rfl, rfl, rfl, rfl, rfl, rfl⟩
    · rw [h2]; exact Or.inr (Or.inr rfl)
  · exact sIn_congr (fun i h1 h2 _ => hne _ (by omega)) hs
theorem INV.sailTo {B N : Nat} {z : Zt} (h : INV B N z) : ∀ n, n ≤ N → INV B N (zSailTo z n)
  | 0, _ => h
  | n + 1, hn => by
    have ih := INV.sailTo h n (by omega)
    simp only [zSailTo]
    split
    · exact (ih.free (Or.inl (by omega))).gone (by omega)
    · exact ih
/-- the ship's place and the ports -/
theorem INV.sea {B N : Nat} {z : Zt} {v : Int32} (h : INV B N z) (hv : v = 0 ∨ v = 1) : INV B N (upd z 191 v) := by
  have h16 := h.1.2
  have hne : ∀ p, p ≠ 191 → upd z 191 v p = z p := fun p hp => upd_n _ _ hp
  obtain ⟨⟨h1, -⟩, h2, h3, h4, h5, h6, h7, ⟨d, hd, hd0, hd9, h8⟩⟩ := h
  refine ⟨⟨by rw [hne _ (by omega)]; exact h1, h16⟩, ?_, ?_, cash_congr (hne _ (by omega)) h4, ent_congr (hne _ (by omega)) h5, ?_, fun j hj => itIn_congr (hne _ (by omega)) (hne _ (by omega)) (h7 j hj), d, by rw [hne _ (by omega)]; exact hd, hd0, hd9, fun k hk => sIn_congr (fun i h1 h2 _ => hne _ (by omega)) (h8 k hk)⟩
  · unfold seaIn; rw [upd_s]; exact hv
  · unfold setIn; rw [hne _ (by omega), hne _ (by omega), hne _ (by omega)]; exact h3
  · unfold ptIn; rw [hne _ (by omega)]; exact h6
theorem INV.doPort {B N : Nat} {z : Zt} (h : INV B N z) : INV (B + 1) N (zDoPort z) ∧ ∃ P : Nat, P ≤ B + 1 ∧ z 193 + 1 = nI P := by
  obtain ⟨P, hP, eP⟩ := h.2.2.2.2.2.1
  have e1 : z 193 + 1 = nI (P + 1) := by rw [eP]; exact nI_1 P
  refine ⟨?_, P + 1, by omega, e1⟩
  have h := (h.sea (v := 0) (Or.inl rfl)).B (Nat.le_succ B)
  unfold zDoPort
  have h16 := h.1.2
  generalize hZ : upd z 191 0 = Z at *
  have hne : ∀ p, p ≠ 193 → upd Z 193 (z 193 + 1) p = Z p := fun p hp => upd_n _ _ hp
  obtain ⟨⟨h1, -⟩, h2, h3, h4, h5, h6, h7, ⟨d, hd, hd0, hd9, h8⟩⟩ := h
  refine ⟨⟨by rw [hne _ (by omega)]; exact h1, h16⟩, ?_, ?_, cash_congr (hne _ (by omega)) h4, ent_congr (hne _ (by omega)) h5, ⟨P + 1, by omega, ?_⟩, fun j hj => itIn_congr (hne _ (by omega)) (hne _ (by omega)) (h7 j hj), d, by rw [hne _ (by omega)]; exact hd, hd0, hd9, fun k hk => sIn_congr (fun i h1 h2 _ => hne _ (by omega)) (h8 k hk)⟩
  · unfold seaIn; rw [hne _ (by omega)]; exact h2
  · unfold setIn; rw [hne _ (by omega), hne _ (by omega), hne _ (by omega)]; exact h3
  · rw [upd_s, e1]
