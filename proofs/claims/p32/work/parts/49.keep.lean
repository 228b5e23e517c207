/-! THE BOUNDS ARE KEPT by each step of the reference -/
theorem INV.mk2 {B N : Nat} {z z2 : Zt} (h : INV B N z) (e191 : z2 191 = z 191) (e192 : z2 192 = z 192) (e193 : z2 193 = z 193) (e194 : z2 194 = z 194) (e203 : z2 203 = z 203) (e204 : z2 204 = z 204) (e205 : z2 205 = z 205)
    (hc : cashIn z2) (hE : entIn z2) (hj : ∀ j, j < 6 → itIn z j → itIn z2 j) (hs : ∀ k, k < N → ∀ d, d ≤ 999 → z 192 = iI d → sIn z k d → sIn z2 k d) : INV B N z2 := by
  obtain ⟨⟨h1, h16⟩, h2, h3, -, -, ⟨P, hP, hP2⟩, h7, ⟨d, hd, hd0, hd9, h8⟩⟩ := h
  refine ⟨⟨by rw [e194]; exact h1, h16⟩, ?_, ?_, hc, hE, ⟨P, hP, by rw [e193]; exact hP2⟩, fun j j6 => hj j j6 (h7 j j6), ⟨d, by rw [e192]; exact hd, hd0, hd9, fun k hk => hs k hk d hd9 hd (h8 k hk)⟩⟩
  · unfold seaIn; rw [e191]; exact h2
  · unfold setIn; rw [e203, e204, e205]; exact h3
theorem INV.B {B C N : Nat} {z : Zt} (h : INV B N z) (hBC : B ≤ C) : INV C N z := by
  obtain ⟨h1, h2, h3, h4, h5, ⟨P, hP, hP2⟩, h7, h8⟩ := h
  exact ⟨h1, h2, h3, h4, h5, ⟨P, by omega, hP2⟩, h7, h8⟩
theorem cash_congr {z z2 : Zt} (e : z2 195 = z 195) (h : cashIn z) : cashIn z2 := by unfold cashIn at *; rw [e]; exact h
theorem ent_congr {z z2 : Zt} (e : z2 206 = z 206) (h : entIn z) : entIn z2 := by unfold entIn at *; rw [e]; exact h
theorem ent_write {z : Zt} (a q x : Int32) (h : entIn z) : entIn (zWrite z a q x) := by
  obtain ⟨E, hE, e⟩ := h
  unfold zWrite
  by_cases hx : x = 0
  · rw [if_pos hx]; exact ⟨E, hE, e⟩
  · rw [if_neg hx]
    unfold entIn
    rw [upd_s, e]
    by_cases h8 : nI E < 8
    · rw [if_pos h8]
      have : E < 8 := (nI_ltI (b := 8) (by omega) (by omega)).mp h8
      exact ⟨E + 1, by omega, nI_add E 1⟩
    · rw [if_neg h8]
      exact ⟨E, hE, nI_add E 0⟩
theorem cash_spend {z : Zt} {n : Int} (h0 : 0 ≤ n) (h1 : n ≤ 100000) (h : cashIn z) : cashIn (zSpend z (iI n)) := by
  obtain ⟨c, e, c0, c5⟩ := h
  unfold cashIn zSpend
  rw [upd_s, e]
  by_cases hc : iI c < iI n
  · rw [if_pos hc]; exact ⟨0, i0, by omega, by omega⟩
  · rw [if_neg hc, iI_sub]
    rw [iI_lt (by omega) (by omega) (by omega) (by omega)] at hc
    exact ⟨c - n, rfl, by omega, by omega⟩
theorem zCharge_at (z : Zt) {k w : Nat} (hk : k < 16) (hw : w ≤ 9) (x : Int32) : zCharge z k w x (10 * k + w) = z (10 * k + w) + x := by
  unfold zCharge
  rw [zWrite_lo _ _ _ _ (by omega)]
  simp only [zC4, zC3, zC2, zC1]
  rw [upd_n _ _ (by omega), upd_n _ _ (by omega), upd_n _ _ (by omega), upd_s]
theorem zCharge_206 (z : Zt) {k w : Nat} (hk : k < 16) (hw : w ≤ 9) (x : Int32) (h : entIn z) : entIn (zCharge z k w x) := by
  unfold zCharge
  refine ent_write _ _ _ (ent_congr ?_ h)
  simp only [zC4, zC3, zC2, zC1]
  rw [upd_n _ _ (by omega), upd_n _ _ (by omega), upd_n _ _ (by omega), upd_n _ _ (by omega)]
/-- a sailor is charged n, the balance being high enough -/
theorem sIn_charge {z z2 : Zt} {k w : Nat} {d n q : Int} (hd : d ≤ 999) (hw : w = 5 ∨ w = 6 ∨ w = 7) (h : sIn z k d) (hg : ¬ z (10 * k + 2) = 2) (hn : 0 ≤ n) (hb : zBal z k = iI q) (hq1 : q ≤ 100000) (hq2 : -100000 ≤ q) (hq : -4000 ≤ q - n)
    (e : ∀ i, 10 * k ≤ i → i ≤ 10 * k + 8 → i ≠ 10 * k + w → z2 i = z i) (ew : z2 (10 * k + w) = z (10 * k + w) + iI n) : sIn z2 k d := by
  obtain ⟨a, b, c, f, v, y, ⟨ea, eb, ec, ef, ev, ey⟩, ⟨ha, hb', hab, hc, hf, hv, hy, hy2, hs⟩, -, h3⟩ := h
  have hw' := wgI_bd (r := z (10 * k)) ha hb'
  have e1 : zEarn z k = iI (wgI (z (10 * k)) a b) := by unfold zEarn; rw [ea, eb]; exact zWages_iI ha hb' (by omega)
  have e2 : zChg z k = iI (c + f + v) := by unfold zChg; rw [ec, ef, ev, iI_add, iI_add]
  have e3 : q = wgI (z (10 * k)) a b + y - (c + f + v) := by
    have : iI q = iI (wgI (z (10 * k)) a b + y - (c + f + v)) := by rw [← hb]; unfold zBal; rw [if_neg hg, e1, e2, ey, iI_add, iI_sub]
    exact (iI_eq (by omega) (by omega) (by omega) (by omega)).mp this
  have f0 := e (10 * k) (by omega) (by omega) (by omega)
  have f2 := e (10 * k + 2) (by omega) (by omega) (by omega)
  have f3 := e (10 * k + 3) (by omega) (by omega) (by omega)
  have f4 := e (10 * k + 4) (by omega) (by omega) (by omega)
  have f8 := e (10 * k + 8) (by omega) (by omega) (by omega)
  unfold sIn
  rw [f0, f2, f3, f4, f8]
  rcases hw with rfl | rfl | rfl
  · rw [ew, e (10 * k + 6) (by omega) (by omega) (by omega), e (10 * k + 7) (by omega) (by omega) (by omega), ec, iI_add]
    exact ⟨a, b, c + n, f, v, y, ⟨ea, eb, rfl, ef, ev, ey⟩, ⟨ha, hb', hab, by omega, hf, hv, hy, hy2, by omega⟩, fun g => absurd g hg, h3⟩
  · rw [ew, e (10 * k + 5) (by omega) (by omega) (by omega), e (10 * k + 7) (by omega) (by omega) (by omega), ef, iI_add]
    exact ⟨a, b, c, f + n, v, y, ⟨ea, eb, ec, rfl, ev, ey⟩, ⟨ha, hb', hab, hc, by omega, hv, hy, hy2, by omega⟩, fun g => absurd g hg, h3⟩
  · rw [ew, e (10 * k + 5) (by omega) (by omega) (by omega), e (10 * k + 6) (by omega) (by omega) (by omega), ev, iI_add]
    exact ⟨a, b, c, f, v + n, y, ⟨ea, eb, ec, ef, rfl, ey⟩, ⟨ha, hb', hab, hc, hf, by omega, hy, hy2, by omega⟩, fun g => absurd g hg, h3⟩
theorem INV.charge {B N k w : Nat} {z : Zt} {n q : Int} (h : INV B N z) (hk : k < N) (hw : w = 5 ∨ w = 6 ∨ w = 7) (hg : ¬ z (10 * k + 2) = 2) (hn : 0 ≤ n) (hb : zBal z k = iI q) (hq1 : q ≤ 100000) (hq2 : -100000 ≤ q) (hq : -4000 ≤ q - n) : INV B N (zCharge z k w (iI n)) := by
  have h16 := h.1.2
  refine h.mk2 (zCharge_lo _ _ _ _ (by omega) (by omega) (by omega) (by omega) (by omega)) (zCharge_lo _ _ _ _ (by omega) (by omega) (by omega) (by omega) (by omega)) (zCharge_lo _ _ _ _ (by omega) (by omega) (by omega) (by omega) (by omega)) (zCharge_lo _ _ _ _ (by omega) (by omega) (by omega) (by omega) (by omega))
    (zCharge_lo _ _ _ _ (by omega) (by omega) (by omega) (by omega) (by omega)) (zCharge_lo _ _ _ _ (by omega) (by omega) (by omega) (by omega) (by omega)) (zCharge_lo _ _ _ _ (by omega) (by omega) (by omega) (by omega) (by omega))
    (cash_congr (zCharge_lo _ _ _ _ (by omega) (by omega) (by omega) (by omega) (by omega)) h.2.2.2.1) (zCharge_206 z (by omega) (by omega) _ h.2.2.2.2.1) (fun j hj hi => itIn_congr (zCharge_lo _ _ _ _ (by omega) (by omega) (by omega) (by omega) (by omega)) (zCharge_lo _ _ _ _ (by omega) (by omega) (by omega) (by omega) (by omega)) hi) ?_
  intro k2 hk2 d hd _ hs
  by_cases e : k2 = k
  · subst e
    exact sIn_charge hd hw hs hg hn hb hq1 hq2 hq (fun i h1 h2 h3 => zCharge_lo _ _ _ _ (by omega) h3 (by omega) (by omega) (by omega)) (zCharge_at z (by omega) (by omega) _)
  · exact sIn_congr (fun i h1 h2 _ => zCharge_lo _ _ _ _ (by omega) (by omega) (by omega) (by omega) (by omega)) hs
theorem INV.spend {B N : Nat} {z : Zt} {n : Int} (h : INV B N z) (h0 : 0 ≤ n) (h1 : n ≤ 100000) : INV B N (zSpend z (iI n)) := by
  have h16 := h.1.2
  refine h.mk2 (zSpend_o _ _ (by omega) (by omega)) (zSpend_o _ _ (by omega) (by omega)) (zSpend_o _ _ (by omega) (by omega)) (zSpend_o _ _ (by omega) (by omega)) (zSpend_o _ _ (by omega) (by omega)) (zSpend_o _ _ (by omega) (by omega)) (zSpend_o _ _ (by omega) (by omega))
    (cash_spend h0 h1 h.2.2.2.1) (ent_congr (zSpend_o _ _ (by omega) (by omega)) h.2.2.2.2.1) (fun j hj hi => itIn_congr (zSpend_o _ _ (by omega) (by omega)) (zSpend_o _ _ (by omega) (by omega)) hi) ?_
  intro k2 hk2 d hd _ hs
  exact sIn_congr (fun i h1 h2 _ => zSpend_o _ _ (by omega) (by omega)) hs
/-- what lies outside the bounds' cells -/
theorem INV.free {B N i : Nat} {z : Zt} {v : Int32} (h : INV B N z) (hi : (196 ≤ i ∧ i ≤ 202) ∨ i = 190 ∨ (∃ k, i = 10 * k + 9 ∧ k < 16) ∨ (∃ j, j < 6 ∧ 160 + 5 * j + 2 ≤ i ∧ i ≤ 160 + 5 * j + 4)) : INV B N (upd z i v) := by
  have h16 := h.1.2
  have hne : ∀ p, (p = 191 ∨ p = 192 ∨ p = 193 ∨ p = 194 ∨ p = 195 ∨ p = 203 ∨ p = 204 ∨ p = 205 ∨ p = 206) → upd z i v p = z p := fun p hp => upd_n _ _ (by
    rcases hi with hi | hi | ⟨k, hi, hk⟩ | ⟨j, hj, hi1, hi2⟩ <;> omega)
  refine h.mk2 (hne _ (by omega)) (hne _ (by omega)) (hne _ (by omega)) (hne _ (by omega)) (hne _ (by omega)) (hne _ (by omega)) (hne _ (by omega)) (cash_congr (hne _ (by omega)) h.2.2.2.1) (ent_congr (hne _ (by omega)) h.2.2.2.2.1) ?_ ?_
  · intro j hj hj2
    refine itIn_congr (upd_n _ _ ?_) (upd_n _ _ ?_) hj2
    · rcases hi with hi | hi | ⟨k, hi, hk⟩ | ⟨j2, hj2, hi1, hi2⟩ <;> omega
    · rcases hi with hi | hi | ⟨k, hi, hk⟩ | ⟨j2, hj2, hi1, hi2⟩ <;> omega
  · intro k2 hk2 d hd _ hs
    refine sIn_congr (fun p h1 h2 _ => upd_n _ _ ?_) hs
    rcases hi with hi | hi | ⟨k, hi, hk⟩ | ⟨j2, hj2, hi1, hi2⟩ <;> omega
/-- an item's stock and price -/
theorem INV.item {B N j : Nat} {z : Zt} {v w : Int32} (h : INV B N z) (hj : j < 6) (hi : itIn (upd (upd z (160 + 5 * j + 0) v) (160 + 5 * j + 1) w) j) : INV B N (upd (upd z (160 + 5 * j + 0) v) (160 + 5 * j + 1) w) := by
  have h16 := h.1.2
  have hne : ∀ p, p < 160 ∨ 190 ≤ p → upd (upd z (160 + 5 * j + 0) v) (160 + 5 * j + 1) w p = z p := fun p hp => by rw [upd_n _ _ (by omega), upd_n _ _ (by omega)]
  refine h.mk2 (hne _ (by omega)) (hne _ (by omega)) (hne _ (by omega)) (hne _ (by omega)) (hne _ (by omega)) (hne _ (by omega)) (hne _ (by omega)) (cash_congr (hne _ (by omega)) h.2.2.2.1) (ent_congr (hne _ (by omega)) h.2.2.2.2.1) ?_ ?_
  · intro j2 hj2 h2
    by_cases e : j2 = j
    · subst e; exact hi
    · exact itIn_congr (by rw [upd_n _ _ (by omega), upd_n _ _ (by omega)]) (by rw [upd_n _ _ (by omega), upd_n _ _ (by omega)]) h2
  · intro k2 hk2 d hd _ hs
    exact sIn_congr (fun p h1 h2 _ => hne p (by omega)) hs
theorem INV.item0 {B N j : Nat} {z : Zt} {v : Int32} (h : INV B N z) (hj : j < 6) (hi : itIn (upd z (160 + 5 * j + 0) v) j) : INV B N (upd z (160 + 5 * j + 0) v) := by
  have e : upd (upd z (160 + 5 * j + 0) v) (160 + 5 * j + 1) (upd z (160 + 5 * j + 0) v (160 + 5 * j + 1)) = upd z (160 + 5 * j + 0) v := upd_id rfl
  rw [← e]
  exact h.item hj (by rw [e]; exact hi)
theorem INV.write {B N : Nat} {z : Zt} (h : INV B N z) (a q x : Int32) : INV B N (zWrite z a q x) := by
  have h16 := h.1.2
  refine h.mk2 (zWrite_lo _ _ _ _ (by omega)) (zWrite_lo _ _ _ _ (by omega)) (zWrite_lo _ _ _ _ (by omega)) (zWrite_lo _ _ _ _ (by omega)) (zWrite_lo _ _ _ _ (by omega)) (zWrite_lo _ _ _ _ (by omega)) (zWrite_lo _ _ _ _ (by omega)) (cash_congr (zWrite_lo _ _ _ _ (by omega)) h.2.2.2.1) (ent_write _ _ _ h.2.2.2.2.1)
    (fun j hj hi => itIn_congr (zWrite_lo _ _ _ _ (by omega)) (zWrite_lo _ _ _ _ (by omega)) hi) ?_
  intro k2 hk2 d hd _ hs
  exact sIn_congr (fun i h1 h2 _ => zWrite_lo _ _ _ _ (by omega)) hs
theorem INV.pay {B N k : Nat} {z : Zt} {n : Int} (h : INV B N z) (hk : k < N) (h0 : 0 ≤ n) (h1 : n ≤ 100000) : INV B N (zPay z k (iI n)) := by
  unfold zPay
  exact (((h.free (Or.inr (Or.inr (Or.inl ⟨k, rfl, by have := h.1.2; omega⟩)))).free (Or.inl (by omega))).spend h0 h1).write _ _ _
theorem INV.bal2 {B N k : Nat} {z : Zt} (h : INV B N z) (hk : k < N) : ∃ q : Int, zBal z k = iI q ∧ cBal z k = iI q ∧ -4000 ≤ q ∧ q ≤ 4000 ∧ (z (10 * k + 2) = 2 → q = 0) := by
  obtain ⟨-, -, -, -, -, -, -, d, -, -, hd, hs⟩ := h
  exact sIn_bal hd (hs k hk)
