theorem sIn_mono {z : Zt} {k : Nat} {d d2 : Int} (hd : d ≤ d2) (h : sIn z k d) : sIn z k d2 := by
  obtain ⟨a, b, c, f, w, y, hs1, hs2, hs3, hs4⟩ := h
  exact ⟨a, b, c, f, w, y, hs1, by omega, hs3, hs4⟩
theorem sIn_day {z : Zt} {k w : Nat} {d m : Int} (hm : 0 ≤ m) (hw : w = 3 ∨ w = 4) (hg : ¬ z (10 * k + 2) = 2) (h : sIn z k d) : sIn (upd z (10 * k + w) (z (10 * k + w) + iI m)) k (d + m) := by
  obtain ⟨a, b, c, f, v, y, ⟨ea, eb, ec, ef, ev, ey⟩, hs2, hs3, hs4⟩ := h
  have hmo := wgI_mono (r := z (10 * k)) (a := a) (b := b) (m := m) (by omega) (by omega) hm
  have hne : ∀ p, p ≠ 10 * k + w → upd z (10 * k + w) (z (10 * k + w) + iI m) p = z p := fun p hp => upd_n _ _ hp
  unfold sIn
  rw [hne (10 * k) (by omega), hne (10 * k + 2) (by omega), hne (10 * k + 5) (by omega), hne (10 * k + 6) (by omega), hne (10 * k + 7) (by omega), hne (10 * k + 8) (by omega)]
  rcases hw with rfl | rfl
  · rw [upd_s, hne (10 * k + 4) (by omega), ea, iI_add]
    exact ⟨a + m, b, c, f, v, y, ⟨rfl, eb, ec, ef, ev, ey⟩, by omega, fun g => absurd g hg, hs4⟩
  · rw [upd_s, hne (10 * k + 3) (by omega), eb, iI_add]
    exact ⟨a, b + m, c, f, v, y, ⟨ea, rfl, ec, ef, ev, ey⟩, by omega, fun g => absurd g hg, hs4⟩
theorem dayTo_s {z : Zt} {N : Nat} {d m : Int} (h16 : N ≤ 16) (hm : 0 ≤ m) (h : ∀ k, k < N → sIn z k d) : ∀ n, n ≤ N → ∀ k, k < N → (k < n → sIn (zDayTo z (iI m) n) k (d + m)) ∧ (n ≤ k → sIn (zDayTo z (iI m) n) k d)
  | 0, _, k, hk => ⟨fun q => absurd q (by omega), fun _ => sIn_congr (fun i h1 h2 _ => upd_n _ _ (by omega)) (h k hk)⟩
  | n + 1, hn, k, hk => by
    have ih := dayTo_s h16 hm h n (by omega)
    have ihn := (ih n (by omega)).2 (Nat.le_refl n)
    have key : ∀ w, (w = 3 ∨ w = 4) → ¬ zDayTo z (iI m) n (10 * n + 2) = 2 → (k < n + 1 → sIn (upd (zDayTo z (iI m) n) (10 * n + w) (zDayTo z (iI m) n (10 * n + w) + iI m)) k (d + m)) ∧ (n + 1 ≤ k → sIn (upd (zDayTo z (iI m) n) (10 * n + w) (zDayTo z (iI m) n (10 * n + w) + iI m)) k d) := by
      intro w hw hg
      refine ⟨fun hk1 => ?_, fun hk1 => sIn_congr (fun i h1 h2 _ => upd_n _ _ (by omega)) ((ih k hk).2 (by omega))⟩
      by_cases e : k = n
      · subst e; exact sIn_day hm hw hg ihn
      · exact sIn_congr (fun i h1 h2 _ => upd_n _ _ (by omega)) ((ih k hk).1 (by omega))
    simp only [zDayTo]
    by_cases hg : zDayTo z (iI m) n (10 * n + 2) = 2
    · rw [if_neg (not_not_intro hg)]
      refine ⟨fun hk1 => ?_, fun hk1 => (ih k hk).2 (by omega)⟩
      by_cases e : k = n
      · subst e; exact sIn_mono (by omega) ihn
      · exact (ih k hk).1 (by omega)
    · rw [if_pos hg]
      by_cases hs : zDayTo z (iI m) n 191 = 1
      · rw [if_pos hs]; exact key 3 (Or.inl rfl) hg
      · rw [if_neg hs]; exact key 4 (Or.inr rfl) hg
theorem INV.dayTo {B N : Nat} {z : Zt} {m : Int} (h : INV B N z) (hm1 : 1 ≤ m) (hm : m ≤ 99) (hw : ¬ 999 < z 192 + iI m) : INV B N (zDayTo z (iI m) N) ∧ ∃ n : Int, 0 ≤ n ∧ n ≤ 999 ∧ z 192 + iI m = iI n := by
  have h16 := h.1.2
  obtain ⟨⟨h1, -⟩, h2, h3, h4, h5, h6, h7, ⟨d, hd, hd0, hd9, h8⟩⟩ := h
  have hne : ∀ i, i ≠ 192 → (∀ k, k < N → i ≠ 10 * k + 3 ∧ i ≠ 10 * k + 4) → zDayTo z (iI m) N i = z i := fun i a b => zDayTo_o z _ a N b
  rw [hd, iI_add, i999, iI_lt (by omega) (by omega) (by omega) (by omega)] at hw
  have e := zDayTo_192 z (iI m) N h16
  rw [hd, iI_add] at e
  refine ⟨⟨⟨by rw [hne _ (by omega) (by omega)]; exact h1, h16⟩, ?_, ?_, cash_congr (hne _ (by omega) (by omega)) h4, ent_congr (hne _ (by omega) (by omega)) h5, ?_, fun j hj => itIn_congr (hne _ (by omega) (by omega)) (hne _ (by omega) (by omega)) (h7 j hj), d + m, e, by omega, by omega, fun k hk => ((dayTo_s h16 (by omega) h8 N (Nat.le_refl N)) k hk).1 hk⟩, d + m, by omega, by omega, by rw [hd, iI_add]⟩
  · unfold seaIn; rw [hne _ (by omega) (by omega)]; exact h2
  · unfold setIn; rw [hne _ (by omega) (by omega), hne _ (by omega) (by omega), hne _ (by omega) (by omega)]; exact h3
  · unfold ptIn; rw [hne _ (by omega) (by omega)]; exact h6
theorem INV.doDis {B N k : Nat} {z : Zt} (h : INV B N z) (hk : k < N) (hw : ¬ zBal z k < 0) : INV B N (zDoDis z k) ∧ ∃ n : Int, 0 ≤ n ∧ n ≤ 100000 ∧ zBal z k = iI n := by
  obtain ⟨q, eq, -, hq1, hq2, -⟩ := h.bal2 hk
  rw [eq, i0, iI_lt (by omega) (by omega) (by omega) (by omega)] at hw
  refine ⟨?_, q, by omega, by omega, eq⟩
  unfold zDoDis
  rw [eq]
  exact (h.pay hk (by omega) (by omega)).gone hk
theorem INV.po1 {B N k : Nat} {z : Zt} (h : INV B N z) (hk : k < N) : INV B N (zPO1 z k) := by
  obtain ⟨q, eq, -, hq1, hq2, -⟩ := h.bal2 hk
  unfold zPO1
  split
  · rename_i g
    rw [eq, i0, iI_lt (by omega) (by omega) (by omega) (by omega)] at g
    rw [eq]; exact h.pay hk (by omega) (by omega)
  · exact h
theorem zPO1_o (z : Zt) (k : Nat) {i : Nat} (h : i < 206) (h1 : i ≠ 10 * k + 9) (h2 : i ≠ 199) (h3 : i ≠ 195) (h4 : i ≠ 196) : zPO1 z k i = z i := by
  unfold zPO1; split
  · exact zPay_o _ _ _ h h1 h2 h3 h4
  · rfl
theorem INV.poTo {B N : Nat} {z : Zt} (h : INV B N z) : ∀ n, n ≤ N → INV B N (zPOTo z n)
  | 0, _ => h
  | n + 1, hn => by
    have h16 := h.1.2
    have ih := INV.poTo h n (by omega)
    obtain ⟨q, eq, -, hq1, hq2, -⟩ := ih.bal2 (k := n) (by omega)
    simp only [zPOTo]
    by_cases hg : zPOTo z n (10 * n + 2) = 2
    · rw [if_neg (not_not_intro hg)]; exact ih
    · rw [if_pos hg, eq, i0]
      have e : (if iI q < iI 0 then iI q else iI 0) = iI (if q < 0 then q else 0) := by
        by_cases h0 : q < 0
        · rw [if_pos h0, if_pos ((iI_lt (by omega) (by omega) (by omega) (by omega)).mpr h0)]
        · rw [if_neg h0, if_neg (mt (iI_lt (by omega) (by omega) (by omega) (by omega)).mp h0)]
      rw [e]
      refine (ih.po1 (by omega)).clear (by omega) (by split <;> omega) (by split <;> omega) ?_
      rw [zPO1_o _ _ (by omega) (by omega) (by omega) (by omega) (by omega)]
      exact fun g => absurd g hg
theorem poTo_34 {B N : Nat} {z : Zt} (h : INV B N z) : ∀ n, n ≤ N → ∀ k, k < n → zPOTo z n (10 * k + 3) = 0 ∧ zPOTo z n (10 * k + 4) = 0
  | 0, _, _, hk => absurd hk (by omega)
  | n + 1, hn, k, hk => by
    have h16 := h.1.2
    have ih := poTo_34 h n (by omega)
    have hI := INV.poTo h n (by omega)
    simp only [zPOTo]
    by_cases hg : zPOTo z n (10 * n + 2) = 2
    · rw [if_neg (not_not_intro hg)]
      by_cases e : k = n
      · subst e
        obtain ⟨-, -, -, -, -, -, -, d, -, -, hd, hs⟩ := hI
        obtain ⟨a, b, c, f, w, y, ⟨ea, eb, -⟩, -, hs3, -⟩ := hs k (by omega)
        obtain ⟨r1, r2, -⟩ := hs3 hg
        rw [ea, eb, r1, r2]; exact ⟨rfl, rfl⟩
      · exact ih k (by omega)
    · rw [if_pos hg]
      by_cases e : k = n
      · subst e
        rw [upd_n _ _ (by omega), upd_n _ _ (by omega)]
        unfold zClear
        rw [if_pos (by omega), if_pos (by omega)]; exact ⟨rfl, rfl⟩
      · rw [upd_n _ _ (by omega), upd_n _ _ (by omega)]
        unfold zClear
        rw [if_neg (by omega), if_neg (by omega), zPO1_o _ _ (by omega) (by omega) (by omega) (by omega) (by omega), zPO1_o _ _ (by omega) (by omega) (by omega) (by omega) (by omega)]
        exact ih k (by omega)
theorem INV.doPO {B N : Nat} {z : Zt} (h : INV B N z) : INV B N (zDoPO z N) := by
  have h34 := poTo_34 h N (Nat.le_refl N)
  have h16 := h.1.2
  have h := (INV.poTo h N (Nat.le_refl N)).free (i := 190) (v := zPOTo z N 190 + 1) (Or.inr (Or.inl rfl))
  unfold zDoPO
  have h34' : ∀ k, k < N → upd (zPOTo z N) 190 (zPOTo z N 190 + 1) (10 * k + 3) = 0 ∧ upd (zPOTo z N) 190 (zPOTo z N 190 + 1) (10 * k + 4) = 0 := fun k hk => by
    rw [upd_n _ _ (by omega), upd_n _ _ (by omega)]; exact h34 k hk
  generalize upd (zPOTo z N) 190 (zPOTo z N 190 + 1) = Z at *
  have hne : ∀ p, p ≠ 192 → upd Z 192 0 p = Z p := fun p hp => upd_n _ _ hp
  obtain ⟨⟨h1, -⟩, h2, h3, h4, h5, h6, h7, ⟨d, hd, hd0, hd9, h8⟩⟩ := h
  refine ⟨⟨by rw [hne _ (by omega)]; exact h1, h16⟩, ?_, ?_, cash_congr (hne _ (by omega)) h4, ent_congr (hne _ (by omega)) h5, ?_, fun j hj => itIn_congr (hne _ (by omega)) (hne _ (by omega)) (h7 j hj), 0, by rw [upd_s]; exact i0, by omega, by omega, fun k hk => sIn_congr (fun i h1 h2 _ => hne _ (by omega)) ?_⟩
  · unfold seaIn; rw [hne _ (by omega)]; exact h2
  · unfold setIn; rw [hne _ (by omega), hne _ (by omega), hne _ (by omega)]; exact h3
  · unfold ptIn; rw [hne _ (by omega)]; exact h6
  · obtain ⟨a, b, c, f, w, y, ⟨ea, eb, ec⟩, hs2, hs3, hs4⟩ := h8 k hk
    obtain ⟨z3, z4⟩ := h34' k hk
    rw [ea, i0, iI_eq (by omega) (by omega) (by omega) (by omega)] at z3
    rw [eb, i0, iI_eq (by omega) (by omega) (by omega) (by omega)] at z4
    exact ⟨a, b, c, f, w, y, ⟨ea, eb, ec⟩, by omega, hs3, hs4⟩
theorem INV.doSet {B N j : Nat} {z : Zt} {v : Int} (h : INV B N z) (hj : j ≤ 2) (hv : 0 ≤ v) (hv2 : v ≤ (if j = 0 then 500 else if j = 1 then 200 else 50)) : INV B N (upd z (203 + j) (iI v)) := by
  have h16 := h.1.2
  have hne : ∀ p, p ≠ 203 + j → upd z (203 + j) (iI v) p = z p := fun p hp => upd_n _ _ hp
  obtain ⟨⟨h1, -⟩, h2, ⟨s0, s1, s2, hs0, hs1, hs2⟩, h4, h5, h6, h7, ⟨d, hd, hd0, hd9, h8⟩⟩ := h
  refine ⟨⟨by rw [hne _ (by omega)]; exact h1, h16⟩, ?_, ?_, cash_congr (hne _ (by omega)) h4, ent_congr (hne _ (by omega)) h5, ?_, fun j hj => itIn_congr (hne _ (by omega)) (hne _ (by omega)) (h7 j hj), d, by rw [hne _ (by omega)]; exact hd, hd0, hd9, fun k hk => sIn_congr (fun i h1 h2 _ => hne _ (by omega)) (h8 k hk)⟩
  · unfold seaIn; rw [hne _ (by omega)]; exact h2
  · unfold setIn
    rcases (show j = 0 ∨ j = 1 ∨ j = 2 by omega) with rfl | rfl | rfl
    · rw [upd_s, hne 204 (by omega), hne 205 (by omega)]
      exact ⟨v, s1, s2, ⟨rfl, hv, by simpa using hv2⟩, hs1, hs2⟩
    · rw [upd_s, hne 203 (by omega), hne 205 (by omega)]
      exact ⟨s0, v, s2, hs0, ⟨rfl, hv, by simpa using hv2⟩, hs2⟩
    · rw [upd_s, hne 203 (by omega), hne 204 (by omega)]
      exact ⟨s0, s1, v, hs0, hs1, ⟨rfl, hv, by simpa using hv2⟩⟩
  · unfold ptIn; rw [hne _ (by omega)]; exact h6
theorem INV.doSign {B N : Nat} {z : Zt} {q w : Int32} (h : INV B N z) (hN : N < 16) : INV B (N + 1) (zDoSign z N q w) := by
  have hne : ∀ p, p ≠ 194 → (p < 10 * N ∨ 10 * N + 9 < p) → zDoSign z N q w p = z p := fun p hp h2 => by
    unfold zDoSign
    rw [upd_n _ _ (by omega), upd_n _ _ (by omega), upd_n _ _ (by omega), upd_n _ _ (by omega)]
    unfold zClear
    rw [if_neg (by omega), upd_n _ _ hp]
  have h194 : zDoSign z N q w 194 = nI (N + 1) := by
    unfold zDoSign
    rw [upd_n _ _ (by omega), upd_n _ _ (by omega), upd_n _ _ (by omega), upd_n _ _ (by omega)]
    unfold zClear
    rw [if_neg (by omega), upd_s]
  have hz : ∀ p, 10 * N + 3 ≤ p → p ≤ 10 * N + 8 → zDoSign z N q w p = 0 := fun p h1 h2 => by
    unfold zDoSign
    rw [upd_n _ _ (by omega), upd_n _ _ (by omega), upd_n _ _ (by omega), upd_n _ _ (by omega)]
    unfold zClear
    rw [if_pos (by omega)]
  have hw : zDoSign z N q w (10 * N + 2) = 0 := by
    unfold zDoSign
    rw [upd_n _ _ (by omega), upd_s]
  obtain ⟨⟨h1, h16⟩, h2, h3, h4, h5, h6, h7, ⟨d, hd, hd0, hd9, h8⟩⟩ := h
  refine ⟨⟨h194, by omega⟩, ?_, ?_, cash_congr (hne _ (by omega) (by omega)) h4, ent_congr (hne _ (by omega) (by omega)) h5, ?_, fun j hj => itIn_congr (hne _ (by omega) (by omega)) (hne _ (by omega) (by omega)) (h7 j hj), d, by rw [hne _ (by omega) (by omega)]; exact hd, hd0, hd9, fun k hk => ?_⟩
  · unfold seaIn; rw [hne _ (by omega) (by omega)]; exact h2
  · unfold setIn; rw [hne _ (by omega) (by omega), hne _ (by omega) (by omega), hne _ (by omega) (by omega)]; exact h3
  · unfold ptIn; rw [hne _ (by omega) (by omega)]; exact h6
  · by_cases e : k = N
    · subst e
      have hw0 := wgI_0 (zDoSign z k q w (10 * k))
      refine ⟨0, 0, 0, 0, 0, 0, ?_, by omega, ?_, Or.inl hw⟩
      · rw [hz _ (by omega) (by omega), hz _ (by omega) (by omega), hz _ (by omega) (by omega), hz _ (by omega) (by omega), hz _ (by omega) (by omega), hz _ (by omega) (by omega)]
        exact ⟨i0, i0, i0, i0, i0, i0⟩
      · intro _; exact ⟨rfl, rfl, rfl, rfl, rfl, rfl⟩
    · exact sIn_congr (fun i h1 h2 _ => hne _ (by omega) (by omega)) (h8 k (by omega))
