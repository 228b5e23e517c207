/-! EACH QUESTION: the class answers as the reference does -/
theorem q_sailor {B N : Nat} {z : Zt} (h : INV B N z) (a q : Int32) : (if 0 ≤ a ∧ a ≤ z 194 - 1 then cTellS z a.toNatClampNeg q else -1000001) = zSailor z a q := by
  unfold zSailor
  by_cases hv : 0 ≤ a ∧ a ≤ z 194 - 1
  · obtain ⟨k, hk, -, -, ek⟩ := h.sail hv
    rw [if_pos hv, if_neg (not_not_intro hv), ek]
    unfold cTellS zTellS
    rw [h.bal hk]
    rfl
  · rw [if_neg hv, if_pos hv]
theorem q_item (z : Zt) (i q : Int32) : (if 0 ≤ i ∧ i ≤ 5 then cTellI z i.toNatClampNeg q else -1000001) = zItem z i q := by
  unfold zItem
  by_cases hv : 0 ≤ i ∧ i ≤ 5
  · rw [if_pos hv]
    by_cases hq : 0 ≤ q ∧ q ≤ 4
    · rw [if_pos ⟨hv, hq⟩]
      obtain ⟨w, hw, rfl⟩ := in_of (n := 4) (by decide) hq
      rw [nI_clamp (by omega)]
      unfold cTellI
      rcases (show w = 0 ∨ w = 1 ∨ w = 2 ∨ w = 3 ∨ w = 4 by omega) with rfl | rfl | rfl | rfl | rfl <;> rfl
    · rw [if_neg (fun g => hq g.2)]
      unfold cTellI
      rw [if_neg (fun e => hq (by rw [e]; decide)), if_neg (fun e => hq (by rw [e]; decide)), if_neg (fun e => hq (by rw [e]; decide)), if_neg (fun e => hq (by rw [e]; decide)), if_neg (fun e => hq (by rw [e]; decide))]
  · rw [if_neg hv, if_neg (fun g => hv g.1)]
theorem q_book {z : Zt} (h : entIn z) (g q : Int32) : cTellE z g q = zBook z g q := by
  obtain ⟨E, hE, e⟩ := h
  unfold cTellE zBook
  by_cases hv : g < 0 ∨ ¬ (0 ≤ q ∧ q ≤ 2)
  · rw [if_pos hv, if_pos hv]
  · rw [if_neg hv, if_neg hv]
    obtain ⟨j, hj, rfl⟩ := nI_of (fun q => hv (Or.inl q))
    obtain ⟨w, hw, rfl⟩ := in_of (n := 2) (by decide) (nn fun g => hv (Or.inr g))
    rw [e, nI_clamp hj, nI_clamp (by omega)]
    by_cases hl : nI j < nI E
    · have hl2 := (nI_ltI hj (by omega)).mp hl
      rw [if_neg (Int32.not_le.mpr hl), if_pos hl, if_pos (by omega)]
      rcases (show w = 0 ∨ w = 1 ∨ w = 2 by omega) with rfl | rfl | rfl <;> rfl
    · rw [if_pos (Int32.not_lt.mp hl), if_neg hl]
theorem q_why {B N : Nat} {z : Zt} (h : INV B N z) (a i m : Int32) : cWhyP z a i m = zWhyP z a i m := by
  unfold cWhyP zWhyP
  by_cases hv : (0 ≤ a ∧ a ≤ z 194 - 1) ∧ (0 ≤ i ∧ i ≤ 5) ∧ (1 ≤ m ∧ m ≤ 99)
  · obtain ⟨k, hk, -, -, ek⟩ := h.sail hv.1
    rw [if_pos hv, ek, if_neg (fun g => g.elim (fun q => q hv.1) (fun q => q.elim (fun q => q hv.2.1) (fun q => q hv.2.2))), why_eq h hk]
  · rw [if_neg hv, if_pos (nn fun g => hv ⟨nn fun q => g (Or.inl q), nn fun q => g (Or.inr (Or.inl q)), nn fun q => g (Or.inr (Or.inr q))⟩)]
theorem mostF_eq {z : Zt} {k j T : Nat} (hT : T ≤ 99) (hw : ∀ m, m < 99 → (zWhy z k j (nI (m + 1)) = 0 ↔ m + 1 ≤ T)) : ∀ f m, m ≤ T → T ≤ m + f → zMostF z k j f m = T
  | 0, m, h1, h2 => by simp only [zMostF]; omega
  | f + 1, m, h1, h2 => by
    simp only [zMostF]
    by_cases g : m < 99 ∧ zWhy z k j (nI (m + 1)) = 0
    · rw [if_pos g]
      exact mostF_eq hT hw f (m + 1) ((hw m g.1).mp g.2) (by omega)
    · rw [if_neg g]
      by_cases h9 : m < 99
      · have := mt (hw m h9).mpr (fun q => g ⟨h9, q⟩)
        omega
      · omega
theorem mn_iI {a b : Int} (h1 : -2147483648 ≤ a) (h2 : a < 2147483648) (h3 : -2147483648 ≤ b) (h4 : b < 2147483648) : mn (iI a) (iI b) = iI (if b < a then b else a) := by
  unfold mn
  by_cases g : b < a
  · rw [if_pos g, if_pos ((iI_lt h3 h4 h1 h2).mpr g)]
  · rw [if_neg g, if_neg (mt (iI_lt h3 h4 h1 h2).mp g)]
theorem q_most1 {B N k j : Nat} {z : Zt} (h : INV B N z) (hk : k < N) (hj : j < 6) : cMost1 z k j = nI (zMostF z k j 99 0) := by
  obtain ⟨a, b, ea, eb, ha0, ha5, hb0, hb3, hab⟩ := h.2.2.2.2.2.2.1 j hj
  obtain ⟨s0, s1, s2, ⟨es, hs0, hs5⟩, -, -⟩ := h.2.2.1
  obtain ⟨q, eq, ec, hq1, hq2, -⟩ := h.bal2 hk
  have ea' : z (160 + 5 * j + 0) = iI a := ea
  have es' : z (203 + 0) = iI s0 := es
  have hmul : ∀ m : Nat, m ≤ 99 → 0 ≤ (m : Int) * b ∧ (m : Int) * b ≤ 99 * 300 := fun m hm => mul_bd (by omega) (by omega) hb0 hb3
  have hW : ∀ m : Nat, m ≤ 99 → (zWhy z k j (nI m) = 0 ↔ z (10 * k + 2) = 0 ∧ (m : Int) ≤ a ∧ (m : Int) * b ≤ q + s0) := by
    intro m hm
    have := hmul m hm
    unfold zWhy
    by_cases g1 : z (10 * k + 2) = 0
    · rw [if_neg (not_not_intro g1), ea', eb, es, eq, iI_nat, iI_mul, iI_sub, iI_neg]
      have L1 : iI a < iI (m : Int) ↔ a < (m : Int) := iI_lt (by omega) (by omega) (by omega) (by omega)
      have L2 : iI (q - (m : Int) * b) < iI (-s0) ↔ q - (m : Int) * b < -s0 := iI_lt (by omega) (by omega) (by omega) (by omega)
      by_cases g2 : a < (m : Int)
      · rw [if_pos (L1.mpr g2)]
        exact ⟨fun q => absurd q (by decide), fun q => by omega⟩
      · rw [if_neg (mt L1.mp g2)]
        by_cases g3 : q - (m : Int) * b < -s0
        · rw [if_pos (L2.mpr g3)]
          exact ⟨fun q => absurd q (by decide), fun q => by omega⟩
        · rw [if_neg (mt L2.mp g3)]
          exact ⟨fun _ => ⟨g1, by omega, by omega⟩, fun _ => rfl⟩
    · rw [if_pos g1]
      exact ⟨fun q => absurd q (by decide), fun q => absurd q.1 g1⟩
  unfold cMost1
  rw [ec, es', ea, eb, iI_add]
  have L3 : iI b ≤ 0 ↔ b ≤ 0 := by rw [i0]; exact iI_le (by omega) (by omega) (by omega) (by omega)
  have L4 : iI (q + s0) < 0 ↔ q + s0 < 0 := by rw [i0]; exact iI_lt (by omega) (by omega) (by omega) (by omega)
  by_cases hc : ¬ z (10 * k + 2) = 0 ∨ iI b ≤ 0 ∨ iI (q + s0) < 0
  · rw [if_pos hc, mostF_eq (T := 0) (by omega) ?_ 99 0 (by omega) (by omega)]
    · rfl
    · intro m hm
      rw [hW (m + 1) (by omega)]
      have := hmul (m + 1) (by omega)
      refine ⟨fun g => ?_, fun g => by omega⟩
      rcases hc with c | c | c
      · exact absurd g.1 c
      · have := L3.mp c; omega
      · have := L4.mp c; omega
  · rw [if_neg hc]
    have g1 : z (10 * k + 2) = 0 := nn fun q => hc (Or.inl q)
    have g2 : 0 < b := by have := mt L3.mpr (fun q => hc (Or.inr (Or.inl q))); omega
    have g3 : 0 ≤ q + s0 := by have := mt L4.mpr (fun q => hc (Or.inr (Or.inr q))); omega
    have hd0 : 0 ≤ (q + s0) / b := Int.ediv_nonneg g3 hb0
    have hd1 : (q + s0) / b ≤ q + s0 := Int.ediv_le_self _ g3
    rw [iI_div g3 (by omega) g2 (by omega), mn_iI (by omega) (by omega) (by omega) (by omega), i99, mn_iI (by split <;> omega) (by split <;> omega) (by omega) (by omega)]
    generalize hD : (q + s0) / b = D at *
    have hle : ∀ m : Int, m ≤ D ↔ m * b ≤ q + s0 := fun m => by rw [← hD]; exact Int.le_ediv_iff_mul_le g2
    have hE : ∃ T : Nat, T ≤ 99 ∧ (if 99 < (if a < D then a else D) then 99 else (if a < D then a else D)) = (T : Int) ∧ ∀ m : Int, m ≤ 99 → (m ≤ (T : Int) ↔ m ≤ a ∧ m ≤ D) := by
      refine ⟨(if 99 < (if a < D then a else D) then 99 else (if a < D then a else D)).toNat, ?_, ?_, ?_⟩
      · split <;> split <;> omega
      · split <;> split <;> omega
      · intro m hm
        split <;> split <;> omega
    obtain ⟨T, hT, eT, hT2⟩ := hE
    rw [eT, mostF_eq (T := T) hT ?_ 99 0 (by omega) (by omega), iI_nat]
    intro m hm
    rw [hW (m + 1) (by omega), ← hle]
    have := hT2 ((m + 1 : Nat) : Int) (by omega)
    constructor
    · rintro ⟨-, r1, r2⟩; have := this.mpr ⟨r1, r2⟩; omega
    · intro r; have := this.mp (by omega); exact ⟨g1, this.1, this.2⟩
theorem q_most {B N : Nat} {z : Zt} (h : INV B N z) (a i : Int32) : cMost z a i = zMost z a i := by
  unfold cMost zMost
  by_cases hv : ¬ (0 ≤ a ∧ a ≤ z 194 - 1) ∨ ¬ (0 ≤ i ∧ i ≤ 5)
  · rw [if_pos hv, if_pos hv]
  · rw [if_neg hv, if_neg hv]
    obtain ⟨k, hk, -, -, ek⟩ := h.sail (nn fun q => hv (Or.inl q))
    obtain ⟨j, hj, ej⟩ := item_of (nn fun q => hv (Or.inr q))
    have ej2 : i.toNatClampNeg = j := by rw [ej]; exact nI_clamp (by omega)
    rw [ek, ej2, q_most1 h hk hj]
theorem clrV_eq {z : Zt} (hs : seaIn z) (k d : Nat) : cEarnA z k (nI d) (z 191) = zClrV z k d := by
  unfold cEarnA zClrV
  rcases hs with e | e
  · rw [e]
    rw [if_neg (show ¬ ¬ (0 : Int32) = 0 by decide), if_neg (show ¬ (0 : Int32) = 1 by decide), if_neg (show ¬ (0 : Int32) = 1 by decide), Int32.add_zero]
    rfl
  · rw [e]
    rw [if_pos (show ¬ (1 : Int32) = 0 by decide), if_pos (show (1 : Int32) = 1 by decide), if_pos (show (1 : Int32) = 1 by decide), Int32.add_zero]
    rfl
theorem q_clrF {z : Zt} (hs : seaIn z) (k : Nat) : ∀ f d, cClrF z k f d = zClrF z k f d
  | 0, _ => rfl
  | f + 1, d => by
    simp only [cClrF, zClrF, clrV_eq hs, q_clrF hs k f (d + 1)]
    rw [show -(z (10 * k + 8)) + zChg z k = zChg z k - z (10 * k + 8) by grind]
theorem q_clear {B N : Nat} {z : Zt} (h : INV B N z) (a : Int32) : cClearIn z a = zClearIn z a := by
  unfold cClearIn zClearIn
  rw [q_clrF h.2.1]
theorem q_paid {B N : Nat} {z : Zt} (h : INV B N z) : ∀ n, n ≤ N → cPaid z n = zPaid z n ∧ cDebt z n = zDebt z n ∧ cDSet z n = zDSet z n
  | 0, _ => ⟨rfl, rfl, rfl⟩
  | n + 1, hn => by
    obtain ⟨e1, e2, e3⟩ := q_paid h n (by omega)
    obtain ⟨q, eq, ec, hq1, hq2, -⟩ := h.bal2 (k := n) (by omega)
    simp only [cPaid, zPaid, cDebt, zDebt, cDSet, zDSet, e1, e2, e3, eq, ec]
    refine ⟨trivial, ?_, trivial⟩
    have L1 : 0 < -(iI q) ↔ 0 < -q := by rw [iI_neg, i0]; exact iI_lt (by omega) (by omega) (by omega) (by omega)
    have L2 : iI q < 0 ↔ q < 0 := by rw [i0]; exact iI_lt (by omega) (by omega) (by omega) (by omega)
    by_cases g : q < 0
    · rw [if_pos (L1.mpr (by omega)), if_pos (L2.mpr g)]; grind
    · rw [if_neg (mt L1.mp (by omega)), if_neg (mt L2.mp g)]; grind
theorem q_ifpo {B N : Nat} {z : Zt} (h : INV B N z) (q : Int32) : cIfPO z N q = zIfPO z N q := by
  obtain ⟨e1, e2, e3⟩ := q_paid h N (Nat.le_refl N)
  unfold cIfPO zIfPO cMiss
  rw [e1, e2, e3]
theorem ahead_eq {B N : Nat} {z : Zt} (h : INV B N z) {k : Nat} (hk : k < N) : ∀ n, n ≤ N → cAhead z k (cBal z k) n = zAhead z k n
  | 0, _ => rfl
  | n + 1, hn => by
    simp only [cAhead, zAhead]
    rw [ahead_eq h hk n (by omega), h.bal hk, h.bal (by omega)]
/-- who is ahead of one is ahead of all behind that one -/
theorem ahead_lt {z : Zt} {k l : Nat} (hkl : zBal z k < zBal z l ∨ zBal z k = zBal z l ∧ k < l) (hg : ¬ z (10 * k + 2) = 2) : ∀ n, zAhead z k n ≤ zAhead z l n ∧ (k < n → zAhead z k n < zAhead z l n)
  | 0 => ⟨Nat.le_refl _, fun q => absurd q (by omega)⟩
  | n + 1 => by
    obtain ⟨h1, h2⟩ := ahead_lt hkl hg n
    have hle : (¬ z (10 * n + 2) = 2 ∧ (zBal z n < zBal z k ∨ zBal z n = zBal z k ∧ n < k)) → (¬ z (10 * n + 2) = 2 ∧ (zBal z n < zBal z l ∨ zBal z n = zBal z l ∧ n < l)) := by
      rintro ⟨a, b⟩
      refine ⟨a, ?_⟩
      rcases b with b | ⟨b, c⟩ <;> rcases hkl with d | ⟨d, e⟩
      · exact Or.inl (Int32.lt_trans b d)
      · exact Or.inl (by rw [← d]; exact b)
      · exact Or.inl (by rw [b]; exact d)
      · exact Or.inr ⟨b.trans d, by omega⟩
    simp only [zAhead]
    by_cases g : (¬ z (10 * n + 2) = 2 ∧ (zBal z n < zBal z k ∨ zBal z n = zBal z k ∧ n < k))
    · rw [if_pos g, if_pos (hle g)]
      refine ⟨by omega, fun hk => ?_⟩
      by_cases e : k = n
      · subst e
        rcases g.2 with b | ⟨b, c⟩
        · exact absurd b Int32.lt_irrefl
        · omega
      · have := h2 (by omega); omega
    · rw [if_neg g]
      by_cases e : k = n
      · subst e
        rw [if_pos ⟨hg, hkl⟩]
        exact ⟨by omega, fun _ => by omega⟩
      · refine ⟨by omega, fun hk => ?_⟩
        have := h2 (by omega); omega
theorem found_none {z : Zt} {N : Nat} {p : Int32} : ∀ n, (∀ k, k < n → ¬ (¬ z (10 * k + 2) = 2 ∧ nI (zAhead z k N) = p)) → zFound z N p n = -1000004
  | 0, _ => rfl
  | n + 1, h => by simp only [zFound]; rw [if_neg (h n (by omega))]; exact found_none n (fun k hk => h k (by omega))
theorem found_one {z : Zt} {N k : Nat} {p : Int32} (hk : ¬ z (10 * k + 2) = 2 ∧ nI (zAhead z k N) = p) : ∀ n, k < n → (∀ l, l < n → l ≠ k → ¬ (¬ z (10 * l + 2) = 2 ∧ nI (zAhead z l N) = p)) → zFound z N p n = nI k
  | 0, h, _ => absurd h (by omega)
  | n + 1, h, hu => by
    simp only [zFound]
    by_cases e : n = k
    · subst e; rw [if_pos hk]
    · rw [if_neg (hu n (by omega) e)]; exact found_one hk n (by omega) (fun l hl => hu l (by omega))
theorem ahead_inj {z : Zt} {N k l : Nat} (h16 : N ≤ 16) (hk : k < N) (hl : l < N) (g1 : ¬ z (10 * k + 2) = 2) (g2 : ¬ z (10 * l + 2) = 2) (e : nI (zAhead z k N) = nI (zAhead z l N)) : k = l := by
  have a1 := zAhead_le z k N
  have a2 := zAhead_le z l N
  have e' := (nI_eq (by omega) (by omega)).mp e
  rcases Nat.lt_trichotomy k l with h | h | h
  · rcases (show zBal z k < zBal z l ∨ zBal z k = zBal z l ∨ zBal z l < zBal z k by grind) with b | b | b
    · have := (ahead_lt (Or.inl b) g1 N).2 hk; omega
    · have := (ahead_lt (Or.inr ⟨b, h⟩) g1 N).2 hk; omega
    · have := (ahead_lt (Or.inl b) g2 N).2 hl; omega
  · exact h
  · rcases (show zBal z k < zBal z l ∨ zBal z l = zBal z k ∨ zBal z l < zBal z k by grind) with b | b | b
    · have := (ahead_lt (Or.inl b) g1 N).2 hk; omega
    · have := (ahead_lt (Or.inr ⟨b, h⟩) g2 N).2 hl; omega
    · have := (ahead_lt (Or.inl b) g2 N).2 hl; omega
theorem q_find {B N : Nat} {z : Zt} (h : INV B N z) (p : Int32) : ∀ f k, k + f = N → (∀ l, l < k → ¬ (¬ z (10 * l + 2) = 2 ∧ nI (zAhead z l N) = p)) → cFind z N p f k = zFound z N p N
  | 0, k, e, hn => by
    simp only [cFind]
    exact (found_none N (fun l hl => hn l (by omega))).symm
  | f + 1, k, e, hn => by
    have hk : k < N := by omega
    simp only [cFind]
    rw [ahead_eq h hk N (Nat.le_refl N)]
    by_cases g : ¬ z (10 * k + 2) = 2 ∧ nI (zAhead z k N) = p
    · rw [if_pos g]
      refine (found_one g N hk (fun l hl hne gl => hne (ahead_inj h.1.2 hl hk gl.1 g.1 (gl.2.trans g.2.symm)))).symm
    · rw [if_neg g]
      refine q_find h p f (k + 1) (by omega) (fun l hl => ?_)
      by_cases e : l = k
      · subst e; exact g
      · exact hn l (by omega)
theorem q_poor {B N : Nat} {z : Zt} (h : INV B N z) (p : Int32) : cPoorest z N p = zPoorest z N p := by
  unfold cPoorest zPoorest
  rw [q_find h p N 0 (by omega) (fun l hl => absurd hl (by omega))]
theorem ne_of_in {q c : Int32} {a b : Int32} (h : ¬ (a ≤ q ∧ q ≤ b)) (h1 : a ≤ c ∧ c ≤ b) : ¬ q = c := fun e => h (by rw [e]; exact h1)
theorem q_count {B N : Nat} {z g g2 : Zt} (h : INV B N z) (e0 : g2 0 = g 0) (e1 : g2 1 = g 1) (q : Int32) : (if q = 17 then g 0 else if q = 18 then g 1 else cTell z N q) = zCount z N g2 q := by
  unfold zCount
  rw [e0, e1]
  by_cases n8 : q = 8
  · subst n8
    have tt : (8 : Int32).toNatClampNeg = 8 := by decide
    simp (decide := true) [cTell, cCoins, tt]
  by_cases n9 : q = 9
  · subst n9
    have tt : (9 : Int32).toNatClampNeg = 9 := by decide
    simp (decide := true) [cTell, cCoins, tt]
  by_cases n10 : q = 10
  · subst n10
    have tt : (10 : Int32).toNatClampNeg = 10 := by decide
    simp (decide := true) [cTell, cCoins, tt]
  by_cases n11 : q = 11
  · subst n11
    have tt : (11 : Int32).toNatClampNeg = 11 := by decide
    simp (decide := true) [cTell, cCoins, tt]
  by_cases n12 : q = 12
  · subst n12
    have tt : (12 : Int32).toNatClampNeg = 12 := by decide
    simp (decide := true) [cTell, cCoins, tt]
  by_cases n13 : q = 13
  · subst n13
    have tt : (13 : Int32).toNatClampNeg = 13 := by decide
    simp (decide := true) [cTell, cCoins, tt]
  by_cases n14 : q = 14
  · subst n14
    have tt : (14 : Int32).toNatClampNeg = 14 := by decide
    simp (decide := true) [cTell, cCoins, tt]
  by_cases n20 : q = 20
  · subst n20
    have tt : (20 : Int32).toNatClampNeg = 20 := by decide
    simp (decide := true) [cTell, cCoins, tt]
  by_cases n21 : q = 21
  · subst n21
    have tt : (21 : Int32).toNatClampNeg = 21 := by decide
    simp (decide := true) [cTell, cCoins, tt]
  by_cases n22 : q = 22
  · subst n22
    have tt : (22 : Int32).toNatClampNeg = 22 := by decide
    simp (decide := true) [cTell, cCoins, tt]
  rw [if_neg (show ¬ (8 ≤ q ∧ q ≤ 14) from fun hh => by
    obtain ⟨w, hw8, hw, rfl⟩ := in_of2 (a := 8) (n := 14) (by decide) (by decide) hh
    rcases (show w = 8 ∨ w = 9 ∨ w = 10 ∨ w = 11 ∨ w = 12 ∨ w = 13 ∨ w = 14 by omega) with rfl | rfl | rfl | rfl | rfl | rfl | rfl
    · exact n8 rfl
    · exact n9 rfl
    · exact n10 rfl
    · exact n11 rfl
    · exact n12 rfl
    · exact n13 rfl
    · exact n14 rfl)]
  rw [if_neg (show ¬ (20 ≤ q ∧ q ≤ 22) from fun hh => by
    obtain ⟨w, hw8, hw, rfl⟩ := in_of2 (a := 20) (n := 22) (by decide) (by decide) hh
    rcases (show w = 20 ∨ w = 21 ∨ w = 22 by omega) with rfl | rfl | rfl
    · exact n20 rfl
    · exact n21 rfl
    · exact n22 rfl)]
  unfold cTell cCoins
  simp only [n20, n21, n22, n8, n9, n10, n11, n12, n13, n14, if_false]
  by_cases n1 : q = 1
  · subst n1
    rcases h.2.1 with e | e
    · simp (decide := true) [e]
    · simp (decide := true) [e]
  simp only [n1, if_false]
  by_cases n15 : q = 15
  · subst n15; simp (decide := true)
  simp only [n15, if_false]
  by_cases n17 : q = 17
  · subst n17; simp (decide := true)
  by_cases n18 : q = 18
  · subst n18; simp (decide := true)
  simp only [n17, n18, if_false]
