/-! A TEXT: both sides run it alike. T the class's characters (-1 behind the end), W the reference's (0 there) -/
def sim (T W : Nat → Int32) : Prop := ∀ q, T q = W q ∨ (T q = -1 ∧ W q = 0)
section texts
variable {T W : Nat → Int32}
theorem sim_num (h : sim T W) (q : Nat) : tNum (T q) = tNum (W q) := by
  rcases h q with e | ⟨e, e2⟩
  · rw [e]
  · rw [e, e2]; decide
theorem sim_dig (h : sim T W) (q : Nat) : (48 ≤ T q ∧ T q ≤ 57) ↔ (48 ≤ W q ∧ W q ≤ 57) := by
  rcases h q with e | ⟨e, e2⟩
  · rw [e]
  · rw [e, e2]; decide
theorem sim_digE (h : sim T W) {q : Nat} (hd : 48 ≤ T q ∧ T q ≤ 57) : T q = W q := by
  rcases h q with e | ⟨e, e2⟩
  · exact e
  · rw [e] at hd; exact absurd hd (by decide)
theorem sim_44 (h : sim T W) (q : Nat) : T q = 44 ↔ W q = 44 := by
  rcases h q with e | ⟨e, e2⟩
  · rw [e]
  · rw [e, e2]; decide
theorem sim_59 (h : sim T W) (q : Nat) : T q = 59 ↔ W q = 59 := by
  rcases h q with e | ⟨e, e2⟩
  · rw [e]
  · rw [e, e2]; decide
theorem sim_nDg (h : sim T W) (p : Nat) : ∀ f d, nDg T p f d = nDg W p f d
  | 0, _ => rfl
  | f + 1, d => by
    simp only [nDg]
    rw [sim_nDg h p f (d + 1)]
    by_cases g : 48 ≤ T (p + d) ∧ T (p + d) ≤ 57
    · rw [if_pos g, if_pos ((sim_dig h _).mp g)]
    · rw [if_neg g, if_neg (mt (sim_dig h _).mpr g)]
theorem nDg_dig (p : Nat) : ∀ f d i, d ≤ i → i < nDg T p f d → 48 ≤ T (p + i) ∧ T (p + i) ≤ 57
  | 0, d, i, h1, h2 => by simp only [nDg] at h2; omega
  | f + 1, d, i, h1, h2 => by
    simp only [nDg] at h2
    by_cases g : 48 ≤ T (p + d) ∧ T (p + d) ≤ 57
    · rw [if_pos g] at h2
      by_cases e : i = d
      · subst e; exact g
      · exact nDg_dig p f (d + 1) i (by omega) h2
    · rw [if_neg g] at h2; omega
theorem nVal_congr (p : Nat) : ∀ d, (∀ i, i < d → T (p + i) = W (p + i)) → nVal T p d = nVal W p d
  | 0, _ => rfl
  | d + 1, h => by
    simp only [nVal]
    rw [nVal_congr p d (fun i hi => h i (by omega)), h d (by omega)]
theorem sim_nVal (h : sim T W) (p : Nat) : nVal T p (nDg T p 3 0) = nVal W p (nDg W p 3 0) := by
  rw [← sim_nDg h]
  exact nVal_congr p _ (fun i hi => sim_digE h (nDg_dig p 3 0 i (by omega) hi))
theorem sim_plF (h : sim T W) (M p0 : Nat) : ∀ k, plF T M p0 k = plF W M p0 k
  | 0 => rfl
  | k + 1 => by simp only [plF]; rw [sim_plF h M p0 k, sim_nDg h]
theorem sim_bad (h : sim T W) (M p0 k : Nat) : rdBad T M p0 k = rdBad W M p0 k := by
  unfold rdBad
  rw [sim_plF h, sim_nDg h]
  simp only [sim_44 h]
theorem sim_rdA (h : sim T W) (M p0 : Nat) : ∀ f k, rdA T M p0 f k = rdA W M p0 f k
  | 0, k => by simp only [rdA]; rw [sim_plF h]; simp only [sim_59 h]
  | f + 1, k => by simp only [rdA]; rw [sim_bad h, sim_rdA h M p0 f (k + 1)]
theorem sim_rdB (h : sim T W) (M fr p0 : Nat) : ∀ f k, rdB T M fr p0 f k = rdB W M fr p0 f k
  | 0, k => by simp only [rdB]; rw [sim_plF h]
  | f + 1, k => by simp only [rdB]; rw [sim_bad h, sim_rdB h M fr p0 f (k + 1), sim_plF h, sim_nDg h]
theorem sim_rdM (h : sim T W) (u : Nat) : rdM T u = rdM W u := by unfold rdM; rw [sim_num h]
theorem sim_ans (h : sim T W) (u : Nat) : rdAns T u = rdAns W u := by unfold rdAns; rw [sim_num h, sim_rdM h, sim_rdA h]
theorem sim_brk (h : sim T W) (u : Nat) : rdBrk T u = rdBrk W u := by unfold rdBrk; rw [sim_num h, sim_rdM h, sim_rdB h]
theorem sim_tU (h : sim T W) : ∀ k, tU T k = tU W k
  | 0 => rfl
  | k + 1 => by simp only [tU]; rw [sim_tU h k, sim_ans h]
/-- a good order: all its numbers were read -/
theorem rd_good {M p0 : Nat} : ∀ f k, ¬ rdA T M p0 f k < 0 → (∀ nu, crU T M p0 nu f k = nuF T M p0 nu (k + f)) ∧ (∀ nu, rdU T M p0 nu f k = nuF T M p0 nu (k + f))
  | 0, k, _ => ⟨fun nu => rfl, fun nu => rfl⟩
  | f + 1, k, h => by
    simp only [rdA] at h
    by_cases g : rdBad T M p0 k = true
    · rw [if_pos g] at h; exact absurd (by decide) h
    · rw [if_neg g] at h
      obtain ⟨a, b⟩ := rd_good f (k + 1) h
      have hD : ¬ nDg T (plF T M p0 k) 3 0 = 0 := fun e => g (bad_0 e)
      refine ⟨fun nu => ?_, fun nu => ?_⟩
      · simp only [crU]; rw [if_neg hD, if_neg g, a]; exact congrArg _ (by omega)
      · simp only [rdU]; rw [if_neg g, b]; exact congrArg _ (by omega)
theorem nuF_at {M p0 : Nat} {nu : Zt} : ∀ k i, i < k → nuF T M p0 nu k i = nVal T (plF T M p0 i) (nDg T (plF T M p0 i) 3 0)
  | 0, i, h => absurd h (by omega)
  | k + 1, i, h => by
    simp only [nuF]
    by_cases e : i = k
    · subst e; exact upd_s _ _ _
    · rw [upd_n _ _ e]; exact nuF_at k i (by omega)
theorem sim_nums (h : sim T W) {u : Nat} (hg : ¬ rdAns W u < 0) (nu nu2 : Zt) {i : Nat} (hi : i < rdM W u) : crNum T u nu i = rdNum W u nu2 i := by
  have hgT : ¬ rdAns T u < 0 := by rw [sim_ans h]; exact hg
  have hn : ¬ tNum (W u) < 0 := fun e => hg (by unfold rdAns; rw [if_pos e]; decide)
  have hnT : ¬ tNum (T u) < 0 := by rw [sim_num h]; exact hn
  unfold rdAns at hg hgT
  rw [if_neg hn] at hg
  rw [if_neg hnT] at hgT
  unfold crNum rdNum
  rw [if_neg hn, if_neg hnT, (rd_good _ _ hgT).1, (rd_good _ _ hg).2, sim_rdM h, Nat.zero_add, nuF_at _ _ hi, nuF_at _ _ hi, sim_plF h, sim_nVal h]
theorem sim_let (h : sim T W) {u : Nat} (hg : ¬ rdAns W u < 0) : T u = W u := by
  rcases h u with e | ⟨e, e2⟩
  · exact e
  · exact absurd (by unfold rdAns; rw [e2, if_pos (by decide)]; decide) hg
end texts
/-! an order -/
theorem noOrd_congr {z : Zt} {q : Int32} {f f2 : Zt} (h : ∀ i, i < (tNum q).toNatClampNeg → f i = f2 i) : zNoOrd z q f = zNoOrd z q f2 ∧ zDoOrd z q f = zDoOrd z q f2 := by
  unfold zNoOrd zDoOrd
  by_cases h1 : q = 104
  · subst h1; have a := h 0 (by decide); have b := h 1 (by decide); simp [a, b]
  simp only [h1, if_false]
  by_cases h2 : q = 98
  · subst h2; have a := h 0 (by decide); have b := h 1 (by decide); have c := h 2 (by decide); simp [a, b, c]
  simp only [h2, if_false]
  by_cases h3 : q = 118
  · subst h3; have a := h 0 (by decide); have b := h 1 (by decide); have c := h 2 (by decide); simp [a, b, c]
  simp only [h3, if_false]
  by_cases h4 : q = 97
  · subst h4; have a := h 0 (by decide); have b := h 1 (by decide); simp [a, b]
  simp only [h4, if_false]
  by_cases h5 : q = 102
  · subst h5; have a := h 0 (by decide); have b := h 1 (by decide); simp [a, b]
  simp only [h5, if_false]
  by_cases h6 : q = 100
  · subst h6; have a := h 0 (by decide); simp [a]
  simp only [h6, if_false]
  by_cases h7 : q = 108
  · subst h7; have a := h 0 (by decide); simp [a]
  simp only [h7, if_false]
  by_cases h8 : q = 114
  · subst h8; have a := h 0 (by decide); have b := h 1 (by decide); simp [a, b]
  simp only [h8, if_false]
  exact ⟨trivial, trivial⟩
def OrdOk (B : Nat) (z : Zt) (a : Int32) (d : Zt) (e : Int32) (D : Zt) : Prop := (a < 0 ↔ e < 0) ∧ (e < 0 → a = e ∧ d = z) ∧ (¬ e < 0 → d = D ∧ ∃ M, INV (B + 1) M D)
theorem ord_of {B : Nat} {z : Zt} {ce cA : Int32} {cD : Zt} {e A : Int32} {D : Zt} (h : OpOk B ce cA cD e A D) : OrdOk B z (if ce < 0 then ce else cA) (if ce < 0 then z else cD) e D := by
  obtain ⟨rfl, h⟩ := h
  rcases h with h | ⟨h, hA, hp, hD, hI⟩
  · rw [if_pos h, if_pos h]
    exact ⟨Iff.rfl, fun _ => ⟨rfl, rfl⟩, fun g => absurd h g⟩
  · rw [if_neg h, if_neg h]
    exact ⟨⟨fun g => absurd g (by rw [hA]; exact Int32.not_lt.mpr hp), fun g => absurd g h⟩, fun g => absurd g h, fun _ => ⟨hD, hI⟩⟩
theorem ord_ok {B N : Nat} {z : Zt} (h : INV B N z) (hB : B < 1000000) (q : Int32) (f : Zt) : OrdOk B z (cOrdA z q f) (cOrdD z q f) (zNoOrd z q f) (zDoOrd z q f) := by
  have hN := zNN_of h.1.1 h.1.2
  unfold cOrdA cOrdD zNoOrd zDoOrd
  rw [hN]
  by_cases h1 : q = 104
  · rw [if_pos h1, if_pos h1, if_pos h1, if_pos h1]; exact ord_of (op_sign h _ _)
  rw [if_neg h1, if_neg h1, if_neg h1, if_neg h1]
  by_cases h2 : q = 98
  · rw [if_pos h2, if_pos h2, if_pos h2, if_pos h2]; exact ord_of (op_stock h _ _ _)
  rw [if_neg h2, if_neg h2, if_neg h2, if_neg h2]
  by_cases h3 : q = 118
  · rw [if_pos h3, if_pos h3, if_pos h3, if_pos h3]; exact ord_of (op_sell h _ _ _)
  rw [if_neg h3, if_neg h3, if_neg h3, if_neg h3]
  by_cases h4 : q = 97
  · rw [if_pos h4, if_pos h4, if_pos h4, if_pos h4]; exact ord_of (op_adv h _ _)
  rw [if_neg h4, if_neg h4, if_neg h4, if_neg h4]
  by_cases h5 : q = 102
  · rw [if_pos h5, if_pos h5, if_pos h5, if_pos h5]; exact ord_of (op_fine h _ _)
  rw [if_neg h5, if_neg h5, if_neg h5, if_neg h5]
  by_cases h6 : q = 100
  · rw [if_pos h6, if_pos h6, if_pos h6, if_pos h6]; exact ord_of (op_days h _)
  rw [if_neg h6, if_neg h6, if_neg h6, if_neg h6]
  by_cases h7 : q = 108
  · rw [if_pos h7, if_pos h7, if_pos h7, if_pos h7]; exact ord_of (op_leave h _)
  rw [if_neg h7, if_neg h7, if_neg h7, if_neg h7]
  by_cases h8 : q = 114
  · rw [if_pos h8, if_pos h8, if_pos h8, if_pos h8]; exact ord_of (op_back h _ _)
  rw [if_neg h8, if_neg h8, if_neg h8, if_neg h8]
  by_cases h9 : q = 111
  · rw [if_pos h9, if_pos h9, if_pos h9, if_pos h9]; exact ord_of (op_sail h)
  rw [if_neg h9, if_neg h9, if_neg h9, if_neg h9]
  by_cases h10 : q = 112
  · rw [if_pos h10, if_pos h10, if_pos h10, if_pos h10]; exact ord_of (op_port h hB)
  rw [if_neg h10, if_neg h10, if_neg h10, if_neg h10]
  exact ord_of (op_po h)
/-! the run of a text -/
section run
variable {T W : Nat → Int32} {nu nv z : Zt} {B N L : Nat}
/-- one order of the run -/
theorem run_1 (h : sim T W) {k C M : Nat} (hI : INV C M (tZ W nv z k)) (hC : C < 1000000) (e : cTz T nu z k = tZ W nv z k) (hg : ¬ rdAns W (tU W k) < 0) :
    OrdOk C (tZ W nv z k) (cAns T nu z k) (cTz T nu z (k + 1)) (zNoOrd (tZ W nv z k) (W (tU W k)) (tNu W nv (k + 1))) (tZ W nv z (k + 1)) := by
  have hm : ∀ i, i < (tNum (W (tU W k))).toNatClampNeg → cTnu T nu (k + 1) i = tNu W nv (k + 1) i := fun i hi => by
    simp only [cTnu, tNu]
    rw [sim_tU h]
    exact sim_nums h hg _ _ hi
  obtain ⟨c1, c2⟩ := noOrd_congr (z := tZ W nv z k) hm
  have := ord_ok hI hC (W (tU W k)) (cTnu T nu (k + 1))
  rw [c1, c2] at this
  unfold cAns
  simp only [cTz, tZ]
  rw [e, sim_tU h, sim_let h hg]
  exact this
def runs (T W : Nat → Int32) (nu nv z : Zt) (B k : Nat) : Prop := (∀ j, j ≤ k → cTz T nu z j = tZ W nv z j ∧ ∃ M, INV (B + j) M (tZ W nv z j)) ∧ k ≤ tU W k
theorem run_all (h : sim T W) (hB : B + 60 < 1000000) (hL : L ≤ 60) : ∀ f k, k + f = L → runs T W nu nv z B k → cxK T L nu z (60 - k) k = txK W L nv z f k ∧ runs T W nu nv z B (txK W L nv z f k) ∧ txK W L nv z f k ≤ L ∧ (L ≤ tU W (txK W L nv z f k) ∨ rdAns W (tU W (txK W L nv z f k)) < 0 ∨ tCau W nv z (txK W L nv z f k) < 0)
  | 0, k, hk, hr => by
    obtain rfl : k = L := by omega
    simp only [txK]
    have hu : k ≤ tU T k := by rw [sim_tU h]; exact hr.2
    exact ⟨cxK_e hu, hr, Nat.le_refl k, Or.inl hr.2⟩
  | f + 1, k, hk, hr => by
    obtain ⟨hj, hu⟩ := hr
    simp only [txK]
    by_cases g1 : L ≤ tU W k
    · rw [if_pos g1, cxK_e (by rw [sim_tU h]; exact g1)]
      exact ⟨rfl, ⟨hj, hu⟩, by omega, Or.inl g1⟩
    rw [if_neg g1]
    have g1T : ¬ L ≤ tU T k := by rw [sim_tU h]; exact g1
    by_cases g2 : rdAns W (tU W k) < 0
    · rw [if_pos (Or.inl g2), cxK_b g1T (Or.inl (by rw [sim_tU h, sim_ans h]; exact g2))]
      exact ⟨rfl, ⟨hj, hu⟩, by omega, Or.inr (Or.inl g2)⟩
    obtain ⟨e, M, hI⟩ := hj k (Nat.le_refl k)
    obtain ⟨o1, o2, o3⟩ := run_1 h hI (by omega) e g2
    have ec : tCau W nv z k = zNoOrd (tZ W nv z k) (W (tU W k)) (tNu W nv (k + 1)) := by unfold tCau; rw [if_neg g2]
    by_cases g3 : tCau W nv z k < 0
    · rw [if_pos (Or.inr g3), cxK_b g1T (Or.inr (o1.mpr (by rw [← ec]; exact g3)))]
      exact ⟨rfl, ⟨hj, hu⟩, by omega, Or.inr (Or.inr g3)⟩
    have g4 : ¬ (rdAns W (tU W k) < 0 ∨ tCau W nv z k < 0) := fun q => q.elim g2 g3
    have g5 : ¬ (rdAns T (tU T k) < 0 ∨ cAns T nu z k < 0) := by
      rw [sim_tU h, sim_ans h]
      exact fun q => q.elim g2 (fun q => g3 (by rw [ec]; exact o1.mp q))
    rw [if_neg g4, cxK_s (by omega) g1T g5]
    obtain ⟨d1, d2⟩ := o3 (by rw [← ec]; exact g3)
    refine run_all h hB hL f (k + 1) (by omega) ⟨fun j hj2 => ?_, ?_⟩
    · by_cases ej : j = k + 1
      · subst ej; exact ⟨d1, d2⟩
      · exact hj j (by omega)
    · obtain ⟨v, v1, v2, v3⟩ := rdAns_gt g2
      simp only [tU]
      rw [v3, nI_clamp (by omega)]
      omega
/-- both sides come to the same order -/
theorem run_end (h : sim T W) (hI : INV B N z) (hB : B + 60 < 1000000) (hL : L ≤ 60) : ∃ k, k ≤ L ∧ cxK T L nu z 60 0 = k ∧ txK W L nv z L 0 = k ∧ runs T W nu nv z B k ∧ (L ≤ tU W k ∨ (¬ L ≤ tU W k ∧ (rdAns W (tU W k) < 0 ∨ tCau W nv z k < 0))) := by
  have h0 : runs T W nu nv z B 0 := by
    refine ⟨fun j hj => ?_, Nat.zero_le _⟩
    obtain rfl : j = 0 := by omega
    exact ⟨rfl, N, hI⟩
  obtain ⟨a, b, c, d⟩ := run_all (nu := nu) (nv := nv) h hB hL L 0 (by omega) h0
  refine ⟨_, c, a, rfl, b, ?_⟩
  by_cases g : L ≤ tU W (txK W L nv z L 0)
  · exact Or.inl g
  · exact Or.inr ⟨g, d.resolve_left g⟩
end run
