/-! WHAT THE LAW'S COUNTS ARE, under the bounds -/
theorem INV.wh {B N k : Nat} {z : Zt} (h : INV B N z) (hk : k < N) : z (10 * k + 2) = 0 ∨ z (10 * k + 2) = 1 ∨ z (10 * k + 2) = 2 := by
  obtain ⟨-, -, -, -, -, -, -, d, -, -, -, hs⟩ := h
  obtain ⟨a, b, c, f, v, q, -, -, -, hw⟩ := hs k hk
  exact hw
theorem wh_lt {B N k : Nat} {z : Zt} (h : INV B N z) (hk : k < N) : z (10 * k + 2) < 2 ↔ ¬ z (10 * k + 2) = 2 := by
  rcases h.wh hk with e | e | e <;> rw [e] <;> decide
theorem wh_pos {B N k : Nat} {z : Zt} (h : INV B N z) (hk : k < N) : 0 < z (10 * k + 2) ↔ ¬ z (10 * k + 2) = 0 := by
  rcases h.wh hk with e | e | e <;> rw [e] <;> decide
theorem wh_nat {B N k : Nat} {z : Zt} (h : INV B N z) (hk : k < N) : ∃ w : Nat, w < 3 ∧ z (10 * k + 2) = nI w := by
  rcases h.wh hk with e | e | e
  · exact ⟨0, by omega, e⟩
  · exact ⟨1, by omega, e⟩
  · exact ⟨2, by omega, e⟩
theorem INV.balI {B N k : Nat} {z : Zt} (h : INV B N z) (hk : k < N) : ∃ q : Int, zBal z k = iI q ∧ -4000 ≤ q ∧ q ≤ 4000 ∧ (z (10 * k + 2) = 2 → q = 0) := by
  obtain ⟨-, -, -, -, -, -, -, d, -, -, hd, hs⟩ := h
  obtain ⟨q, e1, -, e3, e4, e5⟩ := sIn_bal hd (hs k hk)
  exact ⟨q, e1, e3, e4, e5⟩
theorem INV.dayN {B N : Nat} {z : Zt} (h : INV B N z) : ∃ D : Nat, D ≤ 999 ∧ z 192 = nI D := by
  obtain ⟨-, -, -, -, -, -, -, d, e, h0, hd, -⟩ := h
  refine ⟨d.toNat, by omega, ?_⟩
  rw [e, iI_nat]; congr 1; omega
theorem INV.seaN {B N : Nat} {z : Zt} (h : INV B N z) : ∃ S : Nat, S ≤ 1 ∧ z 191 = nI S := by
  rcases h.2.1 with e | e
  · exact ⟨0, by omega, e⟩
  · exact ⟨1, by omega, e⟩
theorem law_why {B N k j m : Nat} {z : Zt} (h : INV B N z) (hk : k < N) (hj : j < 6) (hm : m ≤ 100) : lWhy z k j (nI m) = zWhy z k j (nI m) := by
  unfold lWhy zWhy
  simp only [Nat.add_zero, wh_pos h hk]
  obtain ⟨q, eq, q1, q2, -⟩ := h.balI hk
  obtain ⟨a, b, ea, eb, a0, a1, b0, b1, -⟩ := h.2.2.2.2.2.2.1 j hj
  obtain ⟨s0, s1, s2, ⟨e1, c1, c2⟩, -⟩ := h.2.2.1
  have hp : (0 : Int) ≤ m * b := Int.mul_nonneg (by omega) b0
  have hq : (m : Int) * b ≤ 30000 := by
    have h1 : (m : Int) * b ≤ 100 * b := Int.mul_le_mul_of_nonneg_right (by omega) b0
    omega
  rw [eq, e1, eb, iI_nat, iI_mul, iI_add, iI_sub, iI_neg]
  have g : (iI (q + s0) < iI (m * b)) ↔ (iI (q - m * b) < iI (-s0)) := by
    rw [iI_lt (by omega) (by omega) (by omega) (by omega), iI_lt (by omega) (by omega) (by omega) (by omega)]
    omega
  simp only [g]
theorem most_end {z : Zt} {k j m : Nat} (h : m = 99 ∨ ¬ zWhy z k j (nI (m + 1)) = 0) (hm : m ≤ 99) : zMostF z k j (99 - m) m = m := by
  by_cases e : m = 99
  · subst e; rfl
  · rw [show 99 - m = 99 - (m + 1) + 1 by omega]; simp only [zMostF]; rw [if_neg (fun g => (h.resolve_left e) g.2)]
theorem most_step {z : Zt} {k j m : Nat} (h : zWhy z k j (nI (m + 1)) = 0) (hm : m < 99) : zMostF z k j (99 - m) m = zMostF z k j (99 - (m + 1)) (m + 1) := by
  conv => lhs; rw [show 99 - m = 99 - (m + 1) + 1 by omega]
  simp only [zMostF]; rw [if_pos ⟨hm, h⟩]
theorem in_sail {B N k : Nat} {z : Zt} (h : INV B N z) (hk : k < N) : 0 ≤ nI k ∧ nI k ≤ z 194 - 1 := by
  have h16 := h.1.2
  refine ⟨nI_pos' (by omega), ?_⟩
  rw [h.1.1, Int32.le_iff_toInt_le, nI_toInt (by omega), show (1 : Int32) = nI 1 from rfl, pk_sub_toInt (by omega) (by decide)]
  omega
theorem in_item {j : Nat} (hj : j < 6) : 0 ≤ nI j ∧ nI j ≤ 5 := ⟨nI_pos' (by omega), (nI_leI (b := 5) (by omega) (by decide)).mpr (by omega)⟩
theorem out_sail {B N : Nat} {z : Zt} (h : INV B N z) : ¬ (0 ≤ nI N ∧ nI N ≤ z 194 - 1) := by
  have h16 := h.1.2
  rintro ⟨-, g⟩
  rw [h.1.1, Int32.le_iff_toInt_le, nI_toInt (by omega), show (1 : Int32) = nI 1 from rfl, pk_sub_toInt (by omega) (by decide)] at g
  omega
theorem sa_q {B N k : Nat} {z : Zt} (h : INV B N z) (hk : k < N) (q : Int32) : zSailor z (nI k) q = zTellS z k q := by
  unfold zSailor
  have h16 := h.1.2
  rw [if_neg (not_not_intro (in_sail h hk)), nI_clamp (by omega)]
theorem sa_a {B N k j : Nat} {z : Zt} (h : INV B N z) (hk : k < N) (hj : j < 3) : zSailor z (nI k) (nI j) = z (10 * k + j) := by
  rw [sa_q h hk]
  rcases (show j = 0 ∨ j = 1 ∨ j = 2 by omega) with rfl | rfl | rfl <;> rfl
theorem sa_c {B N k j : Nat} {z : Zt} (h : INV B N z) (hk : k < N) (hj : j < 3) : zSailor z (nI k) (nI (8 + j)) = z (10 * k + (5 + j)) := by
  rw [sa_q h hk]
  rcases (show j = 0 ∨ j = 1 ∨ j = 2 by omega) with rfl | rfl | rfl <;> rfl
theorem ct_a (z g : Zt) (N : Nat) {i : Nat} (h : i < 5) : zCount z N g (nI i) = z (190 + i) := by
  rcases (show i = 0 ∨ i = 1 ∨ i = 2 ∨ i = 3 ∨ i = 4 by omega) with rfl | rfl | rfl | rfl | rfl <;> rfl
theorem ct_b (z g : Zt) (N : Nat) {i : Nat} (h : i < 7) : zCount z N g (nI (8 + i)) = z (190 + (5 + i)) := by
  rcases (show i = 0 ∨ i = 1 ∨ i = 2 ∨ i = 3 ∨ i = 4 ∨ i = 5 ∨ i = 6 by omega) with rfl | rfl | rfl | rfl | rfl | rfl | rfl <;> rfl
theorem ct_c (z g : Zt) (N : Nat) {i : Nat} (h : i < 3) : zCount z N g (nI (5 + i)) = zSet z (nI i) N := by
  rcases (show i = 0 ∨ i = 1 ∨ i = 2 by omega) with rfl | rfl | rfl <;> rfl
theorem ct_d (z g : Zt) (N : Nat) {i : Nat} (h : i < 3) : zCount z N g (nI (20 + i)) = z (203 + i) := by
  rcases (show i = 0 ∨ i = 1 ∨ i = 2 by omega) with rfl | rfl | rfl <;> rfl
theorem it_a (z : Zt) {i : Nat} (h : i < 30) : zItem z (nI (i / 5)) (nI (i % 5)) = z (160 + i) := by
  unfold zItem
  rw [if_pos ⟨in_item (by omega), ⟨nI_pos' (by omega), (nI_leI (b := 4) (by omega) (by decide)).mpr (by omega)⟩⟩, nI_clamp (by omega), nI_clamp (by omega)]
  congr 1; omega
theorem bk_a {z : Zt} {E i : Nat} (hE : z 206 = nI E) (hE8 : E ≤ 8) (h : i < 3 * E) : zBook z (nI (i / 3)) (nI (i % 3)) = z (207 + i) := by
  unfold zBook
  rw [if_neg, hE, if_pos ((nI_ltI (by omega) (by omega)).mpr (by omega)), nI_clamp (by omega), nI_clamp (by omega)]
  · congr 1; omega
  · rintro (g | g)
    · exact nI_pos (by omega) g
    · exact g ⟨nI_pos' (by omega), (nI_leI (b := 2) (by omega) (by decide)).mpr (by omega)⟩
theorem bk_e {z : Zt} {E : Nat} (hE : z 206 = nI E) (hE8 : E ≤ 8) : zBook z (nI E) 0 = -1000004 := by
  unfold zBook
  rw [if_neg, hE, if_neg (Int32.not_lt.mpr (Int32.le_refl _))]
  rintro (g | g)
  · exact nI_pos (by omega) g
  · exact g ⟨by decide, by decide⟩
/-- how many there are that are not gone -/
def zTh (z : Zt) : Nat → Nat
  | 0 => 0
  | n + 1 => zTh z n + (if z (10 * n + 2) = 2 then 0 else 1)
theorem zTh_le (z : Zt) : ∀ n, zTh z n ≤ n
  | 0 => Nat.le_refl _
  | n + 1 => by have := zTh_le z n; simp only [zTh]; split <;> omega
theorem zAhead_th (z : Zt) (k : Nat) : ∀ n, zAhead z k n ≤ zTh z n ∧ (k < n → ¬ z (10 * k + 2) = 2 → zAhead z k n < zTh z n)
  | 0 => ⟨Nat.le_refl _, fun h => absurd h (by omega)⟩
  | n + 1 => by
    obtain ⟨h1, h2⟩ := zAhead_th z k n
    simp only [zAhead, zTh]
    by_cases g : z (10 * n + 2) = 2
    · rw [if_neg (fun q => q.1 g), if_pos g]
      exact ⟨by omega, fun hk hg => by
        by_cases e : k = n
        · subst e; exact absurd g hg
        · have := h2 (by omega) hg; omega⟩
    · rw [if_neg g]
      refine ⟨by split <;> omega, fun hk hg => ?_⟩
      by_cases e : k = n
      · subst e
        rw [if_neg (fun q => by
          rcases q.2 with q | q
          · exact Int32.lt_irrefl q
          · exact absurd q.2 (by omega))]
        omega
      · have := h2 (by omega) hg
        split <;> omega
theorem po_place {B N k : Nat} {z : Zt} (h : INV B N z) (hk : k < N) (hg : ¬ z (10 * k + 2) = 2) : zPoorest z N (nI (zAhead z k N)) = nI k := by
  have h16 := h.1.2
  have hle := zAhead_le z k N
  unfold zPoorest
  rw [if_neg (nI_pos (by omega))]
  exact found_one ⟨hg, rfl⟩ N hk (fun l hl hne q => hne (ahead_inj h16 hl hk q.1 hg q.2))
theorem po_end {B N : Nat} {z : Zt} (h : INV B N z) : zPoorest z N (nI (zTh z N)) = -1000004 := by
  have h16 := h.1.2
  have hle := zTh_le z N
  unfold zPoorest
  rw [if_neg (nI_pos (by omega))]
  refine found_none N (fun k hk q => ?_)
  have h2 := (zAhead_th z k N).2 hk q.1
  have h3 := (nI_eq (by omega) (by omega)).mp q.2
  omega
theorem bal_gone {z : Zt} {k : Nat} (h : z (10 * k + 2) = 2) : zBal z k = 0 := if_pos h
/-- in how many days one is clear: the law's count of its own balance -/
theorem clr_at {B N k S d : Nat} {z : Zt} (h : INV B N z) (hk : k < N) (hS : z 191 = nI S) (hS1 : S ≤ 1) (hg : ¬ z (10 * k + 2) = 2) (hd : d ≤ 401) : zBal (upd z (10 * k + (4 - S)) (z (10 * k + (4 - S)) + nI d)) k < 0 ↔ zClrV z k d < zChg z k - z (10 * k + 8) := by
  obtain ⟨-, -, -, -, -, -, -, dd, -, -, hdd, hs⟩ := h
  obtain ⟨a, b, c, f, v, q, ⟨ea, eb, ec, ef, ev, eq⟩, ⟨ha, hb, hab, hc, hf, hv, hq, hq2, hs1⟩, -, -⟩ := hs k hk
  have hw := wgI_bd (r := z (10 * k)) ha hb
  have e2 : zChg z k = iI (c + f + v) := by unfold zChg; rw [ec, ef, ev, iI_add, iI_add]
  obtain ⟨a2, b2, ha2, hb2, hab2, eV, eB⟩ : ∃ a2 b2 : Int, 0 ≤ a2 ∧ 0 ≤ b2 ∧ a2 + b2 ≤ 1400 ∧ zClrV z k d = zWages (z (10 * k)) (iI a2) (iI b2) ∧ zBal (upd z (10 * k + (4 - S)) (z (10 * k + (4 - S)) + nI d)) k = zWages (z (10 * k)) (iI a2) (iI b2) + z (10 * k + 8) - zChg z k := by
    rcases (show S = 0 ∨ S = 1 by omega) with rfl | rfl
    · refine ⟨a, b + d, by omega, by omega, by omega, ?_, ?_⟩
      · unfold zClrV
        rw [if_neg (by rw [hS]; decide), if_neg (by rw [hS]; decide), Nat.add_zero, ea, eb, iI_nat, i0, iI_add, iI_add, Int.add_zero]
      · unfold zBal zEarn zChg
        simp (disch := omega) only [upd_n, Nat.sub_zero, upd_s]
        rw [if_neg hg, ea, eb, iI_nat, iI_add]
    · refine ⟨a + d, b, by omega, by omega, by omega, ?_, ?_⟩
      · unfold zClrV
        rw [if_pos (by rw [hS]; rfl), if_pos (by rw [hS]; rfl), Nat.add_zero, ea, eb, iI_nat, i0, iI_add, iI_add, Int.add_zero]
      · unfold zBal zEarn zChg
        rw [show 10 * k + (4 - 1) = 10 * k + 3 by omega]
        simp (disch := omega) only [upd_n, upd_s]
        rw [if_neg hg, ea, eb, iI_nat, iI_add]
  rw [eV, eB]
  have hw2 := wgI_bd (r := z (10 * k)) ha2 hb2
  rw [zWages_iI ha2 hb2 (by omega), e2, eq, iI_add, iI_sub, iI_sub, i0, iI_lt (by omega) (by omega) (by omega) (by omega), iI_lt (by omega) (by omega) (by omega) (by omega)]
  omega
theorem clrF_end {z : Zt} {k d : Nat} (h : d = 401 ∨ ¬ zClrV z k d < zChg z k - z (10 * k + 8)) (hd : d ≤ 401) : zClrF z k (401 - d) d = if 400 < d then -1000004 else nI d := by
  by_cases e : d = 401
  · subst e; rfl
  · rw [show 401 - d = 401 - (d + 1) + 1 by omega]; simp only [zClrF]; rw [if_neg (h.resolve_left e), if_neg (by omega)]
theorem clrF_step {z : Zt} {k d : Nat} (h : zClrV z k d < zChg z k - z (10 * k + 8)) (hd : d < 401) : zClrF z k (401 - d) d = zClrF z k (401 - (d + 1)) (d + 1) := by
  conv => lhs; rw [show 401 - d = 401 - (d + 1) + 1 by omega]
  simp only [zClrF]; rw [if_pos h]
theorem clr_in {B N k : Nat} {z : Zt} (h : INV B N z) (hk : k < N) : zClearIn z (nI k) = if z (10 * k + 2) = 2 then -1000002 else zClrF z k 401 0 := by
  unfold zClearIn
  have h16 := h.1.2
  rw [if_neg (not_not_intro (in_sail h hk)), nI_clamp (by omega)]
theorem most_in {B N k j : Nat} {z : Zt} (h : INV B N z) (hk : k < N) (hj : j < 6) : zMost z (nI k) (nI j) = nI (zMostF z k j 99 0) := by
  unfold zMost
  have h16 := h.1.2
  rw [if_neg (fun q => q.elim (fun q => q (in_sail h hk)) (fun q => q (in_item hj))), nI_clamp (by omega), nI_clamp (by omega)]
/-- a small array of its own, for the sets of sailors -/
def svL (K : KT) (V : VW) (q : Nat) (f : Zt) : VW := vset V q (.inl (K.2.1 0, 3, .inl (cutF 3 f)))
theorem sv_at {K : KT} {x q : Nat} {z y f : Zt} {s : Ot} {V : VW} (h : x + 200 ≤ q) : xwL K x z s y (svL K V q f) q = some (.inl (K.2.1 0, 3, .inl (cutF 3 f))) := by
  rw [xw_out (by omega)]; exact vset_self _ _ _
theorem sv_up {K : KT} {x q j : Nat} {v : Int32} {z y f : Zt} {s : Ot} {V : VW} (h : x + 200 ≤ q) : vset (xwL K x z s y (svL K V q f)) q (.inl (K.2.1 0, 3, .inl (cutF 3 (upd f j v)))) = xwL K x z s y (svL K V q (upd f j v)) := by
  rw [xw_vset (by omega)]
  congr 1
  funext a; simp only [svL, vset]
  by_cases e : a = q <;> simp [e]
theorem sv_eq {K : KT} {q : Nat} {f g : Zt} {V : VW} (h : ∀ w, w < 3 → f w = g w) : svL K V q f = svL K V q g := by
  unfold svL; rw [cut_eq h]
theorem sv_new {K : KT} {x q : Nat} {z y : Zt} {s : Ot} {V : VW} (h : x + 200 ≤ q) : vset (xwL K x z s y V) q (.inl (K.2.1 0, 3, .inl (fun _ => 0))) = xwL K x z s y (svL K V q (fun _ => 0)) := by
  rw [xw_vset (by omega)]
  unfold svL
  rw [show cutF 3 (fun _ => (0 : Int32)) = fun _ => 0 by funext i; unfold cutF; split <;> rfl]
theorem set_step {y : Zt} {n w : Nat} (hw : w < 3) (e : y (10 * n + 2) = nI w) : ∀ q, q < 3 → upd (fun w => zSet y (nI w) n) w (zSet y (nI w) n ||| 1 <<< (nI n &&& 31)) q = zSet y (nI q) (n + 1) := by
  intro q hq
  simp only [zSet]
  by_cases h : q = w
  · subst h; rw [upd_s, if_pos e]
  · rw [upd_n _ _ h, if_neg (fun g => h ((nI_eq (by omega) (by omega)).mp (g.symm.trans e)))]
    exact (Int32.or_zero).symm
