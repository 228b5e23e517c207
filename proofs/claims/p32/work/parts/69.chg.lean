/-! THE LAW'S CHANGES: when each is refused, and that its own steps are the books' -/
section CHG
variable {B N k j m x S D : Nat} {y : Zt} {w : Nat}
theorem in_nat {a b m : Nat} (h1 : a ≤ m) (h2 : m ≤ b) (hb : b < 2 ^ 31) : nI a ≤ nI m ∧ nI m ≤ nI b := ⟨(nI_leI (by omega) (by omega)).mpr h1, (nI_leI (by omega) hb).mpr h2⟩
theorem in_99 (h1 : 1 ≤ m) (h2 : m ≤ 99) : 1 ≤ nI m ∧ nI m ≤ 99 := in_nat (a := 1) (b := 99) h1 h2 (by decide)
theorem in_999 (h1 : 1 ≤ m) (h2 : m ≤ 999) : 1 ≤ nI m ∧ nI m ≤ 999 := in_nat (a := 1) (b := 999) h1 h2 (by decide)
theorem in_w (h : w ≤ 1) : 0 ≤ nI w ∧ nI w ≤ 1 := in_nat (a := 0) (b := 1) (by omega) h (by decide)
theorem INV.cl {k N B : Nat} {y : Zt} (h : INV B N y) (hk : k < N) : (nI k).toNatClampNeg = k := nI_clamp (by have := h.1.2; omega)
theorem cl6 {j : Nat} (h : j < 6) : (nI j).toNatClampNeg = j := nI_clamp (by omega)
theorem sea_nat (hS : y 191 = nI S) (h1 : S ≤ 1) : y 191 = 1 ↔ S = 1 := by
  rw [hS, show (1 : Int32) = nI 1 from rfl, nI_eq (by omega) (by decide)]
-- sign
theorem no_sign (hI : INV B N y) (hS : y 191 = nI S) (hS1 : S ≤ 1) (hj : j < 4) (hw : w ≤ 1) (h : S = 1 ∨ N = 16) : zNoSign y (nI j) (nI w) = if S = 1 then -1000002 else -1000003 := by
  unfold zNoSign
  rw [if_neg (fun q => q.elim (fun q => q (in_nat (a := 0) (b := 3) (by omega) (by omega) (by decide))) (fun q => q (in_w hw)))]
  by_cases e : S = 1
  · rw [if_pos ((sea_nat hS hS1).mpr e), if_pos e]
  · rw [if_neg (mt (sea_nat hS hS1).mp e), if_neg e, if_pos (by rw [hI.1.1, h.resolve_left e]; rfl)]
theorem yes_sign (hI : INV B N y) (hS : y 191 = nI S) (hS1 : S ≤ 1) (hj : j < 4) (hw : w ≤ 1) (h1 : ¬ S = 1) (h2 : ¬ N = 16) : zNoSign y (nI j) (nI w) = 0 := by
  unfold zNoSign
  rw [if_neg (fun q => q.elim (fun q => q (in_nat (a := 0) (b := 3) (by omega) (by omega) (by decide))) (fun q => q (in_w hw))), if_neg (mt (sea_nat hS hS1).mp h1), if_neg]
  rw [hI.1.1, show (16 : Int32) = nI 16 from rfl, nI_eq (by have := hI.1.2; omega) (by decide)]; exact h2
theorem bad_sign4 (y : Zt) : zNoSign y 4 0 = -1000001 := if_pos (Or.inl (by decide))
theorem bad_sign2 (y : Zt) : zNoSign y 0 2 = -1000001 := if_pos (Or.inr (by decide))
theorem do_sign (y : Zt) (hN : N < 16) (a b : Int32) : zDoSign y N a b = upd (upd (zClear (upd (upd (upd (upd y (10 * N) a) (10 * N + 1) b) (10 * N + 2) 0) (10 * N + 9) 0) N) (10 * N + 8) 0) 194 (nI (N + 1)) := by
  unfold zDoSign; funext q; simp only [zClear, upd]; grind
-- sell
theorem why_val (y : Zt) (k j : Nat) (c : Int32) : ¬ 0 < lWhy y k j c → lWhy y k j c = 0 := by
  unfold lWhy; split
  · intro h; exact absurd (by decide) h
  split
  · intro h; exact absurd (by decide) h
  split
  · intro h; exact absurd (by decide) h
  · intro; rfl
theorem no_sell (hI : INV B N y) (hk : k < N) (hj : j < 6) (h1 : 1 ≤ m) (h2 : m ≤ 99) (h : 0 < lWhy y k j (nI m)) : zNoSell y (nI k) (nI j) (nI m) = -1000002 := by
  unfold zNoSell
  rw [if_neg (fun q => q.elim (fun q => q (in_sail hI hk)) (fun q => q.elim (fun q => q (in_item hj)) (fun q => q (in_99 h1 h2)))), hI.cl hk, cl6 hj, ← law_why hI hk hj (by omega), if_pos h]
theorem yes_sell (hI : INV B N y) (hk : k < N) (hj : j < 6) (h1 : 1 ≤ m) (h2 : m ≤ 99) (h : ¬ 0 < lWhy y k j (nI m)) : zNoSell y (nI k) (nI j) (nI m) = 0 := by
  unfold zNoSell
  rw [if_neg (fun q => q.elim (fun q => q (in_sail hI hk)) (fun q => q.elim (fun q => q (in_item hj)) (fun q => q (in_99 h1 h2)))), hI.cl hk, cl6 hj, ← law_why hI hk hj (by omega), if_neg h]
theorem bad_sellN (hI : INV B N y) (a b : Int32) : zNoSell y (nI N) a b = -1000001 := if_pos (Or.inl (out_sail hI))
theorem bad_sell6 (y : Zt) (a b : Int32) : zNoSell y a 6 b = -1000001 := if_pos (Or.inr (Or.inl (by decide)))
theorem bad_sell100 (y : Zt) (a b : Int32) : zNoSell y a b 100 = -1000001 := if_pos (Or.inr (Or.inr (by decide)))
theorem whyP_in (hI : INV B N y) (hk : k < N) (hj : j < 6) (h1 : 1 ≤ m) (h2 : m ≤ 99) : zWhyP y (nI k) (nI j) (nI m) = lWhy y k j (nI m) := by
  unfold zWhyP
  rw [if_pos ⟨in_sail hI hk, in_item hj, in_99 h1 h2⟩, hI.cl hk, cl6 hj, law_why hI hk hj (by omega)]
theorem do_sell (hI : INV B N y) (hk : k < N) (hj : j < 6) (c p : Int32) (hp : c * y (160 + 5 * j + 1) = p) : zDoSell y (nI k).toNatClampNeg (nI j).toNatClampNeg c = zWrite (upd (upd (upd (upd (upd y (160 + 5 * j) (y (160 + 5 * j) - c)) (160 + 5 * j + 3) (y (160 + 5 * j + 3) + c)) (160 + 5 * j + 4) (y (160 + 5 * j + 4) + p)) (10 * k + 5) (y (10 * k + 5) + p)) 200 (y 200 + p)) (nI k) 0 p := by
  have h16 := hI.1.2
  subst hp
  unfold zDoSell
  rw [hI.cl hk, cl6 hj, zCharge_5 (by omega)]
  refine congrArg (fun q9 => zWrite q9 _ 0 _) ?_
  funext q; simp only [upd]; grind
-- advance
theorem no_adv (hI : INV B N y) (hk : k < N) (h1 : 1 ≤ x) (h2 : x ≤ 999) (h : y 191 = 1 ∨ y (10 * k + 2) = 2 ∨ zBal y k < nI x) : zNoAdv y (nI k) (nI x) = -1000002 := by
  unfold zNoAdv
  rw [if_neg (fun q => q.elim (fun q => q (in_sail hI hk)) (fun q => q (in_999 h1 h2))), hI.cl hk, if_pos h]
theorem yes_adv (hI : INV B N y) (hk : k < N) (h1 : 1 ≤ x) (h2 : x ≤ 999) (h : ¬ (y 191 = 1 ∨ y (10 * k + 2) = 2 ∨ zBal y k < nI x)) : zNoAdv y (nI k) (nI x) = 0 := by
  unfold zNoAdv
  rw [if_neg (fun q => q.elim (fun q => q (in_sail hI hk)) (fun q => q (in_999 h1 h2))), hI.cl hk, if_neg h]
theorem bad_adv0 (y : Zt) (a : Int32) : zNoAdv y a 0 = -1000001 := if_pos (Or.inr (by decide))
theorem bad_advm (y : Zt) (a : Int32) : zNoAdv y (-1) a = -1000001 := if_pos (Or.inl (fun q => absurd q.1 (by decide)))
theorem do_adv (hI : INV B N y) (hk : k < N) (c : Int32) : zDoAdv y (nI k).toNatClampNeg c = zWrite (zSpend (upd (upd y (10 * k + 7) (y (10 * k + 7) + c)) 198 (y 198 + c)) c) (nI k) 2 c := by
  have h16 := hI.1.2
  unfold zDoAdv
  rw [hI.cl hk, zCharge_7 (by omega), zSpend_zWrite]
-- fine
theorem no_fine (hI : INV B N y) (hk : k < N) (h1 : 1 ≤ x) (h2 : x ≤ 999) (h : y (10 * k + 2) = 2 ∨ zBal y k - nI x < -4000) : zNoFine y (nI k) (nI x) = -1000002 := by
  unfold zNoFine
  rw [if_neg (fun q => q.elim (fun q => q (in_sail hI hk)) (fun q => q (in_999 h1 h2))), hI.cl hk, if_pos h]
theorem yes_fine (hI : INV B N y) (hk : k < N) (h1 : 1 ≤ x) (h2 : x ≤ 999) (h : ¬ (y (10 * k + 2) = 2 ∨ zBal y k - nI x < -4000)) : zNoFine y (nI k) (nI x) = 0 := by
  unfold zNoFine
  rw [if_neg (fun q => q.elim (fun q => q (in_sail hI hk)) (fun q => q (in_999 h1 h2))), hI.cl hk, if_neg h]
theorem bad_fine (y : Zt) (a : Int32) : zNoFine y a 1000 = -1000001 := if_pos (Or.inr (by decide))
theorem zFn_eq (hk : k < 16) (c : Int32) : zCharge y k 6 c = zFn y k c := zCharge_6 hk c
theorem zFn_lo {c : Int32} {i : Nat} (h : i < 206) (h1 : i ≠ 10 * k + 6) (h2 : i ≠ 201) : zFn y k c i = y i := by
  unfold zFn; rw [zWrite_lo _ _ _ _ h, upd_n _ _ h2, upd_n _ _ h1]
theorem do_fine (hI : INV B N y) (hk : k < N) (c : Int32) : zDoFine y (nI k).toNatClampNeg c = zFn y k c := by
  have h16 := hI.1.2
  unfold zDoFine; rw [hI.cl hk]; exact zFn_eq (by omega) c
theorem ans_fine (hI : INV B N y) (hk : k < N) (hg : ¬ y (10 * k + 2) = 2) (c : Int32) : 5000 + zBal (zDoFine y (nI k).toNatClampNeg c) (nI k).toNatClampNeg = 5000 + zBal y k - c := by
  have h16 := hI.1.2
  rw [do_fine hI hk, hI.cl hk]
  have e : zBal (zFn y k c) k = zBal y k - c := by
    unfold zBal zEarn zChg
    rw [zFn_lo (i := 10 * k + 2) (by omega) (by omega) (by omega), zFn_lo (i := 10 * k) (by omega) (by omega) (by omega), zFn_lo (i := 10 * k + 3) (by omega) (by omega) (by omega), zFn_lo (i := 10 * k + 4) (by omega) (by omega) (by omega), zFn_lo (i := 10 * k + 5) (by omega) (by omega) (by omega), zFn_lo (i := 10 * k + 7) (by omega) (by omega) (by omega), zFn_lo (i := 10 * k + 8) (by omega) (by omega) (by omega),
      show zFn y k c (10 * k + 6) = y (10 * k + 6) + c by unfold zFn; rw [zWrite_lo _ _ _ _ (by omega), upd_n _ _ (by omega), upd_s], if_neg hg, if_neg hg]
    grind
  rw [e]; grind
-- fines of a watch
theorem ow_1 (h1 : y (10 * k + 1) = nI w) (h2 : ¬ y (10 * k + 2) = 2) : nI (zOfW y (nI w) k + 1) = nI (zOfW y (nI w) (k + 1)) := by
  simp only [zOfW]; rw [if_pos ⟨h1, h2⟩]
theorem ow_0a (h1 : ¬ y (10 * k + 1) = nI w) : nI (zOfW y (nI w) k + 0) = nI (zOfW y (nI w) (k + 1)) := by
  simp only [zOfW]; rw [if_neg (fun q => h1 q.1)]
theorem ow_0b (h2 : y (10 * k + 2) = 2) : nI (zOfW y (nI w) k + 0) = nI (zOfW y (nI w) (k + 1)) := by
  simp only [zOfW]; rw [if_neg (fun q => q.2 h2)]
theorem ow_0c (h1 : ¬ y (10 * k + 1) = nI w) : nI (zOfW y (nI w) k) = nI (zOfW y (nI w) (k + 1)) := ow_0a h1
theorem ow_0d (h2 : y (10 * k + 2) = 2) : nI (zOfW y (nI w) k) = nI (zOfW y (nI w) (k + 1)) := ow_0b h2
/-- what the law reckons of one of the watch -/
def lPt (y : Zt) (N k w x : Nat) : Nat := x / zOfW y (nI w) N + (if zOfW y (nI w) k < x % zOfW y (nI w) N then 1 else 0)
theorem lPt_eq (h16 : N ≤ 16) (hx : x ≤ 999) (hA : 0 < zOfW y (nI w) N) (hk : k ≤ N) : zPart y N k (nI w) (nI x) = nI (lPt y N k w x) := by
  have hle := zOfW_le y (nI w) N
  have hlk := zOfW_le y (nI w) k
  generalize hM : zOfW y (nI w) N = M at *
  unfold zPart lPt
  rw [hM]
  have e9 : nI x - nI x / nI M * nI M = nI (x % M) := by
    rw [pk_div (by omega) (by omega) (by omega), pk_mul, pk_sub (Nat.div_mul_le_self x M)]
    congr 1
    have := Nat.div_add_mod x M
    rw [Nat.mul_comm] at this
    omega
  have hm := Nat.mod_lt x hA
  rw [e9, pk_div (by omega) (by omega) (by omega)]
  by_cases g : zOfW y (nI w) k < x % M
  · rw [if_pos ((nI_ltI (by omega) (by omega)).mpr g), if_pos g, ← nI_add]; rfl
  · rw [if_neg (mt (nI_ltI (by omega) (by omega)).mp g), if_neg g]; exact Int32.add_zero _
def lCan (y : Zt) (N w x : Nat) : Nat → Bool
  | 0 => true
  | n + 1 => lCan y N w x n && (!decide (y (10 * n + 1) = nI w ∧ ¬ y (10 * n + 2) = 2) || !decide (zBal y n - nI (lPt y N n w x) < -4000))
theorem lCan_eq (h16 : N ≤ 16) (hx : x ≤ 999) (hA : 0 < zOfW y (nI w) N) : ∀ n, n ≤ N → zCan y N (nI w) (nI x) n = lCan y N w x n
  | 0, _ => by simp only [zCan, lCan]; exact decide_eq_true hA
  | n + 1, hn => by
    simp only [zCan, lCan]
    rw [lCan_eq h16 hx hA n (by omega), lPt_eq h16 hx hA (by omega)]
theorem can_0 {P : Prop} [Decidable P] (h : ¬ y (10 * k + 1) = nI w ∨ y (10 * k + 2) = 2) (e : P ↔ lCan y N w x k = true) : b2 P = b2 (lCan y N w x (k + 1) = true) := by
  have e2 : (lCan y N w x (k + 1) = true) ↔ P := by
    simp only [lCan]
    rw [decide_eq_false (fun q : y (10 * k + 1) = nI w ∧ ¬ y (10 * k + 2) = 2 => h.elim (fun g => g q.1) (fun g => q.2 g))]
    simp [e]
  unfold b2
  by_cases hp : P
  · rw [if_pos hp, if_pos (e2.mpr hp)]
  · rw [if_neg hp, if_neg (fun q => hp (e2.mp q))]
theorem can_f (h : ¬ lCan y N w x k = true) : (0 : Int32) = b2 (lCan y N w x (k + 1) = true) := by
  refine (b2_f (fun q => h ?_)).symm
  simp only [lCan] at q
  exact (Bool.and_eq_true _ _ ▸ q).1
theorem can_1 (h0 : lCan y N w x k = true) (h1 : y (10 * k + 1) = nI w) (h2 : ¬ y (10 * k + 2) = 2) (h : ¬ zBal y k - nI (lPt y N k w x) < -4000) : (1 : Int32) = b2 (lCan y N w x (k + 1) = true) := by
  refine (b2_t ?_).symm
  simp [lCan, h0, h1, h2, h]
theorem can_2 (h1 : y (10 * k + 1) = nI w) (h2 : ¬ y (10 * k + 2) = 2) (h : zBal y k - nI (lPt y N k w x) < -4000) : (0 : Int32) = b2 (lCan y N w x (k + 1) = true) := by
  refine (b2_f (fun q => ?_)).symm
  simp [lCan, h1, h2, h] at q
theorem no_fw (hI : INV B N y) (hw : w ≤ 1) (h1 : 1 ≤ x) (h2 : x ≤ 999) (h : zOfW y (nI w) N = 0 ∨ ¬ lCan y N w x N = true) : zNoFW y N (nI w) (nI x) = -1000002 := by
  unfold zNoFW
  rw [if_neg (fun q => q.elim (fun q => q (in_w hw)) (fun q => q (in_999 h1 h2))), if_neg]
  intro hc
  have hA := ((zCan_iff N).mp hc).1
  exact h.elim (fun g => by omega) (fun g => g (by rw [← lCan_eq hI.1.2 h2 hA N (Nat.le_refl N)]; exact hc))
theorem can_all (hI : INV B N y) (h2 : x ≤ 999) (hA : ¬ zOfW y (nI w) N = 0) (h : lCan y N w x N = true) : zCan y N (nI w) (nI x) N = true := by
  rw [lCan_eq hI.1.2 h2 (by omega) N (Nat.le_refl N)]; exact h
theorem yes_fw (hI : INV B N y) (hw : w ≤ 1) (h1 : 1 ≤ x) (h2 : x ≤ 999) (hA : ¬ zOfW y (nI w) N = 0) (h : lCan y N w x N = true) : zNoFW y N (nI w) (nI x) = 0 := by
  unfold zNoFW
  rw [if_neg (fun q => q.elim (fun q => q (in_w hw)) (fun q => q (in_999 h1 h2))), if_pos (can_all hI h2 hA h)]
theorem bad_fw (y : Zt) (N : Nat) (a : Int32) : zNoFW y N 2 a = -1000001 := if_pos (Or.inl (by decide))
theorem fw_inv (hI : INV B N y) (h1 : 1 ≤ x) (h2 : x ≤ 999) (hA : ¬ zOfW y (nI w) N = 0) (h : lCan y N w x N = true) (hk : k ≤ N) : INV B N (zFineTo y N (nI w) (nI x) k) := by
  have hc := can_all hI h2 hA h
  rw [iI_nat x] at hc ⊢
  exact (fineTo_all hI (by omega) (by omega) hc k hk).1
theorem fw_lo (h16 : N ≤ 16) {c d : Int32} {i n : Nat} (hk : k < 16) (hi : i = 10 * k + 1 ∨ i = 10 * k + 2) : zFineTo y N c d n i = y i :=
  zFineTo_lo y N c d (by omega) (by omega) (by omega) (by omega) n (fun q hq => by omega)
theorem fw_part (h16 : N ≤ 16) (hx : x ≤ 999) (hA : 0 < zOfW y (nI w) N) (hk : k ≤ N) (n : Nat) : zPart (zFineTo y N (nI w) (nI x) n) N k (nI w) (nI x) = nI (lPt y N k w x) := by
  have e : ∀ q, q ≤ N → zOfW (zFineTo y N (nI w) (nI x) n) (nI w) q = zOfW y (nI w) q := fun q hq => zOfW_congr q (fun p hp => ⟨fw_lo h16 (by omega) (Or.inl rfl), fw_lo h16 (by omega) (Or.inr rfl)⟩)
  unfold zPart
  rw [e N (Nat.le_refl N), e k hk]
  exact lPt_eq h16 hx hA hk
theorem fw_1 (h16 : N ≤ 16) (hx : x ≤ 999) (hA : 0 < zOfW y (nI w) N) (hk : k < N) (h1 : y (10 * k + 1) = nI w) (h2 : ¬ y (10 * k + 2) = 2) {q : Nat} (hq : q = lPt y N k w x) : zFn (zFineTo y N (nI w) (nI x) k) k (nI q) = zFineTo y N (nI w) (nI x) (k + 1) := by
  subst hq
  simp only [zFineTo]
  rw [fw_lo h16 (k := k) (by omega) (Or.inl rfl), fw_lo h16 (k := k) (by omega) (Or.inr rfl), if_pos ⟨h1, h2⟩, fw_part h16 hx hA (by omega) k]
  exact (zFn_eq (by omega) _).symm
theorem fw_0 (h16 : N ≤ 16) (hk : k < N) (h : ¬ y (10 * k + 1) = nI w ∨ y (10 * k + 2) = 2) : zFineTo y N (nI w) (nI x) k = zFineTo y N (nI w) (nI x) (k + 1) := by
  simp only [zFineTo]
  rw [fw_lo h16 (k := k) (by omega) (Or.inl rfl), fw_lo h16 (k := k) (by omega) (Or.inr rfl), if_neg (fun q => h.elim (fun g => g q.1) (fun g => q.2 g))]
-- dismiss
theorem no_dis (hI : INV B N y) (hk : k < N) (h : y 191 = 1 ∨ y (10 * k + 2) = 2 ∨ zBal y k < 0) : zNoDis y (nI k) = -1000002 := by
  unfold zNoDis
  rw [if_neg (not_not_intro (in_sail hI hk)), hI.cl hk, if_pos h]
theorem yes_dis (hI : INV B N y) (hk : k < N) (h : ¬ (y 191 = 1 ∨ y (10 * k + 2) = 2 ∨ zBal y k < 0)) : zNoDis y (nI k) = 0 := by
  unfold zNoDis
  rw [if_neg (not_not_intro (in_sail hI hk)), hI.cl hk, if_neg h]
theorem bad_dis (hI : INV B N y) : zNoDis y (nI N) = -1000001 := if_pos (out_sail hI)
theorem do_dis (hI : INV B N y) (hk : k < N) : zDoDis y (nI k).toNatClampNeg = upd (upd (zClear (zPay y k (zBal y k)) k) (10 * k + 8) 0) (10 * k + 2) 2 := by
  unfold zDoDis
  rw [hI.cl hk]
  funext q; simp only [zClear, upd]; grind
-- back
theorem no_back (hI : INV B N y) (hk : k < N) (h2 : x ≤ 99) (h : ¬ y (10 * k + 2) = 1 ∨ zBal y k - nI x * y 205 < -4000) : zNoBack y (nI k) (nI x) = -1000002 := by
  unfold zNoBack
  rw [if_neg (fun q => q.elim (fun q => q (in_sail hI hk)) (fun q => q (in_nat (a := 0) (b := 99) (by omega) h2 (by decide)))), hI.cl hk, if_pos h]
theorem yes_back (hI : INV B N y) (hk : k < N) (h2 : x ≤ 99) (h : ¬ (¬ y (10 * k + 2) = 1 ∨ zBal y k - nI x * y 205 < -4000)) : zNoBack y (nI k) (nI x) = 0 := by
  unfold zNoBack
  rw [if_neg (fun q => q.elim (fun q => q (in_sail hI hk)) (fun q => q (in_nat (a := 0) (b := 99) (by omega) h2 (by decide)))), hI.cl hk, if_neg h]
theorem bad_back (y : Zt) (a : Int32) : zNoBack y a 100 = -1000001 := if_pos (Or.inr (by decide))
theorem do_back (hI : INV B N y) (hk : k < N) (c : Int32) : zDoBack y (nI k).toNatClampNeg c = zFn (upd y (10 * k + 2) 0) k (c * y 205) := by
  have h16 := hI.1.2
  unfold zDoBack; rw [hI.cl hk]; exact zFn_eq (by omega) _
-- stock
theorem no_stock (hS : y 191 = nI S) (hS1 : S ≤ 1) (hj : j < 6) (h1 : 1 ≤ m) (h2 : m ≤ 99) (h3 : 1 ≤ x) (h4 : x ≤ 99) (h : S = 1 ∨ 500 < y (160 + 5 * j) + nI m) : zNoStock y (nI j) (nI m) (nI x) = if S = 1 then -1000002 else -1000003 := by
  unfold zNoStock
  rw [if_neg (fun q => q.elim (fun q => q (in_item hj)) (fun q => q.elim (fun q => q (in_99 h1 h2)) (fun q => q (in_99 h3 h4)))), cl6 hj, Nat.add_zero]
  by_cases e : S = 1
  · rw [if_pos ((sea_nat hS hS1).mpr e), if_pos e]
  · rw [if_neg (mt (sea_nat hS hS1).mp e), if_neg e, if_pos (h.resolve_left e)]
theorem yes_stock (hS : y 191 = nI S) (hS1 : S ≤ 1) (hj : j < 6) (h1 : 1 ≤ m) (h2 : m ≤ 99) (h3 : 1 ≤ x) (h4 : x ≤ 99) (e : ¬ S = 1) (h : ¬ 500 < y (160 + 5 * j) + nI m) : zNoStock y (nI j) (nI m) (nI x) = 0 := by
  unfold zNoStock
  rw [if_neg (fun q => q.elim (fun q => q (in_item hj)) (fun q => q.elim (fun q => q (in_99 h1 h2)) (fun q => q (in_99 h3 h4)))), cl6 hj, Nat.add_zero, if_neg (mt (sea_nat hS hS1).mp e), if_neg h]
theorem bad_stock6 (y : Zt) (a b : Int32) : zNoStock y 6 a b = -1000001 := if_pos (Or.inl (by decide))
theorem bad_stock100 (y : Zt) (a b : Int32) : zNoStock y a b 100 = -1000001 := if_pos (Or.inr (Or.inr (by decide)))
theorem do_stock (hj : j < 6) (a c : Int32) : zDoStock y (nI j).toNatClampNeg a c = zSpend (upd (upd (upd (upd y (160 + 5 * j) (y (160 + 5 * j) + a)) (160 + 5 * j + 1) (c + c * y 204 / 100)) (160 + 5 * j + 2) (y (160 + 5 * j + 2) + a)) 197 (y 197 + a * c)) (a * c) := by
  unfold zDoStock zPrice
  rw [cl6 hj]
  refine congrArg (fun q9 => zSpend q9 _) ?_
  funext q; simp only [upd]; grind
-- days
theorem no_days (hD : y 192 = nI D) (hD9 : D ≤ 999) (h1 : 1 ≤ m) (h2 : m ≤ 99) (h : 999 < D + m) : zNoDays y (nI m) = -1000003 := by
  unfold zNoDays
  rw [if_neg (not_not_intro (in_99 h1 h2)), hD, nI_add, if_pos (show (999 : Int32) < nI (D + m) from (nI_ltI (a := 999) (by decide) (by omega)).mpr h)]
theorem yes_days (hD : y 192 = nI D) (hD9 : D ≤ 999) (h1 : 1 ≤ m) (h2 : m ≤ 99) (h : D + m ≤ 999) : zNoDays y (nI m) = 0 := by
  unfold zNoDays
  rw [if_neg (not_not_intro (in_99 h1 h2)), hD, nI_add, if_neg (show ¬ (999 : Int32) < nI (D + m) from mt (nI_ltI (a := 999) (by decide) (by omega)).mp (by omega))]
theorem bad_days100 (y : Zt) : zNoDays y 100 = -1000001 := if_pos (by decide)
theorem bad_days0 (y : Zt) : zNoDays y 0 = -1000001 := if_pos (by decide)
theorem day_s (hD : y 192 = nI D) : upd y 192 (nI (D + m)) = zDayTo y (nI m) 0 := by
  simp only [zDayTo]; rw [hD, nI_add]
theorem day_191 (h16 : k ≤ 16) (c : Int32) : zDayTo y c k 191 = y 191 := zDayTo_o y c (by omega) k (fun q hq => by omega)
theorem day_2 (h16 : k < 16) (c : Int32) (n : Nat) : zDayTo y c n (10 * k + 2) = y (10 * k + 2) := zDayTo_o y c (by omega) n (fun q hq => by omega)
theorem day_1 (hI : INV B N y) (hk : k < N) (hS : y 191 = nI S) (hS1 : S ≤ 1) (c : Int32) (h : y (10 * k + 2) < 2) : upd (zDayTo y c k) (10 * k + (4 - S)) (zDayTo y c k (10 * k + (4 - S)) + c) = zDayTo y c (k + 1) := by
  have h16 := hI.1.2
  simp only [zDayTo]
  rw [day_2 (by omega), day_191 (by omega), if_pos ((wh_lt hI hk).mp h)]
  rcases (show S = 0 ∨ S = 1 by omega) with rfl | rfl
  · rw [if_neg (by rw [hS]; decide)]
  · rw [if_pos (by rw [hS]; rfl)]
theorem upd_self (z : Zt) (n : Nat) : upd z n (z n) = z := by
  funext i; simp only [upd]
  by_cases h : i = n
  · subst h; rw [if_pos rfl]
  · rw [if_neg h]
theorem day_0 (hI : INV B N y) (hk : k < N) (c : Int32) (n : Nat) (h : ¬ y (10 * k + 2) < 2) : upd (zDayTo y c k) n (zDayTo y c k n + 0) = zDayTo y c (k + 1) := by
  have h16 := hI.1.2
  rw [Int32.add_zero, upd_self]
  simp only [zDayTo]
  rw [day_2 (by omega), if_neg (fun q => h ((wh_lt hI hk).mpr q))]
-- leave
theorem ab_1 (h1 : y (10 * k + 1) = nI w) (h2 : y (10 * k + 2) = 0) : nI (zAbo y (nI w) k + 1) = nI (zAbo y (nI w) (k + 1)) := by
  simp only [zAbo]; rw [if_pos ⟨h1, h2⟩]
theorem ab_0 (h : ¬ y (10 * k + 1) = nI w ∨ ¬ y (10 * k + 2) = 0) : nI (zAbo y (nI w) k + 0) = nI (zAbo y (nI w) (k + 1)) := by
  simp only [zAbo]; rw [if_neg (fun q => h.elim (fun g => g q.1) (fun g => g q.2))]
def lSo (y : Zt) : Nat → Bool
  | 0 => false
  | n + 1 => lSo y n || decide (y (10 * n + 2) = 1)
theorem so_1 (h : lSo y k = true) : (1 : Int32) = b2 (lSo y (k + 1) = true) := (b2_t (by simp [lSo, h])).symm
theorem so_2 (h : y (10 * k + 2) = 1) : (1 : Int32) = b2 (lSo y (k + 1) = true) := (b2_t (by simp [lSo, h])).symm
theorem so_0 (h : ¬ lSo y k = true) (h2 : ¬ y (10 * k + 2) = 1) : (0 : Int32) = b2 (lSo y (k + 1) = true) := (b2_f (by simp [lSo, h, h2])).symm
theorem so_set (y : Zt) : ∀ n, n ≤ 16 → (¬ zSet y 1 n = 0 ↔ lSo y n = true)
  | 0, _ => by simp [zSet, lSo]
  | n + 1, hn => by
    have ih := so_set y n (by omega)
    simp only [zSet, lSo]
    by_cases h : y (10 * n + 2) = 1
    · rw [if_pos h, decide_eq_true h]
      simp only [Bool.or_true]
      exact ⟨fun _ => trivial, fun _ q => bit_ne n (by omega) (or_0 q).2⟩
    · rw [if_neg h, decide_eq_false h, Int32.or_zero, Bool.or_false]
      exact ih
theorem no_leave (hI : INV B N y) (hS : y 191 = nI S) (hS1 : S ≤ 1) (hw : w ≤ 1) (h : S = 1 ∨ lSo y N = true ∨ zAbo y (nI w) N = 0) : zNoLeave y N (nI w) = -1000002 := by
  unfold zNoLeave
  rw [if_neg (not_not_intro (in_w hw)), if_pos]
  rcases h with h | h | h
  · exact Or.inl ((sea_nat hS hS1).mpr h)
  · exact Or.inr (Or.inl ((so_set y N hI.1.2).mpr h))
  · exact Or.inr (Or.inr h)
theorem yes_leave (hI : INV B N y) (hS : y 191 = nI S) (hS1 : S ≤ 1) (hw : w ≤ 1) (h : ¬ S = 1) (h2 : ¬ lSo y N = true) (h3 : ¬ zAbo y (nI w) N = 0) : zNoLeave y N (nI w) = 0 := by
  unfold zNoLeave
  rw [if_neg (not_not_intro (in_w hw)), if_neg]
  rintro (q | q | q)
  · exact h ((sea_nat hS hS1).mp q)
  · exact h2 ((so_set y N hI.1.2).mp q)
  · exact h3 q
theorem bad_leave (y : Zt) (N : Nat) : zNoLeave y N 2 = -1000001 := if_pos (by decide)
theorem lv_1 {c : Int32} (h1 : zLeaveTo y c k (10 * k + 1) = c) (h2 : zLeaveTo y c k (10 * k + 2) = 0) : upd (zLeaveTo y c k) (10 * k + 2) 1 = zLeaveTo y c (k + 1) := by
  simp only [zLeaveTo]; rw [if_pos ⟨h1, h2⟩]
theorem lv_0 {c : Int32} (h : ¬ zLeaveTo y c k (10 * k + 1) = c ∨ ¬ zLeaveTo y c k (10 * k + 2) = 0) : upd (zLeaveTo y c k) (10 * k + 2) (zLeaveTo y c k (10 * k + 2)) = zLeaveTo y c (k + 1) := by
  rw [upd_self]
  simp only [zLeaveTo]; rw [if_neg (fun q => h.elim (fun g => g q.1) (fun g => g q.2))]
-- sail
theorem no_sail (h : y 191 = 1) : zNoSail y = -1000002 := if_pos h
theorem yes_sail (h : ¬ y 191 = 1) : zNoSail y = 0 := if_neg h
theorem no_port (h : ¬ y 191 = 1) : zNoPort y = -1000002 := if_neg h
theorem yes_port (h : y 191 = 1) : zNoPort y = 0 := if_pos h
theorem clr_0 (z : Zt) (k : Nat) : upd (zClear z k) (10 * k + 8) 0 = zClear z k := by
  funext i; simp only [zClear, upd]
  by_cases h : i = 10 * k + 8
  · rw [if_pos h, if_pos (by omega)]
  · rw [if_neg h]
theorem sl_1 (h : zSailTo y k (10 * k + 2) = 1) : upd (zClear (upd (upd (zSailTo y k) 202 (zSailTo y k 202 + zBal (zSailTo y k) k)) (10 * k + 2) 2) k) (10 * k + 8) 0 = zSailTo y (k + 1) := by
  rw [clr_0]; simp only [zSailTo]; rw [if_pos h]
theorem sl_0 (h : ¬ zSailTo y k (10 * k + 2) = 1) : zSailTo y k = zSailTo y (k + 1) := by
  simp only [zSailTo]; rw [if_neg h]
theorem ll_1 (h : zSailTo y k (10 * k + 2) = 1) : nI (zLeft y k + 1) = nI (zLeft y (k + 1)) := by
  simp only [zLeft]; rw [if_pos h]
theorem ll_0 (h : ¬ zSailTo y k (10 * k + 2) = 1) : nI (zLeft y k) = nI (zLeft y (k + 1)) := by
  simp only [zLeft]; rw [if_neg h]; rfl
-- paying off
theorem no_po (h : y 191 = 1 ∨ y 192 = 0) : zNoPO y = -1000002 := if_pos h
theorem yes_po (h : ¬ (y 191 = 1 ∨ y 192 = 0)) : zNoPO y = 0 := if_neg h
theorem po_g (h : zPOTo y k (10 * k + 2) = 2) : zPOTo y k = zPOTo y (k + 1) := by
  simp only [zPOTo]; rw [if_neg (not_not_intro h)]
theorem ps_g (h : zPOTo y k (10 * k + 2) = 2) : zPOSum y k = zPOSum y (k + 1) := by
  simp only [zPOSum]; rw [if_neg (not_not_intro h)]
theorem po_1 (h : ¬ zPOTo y k (10 * k + 2) = 2) : upd (zClear (zPO1 (zPOTo y k) k) k) (10 * k + 8) (if zBal (zPOTo y k) k < 0 then zBal (zPOTo y k) k else 0) = zPOTo y (k + 1) := by
  simp only [zPOTo]; rw [if_pos h]
theorem ps_1 (h : ¬ zPOTo y k (10 * k + 2) = 2) : zPOSum y k + (if 0 < zBal (zPOTo y k) k then zBal (zPOTo y k) k else 0) = zPOSum y (k + 1) := by
  simp only [zPOSum]; rw [if_pos h]
  by_cases g : 0 < zBal (zPOTo y k) k
  · rw [if_pos g, if_pos g]
  · rw [if_neg g, if_neg g]; exact Int32.add_zero _
-- settings
theorem yes_set (hj : j < 3) {v : Nat} (hv : v < (if j = 0 then 501 else if j = 1 then 201 else 51)) : zNoSet (nI j) (nI v) = 0 := by
  unfold zNoSet
  rw [if_neg]
  rcases (show j = 0 ∨ j = 1 ∨ j = 2 by omega) with rfl | rfl | rfl
  · rintro (q | q)
    · exact absurd (by decide) q
    · exact q (in_nat (a := 0) (b := 500) (by omega) (by simp at hv; omega) (by decide))
  · rintro (q | q)
    · exact absurd (by decide) q
    · exact q (in_nat (a := 0) (b := 200) (by omega) (by simp at hv; omega) (by decide))
  · rintro (q | q)
    · exact absurd (by decide) q
    · exact q (in_nat (a := 0) (b := 50) (by omega) (by simp at hv; omega) (by decide))
theorem bad_set3 : zNoSet 3 0 = -1000001 := by decide
theorem bad_set51 : zNoSet 2 51 = -1000001 := by decide
theorem bad_setm : zNoSet 0 (-1) = -1000001 := by decide
end CHG
section CHG2
variable {B N k x : Nat} {y : Zt} {w : Nat}
theorem lPt_1 (h : zOfW y (nI w) k < x % zOfW y (nI w) N) : lPt y N k w x = x / zOfW y (nI w) N + 1 := by unfold lPt; rw [if_pos h]
theorem lPt_0 (h : ¬ zOfW y (nI w) k < x % zOfW y (nI w) N) : lPt y N k w x = x / zOfW y (nI w) N + 0 := by unfold lPt; rw [if_neg h]
theorem sub_pt1 (b : Int32) (q : Nat) : b - nI q - 1 = b - nI (q + 1) := by rw [← nI_add, show nI 1 = (1 : Int32) from rfl]; grind
theorem sub_pt0 (b : Int32) (q : Nat) : b - nI q - 0 = b - nI (q + 0) := by rw [Nat.add_zero]; exact Int32.sub_zero _
theorem sg_194 (hN : y 194 = nI N) (h : N < 16) (a b : Int32) : upd (zClear (upd (upd (upd (upd y (10 * N) a) (10 * N + 1) b) (10 * N + 2) 0) (10 * N + 9) 0) N) (10 * N + 8) 0 194 = nI N := by
  rw [upd_n _ _ (by omega)]
  unfold zClear
  rw [if_neg (by omega), upd_n _ _ (by omega), upd_n _ _ (by omega), upd_n _ _ (by omega), upd_n _ _ (by omega), hN]
end CHG2
/-- how a turn of the law ends: with 1, class and arrays agreed again -/
def PoL (K : KT) (x : Nat) (V : VW) (B : Nat) : Option Value → VW → Prop := fun rv V2 => rv = some (.int 1) ∧ ∃ (z2 : Zt) (s2 : Ot) (M : Nat), V2 = xwL K x z2 s2 z2 V ∧ SOK s2 ∧ INV (B + 1) M z2
theorem day_z {y : Zt} {D : Nat} (hD : y 192 = nI D) (hD9 : D ≤ 999) (q : y 192 = 0) : D = 0 := by
  rw [hD, show (0 : Int32) = nI 0 from rfl, nI_eq (by omega) (by decide)] at q; exact q
