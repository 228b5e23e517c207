/-! THE BOUNDS THAT THE BOOKS KEEP, and the two sides' steps held against each other. iI: a whole number as an int. -/
def iI (n : Int) : Int32 := Int32.ofInt n
theorem iI_add (a b : Int) : iI a + iI b = iI (a + b) := (Int32.ofInt_add a b).symm
theorem iI_sub (a b : Int) : iI a - iI b = iI (a - b) := (Int32.ofInt_sub a b).symm
theorem iI_mul (a b : Int) : iI a * iI b = iI (a * b) := (Int32.ofInt_mul a b).symm
theorem iI_neg (a : Int) : -iI a = iI (-a) := (Int32.ofInt_neg a).symm
theorem iI_nat (n : Nat) : nI n = iI (n : Int) := by unfold nI iI; exact Int32.ofInt_eq_ofNat.symm
theorem iI_toInt {a : Int} (h1 : -2147483648 ≤ a) (h2 : a < 2147483648) : (iI a).toInt = a := Int32.toInt_ofInt_of_le (by omega) (by omega)
theorem iI_self (x : Int32) : x = iI x.toInt := (Int32.ofInt_toInt x).symm
theorem iI_lt {a b : Int} (h1 : -2147483648 ≤ a) (h2 : a < 2147483648) (h3 : -2147483648 ≤ b) (h4 : b < 2147483648) : iI a < iI b ↔ a < b := by
  rw [Int32.lt_iff_toInt_lt, iI_toInt h1 h2, iI_toInt h3 h4]
theorem iI_le {a b : Int} (h1 : -2147483648 ≤ a) (h2 : a < 2147483648) (h3 : -2147483648 ≤ b) (h4 : b < 2147483648) : iI a ≤ iI b ↔ a ≤ b := by
  rw [Int32.le_iff_toInt_le, iI_toInt h1 h2, iI_toInt h3 h4]
theorem iI_eq {a b : Int} (h1 : -2147483648 ≤ a) (h2 : a < 2147483648) (h3 : -2147483648 ≤ b) (h4 : b < 2147483648) : iI a = iI b ↔ a = b := by
  rw [← Int32.toInt_inj, iI_toInt h1 h2, iI_toInt h3 h4]
theorem iI_div {a b : Int} (h1 : 0 ≤ a) (h2 : a < 2147483648) (h3 : 0 < b) (h4 : b < 2147483648) : iI a / iI b = iI (a / b) := by
  obtain ⟨n, rfl⟩ : ∃ n : Nat, a = n := ⟨a.toNat, by omega⟩
  obtain ⟨m, rfl⟩ : ∃ m : Nat, b = m := ⟨b.toNat, by omega⟩
  rw [← iI_nat, ← iI_nat, pk_div (by omega) (by omega) (by omega), iI_nat]
  rfl
theorem i0 : (0 : Int32) = iI 0 := by decide
theorem i1 : (1 : Int32) = iI 1 := by decide
theorem i2 : (2 : Int32) = iI 2 := by decide
theorem i4 : (4 : Int32) = iI 4 := by decide
theorem i7 : (7 : Int32) = iI 7 := by decide
theorem i99 : (99 : Int32) = iI 99 := by decide
theorem i100 : (100 : Int32) = iI 100 := by decide
theorem i500 : (500 : Int32) = iI 500 := by decide
theorem i999 : (999 : Int32) = iI 999 := by decide
theorem i5000 : (5000 : Int32) = iI 5000 := by decide
theorem im4000 : (-4000 : Int32) = iI (-4000) := by decide
/-- wages as whole numbers -/
def wgI (r : Int32) (a b : Int) : Int := if r = 0 then (a + b) / 2 else if r = 1 then 2 * a + b else if r = 2 then 2 * (a + b) + (a + b) / 7 else 4 * a + 2 * b
theorem zWages_iI {r : Int32} {a b : Int} (ha : 0 ≤ a) (hb : 0 ≤ b) (hab : a + b ≤ 100000) : zWages r (iI a) (iI b) = iI (wgI r a b) := by
  unfold zWages wgI
  by_cases h0 : r = 0
  · rw [if_pos h0, if_pos h0, iI_add, i2, iI_div (by omega) (by omega) (by omega) (by omega)]
  rw [if_neg h0, if_neg h0]
  by_cases h1 : r = 1
  · rw [if_pos h1, if_pos h1, i2, iI_mul, iI_add]
  rw [if_neg h1, if_neg h1]
  by_cases h2 : r = 2
  · rw [if_pos h2, if_pos h2, iI_add, i7, iI_div (by omega) (by omega) (by omega) (by omega), i2, iI_mul, iI_add]
  rw [if_neg h2, if_neg h2, i4, i2, iI_mul, iI_mul, iI_add]
theorem wgI_bd {r : Int32} {a b : Int} (ha : 0 ≤ a) (hb : 0 ≤ b) : 0 ≤ wgI r a b ∧ wgI r a b ≤ 4 * (a + b) := by
  unfold wgI; split
  · omega
  split
  · omega
  split <;> omega
theorem wgI_mono {r : Int32} {a b m : Int} (ha : 0 ≤ a) (hb : 0 ≤ b) (hm : 0 ≤ m) : wgI r a b ≤ wgI r (a + m) b ∧ wgI r a b ≤ wgI r a (b + m) := by
  unfold wgI; split
  · omega
  split
  · omega
  split <;> omega
theorem wgI_0 (r : Int32) : wgI r 0 0 = 0 := by unfold wgI; simp
/-- one sailor's numbers; d the voyage's days -/
def sIn (z : Zt) (k : Nat) (d : Int) : Prop := ∃ a b c f v q : Int, (z (10 * k + 3) = iI a ∧ z (10 * k + 4) = iI b ∧ z (10 * k + 5) = iI c ∧ z (10 * k + 6) = iI f ∧ z (10 * k + 7) = iI v ∧ z (10 * k + 8) = iI q) ∧ (0 ≤ a ∧ 0 ≤ b ∧ a + b ≤ d ∧ 0 ≤ c ∧ 0 ≤ f ∧ 0 ≤ v ∧ q ≤ 0 ∧ -4000 ≤ q ∧ c + f + v ≤ wgI (z (10 * k)) a b + q + 4000) ∧ (z (10 * k + 2) = 2 → a = 0 ∧ b = 0 ∧ c = 0 ∧ f = 0 ∧ v = 0 ∧ q = 0) ∧ (z (10 * k + 2) = 0 ∨ z (10 * k + 2) = 1 ∨ z (10 * k + 2) = 2)
def itIn (z : Zt) (j : Nat) : Prop := ∃ a b : Int, z (160 + 5 * j) = iI a ∧ z (160 + 5 * j + 1) = iI b ∧ 0 ≤ a ∧ a ≤ 500 ∧ 0 ≤ b ∧ b ≤ 300 ∧ (0 < b ∨ a = 0)
def seaIn (z : Zt) : Prop := z 191 = 0 ∨ z 191 = 1
def setIn (z : Zt) : Prop := ∃ a b c : Int, (z 203 = iI a ∧ 0 ≤ a ∧ a ≤ 500) ∧ (z 204 = iI b ∧ 0 ≤ b ∧ b ≤ 200) ∧ (z 205 = iI c ∧ 0 ≤ c ∧ c ≤ 50)
def cashIn (z : Zt) : Prop := ∃ c : Int, z 195 = iI c ∧ 0 ≤ c ∧ c ≤ 500
def entIn (z : Zt) : Prop := ∃ E : Nat, E ≤ 8 ∧ z 206 = nI E
def ptIn (z : Zt) (B : Nat) : Prop := ∃ P : Nat, P ≤ B ∧ z 193 = nI P
def crewIn (z : Zt) (N : Nat) : Prop := ∃ d : Int, z 192 = iI d ∧ 0 ≤ d ∧ d ≤ 999 ∧ ∀ k, k < N → sIn z k d
/-- the books' bounds: N sailors, at most B ports -/
def INV (B N : Nat) (z : Zt) : Prop := (z 194 = nI N ∧ N ≤ 16) ∧ seaIn z ∧ setIn z ∧ cashIn z ∧ entIn z ∧ ptIn z B ∧ (∀ j, j < 6 → itIn z j) ∧ crewIn z N
theorem sea_iff {z : Zt} (h : seaIn z) : (¬ z 191 = 0) ↔ z 191 = 1 := by
  rcases h with h | h <;> rw [h] <;> decide
theorem sIn_congr {z z2 : Zt} {k : Nat} {d : Int} (e : ∀ i, 10 * k ≤ i → i ≤ 10 * k + 8 → i ≠ 10 * k + 1 → z2 i = z i) (h : sIn z k d) : sIn z2 k d := by
  unfold sIn at *
  rw [e (10 * k) (by omega) (by omega) (by omega), e (10 * k + 2) (by omega) (by omega) (by omega), e (10 * k + 3) (by omega) (by omega) (by omega), e (10 * k + 4) (by omega) (by omega) (by omega), e (10 * k + 5) (by omega) (by omega) (by omega), e (10 * k + 6) (by omega) (by omega) (by omega), e (10 * k + 7) (by omega) (by omega) (by omega), e (10 * k + 8) (by omega) (by omega) (by omega)]
  exact h
theorem itIn_congr {z z2 : Zt} {j : Nat} (e0 : z2 (160 + 5 * j) = z (160 + 5 * j)) (e1 : z2 (160 + 5 * j + 1) = z (160 + 5 * j + 1)) (h : itIn z j) : itIn z2 j := by
  unfold itIn at *; rw [e0, e1]; exact h
/-- the balance, told by both sides -/
theorem sIn_bal {z : Zt} {k : Nat} {d : Int} (hd : d ≤ 999) (h : sIn z k d) : ∃ q : Int, zBal z k = iI q ∧ cBal z k = iI q ∧ -4000 ≤ q ∧ q ≤ 4000 ∧ (z (10 * k + 2) = 2 → q = 0) := by
  obtain ⟨a, b, c, f, v, q, ⟨ea, eb, ec, ef, ev, eq⟩, ⟨ha, hb, hab, hc, hf, hv, hq, hq2, hs⟩, hg, -⟩ := h
  have hw := wgI_bd (r := z (10 * k)) ha hb
  have e1 : zEarn z k = iI (wgI (z (10 * k)) a b) := by unfold zEarn; rw [ea, eb]; exact zWages_iI ha hb (by omega)
  have e2 : zChg z k = iI (c + f + v) := by unfold zChg; rw [ec, ef, ev, iI_add, iI_add]
  refine ⟨wgI (z (10 * k)) a b + q - (c + f + v), ?_, ?_, by omega, by omega, ?_⟩
  · unfold zBal
    by_cases g : z (10 * k + 2) = 2
    · rw [if_pos g]
      obtain ⟨r1, r2, r3, r4, r5, r6⟩ := hg g
      rw [r1, r2, r3, r4, r5, r6, wgI_0]; decide
    · rw [if_neg g, e1, e2, eq, iI_add, iI_sub]
  · unfold cBal
    rw [e1, e2, eq, iI_neg, iI_sub, iI_sub]
    exact congrArg iI (by omega)
  · intro g
    obtain ⟨r1, r2, r3, r4, r5, r6⟩ := hg g
    rw [r1, r2, r3, r4, r5, r6, wgI_0]; omega
theorem INV.bal {B N k : Nat} {z : Zt} (h : INV B N z) (hk : k < N) : cBal z k = zBal z k := by
  obtain ⟨-, -, -, -, -, -, -, d, -, -, hd, hs⟩ := h
  obtain ⟨q, e1, e2, -⟩ := sIn_bal hd (hs k hk)
  rw [e1, e2]
theorem zBal_congr {z z2 : Zt} {k : Nat} (e : ∀ i, 10 * k ≤ i → i ≤ 10 * k + 8 → z2 i = z i) : zBal z2 k = zBal z k := by
  unfold zBal zEarn zChg
  rw [e (10 * k) (by omega) (by omega), e (10 * k + 2) (by omega) (by omega), e (10 * k + 3) (by omega) (by omega), e (10 * k + 4) (by omega) (by omega), e (10 * k + 5) (by omega) (by omega), e (10 * k + 6) (by omega) (by omega), e (10 * k + 7) (by omega) (by omega), e (10 * k + 8) (by omega) (by omega)]
theorem cBal_congr {z z2 : Zt} {k : Nat} (e : ∀ i, 10 * k ≤ i → i ≤ 10 * k + 8 → z2 i = z i) : cBal z2 k = cBal z k := by
  unfold cBal zEarn zChg
  rw [e (10 * k) (by omega) (by omega), e (10 * k + 3) (by omega) (by omega), e (10 * k + 4) (by omega) (by omega), e (10 * k + 5) (by omega) (by omega), e (10 * k + 6) (by omega) (by omega), e (10 * k + 7) (by omega) (by omega), e (10 * k + 8) (by omega) (by omega)]
/-! the same refusals -/
theorem INV.sail {B N : Nat} {z : Zt} {a : Int32} (h : INV B N z) (hv : 0 ≤ a ∧ a ≤ z 194 - 1) : ∃ k, k < N ∧ k < 16 ∧ a = nI k ∧ a.toNatClampNeg = k := by
  obtain ⟨k, hk, e⟩ := sail_of h.1.1 h.1.2 hv
  have := h.1.2
  exact ⟨k, hk, by omega, e, by rw [e]; exact nI_clamp (by omega)⟩
theorem noSign_eq {B N : Nat} {z : Zt} (h : INV B N z) (q w : Int32) : cNoSign z N q w = zNoSign z q w := by
  have h2 : (16 ≤ N) ↔ z 194 = 16 := by
    rw [h.1.1, show (16 : Int32) = nI 16 from rfl, nI_eq (by have := h.1.2; omega) (by omega)]
    have := h.1.2; omega
  unfold cNoSign zNoSign
  simp only [sea_iff h.2.1, h2]
theorem noStock_eq {B N : Nat} {z : Zt} (h : INV B N z) (i m c : Int32) : cNoBuy z i m c = zNoStock z i m c := by
  unfold cNoBuy zNoStock
  simp only [sea_iff h.2.1, Nat.add_zero]
theorem why_eq {B N k : Nat} {z : Zt} (h : INV B N z) (hk : k < N) (j : Nat) (m : Int32) : cWhy z k j m = zWhy z k j m := by
  unfold cWhy zWhy
  rw [h.bal hk]
  simp only [Nat.add_zero]
theorem zWhy_in (z : Zt) (k j : Nat) (m : Int32) : (¬ zWhy z k j m = 0) ↔ 0 < zWhy z k j m := by
  unfold zWhy
  split
  · decide
  split
  · decide
  split <;> decide
theorem noSell_eq {B N : Nat} {z : Zt} (h : INV B N z) (a i m : Int32) : cNoSell z a i m = zNoSell z a i m := by
  unfold cNoSell zNoSell
  by_cases hv : 0 ≤ a ∧ a ≤ z 194 - 1
  · obtain ⟨k, hk, -, -, e⟩ := h.sail hv
    rw [e]
    simp only [why_eq h hk, zWhy_in]
  · rw [if_pos (Or.inl hv), if_pos (Or.inl hv)]
theorem noAdv_eq {B N : Nat} {z : Zt} (h : INV B N z) (a x : Int32) : cNoAdv z a x = zNoAdv z a x := by
  unfold cNoAdv zNoAdv
  by_cases hv : 0 ≤ a ∧ a ≤ z 194 - 1
  · obtain ⟨k, hk, -, -, e⟩ := h.sail hv
    rw [e]
    simp only [h.bal hk, sea_iff h.2.1]
  · rw [if_pos (Or.inl hv), if_pos (Or.inl hv)]
theorem noFine_eq {B N : Nat} {z : Zt} (h : INV B N z) (a x : Int32) : cNoFine z a x = zNoFine z a x := by
  unfold cNoFine zNoFine
  by_cases hv : 0 ≤ a ∧ a ≤ z 194 - 1
  · obtain ⟨k, hk, -, -, e⟩ := h.sail hv
    rw [e]
    simp only [h.bal hk]
  · rw [if_pos (Or.inl hv), if_pos (Or.inl hv)]
theorem noBack_eq {B N : Nat} {z : Zt} (h : INV B N z) (a t : Int32) : cNoBack z a t = zNoBack z a t := by
  unfold cNoBack zNoBack
  by_cases hv : 0 ≤ a ∧ a ≤ z 194 - 1
  · obtain ⟨k, hk, -, -, e⟩ := h.sail hv
    rw [e]
    simp only [h.bal hk]
  · rw [if_pos (Or.inl hv), if_pos (Or.inl hv)]
theorem noDis_eq {B N : Nat} {z : Zt} (h : INV B N z) (a : Int32) : cNoDis z a = zNoDis z a := by
  unfold cNoDis zNoDis
  by_cases hv : 0 ≤ a ∧ a ≤ z 194 - 1
  · obtain ⟨k, hk, -, -, e⟩ := h.sail hv
    rw [e]
    simp only [h.bal hk, sea_iff h.2.1]
  · rw [if_pos hv, if_pos hv]
theorem noSail_eq {B N : Nat} {z : Zt} (h : INV B N z) : cNoSail z = zNoSail z := by
  unfold cNoSail zNoSail; simp only [sea_iff h.2.1]
theorem noPort_eq {B N : Nat} {z : Zt} (h : INV B N z) : cNoPort z = zNoPort z := by
  unfold cNoPort zNoPort
  rcases h.2.1 with e | e <;> rw [e] <;> decide
theorem noPO_eq {B N : Nat} {z : Zt} (h : INV B N z) : cNoPO z = zNoPO z := by
  unfold cNoPO zNoPO; simp only [sea_iff h.2.1]
theorem noDays_eq (z : Zt) (m : Int32) : cNoDays z m = zNoDays z m := rfl
theorem noSet_eq (q v : Int32) : cNoSet q v = zNoSet q v := by
  unfold cNoSet zNoSet
  by_cases h : 0 ≤ q ∧ q ≤ 2
  · obtain ⟨w, hw, rfl⟩ := in_of (n := 2) (by decide) h
    rw [nI_clamp (by omega), if_neg (not_not_intro h)]
    rcases (show w = 0 ∨ w = 1 ∨ w = 2 by omega) with e | e | e <;> subst e
    · simp [h]; rfl
    · simp [h]; rfl
    · simp [h]; rfl
  · rw [if_pos h, if_pos (Or.inl h)]
/-! the same steps -/
theorem cTake_eq (z : Zt) (x : Int32) : cTake z x = zSpend z x := by
  unfold cTake zSpend cMiss
  congr 1
  by_cases h : z 195 < x
  · rw [if_pos h, if_pos h]; grind
  · rw [if_neg h, if_neg h]; grind
theorem cEnter_pos {z : Zt} {a q x : Int32} (h : 0 ≤ x) : cEnter z a q x = zWrite z a q x := by
  rw [cEnter_eq]
  congr 1
  unfold clp
  by_cases h1 : x ≤ 0
  · rw [if_pos h1]; exact Int32.le_antisymm h h1
  · rw [if_neg h1]
theorem zSpend_zWrite (z : Zt) (a q x y : Int32) : zSpend (zWrite z a q x) y = zWrite (zSpend z y) a q x := by
  unfold zWrite
  by_cases h : x = 0
  · rw [if_pos h, if_pos h]
  · rw [if_neg h, if_neg h]
    funext i
    simp only [zSpend, zShift, upd]
    grind
theorem zCharge_5 {z : Zt} {k : Nat} (hk : k < 16) (x : Int32) : zCharge z k 5 x = zWrite (upd (upd z (10 * k + 5) (z (10 * k + 5) + x)) 200 (z 200 + x)) (nI k) 0 x := by
  unfold zCharge
  congr 1
  funext i
  simp only [zC4, zC3, zC2, zC1, upd]
  grind
theorem zCharge_6 {z : Zt} {k : Nat} (hk : k < 16) (x : Int32) : zCharge z k 6 x = zWrite (upd (upd z (10 * k + 6) (z (10 * k + 6) + x)) 201 (z 201 + x)) (nI k) 1 x := by
  unfold zCharge
  congr 1
  funext i
  simp only [zC4, zC3, zC2, zC1, upd]
  grind
theorem zCharge_7 {z : Zt} {k : Nat} (hk : k < 16) (x : Int32) : zCharge z k 7 x = zWrite (upd (upd z (10 * k + 7) (z (10 * k + 7) + x)) 198 (z 198 + x)) (nI k) 2 x := by
  unfold zCharge
  congr 1
  funext i
  simp only [zC4, zC3, zC2, zC1, upd]
  grind
theorem cFine_eq {z : Zt} {k : Nat} {x : Int32} (hk : k < 16) (h : 0 ≤ x) : cFine z k x = zCharge z k 6 x := by
  unfold cFine; rw [cEnter_pos h, zCharge_6 hk]
theorem cDoAdv_eq {z : Zt} {k : Nat} {x : Int32} (hk : k < 16) (h : 0 ≤ x) : cDoAdv z k x = zDoAdv z k x := by
  unfold cDoAdv zDoAdv; rw [cEnter_pos h, cTake_eq, zCharge_7 hk, zSpend_zWrite]
theorem cPay_eq {z : Zt} {k : Nat} {x : Int32} (h : 0 ≤ x) : cPay z k x = zPay z k x := by
  unfold cPay zPay; rw [cEnter_pos h, cTake_eq]
theorem cDoSell_eq {z : Zt} {k j : Nat} {m : Int32} (hk : k < 16) (hj : j < 6) (h : 0 ≤ m * z (160 + 5 * j + 1)) : cDoSell z k j m = zDoSell z k j m := by
  unfold cDoSell zDoSell; rw [cEnter_pos h, zCharge_5 hk]
  congr 1
  funext i
  simp only [cSell2, cSell1, upd]
  grind
theorem cDoBuy_eq {z : Zt} {j : Nat} {m c : Int32} (hj : j < 6) : cDoBuy z j m c = zDoStock z j m c := by
  unfold cDoBuy zDoStock cBuy1
  rw [cTake_eq]
  funext i
  simp only [zPrice, zSpend, upd]
  grind
theorem zBegin_0 (z : Zt) (k : Nat) : zBegin z k 0 = zClear z k := by
  funext i
  simp only [zBegin, zClear, upd]
  by_cases h : i = 10 * k + 8
  · rw [if_pos h, if_pos (by omega)]; decide
  · rw [if_neg h]
theorem cDoSign_eq {z : Zt} {N : Nat} (hN : N < 16) (q w : Int32) : cDoSign z N q w = zDoSign z N q w := by
  unfold cDoSign zDoSign
  rw [zBegin_0]
  funext i
  simp only [zClear, upd]
  grind
