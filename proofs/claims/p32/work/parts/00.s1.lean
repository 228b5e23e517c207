/-! FLOATS: what a quotient of two small whole numbers is; halving, doubling, comparing; bits. Everything is said of the datum (sign +, m * 2^q). -/
abbrev fv (a : UInt32) : Jvm.FP.Core.Datum := Jvm.FP.Core.val32 a
abbrev fD (m : Nat) (q : Int) : Jvm.FP.Core.Datum := Jvm.FP.Core.Datum.fin false m q
theorem fl_qmin : Jvm.FP.Core.b32.qmin = -149 := by decide
theorem fl_qmax : Jvm.FP.Core.b32.qmax = 104 := by decide
theorem fl_tails : Jvm.FP.Core.b32.tails = 8388608 := by decide
theorem fl_exps : Jvm.FP.Core.b32.exps = 256 := by decide
theorem fl_p : Jvm.FP.Core.b32.p = 24 := rfl
theorem fl_fits {y : UInt32} {m : Nat} {q : Int} (h : fv y = fD m q) : m < 16777216 ∧ -149 ≤ q ∧ q ≤ 104 ∧ (q = -149 ∨ 8388608 ≤ m) := by
  have hf := Jvm.FP.Core.val32_fits y
  rw [show Jvm.FP.Core.val32 y = fD m q from h] at hf
  obtain ⟨g1, g2, g3, g4⟩ := hf
  rw [fl_qmin] at g2 g4; rw [fl_qmax] at g3; rw [fl_tails] at g4; rw [fl_p] at g1
  exact ⟨by omega, g2, g3, g4⟩
theorem fl_toNat {y : UInt32} {m : Nat} {q : Int} (h : fv y = fD m q) : y.toNat = Jvm.FP.Core.encode Jvm.FP.Core.b32 (fD m q) := by
  have hf := Jvm.FP.Core.val32_fits y
  rw [show Jvm.FP.Core.val32 y = fD m q from h] at hf
  have hlt := Jvm.FP.Core.encode_lt Jvm.FP.Core.good_b32 _ hf
  have ey : Jvm.FP.Core.of32 (fD m q) = y := by
    rw [← show Jvm.FP.Core.val32 y = fD m q from h]
    refine Jvm.FP.Core.of32_val32 ?_
    rw [show Jvm.FP.Core.val32 y = fD m q from h]
    exact fun c => by cases c
  rw [← ey]
  unfold Jvm.FP.Core.of32
  rw [UInt32.toNat_ofNat']
  rw [Jvm.FP.Core.size_b32] at hlt
  exact Nat.mod_eq_of_lt hlt
theorem fl_bits {y : UInt32} {m : Nat} {q : Int} (h : fv y = fD m q) (h1 : 8388608 ≤ m) : y.toNat = (q + 150).toNat * 8388608 + (m - 8388608) := by
  obtain ⟨g1, g2, g3, -⟩ := fl_fits h
  rw [fl_toNat h]
  show (if m < Jvm.FP.Core.b32.tails then Jvm.FP.Core.assemble Jvm.FP.Core.b32 false 0 m else Jvm.FP.Core.assemble Jvm.FP.Core.b32 false ((q - Jvm.FP.Core.b32.qmin).toNat + 1) (m - Jvm.FP.Core.b32.tails)) = _
  rw [fl_tails, fl_qmin, if_neg (by omega)]
  unfold Jvm.FP.Core.assemble
  rw [fl_tails, fl_exps]
  have : (q - -149).toNat + 1 = (q + 150).toNat := by omega
  rw [this]
  simp
theorem fl_lt {y : UInt32} {m : Nat} {q : Int} (h : fv y = fD m q) : y.toNat < 2139095040 := by
  obtain ⟨g1, g2, g3, g4⟩ := fl_fits h
  by_cases h1 : 8388608 ≤ m
  · rw [fl_bits h h1]
    have : (q + 150).toNat ≤ 254 := by omega
    omega
  · rw [fl_toNat h]
    show (if m < Jvm.FP.Core.b32.tails then Jvm.FP.Core.assemble Jvm.FP.Core.b32 false 0 m else Jvm.FP.Core.assemble Jvm.FP.Core.b32 false ((q - Jvm.FP.Core.b32.qmin).toNat + 1) (m - Jvm.FP.Core.b32.tails)) < _
    rw [fl_tails, if_pos (by omega)]
    unfold Jvm.FP.Core.assemble
    rw [fl_tails, fl_exps]
    simp
    omega
theorem fl_n32 {y : UInt32} {m : Nat} {q : Int} (h : fv y = fD m q) : vf_n32 y := by
  have hl := fl_lt h
  unfold vf_n32
  rw [UInt32.le_iff_toNat_le, UInt32.toNat_and]
  exact Nat.le_trans Nat.and_le_left (by show _ ≤ 2139095040; omega)
/-- a quotient of two whole numbers of up to 20 digits is a normal number -/
theorem fl_ratio {c e : Nat} (hc : 0 < c) (hc2 : c ≤ 1000000) (he : 0 < e) (he2 : e ≤ 1000000) : ∃ (m : Nat) (q : Int), Jvm.FP.Core.roundRatio Jvm.FP.Core.b32 false c e 0 = fD m q ∧ 8388608 ≤ m ∧ -60 ≤ q ∧ q ≤ 60 := by
  obtain ⟨l1, l2⟩ := Jvm.FP.Core.leading_spec hc he
  generalize hk : Jvm.FP.Core.leading c e = k at l1 l2
  have k1 : -21 ≤ k := by
    refine Int.not_lt.mp (fun q => ?_)
    have := Jvm.FP.Core.below_mono (b := -20) (by omega) l2
    unfold Jvm.FP.Core.Below at this
    simp at this
    omega
  have k2 : k ≤ 21 := by
    refine Int.not_lt.mp (fun q => ?_)
    refine l1 (Jvm.FP.Core.below_mono (a := 20) (by omega) ?_)
    unfold Jvm.FP.Core.Below
    simp
    omega
  have hQ : Jvm.FP.Core.quantum Jvm.FP.Core.b32 c e 0 = k - 23 := by
    unfold Jvm.FP.Core.quantum
    rw [hk, fl_qmin, fl_p]; omega
  have hb := Jvm.FP.Core.quantum_below (f := Jvm.FP.Core.b32) hc he 0
  have hnb := Jvm.FP.Core.quantum_not_below (f := Jvm.FP.Core.b32) hc he 0
  rw [hQ] at hb hnb
  rw [fl_qmin] at hnb
  have hnb := hnb.resolve_left (by omega)
  have hD := Jvm.FP.Core.unitsDen_pos he 0 (k - 23)
  have u1 := (Jvm.FP.Core.units_below c e 0 (k - 23) 24).mpr hb
  have u2 : ¬ Jvm.FP.Core.unitsNum c 0 (k - 23) < 2 ^ 23 * Jvm.FP.Core.unitsDen e 0 (k - 23) := mt (Jvm.FP.Core.units_below c e 0 (k - 23) 23).mp hnb
  have n1 := Jvm.FP.Core.nearest_ge hD (Nat.not_lt.mp u2)
  have n2 := Jvm.FP.Core.nearest_le hD (Nat.le_of_lt u1)
  unfold Jvm.FP.Core.roundRatio
  rw [if_neg (by omega), hQ]
  unfold Jvm.FP.Core.roundAt
  generalize Jvm.FP.Core.nearest (Jvm.FP.Core.unitsNum c 0 (k - 23)) (Jvm.FP.Core.unitsDen e 0 (k - 23)) = N at n1 n2
  unfold Jvm.FP.Core.settle Jvm.FP.Core.bound
  rw [fl_qmax, fl_tails, fl_p]
  by_cases hN : N < 2 ^ 24
  · rw [if_pos hN, if_pos (by omega)]
    exact ⟨N, k - 23, rfl, by omega, by omega, by omega⟩
  · rw [if_neg hN, if_pos (by omega)]
    exact ⟨8388608, k - 23 + 1, rfl, by omega, by omega, by omega⟩
theorem fl_i2f {c : Nat} (hc : 0 < c) (hc2 : c ≤ 1000000) : ∃ (C : Nat) (q : Int), fv (FP.i2f (nI c)) = fD C q ∧ 0 < C ∧ C * 2 ^ q.toNat = c * 2 ^ (-q).toNat := by
  have hw : Jvm.FP.Core.Whole ((nI c).toInt) (fv (FP.i2f (nI c))) := Jvm.FP.Core.i2f_int (a := nI c) (by rw [nI_toInt (by omega)]; omega)
  rw [nI_toInt (by omega)] at hw
  generalize fv (FP.i2f (nI c)) = d at hw
  cases d with
  | nan => exact hw.elim
  | inf s => exact hw.elim
  | fin s C q =>
    have hs := Jvm.FP.Core.whole_sign hw (by omega)
    have hz := Jvm.FP.Core.whole_zero hw
    have hn := Jvm.FP.Core.whole_natAbs hw
    rw [decide_eq_false (by omega)] at hs
    subst hs
    exact ⟨C, q, rfl, by omega, by simpa using hn⟩
theorem fl_quot {c e : Nat} (hc : 0 < c) (hc2 : c ≤ 1000000) (he : 0 < e) (he2 : e ≤ 1000000) : ∃ (m : Nat) (q : Int), fv (FP.fdiv (FP.i2f (nI c)) (FP.i2f (nI e))) = fD m q ∧ 8388608 ≤ m ∧ -60 ≤ q ∧ q ≤ 60 := by
  obtain ⟨C, q, h1, h2, h3⟩ := fl_i2f hc hc2
  obtain ⟨D, r, g1, g2, g3⟩ := fl_i2f he he2
  obtain ⟨m, t, e1, e2⟩ := fl_ratio hc hc2 he he2
  refine ⟨m, t, ?_, e2⟩
  rw [← e1]
  show Jvm.FP.Core.val32 (Jvm.FP.Core.fdiv _ _) = _
  rw [Jvm.FP.Core.val32_fdiv, show Jvm.FP.Core.val32 (FP.i2f (nI c)) = fD C q from h1, show Jvm.FP.Core.val32 (FP.i2f (nI e)) = fD D r from g1]
  show (if D = 0 then _ else Jvm.FP.Core.roundRatio Jvm.FP.Core.b32 (false != false) C D (q - r)) = _
  rw [if_neg (by omega)]
  refine Jvm.FP.Core.roundRatio_congr (s := false) g2 he ?_
  refine Nat.eq_of_mul_eq_mul_right (Nat.mul_pos (Nat.two_pow_pos q.toNat) (Nat.two_pow_pos (-r).toNat)) ?_
  have hx : (-q).toNat + r.toNat + (q - r - 0).toNat = q.toNat + (-r).toNat + (0 - (q - r)).toNat := by omega
  calc C * e * 2 ^ (q - r - 0).toNat * (2 ^ q.toNat * 2 ^ (-r).toNat) = (C * 2 ^ q.toNat) * (e * 2 ^ (-r).toNat) * 2 ^ (q - r - 0).toNat := by ac_rfl
    _ = (c * 2 ^ (-q).toNat) * (D * 2 ^ r.toNat) * 2 ^ (q - r - 0).toNat := by rw [h3, g3]
    _ = c * D * 2 ^ ((-q).toNat + r.toNat + (q - r - 0).toNat) := by rw [Nat.pow_add, Nat.pow_add]; ac_rfl
    _ = c * D * 2 ^ (q.toNat + (-r).toNat + (0 - (q - r)).toNat) := by rw [hx]
    _ = c * D * 2 ^ (0 - (q - r)).toNat * (2 ^ q.toNat * 2 ^ (-r).toNat) := by rw [Nat.pow_add, Nat.pow_add]; ac_rfl
theorem fl_quot0 {e : Nat} (he : 0 < e) (he2 : e ≤ 1000000) : fv (FP.fdiv (FP.i2f (nI 0)) (FP.i2f (nI e))) = fD 0 (-149) := by
  obtain ⟨D, r, g1, g2, g3⟩ := fl_i2f he he2
  show Jvm.FP.Core.val32 (Jvm.FP.Core.fdiv _ _) = _
  rw [Jvm.FP.Core.val32_fdiv, show Jvm.FP.Core.val32 (FP.i2f (nI 0)) = fD 0 (-149) from by decide +kernel, show Jvm.FP.Core.val32 (FP.i2f (nI e)) = fD D r from g1]
  show (if D = 0 then _ else Jvm.FP.Core.roundRatio Jvm.FP.Core.b32 (false != false) 0 D (-149 - r)) = _
  rw [if_neg (by omega)]
  unfold Jvm.FP.Core.roundRatio
  rw [if_pos rfl, fl_qmin]
  rfl
/-! halving, doubling -/
theorem fl_c2 : Jvm.FP.Core.val32 FP.fconst2 = fD 8388608 (-22) := by decide +kernel
theorem fl_c1 : Jvm.FP.Core.val32 FP.fconst1 = fD 8388608 (-23) := by decide +kernel
theorem fl_c0 : Jvm.FP.Core.val32 FP.fconst0 = fD 0 (-149) := by decide +kernel
theorem fl_c8 : Jvm.FP.Core.val32 1258291200 = fD 8388608 0 := by decide +kernel
theorem fl_mk {m : Nat} {q : Int} (h1 : m < 16777216) (h2 : -149 ≤ q) (h3 : q ≤ 104) (h4 : 8388608 ≤ m) : Jvm.FP.Core.fits Jvm.FP.Core.b32 (fD m q) := by
  show m < 2 ^ Jvm.FP.Core.b32.p ∧ Jvm.FP.Core.b32.qmin ≤ q ∧ q ≤ Jvm.FP.Core.b32.qmax ∧ (q = Jvm.FP.Core.b32.qmin ∨ Jvm.FP.Core.b32.tails ≤ m)
  rw [fl_qmin, fl_qmax, fl_tails, fl_p]
  omega
theorem fl_div2 {y : UInt32} {m : Nat} {q : Int} (h : fv y = fD m q) (h1 : 8388608 ≤ m) (hq : -148 ≤ q) : fv (FP.fdiv y FP.fconst2) = fD m (q - 1) := by
  obtain ⟨g1, g2, g3, -⟩ := fl_fits h
  show Jvm.FP.Core.val32 (Jvm.FP.Core.fdiv _ _) = _
  rw [Jvm.FP.Core.val32_fdiv, show Jvm.FP.Core.val32 y = fD m q from h, fl_c2]
  show Jvm.FP.Core.roundRatio Jvm.FP.Core.b32 false m 8388608 (q - -22) = _
  refine Jvm.FP.Core.roundRatio_exact Jvm.FP.Core.good_b32 (by decide) (fl_mk g1 (by omega) (by omega) h1) ?_
  rw [show (q - -22 - (q - 1)).toNat = 23 by omega, show (q - 1 - (q - -22)).toNat = 0 by omega]
  omega
theorem fl_mul2 {y : UInt32} {m : Nat} {q : Int} (h : fv y = fD m q) (h1 : 8388608 ≤ m) (hq : q ≤ 103) : fv (FP.fmul y FP.fconst2) = fD m (q + 1) := by
  obtain ⟨g1, g2, g3, -⟩ := fl_fits h
  show Jvm.FP.Core.val32 (Jvm.FP.Core.fmul _ _) = _
  rw [Jvm.FP.Core.val32_fmul, show Jvm.FP.Core.val32 y = fD m q from h, fl_c2]
  show Jvm.FP.Core.roundRatio Jvm.FP.Core.b32 false (m * 8388608) 1 (q + -22) = _
  refine Jvm.FP.Core.roundRatio_exact Jvm.FP.Core.good_b32 (by decide) (fl_mk g1 (by omega) (by omega) h1) ?_
  rw [show (q + -22 - (q + 1)).toNat = 0 by omega, show (q + 1 - (q + -22)).toNat = 23 by omega]
  omega
/-! comparing -/
theorem fl_cmp {m k : Nat} {q r : Int} (y c : UInt32) (h : fv y = fD m q) (hc : fv c = fD k r) : FP.fcmp y c = some (compareOfLessAndEq ((m * 2 ^ (q - min q r).toNat : Nat) : Int) ((k * 2 ^ (r - min q r).toNat : Nat) : Int)) := by
  show Jvm.FP.Core.order (Jvm.FP.Core.val32 y) (Jvm.FP.Core.val32 c) = _
  rw [show Jvm.FP.Core.val32 y = fD m q from h, show Jvm.FP.Core.val32 c = fD k r from hc]
  rfl
theorem fl_pow {a : Nat} (h : 0 < a) : 2 ≤ 2 ^ a := by
  obtain ⟨b, rfl⟩ : ∃ b, a = b + 1 := ⟨a - 1, by omega⟩
  have := Nat.two_pow_pos b
  rw [Nat.pow_succ]; omega
/-- below 2 ^ (r + 23) or not -/
theorem fl_ord {m : Nat} {q r : Int} (y c : UInt32) (h : fv y = fD m q) (h1 : 8388608 ≤ m) (hc : fv c = fD 8388608 r) : (q < r → FP.fcmp y c = some .lt) ∧ (r ≤ q → FP.fcmp y c = some .eq ∨ FP.fcmp y c = some .gt) := by
  obtain ⟨g1, -⟩ := fl_fits h
  rw [fl_cmp y c h hc]
  constructor
  · intro hq
    have hp := fl_pow (a := (r - min q r).toNat) (by omega)
    rw [show (q - min q r).toNat = 0 by omega]
    unfold compareOfLessAndEq
    rw [if_pos (by omega)]
  · intro hq
    have hp := Nat.two_pow_pos (q - min q r).toNat
    have hm := Nat.mul_le_mul h1 (show 1 ≤ 2 ^ (q - min q r).toNat by omega)
    rw [show (r - min q r).toNat = 0 by omega]
    unfold compareOfLessAndEq
    rw [if_neg (by omega)]
    split
    · exact Or.inl rfl
    · exact Or.inr rfl
theorem fl_gt0 {m : Nat} {q : Int} (y : UInt32) (h : fv y = fD m q) (h1 : 8388608 ≤ m) : FP.fcmp y FP.fconst0 = some .gt := by
  rw [fl_cmp y FP.fconst0 h fl_c0]
  have hp := Nat.two_pow_pos (q - min q (-149)).toNat
  have hm := Nat.mul_le_mul h1 (show 1 ≤ 2 ^ (q - min q (-149)).toNat by omega)
  unfold compareOfLessAndEq
  rw [if_neg (by omega), if_neg (by omega)]
theorem fl_eq0 (y : UInt32) (h : fv y = fD 0 (-149)) : FP.fcmp y FP.fconst0 = some .eq := by
  rw [fl_cmp y FP.fconst0 h fl_c0]
  rfl
theorem fl_sh {k c a b d : Nat} (P : Nat) (h : k * 2 ^ a = c * 2 ^ P) (hx : 23 + b + P = a + d) : k * 8388608 * 2 ^ b = c * 2 ^ d := by
  refine Nat.eq_of_mul_eq_mul_right (Nat.two_pow_pos P) ?_
  calc k * 8388608 * 2 ^ b * 2 ^ P = k * 2 ^ (23 + b + P) := by
        rw [Nat.pow_add, Nat.pow_add, show (2 : Nat) ^ 23 = 8388608 from rfl]; ac_rfl
    _ = k * 2 ^ a * 2 ^ d := by rw [hx, Nat.pow_add]; ac_rfl
    _ = c * 2 ^ P * 2 ^ d := by rw [h]
    _ = c * 2 ^ d * 2 ^ P := by ac_rfl
theorem fl_s1 {y w : UInt32} {m k : Nat} {q : Int} (h : fv y = fD m q) (hw : fv w = fD k q) (hk : k ≤ m) : fv (FP.fsub y w) = Jvm.FP.Core.round Jvm.FP.Core.b32 (.fin false (m - k) q) := by
  show Jvm.FP.Core.val32 (Jvm.FP.Core.fsub _ _) = _
  rw [Jvm.FP.Core.val32_fsub, show Jvm.FP.Core.val32 y = fD m q from h, show Jvm.FP.Core.val32 w = fD k q from hw]
  refine congrArg (Jvm.FP.Core.round Jvm.FP.Core.b32) ?_
  have e0 : Jvm.FP.Core.sumUnits false m q true k q (min q q) = ((m - k : Nat) : Int) := by
    show (((m * 2 ^ (q - min q q).toNat : Nat) : Int) + -((k * 2 ^ (q - min q q).toNat : Nat) : Int)) = _
    rw [show (q - min q q).toNat = 0 by omega]
    omega
  show Jvm.FP.Core.Datum.fin (Jvm.FP.Core.sumSign false true (Jvm.FP.Core.sumUnits false m q true k q (min q q))) (Jvm.FP.Core.sumUnits false m q true k q (min q q)).natAbs (min q q) = _
  rw [e0, show min q q = q by omega]
  have e3 : Jvm.FP.Core.sumSign false true ((m - k : Nat) : Int) = false := by
    unfold Jvm.FP.Core.sumSign
    split
    · rfl
    · exact decide_eq_false (by omega)
  rw [e3]
  rfl
theorem fl_s2 {y w : UInt32} {m k : Nat} {q r : Int} (h : fv y = fD m q) (hw : fv w = fD k r) : fv (FP.fmul y w) = Jvm.FP.Core.round Jvm.FP.Core.b32 (.fin false (m * k) (q + r)) := by
  show Jvm.FP.Core.val32 (Jvm.FP.Core.fmul _ _) = _
  rw [Jvm.FP.Core.val32_fmul, show Jvm.FP.Core.val32 y = fD m q from h, show Jvm.FP.Core.val32 w = fD k r from hw]
  rfl
theorem fl_s3 {y : UInt32} {m : Nat} {q : Int} {k : Nat} (h : fv y = Jvm.FP.Core.round Jvm.FP.Core.b32 (.fin false m q)) (hk : k < 8388608) (hW : Jvm.FP.Core.Whole (k : Int) (.fin false m q)) : FP.f2i y = nI k ∧ ∃ (c : Nat) (t : Int), fv y = fD c t := by
  have hR := Jvm.FP.Core.whole_round Jvm.FP.Core.good_b32 Jvm.FP.Core.wide_b32 (by rw [fl_p]; omega) hW
  have hs : Jvm.FP.Core.sgn (Jvm.FP.Core.round Jvm.FP.Core.b32 (.fin false m q)) = false := Jvm.FP.Core.sgn_roundRatio Jvm.FP.Core.b32 false m 1 q
  rw [← show fv y = _ from h] at hR hs
  refine ⟨Jvm.FP.Core.f2i_int (a := nI k) (by unfold Jvm.FP.Core.FInt; rw [nI_toInt (by omega)]; exact hR), ?_⟩
  generalize fv y = dd at hR hs
  cases dd with
  | nan => exact hR.elim
  | inf s => exact hR.elim
  | fin s c q =>
    have hs2 : s = false := hs
    subst hs2
    exact ⟨c, q, rfl⟩
/-- the digits behind the first -/
theorem fl_frac {y : UInt32} {m : Nat} (h : fv y = fD m (-23)) (h1 : 8388608 ≤ m) : (∃ (k : Nat) (t : Int), fv (FP.fsub y FP.fconst1) = fD k t) ∧ (∃ (k : Nat) (t : Int), fv (FP.fmul (FP.fsub y FP.fconst1) 1258291200) = fD k t) ∧ FP.f2i (FP.fmul (FP.fsub y FP.fconst1) 1258291200) = nI (m - 8388608) := by
  obtain ⟨g1, -⟩ := fl_fits h
  have e1 := fl_s1 h fl_c1 h1
  obtain ⟨k, t, e4, e5⟩ := Jvm.FP.Core.round_exact Jvm.FP.Core.good_b32 false (c := m - 8388608) (q := -23) (by rw [fl_p]; omega) (by rw [fl_qmin]; omega) (by rw [fl_qmax]; omega)
  rw [e4] at e1
  obtain ⟨t1, t2, t3, t4⟩ := fl_fits (y := FP.fsub y FP.fconst1) e1
  have e6 := fl_s2 (y := FP.fsub y FP.fconst1) e1 fl_c8
  have hW : Jvm.FP.Core.Whole ((m - 8388608 : Nat) : Int) (.fin false (k * 8388608) (t + 0)) := by
    unfold Jvm.FP.Core.inUnits at e5
    rw [fl_qmin] at e5
    have e7 := fl_sh (b := (t + 0).toNat) (d := (-(t + 0)).toNat) (-23 - -149 : Int).toNat e5 (by omega)
    generalize m - 8388608 = mm at e7
    generalize k * 8388608 = kk at e7
    show ((kk * 2 ^ (t + 0).toNat : Nat) : Int) = (mm : Int) * ((2 ^ (-(t + 0)).toNat : Nat) : Int)
    rw [← Int.natCast_mul, e7]
  obtain ⟨x1, x2⟩ := fl_s3 e6 (by omega) hW
  exact ⟨⟨k, t, e1⟩, x2, x1⟩
theorem fl_i32 (b : UInt32) : b.toInt32 = nI b.toNat := by
  unfold nI
  rw [← Int32.toBitVec_inj]
  simp
