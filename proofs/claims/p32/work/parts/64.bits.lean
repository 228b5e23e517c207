/-! THE LAW'S BITS OF A QUOTIENT: long numbers, the walk, and that they are the float's -/
def nL (n : Nat) : Int64 := Int64.ofNat n
theorem nL_toInt {n : Nat} (h : n < 2 ^ 63) : (nL n).toInt = n := lg_ofNat_toInt h
theorem nl_i2l {x : Nat} (h : x < 2 ^ 31) : (nI x).toInt64 = nL x := by
  rw [← Int64.toInt_inj, Jvm.Kit.i64_of_i32, nI_toInt h, nL_toInt (by omega)]
theorem nl_l2i {x : Nat} (h : x < 2 ^ 31) : (nL x).toInt32 = nI x := by
  rw [← Int32.toInt_inj, Jvm.Kit.i32_of_i64 (by rw [nL_toInt (by omega)]; omega) (by rw [nL_toInt (by omega)]; omega), nI_toInt h, nL_toInt (by omega)]
theorem nl_sh : ∀ k, k < 64 → (((nI k).toInt64 &&& 63).toBitVec.smod 64).toNat = k := by decide +kernel
theorem nl_shl {x k : Nat} (hk : k < 64) (h : x * 2 ^ k < 2 ^ 63) : nL x <<< ((nI k).toInt64 &&& 63) = nL (x * 2 ^ k) := by
  have hx : x < 2 ^ 63 := Nat.lt_of_le_of_lt (Nat.le_mul_of_pos_right x (Nat.two_pow_pos k)) h
  have e : (nL x).toInt * 2 ^ k = ((x * 2 ^ k : Nat) : Int) := by rw [nL_toInt hx, Int.natCast_mul, Int.natCast_pow]; rfl
  rw [← Int64.toInt_inj, Jvm.Kit.i64_shl _ _ (nl_sh k hk) (by rw [e]; omega) (by rw [e]; omega), e, nL_toInt h]
theorem nl_div {x y : Nat} (hx : x < 2 ^ 63) (hy : y < 2 ^ 63) (h0 : 0 < y) : nL x / nL y = nL (x / y) := by
  rw [← Int64.toInt_inj, lg_ldiv_nonneg (by rw [nL_toInt hx]; omega) (by rw [nL_toInt hy]; omega), nL_toInt hx, nL_toInt hy, nL_toInt (Nat.lt_of_le_of_lt (Nat.div_le_self x y) hx), Int.natCast_ediv]
theorem nl_rem {x y : Nat} (hx : x < 2 ^ 63) (hy : y < 2 ^ 63) (h0 : 0 < y) : nL x - nL x / nL y * nL y = nL (x % y) := by
  rw [← Int64.toInt_inj, Jvm.Kit.i64_rem_nonneg (by rw [nL_toInt hx]; omega), nL_toInt hx, nL_toInt hy, nL_toInt (Nat.lt_of_le_of_lt (Nat.mod_le x y) hx), Int.natCast_emod]
theorem nl_mul {x y : Nat} (hx : x < 2 ^ 63) (hy : y < 2 ^ 63) (h : x * y < 2 ^ 63) : nL x * nL y = nL (x * y) := by
  have e : (nL x).toInt * (nL y).toInt = ((x * y : Nat) : Int) := by rw [nL_toInt hx, nL_toInt hy, Int.natCast_mul]
  rw [← Int64.toInt_inj, Jvm.Kit.i64_mul (by rw [e]; omega) (by rw [e]; omega), e, nL_toInt h]
theorem nl_sub {x y : Nat} (hx : x < 2 ^ 63) (h : y ≤ x) : nL x - nL y = nL (x - y) := by
  rw [← Int64.toInt_inj, Jvm.Kit.i64_sub (by rw [nL_toInt hx, nL_toInt (by omega)]; omega) (by rw [nL_toInt hx, nL_toInt (by omega)]; omega), nL_toInt hx, nL_toInt (by omega), nL_toInt (by omega)]
  omega
theorem nl_add {x y : Nat} (h : x + y < 2 ^ 63) : nL x + nL y = nL (x + y) := by
  rw [← Int64.toInt_inj, Jvm.Kit.i64_add (by rw [nL_toInt (by omega), nL_toInt (by omega)]; omega) (by rw [nL_toInt (by omega), nL_toInt (by omega)]; omega), nL_toInt (by omega), nL_toInt (by omega), nL_toInt h]
  omega
theorem nl_lt {x y : Nat} (hx : x < 2 ^ 63) (hy : y < 2 ^ 63) : nL x < nL y ↔ x < y := by
  rw [Int64.lt_iff_toInt_lt, nL_toInt hx, nL_toInt hy]; omega
theorem nl_le {x y : Nat} (hx : x < 2 ^ 63) (hy : y < 2 ^ 63) : nL x ≤ nL y ↔ x ≤ y := by
  rw [Int64.le_iff_toInt_le, nL_toInt hx, nL_toInt hy]; omega
theorem nl_eq {x y : Nat} (hx : x < 2 ^ 63) (hy : y < 2 ^ 63) : nL x = nL y ↔ x = y := by
  rw [← Int64.toInt_inj, nL_toInt hx, nL_toInt hy]; omega
section Rows64
variable {K : KT} {p : Program} {l : Launch} {e : Env} {R : Room} {s : State} {m : MethodId} {args : Array Value} {below : List Frame} {meth : Method} {c : Code} {Q : State → Prop} {nL' : Nat} {own : String} {cc : ByteArray} {ret : Option FieldType}
variable {V : VW} {sz cells slots pc : Nat} {lv : List (Nat × Value)} {st : List Value}
theorem G.idivN (cx : Cx K p s m args meth c own cc nL' ret) (hd : decode cc pc = .ok (.idiv, 1)) (x y : Nat) (hx : x < 2 ^ 31) (hy : y < 2 ^ 31) (h0 : 0 < y) (kk : G K p l e R s m args below meth c Q nL' V sz cells slots (pc + 1) lv (.int (nI (x / y)) :: st)) : G K p l e R s m args below meth c Q nL' V sz cells slots pc lv (.int (nI y) :: .int (nI x) :: st) :=
  G.idiv cx hd (fun e => by rw [show (0 : Int32) = nI 0 from rfl, nI_eq hy (by decide)] at e; omega) (by rw [pk_div (by omega) (by omega) (by omega)]; exact kk)
theorem G.iremN (cx : Cx K p s m args meth c own cc nL' ret) (hd : decode cc pc = .ok (.irem, 1)) (x y : Nat) (hx : x < 2 ^ 31) (hy : y < 2 ^ 31) (h0 : 0 < y) (kk : G K p l e R s m args below meth c Q nL' V sz cells slots (pc + 1) lv (.int (nI (x % y)) :: st)) : G K p l e R s m args below meth c Q nL' V sz cells slots pc lv (.int (nI y) :: .int (nI x) :: st) := by
  refine G.irem cx hd (fun e => by rw [show (0 : Int32) = nI 0 from rfl, nI_eq hy (by decide)] at e; omega) ?_
  have e9 : nI x - nI x / nI y * nI y = nI (x % y) := by
    rw [pk_div (by omega) (by omega) (by omega), pk_mul, pk_sub (Nat.div_mul_le_self x y)]
    congr 1
    have := Nat.div_add_mod x y
    rw [Nat.mul_comm] at this
    omega
  rw [e9]; exact kk
theorem G.i2l (cx : Cx K p s m args meth c own cc nL' ret) (hd : decode cc pc = .ok (.i2l, 1)) (x : Nat) (hx : x < 2 ^ 31) (kk : G K p l e R s m args below meth c Q nL' V sz cells slots (pc + 1) lv (.long (nL x) :: st)) : G K p l e R s m args below meth c Q nL' V sz cells slots pc lv (.int (nI x) :: st) := fun H locs ls h1 h2 h3 h4 => lv_i2l cx.1 cx.2.1 hd (nl_i2l hx) (kk H locs ls h1 h2 h3 h4)
theorem G.l2i (cx : Cx K p s m args meth c own cc nL' ret) (hd : decode cc pc = .ok (.l2i, 1)) (x : Nat) (hx : x < 2 ^ 31) (kk : G K p l e R s m args below meth c Q nL' V sz cells slots (pc + 1) lv (.int (nI x) :: st)) : G K p l e R s m args below meth c Q nL' V sz cells slots pc lv (.long (nL x) :: st) := fun H locs ls h1 h2 h3 h4 => lv_l2i cx.1 cx.2.1 hd (nl_l2i hx) (kk H locs ls h1 h2 h3 h4)
theorem G.lshl (cx : Cx K p s m args meth c own cc nL' ret) (hd : decode cc pc = .ok (.lshl, 1)) (x k : Nat) (hk : k < 64) (h : x * 2 ^ k < 2 ^ 63) (kk : G K p l e R s m args below meth c Q nL' V sz cells slots (pc + 1) lv (.long (nL (x * 2 ^ k)) :: st)) : G K p l e R s m args below meth c Q nL' V sz cells slots pc lv (.int (nI k) :: .long (nL x) :: st) := fun H locs ls h1 h2 h3 h4 => lv_lshl cx.1 cx.2.1 hd (nl_shl hk h) (kk H locs ls h1 h2 h3 h4)
theorem nL_ne {y : Nat} (hy : y < 2 ^ 63) (h0 : 0 < y) : ¬ nL y = 0 := fun e => by
  rw [show (0 : Int64) = nL 0 from rfl, nl_eq hy (by decide)] at e; omega
theorem G.ldiv (cx : Cx K p s m args meth c own cc nL' ret) (hd : decode cc pc = .ok (.ldiv, 1)) (x y : Nat) (hx : x < 2 ^ 63) (hy : y < 2 ^ 63) (h0 : 0 < y) (kk : G K p l e R s m args below meth c Q nL' V sz cells slots (pc + 1) lv (.long (nL (x / y)) :: st)) : G K p l e R s m args below meth c Q nL' V sz cells slots pc lv (.long (nL y) :: .long (nL x) :: st) := fun H locs ls h1 h2 h3 h4 => lv_ldiv cx.1 cx.2.1 hd (nL_ne hy h0) (by rw [nl_div hx hy h0]; exact kk H locs ls h1 h2 h3 h4)
theorem G.lrem (cx : Cx K p s m args meth c own cc nL' ret) (hd : decode cc pc = .ok (.lrem, 1)) (x y : Nat) (hx : x < 2 ^ 63) (hy : y < 2 ^ 63) (h0 : 0 < y) (kk : G K p l e R s m args below meth c Q nL' V sz cells slots (pc + 1) lv (.long (nL (x % y)) :: st)) : G K p l e R s m args below meth c Q nL' V sz cells slots pc lv (.long (nL y) :: .long (nL x) :: st) := fun H locs ls h1 h2 h3 h4 => lv_lrem cx.1 cx.2.1 hd (nL_ne hy h0) (by rw [nl_rem hx hy h0]; exact kk H locs ls h1 h2 h3 h4)
theorem G.lmul (cx : Cx K p s m args meth c own cc nL' ret) (hd : decode cc pc = .ok (.lmul, 1)) (x y : Nat) (hx : x < 2 ^ 63) (hy : y < 2 ^ 63) (h : x * y < 2 ^ 63) (kk : G K p l e R s m args below meth c Q nL' V sz cells slots (pc + 1) lv (.long (nL (x * y)) :: st)) : G K p l e R s m args below meth c Q nL' V sz cells slots pc lv (.long (nL y) :: .long (nL x) :: st) := fun H locs ls h1 h2 h3 h4 => lv_lmul cx.1 cx.2.1 hd (by rw [nl_mul hx hy h]; exact kk H locs ls h1 h2 h3 h4)
theorem G.lsub (cx : Cx K p s m args meth c own cc nL' ret) (hd : decode cc pc = .ok (.lsub, 1)) (x y : Nat) (hx : x < 2 ^ 63) (h : y ≤ x) (kk : G K p l e R s m args below meth c Q nL' V sz cells slots (pc + 1) lv (.long (nL (x - y)) :: st)) : G K p l e R s m args below meth c Q nL' V sz cells slots pc lv (.long (nL y) :: .long (nL x) :: st) := fun H locs ls h1 h2 h3 h4 => lv_lsub cx.1 cx.2.1 hd (by rw [nl_sub hx h]; exact kk H locs ls h1 h2 h3 h4)
theorem G.ladd (cx : Cx K p s m args meth c own cc nL' ret) (hd : decode cc pc = .ok (.ladd, 1)) (x y : Nat) (h : x + y < 2 ^ 63) (kk : G K p l e R s m args below meth c Q nL' V sz cells slots (pc + 1) lv (.long (nL (x + y)) :: st)) : G K p l e R s m args below meth c Q nL' V sz cells slots pc lv (.long (nL y) :: .long (nL x) :: st) := fun H locs ls h1 h2 h3 h4 => lv_ladd cx.1 cx.2.1 hd (by rw [nl_add h]; exact kk H locs ls h1 h2 h3 h4)
theorem G.ldc2 (cx : Cx K p s m args meth c own cc nL' ret) {index : Nat} {v : Int64} (hd : decode cc pc = .ok (.ldc2_w index, 3)) (hw : Cond.constantLong own index v ∈ wsL_law) (kk : G K p l e R s m args below meth c Q nL' V sz cells slots (pc + 3) lv (.long v :: st)) : G K p l e R s m args below meth c Q nL' V sz cells slots pc lv st := fun H locs ls h1 h2 h3 h4 => lv_ldc2 cx.1 cx.2.1 cx.2.2.2.1 (cx.2.2.2.2.1 _ hw) hd (kk H locs ls h1 h2 h3 h4)
theorem G.lconst (cx : Cx K p s m args meth c own cc nL' ret) {n : Fin 2} {v : Int64} (hd : decode cc pc = .ok (.lconst n, 1)) (hv : Int64.ofNat (n : Nat) = v) (kk : G K p l e R s m args below meth c Q nL' V sz cells slots (pc + 1) lv (.long v :: st)) : G K p l e R s m args below meth c Q nL' V sz cells slots pc lv st := fun H locs ls h1 h2 h3 h4 => lv_lconst cx.1 cx.2.1 hd hv (kk H locs ls h1 h2 h3 h4)
theorem G.lload_n (cx : Cx K p s m args meth c own cc nL' ret) {k : Fin 4} {i : Nat} {x : Int64} (hd : decode cc pc = .ok (.lload_n k, 1)) (hi : (k : Nat) = i) (q : Nat) (hl : lv[q]? = some (i, .long x)) (kk : G K p l e R s m args below meth c Q nL' V sz cells slots (pc + 1) lv (.long x :: st)) : G K p l e R s m args below meth c Q nL' V sz cells slots pc lv st := fun H locs ls h1 h2 h3 h4 => lv_lload_n cx.1 cx.2.1 hd hi (lv_at h4 q hl) (kk H locs ls h1 h2 h3 h4)
theorem G.lload (cx : Cx K p s m args meth c own cc nL' ret) {i : Nat} {x : Int64} (hd : decode cc pc = .ok (.lload i, 2)) (q : Nat) (hl : lv[q]? = some (i, .long x)) (kk : G K p l e R s m args below meth c Q nL' V sz cells slots (pc + 2) lv (.long x :: st)) : G K p l e R s m args below meth c Q nL' V sz cells slots pc lv st := fun H locs ls h1 h2 h3 h4 => lv_lload cx.1 cx.2.1 hd (lv_at h4 q hl) (kk H locs ls h1 h2 h3 h4)
theorem G.lstore_n (cx : Cx K p s m args meth c own cc nL' ret) {k : Fin 4} {i : Nat} {x : Int64} {lv2 : List (Nat × Value)} (hd : decode cc pc = .ok (.lstore_n k, 1)) (hi : (k : Nat) = i) (hn : i + 1 < nL') (hl : (i, Value.long x) :: lv.filter (fun q => !(q.1 == i) && (!(q.1 == i + 1) && !(q.1 + 1 == i && q.2.category == 2))) = lv2) (kk : G K p l e R s m args below meth c Q nL' V sz cells slots (pc + 1) lv2 st) : G K p l e R s m args below meth c Q nL' V sz cells slots pc lv (.long x :: st) := fun H locs ls h1 h2 h3 h4 => lv_lstore_n cx.1 cx.2.1 hd hi h4 hn hl (fun ls2 h5 => kk H locs ls2 h1 h2 h3 h5)
theorem G.lstore (cx : Cx K p s m args meth c own cc nL' ret) {i : Nat} {x : Int64} {lv2 : List (Nat × Value)} (hd : decode cc pc = .ok (.lstore i, 2)) (hn : i + 1 < nL') (hl : (i, Value.long x) :: lv.filter (fun q => !(q.1 == i) && (!(q.1 == i + 1) && !(q.1 + 1 == i && q.2.category == 2))) = lv2) (kk : G K p l e R s m args below meth c Q nL' V sz cells slots (pc + 2) lv2 st) : G K p l e R s m args below meth c Q nL' V sz cells slots pc lv (.long x :: st) := fun H locs ls h1 h2 h3 h4 => lv_lstore cx.1 cx.2.1 hd h4 hn hl (fun ls2 h5 => kk H locs ls2 h1 h2 h3 h5)
theorem G.lcmp (cx : Cx K p s m args meth c own cc nL' ret) {x y : Int64} (hd : decode cc pc = .ok (.lcmp, 1)) (kk : G K p l e R s m args below meth c Q nL' V sz cells slots (pc + 1) lv (.int (lg_cmp x y) :: st)) : G K p l e R s m args below meth c Q nL' V sz cells slots pc lv (.long y :: .long x :: st) := fun H locs ls h1 h2 h3 h4 => W.lcmp cx.1 cx.2.1 hd (kk H locs ls h1 h2 h3 h4)
end Rows64
/-! the float -/
theorem fl_quotR {c e : Nat} (hc : 0 < c) (hc2 : c ≤ 1000000) (he : 0 < e) (he2 : e ≤ 1000000) : fv (FP.fdiv (FP.i2f (nI c)) (FP.i2f (nI e))) = Jvm.FP.Core.roundRatio Jvm.FP.Core.b32 false c e 0 := by
  obtain ⟨C, q, h1, h2, h3⟩ := fl_i2f hc hc2
  obtain ⟨D, r, g1, g2, g3⟩ := fl_i2f he he2
  show Jvm.FP.Core.val32 (Jvm.FP.Core.fdiv _ _) = _
  rw [Jvm.FP.Core.val32_fdiv, show Jvm.FP.Core.val32 (FP.i2f (nI c)) = fD C q from h1, show Jvm.FP.Core.val32 (FP.i2f (nI e)) = fD D r from g1]
  show (if D = 0 then _ else Jvm.FP.Core.roundRatio Jvm.FP.Core.b32 (false != false) C D (q - r)) = _
  rw [if_neg (by omega)]
  refine Jvm.FP.Core.roundRatio_congr (s := false) g2 he ?_
  refine Nat.eq_of_mul_eq_mul_right (Nat.mul_pos (Nat.two_pow_pos q.toNat) (Nat.two_pow_pos (-r).toNat)) ?_
  have hx : (-q).toNat + r.toNat + (q - r - 0).toNat = q.toNat + (-r).toNat + (0 - (q - r)).toNat := by omega
  calc C * e * 2 ^ (q - r - 0).toNat * (2 ^ q.toNat * 2 ^ (-r).toNat) = (C * 2 ^ q.toNat) * (e * 2 ^ (-r).toNat) * 2 ^ (q - r - 0).toNat := by ac_rfl
    _ = (c * 2 ^ (-q).toNat) * (D * 2 ^ r.toNat) * 2 ^ (q - r - 0).toNat := by rw [h3, g3]
    _ = c * D * 2 ^ ((-q).toNat + r.toNat + (q - r - 0).toNat) := by rw [Nat.pow_add, Nat.pow_add]; ac_rfl
    _ = c * D * 2 ^ (q.toNat + (-r).toNat + (0 - (q - r)).toNat) := by rw [hx]
    _ = c * D * 2 ^ (0 - (q - r)).toNat * (2 ^ q.toNat * 2 ^ (-r).toNat) := by rw [Nat.pow_add, Nat.pow_add]; ac_rfl
theorem fl_digits {c e k : Nat} (hc : 0 < c) (he : 0 < e) (hk : k ≤ 100) (h1 : e * 8388608 ≤ c * 2 ^ k) (h2 : c * 2 ^ k < e * 16777216) : Jvm.FP.Core.roundRatio Jvm.FP.Core.b32 false c e 0 = if Jvm.FP.Core.nearest (c * 2 ^ k) e < 16777216 then fD (Jvm.FP.Core.nearest (c * 2 ^ k) e) (-(k : Int)) else fD 8388608 (-(k : Int) + 1) := by
  obtain ⟨l1, l2⟩ := Jvm.FP.Core.leading_spec hc he
  have b1 : ¬ Jvm.FP.Core.Below c e (((23 : Nat) : Int) - (k : Nat)) := by rw [Jvm.FP.Core.below_iff]; omega
  have b2 : Jvm.FP.Core.Below c e (((24 : Nat) : Int) - (k : Nat)) := by rw [Jvm.FP.Core.below_iff]; omega
  have g1 := Jvm.FP.Core.lt_of_below l1 b2
  have g2 := Jvm.FP.Core.lt_of_below b1 l2
  have hQ : Jvm.FP.Core.quantum Jvm.FP.Core.b32 c e 0 = -(k : Int) := by
    unfold Jvm.FP.Core.quantum
    rw [fl_qmin, fl_p]; omega
  unfold Jvm.FP.Core.roundRatio
  rw [if_neg (by omega), hQ]
  unfold Jvm.FP.Core.roundAt Jvm.FP.Core.unitsNum Jvm.FP.Core.unitsDen
  rw [show ((0 : Int) - -(k : Int)).toNat = k by omega, show (-(k : Int) - 0).toNat = 0 by omega, Nat.pow_zero, Nat.mul_one]
  generalize Jvm.FP.Core.nearest (c * 2 ^ k) e = M
  unfold Jvm.FP.Core.settle Jvm.FP.Core.bound
  rw [fl_qmax, fl_tails, fl_p]
  by_cases hM : M < 16777216
  · rw [if_pos hM, if_pos (by omega), if_pos (by omega)]
  · rw [if_neg hM, if_neg (show ¬ M < 2 ^ 24 by omega), if_pos (by omega)]
/-- the law's digits, rounded -/
def lDig (n e : Nat) : Nat := n / e + (if e < 2 * (n - n / e * e) ∨ 2 * (n - n / e * e) = e ∧ n / e % 2 = 1 then 1 else 0)
theorem lDig_eq {n e : Nat} : lDig n e = Jvm.FP.Core.nearest n e := by
  unfold lDig Jvm.FP.Core.nearest
  have h : n - n / e * e = n % e := by
    have := Nat.div_add_mod n e
    rw [Nat.mul_comm] at this
    omega
  rw [h]
  by_cases g1 : 2 * (n % e) < e
  · rw [if_pos g1, if_neg (by omega)]; omega
  · rw [if_neg g1]
    by_cases g2 : e < 2 * (n % e)
    · rw [if_pos g2, if_pos (Or.inl g2)]
    · rw [if_neg g2]
      by_cases g3 : n / e % 2 = 1
      · rw [if_pos (Or.inr ⟨by omega, g3⟩), g3]
      · rw [if_neg (by omega)]; omega
theorem lDig_bd {n e : Nat} (he : 0 < e) (h1 : e * 8388608 ≤ n) (h2 : n < e * 16777216) : 8388608 ≤ lDig n e ∧ lDig n e ≤ 16777216 := by
  have a1 : 8388608 ≤ n / e := (Nat.le_div_iff_mul_le he).mpr (by rw [Nat.mul_comm]; exact h1)
  have a2 : n / e < 16777216 := (Nat.div_lt_iff_lt_mul he).mpr (by rw [Nat.mul_comm]; exact h2)
  unfold lDig; split <;> omega
theorem sh_bits {c e k : Nat} (hc : 0 < c) (hc2 : c ≤ 1000000) (he : 0 < e) (he2 : e ≤ 1000000) (hk : k ≤ 100) (h1 : e * 8388608 ≤ c * 2 ^ k) (h2 : c * 2 ^ k < e * 16777216) : shA c e = nI ((150 - k) * 8388608 + (lDig (c * 2 ^ k) e - 8388608)) := by
  have hq := fl_quotR hc hc2 he he2
  rw [fl_digits hc he hk h1 h2, ← lDig_eq] at hq
  obtain ⟨d1, d2⟩ := lDig_bd he h1 h2
  unfold shA
  rw [if_neg (by omega), fl_i32]
  refine congrArg nI ?_
  by_cases hM : lDig (c * 2 ^ k) e < 16777216
  · rw [if_pos hM] at hq
    rw [fl_bits hq d1, show (-(k : Int) + 150).toNat = 150 - k by omega]
  · rw [if_neg hM] at hq
    rw [fl_bits hq (Nat.le_refl _), show ((-(k : Int) + 1) + 150).toNat = (150 - k) + 1 by omega]
    omega
theorem sh_zero {e : Nat} (he : 0 < e) (he2 : e ≤ 1000000) : shA 0 e = 0 := by
  unfold shA
  rw [if_neg (by omega), fl_i32, fl_toNat (fl_quot0 he he2)]
  decide +kernel
