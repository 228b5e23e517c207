/-! THE LAW'S BITS, walked -/
theorem bt_pow {c k : Nat} (hc2 : c ≤ 1000000) (hk : k ≤ 43) : c * 2 ^ k < 2 ^ 63 := by
  have h1 : c * 2 ^ k ≤ 1000000 * 2 ^ 43 := Nat.mul_le_mul hc2 (Nat.pow_le_pow_right (by decide) hk)
  exact Nat.lt_of_le_of_lt h1 (by decide)
set_option maxHeartbeats 4000000 in
set_option maxRecDepth 100000 in
theorem c_L_bits (l : Launch) (K : KT) (sz : Nat) (V : VW) {c e : Nat} (hc2 : c ≤ 1000000) (he : 0 < e) (he2 : e ≤ 1000000) : Ct l K yL_bits cL_bits 7 (some .int) 0 [.int (nI c), .int (nI e)] V sz (some (.int (shA c e))) V sz 0 0 := by
  refine Ct.ofG (by decide) (Nat.le_of_ble_eq_true rfl) ?_
  intro p9 e9 s9 m9 a9 b9 t9 c9 cx hin9
  refine G.lv0 (lv2 := [(0, .int (nI c)), (1, .int (nI e))]) rfl ?_
  refine G.iload_n (pc := 0) cx dL_bits_0 rfl 0 rfl ?_
  refine G.if_neN (pc := 1) cx c (by omega) dL_bits_1 (tgt := 6) (by decide) (fun h0 => ?_) (fun h0 => ?_)
  rotate_left
  · refine G.iconst (pc := 4) cx dL_bits_4 (v := 0) (by decide) ?_
    exact G.iret (pc := 5) cx rfl dL_bits_5 (congrArg (fun q => some (Value.int q)) (by rw [h0]; exact sh_zero he he2)) rfl rfl
  have hc : 0 < c := by omega
  refine G.iconst (pc := 6) cx dL_bits_6 (v := nI 0) (by decide) ?_
  refine G.istore_n (pc := 7) (lv2 := [(2, .int (nI 0)), (0, .int (nI c)), (1, .int (nI e))]) cx dL_bits_7 rfl (by decide) rfl ?_
  have L8 : ∀ (fz k : Nat), 43 - k < fz → k ≤ 43 → (k = 0 ∨ c * 2 ^ (k - 1) < e * 8388608) → G K p9 l e9 (rmL 0 0 0) s9 m9 a9 b9 t9 c9 (MQ b9 (QCt K (some (.int (shA c e))) V sz) a9 s9 0 0 (kA K)) 7 V sz 0 0 8 [(2, .int (nI k)), (0, .int (nI c)), (1, .int (nI e))] [] := by
    intro fz
    induction fz with
    | zero => intro k h9; omega
    | succ fz ih =>
      intro k h9 h8 hI
      have hp := bt_pow (c := c) hc2 h8
      have hdl : c * 2 ^ k / e < 2 ^ 63 := Nat.lt_of_le_of_lt (Nat.div_le_self _ _) hp
      refine G.iload_n (pc := 8) cx dL_bits_8 rfl 1 rfl ?_
      refine G.i2l (pc := 9) cx dL_bits_9 c (by omega) ?_
      refine G.iload_n (pc := 10) cx dL_bits_10 rfl 0 rfl ?_
      refine G.lshl (pc := 11) cx dL_bits_11 c k (by omega) hp ?_
      refine G.iload_n (pc := 12) cx dL_bits_12 rfl 2 rfl ?_
      refine G.i2l (pc := 13) cx dL_bits_13 e (by omega) ?_
      refine G.ldiv (pc := 14) cx dL_bits_14 _ e hp (by omega) he ?_
      refine G.ldc2 (pc := 15) cx (v := nL 8388608) dL_bits_15 wm_ow_r12_13 ?_
      refine G.lcmp (pc := 18) cx dL_bits_18 ?_
      refine G.if_ge (pc := 19) cx dL_bits_19 (tgt := 28) (by decide) (fun hq => ?_) (fun hq => ?_)
      · have h1 : e * 8388608 ≤ c * 2 ^ k := by
          have := (nl_le (by decide) hdl).mp ((lg_cmp_ge _ _).mp hq)
          have := (Nat.le_div_iff_mul_le he).mp this
          omega
        have h2 : c * 2 ^ k < e * 16777216 := by
          rcases hI with h | h
          · subst h
            have : e * 8388608 ≤ c := by simpa using h1
            omega
          · cases k with
            | zero =>
              rw [Nat.pow_zero, Nat.mul_one]
              clear hp hdl h1 hq ih h
              omega
            | succ k' =>
              have e1 : c * 2 ^ (k' + 1) = 2 * (c * 2 ^ k') := by rw [Nat.pow_succ]; ac_rfl
              rw [Nat.add_sub_cancel] at h
              rw [e1]
              generalize c * 2 ^ k' = w at h ⊢
              clear hp hdl h1 hq ih
              omega
        have hsh := sh_bits hc hc2 he he2 (by omega) h1 h2
        obtain ⟨d1, d2⟩ := lDig_bd he h1 h2
        have hde : c * 2 ^ k / e * e ≤ c * 2 ^ k := Nat.div_mul_le_self _ _
        have hd3 : c * 2 ^ k / e < 16777216 := (Nat.div_lt_iff_lt_mul he).mpr (by omega)
        refine G.iload_n (pc := 28) cx dL_bits_28 rfl 1 rfl ?_
        refine G.i2l (pc := 29) cx dL_bits_29 c (by omega) ?_
        refine G.iload_n (pc := 30) cx dL_bits_30 rfl 0 rfl ?_
        refine G.lshl (pc := 31) cx dL_bits_31 c k (by omega) hp ?_
        refine G.iload_n (pc := 32) cx dL_bits_32 rfl 2 rfl ?_
        refine G.i2l (pc := 33) cx dL_bits_33 e (by omega) ?_
        refine G.ldiv (pc := 34) cx dL_bits_34 _ e hp (by omega) he ?_
        generalize hD : c * 2 ^ k / e = D at *
        refine G.lstore_n (pc := 35) (lv2 := [(3, .long (nL D)), (2, .int (nI k)), (0, .int (nI c)), (1, .int (nI e))]) cx dL_bits_35 rfl (by decide) rfl ?_
        refine G.ldc2 (pc := 36) cx (v := nL 2) dL_bits_36 wm_ow_r12_14 ?_
        refine G.iload_n (pc := 39) cx dL_bits_39 rfl 2 rfl ?_
        refine G.i2l (pc := 40) cx dL_bits_40 c (by omega) ?_
        refine G.iload_n (pc := 41) cx dL_bits_41 rfl 1 rfl ?_
        refine G.lshl (pc := 42) cx dL_bits_42 c k (by omega) hp ?_
        generalize hn : c * 2 ^ k = n at *
        refine G.lload_n (pc := 43) cx dL_bits_43 rfl 0 rfl ?_
        refine G.iload_n (pc := 44) cx dL_bits_44 rfl 3 rfl ?_
        refine G.i2l (pc := 45) cx dL_bits_45 e (by omega) ?_
        refine G.lmul (pc := 46) cx dL_bits_46 D e (by omega) (by omega) (by omega) ?_
        refine G.lsub (pc := 47) cx dL_bits_47 n (D * e) hp hde ?_
        have hr : n - D * e < e := by
          have := Nat.mod_lt n he
          have := Nat.div_add_mod n e
          rw [hD, Nat.mul_comm] at this
          omega
        generalize hR : n - D * e = r at *
        have hlD : lDig n e = D + (if e < 2 * r ∨ 2 * r = e ∧ D % 2 = 1 then 1 else 0) := by unfold lDig; rw [hD, hR]
        refine G.lmul (pc := 48) cx dL_bits_48 2 r (by omega) (by omega) (by omega) ?_
        refine G.lstore (pc := 49) (lv2 := [(5, .long (nL (2 * r))), (3, .long (nL D)), (2, .int (nI k)), (0, .int (nI c)), (1, .int (nI e))]) cx dL_bits_49 (by decide) rfl ?_
        have J83 : ∀ w : Nat, w ≤ 1 → lDig n e = D + w → G K p9 l e9 (rmL 0 0 0) s9 m9 a9 b9 t9 c9 (MQ b9 (QCt K (some (.int (shA c e))) V sz) a9 s9 0 0 (kA K)) 7 V sz 0 0 83 [(5, .long (nL (2 * r))), (3, .long (nL D)), (2, .int (nI k)), (0, .int (nI c)), (1, .int (nI e))] [.long (nL w), .long (nL D)] := by
          intro w hw hlw
          refine G.ladd (pc := 83) cx dL_bits_83 D w (by omega) ?_
          rw [← hlw]
          refine G.lstore_n (pc := 84) (lv2 := [(3, .long (nL (lDig n e))), (5, .long (nL (2 * r))), (2, .int (nI k)), (0, .int (nI c)), (1, .int (nI e))]) cx dL_bits_84 rfl (by decide) rfl ?_
          refine G.sipush (pc := 85) cx dL_bits_85 (v := nI 150) (by decide) ?_
          refine G.iload_n (pc := 88) cx dL_bits_88 rfl 2 rfl ?_
          refine G.isubN (pc := 89) cx dL_bits_89 150 k (by omega) ?_
          refine G.bipush (pc := 90) cx dL_bits_90 (v := 23) (by decide) ?_
          refine G.ishl (pc := 92) cx dL_bits_92 ?_
          rw [sh_23 (E := 150 - k) (by omega)]
          refine G.lload_n (pc := 93) cx dL_bits_93 rfl 0 rfl ?_
          refine G.ldc2 (pc := 94) cx (v := nL 8388608) dL_bits_94 wm_ow_r12_13 ?_
          refine G.lsub (pc := 97) cx dL_bits_97 _ 8388608 (by omega) d1 ?_
          refine G.l2i (pc := 98) cx dL_bits_98 _ (by omega) ?_
          refine G.iaddN (pc := 99) cx dL_bits_99 _ _ ?_
          exact G.iret (pc := 100) cx rfl dL_bits_100 (congrArg (fun q => some (Value.int q)) hsh) rfl rfl
        have J82 : lDig n e = D + 0 → G K p9 l e9 (rmL 0 0 0) s9 m9 a9 b9 t9 c9 (MQ b9 (QCt K (some (.int (shA c e))) V sz) a9 s9 0 0 (kA K)) 7 V sz 0 0 82 [(5, .long (nL (2 * r))), (3, .long (nL D)), (2, .int (nI k)), (0, .int (nI c)), (1, .int (nI e))] [.long (nL D)] := by
          intro h
          refine G.lconst (pc := 82) cx dL_bits_82 (v := nL 0) (by decide) ?_
          exact J83 0 (by omega) h
        have J78 : lDig n e = D + 1 → G K p9 l e9 (rmL 0 0 0) s9 m9 a9 b9 t9 c9 (MQ b9 (QCt K (some (.int (shA c e))) V sz) a9 s9 0 0 (kA K)) 7 V sz 0 0 78 [(5, .long (nL (2 * r))), (3, .long (nL D)), (2, .int (nI k)), (0, .int (nI c)), (1, .int (nI e))] [.long (nL D)] := by
          intro h
          refine G.lconst (pc := 78) cx dL_bits_78 (v := nL 1) (by decide) ?_
          refine G.goto (pc := 79) cx dL_bits_79 (tgt := 83) (by decide) ?_
          exact J83 1 (by omega) h
        refine G.lload_n (pc := 51) cx dL_bits_51 rfl 1 rfl ?_
        refine G.lload (pc := 52) cx dL_bits_52 0 rfl ?_
        refine G.iload_n (pc := 54) cx dL_bits_54 rfl 4 rfl ?_
        refine G.i2l (pc := 55) cx dL_bits_55 e (by omega) ?_
        refine G.lcmp (pc := 56) cx dL_bits_56 ?_
        refine G.if_gt (pc := 57) cx dL_bits_57 (tgt := 78) (by decide) (fun h57 => ?_) (fun h57 => ?_)
        · have g := (nl_lt (by omega) (by omega)).mp ((lg_cmp_gt _ _).mp h57)
          exact J78 (by rw [hlD, if_pos (Or.inl g)])
        have g1 : ¬ e < 2 * r := fun g => h57 ((lg_cmp_gt _ _).mpr ((nl_lt (by omega) (by omega)).mpr g))
        refine G.lload (pc := 60) cx dL_bits_60 0 rfl ?_
        refine G.iload_n (pc := 62) cx dL_bits_62 rfl 4 rfl ?_
        refine G.i2l (pc := 63) cx dL_bits_63 e (by omega) ?_
        refine G.lcmp (pc := 64) cx dL_bits_64 ?_
        refine G.if_ne (pc := 65) cx dL_bits_65 (tgt := 82) (by decide) (fun h65 => ?_) (fun h65 => ?_)
        · have g2 : ¬ 2 * r = e := fun g => h65 ((lg_cmp_eq _ _).mpr ((nl_eq (by omega) (by omega)).mpr g))
          exact J82 (by rw [hlD, if_neg (fun q => q.elim g1 (fun q => g2 q.1))])
        have g2 : 2 * r = e := (nl_eq (by omega) (by omega)).mp ((lg_cmp_eq _ _).mp h65)
        refine G.lload_n (pc := 68) cx dL_bits_68 rfl 1 rfl ?_
        refine G.ldc2 (pc := 69) cx (v := nL 2) dL_bits_69 wm_ow_r12_14 ?_
        refine G.lrem (pc := 72) cx dL_bits_72 D 2 (by omega) (by decide) (by decide) ?_
        refine G.lconst (pc := 73) cx dL_bits_73 (v := nL 1) (by decide) ?_
        refine G.lcmp (pc := 74) cx dL_bits_74 ?_
        refine G.if_ne (pc := 75) cx dL_bits_75 (tgt := 82) (by decide) (fun h75 => ?_) (fun h75 => ?_)
        · have g3 : ¬ D % 2 = 1 := fun g => h75 ((lg_cmp_eq _ _).mpr ((nl_eq (by omega) (by decide)).mpr g))
          exact J82 (by rw [hlD, if_neg (fun q => q.elim g1 (fun q => g3 q.2))])
        have g3 : D % 2 = 1 := (nl_eq (by omega) (by decide)).mp ((lg_cmp_eq _ _).mp h75)
        exact J78 (by rw [hlD, if_pos (Or.inr ⟨g2, g3⟩)])
      · have h1 : c * 2 ^ k < e * 8388608 := by
          refine Nat.not_le.mp (fun g => hq ((lg_cmp_ge _ _).mpr ((nl_le (by decide) hdl).mpr ((Nat.le_div_iff_mul_le he).mpr ?_))))
          omega
        have hk43 : k < 43 := by
          refine Nat.lt_of_le_of_ne h8 (fun g => ?_)
          subst g
          have : 1 * 2 ^ 43 ≤ c * 2 ^ 43 := Nat.mul_le_mul_right _ hc
          omega
        refine G.iinc (pc := 22) cx (v := nI (k + 1)) (k := 0) dL_bits_22 rfl (nI_add k 1) (by decide) rfl ?_
        refine G.goto (pc := 25) cx dL_bits_25 (tgt := 8) (by decide) ?_
        exact ih (k + 1) (by omega) (by omega) (Or.inr h1)
  exact L8 44 0 (by omega) (by omega) (Or.inl rfl)
