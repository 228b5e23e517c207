/-! FLOATS IN THE MACHINE: bitsOf of the class, floatToIntBits of the JDK -/
section FRows
variable {K : KT} {p : Program} {l : Launch} {e : Env} {R : Room} {s : State} {m : MethodId} {args : Array Value} {below : List Frame} {meth : Method} {c : Code} {Q : State → Prop} {nL : Nat} {own : String} {cc : ByteArray} {rr : Option FieldType}
variable {V : VW} {sz cells slots pc : Nat} {lv : List (Nat × Value)} {st : List Value}
theorem G.fconst0 (cx : Cx K p s m args meth c own cc nL rr) (hd : decode cc pc = .ok (.fconst 0, 1)) (kk : G K p l e R s m args below meth c Q nL V sz cells slots (pc + 1) lv (.float FP.fconst0 :: st)) : G K p l e R s m args below meth c Q nL V sz cells slots pc lv st := fun H locs ls h1 h2 h3 h4 => lv_fconst0 cx.1 cx.2.1 hd (kk H locs ls h1 h2 h3 h4)
theorem G.fconst1 (cx : Cx K p s m args meth c own cc nL rr) (hd : decode cc pc = .ok (.fconst 1, 1)) (kk : G K p l e R s m args below meth c Q nL V sz cells slots (pc + 1) lv (.float FP.fconst1 :: st)) : G K p l e R s m args below meth c Q nL V sz cells slots pc lv st := fun H locs ls h1 h2 h3 h4 => lv_fconst1 cx.1 cx.2.1 hd (kk H locs ls h1 h2 h3 h4)
theorem G.fconst2 (cx : Cx K p s m args meth c own cc nL rr) (hd : decode cc pc = .ok (.fconst 2, 1)) (kk : G K p l e R s m args below meth c Q nL V sz cells slots (pc + 1) lv (.float FP.fconst2 :: st)) : G K p l e R s m args below meth c Q nL V sz cells slots pc lv st := fun H locs ls h1 h2 h3 h4 => lv_fconst2 cx.1 cx.2.1 hd (kk H locs ls h1 h2 h3 h4)
/-- a static method of another class -/
theorem G.callSO {y : MethodName} {cc2 : ByteArray} {maxL d index : Nat} {ret2 : Option FieldType} {As rest st0 : List Value} {rv : Option Value} {V2 : VW} (cx : Cx K p s m args meth c own cc nL rr) (hM : Ct l K y cc2 maxL ret2 d As V sz rv V2 sz 0 0) (ok : okS y cc2 maxL ret2 As.length) (hd : decode cc pc = .ok (.invokestatic index, 3)) (hw : Cond.methodLink own index y ∈ wsL_law) (hst : st0 = As.reverse ++ rest) (hrest : (rest.map fun v => v.category).sum ≤ 8) (hR : d + 1 ≤ R.frames ∧ 8 + (maxL + 11) + (30 * d + 24 * (d - 6)) ≤ R.locals) (hf : cells ≤ R.cells ∧ slots ≤ R.slots)
    (kk : G K p l e R s m args below meth c Q nL V2 sz cells slots (pc + 3) lv (rv.toList ++ rest)) : G K p l e R s m args below meth c Q nL V sz cells slots pc lv st0 := by
  refine G.ofRun (rest := rest) (a := As.toArray) (mc := 0) (ms := 0) (fun H locs ls h1 h2 h3 h4 => ?_) (Nat.le_refl _) kk
  obtain ⟨hx, hb, hml, ho, hts, hK, -⟩ := id cx
  obtain ⟨o1, o3, o4, o5, o6, o7⟩ := ok
  exact va_runS (Ts := wsL_law) ⟨hx, hb, hml, ho, hts⟩ hM (va_cwS As.length hts (fun w hw' => by
      unfold va_wsS at hw'
      rcases List.mem_append.mp hw' with h | h
      · simp only [List.mem_cons, List.not_mem_nil, or_false] at h
        rcases h with rfl | rfl | rfl
        · exact goodU hw
        · exact goodU o1
        · exact goodU o3
      · exact goodU_O o4 w h) rfl rfl rfl ⟨o5, o6, o7⟩ hR) ⟨Wd.blind, fun U hU hW => ⟨rfl, Wd.after cx h1 h2 h3 hU hW⟩⟩ rfl rfl h4.1 hst (lv_room hrest) hd hf
end FRows
/-- a contract from its body, also for a method of a class of which some methods are entries of the machine: this one is not -/
theorem Ct.ofGF {l : Launch} {K : KT} {cc : ByteArray} {ret : Option FieldType} {V : VW} {sz : Nat} {y : MethodName} {maxL : Nat} {d : Nat} {As : List Value} {rv : Option Value} {V' : VW} {sz' mc ms : Nat} (hy : plainFor y = true) (hA : (lg_sl As).length ≤ maxL)
    (body : ∀ (p : Program) (e : Env) (s : State) (m : MethodId) (args : Array Value) (below : List Frame) (meth : Method) (c : Code), Cx K p s m args meth c y.cls cc maxL ret → meth.name = y.name →
      G K p l e (rmL d mc ms) s m args below meth c (MQ below (QCt K rv V' sz') args s mc ms (kA K)) maxL V sz 0 0 0 (lv_args 0 As) []) : Ct l K y cc maxL ret d As V sz rv V' sz' mc ms := by
  unfold Ct
  refine MetFree.of_bodySF (code := cc) (maxLocals := maxL) (ret := ret) hy ?_ ?_
  · intro args s m h hn
    obtain ⟨meth, c, h1, h2, h3, h4, h5, h6, -, -⟩ := Cond.code_spec hn (atoms_spec (ws := wsO y cc maxL ret) h _ List.mem_cons_self)
    exact ⟨meth, c, h1, h2, h3, h4, h5, h6⟩
  · intro p e s m args below meth c s₁ B hml hp _
    have hh0 : s₁.heap = s.heap := by rw [B.state]; rfl
    obtain ⟨rfl, hz, hn, hh, hK, hZ⟩ := hp
    have hts := atoms_spec (ws := wsO y cc maxL ret) B.pre
    have hin : meth.name = y.name := (name_of_methodNamed B.named B.method).1
    have hW := body p e s m _ below meth c ⟨B.exec, B.bytes, hml, findClass_of_methodNamed B.named, fun w hw => hts w (List.mem_cons_of_mem _ hw), hK, hZ, by rw [hz]; exact hn, B.notSynchronized, B.returns⟩ hin s.heap [] _ hz hh va_S.rf (lv_entry As hA)
    rw [← lg_entry_eq (m := m)] at hW
    obtain ⟨t, a1, o, b1, b2, b3⟩ := hW s₁ hh0 (Stand.of_body B)
    exact ⟨t, o, a1, b1, b2, ⟨b3.1, b3.2⟩⟩
theorem sh_23 {E : Nat} (h : E ≤ 254) : nI E <<< ((23 : Int32) &&& 31) = nI (E * 8388608) := by
  have := pk_shlN (n := E) ((23 : Int32) &&& 31) 23 (by decide) (by omega)
  exact this
set_option maxHeartbeats 4000000 in
set_option maxRecDepth 100000 in
theorem c_X9_bitsOf (l : Launch) (K : KT) (sz : Nat) (y : UInt32) (V : VW) {m : Nat} {q : Int} (hy : fv y = fD m q) (hm : 8388608 ≤ m) (hq1 : -60 ≤ q) (hq2 : q ≤ 60) : Ct l K yX9_bitsOf cX9_bitsOf 4 (some .int) 0 [.float y] V sz (some (.int y.toInt32)) V sz 0 0 := by
  refine Ct.ofG (by decide) (Nat.le_of_ble_eq_true rfl) ?_
  intro p9 e9 s9 m9 a9 b9 t9 c9 cx hin9
  refine G.lv0 (lv2 := [(0, .float y)]) rfl ?_
  obtain ⟨hm2, -⟩ := fl_fits hy
  -- the end
  have E69 : ∀ (w : UInt32) (k : Nat), fv w = fD m (-23) → G K p9 l e9 (rmL 0 0 0) s9 m9 a9 b9 t9 c9 (MQ b9 (QCt K (some (.int y.toInt32)) V sz) a9 s9 0 0 (kA K)) 4 V sz 0 0 69 [(0, .float y), (1, .float w), (2, .int (iI (150 + q))), (3, .int (nI k))] [] := by
    intro w k hw
    obtain ⟨⟨k1, t1, x1⟩, ⟨k2, t2, x2⟩, x3⟩ := fl_frac hw hm
    refine G.iload_n (pc := 69) cx dX9_bitsOf_69 rfl 2 rfl ?_
    refine G.bipush (pc := 70) cx dX9_bitsOf_70 (v := 23) (by decide) ?_
    refine G.ishl (pc := 72) cx dX9_bitsOf_72 ?_
    refine G.fload_n (pc := 73) cx dX9_bitsOf_73 rfl 1 rfl ?_
    refine G.fconst1 (pc := 74) cx dX9_bitsOf_74 ?_
    refine G.fsub (pc := 75) cx dX9_bitsOf_75 (fl_n32 x1) ?_
    refine G.ldcf (pc := 76) cx dX9_bitsOf_76 wm_cf_X9_180 ?_
    refine G.fmul (pc := 78) cx dX9_bitsOf_78 (fl_n32 x2) ?_
    refine G.f2i (pc := 79) cx dX9_bitsOf_79 ?_
    rw [x3]
    refine G.iadd (pc := 80) cx dX9_bitsOf_80 ?_
    refine G.iret (pc := 81) cx rfl dX9_bitsOf_81 ?_ rfl rfl
    obtain ⟨E, hE⟩ : ∃ E : Nat, 150 + q = (E : Int) := ⟨(150 + q).toNat, by omega⟩
    rw [hE, ← iI_nat, sh_23 (by omega), nI_add, fl_i32, fl_bits hy hm]
    rw [show (q + 150).toNat = E by omega]
  -- doubling
  have L43 : ∀ (n k : Nat) (t : Int) (w : UInt32), fv w = fD m t → t ≤ -23 → (n : Int) = -23 - t → k + n ≤ 127 → G K p9 l e9 (rmL 0 0 0) s9 m9 a9 b9 t9 c9 (MQ b9 (QCt K (some (.int y.toInt32)) V sz) a9 s9 0 0 (kA K)) 4 V sz 0 0 43 [(0, .float y), (1, .float w), (2, .int (iI (127 + q - t))), (3, .int (nI k))] [] := by
    intro n
    induction n with
    | zero =>
      intro k t w hw ht hn hk
      obtain rfl : t = -23 := by omega
      refine G.iload_n (pc := 43) cx dX9_bitsOf_43 rfl 3 rfl ?_
      refine G.sipush (pc := 44) cx dX9_bitsOf_44 (v := nI 128) (by decide) ?_
      refine G.icmp_geN (pc := 47) cx k 128 (by omega) (by omega) dX9_bitsOf_47 (tgt := 69) (by decide) (fun cq => absurd cq (by omega)) (fun cq => ?_)
      refine G.fload_n (pc := 50) cx dX9_bitsOf_50 rfl 1 rfl ?_
      refine G.fconst1 (pc := 51) cx dX9_bitsOf_51 ?_
      refine G.fcmp (pc := 52) cx dX9_bitsOf_52 ?_
      have hc := (fl_ord w FP.fconst1 hw hm fl_c1).2 (by omega)
      refine G.if_ge (pc := 53) cx dX9_bitsOf_53 (tgt := 69) (by decide) (fun cq => ?_) (fun cq => ?_)
      · rw [show (127 + q - -23 : Int) = 150 + q by omega]
        exact E69 w k hw
      · refine absurd ?_ cq
        rcases hc with hc | hc <;> rw [hc] <;> decide
    | succ n ih =>
      intro k t w hw ht hn hk
      refine G.iload_n (pc := 43) cx dX9_bitsOf_43 rfl 3 rfl ?_
      refine G.sipush (pc := 44) cx dX9_bitsOf_44 (v := nI 128) (by decide) ?_
      refine G.icmp_geN (pc := 47) cx k 128 (by omega) (by omega) dX9_bitsOf_47 (tgt := 69) (by decide) (fun cq => absurd cq (by omega)) (fun cq => ?_)
      refine G.fload_n (pc := 50) cx dX9_bitsOf_50 rfl 1 rfl ?_
      refine G.fconst1 (pc := 51) cx dX9_bitsOf_51 ?_
      refine G.fcmp (pc := 52) cx dX9_bitsOf_52 ?_
      have hc := (fl_ord w FP.fconst1 hw hm fl_c1).1 (by omega)
      have hw2 := fl_mul2 hw hm (by omega)
      refine G.if_ge (pc := 53) cx dX9_bitsOf_53 (tgt := 69) (by decide) (fun cq => ?_) (fun cq => ?_)
      · rw [hc] at cq; exact absurd cq (by decide)
      refine G.fload_n (pc := 56) cx dX9_bitsOf_56 rfl 1 rfl ?_
      refine G.fconst2 (pc := 57) cx dX9_bitsOf_57 ?_
      refine G.fmul (pc := 58) cx dX9_bitsOf_58 (fl_n32 hw2) ?_
      refine G.fstore_n (pc := 59) (lv2 := [(1, .float (FP.fmul w FP.fconst2)), (0, .float y), (2, .int (iI (127 + q - t))), (3, .int (nI k))]) cx dX9_bitsOf_59 rfl (by decide) rfl ?_
      refine G.iinc (pc := 60) cx dX9_bitsOf_60 (v := iI (127 + q - (t + 1))) (k := 2) rfl ((iI_add (127 + q - t) (-1)).trans (congrArg iI (by omega))) (by decide) rfl ?_
      refine G.iinc (pc := 63) cx dX9_bitsOf_63 (v := nI (k + 1)) (k := 3) rfl (nI_add k 1) (by decide) rfl ?_
      refine G.goto (pc := 66) cx dX9_bitsOf_66 (tgt := 43) (by decide) ?_
      refine G.castL (lv' := [(0, .float y), (1, .float (FP.fmul w FP.fconst2)), (2, .int (iI (127 + q - (t + 1)))), (3, .int (nI (k + 1)))]) [3, 2, 1, 0] rfl ?_
      exact ih (k + 1) (t + 1) _ hw2 (by omega) (by omega) (by omega)
  have E41 : ∀ (t : Int) (w : UInt32) (k : Nat), fv w = fD m t → -60 ≤ t → t ≤ -23 → G K p9 l e9 (rmL 0 0 0) s9 m9 a9 b9 t9 c9 (MQ b9 (QCt K (some (.int y.toInt32)) V sz) a9 s9 0 0 (kA K)) 4 V sz 0 0 41 [(0, .float y), (1, .float w), (2, .int (iI (127 + q - t))), (3, .int (nI k))] [] := by
    intro t w k hw h1 h2
    refine G.iconst (pc := 41) cx dX9_bitsOf_41 (v := nI 0) (by decide) ?_
    refine G.istore_n (pc := 42) (lv2 := [(3, .int (nI 0)), (0, .float y), (1, .float w), (2, .int (iI (127 + q - t)))]) cx dX9_bitsOf_42 rfl (by decide) rfl ?_
    refine G.castL (lv' := [(0, .float y), (1, .float w), (2, .int (iI (127 + q - t))), (3, .int (nI 0))]) [1, 2, 3, 0] rfl ?_
    exact L43 (-23 - t).toNat 0 t w hw h2 (by omega) (by omega)
  -- halving
  have L15 : ∀ (n k : Nat) (t : Int) (w : UInt32), fv w = fD m t → -60 ≤ t → t ≤ 60 → n = (t + 23).toNat → k + n ≤ 127 → G K p9 l e9 (rmL 0 0 0) s9 m9 a9 b9 t9 c9 (MQ b9 (QCt K (some (.int y.toInt32)) V sz) a9 s9 0 0 (kA K)) 4 V sz 0 0 15 [(0, .float y), (1, .float w), (2, .int (iI (127 + q - t))), (3, .int (nI k))] [] := by
    intro n
    induction n with
    | zero =>
      intro k t w hw ht1 ht2 hn hk
      refine G.iload_n (pc := 15) cx dX9_bitsOf_15 rfl 3 rfl ?_
      refine G.sipush (pc := 16) cx dX9_bitsOf_16 (v := nI 128) (by decide) ?_
      refine G.icmp_geN (pc := 19) cx k 128 (by omega) (by omega) dX9_bitsOf_19 (tgt := 41) (by decide) (fun cq => absurd cq (by omega)) (fun cq => ?_)
      refine G.fload_n (pc := 22) cx dX9_bitsOf_22 rfl 1 rfl ?_
      refine G.fconst2 (pc := 23) cx dX9_bitsOf_23 ?_
      refine G.fcmp (pc := 24) cx dX9_bitsOf_24 ?_
      have hc := (fl_ord w FP.fconst2 hw hm fl_c2).1 (by omega)
      refine G.if_lt (pc := 25) cx dX9_bitsOf_25 (tgt := 41) (by decide) (fun cq => ?_) (fun cq => ?_)
      · exact E41 t w k hw (by omega) (by omega)
      · rw [hc] at cq; exact absurd (by decide) cq
    | succ n ih =>
      intro k t w hw ht1 ht2 hn hk
      refine G.iload_n (pc := 15) cx dX9_bitsOf_15 rfl 3 rfl ?_
      refine G.sipush (pc := 16) cx dX9_bitsOf_16 (v := nI 128) (by decide) ?_
      refine G.icmp_geN (pc := 19) cx k 128 (by omega) (by omega) dX9_bitsOf_19 (tgt := 41) (by decide) (fun cq => absurd cq (by omega)) (fun cq => ?_)
      refine G.fload_n (pc := 22) cx dX9_bitsOf_22 rfl 1 rfl ?_
      refine G.fconst2 (pc := 23) cx dX9_bitsOf_23 ?_
      refine G.fcmp (pc := 24) cx dX9_bitsOf_24 ?_
      have hc := (fl_ord w FP.fconst2 hw hm fl_c2).2 (by omega)
      have hw2 := fl_div2 hw hm (by omega)
      refine G.if_lt (pc := 25) cx dX9_bitsOf_25 (tgt := 41) (by decide) (fun cq => ?_) (fun cq => ?_)
      · refine absurd cq ?_
        rcases hc with hc | hc <;> rw [hc] <;> decide
      refine G.fload_n (pc := 28) cx dX9_bitsOf_28 rfl 1 rfl ?_
      refine G.fconst2 (pc := 29) cx dX9_bitsOf_29 ?_
      refine G.fdiv (pc := 30) cx dX9_bitsOf_30 (fl_n32 hw2) ?_
      refine G.fstore_n (pc := 31) (lv2 := [(1, .float (FP.fdiv w FP.fconst2)), (0, .float y), (2, .int (iI (127 + q - t))), (3, .int (nI k))]) cx dX9_bitsOf_31 rfl (by decide) rfl ?_
      refine G.iinc (pc := 32) cx dX9_bitsOf_32 (v := iI (127 + q - (t - 1))) (k := 2) rfl ((iI_add (127 + q - t) 1).trans (congrArg iI (by omega))) (by decide) rfl ?_
      refine G.iinc (pc := 35) cx dX9_bitsOf_35 (v := nI (k + 1)) (k := 3) rfl (nI_add k 1) (by decide) rfl ?_
      refine G.goto (pc := 38) cx dX9_bitsOf_38 (tgt := 15) (by decide) ?_
      refine G.castL (lv' := [(0, .float y), (1, .float (FP.fdiv w FP.fconst2)), (2, .int (iI (127 + q - (t - 1)))), (3, .int (nI (k + 1)))]) [3, 2, 1, 0] rfl ?_
      exact ih (k + 1) (t - 1) _ hw2 (by omega) (by omega) (by omega) (by omega)
  refine G.fload_n (pc := 0) cx dX9_bitsOf_0 rfl 0 rfl ?_
  refine G.fconst0 (pc := 1) cx dX9_bitsOf_1 ?_
  refine G.fcmp (pc := 2) cx dX9_bitsOf_2 ?_
  have h0 := fl_gt0 y hy hm
  refine G.if_gt (pc := 3) cx dX9_bitsOf_3 (tgt := 8) (by decide) (fun cq => ?_) (fun cq => ?_)
  · refine G.fload_n (pc := 8) cx dX9_bitsOf_8 rfl 0 rfl ?_
    refine G.fstore_n (pc := 9) (lv2 := [(1, .float y), (0, .float y)]) cx dX9_bitsOf_9 rfl (by decide) rfl ?_
    refine G.bipush (pc := 10) cx dX9_bitsOf_10 (v := iI (127 + q - q)) (by rw [show (127 + q - q : Int) = 127 by omega]; decide) ?_
    refine G.istore_n (pc := 12) (lv2 := [(2, .int (iI (127 + q - q))), (1, .float y), (0, .float y)]) cx dX9_bitsOf_12 rfl (by decide) rfl ?_
    refine G.iconst (pc := 13) cx dX9_bitsOf_13 (v := nI 0) (by decide) ?_
    refine G.istore_n (pc := 14) (lv2 := [(3, .int (nI 0)), (2, .int (iI (127 + q - q))), (1, .float y), (0, .float y)]) cx dX9_bitsOf_14 rfl (by decide) rfl ?_
    refine G.castL (lv' := [(0, .float y), (1, .float y), (2, .int (iI (127 + q - q))), (3, .int (nI 0))]) [3, 2, 1, 0] rfl ?_
    exact L15 (q + 23).toNat 0 q y hy hq1 hq2 rfl (by omega)
  · rw [h0] at cq; exact absurd (by decide) cq
set_option maxHeartbeats 4000000 in
set_option maxRecDepth 100000 in
theorem c_X9_bitsOf0 (l : Launch) (K : KT) (sz : Nat) (y : UInt32) (V : VW) (hy : fv y = fD 0 (-149)) : Ct l K yX9_bitsOf cX9_bitsOf 4 (some .int) 0 [.float y] V sz (some (.int y.toInt32)) V sz 0 0 := by
  refine Ct.ofG (by decide) (Nat.le_of_ble_eq_true rfl) ?_
  intro p9 e9 s9 m9 a9 b9 t9 c9 cx hin9
  refine G.lv0 (lv2 := [(0, .float y)]) rfl ?_
  refine G.fload_n (pc := 0) cx dX9_bitsOf_0 rfl 0 rfl ?_
  refine G.fconst0 (pc := 1) cx dX9_bitsOf_1 ?_
  refine G.fcmp (pc := 2) cx dX9_bitsOf_2 ?_
  have h0 := fl_eq0 y hy
  refine G.if_gt (pc := 3) cx dX9_bitsOf_3 (tgt := 8) (by decide) (fun cq => ?_) (fun cq => ?_)
  · rw [h0] at cq; exact absurd cq (by decide)
  · refine G.iconst (pc := 6) cx dX9_bitsOf_6 (v := 0) (by decide) ?_
    refine G.iret (pc := 7) cx rfl dX9_bitsOf_7 ?_ rfl rfl
    have e : y.toNat = 0 := by
      rw [fl_toNat hy]; decide
    rw [fl_i32, e]; rfl
