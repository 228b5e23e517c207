set_option maxHeartbeats 4000000 in
set_option maxRecDepth 100000 in
theorem c_X9_copyNumbers_F (l : Launch) (K : KT) (sz : Nat) (V : VW) (q : Nat) (g1 : Zt) (hc : V q = some (.inl (K.2.1 0, 3, .inl g1))) : Ct l K yX9_copyNumbers cX9_copyNumbers 3 none 0 [.ref K.2.2.2.1, .ref q] V sz none (vset V q (.inl (K.2.1 0, 3, .inl (cpA 3 fS g1)))) sz 0 0 := by
  refine Ct.ofG (by decide) (Nat.le_of_ble_eq_true rfl) ?_
  intro p9 e9 s9 m9 a9 b9 t9 c9 cx hin9
  refine G.lv0 (lv2 := [(0, .ref K.2.2.2.1), (1, .ref q)]) rfl ?_
  refine G.iconst (pc := 0) cx dX9_copyNumbers_0 (v := 0) (by decide) ?_
  refine G.istore_n (pc := 1) cx dX9_copyNumbers_1 rfl (by decide) rfl ?_
  have L2_1 : ∀ (fz k2 : Nat), 3 - k2 < fz → k2 ≤ 3 → G K p9 l e9 (rmL 0 0 0) s9 m9 a9 b9 t9 c9 (MQ b9 (QCt K none (vset V q (.inl (K.2.1 0, 3, .inl (cpA 3 fS g1)))) sz) a9 s9 0 0 (kA K)) 3 (vset V q (.inl (K.2.1 0, 3, .inl (cpA k2 fS g1)))) sz 0 0 2 [(0, .ref K.2.2.2.1), (1, .ref q), (2, .int (nI k2))] [] := by
    intro fz
    induction fz with
    | zero => intro k2 h9; omega
    | succ fz ih2 =>
      intro k2 h92 h82
      refine G.iload_n (pc := 2) cx dX9_copyNumbers_2 rfl 2 rfl ?_
      refine G.aload_n (pc := 3) cx dX9_copyNumbers_3 rfl 0 rfl ?_
      refine G.tlenF (pc := 4) cx dX9_copyNumbers_4 ?_
      refine G.icmp_geN (pc := 5) cx k2 3 (by omega) (by omega) dX9_copyNumbers_5 (tgt := 26) (by decide) (fun cq5 => ?_) (fun cq5 => ?_)
      · skip
        have ex2 : k2 = 3 := by omega
        try rw [ex2]
        refine G.vret (pc := 26) cx rfl dX9_copyNumbers_26 rfl ?_ rfl
        · rfl
      · skip
        refine G.iload_n (pc := 8) cx dX9_copyNumbers_8 rfl 2 rfl ?_
        refine G.aload_n (pc := 9) cx dX9_copyNumbers_9 rfl 1 rfl ?_
        refine G.alenV (pc := 10) cx dX9_copyNumbers_10 0 rfl (vset_self _ _ _) (v := 3) rfl ?_
        refine G.icmp_geN (pc := 11) cx k2 3 (by omega) (by omega) dX9_copyNumbers_11 (tgt := 26) (by decide) (fun cq11 => ?_) (fun cq11 => ?_)
        · skip
          exact absurd cq11 (by omega)
        · skip
          refine G.aload_n (pc := 14) cx dX9_copyNumbers_14 rfl 1 rfl ?_
          refine G.iload_n (pc := 15) cx dX9_copyNumbers_15 rfl 2 rfl ?_
          refine G.aload_n (pc := 16) cx dX9_copyNumbers_16 rfl 0 rfl ?_
          refine G.iload_n (pc := 17) cx dX9_copyNumbers_17 rfl 2 rfl ?_
          refine G.taldF (pc := 18) cx dX9_copyNumbers_18 (j := k2) rfl (by omega) ?_
          refine G.iastV (pc := 19) cx dX9_copyNumbers_19 (vset_self _ _ _) (j := k2) rfl (by omega) (by omega) (vset_vset _ _ _) ?_
          refine G.iinc (pc := 20) cx dX9_copyNumbers_20 (v := nI (k2 + 1)) (k := 2) rfl (nI_add k2 1) (by decide) rfl ?_
          refine G.goto (pc := 23) cx dX9_copyNumbers_23 (tgt := 2) (by decide) ?_
          refine G.cast (V' := (vset V q (.inl (K.2.1 0, 3, .inl (cpA (k2 + 1) fS g1))))) (by rw [cpA_s]) ?_
          refine G.castL (lv' := [(0, .ref K.2.2.2.1), (1, .ref q), (2, .int (nI (k2 + 1)))]) [1, 2, 0] rfl ?_
          exact ih2 (k2 + 1) (by omega) (by omega)
  refine G.cast (V' := (vset V q (.inl (K.2.1 0, 3, .inl (cpA 0 fS g1))))) (by first | rfl | rw [cpA_0, vset_id hc]) ?_
  refine G.castL (lv' := [(0, .ref K.2.2.2.1), (1, .ref q), (2, .int 0)]) [1, 2, 0] rfl ?_
  refine G.lv0 (lv2 := [(0, .ref K.2.2.2.1), (1, .ref q), (2, .int (nI 0))]) (congrArg (fun q9 => ([(0, .ref K.2.2.2.1), (1, .ref q), (2, .int q9)] : List (Nat × Value))) (show (0 : Int32) = nI 0 from by first | rfl | rw [cpA_0, vset_id hc])) ?_
  exact L2_1 (3 + 1) 0 (by omega) (by omega)
