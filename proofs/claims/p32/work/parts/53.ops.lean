/-! EACH CHANGE: the class's error code, answer and books are the reference's -/
def OpOk (B : Nat) (ce cA : Int32) (cD : Zt) (e A : Int32) (D : Zt) : Prop := ce = e ∧ (e < 0 ∨ (¬ e < 0 ∧ cA = A ∧ 0 ≤ A ∧ cD = D ∧ ∃ M, INV (B + 1) M D))
theorem op_no {B : Nat} {ce cA : Int32} {cD : Zt} {e A : Int32} {D : Zt} (h : ce = e) (hn : e < 0) : OpOk B ce cA cD e A D := ⟨h, Or.inl hn⟩
theorem op_yes {B M : Nat} {ce cA : Int32} {cD : Zt} {e A : Int32} {D : Zt} (h : ce = e) (h0 : e = 0) (hA : cA = A) (hp : 0 ≤ A) (hD : cD = D) (hI : INV B M D) : OpOk B ce cA cD e A D := ⟨h, Or.inr ⟨by rw [h0]; decide, hA, hp, hD, M, hI.B (Nat.le_succ B)⟩⟩
theorem iI_pos {n : Int} (h0 : 0 ≤ n) (h : n < 2147483648) : 0 ≤ iI n := by
  rw [i0, iI_le (by omega) (by omega) (by omega) (by omega)]; exact h0
theorem nn {P : Prop} (h : ¬ ¬ P) : P := Classical.byContradiction h
theorem nI_pos3 {n : Nat} (h : n ≤ 16) : 0 ≤ nI n := nI_pos' (by omega)
theorem op_sign {B N : Nat} {z : Zt} (h : INV B N z) (q w : Int32) : OpOk B (cNoSign z N q w) (nI N) (cDoSign z N q w) (zNoSign z q w) (nI N) (zDoSign z N q w) := by
  by_cases hv : ¬ (0 ≤ q ∧ q ≤ 3) ∨ ¬ (0 ≤ w ∧ w ≤ 1)
  · exact op_no (noSign_eq h q w) (by unfold zNoSign; rw [if_pos hv]; decide)
  by_cases hs : z 191 = 1
  · exact op_no (noSign_eq h q w) (by unfold zNoSign; rw [if_neg hv, if_pos hs]; decide)
  by_cases hm : z 194 = 16
  · exact op_no (noSign_eq h q w) (by unfold zNoSign; rw [if_neg hv, if_neg hs, if_pos hm]; decide)
  have e0 : zNoSign z q w = 0 := by unfold zNoSign; rw [if_neg hv, if_neg hs, if_neg hm]
  have hN : N < 16 := zNoSign_ok h.1.1 h.1.2 (by rw [e0]; decide)
  exact op_yes (noSign_eq h q w) e0 rfl (nI_pos3 h.1.2) (cDoSign_eq hN q w) (h.doSign hN)
theorem op_stock {B N : Nat} {z : Zt} (h : INV B N z) (i m c : Int32) : OpOk B (cNoBuy z i m c) (zPriceC z m c) (cDoBuy z i.toNatClampNeg m c) (zNoStock z i m c) (zPrice z c) (zDoStock z i.toNatClampNeg m c) := by
  by_cases hv : ¬ (0 ≤ i ∧ i ≤ 5) ∨ ¬ (1 ≤ m ∧ m ≤ 99) ∨ ¬ (1 ≤ c ∧ c ≤ 99)
  · exact op_no (noStock_eq h i m c) (by unfold zNoStock; rw [if_pos hv]; decide)
  by_cases hs : z 191 = 1
  · exact op_no (noStock_eq h i m c) (by unfold zNoStock; rw [if_neg hv, if_pos hs]; decide)
  by_cases hm : 500 < z (160 + 5 * i.toNatClampNeg + 0) + m
  · exact op_no (noStock_eq h i m c) (by unfold zNoStock; rw [if_neg hv, if_neg hs, if_pos hm]; decide)
  have e0 : zNoStock z i m c = 0 := by unfold zNoStock; rw [if_neg hv, if_neg hs, if_neg hm]
  have hi : 0 ≤ i ∧ i ≤ 5 := nn fun q => hv (Or.inl q)
  have h1 : 1 ≤ m ∧ m ≤ 99 := nn fun q => hv (Or.inr (Or.inl q))
  have h2 : 1 ≤ c ∧ c ≤ 99 := nn fun q => hv (Or.inr (Or.inr q))
  obtain ⟨j, hj, ej⟩ := item_of hi
  have ej2 : i.toNatClampNeg = j := by rw [ej]; exact nI_clamp (by omega)
  rw [i99] at h1 h2
  obtain ⟨m, rfl, hm1, hm2⟩ := in_1 (by omega) (by omega) h1
  obtain ⟨c, rfl, hc1, hc2⟩ := in_1 (by omega) (by omega) h2
  rw [ej2] at hm ⊢
  obtain ⟨hI, n, n1, n2, en⟩ := h.doStock hj hm1 hm2 hc1 hc2 hm
  refine op_yes (noStock_eq h i _ _) e0 ?_ (by rw [en]; exact iI_pos (by omega) (by omega)) (cDoBuy_eq hj) hI
  unfold zPriceC cBuy1 zPrice
  rw [cTake_o _ _ (by omega) (by omega), upd_n _ _ (by omega)]
theorem op_sell {B N : Nat} {z : Zt} (h : INV B N z) (a i m : Int32) : OpOk B (cNoSell z a i m) (m * z (160 + 5 * i.toNatClampNeg + 1)) (cDoSell z a.toNatClampNeg i.toNatClampNeg m) (zNoSell z a i m) (m * z (160 + 5 * i.toNatClampNeg + 1)) (zDoSell z a.toNatClampNeg i.toNatClampNeg m) := by
  by_cases hv : ¬ (0 ≤ a ∧ a ≤ z 194 - 1) ∨ ¬ (0 ≤ i ∧ i ≤ 5) ∨ ¬ (1 ≤ m ∧ m ≤ 99)
  · exact op_no (noSell_eq h a i m) (by unfold zNoSell; rw [if_pos hv]; decide)
  by_cases hw : 0 < zWhy z a.toNatClampNeg i.toNatClampNeg m
  · exact op_no (noSell_eq h a i m) (by unfold zNoSell; rw [if_neg hv, if_pos hw]; decide)
  have e0 : zNoSell z a i m = 0 := by unfold zNoSell; rw [if_neg hv, if_neg hw]
  have h1 : 0 ≤ a ∧ a ≤ z 194 - 1 := nn fun q => hv (Or.inl q)
  have h2 : 0 ≤ i ∧ i ≤ 5 := nn fun q => hv (Or.inr (Or.inl q))
  have h3 : 1 ≤ m ∧ m ≤ 99 := nn fun q => hv (Or.inr (Or.inr q))
  obtain ⟨k, hk, hk16, -, ek⟩ := h.sail h1
  obtain ⟨j, hj, ej⟩ := item_of h2
  have ej2 : i.toNatClampNeg = j := by rw [ej]; exact nI_clamp (by omega)
  rw [i99] at h3
  obtain ⟨m, rfl, hm1, hm2⟩ := in_1 (by omega) (by omega) h3
  rw [ej2, ek] at hw ⊢
  have hw0 : zWhy z k j (iI m) = 0 := nn (mt (zWhy_in z k j _).mp hw)
  obtain ⟨hI, n, n1, n2, en⟩ := h.doSell hk hj hm1 hm2 hw0
  have hp : 0 ≤ iI m * z (160 + 5 * j + 1) := by rw [en]; exact iI_pos n1 (by omega)
  exact op_yes (noSell_eq h a i _) e0 rfl hp (cDoSell_eq hk16 hj hp) hI
theorem op_adv {B N : Nat} {z : Zt} (h : INV B N z) (a x : Int32) : OpOk B (cNoAdv z a x) (cDoAdv z a.toNatClampNeg x 195) (cDoAdv z a.toNatClampNeg x) (zNoAdv z a x) (zDoAdv z a.toNatClampNeg x 195) (zDoAdv z a.toNatClampNeg x) := by
  by_cases hv : ¬ (0 ≤ a ∧ a ≤ z 194 - 1) ∨ ¬ (1 ≤ x ∧ x ≤ 999)
  · exact op_no (noAdv_eq h a x) (by unfold zNoAdv; rw [if_pos hv]; decide)
  by_cases hw : z 191 = 1 ∨ z (10 * a.toNatClampNeg + 2) = 2 ∨ zBal z a.toNatClampNeg < x
  · exact op_no (noAdv_eq h a x) (by unfold zNoAdv; rw [if_neg hv, if_pos hw]; decide)
  have e0 : zNoAdv z a x = 0 := by unfold zNoAdv; rw [if_neg hv, if_neg hw]
  have h1 : 0 ≤ a ∧ a ≤ z 194 - 1 := nn fun q => hv (Or.inl q)
  have h3 : 1 ≤ x ∧ x ≤ 999 := nn fun q => hv (Or.inr q)
  obtain ⟨k, hk, hk16, -, ek⟩ := h.sail h1
  rw [i999] at h3
  obtain ⟨x, rfl, hm1, hm2⟩ := in_1 (by omega) (by omega) h3
  rw [ek] at hw ⊢
  have hI := h.doAdv hk hm1 hm2 (fun q => hw (Or.inr (Or.inl q))) (fun q => hw (Or.inr (Or.inr q)))
  obtain ⟨c, ec, c0, c5⟩ := hI.2.2.2.1
  have e := cDoAdv_eq (z := z) hk16 (iI_pos (n := x) (by omega) (by omega))
  exact op_yes (noAdv_eq h a _) e0 (by rw [e]) (by rw [ec]; exact iI_pos c0 (by omega)) e hI
theorem op_fine {B N : Nat} {z : Zt} (h : INV B N z) (a x : Int32) : OpOk B (cNoFine z a x) (5000 + cBal (cFine z a.toNatClampNeg x) a.toNatClampNeg) (cFine z a.toNatClampNeg x) (zNoFine z a x) (5000 + zBal (zDoFine z a.toNatClampNeg x) a.toNatClampNeg) (zDoFine z a.toNatClampNeg x) := by
  by_cases hv : ¬ (0 ≤ a ∧ a ≤ z 194 - 1) ∨ ¬ (1 ≤ x ∧ x ≤ 999)
  · exact op_no (noFine_eq h a x) (by unfold zNoFine; rw [if_pos hv]; decide)
  by_cases hw : z (10 * a.toNatClampNeg + 2) = 2 ∨ zBal z a.toNatClampNeg - x < -4000
  · exact op_no (noFine_eq h a x) (by unfold zNoFine; rw [if_neg hv, if_pos hw]; decide)
  have e0 : zNoFine z a x = 0 := by unfold zNoFine; rw [if_neg hv, if_neg hw]
  have h1 : 0 ≤ a ∧ a ≤ z 194 - 1 := nn fun q => hv (Or.inl q)
  have h3 : 1 ≤ x ∧ x ≤ 999 := nn fun q => hv (Or.inr q)
  obtain ⟨k, hk, hk16, -, ek⟩ := h.sail h1
  rw [i999] at h3
  obtain ⟨x, rfl, hm1, hm2⟩ := in_1 (by omega) (by omega) h3
  rw [ek] at hw ⊢
  have hI : INV B N (zDoFine z k (iI x)) := h.doFine hk (by omega) (by omega) (fun q => hw (Or.inl q)) (fun q => hw (Or.inr q))
  have e : cFine z k (iI x) = zDoFine z k (iI x) := cFine_eq hk16 (iI_pos (n := x) (by omega) (by omega))
  obtain ⟨q, eq, -, hq1, hq2, -⟩ := hI.bal2 hk
  refine op_yes (noFine_eq h a _) e0 (by rw [e, hI.bal hk]) ?_ e hI
  rw [eq, i5000, iI_add]; exact iI_pos (by omega) (by omega)
theorem op_fineW {B N : Nat} {z : Zt} (h : INV B N z) (w x : Int32) : OpOk B (cNoFW z N w x) (nI (zOfW z w N)) (cFineW z N w x) (zNoFW z N w x) (nI (zOfW z w N)) (zFineTo z N w x N) := by
  by_cases hv : ¬ (0 ≤ w ∧ w ≤ 1) ∨ ¬ (1 ≤ x ∧ x ≤ 999)
  · exact op_no (noFW_eq h w x) (by unfold zNoFW; rw [if_pos hv]; decide)
  by_cases hc : zCan z N w x N = true
  · have e0 : zNoFW z N w x = 0 := by unfold zNoFW; rw [if_neg hv, if_pos hc]
    have h3 : 1 ≤ x ∧ x ≤ 999 := nn fun q => hv (Or.inr q)
    rw [i999] at h3
    obtain ⟨x, rfl, hm1, hm2⟩ := in_1 (by omega) (by omega) h3
    obtain ⟨hI, e⟩ := fineTo_all h hm1 hm2 hc N (Nat.le_refl N)
    have hle := zOfW_le z w N
    have h16 := h.1.2
    exact op_yes (noFW_eq h w _) e0 rfl (nI_pos3 (by omega)) e hI
  · exact op_no (noFW_eq h w x) (by unfold zNoFW; rw [if_neg hv, if_neg hc]; decide)
theorem op_leave {B N : Nat} {z : Zt} (h : INV B N z) (w : Int32) : OpOk B (cNoLv z N w) (nI (cLeaveN z w N)) (cLeaveTo z w N) (zNoLeave z N w) (nI (zAbo z w N)) (zLeaveTo z w N) := by
  by_cases hv : ¬ (0 ≤ w ∧ w ≤ 1)
  · exact op_no (noLeave_eq h w) (by unfold zNoLeave; rw [if_pos hv]; decide)
  by_cases hw : z 191 = 1 ∨ ¬ zSet z 1 N = 0 ∨ zAbo z w N = 0
  · exact op_no (noLeave_eq h w) (by unfold zNoLeave; rw [if_neg hv, if_pos hw]; decide)
  have e0 : zNoLeave z N w = 0 := by unfold zNoLeave; rw [if_neg hv, if_neg hw]
  have hs : zSet z 1 N = 0 := nn fun q => hw (Or.inr (Or.inl q))
  obtain ⟨e1, e2⟩ := cLeaveTo_eq (w := w) h hs N (Nat.le_refl N)
  have hle := zAbo_le z w N
  have h16 := h.1.2
  exact op_yes (noLeave_eq h w) e0 (by rw [e2]) (nI_pos3 (by omega)) e1 (h.leaveTo N (Nat.le_refl N))
theorem op_back {B N : Nat} {z : Zt} (h : INV B N z) (a t : Int32) : OpOk B (cNoBack z a t) (t * z (203 + 2)) (cDoBack z a.toNatClampNeg t) (zNoBack z a t) (t * z 205) (zDoBack z a.toNatClampNeg t) := by
  by_cases hv : ¬ (0 ≤ a ∧ a ≤ z 194 - 1) ∨ ¬ (0 ≤ t ∧ t ≤ 99)
  · exact op_no (noBack_eq h a t) (by unfold zNoBack; rw [if_pos hv]; decide)
  by_cases hw : ¬ z (10 * a.toNatClampNeg + 2) = 1 ∨ zBal z a.toNatClampNeg - t * z 205 < -4000
  · exact op_no (noBack_eq h a t) (by unfold zNoBack; rw [if_neg hv, if_pos hw]; decide)
  have e0 : zNoBack z a t = 0 := by unfold zNoBack; rw [if_neg hv, if_neg hw]
  have h1 : 0 ≤ a ∧ a ≤ z 194 - 1 := nn fun q => hv (Or.inl q)
  have h3 : 0 ≤ t ∧ t ≤ 99 := nn fun q => hv (Or.inr q)
  obtain ⟨k, hk, hk16, -, ek⟩ := h.sail h1
  rw [i99] at h3
  obtain ⟨t, rfl, hm1, hm2⟩ := in_0 (by omega) (by omega) h3
  rw [ek] at hw ⊢
  obtain ⟨hI, n, n1, n2, en⟩ := h.doBack hk hm1 hm2 (nn fun q => hw (Or.inl q)) (fun q => hw (Or.inr q))
  have hp : 0 ≤ iI t * z 205 := by rw [en]; exact iI_pos n1 (by omega)
  exact op_yes (noBack_eq h a _) e0 rfl hp (cFine_eq hk16 hp) hI
theorem op_sail {B N : Nat} {z : Zt} (h : INV B N z) : OpOk B (cNoSail z) (nI (cLeft z N)) (upd (cSailTo z N) 191 1) (zNoSail z) (nI (zLeft z N)) (zDoSail z N) := by
  by_cases hs : z 191 = 1
  · exact op_no (noSail_eq h) (by unfold zNoSail; rw [if_pos hs]; decide)
  obtain ⟨e1, e2⟩ := cSailTo_eq h N (Nat.le_refl N)
  have hle := zLeft_le z N
  have h16 := h.1.2
  refine op_yes (noSail_eq h) (by unfold zNoSail; rw [if_neg hs]) (by rw [e2]) (nI_pos3 (by omega)) (by rw [e1]; rfl) ((INV.sailTo h N (Nat.le_refl N)).sea (Or.inr rfl))
theorem op_port {B N : Nat} {z : Zt} (h : INV B N z) (hB : B < 1000000) : OpOk B (cNoPort z) (z 193 + 1) (upd (upd z 191 0) 193 (z 193 + 1)) (zNoPort z) (z 193 + 1) (zDoPort z) := by
  by_cases hs : z 191 = 1
  · obtain ⟨hI, P, hP, eP⟩ := h.doPort
    have e0 : zNoPort z = 0 := by unfold zNoPort; rw [if_pos hs]
    refine ⟨noPort_eq h, Or.inr ⟨by rw [e0]; decide, rfl, ?_, rfl, N, hI⟩⟩
    rw [eP]; exact nI_pos' (by omega)
  · exact op_no (noPort_eq h) (by unfold zNoPort; rw [if_neg hs]; decide)
theorem op_days {B N : Nat} {z : Zt} (h : INV B N z) (m : Int32) : OpOk B (cNoDays z m) (z 192 + m) (upd (cDayTo z m N) 192 (z 192 + m)) (zNoDays z m) (z 192 + m) (zDayTo z m N) := by
  by_cases hv : ¬ (1 ≤ m ∧ m ≤ 99)
  · exact op_no rfl (by unfold zNoDays; rw [if_pos hv]; decide)
  by_cases hw : 999 < z 192 + m
  · exact op_no rfl (by unfold zNoDays; rw [if_neg hv, if_pos hw]; decide)
  have h3 : 1 ≤ m ∧ m ≤ 99 := nn hv
  have e0 : zNoDays z m = 0 := by unfold zNoDays; rw [if_neg hv, if_neg hw]
  rw [i99] at h3
  obtain ⟨m, rfl, hm1, hm2⟩ := in_1 (by omega) (by omega) h3
  obtain ⟨hI, n, n1, n2, en⟩ := h.dayTo hm1 hm2 hw
  exact op_yes rfl e0 rfl (by rw [en]; exact iI_pos n1 (by omega)) (cDayTo_eq h.2.1 N h.1.2) hI
theorem op_dis {B N : Nat} {z : Zt} (h : INV B N z) (a : Int32) : OpOk B (cNoDis z a) (cBal z a.toNatClampNeg) (cDoDis z a.toNatClampNeg) (zNoDis z a) (zBal z a.toNatClampNeg) (zDoDis z a.toNatClampNeg) := by
  by_cases hv : ¬ (0 ≤ a ∧ a ≤ z 194 - 1)
  · exact op_no (noDis_eq h a) (by unfold zNoDis; rw [if_pos hv]; decide)
  by_cases hw : z 191 = 1 ∨ z (10 * a.toNatClampNeg + 2) = 2 ∨ zBal z a.toNatClampNeg < 0
  · exact op_no (noDis_eq h a) (by unfold zNoDis; rw [if_neg hv, if_pos hw]; decide)
  have e0 : zNoDis z a = 0 := by unfold zNoDis; rw [if_neg hv, if_neg hw]
  obtain ⟨k, hk, hk16, -, ek⟩ := h.sail (nn hv)
  rw [ek] at hw ⊢
  obtain ⟨hI, n, n1, n2, en⟩ := h.doDis hk (fun q => hw (Or.inr (Or.inr q)))
  have hp : 0 ≤ zBal z k := by rw [en]; exact iI_pos n1 (by omega)
  refine op_yes (noDis_eq h a) e0 (h.bal hk) hp ?_ hI
  unfold cDoDis zDoDis
  rw [h.bal hk, cPay_eq hp, zBegin_0]
theorem op_po {B N : Nat} {z : Zt} (h : INV B N z) : OpOk B (cNoPO z) (cPOSum z N) (cDoPO z N) (zNoPO z) (zPOSum z N) (zDoPO z N) := by
  by_cases hw : z 191 = 1 ∨ z 192 = 0
  · exact op_no (noPO_eq h) (by unfold zNoPO; rw [if_pos hw]; decide)
  obtain ⟨q, eq, q0, q1⟩ := poSum_in h N (Nat.le_refl N)
  have h16 := h.1.2
  exact op_yes (noPO_eq h) (by unfold zNoPO; rw [if_neg hw]) (cPOTo_eq h N (Nat.le_refl N)).2 (by rw [eq]; exact iI_pos q0 (by omega)) (cDoPO_eq h) h.doPO
theorem op_set {B N : Nat} {z : Zt} (h : INV B N z) (q v : Int32) : OpOk B (cNoSet q v) (z (203 + q.toNatClampNeg)) (upd z (203 + q.toNatClampNeg) v) (zNoSet q v) (z (203 + q.toNatClampNeg)) (zDoSet z q v) := by
  by_cases hv : ¬ (0 ≤ q ∧ q ≤ 2) ∨ ¬ (0 ≤ v ∧ v ≤ (if q = 0 then 500 else if q = 1 then 200 else 50))
  · exact op_no (noSet_eq q v) (by unfold zNoSet; rw [if_pos hv]; decide)
  have e0 : zNoSet q v = 0 := by unfold zNoSet; rw [if_neg hv]
  have h1 : 0 ≤ q ∧ q ≤ 2 := nn fun g => hv (Or.inl g)
  have h2 : 0 ≤ v ∧ v ≤ (if q = 0 then 500 else if q = 1 then 200 else 50) := nn fun g => hv (Or.inr g)
  obtain ⟨j, hj, rfl⟩ := in_of (n := 2) (by decide) h1
  have ej : (nI j).toNatClampNeg = j := nI_clamp (by omega)
  have eb : (if nI j = 0 then (500 : Int32) else if nI j = 1 then 200 else 50) = iI (if j = 0 then 500 else if j = 1 then 200 else 50) := by
    rcases (show j = 0 ∨ j = 1 ∨ j = 2 by omega) with rfl | rfl | rfl <;> decide
  rw [eb] at h2
  have hb : (0 : Int) ≤ (if j = 0 then 500 else if j = 1 then 200 else 50) ∧ (if j = 0 then 500 else if j = 1 then 200 else 50) < (2147483648 : Int) := by rcases (show j = 0 ∨ j = 1 ∨ j = 2 by omega) with rfl | rfl | rfl <;> decide
  obtain ⟨v, rfl, v0, v1⟩ := in_0 hb.1 hb.2 h2
  unfold zDoSet
  rw [ej]
  refine op_yes (noSet_eq _ _) e0 rfl ?_ rfl (h.doSet hj v0 v1)
  obtain ⟨s0, s1, s2, ⟨e1, a1, a2⟩, ⟨e2, b1, b2⟩, ⟨e3, c1, c2⟩⟩ := h.2.2.1
  rcases (show j = 0 ∨ j = 1 ∨ j = 2 by omega) with rfl | rfl | rfl
  · rw [e1]; exact iI_pos a1 (by omega)
  · rw [e2]; exact iI_pos b1 (by omega)
  · rw [e3]; exact iI_pos c1 (by omega)
