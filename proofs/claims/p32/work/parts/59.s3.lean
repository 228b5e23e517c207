/-! THE SHARE -/
def cEs (z : Zt) : Nat → Int32
  | 0 => 0
  | n + 1 => cEs z n + zEarn z n
def cCs (z : Zt) : Nat → Int32
  | 0 => 0
  | n + 1 => cCs z n + zChg z n
def rEs (z : Zt) : Nat → Int32
  | 0 => 0
  | n + 1 => rEs z n + (if z (10 * n + 2) = 2 then 0 else zEarn z n)
def rCs (z : Zt) : Nat → Int32
  | 0 => 0
  | n + 1 => rCs z n + (if z (10 * n + 2) = 2 then 0 else zChg z n)
theorem share_in {B N : Nat} {z : Zt} (h : INV B N z) : ∀ n, n ≤ N → rEs z n = cEs z n ∧ rCs z n = cCs z n ∧ (∃ e : Nat, e ≤ 4000 * n ∧ cEs z n = nI e) ∧ ∃ c : Nat, c ≤ 8000 * n ∧ cCs z n = nI c
  | 0, _ => ⟨rfl, rfl, ⟨0, by omega, rfl⟩, ⟨0, by omega, rfl⟩⟩
  | n + 1, hn => by
    obtain ⟨e1, e2, ⟨e, he, ee⟩, c, hc, ec⟩ := share_in h n (by omega)
    obtain ⟨-, -, -, -, -, -, -, d, -, -, hd, hs⟩ := h
    obtain ⟨a, b, c1, f, v, q, ⟨ea, eb, ec1, ef, ev, eq⟩, ⟨ha, hb, hab, hc1, hf, hv, hq, hq2, hs1⟩, hg, -⟩ := hs n (by omega)
    have hw := wgI_bd (r := z (10 * n)) ha hb
    have x1 : zEarn z n = iI (wgI (z (10 * n)) a b) := by unfold zEarn; rw [ea, eb]; exact zWages_iI ha hb (by omega)
    have x2 : zChg z n = iI (c1 + f + v) := by unfold zChg; rw [ec1, ef, ev, iI_add, iI_add]
    have y1 : (if z (10 * n + 2) = 2 then 0 else zEarn z n) = zEarn z n := by
      by_cases g : z (10 * n + 2) = 2
      · obtain ⟨r1, r2, -⟩ := hg g
        rw [if_pos g, x1, r1, r2, wgI_0]; decide
      · rw [if_neg g]
    have y2 : (if z (10 * n + 2) = 2 then 0 else zChg z n) = zChg z n := by
      by_cases g : z (10 * n + 2) = 2
      · obtain ⟨r1, r2, r3, r4, r5, r6⟩ := hg g
        rw [if_pos g, x2, r3, r4, r5]; decide
      · rw [if_neg g]
    obtain ⟨w1, hw1⟩ : ∃ k : Nat, wgI (z (10 * n)) a b = k := ⟨_, (Int.toNat_of_nonneg hw.1).symm⟩
    obtain ⟨w2, hw2⟩ : ∃ k : Nat, c1 + f + v = (k : Int) := ⟨(c1 + f + v).toNat, by omega⟩
    simp only [rEs, cEs, rCs, cCs]
    rw [y1, y2, e1, e2]
    refine ⟨rfl, rfl, ⟨e + w1, by omega, ?_⟩, ⟨c + w2, by omega, ?_⟩⟩
    · rw [ee, x1, hw1, ← iI_nat, nI_add]
    · rw [ec, x2, hw2, ← iI_nat, nI_add]
/-- what both answer -/
def shA (c e : Nat) : Int32 := if e = 0 then -1000004 else (FP.fdiv (FP.i2f (nI c)) (FP.i2f (nI e))).toInt32
theorem sh_dat {c e : Nat} (hc : c ≤ 1000000) (he : 0 < e) (he2 : e ≤ 1000000) : fv (FP.fdiv (FP.i2f (nI c)) (FP.i2f (nI e))) = fD 0 (-149) ∨ ∃ (m : Nat) (q : Int), fv (FP.fdiv (FP.i2f (nI c)) (FP.i2f (nI e))) = fD m q ∧ 8388608 ≤ m ∧ -60 ≤ q ∧ q ≤ 60 := by
  by_cases h : c = 0
  · subst h; exact Or.inl (fl_quot0 he he2)
  · exact Or.inr (fl_quot (by omega) hc he he2)
set_option maxHeartbeats 4000000 in
set_option maxRecDepth 100000 in
theorem c_X0_chargedShare (l : Launch) (K : KT) (sz : Nat) (b : Nat) (z : Zt) (V : VW) (N e c : Nat) (hN : z 194 = nI N) (h16 : N ≤ 16) (he : cEs z N = nI e) (he2 : e ≤ 1000000) (hc : cCs z N = nI c) (hc2 : c ≤ 1000000) : Ct l K yX0_chargedShare cX0_chargedShare 4 (some .int) 2 [.ref b] (bw K b z V) sz (some (.int (shA c e))) (bw K b z V) sz 0 0 := by
  refine Ct.ofG (by decide) (Nat.le_of_ble_eq_true rfl) ?_
  intro p9 e9 s9 m9 a9 b9 t9 c9 cx hin9
  refine G.lv0 (lv2 := [(0, .ref b)]) rfl ?_
  refine G.iconst (pc := 0) cx dX0_chargedShare_0 (v := 0) (by decide) ?_
  refine G.istore_n (pc := 1) cx dX0_chargedShare_1 rfl (by decide) rfl ?_
  refine G.iconst (pc := 2) cx dX0_chargedShare_2 (v := 0) (by decide) ?_
  refine G.istore_n (pc := 3) cx dX0_chargedShare_3 rfl (by decide) rfl ?_
  refine G.iconst (pc := 4) cx dX0_chargedShare_4 (v := 0) (by decide) ?_
  refine G.istore_n (pc := 5) cx dX0_chargedShare_5 rfl (by decide) rfl ?_
  have L6 : ∀ (f k : Nat), N - k < f → k ≤ N → G K p9 l e9 (rmL 2 0 0) s9 m9 a9 b9 t9 c9 (MQ b9 (QCt K (some (.int (shA c e))) (bw K b z V) sz) a9 s9 0 0 (kA K)) 4 (bw K b z V) sz 0 0 6 [(0, .ref b), (1, .int (cEs z k)), (2, .int (cCs z k)), (3, .int (nI k))] [] := by
    intro f
    induction f with
    | zero => intro k h9; omega
    | succ f ih =>
      intro k h94 h84
      refine G.iload_n (pc := 6) cx dX0_chargedShare_6 rfl 3 rfl ?_
      refine G.aload_n (pc := 7) cx dX0_chargedShare_7 rfl 0 rfl ?_
      refine G.getB (pc := 8) cx dX0_chargedShare_8 5 wm_fl_X0_63 (by decide) (congrArg (fun x => some (Value.int x)) (hN)) ?_
      refine G.icmp_geN (pc := 11) cx k N (by omega) (by omega) dX0_chargedShare_11 (tgt := 53) (by decide) (fun cq => ?_) (fun cq => ?_)
      · obtain rfl : k = N := by omega
        rw [he, hc]
        refine G.iload_n (pc := 53) cx dX0_chargedShare_53 rfl 1 rfl ?_
        refine G.if_gtN (pc := 54) cx e (by omega) dX0_chargedShare_54 (tgt := 62) (by decide) (fun cg => ?_) (fun cg => ?_)
        · have hd := sh_dat hc2 cg he2
          refine G.iload_n (pc := 62) cx dX0_chargedShare_62 rfl 2 rfl ?_
          refine G.i2f (pc := 63) cx dX0_chargedShare_63 ?_
          refine G.iload_n (pc := 64) cx dX0_chargedShare_64 rfl 1 rfl ?_
          refine G.i2f (pc := 65) cx dX0_chargedShare_65 ?_
          refine G.fdiv (pc := 66) cx dX0_chargedShare_66 (by rcases hd with hd | ⟨m, q, hd, -⟩ <;> exact fl_n32 hd) ?_
          have hb : Ct l K yX9_bitsOf cX9_bitsOf 4 (some .int) 0 [.float (FP.fdiv (FP.i2f (nI c)) (FP.i2f (nI e)))] (bw K b z V) sz (some (.int (FP.fdiv (FP.i2f (nI c)) (FP.i2f (nI e))).toInt32)) (bw K b z V) sz 0 0 := by
            rcases hd with hd | ⟨m, q, hd, g1, g2, g3⟩
            · exact c_X9_bitsOf0 l K sz _ _ hd
            · exact c_X9_bitsOf l K sz _ _ hd g1 g2 g3
          refine G.callSN0 (pc := 67) (rest := []) (st1 := [.int (FP.fdiv (FP.i2f (nI c)) (FP.i2f (nI e))).toInt32]) cx hb ok_X9_bitsOf dX0_chargedShare_67 (by decide +kernel) rfl (Nat.le_of_ble_eq_true rfl) ⟨Nat.le_of_ble_eq_true rfl, Nat.le_of_ble_eq_true rfl⟩ rfl ?_
          exact G.iret (pc := 70) cx rfl dX0_chargedShare_70 (by unfold shA; rw [if_neg (by omega)]) rfl rfl
        · refine G.ldc (pc := 57) cx dX0_chargedShare_57 (v := (-1000004)) wm_ct_X0_218 ?_
          refine G.goto (pc := 59) cx dX0_chargedShare_59 (tgt := 70) (by decide) ?_
          exact G.iret (pc := 70) cx rfl dX0_chargedShare_70 (by unfold shA; rw [if_pos (by omega)]) rfl rfl
      · refine G.iload_n (pc := 14) cx dX0_chargedShare_14 rfl 3 rfl ?_
        refine G.aload_n (pc := 15) cx dX0_chargedShare_15 rfl 0 rfl ?_
        refine G.getB (pc := 16) cx dX0_chargedShare_16 0 wm_fl_X0_11 (by decide) rfl ?_
        refine G.alenV (pc := 19) cx dX0_chargedShare_19 1 rfl bw_crew (v := 16) rfl ?_
        refine G.icmp_geN (pc := 20) cx k 16 (by omega) (by omega) dX0_chargedShare_20 (tgt := 53) (by decide) (fun cq18 => absurd cq18 (by omega)) (fun cq18 => ?_)
        refine G.iload_n (pc := 23) cx dX0_chargedShare_23 rfl 1 rfl ?_
        refine G.aload_n (pc := 24) cx dX0_chargedShare_24 rfl 0 rfl ?_
        refine G.getB (pc := 25) cx dX0_chargedShare_25 0 wm_fl_X0_11 (by decide) rfl ?_
        refine G.iload_n (pc := 28) cx dX0_chargedShare_28 rfl 3 rfl ?_
        refine G.aaldV (pc := 29) cx dX0_chargedShare_29 1 rfl bw_crew (j := k) rfl (by omega) (by decide) rfl ?_
        refine G.callV0 (pc := 30) (rest := [.int (cEs z k)]) (st1 := [.int (zEarn z k), .int (cEs z k)]) cx (c_X6_earned l K sz b z V k (by omega)) ok_X6_earned dX0_chargedShare_30 wm_ml_X0_237 rfl (bw_s (by omega)) rfl rfl (Nat.le_of_ble_eq_true rfl) ⟨Nat.le_of_ble_eq_true rfl, Nat.le_of_ble_eq_true rfl⟩ rfl ?_
        refine G.iadd (pc := 33) cx dX0_chargedShare_33 ?_
        refine G.istore_n (pc := 34) cx dX0_chargedShare_34 rfl (by decide) rfl ?_
        refine G.castL (lv' := [(0, .ref b), (1, .int (cEs z k + zEarn z k)), (2, .int (cCs z k)), (3, .int (nI k))]) [1, 0, 2, 3] rfl ?_
        refine G.iload_n (pc := 35) cx dX0_chargedShare_35 rfl 2 rfl ?_
        refine G.aload_n (pc := 36) cx dX0_chargedShare_36 rfl 0 rfl ?_
        refine G.getB (pc := 37) cx dX0_chargedShare_37 0 wm_fl_X0_11 (by decide) rfl ?_
        refine G.iload_n (pc := 40) cx dX0_chargedShare_40 rfl 3 rfl ?_
        refine G.aaldV (pc := 41) cx dX0_chargedShare_41 1 rfl bw_crew (j := k) rfl (by omega) (by decide) rfl ?_
        refine G.callV0 (pc := 42) (rest := [.int (cCs z k)]) (st1 := [.int (zChg z k), .int (cCs z k)]) cx (c_X6_charged l K sz b z V k (by omega)) ok_X6_charged dX0_chargedShare_42 wm_ml_X0_212 rfl (bw_s (by omega)) rfl rfl (Nat.le_of_ble_eq_true rfl) ⟨Nat.le_of_ble_eq_true rfl, Nat.le_of_ble_eq_true rfl⟩ rfl ?_
        refine G.iadd (pc := 45) cx dX0_chargedShare_45 ?_
        refine G.istore_n (pc := 46) cx dX0_chargedShare_46 rfl (by decide) rfl ?_
        refine G.castL (lv' := [(0, .ref b), (1, .int (cEs z k + zEarn z k)), (2, .int (cCs z k + zChg z k)), (3, .int (nI k))]) [1, 2, 0, 3] rfl ?_
        refine G.iinc (pc := 47) cx dX0_chargedShare_47 (v := nI (k + 1)) (k := 3) rfl (nI_add k 1) (by decide) rfl ?_
        refine G.goto (pc := 50) cx dX0_chargedShare_50 (tgt := 6) (by decide) ?_
        refine G.castL (lv' := [(0, .ref b), (1, .int (cEs z (k + 1))), (2, .int (cCs z (k + 1))), (3, .int (nI (k + 1)))]) [1, 2, 3, 0] rfl ?_
        exact ih (k + 1) (by omega) (by omega)
  refine G.castL (lv' := [(0, .ref b), (1, .int (cEs z 0)), (2, .int (cCs z 0)), (3, .int (nI 0))]) [3, 2, 1, 0] rfl ?_
  exact L6 (N + 1) 0 (by omega) (by omega)
set_option maxHeartbeats 4000000 in
set_option maxRecDepth 100000 in
theorem c_X9_share (l : Launch) (K : KT) (sz : Nat) (x : Nat) (z : Zt) (t : Zt) (h : Nat → Zt) (π : Nat → Nat) (f : Zt) (u : Zt) (g : Zt) (V : VW) (N e c : Nat) (hN : z 194 = nI N) (h16 : N ≤ 16) (he : cEs z N = nI e) (he2 : e ≤ 1000000) (hc : cCs z N = nI c) (hc2 : c ≤ 1000000) : Ct l K yX9_share cX9_share 1 (some .int) 6 [.ref x] (ww K x z t h π f u g V) sz (some (.int (shA c e))) (ww K x z t h π f u g V) sz 0 0 := by
  refine Ct.ofG (by decide) (Nat.le_of_ble_eq_true rfl) ?_
  intro p9 e9 s9 m9 a9 b9 t9 c9 cx hin9
  refine G.lv0 (lv2 := [(0, .ref x)]) rfl ?_
  refine G.aload_n (pc := 0) cx dX9_share_0 rfl 0 rfl ?_
  refine G.getV (pc := 1) cx dX9_share_1 (T := TX9) 0 wm_fl_X9_10 inlX9 rfl (by decide) ww_x rfl ?_
  refine G.cast (V' := (bw K (x + 1) z (ww K x z t h π f u g V))) (ww_b1 _).symm ?_
  refine G.callV0 (pc := 4) (rest := []) (st1 := [.int (shA c e)]) cx (c_X0_chargedShare l K sz (x + 1) z (ww K x z t h π f u g V) N e c hN h16 he he2 hc hc2) ok_X0_chargedShare dX9_share_4 wm_ml_X9_133 rfl bw_b rfl rfl (Nat.le_of_ble_eq_true rfl) ⟨Nat.le_of_ble_eq_true rfl, Nat.le_of_ble_eq_true rfl⟩ rfl ?_
  refine G.cast (V' := (ww K x z t h π f u g V)) (ww_b1 _) ?_
  exact G.iret (pc := 7) cx rfl dX9_share_7 rfl rfl rfl
