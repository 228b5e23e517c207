/-- what an order (letter q, numbers f) answers on the class's books, and what it makes of them -/
def cOrdA (z : Zt) (q : Int32) (f : Zt) : Int32 := if q = 104 then (if cNoSign z (zNN z) (f 0) (f 1) < 0 then cNoSign z (zNN z) (f 0) (f 1) else nI (zNN z)) else if q = 98 then (if cNoBuy z (f 0) (f 1) (f 2) < 0 then cNoBuy z (f 0) (f 1) (f 2) else zPriceC z (f 1) (f 2)) else if q = 118 then (if cNoSell z (f 0) (f 1) (f 2) < 0 then cNoSell z (f 0) (f 1) (f 2) else (f 2) * z (160 + 5 * ((f 1)).toNatClampNeg + 1)) else if q = 97 then (if cNoAdv z (f 0) (f 1) < 0 then cNoAdv z (f 0) (f 1) else cDoAdv z ((f 0)).toNatClampNeg (f 1) 195) else if q = 102 then (if cNoFine z (f 0) (f 1) < 0 then cNoFine z (f 0) (f 1) else 5000 + cBal (cFine z ((f 0)).toNatClampNeg (f 1)) ((f 0)).toNatClampNeg) else if q = 100 then (if cNoDays z (f 0) < 0 then cNoDays z (f 0) else z 192 + (f 0)) else if q = 108 then (if cNoLv z (zNN z) (f 0) < 0 then cNoLv z (zNN z) (f 0) else nI (cLeaveN z (f 0) (zNN z))) else if q = 114 then (if cNoBack z (f 0) (f 1) < 0 then cNoBack z (f 0) (f 1) else (f 1) * z (203 + 2)) else if q = 111 then (if cNoSail z < 0 then cNoSail z else nI (cLeft z (zNN z))) else if q = 112 then (if cNoPort z < 0 then cNoPort z else z 193 + 1) else if cNoPO z < 0 then cNoPO z else cPOSum z (zNN z)
def cOrdD (z : Zt) (q : Int32) (f : Zt) : Zt := if q = 104 then (if cNoSign z (zNN z) (f 0) (f 1) < 0 then z else cDoSign z (zNN z) (f 0) (f 1)) else if q = 98 then (if cNoBuy z (f 0) (f 1) (f 2) < 0 then z else cDoBuy z ((f 0)).toNatClampNeg (f 1) (f 2)) else if q = 118 then (if cNoSell z (f 0) (f 1) (f 2) < 0 then z else cDoSell z ((f 0)).toNatClampNeg ((f 1)).toNatClampNeg (f 2)) else if q = 97 then (if cNoAdv z (f 0) (f 1) < 0 then z else cDoAdv z ((f 0)).toNatClampNeg (f 1)) else if q = 102 then (if cNoFine z (f 0) (f 1) < 0 then z else cFine z ((f 0)).toNatClampNeg (f 1)) else if q = 100 then (if cNoDays z (f 0) < 0 then z else upd (cDayTo z (f 0) (zNN z)) 192 (z 192 + (f 0))) else if q = 108 then (if cNoLv z (zNN z) (f 0) < 0 then z else cLeaveTo z (f 0) (zNN z)) else if q = 114 then (if cNoBack z (f 0) (f 1) < 0 then z else cDoBack z ((f 0)).toNatClampNeg (f 1)) else if q = 111 then (if cNoSail z < 0 then z else upd (cSailTo z (zNN z)) 191 1) else if q = 112 then (if cNoPort z < 0 then z else upd (upd z 191 0) 193 (z 193 + 1)) else if cNoPO z < 0 then z else cDoPO z (zNN z)
/-! the class's run of a text -/
def cTnu (T : Nat → Int32) (nu : Zt) : Nat → Zt
  | 0 => nu
  | k + 1 => crNum T (tU T k) (cTnu T nu k)
def cTz (T : Nat → Int32) (nu z : Zt) : Nat → Zt
  | 0 => z
  | k + 1 => cOrdD (cTz T nu z k) (T (tU T k)) (cTnu T nu (k + 1))
def cAns (T : Nat → Int32) (nu z : Zt) (k : Nat) : Int32 := cOrdA (cTz T nu z k) (T (tU T k)) (cTnu T nu (k + 1))
def cTG (T : Nat → Int32) (g : Zt) : Nat → Zt
  | 0 => upd (upd (upd (upd g 2 0) 3 0) 4 0) 5 0
  | k + 1 => upd (upd (upd (upd (cTG T g k) 6 (T (tU T k))) 7 (nI (tU T (k + 1)))) 3 (nI (tU T (k + 1)))) 2 (nI (k + 1))
def cxK (T : Nat → Int32) (L : Nat) (nu z : Zt) : Nat → Nat → Nat
  | 0, k => k
  | f + 1, k => if L ≤ tU T k then k else if rdAns T (tU T k) < 0 ∨ cAns T nu z k < 0 then k else cxK T L nu z f (k + 1)
def cCau (T : Nat → Int32) (nu z : Zt) (k : Nat) : Int32 := if rdAns T (tU T k) < 0 then nI (rdBrk T (tU T k)) else cAns T nu z k
def cRea (T : Nat → Int32) (k : Nat) : Int32 := if rdAns T (tU T k) < 0 then 1 else 2
def cFail (T : Nat → Int32) (nu z g : Zt) (k : Nat) : Zt := upd (upd (upd (upd (cTG T g k) 6 (T (tU T k))) 7 (nI (crPl T (tU T k)))) 4 (cRea T k)) 5 (cCau T nu z k)
def cxG (T : Nat → Int32) (L : Nat) (nu z g : Zt) : Zt := if L ≤ tU T (cxK T L nu z 60 0) then cTG T g (cxK T L nu z 60 0) else cFail T nu z g (cxK T L nu z 60 0)
def cxN (T : Nat → Int32) (L : Nat) (nu z : Zt) : Zt := if L ≤ tU T (cxK T L nu z 60 0) then cTnu T nu (cxK T L nu z 60 0) else cTnu T nu (cxK T L nu z 60 0 + 1)
def cxZ (T : Nat → Int32) (L : Nat) (nu z : Zt) : Zt := if L ≤ tU T (cxK T L nu z 60 0) then cTz T nu z (cxK T L nu z 60 0) else if rdAns T (tU T (cxK T L nu z 60 0)) < 0 then cTz T nu z (cxK T L nu z 60 0) else cTz T nu z (cxK T L nu z 60 0 + 1)
theorem cxK_ge (T : Nat → Int32) (L : Nat) (nu z : Zt) : ∀ f k, k ≤ cxK T L nu z f k
  | 0, k => Nat.le_refl _
  | f + 1, k => by
    have := cxK_ge T L nu z f (k + 1)
    simp only [cxK]; split
    · exact Nat.le_refl _
    split
    · exact Nat.le_refl _
    · omega
theorem cxK_s {T : Nat → Int32} {L k : Nat} {nu z : Zt} (hk : k < 60) (h1 : ¬ L ≤ tU T k) (h2 : ¬ (rdAns T (tU T k) < 0 ∨ cAns T nu z k < 0)) : cxK T L nu z (60 - k) k = cxK T L nu z (60 - (k + 1)) (k + 1) := by
  rw [show 60 - k = 60 - (k + 1) + 1 by omega]; simp only [cxK]; rw [if_neg h1, if_neg h2]
theorem cxK_e {T : Nat → Int32} {L k : Nat} {nu z : Zt} (h1 : L ≤ tU T k) : cxK T L nu z (60 - k) k = k := by
  by_cases hk : k < 60
  · rw [show 60 - k = 60 - (k + 1) + 1 by omega]; simp only [cxK]; rw [if_pos h1]
  · rw [show 60 - k = 0 by omega]; rfl
theorem cxK_b {T : Nat → Int32} {L k : Nat} {nu z : Zt} (h1 : ¬ L ≤ tU T k) (h2 : rdAns T (tU T k) < 0 ∨ cAns T nu z k < 0) : cxK T L nu z (60 - k) k = k := by
  by_cases hk : k < 60
  · rw [show 60 - k = 60 - (k + 1) + 1 by omega]; simp only [cxK]; rw [if_neg h1, if_pos h2]
  · rw [show 60 - k = 0 by omega]; rfl
theorem cTG_k (T : Nat → Int32) (g : Zt) {i : Nat} (h : i < 2) : ∀ k, cTG T g k i = g i
  | 0 => by simp only [cTG]; rw [upd_n _ _ (by omega), upd_n _ _ (by omega), upd_n _ _ (by omega), upd_n _ _ (by omega)]
  | k + 1 => by
    simp only [cTG]; rw [upd_n _ _ (by omega), upd_n _ _ (by omega), upd_n _ _ (by omega), upd_n _ _ (by omega)]
    exact cTG_k T g h k
theorem cTG_2 (T : Nat → Int32) (g : Zt) : ∀ k, cTG T g k 2 = nI k
  | 0 => rfl
  | k + 1 => upd_s _ _ _
theorem cTG_3 (T : Nat → Int32) (g : Zt) : ∀ k, cTG T g k 3 = nI (tU T k)
  | 0 => rfl
  | k + 1 => by simp only [cTG]; rw [upd_n _ _ (by omega), upd_s]
theorem cTG_45 (T : Nat → Int32) (g : Zt) {i : Nat} (h : i = 4 ∨ i = 5) : ∀ k, cTG T g k i = 0
  | 0 => by rcases h with rfl | rfl <;> rfl
  | k + 1 => by
    simp only [cTG]; rw [upd_n _ _ (by omega), upd_n _ _ (by omega), upd_n _ _ (by omega), upd_n _ _ (by omega)]
    exact cTG_45 T g h k
theorem crPl_ok {T : Nat → Int32} {k : Nat} (h : ¬ rdAns T (tU T k) < 0) : crPl T (tU T k) = tU T (k + 1) := if_neg h
theorem crPl_br {T : Nat → Int32} {u : Nat} (h : rdAns T u < 0) : crPl T u = u + rdBrk T u := if_pos h
/-- the states turned on by one, and back -/
def rotR (π : Nat → Nat) : Nat → Nat := piset (piset (piset (piset π 3 (π 2)) 2 (π 1)) 1 (π 0)) 0 (π 3)
def rotL (π : Nat → Nat) : Nat → Nat := piset (piset (piset (piset π 0 (π 1)) 1 (π 2)) 2 (π 3)) 3 (π 0)
def cTellF (g : Zt) (q : Int32) : Int32 := if g 4 = 0 then -1000004 else if q = 0 then g 3 else if q = 1 then g 4 else g 5
