def tyAns (x : Int32) (L : Nat) : Int32 := if ¬ (32 ≤ x ∧ x ≤ 126) then -1000001 else if L = 60 then -1000003 else nI (L + 1)
def tyR (r : Rt) (x : Int32) (L : Nat) : Rt := if ¬ (32 ≤ x ∧ x ≤ 126) ∨ L = 60 then r else (r.1, r.2.1, upd r.2.2.1 L x, r.2.2.2.1, upd r.2.2.2.2 1 (nI (L + 1)))
def tAt (t : Zt) (L u : Nat) : Int32 := if u < L then t u else 0
def tNum (q : Int32) : Int32 := if q = 111 ∨ q = 112 ∨ q = 101 then 0 else if q = 100 ∨ q = 108 then 1 else if q = 104 ∨ q = 97 ∨ q = 102 ∨ q = 114 then 2 else if q = 98 ∨ q = 118 then 3 else -1
