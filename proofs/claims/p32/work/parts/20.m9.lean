theorem rRec_g (r : Rt) (n : Nat) (s : Zt) {i : Nat} (h : i ≠ 0) : (rRec r n s).2.2.2.2 i = r.2.2.2.2 i := upd_n _ _ h
