section Rows3
variable {K : KT} {p : Program} {l : Launch} {e : Env} {R : Room} {s : State} {m : MethodId} {args : Array Value} {below : List Frame} {meth : Method} {c : Code} {Q : State → Prop} {nL : Nat} {own : String} {cc : ByteArray} {ret : Option FieldType}
variable {V : VW} {sz pc : Nat} {lv : List (Nat × Value)} {st : List Value}
theorem G.mmax (cx : Cx K p s m args meth c own cc nL ret) {index : Nat} {x y : Int32} (hd : decode cc pc = .ok (.invokestatic index, 3)) (hw : Cond.methodLink own index Lib.Math.max.name ∈ wsL_law) (hR : 1 ≤ R.frames ∧ 21 ≤ R.locals) (hr : (st.map fun v => v.category).sum ≤ 8) (kk : G K p l e R s m args below meth c Q nL V sz 0 0 (pc + 3) lv (.int (if x < y then y else x) :: st)) : G K p l e R s m args below meth c Q nL V sz 0 0 pc lv (.int y :: .int x :: st) := by
  intro H locs ls h1 h2 h3 h4
  obtain ⟨hx, hb, hml, ho, hts, -⟩ := id cx
  exact va_mmax hx hb (hml.trans h4.1.symm) ho (hts _ hw) (hts _ wm_st_Lib_Math_max_name) (hts _ wm_in_java_lang_Math) (hts _ wm_co_Lib_Math_max_name) hR.1 (by omega) (Nat.zero_le _) (Nat.zero_le _) hd (kk H locs ls h1 h2 h3 h4)
theorem G.mmin (cx : Cx K p s m args meth c own cc nL ret) {index : Nat} {x y : Int32} (hd : decode cc pc = .ok (.invokestatic index, 3)) (hw : Cond.methodLink own index Lib.Math.min.name ∈ wsL_law) (hR : 1 ≤ R.frames ∧ 21 ≤ R.locals) (hr : (st.map fun v => v.category).sum ≤ 8) (kk : G K p l e R s m args below meth c Q nL V sz 0 0 (pc + 3) lv (.int (if y < x then y else x) :: st)) : G K p l e R s m args below meth c Q nL V sz 0 0 pc lv (.int y :: .int x :: st) := by
  intro H locs ls h1 h2 h3 h4
  obtain ⟨hx, hb, hml, ho, hts, -⟩ := id cx
  exact va_mmin hx hb (hml.trans h4.1.symm) ho (hts _ hw) (hts _ wm_st_Lib_Math_min_name) (hts _ wm_in_java_lang_Math) (hts _ wm_co_Lib_Math_min_name) hR.1 (by omega) (Nat.zero_le _) (Nat.zero_le _) hd (kk H locs ls h1 h2 h3 h4)
theorem G.getsH (cx : Cx K p s m args meth c own cc nL ret) (hown : own = RX0) (hd : decode cc pc = .ok (.getstatic 206, 3)) (kk : G K p l e R s m args below meth c Q nL V sz 0 0 (pc + 3) lv (.ref K.2.2.2.2.1 :: st)) : G K p l e R s m args below meth c Q nL V sz 0 0 pc lv st := by
  intro H locs ls h1 h2 h3 h4
  obtain ⟨hx, hb, hml, ho, hts, hK, hZ, -⟩ := id cx
  subst hown
  exact va_getsN hx hb hZ.2.2.1 h3 ho (va_Nw.use rfl hK.2.2.1.1) (fun _ h => h) hd (kk H locs ls h1 h2 h3 h4)
theorem G.getsF (cx : Cx K p s m args meth c own cc nL ret) {cells slots : Nat} (hown : own = RX0) (hd : decode cc pc = .ok (.getstatic 25, 3)) (kk : G K p l e R s m args below meth c Q nL V sz cells slots (pc + 3) lv (.ref K.2.2.2.1 :: st)) : G K p l e R s m args below meth c Q nL V sz cells slots pc lv st := by
  intro H locs ls h1 h2 h3 h4
  obtain ⟨hx, hb, hml, ho, hts, hK, hZ, -⟩ := id cx
  subst hown
  exact va_getsN hx hb hZ.1 h3 ho (va_Nw.use rfl hK.2.2.1.2) (fun _ h => h) hd (kk H locs ls h1 h2 h3 h4)
theorem G.tlenH (cx : Cx K p s m args meth c own cc nL ret) {cells slots : Nat} (hd : decode cc pc = .ok (.arraylength, 1)) (kk : G K p l e R s m args below meth c Q nL V sz cells slots (pc + 1) lv (.int 3 :: st)) : G K p l e R s m args below meth c Q nL V sz cells slots pc lv (.ref K.2.2.2.2.1 :: st) := by
  intro H locs ls h1 h2 h3 h4
  obtain ⟨hx, hb, hml, ho, hts, hK, hZ, -⟩ := id cx
  exact va_tlen hx hb hZ.2.2.2.1 h3 rfl hd (kk H locs ls h1 h2 h3 h4)
theorem G.taldH (cx : Cx K p s m args meth c own cc nL ret) {cells slots j : Nat} {i : Int32} (hd : decode cc pc = .ok (.iaload, 1)) (hi : i = nI j) (hj : j < 3) (kk : G K p l e R s m args below meth c Q nL V sz cells slots (pc + 1) lv (.int (hS j) :: st)) : G K p l e R s m args below meth c Q nL V sz cells slots pc lv (.int i :: .ref K.2.2.2.2.1 :: st) := by
  intro H locs ls h1 h2 h3 h4
  obtain ⟨hx, hb, hml, ho, hts, hK, hZ, -⟩ := id cx
  subst hi
  exact va_ti hx hb hZ.2.2.2.1 h3 (vp_in_nI hj (by decide)) (by rw [nI_clamp (by omega)]) hd (kk H locs ls h1 h2 h3 h4)
theorem G.tlenF (cx : Cx K p s m args meth c own cc nL ret) {cells slots : Nat} (hd : decode cc pc = .ok (.arraylength, 1)) (kk : G K p l e R s m args below meth c Q nL V sz cells slots (pc + 1) lv (.int 3 :: st)) : G K p l e R s m args below meth c Q nL V sz cells slots pc lv (.ref K.2.2.2.1 :: st) := by
  intro H locs ls h1 h2 h3 h4
  obtain ⟨hx, hb, hml, ho, hts, hK, hZ, -⟩ := id cx
  exact va_tlen hx hb hZ.2.1 h3 rfl hd (kk H locs ls h1 h2 h3 h4)
theorem G.taldF (cx : Cx K p s m args meth c own cc nL ret) {cells slots j : Nat} {i : Int32} (hd : decode cc pc = .ok (.iaload, 1)) (hi : i = nI j) (hj : j < 3) (kk : G K p l e R s m args below meth c Q nL V sz cells slots (pc + 1) lv (.int (fS j) :: st)) : G K p l e R s m args below meth c Q nL V sz cells slots pc lv (.int i :: .ref K.2.2.2.1 :: st) := by
  intro H locs ls h1 h2 h3 h4
  obtain ⟨hx, hb, hml, ho, hts, hK, hZ, -⟩ := id cx
  subst hi
  exact va_ti hx hb hZ.2.1 h3 (vp_in_nI hj (by decide)) (by rw [nI_clamp (by omega)]) hd (kk H locs ls h1 h2 h3 h4)
end Rows3
