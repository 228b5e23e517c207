section Rows2
variable {K : KT} {p : Program} {l : Launch} {e : Env} {R : Room} {s : State} {m : MethodId} {args : Array Value} {below : List Frame} {meth : Method} {c : Code} {Q : State → Prop} {nL : Nat} {own : String} {cc : ByteArray} {ret : Option FieldType}
variable {V : VW} {sz cells slots pc : Nat} {lv : List (Nat × Value)} {st : List Value} {b k mc : Nat} {z : Zt} {r : Rt}
theorem nI_inc (n : Nat) : nI n + Int32.ofInt 1 = nI (n + 1) := nI_add n 1
theorem G.lv0 {lv2 : List (Nat × Value)} (h : lv = lv2) (kk : G K p l e R s m args below meth c Q nL V sz cells slots pc lv2 st) : G K p l e R s m args below meth c Q nL V sz cells slots pc lv st := h ▸ kk
theorem G.getS (cx : Cx K p s m args meth c own cc nL ret) {index : Nat} (hd : decode cc pc = .ok (.getfield index, 3)) (q : Nat) {v : Value} (hw : Cond.fieldLink own index (TX6 q).1 (TX6 q).2.1 (TX6 q).2.2.1 ∈ wsL_law) (hq : q < 10) (hk : k < 16) (hf : (slist z k)[q]? = some v) (kk : G K p l e R s m args below meth c Q nL (bw K b z V) sz cells slots (pc + 3) lv (v :: st)) : G K p l e R s m args below meth c Q nL (bw K b z V) sz cells slots pc lv (.ref (b + 2 + k) :: st) := G.get cx q hd hw inlX6 rfl hq (bw_s hk) hf kk
theorem G.getI (cx : Cx K p s m args meth c own cc nL ret) {index : Nat} (hd : decode cc pc = .ok (.getfield index, 3)) (q : Nat) {v : Value} (hw : Cond.fieldLink own index (TX3 q).1 (TX3 q).2.1 (TX3 q).2.2.1 ∈ wsL_law) (hq : q < 5) (hk : k < 6) (hf : (ilist z k)[q]? = some v) (kk : G K p l e R s m args below meth c Q nL (bw K b z V) sz cells slots (pc + 3) lv (v :: st)) : G K p l e R s m args below meth c Q nL (bw K b z V) sz cells slots pc lv (.ref (b + 19 + k) :: st) := G.get cx q hd hw inlX3 rfl hq (bw_i hk) hf kk
theorem G.getT (cx : Cx K p s m args meth c own cc nL ret) {index : Nat} (hd : decode cc pc = .ok (.getfield index, 3)) (q : Nat) {v : Value} (hw : Cond.fieldLink own index (TX8 q).1 (TX8 q).2.1 (TX8 q).2.2.1 ∈ wsL_law) (hq : q < 8) (hf : (tlist z)[q]? = some v) (kk : G K p l e R s m args below meth c Q nL (bw K b z V) sz cells slots (pc + 3) lv (v :: st)) : G K p l e R s m args below meth c Q nL (bw K b z V) sz cells slots pc lv (.ref (b + 30) :: st) := G.get cx q hd hw inlX8 rfl hq bw_t hf kk
theorem G.getB (cx : Cx K p s m args meth c own cc nL ret) {index : Nat} (hd : decode cc pc = .ok (.getfield index, 3)) (q : Nat) {v : Value} (hw : Cond.fieldLink own index (TX0 q).1 (TX0 q).2.1 (TX0 q).2.2.1 ∈ wsL_law) (hq : q < 10) (hf : (blist b z)[q]? = some v) (kk : G K p l e R s m args below meth c Q nL (bw K b z V) sz cells slots (pc + 3) lv (v :: st)) : G K p l e R s m args below meth c Q nL (bw K b z V) sz cells slots pc lv (.ref b :: st) := G.get cx q hd hw inlX0 rfl hq bw_b hf kk
theorem G.getE (cx : Cx K p s m args meth c own cc nL ret) {index : Nat} (hd : decode cc pc = .ok (.getfield index, 3)) (q : Nat) {v : Value} (hw : Cond.fieldLink own index (TX1 q).1 (TX1 q).2.1 (TX1 q).2.2.1 ∈ wsL_law) (hq : q < 4) (hf : (elist b z)[q]? = some v) (kk : G K p l e R s m args below meth c Q nL (bw K b z V) sz cells slots (pc + 3) lv (v :: st)) : G K p l e R s m args below meth c Q nL (bw K b z V) sz cells slots pc lv (.ref (b + 26) :: st) := G.get cx q hd hw inlX1 rfl hq bw_e hf kk
theorem G.getM (cx : Cx K p s m args meth c own cc nL ret) {index : Nat} (hd : decode cc pc = .ok (.getfield index, 3)) (q : Nat) {v : Value} (hw : Cond.fieldLink own index (TX10 q).1 (TX10 q).2.1 (TX10 q).2.2.1 ∈ wsL_law) (hq : q < 13) (hf : (mlist mc r.2.2.2.2)[q]? = some v) (kk : G K p l e R s m args below meth c Q nL (mw K mc z r V) sz cells slots (pc + 3) lv (v :: st)) : G K p l e R s m args below meth c Q nL (mw K mc z r V) sz cells slots pc lv (.ref mc :: st) := G.get cx q hd hw inlX10 rfl hq mw_m hf kk
theorem slist_up (z : Zt) (k : Nat) (v : Int32) : ∀ q, q < 10 → q ≠ 8 → (slist z k).set q (.int v) = slist (upd z (10 * k + q) v) k := by
  intro q hq h8
  rcases (show q = 0 ∨ q = 1 ∨ q = 2 ∨ q = 3 ∨ q = 4 ∨ q = 5 ∨ q = 6 ∨ q = 7 ∨ q = 9 by omega) with rfl | rfl | rfl | rfl | rfl | rfl | rfl | rfl | rfl <;> simp [slist, upd]
theorem slist_up8 (z : Zt) (k : Nat) (v : Int32) : (slist z k).set 8 (.int v) = slist (upd z (10 * k + 8) (-v)) k := by simp [slist, upd]
theorem ilist_up (z : Zt) (k : Nat) (v : Int32) : ∀ q, q < 5 → (ilist z k).set q (.int v) = ilist (upd z (160 + 5 * k + q) v) k := by
  intro q hq
  rcases (show q = 0 ∨ q = 1 ∨ q = 2 ∨ q = 3 ∨ q = 4 by omega) with rfl | rfl | rfl | rfl | rfl <;> simp [ilist, upd]
theorem tlist_up (z : Zt) (v : Int32) : ∀ q, q < 8 → (tlist z).set q (.int v) = tlist (upd z (195 + q) v) := by
  intro q hq
  rcases (show q = 0 ∨ q = 1 ∨ q = 2 ∨ q = 3 ∨ q = 4 ∨ q = 5 ∨ q = 6 ∨ q = 7 by omega) with rfl | rfl | rfl | rfl | rfl | rfl | rfl | rfl <;> simp [tlist, upd]
theorem G.putS (cx : Cx K p s m args meth c own cc nL ret) {index : Nat} (hd : decode cc pc = .ok (.putfield index, 3)) (q : Nat) {v : Int32} (hw : Cond.fieldLink own index (TX6 q).1 (TX6 q).2.1 (TX6 q).2.2.1 ∈ wsL_law) (hq : q < 10) (h8 : q ≠ 8) (hk : k < 16) (kk : G K p l e R s m args below meth c Q nL (bw K b (upd z (10 * k + q) v) V) sz cells slots (pc + 3) lv st) : G K p l e R s m args below meth c Q nL (bw K b z V) sz cells slots pc lv (.int v :: .ref (b + 2 + k) :: st) := by
  have e := slist_up z k v q hq h8
  have e2 := bwS (K := K) (b := b) (V := V) (n := 10 * k + q) (v := v) (z := z) hk ⟨by omega, by omega⟩ e
  rcases (show q = 0 ∨ q = 1 ∨ q = 2 ∨ q = 3 ∨ q = 4 ∨ q = 5 ∨ q = 6 ∨ q = 7 ∨ q = 9 by omega) with rfl | rfl | rfl | rfl | rfl | rfl | rfl | rfl | rfl
  · exact G.put cx 0 tyX6 tyX6_ok nmX6 hd hw inlX6 rfl (by decide) rfl rfl rfl rfl (bw_s hk) (by simp [slist]) rfl (G.cast e2 kk)
  · exact G.put cx 1 tyX6 tyX6_ok nmX6 hd hw inlX6 rfl (by decide) rfl rfl rfl rfl (bw_s hk) (by simp [slist]) rfl (G.cast e2 kk)
  · exact G.put cx 2 tyX6 tyX6_ok nmX6 hd hw inlX6 rfl (by decide) rfl rfl rfl rfl (bw_s hk) (by simp [slist]) rfl (G.cast e2 kk)
  · exact G.put cx 3 tyX6 tyX6_ok nmX6 hd hw inlX6 rfl (by decide) rfl rfl rfl rfl (bw_s hk) (by simp [slist]) rfl (G.cast e2 kk)
  · exact G.put cx 4 tyX6 tyX6_ok nmX6 hd hw inlX6 rfl (by decide) rfl rfl rfl rfl (bw_s hk) (by simp [slist]) rfl (G.cast e2 kk)
  · exact G.put cx 5 tyX6 tyX6_ok nmX6 hd hw inlX6 rfl (by decide) rfl rfl rfl rfl (bw_s hk) (by simp [slist]) rfl (G.cast e2 kk)
  · exact G.put cx 6 tyX6 tyX6_ok nmX6 hd hw inlX6 rfl (by decide) rfl rfl rfl rfl (bw_s hk) (by simp [slist]) rfl (G.cast e2 kk)
  · exact G.put cx 7 tyX6 tyX6_ok nmX6 hd hw inlX6 rfl (by decide) rfl rfl rfl rfl (bw_s hk) (by simp [slist]) rfl (G.cast e2 kk)
  · exact G.put cx 9 tyX6 tyX6_ok nmX6 hd hw inlX6 rfl (by decide) rfl rfl rfl rfl (bw_s hk) (by simp [slist]) rfl (G.cast e2 kk)
theorem G.putS8 (cx : Cx K p s m args meth c own cc nL ret) {index : Nat} (hd : decode cc pc = .ok (.putfield index, 3)) {v : Int32} (hw : Cond.fieldLink own index (TX6 8).1 (TX6 8).2.1 (TX6 8).2.2.1 ∈ wsL_law) (hk : k < 16) (kk : G K p l e R s m args below meth c Q nL (bw K b (upd z (10 * k + 8) (-v)) V) sz cells slots (pc + 3) lv st) : G K p l e R s m args below meth c Q nL (bw K b z V) sz cells slots pc lv (.int v :: .ref (b + 2 + k) :: st) :=
  G.put cx 8 tyX6 tyX6_ok nmX6 hd hw inlX6 rfl (by decide) rfl rfl rfl rfl (bw_s hk) (by simp [slist]) rfl (G.cast (bwS hk ⟨by omega, by omega⟩ (slist_up8 z k v)) kk)
theorem G.putI (cx : Cx K p s m args meth c own cc nL ret) {index : Nat} (hd : decode cc pc = .ok (.putfield index, 3)) (q : Nat) {v : Int32} (hw : Cond.fieldLink own index (TX3 q).1 (TX3 q).2.1 (TX3 q).2.2.1 ∈ wsL_law) (hq : q < 5) (hk : k < 6) (kk : G K p l e R s m args below meth c Q nL (bw K b (upd z (160 + 5 * k + q) v) V) sz cells slots (pc + 3) lv st) : G K p l e R s m args below meth c Q nL (bw K b z V) sz cells slots pc lv (.int v :: .ref (b + 19 + k) :: st) := by
  have e := ilist_up z k v q hq
  have e2 := bwI (K := K) (b := b) (V := V) (n := 160 + 5 * k + q) (v := v) (z := z) hk ⟨by omega, by omega⟩ e
  rcases (show q = 0 ∨ q = 1 ∨ q = 2 ∨ q = 3 ∨ q = 4 by omega) with rfl | rfl | rfl | rfl | rfl
  · exact G.put cx 0 tyX3 tyX3_ok nmX3 hd hw inlX3 rfl (by decide) rfl rfl rfl rfl (bw_i hk) (by simp [ilist]) rfl (G.cast e2 kk)
  · exact G.put cx 1 tyX3 tyX3_ok nmX3 hd hw inlX3 rfl (by decide) rfl rfl rfl rfl (bw_i hk) (by simp [ilist]) rfl (G.cast e2 kk)
  · exact G.put cx 2 tyX3 tyX3_ok nmX3 hd hw inlX3 rfl (by decide) rfl rfl rfl rfl (bw_i hk) (by simp [ilist]) rfl (G.cast e2 kk)
  · exact G.put cx 3 tyX3 tyX3_ok nmX3 hd hw inlX3 rfl (by decide) rfl rfl rfl rfl (bw_i hk) (by simp [ilist]) rfl (G.cast e2 kk)
  · exact G.put cx 4 tyX3 tyX3_ok nmX3 hd hw inlX3 rfl (by decide) rfl rfl rfl rfl (bw_i hk) (by simp [ilist]) rfl (G.cast e2 kk)
theorem G.putT (cx : Cx K p s m args meth c own cc nL ret) {index : Nat} (hd : decode cc pc = .ok (.putfield index, 3)) (q : Nat) {v : Int32} (hw : Cond.fieldLink own index (TX8 q).1 (TX8 q).2.1 (TX8 q).2.2.1 ∈ wsL_law) (hq : q < 8) (kk : G K p l e R s m args below meth c Q nL (bw K b (upd z (195 + q) v) V) sz cells slots (pc + 3) lv st) : G K p l e R s m args below meth c Q nL (bw K b z V) sz cells slots pc lv (.int v :: .ref (b + 30) :: st) := by
  have e := tlist_up z v q hq
  have e2 := bwT (K := K) (b := b) (V := V) (n := 195 + q) (v := v) (z := z) ⟨by omega, by omega⟩ e
  rcases (show q = 0 ∨ q = 1 ∨ q = 2 ∨ q = 3 ∨ q = 4 ∨ q = 5 ∨ q = 6 ∨ q = 7 by omega) with rfl | rfl | rfl | rfl | rfl | rfl | rfl | rfl
  · exact G.put cx 0 tyX8 tyX8_ok nmX8 hd hw inlX8 rfl (by decide) rfl rfl rfl rfl bw_t (by simp [tlist]) rfl (G.cast e2 kk)
  · exact G.put cx 1 tyX8 tyX8_ok nmX8 hd hw inlX8 rfl (by decide) rfl rfl rfl rfl bw_t (by simp [tlist]) rfl (G.cast e2 kk)
  · exact G.put cx 2 tyX8 tyX8_ok nmX8 hd hw inlX8 rfl (by decide) rfl rfl rfl rfl bw_t (by simp [tlist]) rfl (G.cast e2 kk)
  · exact G.put cx 3 tyX8 tyX8_ok nmX8 hd hw inlX8 rfl (by decide) rfl rfl rfl rfl bw_t (by simp [tlist]) rfl (G.cast e2 kk)
  · exact G.put cx 4 tyX8 tyX8_ok nmX8 hd hw inlX8 rfl (by decide) rfl rfl rfl rfl bw_t (by simp [tlist]) rfl (G.cast e2 kk)
  · exact G.put cx 5 tyX8 tyX8_ok nmX8 hd hw inlX8 rfl (by decide) rfl rfl rfl rfl bw_t (by simp [tlist]) rfl (G.cast e2 kk)
  · exact G.put cx 6 tyX8 tyX8_ok nmX8 hd hw inlX8 rfl (by decide) rfl rfl rfl rfl bw_t (by simp [tlist]) rfl (G.cast e2 kk)
  · exact G.put cx 7 tyX8 tyX8_ok nmX8 hd hw inlX8 rfl (by decide) rfl rfl rfl rfl bw_t (by simp [tlist]) rfl (G.cast e2 kk)
theorem G.putB5 (cx : Cx K p s m args meth c own cc nL ret) {index : Nat} (hd : decode cc pc = .ok (.putfield index, 3)) {v : Int32} (hw : Cond.fieldLink own index (TX0 5).1 (TX0 5).2.1 (TX0 5).2.2.1 ∈ wsL_law) (kk : G K p l e R s m args below meth c Q nL (bw K b (upd z 194 v) V) sz cells slots (pc + 3) lv st) : G K p l e R s m args below meth c Q nL (bw K b z V) sz cells slots pc lv (.int v :: .ref b :: st) :=
  G.put cx 5 tyX0 tyX0_ok nmX0 hd hw inlX0 rfl (by decide) rfl rfl rfl rfl bw_b (by simp [blist]) rfl (G.cast (bwB (n := 194) (v := v) ⟨by omega, by omega⟩ (by simp [blist, upd])) kk)
theorem G.putB6 (cx : Cx K p s m args meth c own cc nL ret) {index : Nat} (hd : decode cc pc = .ok (.putfield index, 3)) {v : Int32} (hw : Cond.fieldLink own index (TX0 6).1 (TX0 6).2.1 (TX0 6).2.2.1 ∈ wsL_law) (kk : G K p l e R s m args below meth c Q nL (bw K b (upd z 190 v) V) sz cells slots (pc + 3) lv st) : G K p l e R s m args below meth c Q nL (bw K b z V) sz cells slots pc lv (.int v :: .ref b :: st) :=
  G.put cx 6 tyX0 tyX0_ok nmX0 hd hw inlX0 rfl (by decide) rfl rfl rfl rfl bw_b (by simp [blist]) rfl (G.cast (bwB (n := 190) (v := v) ⟨by omega, by omega⟩ (by simp [blist, upd])) kk)
theorem G.putB7 (cx : Cx K p s m args meth c own cc nL ret) {index : Nat} (hd : decode cc pc = .ok (.putfield index, 3)) {v : Int32} (hw : Cond.fieldLink own index (TX0 7).1 (TX0 7).2.1 (TX0 7).2.2.1 ∈ wsL_law) (kk : G K p l e R s m args below meth c Q nL (bw K b (upd z 192 v) V) sz cells slots (pc + 3) lv st) : G K p l e R s m args below meth c Q nL (bw K b z V) sz cells slots pc lv (.int v :: .ref b :: st) :=
  G.put cx 7 tyX0 tyX0_ok nmX0 hd hw inlX0 rfl (by decide) rfl rfl rfl rfl bw_b (by simp [blist]) rfl (G.cast (bwB (n := 192) (v := v) ⟨by omega, by omega⟩ (by simp [blist, upd])) kk)
theorem G.putB8 (cx : Cx K p s m args meth c own cc nL ret) {index : Nat} (hd : decode cc pc = .ok (.putfield index, 3)) {v : Int32} (hw : Cond.fieldLink own index (TX0 8).1 (TX0 8).2.1 (TX0 8).2.2.1 ∈ wsL_law) (kk : G K p l e R s m args below meth c Q nL (bw K b (upd z 193 v) V) sz cells slots (pc + 3) lv st) : G K p l e R s m args below meth c Q nL (bw K b z V) sz cells slots pc lv (.int v :: .ref b :: st) :=
  G.put cx 8 tyX0 tyX0_ok nmX0 hd hw inlX0 rfl (by decide) rfl rfl rfl rfl bw_b (by simp [blist]) rfl (G.cast (bwB (n := 193) (v := v) ⟨by omega, by omega⟩ (by simp [blist, upd])) kk)
theorem G.putBz (cx : Cx K p s m args meth c own cc nL ret) {index : Nat} (hd : decode cc pc = .ok (.putfield index, 3)) {v : Int32} (hw : Cond.fieldLink own index (TX0 9).1 (TX0 9).2.1 (TX0 9).2.2.1 ∈ wsL_law) (hfit : fits .boolean (.int v) = true) (hn : narrow .boolean (.int v) = .int v) (kk : G K p l e R s m args below meth c Q nL (bw K b (upd z 191 v) V) sz cells slots (pc + 3) lv st) : G K p l e R s m args below meth c Q nL (bw K b z V) sz cells slots pc lv (.int v :: .ref b :: st) :=
  G.put cx 9 tyX0 tyX0_ok nmX0 hd hw inlX0 rfl (by decide) rfl rfl hn hfit bw_b (by simp [blist]) rfl (G.cast (bwB (n := 191) (v := v) ⟨by omega, by omega⟩ (by simp [blist, upd])) kk)
theorem G.putE (cx : Cx K p s m args meth c own cc nL ret) {index : Nat} (hd : decode cc pc = .ok (.putfield index, 3)) {v : Int32} (hw : Cond.fieldLink own index (TX1 3).1 (TX1 3).2.1 (TX1 3).2.2.1 ∈ wsL_law) (kk : G K p l e R s m args below meth c Q nL (bw K b (upd z 206 v) V) sz cells slots (pc + 3) lv st) : G K p l e R s m args below meth c Q nL (bw K b z V) sz cells slots pc lv (.int v :: .ref (b + 26) :: st) :=
  G.put cx 3 tyX1 tyX1_ok nmX1 hd hw inlX1 rfl (by decide) rfl rfl rfl rfl bw_e (by simp [elist]) rfl (G.cast (bwE (v := v) (by simp [elist, upd])) kk)
theorem mlist_up (g : Zt) (v : Int32) : ∀ q j, (q = 3 ∧ j = 0) ∨ (q = 5 ∧ j = 1) ∨ (q = 6 ∧ j = 2) ∨ (q = 8 ∧ j = 3) ∨ (q = 9 ∧ j = 4) ∨ (q = 10 ∧ j = 5) ∨ (q = 11 ∧ j = 6) ∨ (q = 12 ∧ j = 7) → (mlist mc g).set q (.int v) = mlist mc (upd g j v) := by
  intro q j h
  rcases h with ⟨rfl, rfl⟩ | ⟨rfl, rfl⟩ | ⟨rfl, rfl⟩ | ⟨rfl, rfl⟩ | ⟨rfl, rfl⟩ | ⟨rfl, rfl⟩ | ⟨rfl, rfl⟩ | ⟨rfl, rfl⟩ <;> simp [mlist, upd]
theorem G.putM (cx : Cx K p s m args meth c own cc nL ret) {index : Nat} (hd : decode cc pc = .ok (.putfield index, 3)) (q j : Nat) {v : Int32} (hw : Cond.fieldLink own index (TX10 q).1 (TX10 q).2.1 (TX10 q).2.2.1 ∈ wsL_law) (hj : (q = 3 ∧ j = 0) ∨ (q = 5 ∧ j = 1) ∨ (q = 6 ∧ j = 2) ∨ (q = 8 ∧ j = 3) ∨ (q = 9 ∧ j = 4) ∨ (q = 10 ∧ j = 5) ∨ (q = 11 ∧ j = 6) ∨ (q = 12 ∧ j = 7)) (_h : True = True) (kk : G K p l e R s m args below meth c Q nL (mw K mc z (r.1, r.2.1, r.2.2.1, r.2.2.2.1, upd r.2.2.2.2 j v) V) sz cells slots (pc + 3) lv st) : G K p l e R s m args below meth c Q nL (mw K mc z r V) sz cells slots pc lv (.int v :: .ref mc :: st) := by
  have e := mlist_up (mc := mc) r.2.2.2.2 v q j hj
  have e2 := mwG (K := K) (c := mc) (z := z) (r := r) (V := V) e
  rcases hj with ⟨rfl, rfl⟩ | ⟨rfl, rfl⟩ | ⟨rfl, rfl⟩ | ⟨rfl, rfl⟩ | ⟨rfl, rfl⟩ | ⟨rfl, rfl⟩ | ⟨rfl, rfl⟩ | ⟨rfl, rfl⟩
  · exact G.put cx 3 tyX10 tyX10_ok nmX10 hd hw inlX10 rfl (by decide) rfl rfl rfl rfl mw_m (by simp [mlist]) rfl (G.cast e2 kk)
  · exact G.put cx 5 tyX10 tyX10_ok nmX10 hd hw inlX10 rfl (by decide) rfl rfl rfl rfl mw_m (by simp [mlist]) rfl (G.cast e2 kk)
  · exact G.put cx 6 tyX10 tyX10_ok nmX10 hd hw inlX10 rfl (by decide) rfl rfl rfl rfl mw_m (by simp [mlist]) rfl (G.cast e2 kk)
  · exact G.put cx 8 tyX10 tyX10_ok nmX10 hd hw inlX10 rfl (by decide) rfl rfl rfl rfl mw_m (by simp [mlist]) rfl (G.cast e2 kk)
  · exact G.put cx 9 tyX10 tyX10_ok nmX10 hd hw inlX10 rfl (by decide) rfl rfl rfl rfl mw_m (by simp [mlist]) rfl (G.cast e2 kk)
  · exact G.put cx 10 tyX10 tyX10_ok nmX10 hd hw inlX10 rfl (by decide) rfl rfl rfl rfl mw_m (by simp [mlist]) rfl (G.cast e2 kk)
  · exact G.put cx 11 tyX10 tyX10_ok nmX10 hd hw inlX10 rfl (by decide) rfl rfl rfl rfl mw_m (by simp [mlist]) rfl (G.cast e2 kk)
  · exact G.put cx 12 tyX10 tyX10_ok nmX10 hd hw inlX10 rfl (by decide) rfl rfl rfl rfl mw_m (by simp [mlist]) rfl (G.cast e2 kk)
theorem G.iaddN (cx : Cx K p s m args meth c own cc nL ret) (hd : decode cc pc = .ok (.iadd, 1)) (x y : Nat) (kk : G K p l e R s m args below meth c Q nL V sz cells slots (pc + 1) lv (.int (nI (x + y)) :: st)) : G K p l e R s m args below meth c Q nL V sz cells slots pc lv (.int (nI y) :: .int (nI x) :: st) := G.iadd cx hd (by rw [nI_add]; exact kk)
theorem G.imulN (cx : Cx K p s m args meth c own cc nL ret) (hd : decode cc pc = .ok (.imul, 1)) (x y : Nat) (kk : G K p l e R s m args below meth c Q nL V sz cells slots (pc + 1) lv (.int (nI (x * y)) :: st)) : G K p l e R s m args below meth c Q nL V sz cells slots pc lv (.int (nI y) :: .int (nI x) :: st) := G.imul cx hd (by rw [pk_mul]; exact kk)
theorem G.if_eqB (cx : Cx K p s m args meth c own cc nL ret) {P : Prop} [Decidable P] {off : Int} {tgt : Nat} (hd : decode cc pc = .ok (.ifCond .eq off, 3)) (ht : (pc : Int) + off = (tgt : Int)) (kt : ¬ P → G K p l e R s m args below meth c Q nL V sz cells slots tgt lv st) (kf : P → G K p l e R s m args below meth c Q nL V sz cells slots (pc + 3) lv st) : G K p l e R s m args below meth c Q nL V sz cells slots pc lv (.int (b2 P) :: st) := G.if_eq cx hd ht (fun h => kt (b2_eq0.mp h)) (fun h => kf (b2_ne0.mp h))
theorem G.if_neB (cx : Cx K p s m args meth c own cc nL ret) {P : Prop} [Decidable P] {off : Int} {tgt : Nat} (hd : decode cc pc = .ok (.ifCond .ne off, 3)) (ht : (pc : Int) + off = (tgt : Int)) (kt : P → G K p l e R s m args below meth c Q nL V sz cells slots tgt lv st) (kf : ¬ P → G K p l e R s m args below meth c Q nL V sz cells slots (pc + 3) lv st) : G K p l e R s m args below meth c Q nL V sz cells slots pc lv (.int (b2 P) :: st) := G.if_ne cx hd ht (fun h => kt (b2_ne0.mp h)) (fun h => kf (b2_eq0.mp h))
theorem G.iastV (cx : Cx K p s m args meth c own cc nL ret) {a n : Nat} {f : Nat → Int32} {i x : Int32} {V2 : VW} (hd : decode cc pc = .ok (.iastore, 1)) (hV : V a = some (.inl (K.2.1 0, n, .inl f))) {j : Nat} (hi : i = nI j) (hj : j < n) (hn : n < 2 ^ 31) (he9 : vset V a (.inl (K.2.1 0, n, .inl (upd f j x))) = V2) (kk : G K p l e R s m args below meth c Q nL V2 sz cells slots (pc + 1) lv st) : G K p l e R s m args below meth c Q nL V sz cells slots pc lv (.int x :: .int i :: .ref a :: st) := G.iast cx hd hV hi hj hn (G.cast he9 kk)
theorem G.aaldV (cx : Cx K p s m args meth c own cc nL ret) {C : String} {a n j : Nat} {f : Nat → Option Nat} {i : Int32} (hd : decode cc pc = .ok (.aaload, 1)) (t : Nat) (ht : (tysK K)[t]? = some (K.2.1 t, .object C)) (hV : V a = some (.inl (K.2.1 t, n, .inr (.inr (.inr (.inr f)))))) (hi : i = nI j) (hj : j < n) (hn : n < 2 ^ 31) {x : Nat} (hx : f j = some x := by rfl) (kk : G K p l e R s m args below meth c Q nL V sz cells slots (pc + 1) lv (.ref x :: st)) : G K p l e R s m args below meth c Q nL V sz cells slots pc lv (.int i :: .ref a :: st) := G.aald cx t ht hd hV hi hj hn (by rw [hx]; exact kk)
theorem G.alenV (cx : Cx K p s m args meth c own cc nL ret) {ty : FieldType} {a : Nat} {x : vp_A} {v : Int32} (hd : decode cc pc = .ok (.arraylength, 1)) (t : Nat) (ht : (tysK K)[t]? = some (K.2.1 t, ty)) (hV : V a = some (.inl (K.2.1 t, x))) (hv9 : Int32.ofNat x.1 = v) (kk : G K p l e R s m args below meth c Q nL V sz cells slots (pc + 1) lv (.int v :: st)) : G K p l e R s m args below meth c Q nL V sz cells slots pc lv (.ref a :: st) := G.alen cx t ht hd hV hv9 kk
theorem G.callV0 {y : MethodName} {cc2 : ByteArray} {maxL d index : Nat} {ret2 : Option FieldType} {As rest st0 st1 : List Value} {rv : Option Value} {V2 : VW} {bb : Nat} (cx : Cx K p s m args meth c own cc nL ret) {T : u_T} {N ci : Nat} {fs : List Value} (hM : Ct l K y cc2 maxL ret2 d (.ref bb :: As) V sz rv V2 sz 0 0) (ok : okV y cc2 maxL ret2 As.length) (hd : decode cc pc = .ok (.invokevirtual index, 3)) (hw : Cond.methodLink own index y ∈ wsL_law) (hc : vwCl[ci]? = some (y.cls, T, N)) (hV : V bb = some (.inr (ci, fs))) (hst : st0 = As.reverse ++ .ref bb :: rest) (h_ : True = True) (hrest : (rest.map fun v => v.category).sum ≤ 8) (hR : d + 1 ≤ R.frames ∧ 8 + (maxL + 11) + 30 * d ≤ R.locals) (hs : rv.toList ++ rest = st1) (kk : G K p l e R s m args below meth c Q nL V2 sz 0 0 (pc + 3) lv st1) : G K p l e R s m args below meth c Q nL V sz 0 0 pc lv st0 := by
  subst hs
  exact G.callV cx hM ok hd hw hc rfl hV hst hrest (Nat.le_refl _) hR ⟨Nat.zero_le _, Nat.zero_le _⟩ kk
theorem G.callS0 {y : MethodName} {cc2 : ByteArray} {maxL d index : Nat} {ret2 : Option FieldType} {As rest st0 st1 : List Value} {rv : Option Value} {V2 : VW} (cx : Cx K p s m args meth c own cc nL ret) (hM : Ct l K y cc2 maxL ret2 d As V sz rv V2 sz 0 0) (ok : okS y cc2 maxL ret2 As.length) (hd : decode cc pc = .ok (.invokestatic index, 3)) (hw : Cond.methodLink own index y ∈ wsL_law) (hst : st0 = As.reverse ++ rest) (hCy : y.cls = own) (hrest : (rest.map fun v => v.category).sum ≤ 8) (hR : d + 1 ≤ R.frames ∧ 8 + (maxL + 11) + 30 * d ≤ R.locals) (hs : rv.toList ++ rest = st1) (kk : G K p l e R s m args below meth c Q nL V2 sz 0 0 (pc + 3) lv st1) : G K p l e R s m args below meth c Q nL V sz 0 0 pc lv st0 := by
  subst hs
  exact G.callS cx hM ok hd hw hCy hst hrest (Nat.le_refl _) hR ⟨Nat.zero_le _, Nat.zero_le _⟩ kk
theorem G.callSN0 {y : MethodName} {cc2 : ByteArray} {maxL d index : Nat} {ret2 : Option FieldType} {As rest st0 st1 : List Value} {rv : Option Value} {V2 : VW} (cx : Cx K p s m args meth c own cc nL ret) (hM : Ct l K y cc2 maxL ret2 d As V sz rv V2 sz 0 0) (ok : okS y cc2 maxL ret2 As.length) (hd : decode cc pc = .ok (.invokestatic index, 3)) (hw : (own, index, y) ∈ nestM) (hst : st0 = As.reverse ++ rest) (hrest : (rest.map fun v => v.category).sum ≤ 8) (hR : d + 1 ≤ R.frames ∧ 8 + (maxL + 11) + 30 * d ≤ R.locals) (hs : rv.toList ++ rest = st1) (kk : G K p l e R s m args below meth c Q nL V2 sz 0 0 (pc + 3) lv st1) : G K p l e R s m args below meth c Q nL V sz 0 0 pc lv st0 := by
  subst hs
  exact G.callSN cx hM ok hd hw hst hrest (Nat.le_refl _) hR ⟨Nat.zero_le _, Nat.zero_le _⟩ kk
end Rows2
theorem ok_X0_advanceTo : okV yX0_advanceTo cX0_advanceTo 4 (some .int) 2 := ⟨⟨wm_im_X0_advanceTo, wm_se_X0_advanceTo⟩, ⟨wm_in_X0, wm_co_X0_advanceTo, by decide, by decide, by decide +kernel⟩⟩
theorem ok_X0_buyForChest : okV yX0_buyForChest cX0_buyForChest 5 (some .int) 3 := ⟨⟨wm_im_X0_buyForChest, wm_se_X0_buyForChest⟩, ⟨wm_in_X0, wm_co_X0_buyForChest, by decide, by decide, by decide +kernel⟩⟩
theorem ok_X0_changeSetting : okV yX0_changeSetting cX0_changeSetting 4 (some .int) 2 := ⟨⟨wm_im_X0_changeSetting, wm_se_X0_changeSetting⟩, ⟨wm_in_X0, wm_co_X0_changeSetting, by decide, by decide, by decide +kernel⟩⟩
theorem ok_X0_chargeFine : okV yX0_chargeFine cX0_chargeFine 4 none 3 := ⟨⟨wm_im_X0_chargeFine, wm_se_X0_chargeFine⟩, ⟨wm_in_X0, wm_co_X0_chargeFine, by decide, by decide, by decide +kernel⟩⟩
theorem ok_X0_chargedShare : okV yX0_chargedShare cX0_chargedShare 4 (some .int) 0 := ⟨⟨wm_im_X0_chargedShare, wm_se_X0_chargedShare⟩, ⟨wm_in_X0, wm_co_X0_chargedShare, by decide, by decide, by decide +kernel⟩⟩
theorem ok_X0_comeBack : okV yX0_comeBack cX0_comeBack 5 (some .int) 2 := ⟨⟨wm_im_X0_comeBack, wm_se_X0_comeBack⟩, ⟨wm_in_X0, wm_co_X0_comeBack, by decide, by decide, by decide +kernel⟩⟩
theorem ok_X0_comeIntoPort : okV yX0_comeIntoPort cX0_comeIntoPort 1 (some .int) 0 := ⟨⟨wm_im_X0_comeIntoPort, wm_se_X0_comeIntoPort⟩, ⟨wm_in_X0, wm_co_X0_comeIntoPort, by decide, by decide, by decide +kernel⟩⟩
theorem ok_X0_copyFrom : okV yX0_copyFrom cX0_copyFrom 3 none 1 := ⟨⟨wm_im_X0_copyFrom, wm_se_X0_copyFrom⟩, ⟨wm_in_X0, wm_co_X0_copyFrom, by decide, by decide, by decide +kernel⟩⟩
theorem ok_X0_couldAllBeFined : okV yX0_couldAllBeFined cX0_couldAllBeFined 6 (some .boolean) 3 := ⟨⟨wm_im_X0_couldAllBeFined, wm_se_X0_couldAllBeFined⟩, ⟨wm_in_X0, wm_co_X0_couldAllBeFined, by decide, by decide, by decide +kernel⟩⟩
theorem ok_X0_couldBuy : okV yX0_couldBuy cX0_couldBuy 6 (some .int) 2 := ⟨⟨wm_im_X0_couldBuy, wm_se_X0_couldBuy⟩, ⟨wm_in_X0, wm_co_X0_couldBuy, by decide, by decide, by decide +kernel⟩⟩
theorem ok_X0_daysUntilClear : okV yX0_daysUntilClear cX0_daysUntilClear 5 (some .int) 1 := ⟨⟨wm_im_X0_daysUntilClear, wm_se_X0_daysUntilClear⟩, ⟨wm_in_X0, wm_co_X0_daysUntilClear, by decide, by decide, by decide +kernel⟩⟩
theorem ok_X0_debtsTogether : okV yX0_debtsTogether cX0_debtsTogether 3 (some .int) 0 := ⟨⟨wm_im_X0_debtsTogether, wm_se_X0_debtsTogether⟩, ⟨wm_in_X0, wm_co_X0_debtsTogether, by decide, by decide, by decide +kernel⟩⟩
theorem ok_X0_endVoyage : okV yX0_endVoyage cX0_endVoyage 4 (some .int) 0 := ⟨⟨wm_im_X0_endVoyage, wm_se_X0_endVoyage⟩, ⟨wm_in_X0, wm_co_X0_endVoyage, by decide, by decide, by decide +kernel⟩⟩
theorem ok_X0_findItem : okV yX0_findItem cX0_findItem 2 (some (.object "PurserLedgers$Item")) 1 := ⟨⟨wm_im_X0_findItem, wm_se_X0_findItem⟩, ⟨wm_in_X0, wm_co_X0_findItem, by decide, by decide, by decide +kernel⟩⟩
theorem ok_X0_findSailor : okV yX0_findSailor cX0_findSailor 2 (some (.object "PurserLedgers$Sailor")) 1 := ⟨⟨wm_im_X0_findSailor, wm_se_X0_findSailor⟩, ⟨wm_in_X0, wm_co_X0_findSailor, by decide, by decide, by decide +kernel⟩⟩
theorem ok_X0_fineAll : okV yX0_fineAll cX0_fineAll 7 (some .int) 2 := ⟨⟨wm_im_X0_fineAll, wm_se_X0_fineAll⟩, ⟨wm_in_X0, wm_co_X0_fineAll, by decide, by decide, by decide +kernel⟩⟩
theorem ok_X0_fineOne : okV yX0_fineOne cX0_fineOne 4 (some .int) 2 := ⟨⟨wm_im_X0_fineOne, wm_se_X0_fineOne⟩, ⟨wm_in_X0, wm_co_X0_fineOne, by decide, by decide, by decide +kernel⟩⟩
theorem ok_X0_init : okI yX0_init cX0_init 2 0 := ⟨⟨wm_im_X0_init, rfl⟩, ⟨wm_in_X0, wm_co_X0_init, by decide, by decide, by decide +kernel⟩⟩
theorem ok_X0_letAshore : okV yX0_letAshore cX0_letAshore 4 (some .int) 1 := ⟨⟨wm_im_X0_letAshore, wm_se_X0_letAshore⟩, ⟨wm_in_X0, wm_co_X0_letAshore, by decide, by decide, by decide +kernel⟩⟩
theorem ok_X0_passDays : okV yX0_passDays cX0_passDays 3 (some .int) 1 := ⟨⟨wm_im_X0_passDays, wm_se_X0_passDays⟩, ⟨wm_in_X0, wm_co_X0_passDays, by decide, by decide, by decide +kernel⟩⟩
theorem ok_X0_payTo : okV yX0_payTo cX0_payTo 4 none 3 := ⟨⟨wm_im_X0_payTo, wm_se_X0_payTo⟩, ⟨wm_in_X0, wm_co_X0_payTo, by decide, by decide, by decide +kernel⟩⟩
theorem ok_X0_poorerThan : okV yX0_poorerThan cX0_poorerThan 6 (some .int) 2 := ⟨⟨wm_im_X0_poorerThan, wm_se_X0_poorerThan⟩, ⟨wm_in_X0, wm_co_X0_poorerThan, by decide, by decide, by decide +kernel⟩⟩
theorem ok_X0_putToSea : okV yX0_putToSea cX0_putToSea 3 (some .int) 0 := ⟨⟨wm_im_X0_putToSea, wm_se_X0_putToSea⟩, ⟨wm_in_X0, wm_co_X0_putToSea, by decide, by decide, by decide +kernel⟩⟩
theorem ok_X0_reasonAgainst : okV yX0_reasonAgainst cX0_reasonAgainst 4 (some .int) 3 := ⟨⟨wm_im_X0_reasonAgainst, wm_se_X0_reasonAgainst⟩, ⟨wm_in_X0, wm_co_X0_reasonAgainst, by decide, by decide, by decide +kernel⟩⟩
theorem ok_X0_reasonNotToSell : okV yX0_reasonNotToSell cX0_reasonNotToSell 6 (some .int) 3 := ⟨⟨wm_im_X0_reasonNotToSell, wm_se_X0_reasonNotToSell⟩, ⟨wm_in_X0, wm_co_X0_reasonNotToSell, by decide, by decide, by decide +kernel⟩⟩
theorem ok_X0_sailorByBalance : okV yX0_sailorByBalance cX0_sailorByBalance 3 (some .int) 1 := ⟨⟨wm_im_X0_sailorByBalance, wm_se_X0_sailorByBalance⟩, ⟨wm_in_X0, wm_co_X0_sailorByBalance, by decide, by decide, by decide +kernel⟩⟩
theorem ok_X0_sellFromChest : okV yX0_sellFromChest cX0_sellFromChest 7 (some .int) 3 := ⟨⟨wm_im_X0_sellFromChest, wm_se_X0_sellFromChest⟩, ⟨wm_in_X0, wm_co_X0_sellFromChest, by decide, by decide, by decide +kernel⟩⟩
theorem ok_X0_sendAway : okV yX0_sendAway cX0_sendAway 4 (some .int) 1 := ⟨⟨wm_im_X0_sendAway, wm_se_X0_sendAway⟩, ⟨wm_in_X0, wm_co_X0_sendAway, by decide, by decide, by decide +kernel⟩⟩
theorem ok_X0_setOf : okV yX0_setOf cX0_setOf 4 (some .int) 1 := ⟨⟨wm_im_X0_setOf, wm_se_X0_setOf⟩, ⟨wm_in_X0, wm_co_X0_setOf, by decide, by decide, by decide +kernel⟩⟩
theorem ok_X0_setOfDebtors : okV yX0_setOfDebtors cX0_setOfDebtors 3 (some .int) 0 := ⟨⟨wm_im_X0_setOfDebtors, wm_se_X0_setOfDebtors⟩, ⟨wm_in_X0, wm_co_X0_setOfDebtors, by decide, by decide, by decide +kernel⟩⟩
theorem ok_X0_setting : okV yX0_setting cX0_setting 2 (some .int) 1 := ⟨⟨wm_im_X0_setting, wm_se_X0_setting⟩, ⟨wm_in_X0, wm_co_X0_setting, by decide, by decide, by decide +kernel⟩⟩
theorem ok_X0_signOn : okV yX0_signOn cX0_signOn 4 (some .int) 2 := ⟨⟨wm_im_X0_signOn, wm_se_X0_signOn⟩, ⟨wm_in_X0, wm_co_X0_signOn, by decide, by decide, by decide +kernel⟩⟩
theorem ok_X0_sizeOfWatch : okV yX0_sizeOfWatch cX0_sizeOfWatch 4 (some .int) 1 := ⟨⟨wm_im_X0_sizeOfWatch, wm_se_X0_sizeOfWatch⟩, ⟨wm_in_X0, wm_co_X0_sizeOfWatch, by decide, by decide, by decide +kernel⟩⟩
theorem ok_X0_tell : okV yX0_tell cX0_tell 2 (some .int) 1 := ⟨⟨wm_im_X0_tell, wm_se_X0_tell⟩, ⟨wm_in_X0, wm_co_X0_tell, by decide, by decide, by decide +kernel⟩⟩
theorem ok_X0_tellCoins : okV yX0_tellCoins cX0_tellCoins 2 (some .int) 1 := ⟨⟨wm_im_X0_tellCoins, wm_se_X0_tellCoins⟩, ⟨wm_in_X0, wm_co_X0_tellCoins, by decide, by decide, by decide +kernel⟩⟩
theorem ok_X0_tellPayingOff : okV yX0_tellPayingOff cX0_tellPayingOff 2 (some .int) 1 := ⟨⟨wm_im_X0_tellPayingOff, wm_se_X0_tellPayingOff⟩, ⟨wm_in_X0, wm_co_X0_tellPayingOff, by decide, by decide, by decide +kernel⟩⟩
theorem ok_X0_wouldBePaid : okV yX0_wouldBePaid cX0_wouldBePaid 3 (some .int) 0 := ⟨⟨wm_im_X0_wouldBePaid, wm_se_X0_wouldBePaid⟩, ⟨wm_in_X0, wm_co_X0_wouldBePaid, by decide, by decide, by decide +kernel⟩⟩
theorem ok_X10_aboardOf : okV yX10_aboardOf cX10_aboardOf 4 (some .int) 1 := ⟨⟨wm_im_X10_aboardOf, wm_se_X10_aboardOf⟩, ⟨wm_in_X10, wm_co_X10_aboardOf, by decide, by decide, by decide +kernel⟩⟩
theorem ok_X10_advance : okV yX10_advance cX10_advance 4 (some .int) 2 := ⟨⟨wm_im_X10_advance, wm_se_X10_advance⟩, ⟨wm_in_X10, wm_co_X10_advance, by decide, by decide, by decide +kernel⟩⟩
theorem ok_X10_at : okV yX10_at cX10_at 2 (some .int) 1 := ⟨⟨wm_im_X10_at, wm_se_X10_at⟩, ⟨wm_in_X10, wm_co_X10_at, by decide, by decide, by decide +kernel⟩⟩
theorem ok_X10_back : okV yX10_back cX10_back 4 (some .int) 2 := ⟨⟨wm_im_X10_back, wm_se_X10_back⟩, ⟨wm_in_X10, wm_co_X10_back, by decide, by decide, by decide +kernel⟩⟩
theorem ok_X10_balance : okV yX10_balance cX10_balance 2 (some .int) 1 := ⟨⟨wm_im_X10_balance, wm_se_X10_balance⟩, ⟨wm_in_X10, wm_co_X10_balance, by decide, by decide, by decide +kernel⟩⟩
theorem ok_X10_book : okV yX10_book cX10_book 3 (some .int) 2 := ⟨⟨wm_im_X10_book, wm_se_X10_book⟩, ⟨wm_in_X10, wm_co_X10_book, by decide, by decide, by decide +kernel⟩⟩
theorem ok_X10_charge : okV yX10_charge cX10_charge 4 none 3 := ⟨⟨wm_im_X10_charge, wm_se_X10_charge⟩, ⟨wm_in_X10, wm_co_X10_charge, by decide, by decide, by decide +kernel⟩⟩
theorem ok_X10_charged : okV yX10_charged cX10_charged 2 (some .int) 1 := ⟨⟨wm_im_X10_charged, wm_se_X10_charged⟩, ⟨wm_in_X10, wm_co_X10_charged, by decide, by decide, by decide +kernel⟩⟩
theorem ok_X10_clear : okV yX10_clear cX10_clear 3 none 1 := ⟨⟨wm_im_X10_clear, wm_se_X10_clear⟩, ⟨wm_in_X10, wm_co_X10_clear, by decide, by decide, by decide +kernel⟩⟩
theorem ok_X10_clearIn : okV yX10_clearIn cX10_clearIn 7 (some .int) 1 := ⟨⟨wm_im_X10_clearIn, wm_se_X10_clearIn⟩, ⟨wm_in_X10, wm_co_X10_clearIn, by decide, by decide, by decide +kernel⟩⟩
theorem ok_X10_clearText : okV yX10_clearText cX10_clearText 2 (some .int) 0 := ⟨⟨wm_im_X10_clearText, wm_se_X10_clearText⟩, ⟨wm_in_X10, wm_co_X10_clearText, by decide, by decide, by decide +kernel⟩⟩
theorem ok_X10_count : okV yX10_count cX10_count 2 (some .int) 1 := ⟨⟨wm_im_X10_count, wm_se_X10_count⟩, ⟨wm_in_X10, wm_co_X10_count, by decide, by decide, by decide +kernel⟩⟩
theorem ok_X10_days : okV yX10_days cX10_days 3 (some .int) 1 := ⟨⟨wm_im_X10_days, wm_se_X10_days⟩, ⟨wm_in_X10, wm_co_X10_days, by decide, by decide, by decide +kernel⟩⟩
theorem ok_X10_dismiss : okV yX10_dismiss cX10_dismiss 3 (some .int) 1 := ⟨⟨wm_im_X10_dismiss, wm_se_X10_dismiss⟩, ⟨wm_in_X10, wm_co_X10_dismiss, by decide, by decide, by decide +kernel⟩⟩
theorem ok_X10_doAdvance : okV yX10_doAdvance cX10_doAdvance 3 (some .int) 2 := ⟨⟨wm_im_X10_doAdvance, wm_se_X10_doAdvance⟩, ⟨wm_in_X10, wm_co_X10_doAdvance, by decide, by decide, by decide +kernel⟩⟩
theorem ok_X10_doBack : okV yX10_doBack cX10_doBack 3 (some .int) 2 := ⟨⟨wm_im_X10_doBack, wm_se_X10_doBack⟩, ⟨wm_in_X10, wm_co_X10_doBack, by decide, by decide, by decide +kernel⟩⟩
theorem ok_X10_doDays : okV yX10_doDays cX10_doDays 4 (some .int) 1 := ⟨⟨wm_im_X10_doDays, wm_se_X10_doDays⟩, ⟨wm_in_X10, wm_co_X10_doDays, by decide, by decide, by decide +kernel⟩⟩
theorem ok_X10_doFine : okV yX10_doFine cX10_doFine 3 (some .int) 2 := ⟨⟨wm_im_X10_doFine, wm_se_X10_doFine⟩, ⟨wm_in_X10, wm_co_X10_doFine, by decide, by decide, by decide +kernel⟩⟩
theorem ok_X10_doLeave : okV yX10_doLeave cX10_doLeave 4 (some .int) 1 := ⟨⟨wm_im_X10_doLeave, wm_se_X10_doLeave⟩, ⟨wm_in_X10, wm_co_X10_doLeave, by decide, by decide, by decide +kernel⟩⟩
theorem ok_X10_doOrder : okV yX10_doOrder cX10_doOrder 1 (some .int) 0 := ⟨⟨wm_im_X10_doOrder, wm_se_X10_doOrder⟩, ⟨wm_in_X10, wm_co_X10_doOrder, by decide, by decide, by decide +kernel⟩⟩
theorem ok_X10_doPayOff : okV yX10_doPayOff cX10_doPayOff 4 (some .int) 0 := ⟨⟨wm_im_X10_doPayOff, wm_se_X10_doPayOff⟩, ⟨wm_in_X10, wm_co_X10_doPayOff, by decide, by decide, by decide +kernel⟩⟩
theorem ok_X10_doPort : okV yX10_doPort cX10_doPort 1 (some .int) 0 := ⟨⟨wm_im_X10_doPort, wm_se_X10_doPort⟩, ⟨wm_in_X10, wm_co_X10_doPort, by decide, by decide, by decide +kernel⟩⟩
theorem ok_X10_doSail : okV yX10_doSail cX10_doSail 3 (some .int) 0 := ⟨⟨wm_im_X10_doSail, wm_se_X10_doSail⟩, ⟨wm_in_X10, wm_co_X10_doSail, by decide, by decide, by decide +kernel⟩⟩
theorem ok_X10_doSell : okV yX10_doSell cX10_doSell 6 (some .int) 3 := ⟨⟨wm_im_X10_doSell, wm_se_X10_doSell⟩, ⟨wm_in_X10, wm_co_X10_doSell, by decide, by decide, by decide +kernel⟩⟩
theorem ok_X10_doSign : okV yX10_doSign cX10_doSign 4 (some .int) 2 := ⟨⟨wm_im_X10_doSign, wm_se_X10_doSign⟩, ⟨wm_in_X10, wm_co_X10_doSign, by decide, by decide, by decide +kernel⟩⟩
theorem ok_X10_doStock : okV yX10_doStock cX10_doStock 5 (some .int) 3 := ⟨⟨wm_im_X10_doStock, wm_se_X10_doStock⟩, ⟨wm_in_X10, wm_co_X10_doStock, by decide, by decide, by decide +kernel⟩⟩
theorem ok_X10_doText : okV yX10_doText cX10_doText 3 (some .boolean) 0 := ⟨⟨wm_im_X10_doText, wm_se_X10_doText⟩, ⟨wm_in_X10, wm_co_X10_doText, by decide, by decide, by decide +kernel⟩⟩
theorem ok_X10_earned : okV yX10_earned cX10_earned 2 (some .int) 1 := ⟨⟨wm_im_X10_earned, wm_se_X10_earned⟩, ⟨wm_in_X10, wm_co_X10_earned, by decide, by decide, by decide +kernel⟩⟩
theorem ok_X10_fault : okV yX10_fault cX10_fault 3 (some .int) 1 := ⟨⟨wm_im_X10_fault, wm_se_X10_fault⟩, ⟨wm_in_X10, wm_co_X10_fault, by decide, by decide, by decide +kernel⟩⟩
theorem ok_X10_fine : okV yX10_fine cX10_fine 4 (some .int) 2 := ⟨⟨wm_im_X10_fine, wm_se_X10_fine⟩, ⟨wm_in_X10, wm_co_X10_fine, by decide, by decide, by decide +kernel⟩⟩
theorem ok_X10_fineWatch : okV yX10_fineWatch cX10_fineWatch 6 (some .int) 2 := ⟨⟨wm_im_X10_fineWatch, wm_se_X10_fineWatch⟩, ⟨wm_in_X10, wm_co_X10_fineWatch, by decide, by decide, by decide +kernel⟩⟩
theorem ok_X10_ifPaidOff : okV yX10_ifPaidOff cX10_ifPaidOff 7 (some .int) 1 := ⟨⟨wm_im_X10_ifPaidOff, wm_se_X10_ifPaidOff⟩, ⟨wm_in_X10, wm_co_X10_ifPaidOff, by decide, by decide, by decide +kernel⟩⟩
theorem ok_X10_in : okS yX10_in cX10_in 3 (some .boolean) 3 := ⟨wm_st_X10_in, ⟨wm_in_X10, wm_co_X10_in, by decide, by decide, by decide +kernel⟩⟩
theorem ok_X10_inPlace : okV yX10_inPlace cX10_inPlace 4 (some .int) 1 := ⟨⟨wm_im_X10_inPlace, wm_se_X10_inPlace⟩, ⟨wm_in_X10, wm_co_X10_inPlace, by decide, by decide, by decide +kernel⟩⟩
theorem ok_X10_init : okI yX10_init cX10_init 1 0 := ⟨⟨wm_im_X10_init, rfl⟩, ⟨wm_in_X10, wm_co_X10_init, by decide, by decide, by decide +kernel⟩⟩
theorem ok_X10_isAtSea : okV yX10_isAtSea cX10_isAtSea 1 (some .boolean) 0 := ⟨⟨wm_im_X10_isAtSea, wm_se_X10_isAtSea⟩, ⟨wm_in_X10, wm_co_X10_isAtSea, by decide, by decide, by decide +kernel⟩⟩
theorem ok_X10_isFined : okV yX10_isFined cX10_isFined 3 (some .boolean) 2 := ⟨⟨wm_im_X10_isFined, wm_se_X10_isFined⟩, ⟨wm_in_X10, wm_co_X10_isFined, by decide, by decide, by decide +kernel⟩⟩
theorem ok_X10_isGone : okV yX10_isGone cX10_isGone 2 (some .boolean) 1 := ⟨⟨wm_im_X10_isGone, wm_se_X10_isGone⟩, ⟨wm_in_X10, wm_co_X10_isGone, by decide, by decide, by decide +kernel⟩⟩
theorem ok_X10_isItem : okS yX10_isItem cX10_isItem 1 (some .boolean) 1 := ⟨wm_st_X10_isItem, ⟨wm_in_X10, wm_co_X10_isItem, by decide, by decide, by decide +kernel⟩⟩
theorem ok_X10_isSailor : okV yX10_isSailor cX10_isSailor 2 (some .boolean) 1 := ⟨⟨wm_im_X10_isSailor, wm_se_X10_isSailor⟩, ⟨wm_in_X10, wm_co_X10_isSailor, by decide, by decide, by decide +kernel⟩⟩
theorem ok_X10_item : okV yX10_item cX10_item 3 (some .int) 2 := ⟨⟨wm_im_X10_item, wm_se_X10_item⟩, ⟨wm_in_X10, wm_co_X10_item, by decide, by decide, by decide +kernel⟩⟩
theorem ok_X10_leave : okV yX10_leave cX10_leave 3 (some .int) 1 := ⟨⟨wm_im_X10_leave, wm_se_X10_leave⟩, ⟨wm_in_X10, wm_co_X10_leave, by decide, by decide, by decide +kernel⟩⟩
theorem ok_X10_most : okV yX10_most cX10_most 4 (some .int) 2 := ⟨⟨wm_im_X10_most, wm_se_X10_most⟩, ⟨wm_in_X10, wm_co_X10_most, by decide, by decide, by decide +kernel⟩⟩
theorem ok_X10_noAdvance : okV yX10_noAdvance cX10_noAdvance 3 (some .int) 2 := ⟨⟨wm_im_X10_noAdvance, wm_se_X10_noAdvance⟩, ⟨wm_in_X10, wm_co_X10_noAdvance, by decide, by decide, by decide +kernel⟩⟩
theorem ok_X10_noBack : okV yX10_noBack cX10_noBack 3 (some .int) 2 := ⟨⟨wm_im_X10_noBack, wm_se_X10_noBack⟩, ⟨wm_in_X10, wm_co_X10_noBack, by decide, by decide, by decide +kernel⟩⟩
theorem ok_X10_noDays : okV yX10_noDays cX10_noDays 2 (some .int) 1 := ⟨⟨wm_im_X10_noDays, wm_se_X10_noDays⟩, ⟨wm_in_X10, wm_co_X10_noDays, by decide, by decide, by decide +kernel⟩⟩
theorem ok_X10_noFine : okV yX10_noFine cX10_noFine 3 (some .int) 2 := ⟨⟨wm_im_X10_noFine, wm_se_X10_noFine⟩, ⟨wm_in_X10, wm_co_X10_noFine, by decide, by decide, by decide +kernel⟩⟩
theorem ok_X10_noLeave : okV yX10_noLeave cX10_noLeave 2 (some .int) 1 := ⟨⟨wm_im_X10_noLeave, wm_se_X10_noLeave⟩, ⟨wm_in_X10, wm_co_X10_noLeave, by decide, by decide, by decide +kernel⟩⟩
theorem ok_X10_noOrder : okV yX10_noOrder cX10_noOrder 1 (some .int) 0 := ⟨⟨wm_im_X10_noOrder, wm_se_X10_noOrder⟩, ⟨wm_in_X10, wm_co_X10_noOrder, by decide, by decide, by decide +kernel⟩⟩
theorem ok_X10_noPayOff : okV yX10_noPayOff cX10_noPayOff 1 (some .int) 0 := ⟨⟨wm_im_X10_noPayOff, wm_se_X10_noPayOff⟩, ⟨wm_in_X10, wm_co_X10_noPayOff, by decide, by decide, by decide +kernel⟩⟩
theorem ok_X10_noPort : okV yX10_noPort cX10_noPort 1 (some .int) 0 := ⟨⟨wm_im_X10_noPort, wm_se_X10_noPort⟩, ⟨wm_in_X10, wm_co_X10_noPort, by decide, by decide, by decide +kernel⟩⟩
theorem ok_X10_noSail : okV yX10_noSail cX10_noSail 1 (some .int) 0 := ⟨⟨wm_im_X10_noSail, wm_se_X10_noSail⟩, ⟨wm_in_X10, wm_co_X10_noSail, by decide, by decide, by decide +kernel⟩⟩
theorem ok_X10_noSell : okV yX10_noSell cX10_noSell 4 (some .int) 3 := ⟨⟨wm_im_X10_noSell, wm_se_X10_noSell⟩, ⟨wm_in_X10, wm_co_X10_noSell, by decide, by decide, by decide +kernel⟩⟩
theorem ok_X10_noSign : okV yX10_noSign cX10_noSign 3 (some .int) 2 := ⟨⟨wm_im_X10_noSign, wm_se_X10_noSign⟩, ⟨wm_in_X10, wm_co_X10_noSign, by decide, by decide, by decide +kernel⟩⟩
theorem ok_X10_noStock : okV yX10_noStock cX10_noStock 4 (some .int) 3 := ⟨⟨wm_im_X10_noStock, wm_se_X10_noStock⟩, ⟨wm_in_X10, wm_co_X10_noStock, by decide, by decide, by decide +kernel⟩⟩
theorem ok_X10_numbers : okS yX10_numbers cX10_numbers 1 (some .int) 1 := ⟨wm_st_X10_numbers, ⟨wm_in_X10, wm_co_X10_numbers, by decide, by decide, by decide +kernel⟩⟩
theorem ok_X10_of : okV yX10_of cX10_of 3 (some .int) 2 := ⟨⟨wm_im_X10_of, wm_se_X10_of⟩, ⟨wm_in_X10, wm_co_X10_of, by decide, by decide, by decide +kernel⟩⟩
theorem ok_X10_ofItem : okV yX10_ofItem cX10_ofItem 3 (some .int) 2 := ⟨⟨wm_im_X10_ofItem, wm_se_X10_ofItem⟩, ⟨wm_in_X10, wm_co_X10_ofItem, by decide, by decide, by decide +kernel⟩⟩
theorem ok_X10_ofWatch : okV yX10_ofWatch cX10_ofWatch 5 (some .int) 2 := ⟨⟨wm_im_X10_ofWatch, wm_se_X10_ofWatch⟩, ⟨wm_in_X10, wm_co_X10_ofWatch, by decide, by decide, by decide +kernel⟩⟩
theorem ok_X10_partOf : okV yX10_partOf cX10_partOf 5 (some .int) 3 := ⟨⟨wm_im_X10_partOf, wm_se_X10_partOf⟩, ⟨wm_in_X10, wm_co_X10_partOf, by decide, by decide, by decide +kernel⟩⟩
theorem ok_X10_pay : okV yX10_pay cX10_pay 3 none 2 := ⟨⟨wm_im_X10_pay, wm_se_X10_pay⟩, ⟨wm_in_X10, wm_co_X10_pay, by decide, by decide, by decide +kernel⟩⟩
theorem ok_X10_payOff : okV yX10_payOff cX10_payOff 2 (some .int) 0 := ⟨⟨wm_im_X10_payOff, wm_se_X10_payOff⟩, ⟨wm_in_X10, wm_co_X10_payOff, by decide, by decide, by decide +kernel⟩⟩
theorem ok_X10_play : okV yX10_play cX10_play 1 (some .int) 0 := ⟨⟨wm_im_X10_play, wm_se_X10_play⟩, ⟨wm_in_X10, wm_co_X10_play, by decide, by decide, by decide +kernel⟩⟩
theorem ok_X10_poorest : okV yX10_poorest cX10_poorest 7 (some .int) 1 := ⟨⟨wm_im_X10_poorest, wm_se_X10_poorest⟩, ⟨wm_in_X10, wm_co_X10_poorest, by decide, by decide, by decide +kernel⟩⟩
theorem ok_X10_port : okV yX10_port cX10_port 2 (some .int) 0 := ⟨⟨wm_im_X10_port, wm_se_X10_port⟩, ⟨wm_in_X10, wm_co_X10_port, by decide, by decide, by decide +kernel⟩⟩
theorem ok_X10_put : okV yX10_put cX10_put 4 none 3 := ⟨⟨wm_im_X10_put, wm_se_X10_put⟩, ⟨wm_in_X10, wm_co_X10_put, by decide, by decide, by decide +kernel⟩⟩
theorem ok_X10_putAside : okV yX10_putAside cX10_putAside 2 none 0 := ⟨⟨wm_im_X10_putAside, wm_se_X10_putAside⟩, ⟨wm_in_X10, wm_co_X10_putAside, by decide, by decide, by decide +kernel⟩⟩
theorem ok_X10_putBack : okV yX10_putBack cX10_putBack 2 none 0 := ⟨⟨wm_im_X10_putBack, wm_se_X10_putBack⟩, ⟨wm_in_X10, wm_co_X10_putBack, by decide, by decide, by decide +kernel⟩⟩
theorem ok_X10_readOrder : okV yX10_readOrder cX10_readOrder 6 (some .int) 1 := ⟨⟨wm_im_X10_readOrder, wm_se_X10_readOrder⟩, ⟨wm_in_X10, wm_co_X10_readOrder, by decide, by decide, by decide +kernel⟩⟩
theorem ok_X10_record : okV yX10_record cX10_record 3 none 1 := ⟨⟨wm_im_X10_record, wm_se_X10_record⟩, ⟨wm_in_X10, wm_co_X10_record, by decide, by decide, by decide +kernel⟩⟩
theorem ok_X10_sail : okV yX10_sail cX10_sail 2 (some .int) 0 := ⟨⟨wm_im_X10_sail, wm_se_X10_sail⟩, ⟨wm_in_X10, wm_co_X10_sail, by decide, by decide, by decide +kernel⟩⟩
theorem ok_X10_sailor : okV yX10_sailor cX10_sailor 3 (some .int) 2 := ⟨⟨wm_im_X10_sailor, wm_se_X10_sailor⟩, ⟨wm_in_X10, wm_co_X10_sailor, by decide, by decide, by decide +kernel⟩⟩
theorem ok_X10_sell : okV yX10_sell cX10_sell 5 (some .int) 3 := ⟨⟨wm_im_X10_sell, wm_se_X10_sell⟩, ⟨wm_in_X10, wm_co_X10_sell, by decide, by decide, by decide +kernel⟩⟩
theorem ok_X10_set : okV yX10_set cX10_set 4 (some .int) 2 := ⟨⟨wm_im_X10_set, wm_se_X10_set⟩, ⟨wm_in_X10, wm_co_X10_set, by decide, by decide, by decide +kernel⟩⟩
theorem ok_X10_share : okV yX10_share cX10_share 4 (some .int) 0 := ⟨⟨wm_im_X10_share, wm_se_X10_share⟩, ⟨wm_in_X10, wm_co_X10_share, by decide, by decide, by decide +kernel⟩⟩
theorem ok_X10_sign : okV yX10_sign cX10_sign 4 (some .int) 2 := ⟨⟨wm_im_X10_sign, wm_se_X10_sign⟩, ⟨wm_in_X10, wm_co_X10_sign, by decide, by decide, by decide +kernel⟩⟩
theorem ok_X10_spend : okV yX10_spend cX10_spend 2 none 1 := ⟨⟨wm_im_X10_spend, wm_se_X10_spend⟩, ⟨wm_in_X10, wm_co_X10_spend, by decide, by decide, by decide +kernel⟩⟩
theorem ok_X10_stock : okV yX10_stock cX10_stock 5 (some .int) 3 := ⟨⟨wm_im_X10_stock, wm_se_X10_stock⟩, ⟨wm_in_X10, wm_co_X10_stock, by decide, by decide, by decide +kernel⟩⟩
theorem ok_X10_type : okV yX10_type cX10_type 2 (some .int) 1 := ⟨⟨wm_im_X10_type, wm_se_X10_type⟩, ⟨wm_in_X10, wm_co_X10_type, by decide, by decide, by decide +kernel⟩⟩
theorem ok_X10_undo : okV yX10_undo cX10_undo 2 (some .int) 0 := ⟨⟨wm_im_X10_undo, wm_se_X10_undo⟩, ⟨wm_in_X10, wm_co_X10_undo, by decide, by decide, by decide +kernel⟩⟩
theorem ok_X10_wages : okS yX10_wages cX10_wages 4 (some .int) 3 := ⟨wm_st_X10_wages, ⟨wm_in_X10, wm_co_X10_wages, by decide, by decide, by decide +kernel⟩⟩
theorem ok_X10_why : okV yX10_why cX10_why 4 (some .int) 3 := ⟨⟨wm_im_X10_why, wm_se_X10_why⟩, ⟨wm_in_X10, wm_co_X10_why, by decide, by decide, by decide +kernel⟩⟩
theorem ok_X10_whyNot : okV yX10_whyNot cX10_whyNot 4 (some .int) 3 := ⟨⟨wm_im_X10_whyNot, wm_se_X10_whyNot⟩, ⟨wm_in_X10, wm_co_X10_whyNot, by decide, by decide, by decide +kernel⟩⟩
theorem ok_X10_write : okV yX10_write cX10_write 5 none 3 := ⟨⟨wm_im_X10_write, wm_se_X10_write⟩, ⟨wm_in_X10, wm_co_X10_write, by decide, by decide, by decide +kernel⟩⟩
theorem ok_X1_copyFrom : okV yX1_copyFrom cX1_copyFrom 2 none 1 := ⟨⟨wm_im_X1_copyFrom, wm_se_X1_copyFrom⟩, ⟨wm_in_X1, wm_co_X1_copyFrom, by decide, by decide, by decide +kernel⟩⟩
theorem ok_X1_enter : okV yX1_enter cX1_enter 4 none 3 := ⟨⟨wm_im_X1_enter, wm_se_X1_enter⟩, ⟨wm_in_X1, wm_co_X1_enter, by decide, by decide, by decide +kernel⟩⟩
theorem ok_X1_init : okI yX1_init cX1_init 1 0 := ⟨⟨wm_im_X1_init, rfl⟩, ⟨wm_in_X1, wm_co_X1_init, by decide, by decide, by decide +kernel⟩⟩
theorem ok_X1_numberAt : okS yX1_numberAt cX1_numberAt 2 (some .int) 2 := ⟨wm_st_X1_numberAt, ⟨wm_in_X1, wm_co_X1_numberAt, by decide, by decide, by decide +kernel⟩⟩
theorem ok_X1_putAhead : okS yX1_putAhead cX1_putAhead 3 none 2 := ⟨wm_st_X1_putAhead, ⟨wm_in_X1, wm_co_X1_putAhead, by decide, by decide, by decide +kernel⟩⟩
theorem ok_X1_tell : okV yX1_tell cX1_tell 3 (some .int) 2 := ⟨⟨wm_im_X1_tell, wm_se_X1_tell⟩, ⟨wm_in_X1, wm_co_X1_tell, by decide, by decide, by decide +kernel⟩⟩
theorem ok_X2_init : okI yX2_init cX2_init 2 0 := ⟨⟨wm_im_X2_init, rfl⟩, ⟨wm_in_X2, wm_co_X2_init, by decide, by decide, by decide +kernel⟩⟩
theorem ok_X2_record : okV yX2_record cX2_record 5 none 1 := ⟨⟨wm_im_X2_record, wm_se_X2_record⟩, ⟨wm_in_X2, wm_co_X2_record, by decide, by decide, by decide +kernel⟩⟩
theorem ok_X2_restoreInto : okV yX2_restoreInto cX2_restoreInto 5 (some .int) 1 := ⟨⟨wm_im_X2_restoreInto, wm_se_X2_restoreInto⟩, ⟨wm_in_X2, wm_co_X2_restoreInto, by decide, by decide, by decide +kernel⟩⟩
theorem ok_X3_copyFrom : okV yX3_copyFrom cX3_copyFrom 2 none 1 := ⟨⟨wm_im_X3_copyFrom, wm_se_X3_copyFrom⟩, ⟨wm_in_X3, wm_co_X3_copyFrom, by decide, by decide, by decide +kernel⟩⟩
theorem ok_X3_giveOut : okV yX3_giveOut cX3_giveOut 3 none 2 := ⟨⟨wm_im_X3_giveOut, wm_se_X3_giveOut⟩, ⟨wm_in_X3, wm_co_X3_giveOut, by decide, by decide, by decide +kernel⟩⟩
theorem ok_X3_init : okI yX3_init cX3_init 1 0 := ⟨⟨wm_im_X3_init, rfl⟩, ⟨wm_in_X3, wm_co_X3_init, by decide, by decide, by decide +kernel⟩⟩
theorem ok_X3_takeIn : okV yX3_takeIn cX3_takeIn 3 none 2 := ⟨⟨wm_im_X3_takeIn, wm_se_X3_takeIn⟩, ⟨wm_in_X3, wm_co_X3_takeIn, by decide, by decide, by decide +kernel⟩⟩
theorem ok_X3_tell : okV yX3_tell cX3_tell 2 (some .int) 1 := ⟨⟨wm_im_X3_tell, wm_se_X3_tell⟩, ⟨wm_in_X3, wm_co_X3_tell, by decide, by decide, by decide +kernel⟩⟩
theorem ok_X4_carryOut : okV yX4_carryOut cX4_carryOut 2 (some .int) 1 := ⟨⟨wm_im_X4_carryOut, wm_se_X4_carryOut⟩, ⟨wm_in_X4, wm_co_X4_carryOut, by decide, by decide, by decide +kernel⟩⟩
theorem ok_X4_init : okI yX4_init cX4_init 1 0 := ⟨⟨wm_im_X4_init, rfl⟩, ⟨wm_in_X4, wm_co_X4_init, by decide, by decide, by decide +kernel⟩⟩
theorem ok_X4_number : okV yX4_number cX4_number 2 (some .int) 1 := ⟨⟨wm_im_X4_number, wm_se_X4_number⟩, ⟨wm_in_X4, wm_co_X4_number, by decide, by decide, by decide +kernel⟩⟩
theorem ok_X4_numbersOf : okS yX4_numbersOf cX4_numbersOf 1 (some .int) 1 := ⟨wm_st_X4_numbersOf, ⟨wm_in_X4, wm_co_X4_numbersOf, by decide, by decide, by decide +kernel⟩⟩
theorem ok_X4_readFrom : okV yX4_readFrom cX4_readFrom 6 (some .boolean) 2 := ⟨⟨wm_im_X4_readFrom, wm_se_X4_readFrom⟩, ⟨wm_in_X4, wm_co_X4_readFrom, by decide, by decide, by decide +kernel⟩⟩
theorem ok_X4_readNumber : okV yX4_readNumber cX4_readNumber 4 (some .int) 1 := ⟨⟨wm_im_X4_readNumber, wm_se_X4_readNumber⟩, ⟨wm_in_X4, wm_co_X4_readNumber, by decide, by decide, by decide +kernel⟩⟩
theorem ok_X4_readSign : okV yX4_readSign cX4_readSign 3 (some .boolean) 2 := ⟨⟨wm_im_X4_readSign, wm_se_X4_readSign⟩, ⟨wm_in_X4, wm_co_X4_readSign, by decide, by decide, by decide +kernel⟩⟩
theorem ok_X5_init : okI yX5_init cX5_init 1 0 := ⟨⟨wm_im_X5_init, rfl⟩, ⟨wm_in_X5, wm_co_X5_init, by decide, by decide, by decide +kernel⟩⟩
theorem ok_X5_isFaulty : okV yX5_isFaulty cX5_isFaulty 1 (some .boolean) 0 := ⟨⟨wm_im_X5_isFaulty, wm_se_X5_isFaulty⟩, ⟨wm_in_X5, wm_co_X5_isFaulty, by decide, by decide, by decide +kernel⟩⟩
theorem ok_X5_runThrough : okV yX5_runThrough cX5_runThrough 5 none 2 := ⟨⟨wm_im_X5_runThrough, wm_se_X5_runThrough⟩, ⟨wm_in_X5, wm_co_X5_runThrough, by decide, by decide, by decide +kernel⟩⟩
theorem ok_X5_tellFault : okV yX5_tellFault cX5_tellFault 2 (some .int) 1 := ⟨⟨wm_im_X5_tellFault, wm_se_X5_tellFault⟩, ⟨wm_in_X5, wm_co_X5_tellFault, by decide, by decide, by decide +kernel⟩⟩
theorem ok_X6_balance : okV yX6_balance cX6_balance 1 (some .int) 0 := ⟨⟨wm_im_X6_balance, wm_se_X6_balance⟩, ⟨wm_in_X6, wm_co_X6_balance, by decide, by decide, by decide +kernel⟩⟩
theorem ok_X6_beginVoyage : okV yX6_beginVoyage cX6_beginVoyage 2 none 1 := ⟨⟨wm_im_X6_beginVoyage, wm_se_X6_beginVoyage⟩, ⟨wm_in_X6, wm_co_X6_beginVoyage, by decide, by decide, by decide +kernel⟩⟩
theorem ok_X6_charged : okV yX6_charged cX6_charged 1 (some .int) 0 := ⟨⟨wm_im_X6_charged, wm_se_X6_charged⟩, ⟨wm_in_X6, wm_co_X6_charged, by decide, by decide, by decide +kernel⟩⟩
theorem ok_X6_comeAboard : okV yX6_comeAboard cX6_comeAboard 3 none 2 := ⟨⟨wm_im_X6_comeAboard, wm_se_X6_comeAboard⟩, ⟨wm_in_X6, wm_co_X6_comeAboard, by decide, by decide, by decide +kernel⟩⟩
theorem ok_X6_copyFrom : okV yX6_copyFrom cX6_copyFrom 2 none 1 := ⟨⟨wm_im_X6_copyFrom, wm_se_X6_copyFrom⟩, ⟨wm_in_X6, wm_co_X6_copyFrom, by decide, by decide, by decide +kernel⟩⟩
theorem ok_X6_couldBeFined : okV yX6_couldBeFined cX6_couldBeFined 2 (some .boolean) 1 := ⟨⟨wm_im_X6_couldBeFined, wm_se_X6_couldBeFined⟩, ⟨wm_in_X6, wm_co_X6_couldBeFined, by decide, by decide, by decide +kernel⟩⟩
theorem ok_X6_earned : okV yX6_earned cX6_earned 1 (some .int) 0 := ⟨⟨wm_im_X6_earned, wm_se_X6_earned⟩, ⟨wm_in_X6, wm_co_X6_earned, by decide, by decide, by decide +kernel⟩⟩
theorem ok_X6_earnedAfter : okV yX6_earnedAfter cX6_earnedAfter 3 (some .int) 2 := ⟨⟨wm_im_X6_earnedAfter, wm_se_X6_earnedAfter⟩, ⟨wm_in_X6, wm_co_X6_earnedAfter, by decide, by decide, by decide +kernel⟩⟩
theorem ok_X6_goAway : okV yX6_goAway cX6_goAway 1 none 0 := ⟨⟨wm_im_X6_goAway, wm_se_X6_goAway⟩, ⟨wm_in_X6, wm_co_X6_goAway, by decide, by decide, by decide +kernel⟩⟩
theorem ok_X6_init : okI yX6_init cX6_init 1 0 := ⟨⟨wm_im_X6_init, rfl⟩, ⟨wm_in_X6, wm_co_X6_init, by decide, by decide, by decide +kernel⟩⟩
theorem ok_X6_isGone : okV yX6_isGone cX6_isGone 1 (some .boolean) 0 := ⟨⟨wm_im_X6_isGone, wm_se_X6_isGone⟩, ⟨wm_in_X6, wm_co_X6_isGone, by decide, by decide, by decide +kernel⟩⟩
theorem ok_X6_isOfWatch : okV yX6_isOfWatch cX6_isOfWatch 2 (some .boolean) 1 := ⟨⟨wm_im_X6_isOfWatch, wm_se_X6_isOfWatch⟩, ⟨wm_in_X6, wm_co_X6_isOfWatch, by decide, by decide, by decide +kernel⟩⟩
theorem ok_X6_passDays : okV yX6_passDays cX6_passDays 3 none 2 := ⟨⟨wm_im_X6_passDays, wm_se_X6_passDays⟩, ⟨wm_in_X6, wm_co_X6_passDays, by decide, by decide, by decide +kernel⟩⟩
theorem ok_X6_tell : okV yX6_tell cX6_tell 2 (some .int) 1 := ⟨⟨wm_im_X6_tell, wm_se_X6_tell⟩, ⟨wm_in_X6, wm_co_X6_tell, by decide, by decide, by decide +kernel⟩⟩
theorem ok_X6_wages : okV yX6_wages cX6_wages 3 (some .int) 2 := ⟨⟨wm_im_X6_wages, wm_se_X6_wages⟩, ⟨wm_in_X6, wm_co_X6_wages, by decide, by decide, by decide +kernel⟩⟩
theorem ok_X7_append : okV yX7_append cX7_append 2 (some .int) 1 := ⟨⟨wm_im_X7_append, wm_se_X7_append⟩, ⟨wm_in_X7, wm_co_X7_append, by decide, by decide, by decide +kernel⟩⟩
theorem ok_X7_at : okV yX7_at cX7_at 2 (some .int) 1 := ⟨⟨wm_im_X7_at, wm_se_X7_at⟩, ⟨wm_in_X7, wm_co_X7_at, by decide, by decide, by decide +kernel⟩⟩
theorem ok_X7_empty : okV yX7_empty cX7_empty 2 (some .int) 0 := ⟨⟨wm_im_X7_empty, wm_se_X7_empty⟩, ⟨wm_in_X7, wm_co_X7_empty, by decide, by decide, by decide +kernel⟩⟩
theorem ok_X7_init : okI yX7_init cX7_init 1 0 := ⟨⟨wm_im_X7_init, rfl⟩, ⟨wm_in_X7, wm_co_X7_init, by decide, by decide, by decide +kernel⟩⟩
theorem ok_X8_copyFrom : okV yX8_copyFrom cX8_copyFrom 2 none 1 := ⟨⟨wm_im_X8_copyFrom, wm_se_X8_copyFrom⟩, ⟨wm_in_X8, wm_co_X8_copyFrom, by decide, by decide, by decide +kernel⟩⟩
theorem ok_X8_init : okI yX8_init cX8_init 1 0 := ⟨⟨wm_im_X8_init, rfl⟩, ⟨wm_in_X8, wm_co_X8_init, by decide, by decide, by decide +kernel⟩⟩
theorem ok_X8_missingFor : okV yX8_missingFor cX8_missingFor 2 (some .int) 1 := ⟨⟨wm_im_X8_missingFor, wm_se_X8_missingFor⟩, ⟨wm_in_X8, wm_co_X8_missingFor, by decide, by decide, by decide +kernel⟩⟩
theorem ok_X8_takeCash : okV yX8_takeCash cX8_takeCash 3 none 1 := ⟨⟨wm_im_X8_takeCash, wm_se_X8_takeCash⟩, ⟨wm_in_X8, wm_co_X8_takeCash, by decide, by decide, by decide +kernel⟩⟩
theorem ok_X9_advance : okV yX9_advance cX9_advance 3 (some .int) 2 := ⟨⟨wm_im_X9_advance, wm_se_X9_advance⟩, ⟨wm_in_X9, wm_co_X9_advance, by decide, by decide, by decide +kernel⟩⟩
theorem ok_X9_back : okV yX9_back cX9_back 3 (some .int) 2 := ⟨⟨wm_im_X9_back, wm_se_X9_back⟩, ⟨wm_in_X9, wm_co_X9_back, by decide, by decide, by decide +kernel⟩⟩
theorem ok_X9_bitsOf : okS yX9_bitsOf cX9_bitsOf 4 (some .int) 1 := ⟨wm_st_X9_bitsOf, ⟨wm_in_X9, wm_co_X9_bitsOf, by decide, by decide, by decide +kernel⟩⟩
theorem ok_X9_book : okV yX9_book cX9_book 3 (some .int) 2 := ⟨⟨wm_im_X9_book, wm_se_X9_book⟩, ⟨wm_in_X9, wm_co_X9_book, by decide, by decide, by decide +kernel⟩⟩
theorem ok_X9_clearIn : okV yX9_clearIn cX9_clearIn 2 (some .int) 1 := ⟨⟨wm_im_X9_clearIn, wm_se_X9_clearIn⟩, ⟨wm_in_X9, wm_co_X9_clearIn, by decide, by decide, by decide +kernel⟩⟩
theorem ok_X9_clearText : okV yX9_clearText cX9_clearText 1 (some .int) 0 := ⟨⟨wm_im_X9_clearText, wm_se_X9_clearText⟩, ⟨wm_in_X9, wm_co_X9_clearText, by decide, by decide, by decide +kernel⟩⟩
theorem ok_X9_copyNumbers : okS yX9_copyNumbers cX9_copyNumbers 3 none 2 := ⟨wm_st_X9_copyNumbers, ⟨wm_in_X9, wm_co_X9_copyNumbers, by decide, by decide, by decide +kernel⟩⟩
theorem ok_X9_count : okV yX9_count cX9_count 2 (some .int) 1 := ⟨⟨wm_im_X9_count, wm_se_X9_count⟩, ⟨wm_in_X9, wm_co_X9_count, by decide, by decide, by decide +kernel⟩⟩
theorem ok_X9_days : okV yX9_days cX9_days 2 (some .int) 1 := ⟨⟨wm_im_X9_days, wm_se_X9_days⟩, ⟨wm_in_X9, wm_co_X9_days, by decide, by decide, by decide +kernel⟩⟩
theorem ok_X9_dismiss : okV yX9_dismiss cX9_dismiss 2 (some .int) 1 := ⟨⟨wm_im_X9_dismiss, wm_se_X9_dismiss⟩, ⟨wm_in_X9, wm_co_X9_dismiss, by decide, by decide, by decide +kernel⟩⟩
theorem ok_X9_fault : okV yX9_fault cX9_fault 2 (some .int) 1 := ⟨⟨wm_im_X9_fault, wm_se_X9_fault⟩, ⟨wm_in_X9, wm_co_X9_fault, by decide, by decide, by decide +kernel⟩⟩
theorem ok_X9_fine : okV yX9_fine cX9_fine 3 (some .int) 2 := ⟨⟨wm_im_X9_fine, wm_se_X9_fine⟩, ⟨wm_in_X9, wm_co_X9_fine, by decide, by decide, by decide +kernel⟩⟩
theorem ok_X9_fineWatch : okV yX9_fineWatch cX9_fineWatch 3 (some .int) 2 := ⟨⟨wm_im_X9_fineWatch, wm_se_X9_fineWatch⟩, ⟨wm_in_X9, wm_co_X9_fineWatch, by decide, by decide, by decide +kernel⟩⟩
theorem ok_X9_ifPaidOff : okV yX9_ifPaidOff cX9_ifPaidOff 2 (some .int) 1 := ⟨⟨wm_im_X9_ifPaidOff, wm_se_X9_ifPaidOff⟩, ⟨wm_in_X9, wm_co_X9_ifPaidOff, by decide, by decide, by decide +kernel⟩⟩
theorem ok_X9_init : okI yX9_init cX9_init 1 0 := ⟨⟨wm_im_X9_init, rfl⟩, ⟨wm_in_X9, wm_co_X9_init, by decide, by decide, by decide +kernel⟩⟩
theorem ok_X9_item : okV yX9_item cX9_item 4 (some .int) 2 := ⟨⟨wm_im_X9_item, wm_se_X9_item⟩, ⟨wm_in_X9, wm_co_X9_item, by decide, by decide, by decide +kernel⟩⟩
theorem ok_X9_leave : okV yX9_leave cX9_leave 2 (some .int) 1 := ⟨⟨wm_im_X9_leave, wm_se_X9_leave⟩, ⟨wm_in_X9, wm_co_X9_leave, by decide, by decide, by decide +kernel⟩⟩
theorem ok_X9_most : okV yX9_most cX9_most 3 (some .int) 2 := ⟨⟨wm_im_X9_most, wm_se_X9_most⟩, ⟨wm_in_X9, wm_co_X9_most, by decide, by decide, by decide +kernel⟩⟩
theorem ok_X9_newTrial : okV yX9_newTrial cX9_newTrial 1 (some (.object "PurserLedgers$Books")) 0 := ⟨⟨wm_im_X9_newTrial, wm_se_X9_newTrial⟩, ⟨wm_in_X9, wm_co_X9_newTrial, by decide, by decide, by decide +kernel⟩⟩
theorem ok_X9_payOff : okV yX9_payOff cX9_payOff 1 (some .int) 0 := ⟨⟨wm_im_X9_payOff, wm_se_X9_payOff⟩, ⟨wm_in_X9, wm_co_X9_payOff, by decide, by decide, by decide +kernel⟩⟩
theorem ok_X9_play : okV yX9_play cX9_play 1 (some .int) 0 := ⟨⟨wm_im_X9_play, wm_se_X9_play⟩, ⟨wm_in_X9, wm_co_X9_play, by decide, by decide, by decide +kernel⟩⟩
theorem ok_X9_poorest : okV yX9_poorest cX9_poorest 2 (some .int) 1 := ⟨⟨wm_im_X9_poorest, wm_se_X9_poorest⟩, ⟨wm_in_X9, wm_co_X9_poorest, by decide, by decide, by decide +kernel⟩⟩
theorem ok_X9_port : okV yX9_port cX9_port 1 (some .int) 0 := ⟨⟨wm_im_X9_port, wm_se_X9_port⟩, ⟨wm_in_X9, wm_co_X9_port, by decide, by decide, by decide +kernel⟩⟩
theorem ok_X9_sail : okV yX9_sail cX9_sail 1 (some .int) 0 := ⟨⟨wm_im_X9_sail, wm_se_X9_sail⟩, ⟨wm_in_X9, wm_co_X9_sail, by decide, by decide, by decide +kernel⟩⟩
theorem ok_X9_sailor : okV yX9_sailor cX9_sailor 4 (some .int) 2 := ⟨⟨wm_im_X9_sailor, wm_se_X9_sailor⟩, ⟨wm_in_X9, wm_co_X9_sailor, by decide, by decide, by decide +kernel⟩⟩
theorem ok_X9_sell : okV yX9_sell cX9_sell 4 (some .int) 3 := ⟨⟨wm_im_X9_sell, wm_se_X9_sell⟩, ⟨wm_in_X9, wm_co_X9_sell, by decide, by decide, by decide +kernel⟩⟩
theorem ok_X9_set : okV yX9_set cX9_set 3 (some .int) 2 := ⟨⟨wm_im_X9_set, wm_se_X9_set⟩, ⟨wm_in_X9, wm_co_X9_set, by decide, by decide, by decide +kernel⟩⟩
theorem ok_X9_settleTrial : okV yX9_settleTrial cX9_settleTrial 2 (some .int) 1 := ⟨⟨wm_im_X9_settleTrial, wm_se_X9_settleTrial⟩, ⟨wm_in_X9, wm_co_X9_settleTrial, by decide, by decide, by decide +kernel⟩⟩
theorem ok_X9_share : okV yX9_share cX9_share 1 (some .int) 0 := ⟨⟨wm_im_X9_share, wm_se_X9_share⟩, ⟨wm_in_X9, wm_co_X9_share, by decide, by decide, by decide +kernel⟩⟩
theorem ok_X9_sign : okV yX9_sign cX9_sign 3 (some .int) 2 := ⟨⟨wm_im_X9_sign, wm_se_X9_sign⟩, ⟨wm_in_X9, wm_co_X9_sign, by decide, by decide, by decide +kernel⟩⟩
theorem ok_X9_stock : okV yX9_stock cX9_stock 4 (some .int) 3 := ⟨⟨wm_im_X9_stock, wm_se_X9_stock⟩, ⟨wm_in_X9, wm_co_X9_stock, by decide, by decide, by decide +kernel⟩⟩
theorem ok_X9_type : okV yX9_type cX9_type 2 (some .int) 1 := ⟨⟨wm_im_X9_type, wm_se_X9_type⟩, ⟨wm_in_X9, wm_co_X9_type, by decide, by decide, by decide +kernel⟩⟩
theorem ok_X9_undo : okV yX9_undo cX9_undo 1 (some .int) 0 := ⟨⟨wm_im_X9_undo, wm_se_X9_undo⟩, ⟨wm_in_X9, wm_co_X9_undo, by decide, by decide, by decide +kernel⟩⟩
theorem ok_X9_why : okV yX9_why cX9_why 4 (some .int) 3 := ⟨⟨wm_im_X9_why, wm_se_X9_why⟩, ⟨wm_in_X9, wm_co_X9_why, by decide, by decide, by decide +kernel⟩⟩
theorem ok_X9_within : okS yX9_within cX9_within 3 (some .boolean) 3 := ⟨wm_st_X9_within, ⟨wm_in_X9, wm_co_X9_within, by decide, by decide, by decide +kernel⟩⟩
