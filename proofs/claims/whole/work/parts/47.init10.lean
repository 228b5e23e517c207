def r0C : Rt := (fun _ => 0, fun _ => 0, fun _ => 0, fun _ => 0, fun _ => 0)
theorem cut_0C : z0C = cutF 231 z0C := by
  funext i; simp only [cutF]
  by_cases h : i < 231
  · rw [if_pos h]
  · rw [if_neg h, z0C_0 (by omega)]
theorem x10_mw (K : KT) (V : VW) (a : Nat) : (vset (vset (vset (vset (vset (vset V a (.inr (10, [.ref (a + 1), .ref (a + 2), .ref (a + 3), .int 0, .ref (a + 4), .int 0, .int 0, .ref (a + 5), .int 0, .int 0, .int 0, .int 0, .int 0]))) (a + 1) (.inl (K.2.1 0, 231, .inl (upd (upd (upd (upd (fun _ => 0) 195 500) 203 50) 204 25) 205 2)))) (a + 2) (.inl (K.2.1 0, 231, .inl (fun _ => 0)))) (a + 3) (.inl (K.2.1 0, 924, .inl (fun _ => 0)))) (a + 4) (.inl (K.2.1 0, 60, .inl (fun _ => 0)))) (a + 5) (.inl (K.2.1 0, 3, .inl (fun _ => 0)))) = mw K a z0C r0C V := by
  funext q
  by_cases h : a ≤ q ∧ q < a + 6
  · obtain ⟨i, rfl⟩ : ∃ i, q = a + i := ⟨q - a, by omega⟩
    rw [mw_at (by omega)]
    simp only [vset]
    rcases (show i = 0 ∨ i = 1 ∨ i = 2 ∨ i = 3 ∨ i = 4 ∨ i = 5 by omega) with rfl | rfl | rfl | rfl | rfl | rfl
    · rw [if_neg (by omega), if_neg (by omega), if_neg (by omega), if_neg (by omega), if_neg (by omega), if_pos (by omega)]; rfl
    · rw [if_neg (by omega), if_neg (by omega), if_neg (by omega), if_neg (by omega), if_pos (by omega)]; exact congrArg (fun q9 => some (Sum.inl (K.2.1 0, 231, Sum.inl q9))) cut_0C
    · rw [if_neg (by omega), if_neg (by omega), if_neg (by omega), if_pos (by omega)]; exact congrArg (fun q9 => some (Sum.inl (K.2.1 0, 231, Sum.inl q9))) (cut0 231)
    · rw [if_neg (by omega), if_neg (by omega), if_pos (by omega)]; exact congrArg (fun q9 => some (Sum.inl (K.2.1 0, 924, Sum.inl q9))) (cut0 924)
    · rw [if_neg (by omega), if_pos (by omega)]; exact congrArg (fun q9 => some (Sum.inl (K.2.1 0, 60, Sum.inl q9))) (cut0 60)
    · rw [if_pos (by omega)]; exact congrArg (fun q9 => some (Sum.inl (K.2.1 0, 3, Sum.inl q9))) (cut0 3)
  · rw [mw_out (by omega), vset_ne _ _ (by omega), vset_ne _ _ (by omega), vset_ne _ _ (by omega), vset_ne _ _ (by omega), vset_ne _ _ (by omega), vset_ne _ _ (by omega)]
theorem c_X10_init_m (l : Launch) (K : KT) (V : VW) (a : Nat) : Ct l K yX10_init cX10_init 1 none 1 [.ref a] (vset V a (.inr (10, [.null, .null, .null, .int 0, .null, .int 0, .int 0, .null, .int 0, .int 0, .int 0, .int 0, .int 0]))) (a + 1) none (mw K a z0C r0C V) (a + 6) 5 1449 := by
  rw [← x10_mw]
  exact c_X10_init l K V a
