theorem pr_share {l : Launch} {K : KT} {sz x o : Nat} {V0 : VW} {B : Nat} {z t f u g : Zt} {h : Nat → Zt} {π : Nat → Nat} {r : Rt} {N n L : Nat} (ho : x + 194 ≤ o) (hs : ∀ p, seaIn (h p)) (hR : Re B z h π f g r N n L) : Pair l K sz x o V0 B (ww K x z t h π f u g (mw K o z r V0)) yX9_share cX9_share 1 6 yX10_share cX10_share 4 5 [] := by
  sorry
