theorem sd_neg_sub {s : Int} (hs : sd_R s) (P : Nat → Prop) [DecidablePred P] {n : Nat} (hn : n ≤ 24) (h : s < 0) : ¬ sd_and s (sd_xor (sd_set P n) (-1)) = 0 := by
  intro q
  have := sd_sub_rng hs P hn q
  omega
