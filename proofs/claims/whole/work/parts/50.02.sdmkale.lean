theorem sd_mka_le {x : sd_M} (h1 : sd_I1 x) (h2 : sd_I2 x) (M : Int) (n : Nat) (hn : n ≤ 24) : sd_kr (sd_md x M n) := by
  intro p
  have := sd_md_rng h2 M n p hn
  omega
