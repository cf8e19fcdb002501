theorem cM_byteAt (ft : Int) (fr : Int) (B : Nat → Int) (n p : Nat) (x m : sd_M) (hx : sd_ns x m) (hB : sd_RB x fr B n) (hS : sd_RS m fr n p ft) : sd_Cp sd_SM 0 sY11_byteAt [.inr 15] m (.inl (B p)) := by
  obtain ⟨a, b, c⟩ := hB
  rcases c with ⟨c, d⟩ | ⟨f, c, d, e⟩
  · exact cM_byteAtT fr B n p ft x m hx a c b d hS
  · exact cM_byteAtD fr B n p f ft x m hx a c d b e hS
