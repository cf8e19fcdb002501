set_option maxRecDepth 100000 in
set_option maxHeartbeats 4000000 in
theorem cM_byteAtT (fr : Int) (B : Nat → Int) (n p : Nat) (ft : Int) (x m : sd_M) (hx : sd_ns x m) (hn : n ≤ 100) (hfr : fr = -1) (hB1 : ∀ q, n ≤ q → B q = -1) (hB2 : ∀ q, q < n → x (4000 + q) = B q) (hS : sd_RS m fr n p ft) : sd_Cp sd_SM 0 sY11_byteAt [.inr 15] m (.inl (B p)) := by
  refine sd_ct rfl (Nat.le_of_ble_eq_true rfl) (fun hok hm => ?_)
  show sd_Wp sd_SM 0 sY11_byteAt 0 [some (.inr 15)] [] m _
  refine sd_aload_n sD11_byteAt_0 rfl ?_
  refine sd_getfi sD11_byteAt_1 sF11_147 sGM15_12 ?_
  rw [show m 5492 = (p : Int) from hS.2.2.1]
  refine sd_aload_n sD11_byteAt_4 rfl ?_
  refine sd_getfi sD11_byteAt_5 sF11_151 sGM15_11 ?_
  rw [show m 5491 = (n : Int) from hS.2.1]
  refine sd_icmp_lt (tgt := 15) sD11_byteAt_8 (by decide) (fun zc8 => ?_) (fun zc8 => ?_)
  ·
    refine sd_aload_n sD11_byteAt_15 rfl ?_
    refine sd_getfi sD11_byteAt_16 sF11_154 sGM15_10 ?_
    rw [show m 5490 = (-1) from (hS.1.trans hfr)]
    refine sd_if_ge (tgt := 34) sD11_byteAt_19 (by decide) (fun zc19 => (by exfalso; omega)) (fun zc19 => ?_)
    refine sd_aload_n sD11_byteAt_22 rfl ?_
    refine sd_getfr sD11_byteAt_23 sF11_16 sGM15_3 ?_
    refine sd_aload_n sD11_byteAt_26 rfl ?_
    refine sd_getfi sD11_byteAt_27 sF11_147 sGM15_12 ?_
    rw [show m 5492 = (p : Int) from hS.2.2.1]
    refine sd_ialdx (a := (4000 + p)) (v := x (4000 + p)) hx sD11_byteAt_30 sAM2 (by omega) rfl ?_
    refine sd_goto (tgt := 48) sD11_byteAt_31 (by decide) ?_
    refine sd_iretp sD11_byteAt_48 rfl ?_
    first | exact (hB1 p (by omega)).symm | exact hB2 p (by omega)
  ·
    refine sd_iconst sD11_byteAt_11 (by decide) ?_
    refine sd_goto (tgt := 48) sD11_byteAt_12 (by decide) ?_
    refine sd_iretp sD11_byteAt_48 rfl ?_
    first | exact (hB1 p (by omega)).symm | exact hB2 p (by omega)
