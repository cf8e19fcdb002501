set_option maxRecDepth 100000 in
set_option maxHeartbeats 4000000 in
theorem cM_byteIs1 (c : Int) (hc : ¬ c = -1) (fr : Int) (B : Nat → Int) (n p : Nat) (x m : sd_M) (hx : sd_ns x m) (hB : sd_RB x fr B n) (hS : sd_RS m fr n p (-1)) (hp100 : p ≤ n) : sd_Ct sd_SM 1 sY11_byteIs [.inr 15, .inl c] m (fun r m' => r = none ∧ sd_k2 m m' ∧ ((B p = c ∧ sd_RS m' fr n (p + 1) (-1)) ∨ (¬ B p = c ∧ sd_RS m' fr n p (p : Nat)))) := by
  refine sd_ct rfl (Nat.le_of_ble_eq_true rfl) (fun hok hm => ?_)
  have hK : sd_k2 m m := sd_k2.rf
  show sd_Wp sd_SM 1 sY11_byteIs 0 [some (.inr 15), some (.inl c)] [] m _
  refine sd_aload_n sD11_byteIs_0 rfl ?_
  refine sd_callVp (as := []) (st := []) (v := .inl 1) sD11_byteIs_1 sM11_160 sOM15 rfl rfl rfl (by decide) (Nat.le_of_ble_eq_true rfl) (cM_isGood1 fr n p _ m hx hS) (fun ho1 => ?_)
  refine sd_if_eq (tgt := 28) sD11_byteIs_4 (by decide) (fun zc4 => (by exfalso; omega)) (fun zc4 => ?_)
  refine sd_aload_n sD11_byteIs_7 rfl ?_
  refine sd_callVp (as := []) (st := []) (v := .inl (B p)) sD11_byteIs_8 sM11_164 sOM15 rfl rfl rfl (by decide) (Nat.le_of_ble_eq_true rfl) (cM_byteAt _ fr B n p _ m hx hB hS) (fun ho8 => ?_)
  refine sd_iload_n sD11_byteIs_11 rfl ?_
  refine sd_icmp_ne (tgt := 28) sD11_byteIs_12 (by decide) (fun zc12 => ?_) (fun zc12 => ?_)
  ·
    refine sd_aload_n sD11_byteIs_28 rfl ?_
    refine sd_callV (as := []) (st := []) sD11_byteIs_29 sM11_167 rfl rfl sOM15 rfl (by decide) (Nat.le_of_ble_eq_true rfl) (cM_wrong1 fr n p _ m hx hS) (fun r m hq ho29 hm => ?_)
    obtain ⟨rfl, hk29_1, hS⟩ := hq
    replace hx := hk29_1.ns hx
    replace hK := hK.tr hk29_1
    rcases (⟨trivial⟩ : Nonempty True) with hy29_1
    ·
      show sd_Wp sd_SM 1 sY11_byteIs 32 [some (.inr 15), some (.inl c)] [] m _
      exact sd_vreturn sD11_byteIs_32 rfl (fun hm => ⟨rfl, hK, Or.inr ⟨by assumption, hS⟩⟩)
  ·
    have hpn : p < n := hB.in (by omega)
    have hn := hB.1
    refine sd_aload_n sD11_byteIs_15 rfl ?_
    refine sd_dup sD11_byteIs_16 ?_
    refine sd_getfi sD11_byteIs_17 sF11_147 sGM15_12 ?_
    rw [show m 5492 = (p : Int) from hS.2.2.1]
    refine sd_iconst sD11_byteIs_20 (by decide) ?_
    refine sd_iadd (z := ((p : Int) + 1)) sD11_byteIs_21 (by omega) (by omega) ?_
    refine sd_putfc sd_sokM sd_oneM hx sD11_byteIs_22 sF11_147 sGM15_12 (by decide) (Or.inl rfl) (fun m hx em22 => ?_)
    replace hK := hK.tr (sd_k2.up em22 (Or.inl rfl))
    replace hS : sd_RS m fr n (p + 1) (-1) := ⟨by rw [em22, sd_up_ne (by decide)]; exact hS.1, by rw [em22, sd_up_ne (by decide)]; exact hS.2.1, by rw [em22, sd_up_eq]; (try omega), by rw [em22, sd_up_ne (by decide)]; exact hS.2.2.2⟩
    refine sd_goto (tgt := 32) sD11_byteIs_25 (by decide) ?_
    exact sd_vreturn sD11_byteIs_32 rfl (fun hm => ⟨rfl, hK, Or.inl ⟨by assumption, hS⟩⟩)
