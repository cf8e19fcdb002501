set_option maxRecDepth 100000 in
set_option maxHeartbeats 4000000 in
theorem cM_byteIs0 (c : Int) (fr : Int) (n p q : Nat) (x m : sd_M) (hx : sd_ns x m) (hS : sd_RS m fr n p (q : Int)) : sd_Ct sd_SM 1 sY11_byteIs [.inr 15, .inl c] m (fun r m' => r = none ∧ sd_k2 m m' ∧ sd_RS m' fr n p (q : Nat)) := by
  refine sd_ct rfl (Nat.le_of_ble_eq_true rfl) (fun hok hm => ?_)
  have hK : sd_k2 m m := sd_k2.rf
  show sd_Wp sd_SM 1 sY11_byteIs 0 [some (.inr 15), some (.inl c)] [] m _
  refine sd_aload_n sD11_byteIs_0 rfl ?_
  refine sd_callVp (as := []) (st := []) (v := .inl 0) sD11_byteIs_1 sM11_160 sOM15 rfl rfl rfl (by decide) (Nat.le_of_ble_eq_true rfl) (cM_isGood0 fr n p q _ m hx hS) (fun ho1 => ?_)
  refine sd_if_eq (tgt := 28) sD11_byteIs_4 (by decide) (fun zc4 => ?_) (fun zc4 => (by exfalso; omega))
  refine sd_aload_n sD11_byteIs_28 rfl ?_
  refine sd_callV (as := []) (st := []) sD11_byteIs_29 sM11_167 rfl rfl sOM15 rfl (by decide) (Nat.le_of_ble_eq_true rfl) (cM_wrong0 fr n p q _ m hx hS) (fun r m hq ho29 hm => ?_)
  obtain ⟨rfl, hk29_1, hS⟩ := hq
  replace hx := hk29_1.ns hx
  replace hK := hK.tr hk29_1
  rcases (⟨trivial⟩ : Nonempty True) with hy29_1
  ·
    show sd_Wp sd_SM 1 sY11_byteIs 32 [some (.inr 15), some (.inl c)] [] m _
    exact sd_vreturn sD11_byteIs_32 rfl (fun hm => ⟨rfl, hK, hS⟩)
