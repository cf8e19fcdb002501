set_option maxRecDepth 100000 in
set_option maxHeartbeats 4000000 in
theorem cM_test0 (fr : Int) (B : Nat → Int) (n p q : Nat) (x m : sd_M) (hx : sd_ns x m) (hB : sd_RB x fr B n) (hS : sd_RS m fr n p (q : Int)) (hL : sd_LT x) : sd_Ct sd_SM 3 sY11_test [.inr 15] m (fun r m' => r = some (.inl 0) ∧ sd_k2 m m' ∧ sd_RS m' fr n p (q : Nat)) := by
  refine sd_ct rfl (Nat.le_of_ble_eq_true rfl) (fun hok hm => ?_)
  have hK : sd_k2 m m := sd_k2.rf
  show sd_Wp sd_SM 3 sY11_test 0 [some (.inr 15), none, none, none, none, none] [] m _
  refine sd_aload_n sD11_test_0 rfl ?_
  refine sd_bipush sD11_test_1 rfl (by decide) ?_
  refine sd_bipush sD11_test_3 rfl (by decide) ?_
  refine sd_callV (as := [.inl 7, .inl 10]) (st := []) sD11_test_5 sM11_173 rfl rfl sOM15 rfl (by decide) (Nat.le_of_ble_eq_true rfl) (cM_wordD0 fr B n p q _ m hx hB hS hL) (fun r m hq ho5 hm => ?_)
  obtain ⟨rfl, hk5_1, hS⟩ := hq
  replace hx := hk5_1.ns hx
  replace hK := hK.tr hk5_1
  rcases (⟨trivial⟩ : Nonempty True) with hy5_1
  ·
    show sd_Wp sd_SM 3 sY11_test 8 [some (.inr 15), none, none, none, none, none] [.inl (-1)] m _
    refine sd_istore_n (ls' := [some (.inr 15), some (.inl (-1)), none, none, none, none]) sD11_test_8 (by decide) rfl ?_
    refine sd_aload_n sD11_test_9 rfl ?_
    refine sd_callVp (as := []) (st := []) (v := .inl (B p)) sD11_test_10 sM11_164 sOM15 rfl rfl rfl (by decide) (Nat.le_of_ble_eq_true rfl) (cM_byteAt _ fr B n p _ m hx hB hS) (fun ho10 => ?_)
    refine sd_istore_n (ls' := [some (.inr 15), some (.inl (-1)), some (.inl (B p)), none, none, none]) sD11_test_13 (by decide) rfl ?_
    refine sd_aload_n sD11_test_14 rfl ?_
    refine sd_callVp (as := []) (st := []) (v := .inl 0) sD11_test_15 sM11_160 sOM15 rfl rfl rfl (by decide) (Nat.le_of_ble_eq_true rfl) (cM_isGood0 fr n p q _ m hx hS) (fun ho15 => ?_)
    refine sd_if_eq (tgt := 39) sD11_test_18 (by decide) (fun zc18 => ?_) (fun zc18 => (by exfalso; omega))
    refine sd_aload_n sD11_test_39 rfl ?_
    refine sd_callV (as := []) (st := []) sD11_test_40 sM11_167 rfl rfl sOM15 rfl (by decide) (Nat.le_of_ble_eq_true rfl) (cM_wrong0 fr n p q _ m hx hS) (fun r m hq ho40 hm => ?_)
    obtain ⟨rfl, hk40_2, hS⟩ := hq
    replace hx := hk40_2.ns hx
    replace hK := hK.tr hk40_2
    rcases (⟨trivial⟩ : Nonempty True) with hy40_2
    ·
      show sd_Wp sd_SM 3 sY11_test 43 [some (.inr 15), some (.inl (-1)), some (.inl (B p)), none, none, none] [] m _
      refine sd_iconst sD11_test_43 (by decide) ?_
      exact sd_zreturn sD11_test_44 rfl (by decide) (fun hm => ⟨rfl, hK, hS⟩)
