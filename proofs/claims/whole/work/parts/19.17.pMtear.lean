set_option maxRecDepth 100000 in
set_option maxHeartbeats 4000000 in
theorem pM_tear (x m : sd_M) (hx : sd_ns x m)  (hF : ∀ k : Nat, k < 7 → 0 ≤ x (4101 + k) ∧ x (4101 + k) ≤ 1000000) (hk : x 4260 = 0 ∨ x 4260 = 1) : sd_Ct sd_SM 1 sY11_tear [.inr 15] m (sd_Qp (sp_tear x)) := by
  refine sd_ct rfl (Nat.le_of_ble_eq_true rfl) (fun hok hm => ?_)
  show sd_Wp sd_SM 1 sY11_tear 0 [some (.inr 15), none] [] m _
  refine sd_aload_n sD11_tear_0 rfl ?_
  refine sd_getfx (v := x 4260) hx sD11_tear_1 sF11_258 sGM15_2 (by decide) rfl ?_
  rcases (show x 4260 = 0 ∨ x 4260 = 1 by exact hk) with zs4 | zs4
  ·
    refine sd_eqs (ls' := [some (.inr 15), none]) (st' := [.inl 0]) ?_ rfl (by rw [zs4])
    refine sd_if_eq (tgt := 11) sD11_tear_4 (by decide) (fun zc4 => ?_) (fun zc4 => (by exfalso; omega))
    refine sd_iconst sD11_tear_11 (by decide) ?_
    refine sd_istore_n (ls' := [some (.inr 15), some (.inl 0)]) sD11_tear_12 (by decide) rfl ?_
    refine sd_aload_n sD11_tear_13 rfl ?_
    refine sd_iconst sD11_tear_14 (by decide) ?_
    refine sd_putfx sd_sokM sd_oneM hx sD11_tear_15 sF11_258 sGM15_2 (Or.inr ⟨rfl, by decide⟩) (fun m hx em15 => ?_)
    refine sd_iload_n sD11_tear_18 rfl ?_
    refine sd_ireturn sD11_tear_19 rfl (fun hr hm => ?_)
    exact sd_done (by unfold sp_tear; first | rfl | (rw [zs4]; done) | (rw [zs4]; rfl)) hx
  ·
    refine sd_eqs (ls' := [some (.inr 15), none]) (st' := [.inl 1]) ?_ rfl (by rw [zs4])
    refine sd_if_eq (tgt := 11) sD11_tear_4 (by decide) (fun zc4 => (by exfalso; omega)) (fun zc4 => ?_)
    refine sd_iconst sD11_tear_7 (by decide) ?_
    refine sd_goto (tgt := 12) sD11_tear_8 (by decide) ?_
    refine sd_istore_n (ls' := [some (.inr 15), some (.inl 1)]) sD11_tear_12 (by decide) rfl ?_
    refine sd_aload_n sD11_tear_13 rfl ?_
    refine sd_iconst sD11_tear_14 (by decide) ?_
    refine sd_putfx sd_sokM sd_oneM hx sD11_tear_15 sF11_258 sGM15_2 (Or.inr ⟨rfl, by decide⟩) (fun m hx em15 => ?_)
    refine sd_iload_n sD11_tear_18 rfl ?_
    refine sd_ireturn sD11_tear_19 rfl (fun hr hm => ?_)
    exact sd_done (by unfold sp_tear; first | rfl | (rw [zs4]; done) | (rw [zs4]; rfl)) hx
