set_option maxRecDepth 100000 in
set_option maxHeartbeats 4000000 in
theorem pM_image (x m : sd_M) (hx : sd_ns x m)  (hF : ∀ k : Nat, k < 7 → 0 ≤ x (4101 + k) ∧ x (4101 + k) ≤ 1000000) (hk : x 4260 = 0 ∨ x 4260 = 1) : sd_Ct sd_SM 1 sY11_image [.inr 15] m (sd_Qp (spM_image x)) := by
  refine sd_ct rfl (Nat.le_of_ble_eq_true rfl) (fun hok hm => ?_)
  show sd_Wp sd_SM 1 sY11_image 0 [some (.inr 15), none] [] m _
  refine sd_iconst sD11_image_0 (by decide) ?_
  refine sd_istore_n (ls' := [some (.inr 15), some (.inl 0)]) sD11_image_1 (by decide) rfl ?_
  refine sd_forX (1554) (fun zi2 : Nat => [some (.inr 15), some (.inl (zi2 : Int))]) (fun zi2 : Nat => sd_cpm x 0 2000 zi2) (fun (zi2 : Nat) (m : sd_M) => True) (by rfl) (fun zi2 hizi2 m hx hpzi2 ihzi2 => ?_) (fun m hx hpzi2 => ?_) (by rw [sd_cpm_0]; exact hx) (by trivial)
  ·
    refine sd_iload_n sD11_image_2 rfl ?_
    refine sd_sipush sD11_image_3 rfl (by decide) ?_
    refine sd_icmp_ge (tgt := 27) sD11_image_6 (by decide) (fun zc6 => (by exfalso; omega)) (fun zc6 => ?_)
    refine sd_aload_n sD11_image_9 rfl ?_
    refine sd_getfr sD11_image_10 sF11_13 sGM15_1 ?_
    refine sd_iload_n sD11_image_13 rfl ?_
    refine sd_aload_n sD11_image_14 rfl ?_
    refine sd_getfr sD11_image_15 sF11_7 sGM15_0 ?_
    refine sd_iload_n sD11_image_18 rfl ?_
    refine sd_ialdx (a := zi2) (v := x zi2) hx sD11_image_19 sAM0 (by omega) (by unfold sd_cpm; rw [if_neg (by omega)]) ?_
    refine sd_iastx (a := (2000 + zi2)) sd_sokM hx sD11_image_20 sAM1 (by omega) (fun m hx em20 => ?_)
    refine sd_iinc (y := ((zi2 : Int) + 1)) (ls' := [some (.inr 15), some (.inl ((zi2 : Int) + 1))]) sD11_image_21 rfl (by omega) (by omega) (by decide) rfl ?_
    refine sd_goto (tgt := 2) sD11_image_24 (by decide) ?_
    exact sd_eqw (ls' := [some (.inr 15), some (.inl ((zi2 + 1 : Nat) : Int))]) (ihzi2 m (by exact sd_nseq (fun j => by have q := congrFun (sd_cpm_s x (sa := 0) (da := 2000) (n := zi2)) j; rw [Nat.zero_add] at q; exact q) hx) (by trivial)) (by rw [show (((zi2 : Int) + 1) : Int) = ((zi2 + 1 : Nat) : Int) from by omega]) rfl
  ·
    show sd_Wp sd_SM 1 sY11_image 2 [some (.inr 15), some (.inl (1554 : Int))] [] m _
    refine sd_iload_n sD11_image_2 rfl ?_
    refine sd_sipush sD11_image_3 rfl (by decide) ?_
    refine sd_icmp_ge (tgt := 27) sD11_image_6 (by decide) (fun zc6 => ?_) (fun zc6 => (by exfalso; omega))
    refine sd_aload_n sD11_image_27 rfl ?_
    refine sd_iconst sD11_image_28 (by decide) ?_
    refine sd_putfx sd_sokM sd_oneM hx sD11_image_29 sF11_258 sGM15_2 (Or.inr ⟨rfl, by decide⟩) (fun m hx em29 => ?_)
    refine sd_iconst sD11_image_32 (by decide) ?_
    refine sd_ireturn sD11_image_33 rfl (fun hr hm => ?_)
    exact sd_done (by unfold spM_image; ((repeat (first | rw [if_pos (by first | assumption | omega)] | rw [if_neg (by first | assumption | omega)])); try rfl)) hx
