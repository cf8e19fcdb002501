set_option maxRecDepth 100000 in
set_option maxHeartbeats 4000000 in
theorem pM_undo (x m : sd_M) (hx : sd_ns x m)  (hF : ∀ k : Nat, k < 7 → 0 ≤ x (4101 + k) ∧ x (4101 + k) ≤ 1000000) (hk : x 4260 = 0 ∨ x 4260 = 1) : sd_Ct sd_SM 1 sY11_undo [.inr 15] m (sd_Qp (spM_undo x)) := by
  refine sd_ct rfl (Nat.le_of_ble_eq_true rfl) (fun hok hm => ?_)
  show sd_Wp sd_SM 1 sY11_undo 0 [some (.inr 15), none] [] m _
  refine sd_aload_n sD11_undo_0 rfl ?_
  refine sd_getfx (v := x 4260) hx sD11_undo_1 sF11_258 sGM15_2 (by decide) rfl ?_
  refine sd_if_ne (tgt := 13) sD11_undo_4 (by decide) (fun zc4 => ?_) (fun zc4 => ?_)
  ·
    refine sd_iconst sD11_undo_13 (by decide) ?_
    refine sd_istore_n (ls' := [some (.inr 15), some (.inl 0)]) sD11_undo_14 (by decide) rfl ?_
    refine sd_forX (1554) (fun zi15 : Nat => [some (.inr 15), some (.inl (zi15 : Int))]) (fun zi15 : Nat => sd_cpm x 2000 0 zi15) (fun (zi15 : Nat) (m : sd_M) => True) (by rfl) (fun zi15 hizi15 m hx hpzi15 ihzi15 => ?_) (fun m hx hpzi15 => ?_) (by rw [sd_cpm_0]; exact hx) (by trivial)
    ·
      refine sd_iload_n sD11_undo_15 rfl ?_
      refine sd_sipush sD11_undo_16 rfl (by decide) ?_
      refine sd_icmp_ge (tgt := 40) sD11_undo_19 (by decide) (fun zc19 => (by exfalso; omega)) (fun zc19 => ?_)
      refine sd_aload_n sD11_undo_22 rfl ?_
      refine sd_getfr sD11_undo_23 sF11_7 sGM15_0 ?_
      refine sd_iload_n sD11_undo_26 rfl ?_
      refine sd_aload_n sD11_undo_27 rfl ?_
      refine sd_getfr sD11_undo_28 sF11_13 sGM15_1 ?_
      refine sd_iload_n sD11_undo_31 rfl ?_
      refine sd_ialdx (a := (2000 + zi15)) (v := x (2000 + zi15)) hx sD11_undo_32 sAM1 (by omega) (by unfold sd_cpm; rw [if_neg (by omega)]) ?_
      refine sd_iastx (a := zi15) sd_sokM hx sD11_undo_33 sAM0 (by omega) (fun m hx em33 => ?_)
      refine sd_iinc (y := ((zi15 : Int) + 1)) (ls' := [some (.inr 15), some (.inl ((zi15 : Int) + 1))]) sD11_undo_34 rfl (by omega) (by omega) (by decide) rfl ?_
      refine sd_goto (tgt := 15) sD11_undo_37 (by decide) ?_
      exact sd_eqw (ls' := [some (.inr 15), some (.inl ((zi15 + 1 : Nat) : Int))]) (ihzi15 m (by exact sd_nseq (fun j => by have q := congrFun (sd_cpm_s x (sa := 2000) (da := 0) (n := zi15)) j; rw [Nat.zero_add] at q; exact q) hx) (by trivial)) (by rw [show (((zi15 : Int) + 1) : Int) = ((zi15 + 1 : Nat) : Int) from by omega]) rfl
    ·
      show sd_Wp sd_SM 1 sY11_undo 15 [some (.inr 15), some (.inl (1554 : Int))] [] m _
      refine sd_iload_n sD11_undo_15 rfl ?_
      refine sd_sipush sD11_undo_16 rfl (by decide) ?_
      refine sd_icmp_ge (tgt := 40) sD11_undo_19 (by decide) (fun zc19 => ?_) (fun zc19 => (by exfalso; omega))
      refine sd_aload_n sD11_undo_40 rfl ?_
      refine sd_getfr sD11_undo_41 sF11_7 sGM15_0 ?_
      refine sd_iconst sD11_undo_44 (by decide) ?_
      refine sd_ialdx (a := 0) (v := (sd_cpm x 2000 0 1554) 0) hx sD11_undo_45 sAM0 (by omega) rfl ?_
      refine sd_ireturn sD11_undo_46 rfl (fun hr hm => ?_)
      exact sd_done (by unfold spM_undo; ((repeat (first | rw [if_pos (by first | assumption | omega)] | rw [if_neg (by first | assumption | omega)])); try rfl); try (congr 1; done)) hx
  ·
    refine sd_aload_n sD11_undo_7 rfl ?_
    refine sd_iconst sD11_undo_8 (by decide) ?_
    refine sd_callV (as := [.inl 3]) (st := []) sD11_undo_9 sM11_78 rfl rfl sOM15 rfl (by decide) (Nat.le_of_ble_eq_true rfl) (cM_finding 3 (by decide) _ m hx (hF 3 (by decide))) (fun r m hq ho9 hm => ?_)
    obtain ⟨rfl, hx⟩ := hq
    show sd_Wp sd_SM 1 sY11_undo 12 [some (.inr 15), none] [.inl (-1000004)] m _
    refine sd_ireturn sD11_undo_12 rfl (fun hr hm => ?_)
    exact sd_done (by unfold spM_undo; ((repeat (first | rw [if_pos (by first | assumption | omega)] | rw [if_neg (by first | assumption | omega)])); try rfl); try (congr 1; done)) hx
