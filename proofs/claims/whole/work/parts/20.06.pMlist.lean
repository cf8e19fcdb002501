set_option maxRecDepth 100000 in
set_option maxHeartbeats 4000000 in
theorem pM_list (k : Int) (n : Int) (f : Int) (x m : sd_M) (hx : sd_ns x m)  (hF : ∀ k : Nat, k < 7 → 0 ≤ x (4101 + k) ∧ x (4101 + k) ≤ 1000000) : sd_Ct sd_SM 2 sY11_list [.inr 15, .inl k, .inl n, .inl f] m (sd_Qp (spM_list x k n f)) := by
  refine sd_ct rfl (Nat.le_of_ble_eq_true rfl) (fun hok hm => ?_)
  have r_k : sd_R k := hok (.inl k) (by simp)
  have r_n : sd_R n := hok (.inl n) (by simp)
  have r_f : sd_R f := hok (.inl f) (by simp)
  show sd_Wp sd_SM 2 sY11_list 0 [some (.inr 15), some (.inl k), some (.inl n), some (.inl f)] [] m _
  refine sd_iload_n sD11_list_0 rfl ?_
  refine sd_iconst sD11_list_1 (by decide) ?_
  refine sd_iconst sD11_list_2 (by decide) ?_
  refine sd_callSp (as := [.inl k, .inl 0, .inl 5]) (st := []) (v := .inl (sd_b (0 ≤ k ∧ k ≤ 5))) sD11_list_3 sM11_56 rfl rfl (by decide) (Nat.le_of_ble_eq_true rfl) (cM_in k 0 5 m) (fun ho3 => ?_)
  refine sd_bif_eq (tgt := 29) sD11_list_6 (by decide) (fun zc6 => ?_) (fun zc6 => ?_)
  ·
    refine sd_aload_n sD11_list_29 rfl ?_
    refine sd_iconst sD11_list_30 (by decide) ?_
    refine sd_callV (as := [.inl 0]) (st := []) sD11_list_31 sM11_78 rfl rfl sOM15 rfl (by decide) (Nat.le_of_ble_eq_true rfl) (cM_finding 0 (by decide) _ m hx (hF 0 (by decide))) (fun r m hq ho31 hm => ?_)
    obtain ⟨rfl, hx⟩ := hq
    show sd_Wp sd_SM 2 sY11_list 34 [some (.inr 15), some (.inl k), some (.inl n), some (.inl f)] [.inl (-1000001)] m _
    refine sd_ireturn sD11_list_34 rfl (fun hr hm => ?_)
    exact sd_done2 (by unfold spM_list; ((repeat (first | rw [if_pos (by first | assumption | omega)] | rw [if_neg (by first | assumption | omega)])); try rfl)) (by intro j; simp only [sd_up]; (repeat' (first | rfl | split)); all_goals omega) hx
  ·
    refine sd_iload_n sD11_list_9 rfl ?_
    refine sd_iconst sD11_list_10 (by decide) ?_
    refine sd_sipush sD11_list_11 rfl (by decide) ?_
    refine sd_callSp (as := [.inl n, .inl 0, .inl 999]) (st := []) (v := .inl (sd_b (0 ≤ n ∧ n ≤ 999))) sD11_list_14 sM11_56 rfl rfl (by decide) (Nat.le_of_ble_eq_true rfl) (cM_in n 0 999 m) (fun ho14 => ?_)
    refine sd_bif_eq (tgt := 29) sD11_list_17 (by decide) (fun zc17 => ?_) (fun zc17 => ?_)
    ·
      refine sd_aload_n sD11_list_29 rfl ?_
      refine sd_iconst sD11_list_30 (by decide) ?_
      refine sd_callV (as := [.inl 0]) (st := []) sD11_list_31 sM11_78 rfl rfl sOM15 rfl (by decide) (Nat.le_of_ble_eq_true rfl) (cM_finding 0 (by decide) _ m hx (hF 0 (by decide))) (fun r m hq ho31 hm => ?_)
      obtain ⟨rfl, hx⟩ := hq
      show sd_Wp sd_SM 2 sY11_list 34 [some (.inr 15), some (.inl k), some (.inl n), some (.inl f)] [.inl (-1000001)] m _
      refine sd_ireturn sD11_list_34 rfl (fun hr hm => ?_)
      exact sd_done2 (by unfold spM_list; ((repeat (first | rw [if_pos (by first | assumption | omega)] | rw [if_neg (by first | assumption | omega)])); try rfl)) (by intro j; simp only [sd_up]; (repeat' (first | rfl | split)); all_goals omega) hx
    ·
      refine sd_iload_n sD11_list_20 rfl ?_
      refine sd_iconst sD11_list_21 (by decide) ?_
      refine sd_iload_n sD11_list_22 rfl ?_
      refine sd_callSp (as := [.inl f, .inl 0, .inl n]) (st := []) (v := .inl (sd_b (0 ≤ f ∧ f ≤ n))) sD11_list_23 sM11_56 rfl rfl (by decide) (Nat.le_of_ble_eq_true rfl) (cM_in f 0 n m) (fun ho23 => ?_)
      refine sd_bif_ne (tgt := 35) sD11_list_26 (by decide) (fun zc26 => ?_) (fun zc26 => ?_)
      ·
        refine sd_aload_n sD11_list_35 rfl ?_
        refine sd_getfr sD11_list_36 sF11_7 sGM15_0 ?_
        refine sd_sipush sD11_list_39 rfl (by decide) ?_
        refine sd_iconst sD11_list_42 (by decide) ?_
        refine sd_iload_n sD11_list_43 rfl ?_
        refine sd_imul (z := (2 * k)) sD11_list_44 (by omega) (by omega) ?_
        refine sd_iadd (z := (1290 + (2 * k))) sD11_list_45 (by omega) (by omega) ?_
        refine sd_iload_n sD11_list_46 rfl ?_
        refine sd_iastx (a := (1290 + (2 * k.toNat))) sd_sokM hx sD11_list_47 sAM0 (by omega) (fun m hx em47 => ?_)
        refine sd_aload_n sD11_list_48 rfl ?_
        refine sd_getfr sD11_list_49 sF11_7 sGM15_0 ?_
        refine sd_sipush sD11_list_52 rfl (by decide) ?_
        refine sd_iconst sD11_list_55 (by decide) ?_
        refine sd_iload_n sD11_list_56 rfl ?_
        refine sd_imul (z := (2 * k)) sD11_list_57 (by omega) (by omega) ?_
        refine sd_iadd (z := (1290 + (2 * k))) sD11_list_58 (by omega) (by omega) ?_
        refine sd_iconst sD11_list_59 (by decide) ?_
        refine sd_iadd (z := ((1290 + (2 * k)) + 1)) sD11_list_60 (by omega) (by omega) ?_
        refine sd_iload_n sD11_list_61 rfl ?_
        refine sd_iastx (a := ((1290 + (2 * k.toNat)) + 1)) sd_sokM hx sD11_list_62 sAM0 (by omega) (fun m hx em62 => ?_)
        refine sd_iconst sD11_list_63 (by decide) ?_
        refine sd_ireturn sD11_list_64 rfl (fun hr hm => ?_)
        exact sd_done2 (by unfold spM_list; ((repeat (first | rw [if_pos (by first | assumption | omega)] | rw [if_neg (by first | assumption | omega)])); try rfl)) (by intro j; simp only [sd_up]; (repeat' (first | rfl | split)); all_goals omega) hx
      ·
        refine sd_aload_n sD11_list_29 rfl ?_
        refine sd_iconst sD11_list_30 (by decide) ?_
        refine sd_callV (as := [.inl 0]) (st := []) sD11_list_31 sM11_78 rfl rfl sOM15 rfl (by decide) (Nat.le_of_ble_eq_true rfl) (cM_finding 0 (by decide) _ m hx (hF 0 (by decide))) (fun r m hq ho31 hm => ?_)
        obtain ⟨rfl, hx⟩ := hq
        show sd_Wp sd_SM 2 sY11_list 34 [some (.inr 15), some (.inl k), some (.inl n), some (.inl f)] [.inl (-1000001)] m _
        refine sd_ireturn sD11_list_34 rfl (fun hr hm => ?_)
        exact sd_done2 (by unfold spM_list; ((repeat (first | rw [if_pos (by first | assumption | omega)] | rw [if_neg (by first | assumption | omega)])); try rfl)) (by intro j; simp only [sd_up]; (repeat' (first | rfl | split)); all_goals omega) hx
