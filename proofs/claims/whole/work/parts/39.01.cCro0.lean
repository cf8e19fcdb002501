set_option maxRecDepth 100000 in
set_option maxHeartbeats 4000000 in
theorem cC_ro0 (B : Nat → Int) (n p : Nat) (x m : sd_M) (hx : sd_ns x m) (hT : sd_TB x B n) (hp : m 5390 = (p : Int)) (hpn : p ≤ n) : sd_Ct sd_SC 5 sY7_readOneOf [.inr 118, .inr 910, .inr 911, .inr 912, .inr 912] m (fun r m' => sd_ns x m' ∧ sd_roP n (sd_roA B p [0, 1, 2, 2] 0) r m') := by
  refine sd_ct rfl (Nat.le_of_ble_eq_true rfl) (fun hok hm => ?_)
  have t1 := hT.1
  have t2 := hT.2.1
  show sd_Wp sd_SC 5 sY7_readOneOf 0 [some (.inr 118), some (.inr 910), some (.inr 911), some (.inr 912), some (.inr 912)] [] m _
  refine sd_aload_n sD7_readOneOf_0 rfl ?_
  refine sd_aload_n sD7_readOneOf_1 rfl ?_
  refine sd_callVp (as := [.inr 910]) (st := []) (v := .inl (sd_b ((¬ sd_len.getD 0 0 = 0) ∧ B p = sd_wch 0 0))) sD7_readOneOf_2 sM7_112 sOC118 rfl rfl rfl (by decide) (Nat.le_of_ble_eq_true rfl) (cC_begins 0 (by decide) B n p _ m hx hT hp (by omega)) (fun ho2 => ?_)
  refine sd_bif_eq (tgt := 22) sD7_readOneOf_5 (by decide) (fun zc5 => ?_) (fun zc5 => ?_)
  ·
    refine sd_aload_n sD7_readOneOf_22 rfl ?_
    refine sd_aload_n sD7_readOneOf_23 rfl ?_
    refine sd_callVp (as := [.inr 911]) (st := []) (v := .inl (sd_b ((¬ sd_len.getD 1 0 = 0) ∧ B p = sd_wch 1 0))) sD7_readOneOf_24 sM7_112 sOC118 rfl rfl rfl (by decide) (Nat.le_of_ble_eq_true rfl) (cC_begins 1 (by decide) B n p _ m hx hT hp (by omega)) (fun ho24 => ?_)
    refine sd_bif_eq (tgt := 44) sD7_readOneOf_27 (by decide) (fun zc27 => ?_) (fun zc27 => ?_)
    ·
      refine sd_aload_n sD7_readOneOf_44 rfl ?_
      refine sd_aload_n sD7_readOneOf_45 rfl ?_
      refine sd_callVp (as := [.inr 912]) (st := []) (v := .inl (sd_b ((¬ sd_len.getD 2 0 = 0) ∧ B p = sd_wch 2 0))) sD7_readOneOf_46 sM7_112 sOC118 rfl rfl rfl (by decide) (Nat.le_of_ble_eq_true rfl) (cC_begins 2 (by decide) B n p _ m hx hT hp (by omega)) (fun ho46 => ?_)
      refine sd_bif_eq (tgt := 66) sD7_readOneOf_49 (by decide) (fun zc49 => ?_) (fun zc49 => (by exact absurd rfl zc49.1))
      refine sd_aload_n sD7_readOneOf_66 rfl ?_
      refine sd_aload sD7_readOneOf_67 rfl ?_
      refine sd_callVp (as := [.inr 912]) (st := []) (v := .inl (sd_b ((¬ sd_len.getD 2 0 = 0) ∧ B p = sd_wch 2 0))) sD7_readOneOf_69 sM7_112 sOC118 rfl rfl rfl (by decide) (Nat.le_of_ble_eq_true rfl) (cC_begins 2 (by decide) B n p _ m hx hT hp (by omega)) (fun ho69 => ?_)
      refine sd_bif_eq (tgt := 88) sD7_readOneOf_72 (by decide) (fun zc72 => ?_) (fun zc72 => (by exact absurd rfl zc72.1))
      refine sd_iconst sD7_readOneOf_88 (by decide) ?_
      refine sd_ireturn sD7_readOneOf_89 rfl (fun hr hm => ?_)
      exact ⟨hx, Or.inl ⟨p, by simp only [sd_roA]; ((repeat (first | rw [if_pos (by first | assumption | omega)] | rw [if_neg (by first | assumption | omega)])); try rfl), rfl, hp, by omega⟩⟩
    ·
      refine sd_aload_n sD7_readOneOf_30 rfl ?_
      refine sd_aload_n sD7_readOneOf_31 rfl ?_
      refine sd_callV (as := [.inr 911]) (st := []) sD7_readOneOf_32 sM7_35 rfl rfl sOC118 rfl (by decide) (Nat.le_of_ble_eq_true rfl) (cC_spells 1 (by decide) B n p _ m hx hT hp (by omega)) (fun r m hq ho32 hm => ?_)
      obtain ⟨rfl, hx, hq32_1⟩ := hq
      have hn32_1 : sd_fe B p 1 ≤ n := sd_fe_le hT (by decide) (by omega)
      rcases (Classical.em (sd_ff B p 1 = -1)) with hb32_1 | hb32_1
      ·
        rw [sd_b1 hb32_1]
        show sd_Wp sd_SC 5 sY7_readOneOf 35 [some (.inr 118), some (.inr 910), some (.inr 911), some (.inr 912), some (.inr 912)] [.inl 1] m _
        refine sd_if_eq (tgt := 42) sD7_readOneOf_35 (by decide) (fun zc35 => (by exfalso; omega)) (fun zc35 => ?_)
        refine sd_iconst sD7_readOneOf_38 (by decide) ?_
        refine sd_goto (tgt := 43) sD7_readOneOf_39 (by decide) ?_
        refine sd_ireturn sD7_readOneOf_43 rfl (fun hr hm => ?_)
        exact ⟨hx, Or.inr ⟨1, (sd_fe B p 1), by simp only [sd_roA]; ((repeat (first | rw [if_pos (by first | assumption | omega)] | rw [if_neg (by first | assumption | omega)])); try rfl), rfl, hq32_1, by omega, by decide⟩⟩
      ·
        rw [sd_b0 hb32_1]
        show sd_Wp sd_SC 5 sY7_readOneOf 35 [some (.inr 118), some (.inr 910), some (.inr 911), some (.inr 912), some (.inr 912)] [.inl 0] m _
        refine sd_if_eq (tgt := 42) sD7_readOneOf_35 (by decide) (fun zc35 => ?_) (fun zc35 => (by exfalso; omega))
        refine sd_iconst sD7_readOneOf_42 (by decide) ?_
        refine sd_ireturn sD7_readOneOf_43 rfl (fun hr hm => ?_)
        exact ⟨hx, Or.inl ⟨(sd_fe B p 1), by simp only [sd_roA]; ((repeat (first | rw [if_pos (by first | assumption | omega)] | rw [if_neg (by first | assumption | omega)])); try rfl), rfl, hq32_1, by omega⟩⟩
  ·
    refine sd_aload_n sD7_readOneOf_8 rfl ?_
    refine sd_aload_n sD7_readOneOf_9 rfl ?_
    refine sd_callV (as := [.inr 910]) (st := []) sD7_readOneOf_10 sM7_35 rfl rfl sOC118 rfl (by decide) (Nat.le_of_ble_eq_true rfl) (cC_spells 0 (by decide) B n p _ m hx hT hp (by omega)) (fun r m hq ho10 hm => ?_)
    obtain ⟨rfl, hx, hq10_2⟩ := hq
    have hn10_2 : sd_fe B p 0 ≤ n := sd_fe_le hT (by decide) (by omega)
    rcases (Classical.em (sd_ff B p 0 = -1)) with hb10_2 | hb10_2
    ·
      rw [sd_b1 hb10_2]
      show sd_Wp sd_SC 5 sY7_readOneOf 13 [some (.inr 118), some (.inr 910), some (.inr 911), some (.inr 912), some (.inr 912)] [.inl 1] m _
      refine sd_if_eq (tgt := 20) sD7_readOneOf_13 (by decide) (fun zc13 => (by exfalso; omega)) (fun zc13 => ?_)
      refine sd_iconst sD7_readOneOf_16 (by decide) ?_
      refine sd_goto (tgt := 21) sD7_readOneOf_17 (by decide) ?_
      refine sd_ireturn sD7_readOneOf_21 rfl (fun hr hm => ?_)
      exact ⟨hx, Or.inr ⟨0, (sd_fe B p 0), by simp only [sd_roA]; ((repeat (first | rw [if_pos (by first | assumption | omega)] | rw [if_neg (by first | assumption | omega)])); try rfl), rfl, hq10_2, by omega, by decide⟩⟩
    ·
      rw [sd_b0 hb10_2]
      show sd_Wp sd_SC 5 sY7_readOneOf 13 [some (.inr 118), some (.inr 910), some (.inr 911), some (.inr 912), some (.inr 912)] [.inl 0] m _
      refine sd_if_eq (tgt := 20) sD7_readOneOf_13 (by decide) (fun zc13 => ?_) (fun zc13 => (by exfalso; omega))
      refine sd_iconst sD7_readOneOf_20 (by decide) ?_
      refine sd_ireturn sD7_readOneOf_21 rfl (fun hr hm => ?_)
      exact ⟨hx, Or.inl ⟨(sd_fe B p 0), by simp only [sd_roA]; ((repeat (first | rw [if_pos (by first | assumption | omega)] | rw [if_neg (by first | assumption | omega)])); try rfl), rfl, hq10_2, by omega⟩⟩
