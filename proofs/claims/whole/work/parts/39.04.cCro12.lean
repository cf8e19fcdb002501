set_option maxRecDepth 100000 in
set_option maxHeartbeats 4000000 in
theorem cC_ro12 (B : Nat → Int) (n p : Nat) (x m : sd_M) (hx : sd_ns x m) (hT : sd_TB x B n) (hp : m 5390 = (p : Int)) (hpn : p ≤ n) : sd_Ct sd_SC 5 sY7_readOneOf [.inr 118, .inr 922, .inr 923, .inr 924, .inr 912] m (fun r m' => sd_ns x m' ∧ sd_roP n (sd_roA B p [12, 13, 14, 2] 0) r m') := by
  refine sd_ct rfl (Nat.le_of_ble_eq_true rfl) (fun hok hm => ?_)
  have t1 := hT.1
  have t2 := hT.2.1
  show sd_Wp sd_SC 5 sY7_readOneOf 0 [some (.inr 118), some (.inr 922), some (.inr 923), some (.inr 924), some (.inr 912)] [] m _
  refine sd_aload_n sD7_readOneOf_0 rfl ?_
  refine sd_aload_n sD7_readOneOf_1 rfl ?_
  refine sd_callVp (as := [.inr 922]) (st := []) (v := .inl (sd_b ((¬ sd_len.getD 12 0 = 0) ∧ B p = sd_wch 12 0))) sD7_readOneOf_2 sM7_112 sOC118 rfl rfl rfl (by decide) (Nat.le_of_ble_eq_true rfl) (cC_begins 12 (by decide) B n p _ m hx hT hp (by omega)) (fun ho2 => ?_)
  refine sd_bif_eq (tgt := 22) sD7_readOneOf_5 (by decide) (fun zc5 => ?_) (fun zc5 => ?_)
  ·
    refine sd_aload_n sD7_readOneOf_22 rfl ?_
    refine sd_aload_n sD7_readOneOf_23 rfl ?_
    refine sd_callVp (as := [.inr 923]) (st := []) (v := .inl (sd_b ((¬ sd_len.getD 13 0 = 0) ∧ B p = sd_wch 13 0))) sD7_readOneOf_24 sM7_112 sOC118 rfl rfl rfl (by decide) (Nat.le_of_ble_eq_true rfl) (cC_begins 13 (by decide) B n p _ m hx hT hp (by omega)) (fun ho24 => ?_)
    refine sd_bif_eq (tgt := 44) sD7_readOneOf_27 (by decide) (fun zc27 => ?_) (fun zc27 => ?_)
    ·
      refine sd_aload_n sD7_readOneOf_44 rfl ?_
      refine sd_aload_n sD7_readOneOf_45 rfl ?_
      refine sd_callVp (as := [.inr 924]) (st := []) (v := .inl (sd_b ((¬ sd_len.getD 14 0 = 0) ∧ B p = sd_wch 14 0))) sD7_readOneOf_46 sM7_112 sOC118 rfl rfl rfl (by decide) (Nat.le_of_ble_eq_true rfl) (cC_begins 14 (by decide) B n p _ m hx hT hp (by omega)) (fun ho46 => ?_)
      refine sd_bif_eq (tgt := 66) sD7_readOneOf_49 (by decide) (fun zc49 => ?_) (fun zc49 => ?_)
      ·
        refine sd_aload_n sD7_readOneOf_66 rfl ?_
        refine sd_aload sD7_readOneOf_67 rfl ?_
        refine sd_callVp (as := [.inr 912]) (st := []) (v := .inl (sd_b ((¬ sd_len.getD 2 0 = 0) ∧ B p = sd_wch 2 0))) sD7_readOneOf_69 sM7_112 sOC118 rfl rfl rfl (by decide) (Nat.le_of_ble_eq_true rfl) (cC_begins 2 (by decide) B n p _ m hx hT hp (by omega)) (fun ho69 => ?_)
        refine sd_bif_eq (tgt := 88) sD7_readOneOf_72 (by decide) (fun zc72 => ?_) (fun zc72 => (by exact absurd rfl zc72.1))
        refine sd_iconst sD7_readOneOf_88 (by decide) ?_
        refine sd_ireturn sD7_readOneOf_89 rfl (fun hr hm => ?_)
        exact ⟨hx, Or.inl ⟨p, by simp only [sd_roA]; ((repeat (first | rw [if_pos (by first | assumption | omega)] | rw [if_neg (by first | assumption | omega)])); try rfl), rfl, hp, by omega⟩⟩
      ·
        refine sd_aload_n sD7_readOneOf_52 rfl ?_
        refine sd_aload_n sD7_readOneOf_53 rfl ?_
        refine sd_callV (as := [.inr 924]) (st := []) sD7_readOneOf_54 sM7_35 rfl rfl sOC118 rfl (by decide) (Nat.le_of_ble_eq_true rfl) (cC_spells 14 (by decide) B n p _ m hx hT hp (by omega)) (fun r m hq ho54 hm => ?_)
        obtain ⟨rfl, hx, hq54_1⟩ := hq
        have hn54_1 : sd_fe B p 14 ≤ n := sd_fe_le hT (by decide) (by omega)
        rcases (Classical.em (sd_ff B p 14 = -1)) with hb54_1 | hb54_1
        ·
          rw [sd_b1 hb54_1]
          show sd_Wp sd_SC 5 sY7_readOneOf 57 [some (.inr 118), some (.inr 922), some (.inr 923), some (.inr 924), some (.inr 912)] [.inl 1] m _
          refine sd_if_eq (tgt := 64) sD7_readOneOf_57 (by decide) (fun zc57 => (by exfalso; omega)) (fun zc57 => ?_)
          refine sd_iconst sD7_readOneOf_60 (by decide) ?_
          refine sd_goto (tgt := 65) sD7_readOneOf_61 (by decide) ?_
          refine sd_ireturn sD7_readOneOf_65 rfl (fun hr hm => ?_)
          exact ⟨hx, Or.inr ⟨2, (sd_fe B p 14), by simp only [sd_roA]; ((repeat (first | rw [if_pos (by first | assumption | omega)] | rw [if_neg (by first | assumption | omega)])); try rfl), rfl, hq54_1, by omega, by decide⟩⟩
        ·
          rw [sd_b0 hb54_1]
          show sd_Wp sd_SC 5 sY7_readOneOf 57 [some (.inr 118), some (.inr 922), some (.inr 923), some (.inr 924), some (.inr 912)] [.inl 0] m _
          refine sd_if_eq (tgt := 64) sD7_readOneOf_57 (by decide) (fun zc57 => ?_) (fun zc57 => (by exfalso; omega))
          refine sd_iconst sD7_readOneOf_64 (by decide) ?_
          refine sd_ireturn sD7_readOneOf_65 rfl (fun hr hm => ?_)
          exact ⟨hx, Or.inl ⟨(sd_fe B p 14), by simp only [sd_roA]; ((repeat (first | rw [if_pos (by first | assumption | omega)] | rw [if_neg (by first | assumption | omega)])); try rfl), rfl, hq54_1, by omega⟩⟩
    ·
      refine sd_aload_n sD7_readOneOf_30 rfl ?_
      refine sd_aload_n sD7_readOneOf_31 rfl ?_
      refine sd_callV (as := [.inr 923]) (st := []) sD7_readOneOf_32 sM7_35 rfl rfl sOC118 rfl (by decide) (Nat.le_of_ble_eq_true rfl) (cC_spells 13 (by decide) B n p _ m hx hT hp (by omega)) (fun r m hq ho32 hm => ?_)
      obtain ⟨rfl, hx, hq32_2⟩ := hq
      have hn32_2 : sd_fe B p 13 ≤ n := sd_fe_le hT (by decide) (by omega)
      rcases (Classical.em (sd_ff B p 13 = -1)) with hb32_2 | hb32_2
      ·
        rw [sd_b1 hb32_2]
        show sd_Wp sd_SC 5 sY7_readOneOf 35 [some (.inr 118), some (.inr 922), some (.inr 923), some (.inr 924), some (.inr 912)] [.inl 1] m _
        refine sd_if_eq (tgt := 42) sD7_readOneOf_35 (by decide) (fun zc35 => (by exfalso; omega)) (fun zc35 => ?_)
        refine sd_iconst sD7_readOneOf_38 (by decide) ?_
        refine sd_goto (tgt := 43) sD7_readOneOf_39 (by decide) ?_
        refine sd_ireturn sD7_readOneOf_43 rfl (fun hr hm => ?_)
        exact ⟨hx, Or.inr ⟨1, (sd_fe B p 13), by simp only [sd_roA]; ((repeat (first | rw [if_pos (by first | assumption | omega)] | rw [if_neg (by first | assumption | omega)])); try rfl), rfl, hq32_2, by omega, by decide⟩⟩
      ·
        rw [sd_b0 hb32_2]
        show sd_Wp sd_SC 5 sY7_readOneOf 35 [some (.inr 118), some (.inr 922), some (.inr 923), some (.inr 924), some (.inr 912)] [.inl 0] m _
        refine sd_if_eq (tgt := 42) sD7_readOneOf_35 (by decide) (fun zc35 => ?_) (fun zc35 => (by exfalso; omega))
        refine sd_iconst sD7_readOneOf_42 (by decide) ?_
        refine sd_ireturn sD7_readOneOf_43 rfl (fun hr hm => ?_)
        exact ⟨hx, Or.inl ⟨(sd_fe B p 13), by simp only [sd_roA]; ((repeat (first | rw [if_pos (by first | assumption | omega)] | rw [if_neg (by first | assumption | omega)])); try rfl), rfl, hq32_2, by omega⟩⟩
  ·
    refine sd_aload_n sD7_readOneOf_8 rfl ?_
    refine sd_aload_n sD7_readOneOf_9 rfl ?_
    refine sd_callV (as := [.inr 922]) (st := []) sD7_readOneOf_10 sM7_35 rfl rfl sOC118 rfl (by decide) (Nat.le_of_ble_eq_true rfl) (cC_spells 12 (by decide) B n p _ m hx hT hp (by omega)) (fun r m hq ho10 hm => ?_)
    obtain ⟨rfl, hx, hq10_3⟩ := hq
    have hn10_3 : sd_fe B p 12 ≤ n := sd_fe_le hT (by decide) (by omega)
    rcases (Classical.em (sd_ff B p 12 = -1)) with hb10_3 | hb10_3
    ·
      rw [sd_b1 hb10_3]
      show sd_Wp sd_SC 5 sY7_readOneOf 13 [some (.inr 118), some (.inr 922), some (.inr 923), some (.inr 924), some (.inr 912)] [.inl 1] m _
      refine sd_if_eq (tgt := 20) sD7_readOneOf_13 (by decide) (fun zc13 => (by exfalso; omega)) (fun zc13 => ?_)
      refine sd_iconst sD7_readOneOf_16 (by decide) ?_
      refine sd_goto (tgt := 21) sD7_readOneOf_17 (by decide) ?_
      refine sd_ireturn sD7_readOneOf_21 rfl (fun hr hm => ?_)
      exact ⟨hx, Or.inr ⟨0, (sd_fe B p 12), by simp only [sd_roA]; ((repeat (first | rw [if_pos (by first | assumption | omega)] | rw [if_neg (by first | assumption | omega)])); try rfl), rfl, hq10_3, by omega, by decide⟩⟩
    ·
      rw [sd_b0 hb10_3]
      show sd_Wp sd_SC 5 sY7_readOneOf 13 [some (.inr 118), some (.inr 922), some (.inr 923), some (.inr 924), some (.inr 912)] [.inl 0] m _
      refine sd_if_eq (tgt := 20) sD7_readOneOf_13 (by decide) (fun zc13 => ?_) (fun zc13 => (by exfalso; omega))
      refine sd_iconst sD7_readOneOf_20 (by decide) ?_
      refine sd_ireturn sD7_readOneOf_21 rfl (fun hr hm => ?_)
      exact ⟨hx, Or.inl ⟨(sd_fe B p 12), by simp only [sd_roA]; ((repeat (first | rw [if_pos (by first | assumption | omega)] | rw [if_neg (by first | assumption | omega)])); try rfl), rfl, hq10_3, by omega⟩⟩
