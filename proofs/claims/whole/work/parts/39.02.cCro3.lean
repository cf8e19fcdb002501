set_option maxRecDepth 100000 in
set_option maxHeartbeats 4000000 in
theorem cC_ro3 (B : Nat → Int) (n p : Nat) (x m : sd_M) (hx : sd_ns x m) (hT : sd_TB x B n) (hp : m 5390 = (p : Int)) (hpn : p ≤ n) : sd_Ct sd_SC 5 sY7_readOneOf [.inr 118, .inr 913, .inr 914, .inr 915, .inr 916] m (fun r m' => sd_ns x m' ∧ sd_roP n (sd_roA B p [3, 4, 5, 6] 0) r m') := by
  refine sd_ct rfl (Nat.le_of_ble_eq_true rfl) (fun hok hm => ?_)
  have t1 := hT.1
  have t2 := hT.2.1
  show sd_Wp sd_SC 5 sY7_readOneOf 0 [some (.inr 118), some (.inr 913), some (.inr 914), some (.inr 915), some (.inr 916)] [] m _
  refine sd_aload_n sD7_readOneOf_0 rfl ?_
  refine sd_aload_n sD7_readOneOf_1 rfl ?_
  refine sd_callVp (as := [.inr 913]) (st := []) (v := .inl (sd_b ((¬ sd_len.getD 3 0 = 0) ∧ B p = sd_wch 3 0))) sD7_readOneOf_2 sM7_112 sOC118 rfl rfl rfl (by decide) (Nat.le_of_ble_eq_true rfl) (cC_begins 3 (by decide) B n p _ m hx hT hp (by omega)) (fun ho2 => ?_)
  refine sd_bif_eq (tgt := 22) sD7_readOneOf_5 (by decide) (fun zc5 => ?_) (fun zc5 => ?_)
  ·
    refine sd_aload_n sD7_readOneOf_22 rfl ?_
    refine sd_aload_n sD7_readOneOf_23 rfl ?_
    refine sd_callVp (as := [.inr 914]) (st := []) (v := .inl (sd_b ((¬ sd_len.getD 4 0 = 0) ∧ B p = sd_wch 4 0))) sD7_readOneOf_24 sM7_112 sOC118 rfl rfl rfl (by decide) (Nat.le_of_ble_eq_true rfl) (cC_begins 4 (by decide) B n p _ m hx hT hp (by omega)) (fun ho24 => ?_)
    refine sd_bif_eq (tgt := 44) sD7_readOneOf_27 (by decide) (fun zc27 => ?_) (fun zc27 => ?_)
    ·
      refine sd_aload_n sD7_readOneOf_44 rfl ?_
      refine sd_aload_n sD7_readOneOf_45 rfl ?_
      refine sd_callVp (as := [.inr 915]) (st := []) (v := .inl (sd_b ((¬ sd_len.getD 5 0 = 0) ∧ B p = sd_wch 5 0))) sD7_readOneOf_46 sM7_112 sOC118 rfl rfl rfl (by decide) (Nat.le_of_ble_eq_true rfl) (cC_begins 5 (by decide) B n p _ m hx hT hp (by omega)) (fun ho46 => ?_)
      refine sd_bif_eq (tgt := 66) sD7_readOneOf_49 (by decide) (fun zc49 => ?_) (fun zc49 => ?_)
      ·
        refine sd_aload_n sD7_readOneOf_66 rfl ?_
        refine sd_aload sD7_readOneOf_67 rfl ?_
        refine sd_callVp (as := [.inr 916]) (st := []) (v := .inl (sd_b ((¬ sd_len.getD 6 0 = 0) ∧ B p = sd_wch 6 0))) sD7_readOneOf_69 sM7_112 sOC118 rfl rfl rfl (by decide) (Nat.le_of_ble_eq_true rfl) (cC_begins 6 (by decide) B n p _ m hx hT hp (by omega)) (fun ho69 => ?_)
        refine sd_bif_eq (tgt := 88) sD7_readOneOf_72 (by decide) (fun zc72 => ?_) (fun zc72 => ?_)
        ·
          refine sd_iconst sD7_readOneOf_88 (by decide) ?_
          refine sd_ireturn sD7_readOneOf_89 rfl (fun hr hm => ?_)
          exact ⟨hx, Or.inl ⟨p, by simp only [sd_roA]; ((repeat (first | rw [if_pos (by first | assumption | omega)] | rw [if_neg (by first | assumption | omega)])); try rfl), rfl, hp, by omega⟩⟩
        ·
          refine sd_aload_n sD7_readOneOf_75 rfl ?_
          refine sd_aload sD7_readOneOf_76 rfl ?_
          refine sd_callV (as := [.inr 916]) (st := []) sD7_readOneOf_78 sM7_35 rfl rfl sOC118 rfl (by decide) (Nat.le_of_ble_eq_true rfl) (cC_spells 6 (by decide) B n p _ m hx hT hp (by omega)) (fun r m hq ho78 hm => ?_)
          obtain ⟨rfl, hx, hq78_1⟩ := hq
          have hn78_1 : sd_fe B p 6 ≤ n := sd_fe_le hT (by decide) (by omega)
          rcases (Classical.em (sd_ff B p 6 = -1)) with hb78_1 | hb78_1
          ·
            rw [sd_b1 hb78_1]
            show sd_Wp sd_SC 5 sY7_readOneOf 81 [some (.inr 118), some (.inr 913), some (.inr 914), some (.inr 915), some (.inr 916)] [.inl 1] m _
            refine sd_if_eq (tgt := 88) sD7_readOneOf_81 (by decide) (fun zc81 => (by exfalso; omega)) (fun zc81 => ?_)
            refine sd_iconst sD7_readOneOf_84 (by decide) ?_
            refine sd_goto (tgt := 89) sD7_readOneOf_85 (by decide) ?_
            refine sd_ireturn sD7_readOneOf_89 rfl (fun hr hm => ?_)
            exact ⟨hx, Or.inr ⟨3, (sd_fe B p 6), by simp only [sd_roA]; ((repeat (first | rw [if_pos (by first | assumption | omega)] | rw [if_neg (by first | assumption | omega)])); try rfl), rfl, hq78_1, by omega, by decide⟩⟩
          ·
            rw [sd_b0 hb78_1]
            show sd_Wp sd_SC 5 sY7_readOneOf 81 [some (.inr 118), some (.inr 913), some (.inr 914), some (.inr 915), some (.inr 916)] [.inl 0] m _
            refine sd_if_eq (tgt := 88) sD7_readOneOf_81 (by decide) (fun zc81 => ?_) (fun zc81 => (by exfalso; omega))
            refine sd_iconst sD7_readOneOf_88 (by decide) ?_
            refine sd_ireturn sD7_readOneOf_89 rfl (fun hr hm => ?_)
            exact ⟨hx, Or.inl ⟨(sd_fe B p 6), by simp only [sd_roA]; ((repeat (first | rw [if_pos (by first | assumption | omega)] | rw [if_neg (by first | assumption | omega)])); try rfl), rfl, hq78_1, by omega⟩⟩
      ·
        refine sd_aload_n sD7_readOneOf_52 rfl ?_
        refine sd_aload_n sD7_readOneOf_53 rfl ?_
        refine sd_callV (as := [.inr 915]) (st := []) sD7_readOneOf_54 sM7_35 rfl rfl sOC118 rfl (by decide) (Nat.le_of_ble_eq_true rfl) (cC_spells 5 (by decide) B n p _ m hx hT hp (by omega)) (fun r m hq ho54 hm => ?_)
        obtain ⟨rfl, hx, hq54_2⟩ := hq
        have hn54_2 : sd_fe B p 5 ≤ n := sd_fe_le hT (by decide) (by omega)
        rcases (Classical.em (sd_ff B p 5 = -1)) with hb54_2 | hb54_2
        ·
          rw [sd_b1 hb54_2]
          show sd_Wp sd_SC 5 sY7_readOneOf 57 [some (.inr 118), some (.inr 913), some (.inr 914), some (.inr 915), some (.inr 916)] [.inl 1] m _
          refine sd_if_eq (tgt := 64) sD7_readOneOf_57 (by decide) (fun zc57 => (by exfalso; omega)) (fun zc57 => ?_)
          refine sd_iconst sD7_readOneOf_60 (by decide) ?_
          refine sd_goto (tgt := 65) sD7_readOneOf_61 (by decide) ?_
          refine sd_ireturn sD7_readOneOf_65 rfl (fun hr hm => ?_)
          exact ⟨hx, Or.inr ⟨2, (sd_fe B p 5), by simp only [sd_roA]; ((repeat (first | rw [if_pos (by first | assumption | omega)] | rw [if_neg (by first | assumption | omega)])); try rfl), rfl, hq54_2, by omega, by decide⟩⟩
        ·
          rw [sd_b0 hb54_2]
          show sd_Wp sd_SC 5 sY7_readOneOf 57 [some (.inr 118), some (.inr 913), some (.inr 914), some (.inr 915), some (.inr 916)] [.inl 0] m _
          refine sd_if_eq (tgt := 64) sD7_readOneOf_57 (by decide) (fun zc57 => ?_) (fun zc57 => (by exfalso; omega))
          refine sd_iconst sD7_readOneOf_64 (by decide) ?_
          refine sd_ireturn sD7_readOneOf_65 rfl (fun hr hm => ?_)
          exact ⟨hx, Or.inl ⟨(sd_fe B p 5), by simp only [sd_roA]; ((repeat (first | rw [if_pos (by first | assumption | omega)] | rw [if_neg (by first | assumption | omega)])); try rfl), rfl, hq54_2, by omega⟩⟩
    ·
      refine sd_aload_n sD7_readOneOf_30 rfl ?_
      refine sd_aload_n sD7_readOneOf_31 rfl ?_
      refine sd_callV (as := [.inr 914]) (st := []) sD7_readOneOf_32 sM7_35 rfl rfl sOC118 rfl (by decide) (Nat.le_of_ble_eq_true rfl) (cC_spells 4 (by decide) B n p _ m hx hT hp (by omega)) (fun r m hq ho32 hm => ?_)
      obtain ⟨rfl, hx, hq32_3⟩ := hq
      have hn32_3 : sd_fe B p 4 ≤ n := sd_fe_le hT (by decide) (by omega)
      rcases (Classical.em (sd_ff B p 4 = -1)) with hb32_3 | hb32_3
      ·
        rw [sd_b1 hb32_3]
        show sd_Wp sd_SC 5 sY7_readOneOf 35 [some (.inr 118), some (.inr 913), some (.inr 914), some (.inr 915), some (.inr 916)] [.inl 1] m _
        refine sd_if_eq (tgt := 42) sD7_readOneOf_35 (by decide) (fun zc35 => (by exfalso; omega)) (fun zc35 => ?_)
        refine sd_iconst sD7_readOneOf_38 (by decide) ?_
        refine sd_goto (tgt := 43) sD7_readOneOf_39 (by decide) ?_
        refine sd_ireturn sD7_readOneOf_43 rfl (fun hr hm => ?_)
        exact ⟨hx, Or.inr ⟨1, (sd_fe B p 4), by simp only [sd_roA]; ((repeat (first | rw [if_pos (by first | assumption | omega)] | rw [if_neg (by first | assumption | omega)])); try rfl), rfl, hq32_3, by omega, by decide⟩⟩
      ·
        rw [sd_b0 hb32_3]
        show sd_Wp sd_SC 5 sY7_readOneOf 35 [some (.inr 118), some (.inr 913), some (.inr 914), some (.inr 915), some (.inr 916)] [.inl 0] m _
        refine sd_if_eq (tgt := 42) sD7_readOneOf_35 (by decide) (fun zc35 => ?_) (fun zc35 => (by exfalso; omega))
        refine sd_iconst sD7_readOneOf_42 (by decide) ?_
        refine sd_ireturn sD7_readOneOf_43 rfl (fun hr hm => ?_)
        exact ⟨hx, Or.inl ⟨(sd_fe B p 4), by simp only [sd_roA]; ((repeat (first | rw [if_pos (by first | assumption | omega)] | rw [if_neg (by first | assumption | omega)])); try rfl), rfl, hq32_3, by omega⟩⟩
  ·
    refine sd_aload_n sD7_readOneOf_8 rfl ?_
    refine sd_aload_n sD7_readOneOf_9 rfl ?_
    refine sd_callV (as := [.inr 913]) (st := []) sD7_readOneOf_10 sM7_35 rfl rfl sOC118 rfl (by decide) (Nat.le_of_ble_eq_true rfl) (cC_spells 3 (by decide) B n p _ m hx hT hp (by omega)) (fun r m hq ho10 hm => ?_)
    obtain ⟨rfl, hx, hq10_4⟩ := hq
    have hn10_4 : sd_fe B p 3 ≤ n := sd_fe_le hT (by decide) (by omega)
    rcases (Classical.em (sd_ff B p 3 = -1)) with hb10_4 | hb10_4
    ·
      rw [sd_b1 hb10_4]
      show sd_Wp sd_SC 5 sY7_readOneOf 13 [some (.inr 118), some (.inr 913), some (.inr 914), some (.inr 915), some (.inr 916)] [.inl 1] m _
      refine sd_if_eq (tgt := 20) sD7_readOneOf_13 (by decide) (fun zc13 => (by exfalso; omega)) (fun zc13 => ?_)
      refine sd_iconst sD7_readOneOf_16 (by decide) ?_
      refine sd_goto (tgt := 21) sD7_readOneOf_17 (by decide) ?_
      refine sd_ireturn sD7_readOneOf_21 rfl (fun hr hm => ?_)
      exact ⟨hx, Or.inr ⟨0, (sd_fe B p 3), by simp only [sd_roA]; ((repeat (first | rw [if_pos (by first | assumption | omega)] | rw [if_neg (by first | assumption | omega)])); try rfl), rfl, hq10_4, by omega, by decide⟩⟩
    ·
      rw [sd_b0 hb10_4]
      show sd_Wp sd_SC 5 sY7_readOneOf 13 [some (.inr 118), some (.inr 913), some (.inr 914), some (.inr 915), some (.inr 916)] [.inl 0] m _
      refine sd_if_eq (tgt := 20) sD7_readOneOf_13 (by decide) (fun zc13 => ?_) (fun zc13 => (by exfalso; omega))
      refine sd_iconst sD7_readOneOf_20 (by decide) ?_
      refine sd_ireturn sD7_readOneOf_21 rfl (fun hr hm => ?_)
      exact ⟨hx, Or.inl ⟨(sd_fe B p 3), by simp only [sd_roA]; ((repeat (first | rw [if_pos (by first | assumption | omega)] | rw [if_neg (by first | assumption | omega)])); try rfl), rfl, hq10_4, by omega⟩⟩
