set_option maxRecDepth 100000 in
set_option maxHeartbeats 4000000 in
theorem pM_play (w : Int) (v : Int) (n : Int) (x m : sd_M) (hx : sd_ns x m) (h9 : sd_L9 x) (hF : ∀ k : Nat, k < 7 → 0 ≤ x (4101 + k) ∧ x (4101 + k) ≤ 1000000) : sd_Ct sd_SM 23 sY11_play [.inr 15, .inl w, .inl v, .inl n] m (sd_Qp (sp_play x w v n)) := by
  refine sd_ct rfl (Nat.le_of_ble_eq_true rfl) (fun hok hm => ?_)
  have r_w : sd_R w := hok (.inl w) (by simp)
  have r_v : sd_R v := hok (.inl v) (by simp)
  have r_n : sd_R n := hok (.inl n) (by simp)
  show sd_Wp sd_SM 23 sY11_play 0 [some (.inr 15), some (.inl w), some (.inl v), some (.inl n)] [] m _
  refine sd_iload_n sD11_play_0 rfl ?_
  refine sd_iload_n sD11_play_1 rfl ?_
  refine sd_callSp (as := [.inl w, .inl v]) (st := []) (v := .inl (sd_b ((1 ≤ w ∧ w ≤ 99) ∧ 1 ≤ v ∧ v ≤ 99))) sD11_play_2 sM11_221 rfl rfl (by decide) (Nat.le_of_ble_eq_true rfl) (cM_isGame w v _ m hx  ) (fun ho2 => ?_)
  refine sd_bif_eq (tgt := 17) sD11_play_5 (by decide) (fun zc5 => ?_) (fun zc5 => ?_)
  ·
    refine sd_aload_n sD11_play_17 rfl ?_
    refine sd_iconst sD11_play_18 (by decide) ?_
    refine sd_callV (as := [.inl 0]) (st := []) sD11_play_19 sM11_78 rfl rfl sOM15 rfl (by decide) (Nat.le_of_ble_eq_true rfl) (cM_finding 0 (by decide) _ m hx (hF 0 (by decide))) (fun r m hq ho19 hm => ?_)
    obtain ⟨rfl, hx⟩ := hq
    show sd_Wp sd_SM 23 sY11_play 22 [some (.inr 15), some (.inl w), some (.inl v), some (.inl n)] [.inl (-1000001)] m _
    refine sd_ireturn sD11_play_22 rfl (fun hr hm => ?_)
    exact sd_done (by unfold sp_play; (try simp only [Int.reduceToNat, Nat.reduceAdd, Nat.reduceMul, Nat.add_zero]); ((repeat (first | rw [if_pos (by first | assumption | omega)] | rw [if_neg (by first | assumption | omega)])); try rfl)) hx
  ·
    refine sd_iload_n sD11_play_8 rfl ?_
    refine sd_iconst sD11_play_9 (by decide) ?_
    refine sd_iconst sD11_play_10 (by decide) ?_
    refine sd_callSp (as := [.inl n, .inl 1, .inl 5]) (st := []) (v := .inl (sd_b (1 ≤ n ∧ n ≤ 5))) sD11_play_11 sM11_56 rfl rfl (by decide) (Nat.le_of_ble_eq_true rfl) (cM_in n 1 5 m) (fun ho11 => ?_)
    refine sd_bif_ne (tgt := 23) sD11_play_14 (by decide) (fun zc14 => ?_) (fun zc14 => ?_)
    ·
      rcases (show n = 1 ∨ n = 2 ∨ n = 3 ∨ n = 4 ∨ n = 5 by omega) with zs23 | zs23 | zs23 | zs23 | zs23
      ·
        subst zs23
        refine sd_aload_n sD11_play_23 rfl ?_
        refine sd_iconst sD11_play_24 (by decide) ?_
        refine sd_iload_n sD11_play_25 rfl ?_
        refine sd_iload_n sD11_play_26 rfl ?_
        refine sd_iconst sD11_play_27 (by decide) ?_
        refine sd_iload_n sD11_play_28 rfl ?_
        refine sd_imul (z := 2) sD11_play_29 (by omega) (by omega) ?_
        refine sd_callVp (as := [.inl 0, .inl w, .inl v, .inl 2]) (st := []) (v := .inl (sd_gv x 2 false w v)) sD11_play_30 sM11_214 sOM15 rfl rfl rfl (by decide) (Nat.le_of_ble_eq_true rfl) ((cM_gameAll _ m hx h9 1 (by omega) w v (by omega) (by omega)).1) (fun ho30 => ?_)
        refine sd_ireturn sD11_play_33 rfl (fun hr hm => ?_)
        exact sd_done (by unfold sp_play; (try simp only [Int.reduceToNat, Nat.reduceAdd, Nat.reduceMul, Nat.add_zero]); ((repeat (first | rw [if_pos (by first | assumption | omega)] | rw [if_neg (by first | assumption | omega)])); try rfl)) hx
      ·
        subst zs23
        refine sd_aload_n sD11_play_23 rfl ?_
        refine sd_iconst sD11_play_24 (by decide) ?_
        refine sd_iload_n sD11_play_25 rfl ?_
        refine sd_iload_n sD11_play_26 rfl ?_
        refine sd_iconst sD11_play_27 (by decide) ?_
        refine sd_iload_n sD11_play_28 rfl ?_
        refine sd_imul (z := 4) sD11_play_29 (by omega) (by omega) ?_
        refine sd_callVp (as := [.inl 0, .inl w, .inl v, .inl 4]) (st := []) (v := .inl (sd_gv x 4 false w v)) sD11_play_30 sM11_214 sOM15 rfl rfl rfl (by decide) (Nat.le_of_ble_eq_true rfl) ((cM_gameAll _ m hx h9 3 (by omega) w v (by omega) (by omega)).1) (fun ho30 => ?_)
        refine sd_ireturn sD11_play_33 rfl (fun hr hm => ?_)
        exact sd_done (by unfold sp_play; (try simp only [Int.reduceToNat, Nat.reduceAdd, Nat.reduceMul, Nat.add_zero]); ((repeat (first | rw [if_pos (by first | assumption | omega)] | rw [if_neg (by first | assumption | omega)])); try rfl)) hx
      ·
        subst zs23
        refine sd_aload_n sD11_play_23 rfl ?_
        refine sd_iconst sD11_play_24 (by decide) ?_
        refine sd_iload_n sD11_play_25 rfl ?_
        refine sd_iload_n sD11_play_26 rfl ?_
        refine sd_iconst sD11_play_27 (by decide) ?_
        refine sd_iload_n sD11_play_28 rfl ?_
        refine sd_imul (z := 6) sD11_play_29 (by omega) (by omega) ?_
        refine sd_callVp (as := [.inl 0, .inl w, .inl v, .inl 6]) (st := []) (v := .inl (sd_gv x 6 false w v)) sD11_play_30 sM11_214 sOM15 rfl rfl rfl (by decide) (Nat.le_of_ble_eq_true rfl) ((cM_gameAll _ m hx h9 5 (by omega) w v (by omega) (by omega)).1) (fun ho30 => ?_)
        refine sd_ireturn sD11_play_33 rfl (fun hr hm => ?_)
        exact sd_done (by unfold sp_play; (try simp only [Int.reduceToNat, Nat.reduceAdd, Nat.reduceMul, Nat.add_zero]); ((repeat (first | rw [if_pos (by first | assumption | omega)] | rw [if_neg (by first | assumption | omega)])); try rfl)) hx
      ·
        subst zs23
        refine sd_aload_n sD11_play_23 rfl ?_
        refine sd_iconst sD11_play_24 (by decide) ?_
        refine sd_iload_n sD11_play_25 rfl ?_
        refine sd_iload_n sD11_play_26 rfl ?_
        refine sd_iconst sD11_play_27 (by decide) ?_
        refine sd_iload_n sD11_play_28 rfl ?_
        refine sd_imul (z := 8) sD11_play_29 (by omega) (by omega) ?_
        refine sd_callVp (as := [.inl 0, .inl w, .inl v, .inl 8]) (st := []) (v := .inl (sd_gv x 8 false w v)) sD11_play_30 sM11_214 sOM15 rfl rfl rfl (by decide) (Nat.le_of_ble_eq_true rfl) ((cM_gameAll _ m hx h9 7 (by omega) w v (by omega) (by omega)).1) (fun ho30 => ?_)
        refine sd_ireturn sD11_play_33 rfl (fun hr hm => ?_)
        exact sd_done (by unfold sp_play; (try simp only [Int.reduceToNat, Nat.reduceAdd, Nat.reduceMul, Nat.add_zero]); ((repeat (first | rw [if_pos (by first | assumption | omega)] | rw [if_neg (by first | assumption | omega)])); try rfl)) hx
      ·
        subst zs23
        refine sd_aload_n sD11_play_23 rfl ?_
        refine sd_iconst sD11_play_24 (by decide) ?_
        refine sd_iload_n sD11_play_25 rfl ?_
        refine sd_iload_n sD11_play_26 rfl ?_
        refine sd_iconst sD11_play_27 (by decide) ?_
        refine sd_iload_n sD11_play_28 rfl ?_
        refine sd_imul (z := 10) sD11_play_29 (by omega) (by omega) ?_
        refine sd_callVp (as := [.inl 0, .inl w, .inl v, .inl 10]) (st := []) (v := .inl (sd_gv x 10 false w v)) sD11_play_30 sM11_214 sOM15 rfl rfl rfl (by decide) (Nat.le_of_ble_eq_true rfl) ((cM_gameAll _ m hx h9 9 (by omega) w v (by omega) (by omega)).1) (fun ho30 => ?_)
        refine sd_ireturn sD11_play_33 rfl (fun hr hm => ?_)
        exact sd_done (by unfold sp_play; (try simp only [Int.reduceToNat, Nat.reduceAdd, Nat.reduceMul, Nat.add_zero]); ((repeat (first | rw [if_pos (by first | assumption | omega)] | rw [if_neg (by first | assumption | omega)])); try rfl)) hx
    ·
      refine sd_aload_n sD11_play_17 rfl ?_
      refine sd_iconst sD11_play_18 (by decide) ?_
      refine sd_callV (as := [.inl 0]) (st := []) sD11_play_19 sM11_78 rfl rfl sOM15 rfl (by decide) (Nat.le_of_ble_eq_true rfl) (cM_finding 0 (by decide) _ m hx (hF 0 (by decide))) (fun r m hq ho19 hm => ?_)
      obtain ⟨rfl, hx⟩ := hq
      show sd_Wp sd_SM 23 sY11_play 22 [some (.inr 15), some (.inl w), some (.inl v), some (.inl n)] [.inl (-1000001)] m _
      refine sd_ireturn sD11_play_22 rfl (fun hr hm => ?_)
      exact sd_done (by unfold sp_play; (try simp only [Int.reduceToNat, Nat.reduceAdd, Nat.reduceMul, Nat.add_zero]); ((repeat (first | rw [if_pos (by first | assumption | omega)] | rw [if_neg (by first | assumption | omega)])); try rfl)) hx
