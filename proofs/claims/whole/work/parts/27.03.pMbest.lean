set_option maxRecDepth 100000 in
set_option maxHeartbeats 4000000 in
theorem pM_best (w : Int) (v : Int) (n : Int) (x m : sd_M) (hx : sd_ns x m) (h9 : sd_L9 x) (hF : ∀ k : Nat, k < 7 → 0 ≤ x (4101 + k) ∧ x (4101 + k) ≤ 1000000) : sd_Ct sd_SM 23 sY11_best [.inr 15, .inl w, .inl v, .inl n] m (sd_Qp (sp_best x w v n)) := by
  refine sd_ct rfl (Nat.le_of_ble_eq_true rfl) (fun hok hm => ?_)
  have r_w : sd_R w := hok (.inl w) (by simp)
  have r_v : sd_R v := hok (.inl v) (by simp)
  have r_n : sd_R n := hok (.inl n) (by simp)
  show sd_Wp sd_SM 23 sY11_best 0 [some (.inr 15), some (.inl w), some (.inl v), some (.inl n), none, none] [] m _
  refine sd_iload_n sD11_best_0 rfl ?_
  refine sd_iload_n sD11_best_1 rfl ?_
  refine sd_callSp (as := [.inl w, .inl v]) (st := []) (v := .inl (sd_b ((1 ≤ w ∧ w ≤ 99) ∧ 1 ≤ v ∧ v ≤ 99))) sD11_best_2 sM11_221 rfl rfl (by decide) (Nat.le_of_ble_eq_true rfl) (cM_isGame w v _ m hx  ) (fun ho2 => ?_)
  refine sd_bif_eq (tgt := 17) sD11_best_5 (by decide) (fun zc5 => ?_) (fun zc5 => ?_)
  ·
    refine sd_aload_n sD11_best_17 rfl ?_
    refine sd_iconst sD11_best_18 (by decide) ?_
    refine sd_callV (as := [.inl 0]) (st := []) sD11_best_19 sM11_78 rfl rfl sOM15 rfl (by decide) (Nat.le_of_ble_eq_true rfl) (cM_finding 0 (by decide) _ m hx (hF 0 (by decide))) (fun r m hq ho19 hm => ?_)
    obtain ⟨rfl, hx⟩ := hq
    show sd_Wp sd_SM 23 sY11_best 22 [some (.inr 15), some (.inl w), some (.inl v), some (.inl n), none, none] [.inl (-1000001)] m _
    refine sd_ireturn sD11_best_22 rfl (fun hr hm => ?_)
    exact sd_done (by unfold sp_best; (try simp only [Int.reduceToNat, Nat.reduceAdd, Nat.reduceMul, Nat.reduceSub, Nat.add_zero]); ((repeat (first | rw [if_pos (by first | assumption | omega)] | rw [if_neg (by first | assumption | omega)])); try rfl); try (unfold sd_bst; ((repeat (first | rw [if_pos (by first | assumption | omega)] | rw [if_neg (by first | assumption | omega)])); try rfl))) hx
  ·
    refine sd_iload_n sD11_best_8 rfl ?_
    refine sd_iconst sD11_best_9 (by decide) ?_
    refine sd_iconst sD11_best_10 (by decide) ?_
    refine sd_callSp (as := [.inl n, .inl 1, .inl 5]) (st := []) (v := .inl (sd_b (1 ≤ n ∧ n ≤ 5))) sD11_best_11 sM11_56 rfl rfl (by decide) (Nat.le_of_ble_eq_true rfl) (cM_in n 1 5 m) (fun ho11 => ?_)
    refine sd_bif_ne (tgt := 23) sD11_best_14 (by decide) (fun zc14 => ?_) (fun zc14 => ?_)
    ·
      rcases (show n = 1 ∨ n = 2 ∨ n = 3 ∨ n = 4 ∨ n = 5 by omega) with zs23 | zs23 | zs23 | zs23 | zs23
      ·
        subst zs23
        refine sd_aload_n sD11_best_23 rfl ?_
        refine sd_iconst sD11_best_24 (by decide) ?_
        refine sd_iload_n sD11_best_25 rfl ?_
        refine sd_iload_n sD11_best_26 rfl ?_
        refine sd_iconst sD11_best_27 (by decide) ?_
        refine sd_iload_n sD11_best_28 rfl ?_
        refine sd_imul (z := 2) sD11_best_29 (by omega) (by omega) ?_
        refine sd_callVp (as := [.inl 0, .inl w, .inl v, .inl 2]) (st := []) (v := .inl (sd_gv x 2 false w v)) sD11_best_30 sM11_214 sOM15 rfl rfl rfl (by decide) (Nat.le_of_ble_eq_true rfl) ((cM_gameAll _ m hx h9 1 (by omega) w v (by omega) (by omega)).1) (fun ho30 => ?_)
        have eg : sd_gv x 2 false w v = max (sd_bh x (sd_gv x 1 true) 0 w v) (max (sd_bh x (sd_gv x 1 true) 1 w v) (sd_bh x (sd_gv x 1 true) 2 w v)) := sd_gv_max x 1 w v
        refine sd_istore (ls' := [some (.inr 15), some (.inl w), some (.inl v), some (.inl 1), some (.inl (sd_gv x 2 false w v)), none]) sD11_best_33 (by decide) rfl ?_
        refine sd_iconst sD11_best_35 (by decide) ?_
        refine sd_istore (ls' := [some (.inr 15), some (.inl w), some (.inl v), some (.inl 1), some (.inl (sd_gv x 2 false w v)), some (.inl 0)]) sD11_best_36 (by decide) rfl ?_
        refine sd_aload_n sD11_best_38 rfl ?_
        refine sd_iconst sD11_best_39 (by decide) ?_
        refine sd_iload sD11_best_40 rfl ?_
        refine sd_iload_n sD11_best_42 rfl ?_
        refine sd_iload_n sD11_best_43 rfl ?_
        refine sd_iconst sD11_best_44 (by decide) ?_
        refine sd_iload_n sD11_best_45 rfl ?_
        refine sd_imul (z := 2) sD11_best_46 (by omega) (by omega) ?_
        refine sd_iconst sD11_best_47 (by decide) ?_
        refine sd_isub (z := 1) sD11_best_48 (by omega) (by omega) ?_
        refine sd_callVp (as := [.inl 0, .inl 0, .inl w, .inl v, .inl 1]) (st := []) (v := .inl (sd_bh x (sd_gv x 1 true) 0 w v)) sD11_best_49 sM11_218 sOM15 rfl rfl rfl (by decide) (Nat.le_of_ble_eq_true rfl) (cM_behind0 0 (by decide) 1 w v _ m hx h9 (by omega) (by omega) (by omega) (fun _ w2 o2 hw2 ho2 => (cM_gameAll _ m hx h9 0 (by omega) w2 o2 (by omega) (by omega)).2)) (fun ho49 => ?_)
        refine sd_iload sD11_best_52 rfl ?_
        refine sd_icmp_eq (tgt := 63) sD11_best_54 (by decide) (fun zc54 => ?_) (fun zc54 => ?_)
        ·
          refine sd_iload sD11_best_63 rfl ?_
          refine sd_ireturn sD11_best_65 rfl (fun hr hm => ?_)
          exact sd_done (by unfold sp_best; (try simp only [Int.reduceToNat, Nat.reduceAdd, Nat.reduceMul, Nat.reduceSub, Nat.add_zero]); ((repeat (first | rw [if_pos (by first | assumption | omega)] | rw [if_neg (by first | assumption | omega)])); try rfl); try (unfold sd_bst; ((repeat (first | rw [if_pos (by first | assumption | omega)] | rw [if_neg (by first | assumption | omega)])); try rfl))) hx
        ·
          refine sd_iinc (y := 1) (ls' := [some (.inr 15), some (.inl w), some (.inl v), some (.inl 1), some (.inl (sd_gv x 2 false w v)), some (.inl 1)]) sD11_best_57 rfl (by omega) (by omega) (by decide) rfl ?_
          refine sd_goto (tgt := 38) sD11_best_60 (by decide) ?_
          refine sd_aload_n sD11_best_38 rfl ?_
          refine sd_iconst sD11_best_39 (by decide) ?_
          refine sd_iload sD11_best_40 rfl ?_
          refine sd_iload_n sD11_best_42 rfl ?_
          refine sd_iload_n sD11_best_43 rfl ?_
          refine sd_iconst sD11_best_44 (by decide) ?_
          refine sd_iload_n sD11_best_45 rfl ?_
          refine sd_imul (z := 2) sD11_best_46 (by omega) (by omega) ?_
          refine sd_iconst sD11_best_47 (by decide) ?_
          refine sd_isub (z := 1) sD11_best_48 (by omega) (by omega) ?_
          refine sd_callVp (as := [.inl 0, .inl 1, .inl w, .inl v, .inl 1]) (st := []) (v := .inl (sd_bh x (sd_gv x 1 true) 1 w v)) sD11_best_49 sM11_218 sOM15 rfl rfl rfl (by decide) (Nat.le_of_ble_eq_true rfl) (cM_behind0 1 (by decide) 1 w v _ m hx h9 (by omega) (by omega) (by omega) (fun _ w2 o2 hw2 ho2 => (cM_gameAll _ m hx h9 0 (by omega) w2 o2 (by omega) (by omega)).2)) (fun ho49 => ?_)
          refine sd_iload sD11_best_52 rfl ?_
          refine sd_icmp_eq (tgt := 63) sD11_best_54 (by decide) (fun zc54 => ?_) (fun zc54 => ?_)
          ·
            refine sd_iload sD11_best_63 rfl ?_
            refine sd_ireturn sD11_best_65 rfl (fun hr hm => ?_)
            exact sd_done (by unfold sp_best; (try simp only [Int.reduceToNat, Nat.reduceAdd, Nat.reduceMul, Nat.reduceSub, Nat.add_zero]); ((repeat (first | rw [if_pos (by first | assumption | omega)] | rw [if_neg (by first | assumption | omega)])); try rfl); try (unfold sd_bst; ((repeat (first | rw [if_pos (by first | assumption | omega)] | rw [if_neg (by first | assumption | omega)])); try rfl))) hx
          ·
            refine sd_iinc (y := 2) (ls' := [some (.inr 15), some (.inl w), some (.inl v), some (.inl 1), some (.inl (sd_gv x 2 false w v)), some (.inl 2)]) sD11_best_57 rfl (by omega) (by omega) (by decide) rfl ?_
            refine sd_goto (tgt := 38) sD11_best_60 (by decide) ?_
            refine sd_aload_n sD11_best_38 rfl ?_
            refine sd_iconst sD11_best_39 (by decide) ?_
            refine sd_iload sD11_best_40 rfl ?_
            refine sd_iload_n sD11_best_42 rfl ?_
            refine sd_iload_n sD11_best_43 rfl ?_
            refine sd_iconst sD11_best_44 (by decide) ?_
            refine sd_iload_n sD11_best_45 rfl ?_
            refine sd_imul (z := 2) sD11_best_46 (by omega) (by omega) ?_
            refine sd_iconst sD11_best_47 (by decide) ?_
            refine sd_isub (z := 1) sD11_best_48 (by omega) (by omega) ?_
            refine sd_callVp (as := [.inl 0, .inl 2, .inl w, .inl v, .inl 1]) (st := []) (v := .inl (sd_bh x (sd_gv x 1 true) 2 w v)) sD11_best_49 sM11_218 sOM15 rfl rfl rfl (by decide) (Nat.le_of_ble_eq_true rfl) (cM_behind0 2 (by decide) 1 w v _ m hx h9 (by omega) (by omega) (by omega) (fun _ w2 o2 hw2 ho2 => (cM_gameAll _ m hx h9 0 (by omega) w2 o2 (by omega) (by omega)).2)) (fun ho49 => ?_)
            refine sd_iload sD11_best_52 rfl ?_
            refine sd_icmp_eq (tgt := 63) sD11_best_54 (by decide) (fun zc54 => ?_) (fun zc54 => (by exfalso; omega))
            refine sd_iload sD11_best_63 rfl ?_
            refine sd_ireturn sD11_best_65 rfl (fun hr hm => ?_)
            exact sd_done (by unfold sp_best; (try simp only [Int.reduceToNat, Nat.reduceAdd, Nat.reduceMul, Nat.reduceSub, Nat.add_zero]); ((repeat (first | rw [if_pos (by first | assumption | omega)] | rw [if_neg (by first | assumption | omega)])); try rfl); try (unfold sd_bst; ((repeat (first | rw [if_pos (by first | assumption | omega)] | rw [if_neg (by first | assumption | omega)])); try rfl))) hx
      ·
        subst zs23
        refine sd_aload_n sD11_best_23 rfl ?_
        refine sd_iconst sD11_best_24 (by decide) ?_
        refine sd_iload_n sD11_best_25 rfl ?_
        refine sd_iload_n sD11_best_26 rfl ?_
        refine sd_iconst sD11_best_27 (by decide) ?_
        refine sd_iload_n sD11_best_28 rfl ?_
        refine sd_imul (z := 4) sD11_best_29 (by omega) (by omega) ?_
        refine sd_callVp (as := [.inl 0, .inl w, .inl v, .inl 4]) (st := []) (v := .inl (sd_gv x 4 false w v)) sD11_best_30 sM11_214 sOM15 rfl rfl rfl (by decide) (Nat.le_of_ble_eq_true rfl) ((cM_gameAll _ m hx h9 3 (by omega) w v (by omega) (by omega)).1) (fun ho30 => ?_)
        have eg : sd_gv x 4 false w v = max (sd_bh x (sd_gv x 3 true) 0 w v) (max (sd_bh x (sd_gv x 3 true) 1 w v) (sd_bh x (sd_gv x 3 true) 2 w v)) := sd_gv_max x 3 w v
        refine sd_istore (ls' := [some (.inr 15), some (.inl w), some (.inl v), some (.inl 2), some (.inl (sd_gv x 4 false w v)), none]) sD11_best_33 (by decide) rfl ?_
        refine sd_iconst sD11_best_35 (by decide) ?_
        refine sd_istore (ls' := [some (.inr 15), some (.inl w), some (.inl v), some (.inl 2), some (.inl (sd_gv x 4 false w v)), some (.inl 0)]) sD11_best_36 (by decide) rfl ?_
        refine sd_aload_n sD11_best_38 rfl ?_
        refine sd_iconst sD11_best_39 (by decide) ?_
        refine sd_iload sD11_best_40 rfl ?_
        refine sd_iload_n sD11_best_42 rfl ?_
        refine sd_iload_n sD11_best_43 rfl ?_
        refine sd_iconst sD11_best_44 (by decide) ?_
        refine sd_iload_n sD11_best_45 rfl ?_
        refine sd_imul (z := 4) sD11_best_46 (by omega) (by omega) ?_
        refine sd_iconst sD11_best_47 (by decide) ?_
        refine sd_isub (z := 3) sD11_best_48 (by omega) (by omega) ?_
        refine sd_callVp (as := [.inl 0, .inl 0, .inl w, .inl v, .inl 3]) (st := []) (v := .inl (sd_bh x (sd_gv x 3 true) 0 w v)) sD11_best_49 sM11_218 sOM15 rfl rfl rfl (by decide) (Nat.le_of_ble_eq_true rfl) (cM_behind0 0 (by decide) 3 w v _ m hx h9 (by omega) (by omega) (by omega) (fun _ w2 o2 hw2 ho2 => (cM_gameAll _ m hx h9 2 (by omega) w2 o2 (by omega) (by omega)).2)) (fun ho49 => ?_)
        refine sd_iload sD11_best_52 rfl ?_
        refine sd_icmp_eq (tgt := 63) sD11_best_54 (by decide) (fun zc54 => ?_) (fun zc54 => ?_)
        ·
          refine sd_iload sD11_best_63 rfl ?_
          refine sd_ireturn sD11_best_65 rfl (fun hr hm => ?_)
          exact sd_done (by unfold sp_best; (try simp only [Int.reduceToNat, Nat.reduceAdd, Nat.reduceMul, Nat.reduceSub, Nat.add_zero]); ((repeat (first | rw [if_pos (by first | assumption | omega)] | rw [if_neg (by first | assumption | omega)])); try rfl); try (unfold sd_bst; ((repeat (first | rw [if_pos (by first | assumption | omega)] | rw [if_neg (by first | assumption | omega)])); try rfl))) hx
        ·
          refine sd_iinc (y := 1) (ls' := [some (.inr 15), some (.inl w), some (.inl v), some (.inl 2), some (.inl (sd_gv x 4 false w v)), some (.inl 1)]) sD11_best_57 rfl (by omega) (by omega) (by decide) rfl ?_
          refine sd_goto (tgt := 38) sD11_best_60 (by decide) ?_
          refine sd_aload_n sD11_best_38 rfl ?_
          refine sd_iconst sD11_best_39 (by decide) ?_
          refine sd_iload sD11_best_40 rfl ?_
          refine sd_iload_n sD11_best_42 rfl ?_
          refine sd_iload_n sD11_best_43 rfl ?_
          refine sd_iconst sD11_best_44 (by decide) ?_
          refine sd_iload_n sD11_best_45 rfl ?_
          refine sd_imul (z := 4) sD11_best_46 (by omega) (by omega) ?_
          refine sd_iconst sD11_best_47 (by decide) ?_
          refine sd_isub (z := 3) sD11_best_48 (by omega) (by omega) ?_
          refine sd_callVp (as := [.inl 0, .inl 1, .inl w, .inl v, .inl 3]) (st := []) (v := .inl (sd_bh x (sd_gv x 3 true) 1 w v)) sD11_best_49 sM11_218 sOM15 rfl rfl rfl (by decide) (Nat.le_of_ble_eq_true rfl) (cM_behind0 1 (by decide) 3 w v _ m hx h9 (by omega) (by omega) (by omega) (fun _ w2 o2 hw2 ho2 => (cM_gameAll _ m hx h9 2 (by omega) w2 o2 (by omega) (by omega)).2)) (fun ho49 => ?_)
          refine sd_iload sD11_best_52 rfl ?_
          refine sd_icmp_eq (tgt := 63) sD11_best_54 (by decide) (fun zc54 => ?_) (fun zc54 => ?_)
          ·
            refine sd_iload sD11_best_63 rfl ?_
            refine sd_ireturn sD11_best_65 rfl (fun hr hm => ?_)
            exact sd_done (by unfold sp_best; (try simp only [Int.reduceToNat, Nat.reduceAdd, Nat.reduceMul, Nat.reduceSub, Nat.add_zero]); ((repeat (first | rw [if_pos (by first | assumption | omega)] | rw [if_neg (by first | assumption | omega)])); try rfl); try (unfold sd_bst; ((repeat (first | rw [if_pos (by first | assumption | omega)] | rw [if_neg (by first | assumption | omega)])); try rfl))) hx
          ·
            refine sd_iinc (y := 2) (ls' := [some (.inr 15), some (.inl w), some (.inl v), some (.inl 2), some (.inl (sd_gv x 4 false w v)), some (.inl 2)]) sD11_best_57 rfl (by omega) (by omega) (by decide) rfl ?_
            refine sd_goto (tgt := 38) sD11_best_60 (by decide) ?_
            refine sd_aload_n sD11_best_38 rfl ?_
            refine sd_iconst sD11_best_39 (by decide) ?_
            refine sd_iload sD11_best_40 rfl ?_
            refine sd_iload_n sD11_best_42 rfl ?_
            refine sd_iload_n sD11_best_43 rfl ?_
            refine sd_iconst sD11_best_44 (by decide) ?_
            refine sd_iload_n sD11_best_45 rfl ?_
            refine sd_imul (z := 4) sD11_best_46 (by omega) (by omega) ?_
            refine sd_iconst sD11_best_47 (by decide) ?_
            refine sd_isub (z := 3) sD11_best_48 (by omega) (by omega) ?_
            refine sd_callVp (as := [.inl 0, .inl 2, .inl w, .inl v, .inl 3]) (st := []) (v := .inl (sd_bh x (sd_gv x 3 true) 2 w v)) sD11_best_49 sM11_218 sOM15 rfl rfl rfl (by decide) (Nat.le_of_ble_eq_true rfl) (cM_behind0 2 (by decide) 3 w v _ m hx h9 (by omega) (by omega) (by omega) (fun _ w2 o2 hw2 ho2 => (cM_gameAll _ m hx h9 2 (by omega) w2 o2 (by omega) (by omega)).2)) (fun ho49 => ?_)
            refine sd_iload sD11_best_52 rfl ?_
            refine sd_icmp_eq (tgt := 63) sD11_best_54 (by decide) (fun zc54 => ?_) (fun zc54 => (by exfalso; omega))
            refine sd_iload sD11_best_63 rfl ?_
            refine sd_ireturn sD11_best_65 rfl (fun hr hm => ?_)
            exact sd_done (by unfold sp_best; (try simp only [Int.reduceToNat, Nat.reduceAdd, Nat.reduceMul, Nat.reduceSub, Nat.add_zero]); ((repeat (first | rw [if_pos (by first | assumption | omega)] | rw [if_neg (by first | assumption | omega)])); try rfl); try (unfold sd_bst; ((repeat (first | rw [if_pos (by first | assumption | omega)] | rw [if_neg (by first | assumption | omega)])); try rfl))) hx
      ·
        subst zs23
        refine sd_aload_n sD11_best_23 rfl ?_
        refine sd_iconst sD11_best_24 (by decide) ?_
        refine sd_iload_n sD11_best_25 rfl ?_
        refine sd_iload_n sD11_best_26 rfl ?_
        refine sd_iconst sD11_best_27 (by decide) ?_
        refine sd_iload_n sD11_best_28 rfl ?_
        refine sd_imul (z := 6) sD11_best_29 (by omega) (by omega) ?_
        refine sd_callVp (as := [.inl 0, .inl w, .inl v, .inl 6]) (st := []) (v := .inl (sd_gv x 6 false w v)) sD11_best_30 sM11_214 sOM15 rfl rfl rfl (by decide) (Nat.le_of_ble_eq_true rfl) ((cM_gameAll _ m hx h9 5 (by omega) w v (by omega) (by omega)).1) (fun ho30 => ?_)
        have eg : sd_gv x 6 false w v = max (sd_bh x (sd_gv x 5 true) 0 w v) (max (sd_bh x (sd_gv x 5 true) 1 w v) (sd_bh x (sd_gv x 5 true) 2 w v)) := sd_gv_max x 5 w v
        refine sd_istore (ls' := [some (.inr 15), some (.inl w), some (.inl v), some (.inl 3), some (.inl (sd_gv x 6 false w v)), none]) sD11_best_33 (by decide) rfl ?_
        refine sd_iconst sD11_best_35 (by decide) ?_
        refine sd_istore (ls' := [some (.inr 15), some (.inl w), some (.inl v), some (.inl 3), some (.inl (sd_gv x 6 false w v)), some (.inl 0)]) sD11_best_36 (by decide) rfl ?_
        refine sd_aload_n sD11_best_38 rfl ?_
        refine sd_iconst sD11_best_39 (by decide) ?_
        refine sd_iload sD11_best_40 rfl ?_
        refine sd_iload_n sD11_best_42 rfl ?_
        refine sd_iload_n sD11_best_43 rfl ?_
        refine sd_iconst sD11_best_44 (by decide) ?_
        refine sd_iload_n sD11_best_45 rfl ?_
        refine sd_imul (z := 6) sD11_best_46 (by omega) (by omega) ?_
        refine sd_iconst sD11_best_47 (by decide) ?_
        refine sd_isub (z := 5) sD11_best_48 (by omega) (by omega) ?_
        refine sd_callVp (as := [.inl 0, .inl 0, .inl w, .inl v, .inl 5]) (st := []) (v := .inl (sd_bh x (sd_gv x 5 true) 0 w v)) sD11_best_49 sM11_218 sOM15 rfl rfl rfl (by decide) (Nat.le_of_ble_eq_true rfl) (cM_behind0 0 (by decide) 5 w v _ m hx h9 (by omega) (by omega) (by omega) (fun _ w2 o2 hw2 ho2 => (cM_gameAll _ m hx h9 4 (by omega) w2 o2 (by omega) (by omega)).2)) (fun ho49 => ?_)
        refine sd_iload sD11_best_52 rfl ?_
        refine sd_icmp_eq (tgt := 63) sD11_best_54 (by decide) (fun zc54 => ?_) (fun zc54 => ?_)
        ·
          refine sd_iload sD11_best_63 rfl ?_
          refine sd_ireturn sD11_best_65 rfl (fun hr hm => ?_)
          exact sd_done (by unfold sp_best; (try simp only [Int.reduceToNat, Nat.reduceAdd, Nat.reduceMul, Nat.reduceSub, Nat.add_zero]); ((repeat (first | rw [if_pos (by first | assumption | omega)] | rw [if_neg (by first | assumption | omega)])); try rfl); try (unfold sd_bst; ((repeat (first | rw [if_pos (by first | assumption | omega)] | rw [if_neg (by first | assumption | omega)])); try rfl))) hx
        ·
          refine sd_iinc (y := 1) (ls' := [some (.inr 15), some (.inl w), some (.inl v), some (.inl 3), some (.inl (sd_gv x 6 false w v)), some (.inl 1)]) sD11_best_57 rfl (by omega) (by omega) (by decide) rfl ?_
          refine sd_goto (tgt := 38) sD11_best_60 (by decide) ?_
          refine sd_aload_n sD11_best_38 rfl ?_
          refine sd_iconst sD11_best_39 (by decide) ?_
          refine sd_iload sD11_best_40 rfl ?_
          refine sd_iload_n sD11_best_42 rfl ?_
          refine sd_iload_n sD11_best_43 rfl ?_
          refine sd_iconst sD11_best_44 (by decide) ?_
          refine sd_iload_n sD11_best_45 rfl ?_
          refine sd_imul (z := 6) sD11_best_46 (by omega) (by omega) ?_
          refine sd_iconst sD11_best_47 (by decide) ?_
          refine sd_isub (z := 5) sD11_best_48 (by omega) (by omega) ?_
          refine sd_callVp (as := [.inl 0, .inl 1, .inl w, .inl v, .inl 5]) (st := []) (v := .inl (sd_bh x (sd_gv x 5 true) 1 w v)) sD11_best_49 sM11_218 sOM15 rfl rfl rfl (by decide) (Nat.le_of_ble_eq_true rfl) (cM_behind0 1 (by decide) 5 w v _ m hx h9 (by omega) (by omega) (by omega) (fun _ w2 o2 hw2 ho2 => (cM_gameAll _ m hx h9 4 (by omega) w2 o2 (by omega) (by omega)).2)) (fun ho49 => ?_)
          refine sd_iload sD11_best_52 rfl ?_
          refine sd_icmp_eq (tgt := 63) sD11_best_54 (by decide) (fun zc54 => ?_) (fun zc54 => ?_)
          ·
            refine sd_iload sD11_best_63 rfl ?_
            refine sd_ireturn sD11_best_65 rfl (fun hr hm => ?_)
            exact sd_done (by unfold sp_best; (try simp only [Int.reduceToNat, Nat.reduceAdd, Nat.reduceMul, Nat.reduceSub, Nat.add_zero]); ((repeat (first | rw [if_pos (by first | assumption | omega)] | rw [if_neg (by first | assumption | omega)])); try rfl); try (unfold sd_bst; ((repeat (first | rw [if_pos (by first | assumption | omega)] | rw [if_neg (by first | assumption | omega)])); try rfl))) hx
          ·
            refine sd_iinc (y := 2) (ls' := [some (.inr 15), some (.inl w), some (.inl v), some (.inl 3), some (.inl (sd_gv x 6 false w v)), some (.inl 2)]) sD11_best_57 rfl (by omega) (by omega) (by decide) rfl ?_
            refine sd_goto (tgt := 38) sD11_best_60 (by decide) ?_
            refine sd_aload_n sD11_best_38 rfl ?_
            refine sd_iconst sD11_best_39 (by decide) ?_
            refine sd_iload sD11_best_40 rfl ?_
            refine sd_iload_n sD11_best_42 rfl ?_
            refine sd_iload_n sD11_best_43 rfl ?_
            refine sd_iconst sD11_best_44 (by decide) ?_
            refine sd_iload_n sD11_best_45 rfl ?_
            refine sd_imul (z := 6) sD11_best_46 (by omega) (by omega) ?_
            refine sd_iconst sD11_best_47 (by decide) ?_
            refine sd_isub (z := 5) sD11_best_48 (by omega) (by omega) ?_
            refine sd_callVp (as := [.inl 0, .inl 2, .inl w, .inl v, .inl 5]) (st := []) (v := .inl (sd_bh x (sd_gv x 5 true) 2 w v)) sD11_best_49 sM11_218 sOM15 rfl rfl rfl (by decide) (Nat.le_of_ble_eq_true rfl) (cM_behind0 2 (by decide) 5 w v _ m hx h9 (by omega) (by omega) (by omega) (fun _ w2 o2 hw2 ho2 => (cM_gameAll _ m hx h9 4 (by omega) w2 o2 (by omega) (by omega)).2)) (fun ho49 => ?_)
            refine sd_iload sD11_best_52 rfl ?_
            refine sd_icmp_eq (tgt := 63) sD11_best_54 (by decide) (fun zc54 => ?_) (fun zc54 => (by exfalso; omega))
            refine sd_iload sD11_best_63 rfl ?_
            refine sd_ireturn sD11_best_65 rfl (fun hr hm => ?_)
            exact sd_done (by unfold sp_best; (try simp only [Int.reduceToNat, Nat.reduceAdd, Nat.reduceMul, Nat.reduceSub, Nat.add_zero]); ((repeat (first | rw [if_pos (by first | assumption | omega)] | rw [if_neg (by first | assumption | omega)])); try rfl); try (unfold sd_bst; ((repeat (first | rw [if_pos (by first | assumption | omega)] | rw [if_neg (by first | assumption | omega)])); try rfl))) hx
      ·
        subst zs23
        refine sd_aload_n sD11_best_23 rfl ?_
        refine sd_iconst sD11_best_24 (by decide) ?_
        refine sd_iload_n sD11_best_25 rfl ?_
        refine sd_iload_n sD11_best_26 rfl ?_
        refine sd_iconst sD11_best_27 (by decide) ?_
        refine sd_iload_n sD11_best_28 rfl ?_
        refine sd_imul (z := 8) sD11_best_29 (by omega) (by omega) ?_
        refine sd_callVp (as := [.inl 0, .inl w, .inl v, .inl 8]) (st := []) (v := .inl (sd_gv x 8 false w v)) sD11_best_30 sM11_214 sOM15 rfl rfl rfl (by decide) (Nat.le_of_ble_eq_true rfl) ((cM_gameAll _ m hx h9 7 (by omega) w v (by omega) (by omega)).1) (fun ho30 => ?_)
        have eg : sd_gv x 8 false w v = max (sd_bh x (sd_gv x 7 true) 0 w v) (max (sd_bh x (sd_gv x 7 true) 1 w v) (sd_bh x (sd_gv x 7 true) 2 w v)) := sd_gv_max x 7 w v
        refine sd_istore (ls' := [some (.inr 15), some (.inl w), some (.inl v), some (.inl 4), some (.inl (sd_gv x 8 false w v)), none]) sD11_best_33 (by decide) rfl ?_
        refine sd_iconst sD11_best_35 (by decide) ?_
        refine sd_istore (ls' := [some (.inr 15), some (.inl w), some (.inl v), some (.inl 4), some (.inl (sd_gv x 8 false w v)), some (.inl 0)]) sD11_best_36 (by decide) rfl ?_
        refine sd_aload_n sD11_best_38 rfl ?_
        refine sd_iconst sD11_best_39 (by decide) ?_
        refine sd_iload sD11_best_40 rfl ?_
        refine sd_iload_n sD11_best_42 rfl ?_
        refine sd_iload_n sD11_best_43 rfl ?_
        refine sd_iconst sD11_best_44 (by decide) ?_
        refine sd_iload_n sD11_best_45 rfl ?_
        refine sd_imul (z := 8) sD11_best_46 (by omega) (by omega) ?_
        refine sd_iconst sD11_best_47 (by decide) ?_
        refine sd_isub (z := 7) sD11_best_48 (by omega) (by omega) ?_
        refine sd_callVp (as := [.inl 0, .inl 0, .inl w, .inl v, .inl 7]) (st := []) (v := .inl (sd_bh x (sd_gv x 7 true) 0 w v)) sD11_best_49 sM11_218 sOM15 rfl rfl rfl (by decide) (Nat.le_of_ble_eq_true rfl) (cM_behind0 0 (by decide) 7 w v _ m hx h9 (by omega) (by omega) (by omega) (fun _ w2 o2 hw2 ho2 => (cM_gameAll _ m hx h9 6 (by omega) w2 o2 (by omega) (by omega)).2)) (fun ho49 => ?_)
        refine sd_iload sD11_best_52 rfl ?_
        refine sd_icmp_eq (tgt := 63) sD11_best_54 (by decide) (fun zc54 => ?_) (fun zc54 => ?_)
        ·
          refine sd_iload sD11_best_63 rfl ?_
          refine sd_ireturn sD11_best_65 rfl (fun hr hm => ?_)
          exact sd_done (by unfold sp_best; (try simp only [Int.reduceToNat, Nat.reduceAdd, Nat.reduceMul, Nat.reduceSub, Nat.add_zero]); ((repeat (first | rw [if_pos (by first | assumption | omega)] | rw [if_neg (by first | assumption | omega)])); try rfl); try (unfold sd_bst; ((repeat (first | rw [if_pos (by first | assumption | omega)] | rw [if_neg (by first | assumption | omega)])); try rfl))) hx
        ·
          refine sd_iinc (y := 1) (ls' := [some (.inr 15), some (.inl w), some (.inl v), some (.inl 4), some (.inl (sd_gv x 8 false w v)), some (.inl 1)]) sD11_best_57 rfl (by omega) (by omega) (by decide) rfl ?_
          refine sd_goto (tgt := 38) sD11_best_60 (by decide) ?_
          refine sd_aload_n sD11_best_38 rfl ?_
          refine sd_iconst sD11_best_39 (by decide) ?_
          refine sd_iload sD11_best_40 rfl ?_
          refine sd_iload_n sD11_best_42 rfl ?_
          refine sd_iload_n sD11_best_43 rfl ?_
          refine sd_iconst sD11_best_44 (by decide) ?_
          refine sd_iload_n sD11_best_45 rfl ?_
          refine sd_imul (z := 8) sD11_best_46 (by omega) (by omega) ?_
          refine sd_iconst sD11_best_47 (by decide) ?_
          refine sd_isub (z := 7) sD11_best_48 (by omega) (by omega) ?_
          refine sd_callVp (as := [.inl 0, .inl 1, .inl w, .inl v, .inl 7]) (st := []) (v := .inl (sd_bh x (sd_gv x 7 true) 1 w v)) sD11_best_49 sM11_218 sOM15 rfl rfl rfl (by decide) (Nat.le_of_ble_eq_true rfl) (cM_behind0 1 (by decide) 7 w v _ m hx h9 (by omega) (by omega) (by omega) (fun _ w2 o2 hw2 ho2 => (cM_gameAll _ m hx h9 6 (by omega) w2 o2 (by omega) (by omega)).2)) (fun ho49 => ?_)
          refine sd_iload sD11_best_52 rfl ?_
          refine sd_icmp_eq (tgt := 63) sD11_best_54 (by decide) (fun zc54 => ?_) (fun zc54 => ?_)
          ·
            refine sd_iload sD11_best_63 rfl ?_
            refine sd_ireturn sD11_best_65 rfl (fun hr hm => ?_)
            exact sd_done (by unfold sp_best; (try simp only [Int.reduceToNat, Nat.reduceAdd, Nat.reduceMul, Nat.reduceSub, Nat.add_zero]); ((repeat (first | rw [if_pos (by first | assumption | omega)] | rw [if_neg (by first | assumption | omega)])); try rfl); try (unfold sd_bst; ((repeat (first | rw [if_pos (by first | assumption | omega)] | rw [if_neg (by first | assumption | omega)])); try rfl))) hx
          ·
            refine sd_iinc (y := 2) (ls' := [some (.inr 15), some (.inl w), some (.inl v), some (.inl 4), some (.inl (sd_gv x 8 false w v)), some (.inl 2)]) sD11_best_57 rfl (by omega) (by omega) (by decide) rfl ?_
            refine sd_goto (tgt := 38) sD11_best_60 (by decide) ?_
            refine sd_aload_n sD11_best_38 rfl ?_
            refine sd_iconst sD11_best_39 (by decide) ?_
            refine sd_iload sD11_best_40 rfl ?_
            refine sd_iload_n sD11_best_42 rfl ?_
            refine sd_iload_n sD11_best_43 rfl ?_
            refine sd_iconst sD11_best_44 (by decide) ?_
            refine sd_iload_n sD11_best_45 rfl ?_
            refine sd_imul (z := 8) sD11_best_46 (by omega) (by omega) ?_
            refine sd_iconst sD11_best_47 (by decide) ?_
            refine sd_isub (z := 7) sD11_best_48 (by omega) (by omega) ?_
            refine sd_callVp (as := [.inl 0, .inl 2, .inl w, .inl v, .inl 7]) (st := []) (v := .inl (sd_bh x (sd_gv x 7 true) 2 w v)) sD11_best_49 sM11_218 sOM15 rfl rfl rfl (by decide) (Nat.le_of_ble_eq_true rfl) (cM_behind0 2 (by decide) 7 w v _ m hx h9 (by omega) (by omega) (by omega) (fun _ w2 o2 hw2 ho2 => (cM_gameAll _ m hx h9 6 (by omega) w2 o2 (by omega) (by omega)).2)) (fun ho49 => ?_)
            refine sd_iload sD11_best_52 rfl ?_
            refine sd_icmp_eq (tgt := 63) sD11_best_54 (by decide) (fun zc54 => ?_) (fun zc54 => (by exfalso; omega))
            refine sd_iload sD11_best_63 rfl ?_
            refine sd_ireturn sD11_best_65 rfl (fun hr hm => ?_)
            exact sd_done (by unfold sp_best; (try simp only [Int.reduceToNat, Nat.reduceAdd, Nat.reduceMul, Nat.reduceSub, Nat.add_zero]); ((repeat (first | rw [if_pos (by first | assumption | omega)] | rw [if_neg (by first | assumption | omega)])); try rfl); try (unfold sd_bst; ((repeat (first | rw [if_pos (by first | assumption | omega)] | rw [if_neg (by first | assumption | omega)])); try rfl))) hx
      ·
        subst zs23
        refine sd_aload_n sD11_best_23 rfl ?_
        refine sd_iconst sD11_best_24 (by decide) ?_
        refine sd_iload_n sD11_best_25 rfl ?_
        refine sd_iload_n sD11_best_26 rfl ?_
        refine sd_iconst sD11_best_27 (by decide) ?_
        refine sd_iload_n sD11_best_28 rfl ?_
        refine sd_imul (z := 10) sD11_best_29 (by omega) (by omega) ?_
        refine sd_callVp (as := [.inl 0, .inl w, .inl v, .inl 10]) (st := []) (v := .inl (sd_gv x 10 false w v)) sD11_best_30 sM11_214 sOM15 rfl rfl rfl (by decide) (Nat.le_of_ble_eq_true rfl) ((cM_gameAll _ m hx h9 9 (by omega) w v (by omega) (by omega)).1) (fun ho30 => ?_)
        have eg : sd_gv x 10 false w v = max (sd_bh x (sd_gv x 9 true) 0 w v) (max (sd_bh x (sd_gv x 9 true) 1 w v) (sd_bh x (sd_gv x 9 true) 2 w v)) := sd_gv_max x 9 w v
        refine sd_istore (ls' := [some (.inr 15), some (.inl w), some (.inl v), some (.inl 5), some (.inl (sd_gv x 10 false w v)), none]) sD11_best_33 (by decide) rfl ?_
        refine sd_iconst sD11_best_35 (by decide) ?_
        refine sd_istore (ls' := [some (.inr 15), some (.inl w), some (.inl v), some (.inl 5), some (.inl (sd_gv x 10 false w v)), some (.inl 0)]) sD11_best_36 (by decide) rfl ?_
        refine sd_aload_n sD11_best_38 rfl ?_
        refine sd_iconst sD11_best_39 (by decide) ?_
        refine sd_iload sD11_best_40 rfl ?_
        refine sd_iload_n sD11_best_42 rfl ?_
        refine sd_iload_n sD11_best_43 rfl ?_
        refine sd_iconst sD11_best_44 (by decide) ?_
        refine sd_iload_n sD11_best_45 rfl ?_
        refine sd_imul (z := 10) sD11_best_46 (by omega) (by omega) ?_
        refine sd_iconst sD11_best_47 (by decide) ?_
        refine sd_isub (z := 9) sD11_best_48 (by omega) (by omega) ?_
        refine sd_callVp (as := [.inl 0, .inl 0, .inl w, .inl v, .inl 9]) (st := []) (v := .inl (sd_bh x (sd_gv x 9 true) 0 w v)) sD11_best_49 sM11_218 sOM15 rfl rfl rfl (by decide) (Nat.le_of_ble_eq_true rfl) (cM_behind0 0 (by decide) 9 w v _ m hx h9 (by omega) (by omega) (by omega) (fun _ w2 o2 hw2 ho2 => (cM_gameAll _ m hx h9 8 (by omega) w2 o2 (by omega) (by omega)).2)) (fun ho49 => ?_)
        refine sd_iload sD11_best_52 rfl ?_
        refine sd_icmp_eq (tgt := 63) sD11_best_54 (by decide) (fun zc54 => ?_) (fun zc54 => ?_)
        ·
          refine sd_iload sD11_best_63 rfl ?_
          refine sd_ireturn sD11_best_65 rfl (fun hr hm => ?_)
          exact sd_done (by unfold sp_best; (try simp only [Int.reduceToNat, Nat.reduceAdd, Nat.reduceMul, Nat.reduceSub, Nat.add_zero]); ((repeat (first | rw [if_pos (by first | assumption | omega)] | rw [if_neg (by first | assumption | omega)])); try rfl); try (unfold sd_bst; ((repeat (first | rw [if_pos (by first | assumption | omega)] | rw [if_neg (by first | assumption | omega)])); try rfl))) hx
        ·
          refine sd_iinc (y := 1) (ls' := [some (.inr 15), some (.inl w), some (.inl v), some (.inl 5), some (.inl (sd_gv x 10 false w v)), some (.inl 1)]) sD11_best_57 rfl (by omega) (by omega) (by decide) rfl ?_
          refine sd_goto (tgt := 38) sD11_best_60 (by decide) ?_
          refine sd_aload_n sD11_best_38 rfl ?_
          refine sd_iconst sD11_best_39 (by decide) ?_
          refine sd_iload sD11_best_40 rfl ?_
          refine sd_iload_n sD11_best_42 rfl ?_
          refine sd_iload_n sD11_best_43 rfl ?_
          refine sd_iconst sD11_best_44 (by decide) ?_
          refine sd_iload_n sD11_best_45 rfl ?_
          refine sd_imul (z := 10) sD11_best_46 (by omega) (by omega) ?_
          refine sd_iconst sD11_best_47 (by decide) ?_
          refine sd_isub (z := 9) sD11_best_48 (by omega) (by omega) ?_
          refine sd_callVp (as := [.inl 0, .inl 1, .inl w, .inl v, .inl 9]) (st := []) (v := .inl (sd_bh x (sd_gv x 9 true) 1 w v)) sD11_best_49 sM11_218 sOM15 rfl rfl rfl (by decide) (Nat.le_of_ble_eq_true rfl) (cM_behind0 1 (by decide) 9 w v _ m hx h9 (by omega) (by omega) (by omega) (fun _ w2 o2 hw2 ho2 => (cM_gameAll _ m hx h9 8 (by omega) w2 o2 (by omega) (by omega)).2)) (fun ho49 => ?_)
          refine sd_iload sD11_best_52 rfl ?_
          refine sd_icmp_eq (tgt := 63) sD11_best_54 (by decide) (fun zc54 => ?_) (fun zc54 => ?_)
          ·
            refine sd_iload sD11_best_63 rfl ?_
            refine sd_ireturn sD11_best_65 rfl (fun hr hm => ?_)
            exact sd_done (by unfold sp_best; (try simp only [Int.reduceToNat, Nat.reduceAdd, Nat.reduceMul, Nat.reduceSub, Nat.add_zero]); ((repeat (first | rw [if_pos (by first | assumption | omega)] | rw [if_neg (by first | assumption | omega)])); try rfl); try (unfold sd_bst; ((repeat (first | rw [if_pos (by first | assumption | omega)] | rw [if_neg (by first | assumption | omega)])); try rfl))) hx
          ·
            refine sd_iinc (y := 2) (ls' := [some (.inr 15), some (.inl w), some (.inl v), some (.inl 5), some (.inl (sd_gv x 10 false w v)), some (.inl 2)]) sD11_best_57 rfl (by omega) (by omega) (by decide) rfl ?_
            refine sd_goto (tgt := 38) sD11_best_60 (by decide) ?_
            refine sd_aload_n sD11_best_38 rfl ?_
            refine sd_iconst sD11_best_39 (by decide) ?_
            refine sd_iload sD11_best_40 rfl ?_
            refine sd_iload_n sD11_best_42 rfl ?_
            refine sd_iload_n sD11_best_43 rfl ?_
            refine sd_iconst sD11_best_44 (by decide) ?_
            refine sd_iload_n sD11_best_45 rfl ?_
            refine sd_imul (z := 10) sD11_best_46 (by omega) (by omega) ?_
            refine sd_iconst sD11_best_47 (by decide) ?_
            refine sd_isub (z := 9) sD11_best_48 (by omega) (by omega) ?_
            refine sd_callVp (as := [.inl 0, .inl 2, .inl w, .inl v, .inl 9]) (st := []) (v := .inl (sd_bh x (sd_gv x 9 true) 2 w v)) sD11_best_49 sM11_218 sOM15 rfl rfl rfl (by decide) (Nat.le_of_ble_eq_true rfl) (cM_behind0 2 (by decide) 9 w v _ m hx h9 (by omega) (by omega) (by omega) (fun _ w2 o2 hw2 ho2 => (cM_gameAll _ m hx h9 8 (by omega) w2 o2 (by omega) (by omega)).2)) (fun ho49 => ?_)
            refine sd_iload sD11_best_52 rfl ?_
            refine sd_icmp_eq (tgt := 63) sD11_best_54 (by decide) (fun zc54 => ?_) (fun zc54 => (by exfalso; omega))
            refine sd_iload sD11_best_63 rfl ?_
            refine sd_ireturn sD11_best_65 rfl (fun hr hm => ?_)
            exact sd_done (by unfold sp_best; (try simp only [Int.reduceToNat, Nat.reduceAdd, Nat.reduceMul, Nat.reduceSub, Nat.add_zero]); ((repeat (first | rw [if_pos (by first | assumption | omega)] | rw [if_neg (by first | assumption | omega)])); try rfl); try (unfold sd_bst; ((repeat (first | rw [if_pos (by first | assumption | omega)] | rw [if_neg (by first | assumption | omega)])); try rfl))) hx
    ·
      refine sd_aload_n sD11_best_17 rfl ?_
      refine sd_iconst sD11_best_18 (by decide) ?_
      refine sd_callV (as := [.inl 0]) (st := []) sD11_best_19 sM11_78 rfl rfl sOM15 rfl (by decide) (Nat.le_of_ble_eq_true rfl) (cM_finding 0 (by decide) _ m hx (hF 0 (by decide))) (fun r m hq ho19 hm => ?_)
      obtain ⟨rfl, hx⟩ := hq
      show sd_Wp sd_SM 23 sY11_best 22 [some (.inr 15), some (.inl w), some (.inl v), some (.inl n), none, none] [.inl (-1000001)] m _
      refine sd_ireturn sD11_best_22 rfl (fun hr hm => ?_)
      exact sd_done (by unfold sp_best; (try simp only [Int.reduceToNat, Nat.reduceAdd, Nat.reduceMul, Nat.reduceSub, Nat.add_zero]); ((repeat (first | rw [if_pos (by first | assumption | omega)] | rw [if_neg (by first | assumption | omega)])); try rfl); try (unfold sd_bst; ((repeat (first | rw [if_pos (by first | assumption | omega)] | rw [if_neg (by first | assumption | omega)])); try rfl))) hx
