set_option maxRecDepth 100000 in
set_option maxHeartbeats 4000000 in
theorem pM_why (w : Int) (h : Int) (x m : sd_M) (hx : sd_ns x m) (h1 : sd_I1 x) (h2 : sd_I2 x) (h4 : sd_I4 x) (h6 : sd_I6 x) (hR : sd_IR x) (hI : sd_IT x) (hL : sd_LT x) (hF : ∀ k : Nat, k < 7 → 0 ≤ x (4101 + k) ∧ x (4101 + k) ≤ 1000000) : sd_Ct sd_SM 6 sY11_why [.inr 15, .inl w, .inl h] m (sd_Qp (sp_why x w h)) := by
  refine sd_ct rfl (Nat.le_of_ble_eq_true rfl) (fun hok hm => ?_)
  obtain ⟨⟨i0, j0⟩, ⟨i1, j1⟩, ⟨i2, j2⟩, ⟨i3, j3⟩, ⟨i4, j4⟩, ⟨i5, j5⟩, ⟨i6, j6⟩, ⟨i7, j7⟩, ⟨i8, j8⟩⟩ := id h1
  have r_w : sd_R w := hok (.inl w) (by simp)
  have r_h : sd_R h := hok (.inl h) (by simp)
  show sd_Wp sd_SM 6 sY11_why 0 [some (.inr 15), some (.inl w), some (.inl h), none] [] m _
  refine sd_iload_n sD11_why_0 rfl ?_
  refine sd_iconst sD11_why_1 (by decide) ?_
  refine sd_iconst sD11_why_2 (by decide) ?_
  refine sd_callSp (as := [.inl w, .inl 0, .inl 3]) (st := []) (v := .inl (sd_b (0 ≤ w ∧ w ≤ 3))) sD11_why_3 sM11_56 rfl rfl (by decide) (Nat.le_of_ble_eq_true rfl) (cM_in w 0 3 m) (fun ho3 => ?_)
  refine sd_bif_eq (tgt := 17) sD11_why_6 (by decide) (fun zc6 => ?_) (fun zc6 => ?_)
  ·
    refine sd_aload_n sD11_why_17 rfl ?_
    refine sd_iconst sD11_why_18 (by decide) ?_
    refine sd_callV (as := [.inl 0]) (st := []) sD11_why_19 sM11_78 rfl rfl sOM15 rfl (by decide) (Nat.le_of_ble_eq_true rfl) (cM_finding 0 (by decide) _ m hx (hF 0 (by decide))) (fun r m hq ho19 hm => ?_)
    obtain ⟨rfl, hx⟩ := hq
    show sd_Wp sd_SM 6 sY11_why 22 [some (.inr 15), some (.inl w), some (.inl h), none] [.inl (-1000001)] m _
    refine sd_ireturn sD11_why_22 rfl (fun hr hm => ?_)
    exact sd_done (by unfold sp_why; ((repeat (first | rw [if_pos (by first | assumption | omega)] | rw [if_neg (by first | assumption | omega)] | rw [if_pos (by first | exact Or.inl (by assumption) | exact Or.inr (by assumption))] | rw [if_neg (fun q => by rcases q with q | q; omega; contradiction)])); try rfl)) hx
  ·
    refine sd_aload_n sD11_why_9 rfl ?_
    refine sd_iload_n sD11_why_10 rfl ?_
    refine sd_callVp (as := [.inl h]) (st := []) (v := .inl (sd_b (sd_isH x h))) sD11_why_11 sM11_60 sOM15 rfl rfl rfl (by decide) (Nat.le_of_ble_eq_true rfl) (cM_isHold h _ m hx h1 ) (fun ho11 => ?_)
    refine sd_bif_ne (tgt := 23) sD11_why_14 (by decide) (fun zc14 => ?_) (fun zc14 => ?_)
    ·
      refine sd_aload_n sD11_why_23 rfl ?_
      refine sd_iload_n sD11_why_24 rfl ?_
      refine sd_callVp (as := [.inl h]) (st := []) (v := .inl (sd_b (sd_isA x h 1))) sD11_why_25 sM11_72 sOM15 rfl rfl rfl (by decide) (Nat.le_of_ble_eq_true rfl) (cM_isShop h _ m hx h1 h2 ) (fun ho25 => ?_)
      refine sd_bif_ne (tgt := 37) sD11_why_28 (by decide) (fun zc28 => ?_) (fun zc28 => ?_)
      ·
        refine sd_aload_n sD11_why_37 rfl ?_
        refine sd_iload_n sD11_why_38 rfl ?_
        refine sd_iload_n sD11_why_39 rfl ?_
        refine sd_callV (as := [.inl w, .inl h]) (st := []) sD11_why_40 sM11_87 rfl rfl sOM15 rfl (by decide) (Nat.le_of_ble_eq_true rfl) (cM_isBarred w h _ m hx (by omega) h1 h2 h4 h6 hR hI hL) (fun r m hq ho40 hm => ?_)
        obtain ⟨rfl, hx, hwy40⟩ := hq
        have zk40 := sd_clx_rng h1 hR w h
        show sd_Wp sd_SM 6 sY11_why 43 [some (.inr 15), some (.inl w), some (.inl h), none] [.inl (sd_b (sd_brs x (sd_clx x w h)))] m _
        refine sd_istore_n (ls' := [some (.inr 15), some (.inl w), some (.inl h), some (.inl (sd_b (sd_brs x (sd_clx x w h))))]) sD11_why_43 (by decide) rfl ?_
        refine sd_aload_n sD11_why_44 rfl ?_
        refine sd_getfi sD11_why_45 sF11_199 sGM15_17 ?_
        rw [show m 5512 = (if sd_clx x w h = -1 then -1 else sd_clx x w h / 5) from (by rcases hwy40 with q | q; (rw [if_pos q.1]; exact q.2); (rw [if_neg q.1]; exact q.2.1))]
        refine sd_if_ge (tgt := 59) sD11_why_48 (by decide) (fun zc48 => ?_) (fun zc48 => ?_)
        ·
          refine sd_bipush sD11_why_59 rfl (by decide) ?_
          refine sd_aload_n sD11_why_61 rfl ?_
          refine sd_getfi sD11_why_62 sF11_199 sGM15_17 ?_
          rw [show m 5512 = (if sd_clx x w h = -1 then -1 else sd_clx x w h / 5) from (by rcases hwy40 with q | q; (rw [if_pos q.1]; exact q.2); (rw [if_neg q.1]; exact q.2.1))]
          refine sd_imul (z := (10 * (if sd_clx x w h = -1 then -1 else sd_clx x w h / 5))) sD11_why_65 (by omega) (by omega) ?_
          refine sd_aload_n sD11_why_66 rfl ?_
          refine sd_getfi sD11_why_67 sF11_176 sGM15_15 ?_
          rw [show m 5510 = (sd_clx x w h % 5) from (by rcases hwy40 with q | q; (exfalso; rw [if_pos q.1] at zc48; omega); exact q.2.2)]
          refine sd_iadd (z := ((10 * (if sd_clx x w h = -1 then -1 else sd_clx x w h / 5)) + (sd_clx x w h % 5))) sD11_why_70 (by omega) (by omega) ?_
          refine sd_ireturn sD11_why_71 rfl (fun hr hm => ?_)
          exact sd_done (by unfold sp_why; ((repeat (first | rw [if_pos (by first | assumption | omega)] | rw [if_neg (by first | assumption | omega)] | rw [if_pos (by first | exact Or.inl (by assumption) | exact Or.inr (by assumption))] | rw [if_neg (fun q => by rcases q with q | q; omega; contradiction)])); try rfl)) hx
        ·
          refine sd_aload_n sD11_why_51 rfl ?_
          refine sd_iconst sD11_why_52 (by decide) ?_
          refine sd_callV (as := [.inl 3]) (st := []) sD11_why_53 sM11_78 rfl rfl sOM15 rfl (by decide) (Nat.le_of_ble_eq_true rfl) (cM_finding 3 (by decide) _ m hx (hF 3 (by decide))) (fun r m hq ho53 hm => ?_)
          obtain ⟨rfl, hx⟩ := hq
          show sd_Wp sd_SM 6 sY11_why 56 [some (.inr 15), some (.inl w), some (.inl h), some (.inl (sd_b (sd_brs x (sd_clx x w h))))] [.inl (-1000004)] m _
          refine sd_goto (tgt := 71) sD11_why_56 (by decide) ?_
          refine sd_ireturn sD11_why_71 rfl (fun hr hm => ?_)
          exact sd_done (by unfold sp_why; ((repeat (first | rw [if_pos (by first | assumption | omega)] | rw [if_neg (by first | assumption | omega)] | rw [if_pos (by first | exact Or.inl (by assumption) | exact Or.inr (by assumption))] | rw [if_neg (fun q => by rcases q with q | q; omega; contradiction)])); try rfl)) hx
      ·
        refine sd_aload_n sD11_why_31 rfl ?_
        refine sd_iconst sD11_why_32 (by decide) ?_
        refine sd_callV (as := [.inl 2]) (st := []) sD11_why_33 sM11_78 rfl rfl sOM15 rfl (by decide) (Nat.le_of_ble_eq_true rfl) (cM_finding 2 (by decide) _ m hx (hF 2 (by decide))) (fun r m hq ho33 hm => ?_)
        obtain ⟨rfl, hx⟩ := hq
        show sd_Wp sd_SM 6 sY11_why 36 [some (.inr 15), some (.inl w), some (.inl h), none] [.inl (-1000003)] m _
        refine sd_ireturn sD11_why_36 rfl (fun hr hm => ?_)
        exact sd_done (by unfold sp_why; ((repeat (first | rw [if_pos (by first | assumption | omega)] | rw [if_neg (by first | assumption | omega)] | rw [if_pos (by first | exact Or.inl (by assumption) | exact Or.inr (by assumption))] | rw [if_neg (fun q => by rcases q with q | q; omega; contradiction)])); try rfl)) hx
    ·
      refine sd_aload_n sD11_why_17 rfl ?_
      refine sd_iconst sD11_why_18 (by decide) ?_
      refine sd_callV (as := [.inl 0]) (st := []) sD11_why_19 sM11_78 rfl rfl sOM15 rfl (by decide) (Nat.le_of_ble_eq_true rfl) (cM_finding 0 (by decide) _ m hx (hF 0 (by decide))) (fun r m hq ho19 hm => ?_)
      obtain ⟨rfl, hx⟩ := hq
      show sd_Wp sd_SM 6 sY11_why 22 [some (.inr 15), some (.inl w), some (.inl h), none] [.inl (-1000001)] m _
      refine sd_ireturn sD11_why_22 rfl (fun hr hm => ?_)
      exact sd_done (by unfold sp_why; ((repeat (first | rw [if_pos (by first | assumption | omega)] | rw [if_neg (by first | assumption | omega)] | rw [if_pos (by first | exact Or.inl (by assumption) | exact Or.inr (by assumption))] | rw [if_neg (fun q => by rcases q with q | q; omega; contradiction)])); try rfl)) hx
