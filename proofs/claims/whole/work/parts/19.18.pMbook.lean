set_option maxRecDepth 100000 in
set_option maxHeartbeats 4000000 in
theorem pM_book (d : Int) (w : Int) (x m : sd_M) (hx : sd_ns x m) (h1 : sd_I1 x) (hF : ∀ k : Nat, k < 7 → 0 ≤ x (4101 + k) ∧ x (4101 + k) ≤ 1000000) : sd_Ct sd_SM 2 sY11_book [.inr 15, .inl d, .inl w] m (sd_Qp (sp_book x d w)) := by
  refine sd_ct rfl (Nat.le_of_ble_eq_true rfl) (fun hok hm => ?_)
  obtain ⟨⟨i0, j0⟩, ⟨i1, j1⟩, ⟨i2, j2⟩, ⟨i3, j3⟩, ⟨i4, j4⟩, ⟨i5, j5⟩, ⟨i6, j6⟩, ⟨i7, j7⟩, ⟨i8, j8⟩⟩ := id h1
  have r_d : sd_R d := hok (.inl d) (by simp)
  have r_w : sd_R w := hok (.inl w) (by simp)
  show sd_Wp sd_SM 2 sY11_book 0 [some (.inr 15), some (.inl d), some (.inl w)] [] m _
  refine sd_iload_n sD11_book_0 rfl ?_
  refine sd_iconst sD11_book_1 (by decide) ?_
  refine sd_iconst sD11_book_2 (by decide) ?_
  refine sd_callSp (as := [.inl w, .inl 0, .inl 5]) (st := []) (v := .inl (sd_b (0 ≤ w ∧ w ≤ 5))) sD11_book_3 sM11_56 rfl rfl (by decide) (Nat.le_of_ble_eq_true rfl) (cM_in w 0 5 m) (fun ho3 => ?_)
  refine sd_bif_eq (tgt := 19) sD11_book_6 (by decide) (fun zc6 => ?_) (fun zc6 => ?_)
  ·
    refine sd_aload_n sD11_book_19 rfl ?_
    refine sd_iconst sD11_book_20 (by decide) ?_
    refine sd_callV (as := [.inl 0]) (st := []) sD11_book_21 sM11_78 rfl rfl sOM15 rfl (by decide) (Nat.le_of_ble_eq_true rfl) (cM_finding 0 (by decide) _ m hx (hF 0 (by decide))) (fun r m hq ho21 hm => ?_)
    obtain ⟨rfl, hx⟩ := hq
    show sd_Wp sd_SM 2 sY11_book 24 [some (.inr 15), some (.inl d), some (.inl w)] [.inl (-1000001)] m _
    refine sd_ireturn sD11_book_24 rfl (fun hr hm => ?_)
    exact sd_done (by unfold sp_book; ((repeat (first | rw [if_pos (by first | assumption | omega)] | rw [if_neg (by first | assumption | omega)])); try rfl); try (congr 2; omega)) hx
  ·
    refine sd_iload_n sD11_book_9 rfl ?_
    refine sd_iconst sD11_book_10 (by decide) ?_
    refine sd_bipush sD11_book_11 rfl (by decide) ?_
    refine sd_callSp (as := [.inl d, .inl 0, .inl 39]) (st := []) (v := .inl (sd_b (0 ≤ d ∧ d ≤ 39))) sD11_book_13 sM11_56 rfl rfl (by decide) (Nat.le_of_ble_eq_true rfl) (cM_in d 0 39 m) (fun ho13 => ?_)
    refine sd_bif_ne (tgt := 25) sD11_book_16 (by decide) (fun zc16 => ?_) (fun zc16 => ?_)
    ·
      refine sd_aload_n sD11_book_25 rfl ?_
      refine sd_iload_n sD11_book_26 rfl ?_
      refine sd_callVp (as := [.inl d]) (st := []) (v := .inl (sd_b (d < x 0 / 24))) sD11_book_27 sM11_252 sOM15 rfl rfl rfl (by decide) (Nat.le_of_ble_eq_true rfl) (cM_isClosed d _ m hx h1 (by omega)) (fun ho27 => ?_)
      refine sd_bif_eq (tgt := 51) sD11_book_30 (by decide) (fun zc30 => ?_) (fun zc30 => ?_)
      ·
        refine sd_aload_n sD11_book_51 rfl ?_
        refine sd_iconst sD11_book_52 (by decide) ?_
        refine sd_callV (as := [.inl 3]) (st := []) sD11_book_53 sM11_78 rfl rfl sOM15 rfl (by decide) (Nat.le_of_ble_eq_true rfl) (cM_finding 3 (by decide) _ m hx (hF 3 (by decide))) (fun r m hq ho53 hm => ?_)
        obtain ⟨rfl, hx⟩ := hq
        show sd_Wp sd_SM 2 sY11_book 56 [some (.inr 15), some (.inl d), some (.inl w)] [.inl (-1000004)] m _
        refine sd_ireturn sD11_book_56 rfl (fun hr hm => ?_)
        exact sd_done (by unfold sp_book; ((repeat (first | rw [if_pos (by first | assumption | omega)] | rw [if_neg (by first | assumption | omega)])); try rfl); try (congr 2; omega)) hx
      ·
        refine sd_aload_n sD11_book_33 rfl ?_
        refine sd_getfr sD11_book_34 sF11_7 sGM15_0 ?_
        refine sd_sipush sD11_book_37 rfl (by decide) ?_
        refine sd_bipush sD11_book_40 rfl (by decide) ?_
        refine sd_iload_n sD11_book_42 rfl ?_
        refine sd_imul (z := (6 * d)) sD11_book_43 (by omega) (by omega) ?_
        refine sd_iadd (z := (1314 + (6 * d))) sD11_book_44 (by omega) (by omega) ?_
        refine sd_iload_n sD11_book_45 rfl ?_
        refine sd_iadd (z := ((1314 + (6 * d)) + w)) sD11_book_46 (by omega) (by omega) ?_
        refine sd_ialdx (a := ((1314 + (6 * d.toNat)) + w.toNat)) (v := x ((1314 + (6 * d.toNat)) + w.toNat)) hx sD11_book_47 sAM0 (by omega) rfl ?_
        refine sd_goto (tgt := 56) sD11_book_48 (by decide) ?_
        refine sd_ireturn sD11_book_56 rfl (fun hr hm => ?_)
        exact sd_done (by unfold sp_book; ((repeat (first | rw [if_pos (by first | assumption | omega)] | rw [if_neg (by first | assumption | omega)])); try rfl); try (congr 2; omega)) hx
    ·
      refine sd_aload_n sD11_book_19 rfl ?_
      refine sd_iconst sD11_book_20 (by decide) ?_
      refine sd_callV (as := [.inl 0]) (st := []) sD11_book_21 sM11_78 rfl rfl sOM15 rfl (by decide) (Nat.le_of_ble_eq_true rfl) (cM_finding 0 (by decide) _ m hx (hF 0 (by decide))) (fun r m hq ho21 hm => ?_)
      obtain ⟨rfl, hx⟩ := hq
      show sd_Wp sd_SM 2 sY11_book 24 [some (.inr 15), some (.inl d), some (.inl w)] [.inl (-1000001)] m _
      refine sd_ireturn sD11_book_24 rfl (fun hr hm => ?_)
      exact sd_done (by unfold sp_book; ((repeat (first | rw [if_pos (by first | assumption | omega)] | rw [if_neg (by first | assumption | omega)])); try rfl); try (congr 2; omega)) hx
