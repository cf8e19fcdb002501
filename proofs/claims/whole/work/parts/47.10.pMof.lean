set_option maxRecDepth 100000 in
set_option maxHeartbeats 4000000 in
theorem pM_of (h : Int) (w : Int) (x m : sd_M) (hx : sd_ns x m) (h1 : sd_I1 x) (h2 : sd_I2 x) (h3 : sd_I3 x) (h4 : sd_I4 x) (h6 : sd_I6 x) (hR : sd_IR x) (hI : sd_IT x) (hL : sd_LT x) (hF : ∀ k : Nat, k < 7 → 0 ≤ x (4101 + k) ∧ x (4101 + k) ≤ 1000000) : sd_Ct sd_SM 7 sY11_of [.inr 15, .inl h, .inl w] m (sd_Qp (sp_of x h w)) := by
  refine sd_ct rfl (Nat.le_of_ble_eq_true rfl) (fun hok hm => ?_)
  obtain ⟨⟨i0, j0⟩, ⟨i1, j1⟩, ⟨i2, j2⟩, ⟨i3, j3⟩, ⟨i4, j4⟩, ⟨i5, j5⟩, ⟨i6, j6⟩, ⟨i7, j7⟩, ⟨i8, j8⟩⟩ := id h1
  have r_h : sd_R h := hok (.inl h) (by simp)
  have r_w : sd_R w := hok (.inl w) (by simp)
  show sd_Wp sd_SM 7 sY11_of 0 [some (.inr 15), some (.inl h), some (.inl w), none] [] m _
  refine sd_aload_n sD11_of_0 rfl ?_
  refine sd_iload_n sD11_of_1 rfl ?_
  refine sd_callVp (as := [.inl h]) (st := []) (v := .inl (sd_b (sd_isH x h))) sD11_of_2 sM11_60 sOM15 rfl rfl rfl (by decide) (Nat.le_of_ble_eq_true rfl) (cM_isHold h _ m hx h1 ) (fun ho2 => ?_)
  refine sd_bif_eq (tgt := 18) sD11_of_5 (by decide) (fun zc5 => ?_) (fun zc5 => ?_)
  ·
    refine sd_aload_n sD11_of_18 rfl ?_
    refine sd_iconst sD11_of_19 (by decide) ?_
    refine sd_callV (as := [.inl 0]) (st := []) sD11_of_20 sM11_78 rfl rfl sOM15 rfl (by decide) (Nat.le_of_ble_eq_true rfl) (cM_finding 0 (by decide) _ m hx (hF 0 (by decide))) (fun r m hq ho20 hm => ?_)
    obtain ⟨rfl, hx⟩ := hq
    show sd_Wp sd_SM 7 sY11_of 23 [some (.inr 15), some (.inl h), some (.inl w), none] [.inl (-1000001)] m _
    refine sd_ireturn sD11_of_23 rfl (fun hr hm => ?_)
    first | (exfalso; omega) | exact sd_done (by unfold sp_of sd_num; (try simp only [Int.reduceToNat, sd_kth]); (try simp only [List.getD_cons_zero, List.getD_cons_succ]); ((repeat (first | rw [if_pos (by first | assumption | omega)] | rw [if_neg (by first | assumption | omega)] | rw [if_pos (by first | exact Or.inl (by assumption) | exact Or.inr (by assumption))] | rw [if_neg (fun q => by rcases q with q | q; omega; contradiction)])); try rfl); (try simp only [↓reduceIte]); try (first | (rw [sd_b1 (by assumption)]; done) | (rw [sd_b0 (by assumption)]; done))) hx
  ·
    refine sd_iload_n sD11_of_8 rfl ?_
    refine sd_iconst sD11_of_9 (by decide) ?_
    refine sd_bipush sD11_of_10 rfl (by decide) ?_
    refine sd_callSp (as := [.inl w, .inl 0, .inl 12]) (st := []) (v := .inl (sd_b (0 ≤ w ∧ w ≤ 12))) sD11_of_12 sM11_56 rfl rfl (by decide) (Nat.le_of_ble_eq_true rfl) (cM_in w 0 12 m) (fun ho12 => ?_)
    refine sd_bif_ne (tgt := 24) sD11_of_15 (by decide) (fun zc15 => ?_) (fun zc15 => ?_)
    ·
      rcases (show w = 0 ∨ w = 1 ∨ w = 2 ∨ w = 3 ∨ w = 4 ∨ w = 5 ∨ w = 6 ∨ w = 7 ∨ w = 8 ∨ w = 9 ∨ w = 10 ∨ w = 11 ∨ w = 12 by omega) with zs24 | zs24 | zs24 | zs24 | zs24 | zs24 | zs24 | zs24 | zs24 | zs24 | zs24 | zs24 | zs24
      ·
        subst zs24
        refine sd_iload_n sD11_of_24 rfl ?_
        refine sd_iconst sD11_of_25 (by decide) ?_
        refine sd_icmp_ge (tgt := 33) sD11_of_26 (by decide) (fun zc26 => (by exfalso; omega)) (fun zc26 => ?_)
        refine sd_iconst sD11_of_29 (by decide) ?_
        refine sd_goto (tgt := 75) sD11_of_30 (by decide) ?_
        refine sd_istore_n (ls' := [some (.inr 15), some (.inl h), some (.inl 0), some (.inl 0)]) sD11_of_75 (by decide) rfl ?_
        refine sd_aload_n sD11_of_76 rfl ?_
        refine sd_iload_n sD11_of_77 rfl ?_
        refine sd_iload_n sD11_of_78 rfl ?_
        refine sd_callVp (as := [.inl h, .inl 0]) (st := []) (v := .inl (sd_b (sd_isK (x (10 + h.toNat)) 0))) sD11_of_79 sM11_68 sOM15 rfl rfl rfl (by decide) (Nat.le_of_ble_eq_true rfl) (cM_isOf h 0 _ m hx h1 (by omega)) (fun ho79 => ?_)
        refine sd_bif_ne (tgt := 91) sD11_of_82 (by decide) (fun zc82 => ?_) (fun zc82 => ?_)
        ·
          refine sd_iload_n sD11_of_91 rfl ?_
          refine sd_tsw (off := 64) (tgt := 156) sD11_of_92 (by omega) rfl (by decide) ?_
          refine sd_aload_n sD11_of_156 rfl ?_
          refine sd_getfr sD11_of_157 sF11_7 sGM15_0 ?_
          refine sd_bipush sD11_of_160 rfl (by decide) ?_
          refine sd_iload_n sD11_of_162 rfl ?_
          refine sd_iadd (z := (10 + h)) sD11_of_163 (by omega) (by omega) ?_
          refine sd_ialdx (a := (10 + h.toNat)) (v := x (10 + h.toNat)) hx sD11_of_164 sAM0 (by omega) rfl ?_
          refine sd_ireturn sD11_of_165 rfl (fun hr hm => ?_)
          first | (exfalso; omega) | exact sd_done (by unfold sp_of sd_num; (try simp only [Int.reduceToNat, sd_kth]); (try simp only [List.getD_cons_zero, List.getD_cons_succ]); ((repeat (first | rw [if_pos (by first | assumption | omega)] | rw [if_neg (by first | assumption | omega)] | rw [if_pos (by first | exact Or.inl (by assumption) | exact Or.inr (by assumption))] | rw [if_neg (fun q => by rcases q with q | q; omega; contradiction)])); try rfl); (try simp only [↓reduceIte]); try (first | (rw [sd_b1 (by assumption)]; done) | (rw [sd_b0 (by assumption)]; done))) hx
        ·
          refine sd_aload_n sD11_of_85 rfl ?_
          refine sd_iconst sD11_of_86 (by decide) ?_
          refine sd_callV (as := [.inl 2]) (st := []) sD11_of_87 sM11_78 rfl rfl sOM15 rfl (by decide) (Nat.le_of_ble_eq_true rfl) (cM_finding 2 (by decide) _ m hx (hF 2 (by decide))) (fun r m hq ho87 hm => ?_)
          obtain ⟨rfl, hx⟩ := hq
          show sd_Wp sd_SM 7 sY11_of 90 [some (.inr 15), some (.inl h), some (.inl 0), some (.inl 0)] [.inl (-1000003)] m _
          refine sd_ireturn sD11_of_90 rfl (fun hr hm => ?_)
          first | (exfalso; omega) | exact sd_done (by unfold sp_of sd_num; (try simp only [Int.reduceToNat, sd_kth]); (try simp only [List.getD_cons_zero, List.getD_cons_succ]); ((repeat (first | rw [if_pos (by first | assumption | omega)] | rw [if_neg (by first | assumption | omega)] | rw [if_pos (by first | exact Or.inl (by assumption) | exact Or.inr (by assumption))] | rw [if_neg (fun q => by rcases q with q | q; omega; contradiction)])); try rfl); (try simp only [↓reduceIte]); try (first | (rw [sd_b1 (by assumption)]; done) | (rw [sd_b0 (by assumption)]; done))) hx
      ·
        subst zs24
        refine sd_iload_n sD11_of_24 rfl ?_
        refine sd_iconst sD11_of_25 (by decide) ?_
        refine sd_icmp_ge (tgt := 33) sD11_of_26 (by decide) (fun zc26 => (by exfalso; omega)) (fun zc26 => ?_)
        refine sd_iconst sD11_of_29 (by decide) ?_
        refine sd_goto (tgt := 75) sD11_of_30 (by decide) ?_
        refine sd_istore_n (ls' := [some (.inr 15), some (.inl h), some (.inl 1), some (.inl 0)]) sD11_of_75 (by decide) rfl ?_
        refine sd_aload_n sD11_of_76 rfl ?_
        refine sd_iload_n sD11_of_77 rfl ?_
        refine sd_iload_n sD11_of_78 rfl ?_
        refine sd_callVp (as := [.inl h, .inl 0]) (st := []) (v := .inl (sd_b (sd_isK (x (10 + h.toNat)) 0))) sD11_of_79 sM11_68 sOM15 rfl rfl rfl (by decide) (Nat.le_of_ble_eq_true rfl) (cM_isOf h 0 _ m hx h1 (by omega)) (fun ho79 => ?_)
        refine sd_bif_ne (tgt := 91) sD11_of_82 (by decide) (fun zc82 => ?_) (fun zc82 => ?_)
        ·
          refine sd_iload_n sD11_of_91 rfl ?_
          refine sd_tsw (off := 74) (tgt := 166) sD11_of_92 (by omega) rfl (by decide) ?_
          refine sd_aload_n sD11_of_166 rfl ?_
          refine sd_getfr sD11_of_167 sF11_7 sGM15_0 ?_
          refine sd_bipush sD11_of_170 rfl (by decide) ?_
          refine sd_iload_n sD11_of_172 rfl ?_
          refine sd_iadd (z := (34 + h)) sD11_of_173 (by omega) (by omega) ?_
          refine sd_ialdx (a := (34 + h.toNat)) (v := x (34 + h.toNat)) hx sD11_of_174 sAM0 (by omega) rfl ?_
          refine sd_ireturn sD11_of_175 rfl (fun hr hm => ?_)
          first | (exfalso; omega) | exact sd_done (by unfold sp_of sd_num; (try simp only [Int.reduceToNat, sd_kth]); (try simp only [List.getD_cons_zero, List.getD_cons_succ]); ((repeat (first | rw [if_pos (by first | assumption | omega)] | rw [if_neg (by first | assumption | omega)] | rw [if_pos (by first | exact Or.inl (by assumption) | exact Or.inr (by assumption))] | rw [if_neg (fun q => by rcases q with q | q; omega; contradiction)])); try rfl); (try simp only [↓reduceIte]); try (first | (rw [sd_b1 (by assumption)]; done) | (rw [sd_b0 (by assumption)]; done))) hx
        ·
          refine sd_aload_n sD11_of_85 rfl ?_
          refine sd_iconst sD11_of_86 (by decide) ?_
          refine sd_callV (as := [.inl 2]) (st := []) sD11_of_87 sM11_78 rfl rfl sOM15 rfl (by decide) (Nat.le_of_ble_eq_true rfl) (cM_finding 2 (by decide) _ m hx (hF 2 (by decide))) (fun r m hq ho87 hm => ?_)
          obtain ⟨rfl, hx⟩ := hq
          show sd_Wp sd_SM 7 sY11_of 90 [some (.inr 15), some (.inl h), some (.inl 1), some (.inl 0)] [.inl (-1000003)] m _
          refine sd_ireturn sD11_of_90 rfl (fun hr hm => ?_)
          first | (exfalso; omega) | exact sd_done (by unfold sp_of sd_num; (try simp only [Int.reduceToNat, sd_kth]); (try simp only [List.getD_cons_zero, List.getD_cons_succ]); ((repeat (first | rw [if_pos (by first | assumption | omega)] | rw [if_neg (by first | assumption | omega)] | rw [if_pos (by first | exact Or.inl (by assumption) | exact Or.inr (by assumption))] | rw [if_neg (fun q => by rcases q with q | q; omega; contradiction)])); try rfl); (try simp only [↓reduceIte]); try (first | (rw [sd_b1 (by assumption)]; done) | (rw [sd_b0 (by assumption)]; done))) hx
      ·
        subst zs24
        refine sd_iload_n sD11_of_24 rfl ?_
        refine sd_iconst sD11_of_25 (by decide) ?_
        refine sd_icmp_ge (tgt := 33) sD11_of_26 (by decide) (fun zc26 => (by exfalso; omega)) (fun zc26 => ?_)
        refine sd_iconst sD11_of_29 (by decide) ?_
        refine sd_goto (tgt := 75) sD11_of_30 (by decide) ?_
        refine sd_istore_n (ls' := [some (.inr 15), some (.inl h), some (.inl 2), some (.inl 0)]) sD11_of_75 (by decide) rfl ?_
        refine sd_aload_n sD11_of_76 rfl ?_
        refine sd_iload_n sD11_of_77 rfl ?_
        refine sd_iload_n sD11_of_78 rfl ?_
        refine sd_callVp (as := [.inl h, .inl 0]) (st := []) (v := .inl (sd_b (sd_isK (x (10 + h.toNat)) 0))) sD11_of_79 sM11_68 sOM15 rfl rfl rfl (by decide) (Nat.le_of_ble_eq_true rfl) (cM_isOf h 0 _ m hx h1 (by omega)) (fun ho79 => ?_)
        refine sd_bif_ne (tgt := 91) sD11_of_82 (by decide) (fun zc82 => ?_) (fun zc82 => ?_)
        ·
          refine sd_iload_n sD11_of_91 rfl ?_
          refine sd_tsw (off := 84) (tgt := 176) sD11_of_92 (by omega) rfl (by decide) ?_
          refine sd_aload_n sD11_of_176 rfl ?_
          refine sd_getfr sD11_of_177 sF11_7 sGM15_0 ?_
          refine sd_bipush sD11_of_180 rfl (by decide) ?_
          refine sd_iload_n sD11_of_182 rfl ?_
          refine sd_iadd (z := (58 + h)) sD11_of_183 (by omega) (by omega) ?_
          refine sd_ialdx (a := (58 + h.toNat)) (v := x (58 + h.toNat)) hx sD11_of_184 sAM0 (by omega) rfl ?_
          refine sd_ireturn sD11_of_185 rfl (fun hr hm => ?_)
          first | (exfalso; omega) | exact sd_done (by unfold sp_of sd_num; (try simp only [Int.reduceToNat, sd_kth]); (try simp only [List.getD_cons_zero, List.getD_cons_succ]); ((repeat (first | rw [if_pos (by first | assumption | omega)] | rw [if_neg (by first | assumption | omega)] | rw [if_pos (by first | exact Or.inl (by assumption) | exact Or.inr (by assumption))] | rw [if_neg (fun q => by rcases q with q | q; omega; contradiction)])); try rfl); (try simp only [↓reduceIte]); try (first | (rw [sd_b1 (by assumption)]; done) | (rw [sd_b0 (by assumption)]; done))) hx
        ·
          refine sd_aload_n sD11_of_85 rfl ?_
          refine sd_iconst sD11_of_86 (by decide) ?_
          refine sd_callV (as := [.inl 2]) (st := []) sD11_of_87 sM11_78 rfl rfl sOM15 rfl (by decide) (Nat.le_of_ble_eq_true rfl) (cM_finding 2 (by decide) _ m hx (hF 2 (by decide))) (fun r m hq ho87 hm => ?_)
          obtain ⟨rfl, hx⟩ := hq
          show sd_Wp sd_SM 7 sY11_of 90 [some (.inr 15), some (.inl h), some (.inl 2), some (.inl 0)] [.inl (-1000003)] m _
          refine sd_ireturn sD11_of_90 rfl (fun hr hm => ?_)
          first | (exfalso; omega) | exact sd_done (by unfold sp_of sd_num; (try simp only [Int.reduceToNat, sd_kth]); (try simp only [List.getD_cons_zero, List.getD_cons_succ]); ((repeat (first | rw [if_pos (by first | assumption | omega)] | rw [if_neg (by first | assumption | omega)] | rw [if_pos (by first | exact Or.inl (by assumption) | exact Or.inr (by assumption))] | rw [if_neg (fun q => by rcases q with q | q; omega; contradiction)])); try rfl); (try simp only [↓reduceIte]); try (first | (rw [sd_b1 (by assumption)]; done) | (rw [sd_b0 (by assumption)]; done))) hx
      ·
        subst zs24
        refine sd_iload_n sD11_of_24 rfl ?_
        refine sd_iconst sD11_of_25 (by decide) ?_
        refine sd_icmp_ge (tgt := 33) sD11_of_26 (by decide) (fun zc26 => ?_) (fun zc26 => (by exfalso; omega))
        refine sd_iload_n sD11_of_33 rfl ?_
        refine sd_bipush sD11_of_34 rfl (by decide) ?_
        refine sd_icmp_ge (tgt := 43) sD11_of_36 (by decide) (fun zc36 => (by exfalso; omega)) (fun zc36 => ?_)
        refine sd_iconst sD11_of_39 (by decide) ?_
        refine sd_goto (tgt := 75) sD11_of_40 (by decide) ?_
        refine sd_istore_n (ls' := [some (.inr 15), some (.inl h), some (.inl 3), some (.inl 1)]) sD11_of_75 (by decide) rfl ?_
        refine sd_aload_n sD11_of_76 rfl ?_
        refine sd_iload_n sD11_of_77 rfl ?_
        refine sd_iload_n sD11_of_78 rfl ?_
        refine sd_callVp (as := [.inl h, .inl 1]) (st := []) (v := .inl (sd_b (sd_isK (x (10 + h.toNat)) 1))) sD11_of_79 sM11_68 sOM15 rfl rfl rfl (by decide) (Nat.le_of_ble_eq_true rfl) (cM_isOf h 1 _ m hx h1 (by omega)) (fun ho79 => ?_)
        refine sd_bif_ne (tgt := 91) sD11_of_82 (by decide) (fun zc82 => ?_) (fun zc82 => ?_)
        ·
          refine sd_iload_n sD11_of_91 rfl ?_
          refine sd_tsw (off := 94) (tgt := 186) sD11_of_92 (by omega) rfl (by decide) ?_
          refine sd_aload_n sD11_of_186 rfl ?_
          refine sd_getfr sD11_of_187 sF11_7 sGM15_0 ?_
          refine sd_bipush sD11_of_190 rfl (by decide) ?_
          refine sd_iload_n sD11_of_192 rfl ?_
          refine sd_iadd (z := (82 + h)) sD11_of_193 (by omega) (by omega) ?_
          refine sd_ialdx (a := (82 + h.toNat)) (v := x (82 + h.toNat)) hx sD11_of_194 sAM0 (by omega) rfl ?_
          refine sd_ireturn sD11_of_195 rfl (fun hr hm => ?_)
          first | (exfalso; omega) | exact sd_done (by unfold sp_of sd_num; (try simp only [Int.reduceToNat, sd_kth]); (try simp only [List.getD_cons_zero, List.getD_cons_succ]); ((repeat (first | rw [if_pos (by first | assumption | omega)] | rw [if_neg (by first | assumption | omega)] | rw [if_pos (by first | exact Or.inl (by assumption) | exact Or.inr (by assumption))] | rw [if_neg (fun q => by rcases q with q | q; omega; contradiction)])); try rfl); (try simp only [↓reduceIte]); try (first | (rw [sd_b1 (by assumption)]; done) | (rw [sd_b0 (by assumption)]; done))) hx
        ·
          refine sd_aload_n sD11_of_85 rfl ?_
          refine sd_iconst sD11_of_86 (by decide) ?_
          refine sd_callV (as := [.inl 2]) (st := []) sD11_of_87 sM11_78 rfl rfl sOM15 rfl (by decide) (Nat.le_of_ble_eq_true rfl) (cM_finding 2 (by decide) _ m hx (hF 2 (by decide))) (fun r m hq ho87 hm => ?_)
          obtain ⟨rfl, hx⟩ := hq
          show sd_Wp sd_SM 7 sY11_of 90 [some (.inr 15), some (.inl h), some (.inl 3), some (.inl 1)] [.inl (-1000003)] m _
          refine sd_ireturn sD11_of_90 rfl (fun hr hm => ?_)
          first | (exfalso; omega) | exact sd_done (by unfold sp_of sd_num; (try simp only [Int.reduceToNat, sd_kth]); (try simp only [List.getD_cons_zero, List.getD_cons_succ]); ((repeat (first | rw [if_pos (by first | assumption | omega)] | rw [if_neg (by first | assumption | omega)] | rw [if_pos (by first | exact Or.inl (by assumption) | exact Or.inr (by assumption))] | rw [if_neg (fun q => by rcases q with q | q; omega; contradiction)])); try rfl); (try simp only [↓reduceIte]); try (first | (rw [sd_b1 (by assumption)]; done) | (rw [sd_b0 (by assumption)]; done))) hx
      ·
        subst zs24
        refine sd_iload_n sD11_of_24 rfl ?_
        refine sd_iconst sD11_of_25 (by decide) ?_
        refine sd_icmp_ge (tgt := 33) sD11_of_26 (by decide) (fun zc26 => ?_) (fun zc26 => (by exfalso; omega))
        refine sd_iload_n sD11_of_33 rfl ?_
        refine sd_bipush sD11_of_34 rfl (by decide) ?_
        refine sd_icmp_ge (tgt := 43) sD11_of_36 (by decide) (fun zc36 => (by exfalso; omega)) (fun zc36 => ?_)
        refine sd_iconst sD11_of_39 (by decide) ?_
        refine sd_goto (tgt := 75) sD11_of_40 (by decide) ?_
        refine sd_istore_n (ls' := [some (.inr 15), some (.inl h), some (.inl 4), some (.inl 1)]) sD11_of_75 (by decide) rfl ?_
        refine sd_aload_n sD11_of_76 rfl ?_
        refine sd_iload_n sD11_of_77 rfl ?_
        refine sd_iload_n sD11_of_78 rfl ?_
        refine sd_callVp (as := [.inl h, .inl 1]) (st := []) (v := .inl (sd_b (sd_isK (x (10 + h.toNat)) 1))) sD11_of_79 sM11_68 sOM15 rfl rfl rfl (by decide) (Nat.le_of_ble_eq_true rfl) (cM_isOf h 1 _ m hx h1 (by omega)) (fun ho79 => ?_)
        refine sd_bif_ne (tgt := 91) sD11_of_82 (by decide) (fun zc82 => ?_) (fun zc82 => ?_)
        ·
          refine sd_iload_n sD11_of_91 rfl ?_
          refine sd_tsw (off := 104) (tgt := 196) sD11_of_92 (by omega) rfl (by decide) ?_
          refine sd_aload_n sD11_of_196 rfl ?_
          refine sd_getfr sD11_of_197 sF11_7 sGM15_0 ?_
          refine sd_bipush sD11_of_200 rfl (by decide) ?_
          refine sd_iload_n sD11_of_202 rfl ?_
          refine sd_iadd (z := (106 + h)) sD11_of_203 (by omega) (by omega) ?_
          refine sd_ialdx (a := (106 + h.toNat)) (v := x (106 + h.toNat)) hx sD11_of_204 sAM0 (by omega) rfl ?_
          refine sd_ireturn sD11_of_205 rfl (fun hr hm => ?_)
          first | (exfalso; omega) | exact sd_done (by unfold sp_of sd_num; (try simp only [Int.reduceToNat, sd_kth]); (try simp only [List.getD_cons_zero, List.getD_cons_succ]); ((repeat (first | rw [if_pos (by first | assumption | omega)] | rw [if_neg (by first | assumption | omega)] | rw [if_pos (by first | exact Or.inl (by assumption) | exact Or.inr (by assumption))] | rw [if_neg (fun q => by rcases q with q | q; omega; contradiction)])); try rfl); (try simp only [↓reduceIte]); try (first | (rw [sd_b1 (by assumption)]; done) | (rw [sd_b0 (by assumption)]; done))) hx
        ·
          refine sd_aload_n sD11_of_85 rfl ?_
          refine sd_iconst sD11_of_86 (by decide) ?_
          refine sd_callV (as := [.inl 2]) (st := []) sD11_of_87 sM11_78 rfl rfl sOM15 rfl (by decide) (Nat.le_of_ble_eq_true rfl) (cM_finding 2 (by decide) _ m hx (hF 2 (by decide))) (fun r m hq ho87 hm => ?_)
          obtain ⟨rfl, hx⟩ := hq
          show sd_Wp sd_SM 7 sY11_of 90 [some (.inr 15), some (.inl h), some (.inl 4), some (.inl 1)] [.inl (-1000003)] m _
          refine sd_ireturn sD11_of_90 rfl (fun hr hm => ?_)
          first | (exfalso; omega) | exact sd_done (by unfold sp_of sd_num; (try simp only [Int.reduceToNat, sd_kth]); (try simp only [List.getD_cons_zero, List.getD_cons_succ]); ((repeat (first | rw [if_pos (by first | assumption | omega)] | rw [if_neg (by first | assumption | omega)] | rw [if_pos (by first | exact Or.inl (by assumption) | exact Or.inr (by assumption))] | rw [if_neg (fun q => by rcases q with q | q; omega; contradiction)])); try rfl); (try simp only [↓reduceIte]); try (first | (rw [sd_b1 (by assumption)]; done) | (rw [sd_b0 (by assumption)]; done))) hx
      ·
        subst zs24
        refine sd_iload_n sD11_of_24 rfl ?_
        refine sd_iconst sD11_of_25 (by decide) ?_
        refine sd_icmp_ge (tgt := 33) sD11_of_26 (by decide) (fun zc26 => ?_) (fun zc26 => (by exfalso; omega))
        refine sd_iload_n sD11_of_33 rfl ?_
        refine sd_bipush sD11_of_34 rfl (by decide) ?_
        refine sd_icmp_ge (tgt := 43) sD11_of_36 (by decide) (fun zc36 => (by exfalso; omega)) (fun zc36 => ?_)
        refine sd_iconst sD11_of_39 (by decide) ?_
        refine sd_goto (tgt := 75) sD11_of_40 (by decide) ?_
        refine sd_istore_n (ls' := [some (.inr 15), some (.inl h), some (.inl 5), some (.inl 1)]) sD11_of_75 (by decide) rfl ?_
        refine sd_aload_n sD11_of_76 rfl ?_
        refine sd_iload_n sD11_of_77 rfl ?_
        refine sd_iload_n sD11_of_78 rfl ?_
        refine sd_callVp (as := [.inl h, .inl 1]) (st := []) (v := .inl (sd_b (sd_isK (x (10 + h.toNat)) 1))) sD11_of_79 sM11_68 sOM15 rfl rfl rfl (by decide) (Nat.le_of_ble_eq_true rfl) (cM_isOf h 1 _ m hx h1 (by omega)) (fun ho79 => ?_)
        refine sd_bif_ne (tgt := 91) sD11_of_82 (by decide) (fun zc82 => ?_) (fun zc82 => ?_)
        ·
          refine sd_iload_n sD11_of_91 rfl ?_
          refine sd_tsw (off := 114) (tgt := 206) sD11_of_92 (by omega) rfl (by decide) ?_
          refine sd_aload_n sD11_of_206 rfl ?_
          refine sd_getfr sD11_of_207 sF11_7 sGM15_0 ?_
          refine sd_sipush sD11_of_210 rfl (by decide) ?_
          refine sd_iload_n sD11_of_213 rfl ?_
          refine sd_iadd (z := (130 + h)) sD11_of_214 (by omega) (by omega) ?_
          refine sd_ialdx (a := (130 + h.toNat)) (v := x (130 + h.toNat)) hx sD11_of_215 sAM0 (by omega) rfl ?_
          refine sd_ireturn sD11_of_216 rfl (fun hr hm => ?_)
          first | (exfalso; omega) | exact sd_done (by unfold sp_of sd_num; (try simp only [Int.reduceToNat, sd_kth]); (try simp only [List.getD_cons_zero, List.getD_cons_succ]); ((repeat (first | rw [if_pos (by first | assumption | omega)] | rw [if_neg (by first | assumption | omega)] | rw [if_pos (by first | exact Or.inl (by assumption) | exact Or.inr (by assumption))] | rw [if_neg (fun q => by rcases q with q | q; omega; contradiction)])); try rfl); (try simp only [↓reduceIte]); try (first | (rw [sd_b1 (by assumption)]; done) | (rw [sd_b0 (by assumption)]; done))) hx
        ·
          refine sd_aload_n sD11_of_85 rfl ?_
          refine sd_iconst sD11_of_86 (by decide) ?_
          refine sd_callV (as := [.inl 2]) (st := []) sD11_of_87 sM11_78 rfl rfl sOM15 rfl (by decide) (Nat.le_of_ble_eq_true rfl) (cM_finding 2 (by decide) _ m hx (hF 2 (by decide))) (fun r m hq ho87 hm => ?_)
          obtain ⟨rfl, hx⟩ := hq
          show sd_Wp sd_SM 7 sY11_of 90 [some (.inr 15), some (.inl h), some (.inl 5), some (.inl 1)] [.inl (-1000003)] m _
          refine sd_ireturn sD11_of_90 rfl (fun hr hm => ?_)
          first | (exfalso; omega) | exact sd_done (by unfold sp_of sd_num; (try simp only [Int.reduceToNat, sd_kth]); (try simp only [List.getD_cons_zero, List.getD_cons_succ]); ((repeat (first | rw [if_pos (by first | assumption | omega)] | rw [if_neg (by first | assumption | omega)] | rw [if_pos (by first | exact Or.inl (by assumption) | exact Or.inr (by assumption))] | rw [if_neg (fun q => by rcases q with q | q; omega; contradiction)])); try rfl); (try simp only [↓reduceIte]); try (first | (rw [sd_b1 (by assumption)]; done) | (rw [sd_b0 (by assumption)]; done))) hx
      ·
        subst zs24
        refine sd_iload_n sD11_of_24 rfl ?_
        refine sd_iconst sD11_of_25 (by decide) ?_
        refine sd_icmp_ge (tgt := 33) sD11_of_26 (by decide) (fun zc26 => ?_) (fun zc26 => (by exfalso; omega))
        refine sd_iload_n sD11_of_33 rfl ?_
        refine sd_bipush sD11_of_34 rfl (by decide) ?_
        refine sd_icmp_ge (tgt := 43) sD11_of_36 (by decide) (fun zc36 => (by exfalso; omega)) (fun zc36 => ?_)
        refine sd_iconst sD11_of_39 (by decide) ?_
        refine sd_goto (tgt := 75) sD11_of_40 (by decide) ?_
        refine sd_istore_n (ls' := [some (.inr 15), some (.inl h), some (.inl 6), some (.inl 1)]) sD11_of_75 (by decide) rfl ?_
        refine sd_aload_n sD11_of_76 rfl ?_
        refine sd_iload_n sD11_of_77 rfl ?_
        refine sd_iload_n sD11_of_78 rfl ?_
        refine sd_callVp (as := [.inl h, .inl 1]) (st := []) (v := .inl (sd_b (sd_isK (x (10 + h.toNat)) 1))) sD11_of_79 sM11_68 sOM15 rfl rfl rfl (by decide) (Nat.le_of_ble_eq_true rfl) (cM_isOf h 1 _ m hx h1 (by omega)) (fun ho79 => ?_)
        refine sd_bif_ne (tgt := 91) sD11_of_82 (by decide) (fun zc82 => ?_) (fun zc82 => ?_)
        ·
          refine sd_iload_n sD11_of_91 rfl ?_
          refine sd_tsw (off := 125) (tgt := 217) sD11_of_92 (by omega) rfl (by decide) ?_
          refine sd_aload_n sD11_of_217 rfl ?_
          refine sd_iload_n sD11_of_218 rfl ?_
          refine sd_callV (as := [.inl h]) (st := []) sD11_of_219 sM11_90 rfl rfl sOM15 rfl (by decide) (Nat.le_of_ble_eq_true rfl) (cM_makes h _ m hx (by omega) h1 h2 h4 h6 hR hI hL) (fun r m hq ho219 hm => ?_)
          obtain ⟨rfl, hx⟩ := hq
          show sd_Wp sd_SM 7 sY11_of 222 [some (.inr 15), some (.inl h), some (.inl 6), some (.inl 1)] [.inl (sd_b (sd_mk x h))] m _
          refine sd_bif_eq (tgt := 229) sD11_of_222 (by decide) (fun zc222 => ?_) (fun zc222 => ?_)
          ·
            refine sd_iconst sD11_of_229 (by decide) ?_
            refine sd_ireturn sD11_of_230 rfl (fun hr hm => ?_)
            first | (exfalso; omega) | exact sd_done (by unfold sp_of sd_num; (try simp only [Int.reduceToNat, sd_kth]); (try simp only [List.getD_cons_zero, List.getD_cons_succ]); ((repeat (first | rw [if_pos (by first | assumption | omega)] | rw [if_neg (by first | assumption | omega)] | rw [if_pos (by first | exact Or.inl (by assumption) | exact Or.inr (by assumption))] | rw [if_neg (fun q => by rcases q with q | q; omega; contradiction)])); try rfl); (try simp only [↓reduceIte]); try (first | (rw [sd_b1 (by assumption)]; done) | (rw [sd_b0 (by assumption)]; done))) hx
          ·
            refine sd_iconst sD11_of_225 (by decide) ?_
            refine sd_goto (tgt := 230) sD11_of_226 (by decide) ?_
            refine sd_ireturn sD11_of_230 rfl (fun hr hm => ?_)
            first | (exfalso; omega) | exact sd_done (by unfold sp_of sd_num; (try simp only [Int.reduceToNat, sd_kth]); (try simp only [List.getD_cons_zero, List.getD_cons_succ]); ((repeat (first | rw [if_pos (by first | assumption | omega)] | rw [if_neg (by first | assumption | omega)] | rw [if_pos (by first | exact Or.inl (by assumption) | exact Or.inr (by assumption))] | rw [if_neg (fun q => by rcases q with q | q; omega; contradiction)])); try rfl); (try simp only [↓reduceIte]); try (first | (rw [sd_b1 (by assumption)]; done) | (rw [sd_b0 (by assumption)]; done))) hx
        ·
          refine sd_aload_n sD11_of_85 rfl ?_
          refine sd_iconst sD11_of_86 (by decide) ?_
          refine sd_callV (as := [.inl 2]) (st := []) sD11_of_87 sM11_78 rfl rfl sOM15 rfl (by decide) (Nat.le_of_ble_eq_true rfl) (cM_finding 2 (by decide) _ m hx (hF 2 (by decide))) (fun r m hq ho87 hm => ?_)
          obtain ⟨rfl, hx⟩ := hq
          show sd_Wp sd_SM 7 sY11_of 90 [some (.inr 15), some (.inl h), some (.inl 6), some (.inl 1)] [.inl (-1000003)] m _
          refine sd_ireturn sD11_of_90 rfl (fun hr hm => ?_)
          first | (exfalso; omega) | exact sd_done (by unfold sp_of sd_num; (try simp only [Int.reduceToNat, sd_kth]); (try simp only [List.getD_cons_zero, List.getD_cons_succ]); ((repeat (first | rw [if_pos (by first | assumption | omega)] | rw [if_neg (by first | assumption | omega)] | rw [if_pos (by first | exact Or.inl (by assumption) | exact Or.inr (by assumption))] | rw [if_neg (fun q => by rcases q with q | q; omega; contradiction)])); try rfl); (try simp only [↓reduceIte]); try (first | (rw [sd_b1 (by assumption)]; done) | (rw [sd_b0 (by assumption)]; done))) hx
      ·
        subst zs24
        refine sd_iload_n sD11_of_24 rfl ?_
        refine sd_iconst sD11_of_25 (by decide) ?_
        refine sd_icmp_ge (tgt := 33) sD11_of_26 (by decide) (fun zc26 => ?_) (fun zc26 => (by exfalso; omega))
        refine sd_iload_n sD11_of_33 rfl ?_
        refine sd_bipush sD11_of_34 rfl (by decide) ?_
        refine sd_icmp_ge (tgt := 43) sD11_of_36 (by decide) (fun zc36 => ?_) (fun zc36 => (by exfalso; omega))
        refine sd_iload_n sD11_of_43 rfl ?_
        refine sd_bipush sD11_of_44 rfl (by decide) ?_
        refine sd_icmp_ne (tgt := 53) sD11_of_46 (by decide) (fun zc46 => (by exfalso; omega)) (fun zc46 => ?_)
        refine sd_iconst sD11_of_49 (by decide) ?_
        refine sd_goto (tgt := 75) sD11_of_50 (by decide) ?_
        refine sd_istore_n (ls' := [some (.inr 15), some (.inl h), some (.inl 7), some (.inl 2)]) sD11_of_75 (by decide) rfl ?_
        refine sd_aload_n sD11_of_76 rfl ?_
        refine sd_iload_n sD11_of_77 rfl ?_
        refine sd_iload_n sD11_of_78 rfl ?_
        refine sd_callVp (as := [.inl h, .inl 2]) (st := []) (v := .inl (sd_b (sd_isK (x (10 + h.toNat)) 2))) sD11_of_79 sM11_68 sOM15 rfl rfl rfl (by decide) (Nat.le_of_ble_eq_true rfl) (cM_isOf h 2 _ m hx h1 (by omega)) (fun ho79 => ?_)
        refine sd_bif_ne (tgt := 91) sD11_of_82 (by decide) (fun zc82 => ?_) (fun zc82 => ?_)
        ·
          refine sd_iload_n sD11_of_91 rfl ?_
          refine sd_tsw (off := 139) (tgt := 231) sD11_of_92 (by omega) rfl (by decide) ?_
          refine sd_aload_n sD11_of_231 rfl ?_
          refine sd_getfr sD11_of_232 sF11_7 sGM15_0 ?_
          refine sd_sipush sD11_of_235 rfl (by decide) ?_
          refine sd_iload_n sD11_of_238 rfl ?_
          refine sd_iadd (z := (154 + h)) sD11_of_239 (by omega) (by omega) ?_
          refine sd_ialdx (a := (154 + h.toNat)) (v := x (154 + h.toNat)) hx sD11_of_240 sAM0 (by omega) rfl ?_
          refine sd_ireturn sD11_of_241 rfl (fun hr hm => ?_)
          first | (exfalso; omega) | exact sd_done (by unfold sp_of sd_num; (try simp only [Int.reduceToNat, sd_kth]); (try simp only [List.getD_cons_zero, List.getD_cons_succ]); ((repeat (first | rw [if_pos (by first | assumption | omega)] | rw [if_neg (by first | assumption | omega)] | rw [if_pos (by first | exact Or.inl (by assumption) | exact Or.inr (by assumption))] | rw [if_neg (fun q => by rcases q with q | q; omega; contradiction)])); try rfl); (try simp only [↓reduceIte]); try (first | (rw [sd_b1 (by assumption)]; done) | (rw [sd_b0 (by assumption)]; done))) hx
        ·
          refine sd_aload_n sD11_of_85 rfl ?_
          refine sd_iconst sD11_of_86 (by decide) ?_
          refine sd_callV (as := [.inl 2]) (st := []) sD11_of_87 sM11_78 rfl rfl sOM15 rfl (by decide) (Nat.le_of_ble_eq_true rfl) (cM_finding 2 (by decide) _ m hx (hF 2 (by decide))) (fun r m hq ho87 hm => ?_)
          obtain ⟨rfl, hx⟩ := hq
          show sd_Wp sd_SM 7 sY11_of 90 [some (.inr 15), some (.inl h), some (.inl 7), some (.inl 2)] [.inl (-1000003)] m _
          refine sd_ireturn sD11_of_90 rfl (fun hr hm => ?_)
          first | (exfalso; omega) | exact sd_done (by unfold sp_of sd_num; (try simp only [Int.reduceToNat, sd_kth]); (try simp only [List.getD_cons_zero, List.getD_cons_succ]); ((repeat (first | rw [if_pos (by first | assumption | omega)] | rw [if_neg (by first | assumption | omega)] | rw [if_pos (by first | exact Or.inl (by assumption) | exact Or.inr (by assumption))] | rw [if_neg (fun q => by rcases q with q | q; omega; contradiction)])); try rfl); (try simp only [↓reduceIte]); try (first | (rw [sd_b1 (by assumption)]; done) | (rw [sd_b0 (by assumption)]; done))) hx
      ·
        subst zs24
        refine sd_iload_n sD11_of_24 rfl ?_
        refine sd_iconst sD11_of_25 (by decide) ?_
        refine sd_icmp_ge (tgt := 33) sD11_of_26 (by decide) (fun zc26 => ?_) (fun zc26 => (by exfalso; omega))
        refine sd_iload_n sD11_of_33 rfl ?_
        refine sd_bipush sD11_of_34 rfl (by decide) ?_
        refine sd_icmp_ge (tgt := 43) sD11_of_36 (by decide) (fun zc36 => ?_) (fun zc36 => (by exfalso; omega))
        refine sd_iload_n sD11_of_43 rfl ?_
        refine sd_bipush sD11_of_44 rfl (by decide) ?_
        refine sd_icmp_ne (tgt := 53) sD11_of_46 (by decide) (fun zc46 => ?_) (fun zc46 => (by exfalso; omega))
        refine sd_iload_n sD11_of_53 rfl ?_
        refine sd_bipush sD11_of_54 rfl (by decide) ?_
        refine sd_icmp_ge (tgt := 63) sD11_of_56 (by decide) (fun zc56 => (by exfalso; omega)) (fun zc56 => ?_)
        refine sd_iconst sD11_of_59 (by decide) ?_
        refine sd_goto (tgt := 75) sD11_of_60 (by decide) ?_
        refine sd_istore_n (ls' := [some (.inr 15), some (.inl h), some (.inl 8), some (.inl 3)]) sD11_of_75 (by decide) rfl ?_
        refine sd_aload_n sD11_of_76 rfl ?_
        refine sd_iload_n sD11_of_77 rfl ?_
        refine sd_iload_n sD11_of_78 rfl ?_
        refine sd_callVp (as := [.inl h, .inl 3]) (st := []) (v := .inl (sd_b (sd_isK (x (10 + h.toNat)) 3))) sD11_of_79 sM11_68 sOM15 rfl rfl rfl (by decide) (Nat.le_of_ble_eq_true rfl) (cM_isOf h 3 _ m hx h1 (by omega)) (fun ho79 => ?_)
        refine sd_bif_ne (tgt := 91) sD11_of_82 (by decide) (fun zc82 => ?_) (fun zc82 => ?_)
        ·
          refine sd_iload_n sD11_of_91 rfl ?_
          refine sd_tsw (off := 150) (tgt := 242) sD11_of_92 (by omega) rfl (by decide) ?_
          refine sd_aload_n sD11_of_242 rfl ?_
          refine sd_getfr sD11_of_243 sF11_7 sGM15_0 ?_
          refine sd_sipush sD11_of_246 rfl (by decide) ?_
          refine sd_iload_n sD11_of_249 rfl ?_
          refine sd_iadd (z := (202 + h)) sD11_of_250 (by omega) (by omega) ?_
          refine sd_ialdx (a := (202 + h.toNat)) (v := x (202 + h.toNat)) hx sD11_of_251 sAM0 (by omega) rfl ?_
          refine sd_ireturn sD11_of_252 rfl (fun hr hm => ?_)
          first | (exfalso; omega) | exact sd_done (by unfold sp_of sd_num; (try simp only [Int.reduceToNat, sd_kth]); (try simp only [List.getD_cons_zero, List.getD_cons_succ]); ((repeat (first | rw [if_pos (by first | assumption | omega)] | rw [if_neg (by first | assumption | omega)] | rw [if_pos (by first | exact Or.inl (by assumption) | exact Or.inr (by assumption))] | rw [if_neg (fun q => by rcases q with q | q; omega; contradiction)])); try rfl); (try simp only [↓reduceIte]); try (first | (rw [sd_b1 (by assumption)]; done) | (rw [sd_b0 (by assumption)]; done))) hx
        ·
          refine sd_aload_n sD11_of_85 rfl ?_
          refine sd_iconst sD11_of_86 (by decide) ?_
          refine sd_callV (as := [.inl 2]) (st := []) sD11_of_87 sM11_78 rfl rfl sOM15 rfl (by decide) (Nat.le_of_ble_eq_true rfl) (cM_finding 2 (by decide) _ m hx (hF 2 (by decide))) (fun r m hq ho87 hm => ?_)
          obtain ⟨rfl, hx⟩ := hq
          show sd_Wp sd_SM 7 sY11_of 90 [some (.inr 15), some (.inl h), some (.inl 8), some (.inl 3)] [.inl (-1000003)] m _
          refine sd_ireturn sD11_of_90 rfl (fun hr hm => ?_)
          first | (exfalso; omega) | exact sd_done (by unfold sp_of sd_num; (try simp only [Int.reduceToNat, sd_kth]); (try simp only [List.getD_cons_zero, List.getD_cons_succ]); ((repeat (first | rw [if_pos (by first | assumption | omega)] | rw [if_neg (by first | assumption | omega)] | rw [if_pos (by first | exact Or.inl (by assumption) | exact Or.inr (by assumption))] | rw [if_neg (fun q => by rcases q with q | q; omega; contradiction)])); try rfl); (try simp only [↓reduceIte]); try (first | (rw [sd_b1 (by assumption)]; done) | (rw [sd_b0 (by assumption)]; done))) hx
      ·
        subst zs24
        refine sd_iload_n sD11_of_24 rfl ?_
        refine sd_iconst sD11_of_25 (by decide) ?_
        refine sd_icmp_ge (tgt := 33) sD11_of_26 (by decide) (fun zc26 => ?_) (fun zc26 => (by exfalso; omega))
        refine sd_iload_n sD11_of_33 rfl ?_
        refine sd_bipush sD11_of_34 rfl (by decide) ?_
        refine sd_icmp_ge (tgt := 43) sD11_of_36 (by decide) (fun zc36 => ?_) (fun zc36 => (by exfalso; omega))
        refine sd_iload_n sD11_of_43 rfl ?_
        refine sd_bipush sD11_of_44 rfl (by decide) ?_
        refine sd_icmp_ne (tgt := 53) sD11_of_46 (by decide) (fun zc46 => ?_) (fun zc46 => (by exfalso; omega))
        refine sd_iload_n sD11_of_53 rfl ?_
        refine sd_bipush sD11_of_54 rfl (by decide) ?_
        refine sd_icmp_ge (tgt := 63) sD11_of_56 (by decide) (fun zc56 => (by exfalso; omega)) (fun zc56 => ?_)
        refine sd_iconst sD11_of_59 (by decide) ?_
        refine sd_goto (tgt := 75) sD11_of_60 (by decide) ?_
        refine sd_istore_n (ls' := [some (.inr 15), some (.inl h), some (.inl 9), some (.inl 3)]) sD11_of_75 (by decide) rfl ?_
        refine sd_aload_n sD11_of_76 rfl ?_
        refine sd_iload_n sD11_of_77 rfl ?_
        refine sd_iload_n sD11_of_78 rfl ?_
        refine sd_callVp (as := [.inl h, .inl 3]) (st := []) (v := .inl (sd_b (sd_isK (x (10 + h.toNat)) 3))) sD11_of_79 sM11_68 sOM15 rfl rfl rfl (by decide) (Nat.le_of_ble_eq_true rfl) (cM_isOf h 3 _ m hx h1 (by omega)) (fun ho79 => ?_)
        refine sd_bif_ne (tgt := 91) sD11_of_82 (by decide) (fun zc82 => ?_) (fun zc82 => ?_)
        ·
          refine sd_iload_n sD11_of_91 rfl ?_
          refine sd_tsw (off := 161) (tgt := 253) sD11_of_92 (by omega) rfl (by decide) ?_
          refine sd_aload_n sD11_of_253 rfl ?_
          refine sd_getfr sD11_of_254 sF11_7 sGM15_0 ?_
          refine sd_sipush sD11_of_257 rfl (by decide) ?_
          refine sd_iload_n sD11_of_260 rfl ?_
          refine sd_iadd (z := (226 + h)) sD11_of_261 (by omega) (by omega) ?_
          refine sd_ialdx (a := (226 + h.toNat)) (v := x (226 + h.toNat)) hx sD11_of_262 sAM0 (by omega) rfl ?_
          refine sd_ireturn sD11_of_263 rfl (fun hr hm => ?_)
          first | (exfalso; omega) | exact sd_done (by unfold sp_of sd_num; (try simp only [Int.reduceToNat, sd_kth]); (try simp only [List.getD_cons_zero, List.getD_cons_succ]); ((repeat (first | rw [if_pos (by first | assumption | omega)] | rw [if_neg (by first | assumption | omega)] | rw [if_pos (by first | exact Or.inl (by assumption) | exact Or.inr (by assumption))] | rw [if_neg (fun q => by rcases q with q | q; omega; contradiction)])); try rfl); (try simp only [↓reduceIte]); try (first | (rw [sd_b1 (by assumption)]; done) | (rw [sd_b0 (by assumption)]; done))) hx
        ·
          refine sd_aload_n sD11_of_85 rfl ?_
          refine sd_iconst sD11_of_86 (by decide) ?_
          refine sd_callV (as := [.inl 2]) (st := []) sD11_of_87 sM11_78 rfl rfl sOM15 rfl (by decide) (Nat.le_of_ble_eq_true rfl) (cM_finding 2 (by decide) _ m hx (hF 2 (by decide))) (fun r m hq ho87 hm => ?_)
          obtain ⟨rfl, hx⟩ := hq
          show sd_Wp sd_SM 7 sY11_of 90 [some (.inr 15), some (.inl h), some (.inl 9), some (.inl 3)] [.inl (-1000003)] m _
          refine sd_ireturn sD11_of_90 rfl (fun hr hm => ?_)
          first | (exfalso; omega) | exact sd_done (by unfold sp_of sd_num; (try simp only [Int.reduceToNat, sd_kth]); (try simp only [List.getD_cons_zero, List.getD_cons_succ]); ((repeat (first | rw [if_pos (by first | assumption | omega)] | rw [if_neg (by first | assumption | omega)] | rw [if_pos (by first | exact Or.inl (by assumption) | exact Or.inr (by assumption))] | rw [if_neg (fun q => by rcases q with q | q; omega; contradiction)])); try rfl); (try simp only [↓reduceIte]); try (first | (rw [sd_b1 (by assumption)]; done) | (rw [sd_b0 (by assumption)]; done))) hx
      ·
        subst zs24
        refine sd_iload_n sD11_of_24 rfl ?_
        refine sd_iconst sD11_of_25 (by decide) ?_
        refine sd_icmp_ge (tgt := 33) sD11_of_26 (by decide) (fun zc26 => ?_) (fun zc26 => (by exfalso; omega))
        refine sd_iload_n sD11_of_33 rfl ?_
        refine sd_bipush sD11_of_34 rfl (by decide) ?_
        refine sd_icmp_ge (tgt := 43) sD11_of_36 (by decide) (fun zc36 => ?_) (fun zc36 => (by exfalso; omega))
        refine sd_iload_n sD11_of_43 rfl ?_
        refine sd_bipush sD11_of_44 rfl (by decide) ?_
        refine sd_icmp_ne (tgt := 53) sD11_of_46 (by decide) (fun zc46 => ?_) (fun zc46 => (by exfalso; omega))
        refine sd_iload_n sD11_of_53 rfl ?_
        refine sd_bipush sD11_of_54 rfl (by decide) ?_
        refine sd_icmp_ge (tgt := 63) sD11_of_56 (by decide) (fun zc56 => ?_) (fun zc56 => (by exfalso; omega))
        refine sd_iload_n sD11_of_63 rfl ?_
        refine sd_bipush sD11_of_64 rfl (by decide) ?_
        refine sd_icmp_ne (tgt := 73) sD11_of_66 (by decide) (fun zc66 => (by exfalso; omega)) (fun zc66 => ?_)
        refine sd_iconst sD11_of_69 (by decide) ?_
        refine sd_goto (tgt := 75) sD11_of_70 (by decide) ?_
        refine sd_istore_n (ls' := [some (.inr 15), some (.inl h), some (.inl 10), some (.inl 4)]) sD11_of_75 (by decide) rfl ?_
        refine sd_aload_n sD11_of_76 rfl ?_
        refine sd_iload_n sD11_of_77 rfl ?_
        refine sd_iload_n sD11_of_78 rfl ?_
        refine sd_callVp (as := [.inl h, .inl 4]) (st := []) (v := .inl (sd_b (sd_isK (x (10 + h.toNat)) 4))) sD11_of_79 sM11_68 sOM15 rfl rfl rfl (by decide) (Nat.le_of_ble_eq_true rfl) (cM_isOf h 4 _ m hx h1 (by omega)) (fun ho79 => ?_)
        refine sd_bif_ne (tgt := 91) sD11_of_82 (by decide) (fun zc82 => ?_) (fun zc82 => ?_)
        ·
          refine sd_iload_n sD11_of_91 rfl ?_
          refine sd_tsw (off := 172) (tgt := 264) sD11_of_92 (by omega) rfl (by decide) ?_
          refine sd_aload_n sD11_of_264 rfl ?_
          refine sd_getfr sD11_of_265 sF11_7 sGM15_0 ?_
          refine sd_sipush sD11_of_268 rfl (by decide) ?_
          refine sd_iload_n sD11_of_271 rfl ?_
          refine sd_iadd (z := (250 + h)) sD11_of_272 (by omega) (by omega) ?_
          refine sd_ialdx (a := (250 + h.toNat)) (v := x (250 + h.toNat)) hx sD11_of_273 sAM0 (by omega) rfl ?_
          refine sd_ireturn sD11_of_274 rfl (fun hr hm => ?_)
          first | (exfalso; omega) | exact sd_done (by unfold sp_of sd_num; (try simp only [Int.reduceToNat, sd_kth]); (try simp only [List.getD_cons_zero, List.getD_cons_succ]); ((repeat (first | rw [if_pos (by first | assumption | omega)] | rw [if_neg (by first | assumption | omega)] | rw [if_pos (by first | exact Or.inl (by assumption) | exact Or.inr (by assumption))] | rw [if_neg (fun q => by rcases q with q | q; omega; contradiction)])); try rfl); (try simp only [↓reduceIte]); try (first | (rw [sd_b1 (by assumption)]; done) | (rw [sd_b0 (by assumption)]; done))) hx
        ·
          refine sd_aload_n sD11_of_85 rfl ?_
          refine sd_iconst sD11_of_86 (by decide) ?_
          refine sd_callV (as := [.inl 2]) (st := []) sD11_of_87 sM11_78 rfl rfl sOM15 rfl (by decide) (Nat.le_of_ble_eq_true rfl) (cM_finding 2 (by decide) _ m hx (hF 2 (by decide))) (fun r m hq ho87 hm => ?_)
          obtain ⟨rfl, hx⟩ := hq
          show sd_Wp sd_SM 7 sY11_of 90 [some (.inr 15), some (.inl h), some (.inl 10), some (.inl 4)] [.inl (-1000003)] m _
          refine sd_ireturn sD11_of_90 rfl (fun hr hm => ?_)
          first | (exfalso; omega) | exact sd_done (by unfold sp_of sd_num; (try simp only [Int.reduceToNat, sd_kth]); (try simp only [List.getD_cons_zero, List.getD_cons_succ]); ((repeat (first | rw [if_pos (by first | assumption | omega)] | rw [if_neg (by first | assumption | omega)] | rw [if_pos (by first | exact Or.inl (by assumption) | exact Or.inr (by assumption))] | rw [if_neg (fun q => by rcases q with q | q; omega; contradiction)])); try rfl); (try simp only [↓reduceIte]); try (first | (rw [sd_b1 (by assumption)]; done) | (rw [sd_b0 (by assumption)]; done))) hx
      ·
        subst zs24
        refine sd_iload_n sD11_of_24 rfl ?_
        refine sd_iconst sD11_of_25 (by decide) ?_
        refine sd_icmp_ge (tgt := 33) sD11_of_26 (by decide) (fun zc26 => ?_) (fun zc26 => (by exfalso; omega))
        refine sd_iload_n sD11_of_33 rfl ?_
        refine sd_bipush sD11_of_34 rfl (by decide) ?_
        refine sd_icmp_ge (tgt := 43) sD11_of_36 (by decide) (fun zc36 => ?_) (fun zc36 => (by exfalso; omega))
        refine sd_iload_n sD11_of_43 rfl ?_
        refine sd_bipush sD11_of_44 rfl (by decide) ?_
        refine sd_icmp_ne (tgt := 53) sD11_of_46 (by decide) (fun zc46 => ?_) (fun zc46 => (by exfalso; omega))
        refine sd_iload_n sD11_of_53 rfl ?_
        refine sd_bipush sD11_of_54 rfl (by decide) ?_
        refine sd_icmp_ge (tgt := 63) sD11_of_56 (by decide) (fun zc56 => ?_) (fun zc56 => (by exfalso; omega))
        refine sd_iload_n sD11_of_63 rfl ?_
        refine sd_bipush sD11_of_64 rfl (by decide) ?_
        refine sd_icmp_ne (tgt := 73) sD11_of_66 (by decide) (fun zc66 => ?_) (fun zc66 => (by exfalso; omega))
        refine sd_bipush sD11_of_73 rfl (by decide) ?_
        refine sd_istore_n (ls' := [some (.inr 15), some (.inl h), some (.inl 11), some (.inl 6)]) sD11_of_75 (by decide) rfl ?_
        refine sd_aload_n sD11_of_76 rfl ?_
        refine sd_iload_n sD11_of_77 rfl ?_
        refine sd_iload_n sD11_of_78 rfl ?_
        refine sd_callVp (as := [.inl h, .inl 6]) (st := []) (v := .inl (sd_b (sd_isK (x (10 + h.toNat)) 6))) sD11_of_79 sM11_68 sOM15 rfl rfl rfl (by decide) (Nat.le_of_ble_eq_true rfl) (cM_isOf h 6 _ m hx h1 (by omega)) (fun ho79 => ?_)
        refine sd_bif_ne (tgt := 91) sD11_of_82 (by decide) (fun zc82 => ?_) (fun zc82 => ?_)
        ·
          refine sd_iload_n sD11_of_91 rfl ?_
          refine sd_tsw (off := 183) (tgt := 275) sD11_of_92 (by omega) rfl (by decide) ?_
          refine sd_aload_n sD11_of_275 rfl ?_
          refine sd_getfr sD11_of_276 sF11_7 sGM15_0 ?_
          refine sd_sipush sD11_of_279 rfl (by decide) ?_
          refine sd_iload_n sD11_of_282 rfl ?_
          refine sd_iadd (z := (274 + h)) sD11_of_283 (by omega) (by omega) ?_
          refine sd_ialdx (a := (274 + h.toNat)) (v := x (274 + h.toNat)) hx sD11_of_284 sAM0 (by omega) rfl ?_
          refine sd_ireturn sD11_of_285 rfl (fun hr hm => ?_)
          first | (exfalso; omega) | exact sd_done (by unfold sp_of sd_num; (try simp only [Int.reduceToNat, sd_kth]); (try simp only [List.getD_cons_zero, List.getD_cons_succ]); ((repeat (first | rw [if_pos (by first | assumption | omega)] | rw [if_neg (by first | assumption | omega)] | rw [if_pos (by first | exact Or.inl (by assumption) | exact Or.inr (by assumption))] | rw [if_neg (fun q => by rcases q with q | q; omega; contradiction)])); try rfl); (try simp only [↓reduceIte]); try (first | (rw [sd_b1 (by assumption)]; done) | (rw [sd_b0 (by assumption)]; done))) hx
        ·
          refine sd_aload_n sD11_of_85 rfl ?_
          refine sd_iconst sD11_of_86 (by decide) ?_
          refine sd_callV (as := [.inl 2]) (st := []) sD11_of_87 sM11_78 rfl rfl sOM15 rfl (by decide) (Nat.le_of_ble_eq_true rfl) (cM_finding 2 (by decide) _ m hx (hF 2 (by decide))) (fun r m hq ho87 hm => ?_)
          obtain ⟨rfl, hx⟩ := hq
          show sd_Wp sd_SM 7 sY11_of 90 [some (.inr 15), some (.inl h), some (.inl 11), some (.inl 6)] [.inl (-1000003)] m _
          refine sd_ireturn sD11_of_90 rfl (fun hr hm => ?_)
          first | (exfalso; omega) | exact sd_done (by unfold sp_of sd_num; (try simp only [Int.reduceToNat, sd_kth]); (try simp only [List.getD_cons_zero, List.getD_cons_succ]); ((repeat (first | rw [if_pos (by first | assumption | omega)] | rw [if_neg (by first | assumption | omega)] | rw [if_pos (by first | exact Or.inl (by assumption) | exact Or.inr (by assumption))] | rw [if_neg (fun q => by rcases q with q | q; omega; contradiction)])); try rfl); (try simp only [↓reduceIte]); try (first | (rw [sd_b1 (by assumption)]; done) | (rw [sd_b0 (by assumption)]; done))) hx
      ·
        subst zs24
        refine sd_iload_n sD11_of_24 rfl ?_
        refine sd_iconst sD11_of_25 (by decide) ?_
        refine sd_icmp_ge (tgt := 33) sD11_of_26 (by decide) (fun zc26 => ?_) (fun zc26 => (by exfalso; omega))
        refine sd_iload_n sD11_of_33 rfl ?_
        refine sd_bipush sD11_of_34 rfl (by decide) ?_
        refine sd_icmp_ge (tgt := 43) sD11_of_36 (by decide) (fun zc36 => ?_) (fun zc36 => (by exfalso; omega))
        refine sd_iload_n sD11_of_43 rfl ?_
        refine sd_bipush sD11_of_44 rfl (by decide) ?_
        refine sd_icmp_ne (tgt := 53) sD11_of_46 (by decide) (fun zc46 => ?_) (fun zc46 => (by exfalso; omega))
        refine sd_iload_n sD11_of_53 rfl ?_
        refine sd_bipush sD11_of_54 rfl (by decide) ?_
        refine sd_icmp_ge (tgt := 63) sD11_of_56 (by decide) (fun zc56 => ?_) (fun zc56 => (by exfalso; omega))
        refine sd_iload_n sD11_of_63 rfl ?_
        refine sd_bipush sD11_of_64 rfl (by decide) ?_
        refine sd_icmp_ne (tgt := 73) sD11_of_66 (by decide) (fun zc66 => ?_) (fun zc66 => (by exfalso; omega))
        refine sd_bipush sD11_of_73 rfl (by decide) ?_
        refine sd_istore_n (ls' := [some (.inr 15), some (.inl h), some (.inl 12), some (.inl 6)]) sD11_of_75 (by decide) rfl ?_
        refine sd_aload_n sD11_of_76 rfl ?_
        refine sd_iload_n sD11_of_77 rfl ?_
        refine sd_iload_n sD11_of_78 rfl ?_
        refine sd_callVp (as := [.inl h, .inl 6]) (st := []) (v := .inl (sd_b (sd_isK (x (10 + h.toNat)) 6))) sD11_of_79 sM11_68 sOM15 rfl rfl rfl (by decide) (Nat.le_of_ble_eq_true rfl) (cM_isOf h 6 _ m hx h1 (by omega)) (fun ho79 => ?_)
        refine sd_bif_ne (tgt := 91) sD11_of_82 (by decide) (fun zc82 => ?_) (fun zc82 => ?_)
        ·
          refine sd_iload_n sD11_of_91 rfl ?_
          refine sd_tswd (tgt := 286) sD11_of_92 (by omega) (by decide) ?_
          refine sd_aload_n sD11_of_286 rfl ?_
          refine sd_getfr sD11_of_287 sF11_7 sGM15_0 ?_
          refine sd_sipush sD11_of_290 rfl (by decide) ?_
          refine sd_iload_n sD11_of_293 rfl ?_
          refine sd_iadd (z := (298 + h)) sD11_of_294 (by omega) (by omega) ?_
          refine sd_ialdx (a := (298 + h.toNat)) (v := x (298 + h.toNat)) hx sD11_of_295 sAM0 (by omega) rfl ?_
          refine sd_ireturn sD11_of_296 rfl (fun hr hm => ?_)
          first | (exfalso; omega) | exact sd_done (by unfold sp_of sd_num; (try simp only [Int.reduceToNat, sd_kth]); (try simp only [List.getD_cons_zero, List.getD_cons_succ]); ((repeat (first | rw [if_pos (by first | assumption | omega)] | rw [if_neg (by first | assumption | omega)] | rw [if_pos (by first | exact Or.inl (by assumption) | exact Or.inr (by assumption))] | rw [if_neg (fun q => by rcases q with q | q; omega; contradiction)])); try rfl); (try simp only [↓reduceIte]); try (first | (rw [sd_b1 (by assumption)]; done) | (rw [sd_b0 (by assumption)]; done))) hx
        ·
          refine sd_aload_n sD11_of_85 rfl ?_
          refine sd_iconst sD11_of_86 (by decide) ?_
          refine sd_callV (as := [.inl 2]) (st := []) sD11_of_87 sM11_78 rfl rfl sOM15 rfl (by decide) (Nat.le_of_ble_eq_true rfl) (cM_finding 2 (by decide) _ m hx (hF 2 (by decide))) (fun r m hq ho87 hm => ?_)
          obtain ⟨rfl, hx⟩ := hq
          show sd_Wp sd_SM 7 sY11_of 90 [some (.inr 15), some (.inl h), some (.inl 12), some (.inl 6)] [.inl (-1000003)] m _
          refine sd_ireturn sD11_of_90 rfl (fun hr hm => ?_)
          first | (exfalso; omega) | exact sd_done (by unfold sp_of sd_num; (try simp only [Int.reduceToNat, sd_kth]); (try simp only [List.getD_cons_zero, List.getD_cons_succ]); ((repeat (first | rw [if_pos (by first | assumption | omega)] | rw [if_neg (by first | assumption | omega)] | rw [if_pos (by first | exact Or.inl (by assumption) | exact Or.inr (by assumption))] | rw [if_neg (fun q => by rcases q with q | q; omega; contradiction)])); try rfl); (try simp only [↓reduceIte]); try (first | (rw [sd_b1 (by assumption)]; done) | (rw [sd_b0 (by assumption)]; done))) hx
    ·
      refine sd_aload_n sD11_of_18 rfl ?_
      refine sd_iconst sD11_of_19 (by decide) ?_
      refine sd_callV (as := [.inl 0]) (st := []) sD11_of_20 sM11_78 rfl rfl sOM15 rfl (by decide) (Nat.le_of_ble_eq_true rfl) (cM_finding 0 (by decide) _ m hx (hF 0 (by decide))) (fun r m hq ho20 hm => ?_)
      obtain ⟨rfl, hx⟩ := hq
      show sd_Wp sd_SM 7 sY11_of 23 [some (.inr 15), some (.inl h), some (.inl w), none] [.inl (-1000001)] m _
      refine sd_ireturn sD11_of_23 rfl (fun hr hm => ?_)
      first | (exfalso; omega) | exact sd_done (by unfold sp_of sd_num; (try simp only [Int.reduceToNat, sd_kth]); (try simp only [List.getD_cons_zero, List.getD_cons_succ]); ((repeat (first | rw [if_pos (by first | assumption | omega)] | rw [if_neg (by first | assumption | omega)] | rw [if_pos (by first | exact Or.inl (by assumption) | exact Or.inr (by assumption))] | rw [if_neg (fun q => by rcases q with q | q; omega; contradiction)])); try rfl); (try simp only [↓reduceIte]); try (first | (rw [sd_b1 (by assumption)]; done) | (rw [sd_b0 (by assumption)]; done))) hx
