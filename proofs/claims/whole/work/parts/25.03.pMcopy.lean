set_option maxRecDepth 100000 in
set_option maxHeartbeats 4000000 in
theorem pM_copy (s : Int) (f : Int) (t : Int) (g : Int) (n : Int) (x m : sd_M) (hx : sd_ns x m)  (hF : ∀ k : Nat, k < 7 → 0 ≤ x (4101 + k) ∧ x (4101 + k) ≤ 1000000) (hB : sd_IB x) : sd_Ct sd_SM 2 sY11_copy [.inr 15, .inl s, .inl f, .inl t, .inl g, .inl n] m (sd_Qp (spM_copy x s f t g n)) := by
  refine sd_ct rfl (Nat.le_of_ble_eq_true rfl) (fun hok hm => ?_)
  have r_s : sd_R s := hok (.inl s) (by simp)
  have r_f : sd_R f := hok (.inl f) (by simp)
  have r_t : sd_R t := hok (.inl t) (by simp)
  have r_g : sd_R g := hok (.inl g) (by simp)
  have r_n : sd_R n := hok (.inl n) (by simp)
  show sd_Wp sd_SM 2 sY11_copy 0 [some (.inr 15), some (.inl s), some (.inl f), some (.inl t), some (.inl g), some (.inl n), none] [] m _
  refine sd_iload_n sD11_copy_0 rfl ?_
  refine sd_callSp (as := [.inl s]) (st := []) (v := .inl (sd_b (0 ≤ s ∧ s ≤ 3))) sD11_copy_1 sM11_126 rfl rfl (by decide) (Nat.le_of_ble_eq_true rfl) (cM_isSheet s _ m hx  ) (fun ho1 => ?_)
  refine sd_bif_eq (tgt := 14) sD11_copy_4 (by decide) (fun zc4 => ?_) (fun zc4 => ?_)
  ·
    refine sd_aload_n sD11_copy_14 rfl ?_
    refine sd_iconst sD11_copy_15 (by decide) ?_
    refine sd_callV (as := [.inl 0]) (st := []) sD11_copy_16 sM11_78 rfl rfl sOM15 rfl (by decide) (Nat.le_of_ble_eq_true rfl) (cM_finding 0 (by decide) _ m hx (hF 0 (by decide))) (fun r m hq ho16 hm => ?_)
    obtain ⟨rfl, hx⟩ := hq
    show sd_Wp sd_SM 2 sY11_copy 19 [some (.inr 15), some (.inl s), some (.inl f), some (.inl t), some (.inl g), some (.inl n), none] [.inl (-1000001)] m _
    refine sd_ireturn sD11_copy_19 rfl (fun hr hm => ?_)
    exact sd_done (by unfold spM_copy sp_cpy; ((repeat (first | rw [if_pos (by first | assumption | omega)] | rw [if_neg (by first | assumption | omega)])); try rfl)) hx
  ·
    refine sd_iload_n sD11_copy_7 rfl ?_
    refine sd_callSp (as := [.inl t]) (st := []) (v := .inl (sd_b (0 ≤ t ∧ t ≤ 3))) sD11_copy_8 sM11_126 rfl rfl (by decide) (Nat.le_of_ble_eq_true rfl) (cM_isSheet t _ m hx  ) (fun ho8 => ?_)
    refine sd_bif_ne (tgt := 20) sD11_copy_11 (by decide) (fun zc11 => ?_) (fun zc11 => ?_)
    ·
      have e0 := hB s.toNat (by omega)
      have e1 := hB t.toNat (by omega)
      have e2 := e0.2.2.1
      have e3 := e1.2.2.1
      refine sd_aload_n sD11_copy_20 rfl ?_
      refine sd_getfr sD11_copy_21 sF11_43 sGM15_20 ?_
      refine sd_iload_n sD11_copy_24 rfl ?_
      refine sd_ialdx (a := (4250 + s.toNat)) (v := x (4250 + s.toNat)) hx sD11_copy_25 sAM11 (by omega) rfl ?_
      refine sd_if_eq (tgt := 38) sD11_copy_26 (by decide) (fun zc26 => ?_) (fun zc26 => ?_)
      ·
        refine sd_aload_n sD11_copy_38 rfl ?_
        refine sd_iconst sD11_copy_39 (by decide) ?_
        refine sd_callV (as := [.inl 5]) (st := []) sD11_copy_40 sM11_78 rfl rfl sOM15 rfl (by decide) (Nat.le_of_ble_eq_true rfl) (cM_finding 5 (by decide) _ m hx (hF 5 (by decide))) (fun r m hq ho40 hm => ?_)
        obtain ⟨rfl, hx⟩ := hq
        show sd_Wp sd_SM 2 sY11_copy 43 [some (.inr 15), some (.inl s), some (.inl f), some (.inl t), some (.inl g), some (.inl n), none] [.inl (-1000006)] m _
        refine sd_ireturn sD11_copy_43 rfl (fun hr hm => ?_)
        exact sd_done (by unfold spM_copy sp_cpy; ((repeat (first | rw [if_pos (by first | assumption | omega)] | rw [if_neg (by first | assumption | omega)])); try rfl)) hx
      ·
        refine sd_aload_n sD11_copy_29 rfl ?_
        refine sd_getfr sD11_copy_30 sF11_43 sGM15_20 ?_
        refine sd_iload_n sD11_copy_33 rfl ?_
        refine sd_ialdx (a := (4250 + t.toNat)) (v := x (4250 + t.toNat)) hx sD11_copy_34 sAM11 (by omega) rfl ?_
        refine sd_if_ne (tgt := 44) sD11_copy_35 (by decide) (fun zc35 => ?_) (fun zc35 => ?_)
        ·
          have e4 := (e0.2.2.2 (by omega)).1
          have e5 := (e1.2.2.2 (by omega)).1
          clear e0 e1
          refine sd_aload_n sD11_copy_44 rfl ?_
          refine sd_getfr sD11_copy_45 sF11_43 sGM15_20 ?_
          refine sd_iload_n sD11_copy_48 rfl ?_
          refine sd_ialdx (a := (4250 + s.toNat)) (v := x (4250 + s.toNat)) hx sD11_copy_49 sAM11 (by omega) rfl ?_
          refine sd_aload_n sD11_copy_50 rfl ?_
          refine sd_getfr sD11_copy_51 sF11_43 sGM15_20 ?_
          refine sd_iload_n sD11_copy_54 rfl ?_
          refine sd_ialdx (a := (4250 + t.toNat)) (v := x (4250 + t.toNat)) hx sD11_copy_55 sAM11 (by omega) rfl ?_
          refine sd_icmp_eq (tgt := 65) sD11_copy_56 (by decide) (fun zc56 => ?_) (fun zc56 => ?_)
          ·
            refine sd_aload_n sD11_copy_65 rfl ?_
            refine sd_iload_n sD11_copy_66 rfl ?_
            refine sd_iload_n sD11_copy_67 rfl ?_
            refine sd_iload sD11_copy_68 rfl ?_
            refine sd_callVp (as := [.inl s, .inl f, .inl n]) (st := []) (v := .inl (sd_b (0 ≤ f ∧ 0 ≤ n ∧ f ≤ x (4254 + s.toNat) ∧ n ≤ x (4254 + s.toNat) - f))) sD11_copy_70 sM11_255 sOM15 rfl rfl rfl (by decide) (Nat.le_of_ble_eq_true rfl) (cM_has s f n _ m hx  (by omega) (by omega)) (fun ho70 => ?_)
            refine sd_bif_eq (tgt := 88) sD11_copy_73 (by decide) (fun zc73 => ?_) (fun zc73 => ?_)
            ·
              refine sd_aload_n sD11_copy_88 rfl ?_
              refine sd_iconst sD11_copy_89 (by decide) ?_
              refine sd_callV (as := [.inl 0]) (st := []) sD11_copy_90 sM11_78 rfl rfl sOM15 rfl (by decide) (Nat.le_of_ble_eq_true rfl) (cM_finding 0 (by decide) _ m hx (hF 0 (by decide))) (fun r m hq ho90 hm => ?_)
              obtain ⟨rfl, hx⟩ := hq
              show sd_Wp sd_SM 2 sY11_copy 93 [some (.inr 15), some (.inl s), some (.inl f), some (.inl t), some (.inl g), some (.inl n), none] [.inl (-1000001)] m _
              refine sd_ireturn sD11_copy_93 rfl (fun hr hm => ?_)
              exact sd_done (by unfold spM_copy sp_cpy; ((repeat (first | rw [if_pos (by first | assumption | omega)] | rw [if_neg (by first | assumption | omega)])); try rfl)) hx
            ·
              refine sd_aload_n sD11_copy_76 rfl ?_
              refine sd_iload_n sD11_copy_77 rfl ?_
              refine sd_iload sD11_copy_78 rfl ?_
              refine sd_iload sD11_copy_80 rfl ?_
              refine sd_callVp (as := [.inl t, .inl g, .inl n]) (st := []) (v := .inl (sd_b (0 ≤ g ∧ 0 ≤ n ∧ g ≤ x (4254 + t.toNat) ∧ n ≤ x (4254 + t.toNat) - g))) sD11_copy_82 sM11_255 sOM15 rfl rfl rfl (by decide) (Nat.le_of_ble_eq_true rfl) (cM_has t g n _ m hx  (by omega) (by omega)) (fun ho82 => ?_)
              refine sd_bif_ne (tgt := 94) sD11_copy_85 (by decide) (fun zc85 => ?_) (fun zc85 => ?_)
              ·
                refine sd_iconst sD11_copy_94 (by decide) ?_
                refine sd_istore (ls' := [some (.inr 15), some (.inl s), some (.inl f), some (.inl t), some (.inl g), some (.inl n), some (.inl 0)]) sD11_copy_95 (by decide) rfl ?_
                refine sd_forX (n.toNat) (fun zi97 : Nat => [some (.inr 15), some (.inl s), some (.inl f), some (.inl t), some (.inl g), some (.inl n), some (.inl (zi97 : Int))]) (fun zi97 : Nat => x) (fun (zi97 : Nat) (m : sd_M) => ∀ q, q < zi97 → m (5580 + q) = x ((4200 + (12 * s.toNat + f.toNat)) + q)) (by rfl) (fun zi97 hizi97 m hx hpzi97 ihzi97 => ?_) (fun m hx hpzi97 => ?_) (by exact hx) (by intro q hq; omega)
                ·
                  refine sd_iload sD11_copy_97 rfl ?_
                  refine sd_iload sD11_copy_99 rfl ?_
                  refine sd_icmp_ge (tgt := 131) sD11_copy_101 (by decide) (fun zc101 => (by exfalso; omega)) (fun zc101 => ?_)
                  refine sd_aload_n sD11_copy_104 rfl ?_
                  refine sd_getfr sD11_copy_105 sF11_52 sGM15_23 ?_
                  refine sd_iload sD11_copy_108 rfl ?_
                  refine sd_aload_n sD11_copy_110 rfl ?_
                  refine sd_getfr sD11_copy_111 sF11_49 sGM15_22 ?_
                  refine sd_bipush sD11_copy_114 rfl (by decide) ?_
                  refine sd_iload_n sD11_copy_116 rfl ?_
                  refine sd_imul (z := (12 * s)) sD11_copy_117 (by omega) (by omega) ?_
                  refine sd_iload_n sD11_copy_118 rfl ?_
                  refine sd_iadd (z := ((12 * s) + f)) sD11_copy_119 (by omega) (by omega) ?_
                  refine sd_iload sD11_copy_120 rfl ?_
                  refine sd_iadd (z := (((12 * s) + f) + (zi97 : Int))) sD11_copy_122 (by omega) (by omega) ?_
                  refine sd_ialdx (a := (4200 + (((12 * s.toNat) + f.toNat) + zi97))) (v := x (4200 + (((12 * s.toNat) + f.toNat) + zi97))) hx sD11_copy_123 sAM13 (by omega) rfl ?_
                  refine sd_iastc (a := (5580 + zi97)) sd_sokM hx sD11_copy_124 sAM14 (by omega) (fun m hx em124 => ?_)
                  refine sd_iinc (y := ((zi97 : Int) + 1)) (ls' := [some (.inr 15), some (.inl s), some (.inl f), some (.inl t), some (.inl g), some (.inl n), some (.inl ((zi97 : Int) + 1))]) sD11_copy_125 rfl (by omega) (by omega) (by decide) rfl ?_
                  refine sd_goto (tgt := 97) sD11_copy_128 (by decide) ?_
                  exact sd_eqw (ls' := [some (.inr 15), some (.inl s), some (.inl f), some (.inl t), some (.inl g), some (.inl n), some (.inl ((zi97 + 1 : Nat) : Int))]) (ihzi97 m (by exact hx) (by exact sd_sc_step hpzi97 em124 (by congr 1; omega))) (by rw [show (((zi97 : Int) + 1) : Int) = ((zi97 + 1 : Nat) : Int) from by omega]) rfl
                ·
                  show sd_Wp sd_SM 2 sY11_copy 97 [some (.inr 15), some (.inl s), some (.inl f), some (.inl t), some (.inl g), some (.inl n), some (.inl ((n.toNat : Nat) : Int))] [] m _
                  refine sd_iload sD11_copy_97 rfl ?_
                  refine sd_iload sD11_copy_99 rfl ?_
                  refine sd_icmp_ge (tgt := 131) sD11_copy_101 (by decide) (fun zc101 => ?_) (fun zc101 => (by exfalso; omega))
                  refine sd_iconst sD11_copy_131 (by decide) ?_
                  refine sd_istore (ls' := [some (.inr 15), some (.inl s), some (.inl f), some (.inl t), some (.inl g), some (.inl n), some (.inl 0)]) sD11_copy_132 (by decide) rfl ?_
                  refine sd_forX (n.toNat) (fun zi134 : Nat => [some (.inr 15), some (.inl s), some (.inl f), some (.inl t), some (.inl g), some (.inl n), some (.inl (zi134 : Int))]) (fun zi134 : Nat => sd_cpm x (4200 + (12 * s.toNat + f.toNat)) (4200 + (12 * t.toNat + g.toNat)) zi134) (fun (zi134 : Nat) (m : sd_M) => ∀ q, q < n.toNat → m (5580 + q) = x ((4200 + (12 * s.toNat + f.toNat)) + q)) (by rfl) (fun zi134 hizi134 m hx hpzi134 ihzi134 => ?_) (fun m hx hpzi134 => ?_) (by rw [sd_cpm_0]; exact hx) (by exact hpzi97)
                  ·
                    refine sd_iload sD11_copy_134 rfl ?_
                    refine sd_iload sD11_copy_136 rfl ?_
                    refine sd_icmp_ge (tgt := 169) sD11_copy_138 (by decide) (fun zc138 => (by exfalso; omega)) (fun zc138 => ?_)
                    refine sd_aload_n sD11_copy_141 rfl ?_
                    refine sd_getfr sD11_copy_142 sF11_49 sGM15_22 ?_
                    refine sd_bipush sD11_copy_145 rfl (by decide) ?_
                    refine sd_iload_n sD11_copy_147 rfl ?_
                    refine sd_imul (z := (12 * t)) sD11_copy_148 (by omega) (by omega) ?_
                    refine sd_iload sD11_copy_149 rfl ?_
                    refine sd_iadd (z := ((12 * t) + g)) sD11_copy_151 (by omega) (by omega) ?_
                    refine sd_iload sD11_copy_152 rfl ?_
                    refine sd_iadd (z := (((12 * t) + g) + (zi134 : Int))) sD11_copy_154 (by omega) (by omega) ?_
                    refine sd_aload_n sD11_copy_155 rfl ?_
                    refine sd_getfr sD11_copy_156 sF11_52 sGM15_23 ?_
                    refine sd_iload sD11_copy_159 rfl ?_
                    refine sd_iald (a := (5580 + zi134)) sD11_copy_161 sAM14 (by omega) ?_
                    refine sd_iastx (a := (4200 + (((12 * t.toNat) + g.toNat) + zi134))) sd_sokM hx sD11_copy_162 sAM13 (by omega) (fun m hx em162 => ?_)
                    refine sd_iinc (y := ((zi134 : Int) + 1)) (ls' := [some (.inr 15), some (.inl s), some (.inl f), some (.inl t), some (.inl g), some (.inl n), some (.inl ((zi134 : Int) + 1))]) sD11_copy_163 rfl (by omega) (by omega) (by decide) rfl ?_
                    refine sd_goto (tgt := 134) sD11_copy_166 (by decide) ?_
                    exact sd_eqw (ls' := [some (.inr 15), some (.inl s), some (.inl f), some (.inl t), some (.inl g), some (.inl n), some (.inl ((zi134 + 1 : Nat) : Int))]) (ihzi134 m (by rw [hpzi134 zi134 (by omega)] at hx; exact sd_nseq (fun j => by rw [show (4200 + (12 * t.toNat + g.toNat + zi134)) = 4200 + (12 * t.toNat + g.toNat) + zi134 from by omega]; exact congrFun (sd_cpm_s x) j) hx) (by intro q hq; rw [em162]; unfold sd_up; rw [if_neg (by omega)]; exact hpzi134 q hq)) (by rw [show (((zi134 : Int) + 1) : Int) = ((zi134 + 1 : Nat) : Int) from by omega]) rfl
                  ·
                    show sd_Wp sd_SM 2 sY11_copy 134 [some (.inr 15), some (.inl s), some (.inl f), some (.inl t), some (.inl g), some (.inl n), some (.inl ((n.toNat : Nat) : Int))] [] m _
                    refine sd_iload sD11_copy_134 rfl ?_
                    refine sd_iload sD11_copy_136 rfl ?_
                    refine sd_icmp_ge (tgt := 169) sD11_copy_138 (by decide) (fun zc138 => ?_) (fun zc138 => (by exfalso; omega))
                    refine sd_iload sD11_copy_169 rfl ?_
                    refine sd_ireturn sD11_copy_171 rfl (fun hr hm => ?_)
                    exact sd_done (by unfold spM_copy sp_cpy; ((repeat (first | rw [if_pos (by first | assumption | omega)] | rw [if_neg (by first | assumption | omega)])); try rfl)) hx
              ·
                refine sd_aload_n sD11_copy_88 rfl ?_
                refine sd_iconst sD11_copy_89 (by decide) ?_
                refine sd_callV (as := [.inl 0]) (st := []) sD11_copy_90 sM11_78 rfl rfl sOM15 rfl (by decide) (Nat.le_of_ble_eq_true rfl) (cM_finding 0 (by decide) _ m hx (hF 0 (by decide))) (fun r m hq ho90 hm => ?_)
                obtain ⟨rfl, hx⟩ := hq
                show sd_Wp sd_SM 2 sY11_copy 93 [some (.inr 15), some (.inl s), some (.inl f), some (.inl t), some (.inl g), some (.inl n), none] [.inl (-1000001)] m _
                refine sd_ireturn sD11_copy_93 rfl (fun hr hm => ?_)
                exact sd_done (by unfold spM_copy sp_cpy; ((repeat (first | rw [if_pos (by first | assumption | omega)] | rw [if_neg (by first | assumption | omega)])); try rfl)) hx
          ·
            refine sd_aload_n sD11_copy_59 rfl ?_
            refine sd_iconst sD11_copy_60 (by decide) ?_
            refine sd_callV (as := [.inl 2]) (st := []) sD11_copy_61 sM11_78 rfl rfl sOM15 rfl (by decide) (Nat.le_of_ble_eq_true rfl) (cM_finding 2 (by decide) _ m hx (hF 2 (by decide))) (fun r m hq ho61 hm => ?_)
            obtain ⟨rfl, hx⟩ := hq
            show sd_Wp sd_SM 2 sY11_copy 64 [some (.inr 15), some (.inl s), some (.inl f), some (.inl t), some (.inl g), some (.inl n), none] [.inl (-1000003)] m _
            refine sd_ireturn sD11_copy_64 rfl (fun hr hm => ?_)
            exact sd_done (by unfold spM_copy sp_cpy; ((repeat (first | rw [if_pos (by first | assumption | omega)] | rw [if_neg (by first | assumption | omega)])); try rfl)) hx
        ·
          refine sd_aload_n sD11_copy_38 rfl ?_
          refine sd_iconst sD11_copy_39 (by decide) ?_
          refine sd_callV (as := [.inl 5]) (st := []) sD11_copy_40 sM11_78 rfl rfl sOM15 rfl (by decide) (Nat.le_of_ble_eq_true rfl) (cM_finding 5 (by decide) _ m hx (hF 5 (by decide))) (fun r m hq ho40 hm => ?_)
          obtain ⟨rfl, hx⟩ := hq
          show sd_Wp sd_SM 2 sY11_copy 43 [some (.inr 15), some (.inl s), some (.inl f), some (.inl t), some (.inl g), some (.inl n), none] [.inl (-1000006)] m _
          refine sd_ireturn sD11_copy_43 rfl (fun hr hm => ?_)
          exact sd_done (by unfold spM_copy sp_cpy; ((repeat (first | rw [if_pos (by first | assumption | omega)] | rw [if_neg (by first | assumption | omega)])); try rfl)) hx
    ·
      refine sd_aload_n sD11_copy_14 rfl ?_
      refine sd_iconst sD11_copy_15 (by decide) ?_
      refine sd_callV (as := [.inl 0]) (st := []) sD11_copy_16 sM11_78 rfl rfl sOM15 rfl (by decide) (Nat.le_of_ble_eq_true rfl) (cM_finding 0 (by decide) _ m hx (hF 0 (by decide))) (fun r m hq ho16 hm => ?_)
      obtain ⟨rfl, hx⟩ := hq
      show sd_Wp sd_SM 2 sY11_copy 19 [some (.inr 15), some (.inl s), some (.inl f), some (.inl t), some (.inl g), some (.inl n), none] [.inl (-1000001)] m _
      refine sd_ireturn sD11_copy_19 rfl (fun hr hm => ?_)
      exact sd_done (by unfold spM_copy sp_cpy; ((repeat (first | rw [if_pos (by first | assumption | omega)] | rw [if_neg (by first | assumption | omega)])); try rfl)) hx
