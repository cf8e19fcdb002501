set_option maxRecDepth 100000 in
set_option maxHeartbeats 4000000 in
theorem pM_sheet (s : Int) (b : Int) (n : Int) (x m : sd_M) (hx : sd_ns x m)  (hF : ∀ k : Nat, k < 7 → 0 ≤ x (4101 + k) ∧ x (4101 + k) ≤ 1000000) : sd_Ct sd_SM 2 sY11_sheet [.inr 15, .inl s, .inl b, .inl n] m (sd_Qp (spM_sheet x s b n)) := by
  refine sd_ct rfl (Nat.le_of_ble_eq_true rfl) (fun hok hm => ?_)
  have r_s : sd_R s := hok (.inl s) (by simp)
  have r_b : sd_R b := hok (.inl b) (by simp)
  have r_n : sd_R n := hok (.inl n) (by simp)
  show sd_Wp sd_SM 2 sY11_sheet 0 [some (.inr 15), some (.inl s), some (.inl b), some (.inl n), none] [] m _
  refine sd_iload_n sD11_sheet_0 rfl ?_
  refine sd_callSp (as := [.inl s]) (st := []) (v := .inl (sd_b (0 ≤ s ∧ s ≤ 3))) sD11_sheet_1 sM11_126 rfl rfl (by decide) (Nat.le_of_ble_eq_true rfl) (cM_isSheet s _ m hx  ) (fun ho1 => ?_)
  refine sd_bif_eq (tgt := 29) sD11_sheet_4 (by decide) (fun zc4 => ?_) (fun zc4 => ?_)
  ·
    refine sd_aload_n sD11_sheet_29 rfl ?_
    refine sd_iconst sD11_sheet_30 (by decide) ?_
    refine sd_callV (as := [.inl 0]) (st := []) sD11_sheet_31 sM11_78 rfl rfl sOM15 rfl (by decide) (Nat.le_of_ble_eq_true rfl) (cM_finding 0 (by decide) _ m hx (hF 0 (by decide))) (fun r m hq ho31 hm => ?_)
    obtain ⟨rfl, hx⟩ := hq
    show sd_Wp sd_SM 2 sY11_sheet 34 [some (.inr 15), some (.inl s), some (.inl b), some (.inl n), none] [.inl (-1000001)] m _
    refine sd_ireturn sD11_sheet_34 rfl (fun hr hm => ?_)
    first | (exfalso; omega) | exact sd_done (by unfold spM_sheet; ((repeat (first | rw [if_pos (by first | assumption | omega)] | rw [if_neg (by first | assumption | omega)])); try rfl); try (first | (rw [if_pos (by omega)]; done) | (rw [if_pos (by omega)]; rfl) | (rw [if_neg (by omega)]; done))) hx
  ·
    refine sd_iload_n sD11_sheet_7 rfl ?_
    refine sd_if_eq (tgt := 35) sD11_sheet_8 (by decide) (fun zc8 => ?_) (fun zc8 => ?_)
    ·
      refine sd_iload_n sD11_sheet_35 rfl ?_
      refine sd_if_ge (tgt := 46) sD11_sheet_36 (by decide) (fun zc36 => ?_) (fun zc36 => ?_)
      ·
        refine sd_iload_n sD11_sheet_46 rfl ?_
        refine sd_bipush sD11_sheet_47 rfl (by decide) ?_
        refine sd_icmp_le (tgt := 58) sD11_sheet_49 (by decide) (fun zc49 => ?_) (fun zc49 => ?_)
        ·
          refine sd_iload_n sD11_sheet_58 rfl ?_
          refine sd_if_ne (tgt := 71) sD11_sheet_59 (by decide) (fun zc59 => ?_) (fun zc59 => ?_)
          ·
            refine sd_aload_n sD11_sheet_71 rfl ?_
            refine sd_getfr sD11_sheet_72 sF11_43 sGM15_20 ?_
            refine sd_iload_n sD11_sheet_75 rfl ?_
            refine sd_iload_n sD11_sheet_76 rfl ?_
            refine sd_iastx (a := (4250 + s.toNat)) sd_sokM hx sD11_sheet_77 sAM11 (by omega) (fun m hx em77 => ?_)
            refine sd_aload_n sD11_sheet_78 rfl ?_
            refine sd_getfr sD11_sheet_79 sF11_46 sGM15_21 ?_
            refine sd_iload_n sD11_sheet_82 rfl ?_
            refine sd_iload_n sD11_sheet_83 rfl ?_
            refine sd_iastx (a := (4254 + s.toNat)) sd_sokM hx sD11_sheet_84 sAM12 (by omega) (fun m hx em84 => ?_)
            refine sd_iconst sD11_sheet_85 (by decide) ?_
            refine sd_istore (ls' := [some (.inr 15), some (.inl s), some (.inl b), some (.inl n), some (.inl 0)]) sD11_sheet_86 (by decide) rfl ?_
            refine sd_forX (12) (fun zi88 : Nat => [some (.inr 15), some (.inl s), some (.inl b), some (.inl n), some (.inl (zi88 : Int))]) (fun zi88 : Nat => sd_fil (sd_up (sd_up x (4250 + s.toNat) b) (4254 + s.toNat) n) (4200 + 12 * s.toNat) zi88 0) (fun (zi88 : Nat) (m : sd_M) => True) (by rfl) (fun zi88 hizi88 m hx hpzi88 ihzi88 => ?_) (fun m hx hpzi88 => ?_) (by rw [sd_fil_0]; exact hx) (by trivial)
            ·
              refine sd_iload sD11_sheet_88 rfl ?_
              refine sd_bipush sD11_sheet_90 rfl (by decide) ?_
              refine sd_icmp_ge (tgt := 114) sD11_sheet_92 (by decide) (fun zc92 => (by exfalso; omega)) (fun zc92 => ?_)
              refine sd_aload_n sD11_sheet_95 rfl ?_
              refine sd_getfr sD11_sheet_96 sF11_49 sGM15_22 ?_
              refine sd_bipush sD11_sheet_99 rfl (by decide) ?_
              refine sd_iload_n sD11_sheet_101 rfl ?_
              refine sd_imul (z := (12 * s)) sD11_sheet_102 (by omega) (by omega) ?_
              refine sd_iload sD11_sheet_103 rfl ?_
              refine sd_iadd (z := ((12 * s) + (zi88 : Int))) sD11_sheet_105 (by omega) (by omega) ?_
              refine sd_iconst sD11_sheet_106 (by decide) ?_
              refine sd_iastx (a := (4200 + ((12 * s.toNat) + zi88))) sd_sokM hx sD11_sheet_107 sAM13 (by omega) (fun m hx em107 => ?_)
              refine sd_iinc (y := ((zi88 : Int) + 1)) (ls' := [some (.inr 15), some (.inl s), some (.inl b), some (.inl n), some (.inl ((zi88 : Int) + 1))]) sD11_sheet_108 rfl (by omega) (by omega) (by decide) rfl ?_
              refine sd_goto (tgt := 88) sD11_sheet_111 (by decide) ?_
              exact sd_eqw (ls' := [some (.inr 15), some (.inl s), some (.inl b), some (.inl n), some (.inl ((zi88 + 1 : Nat) : Int))]) (ihzi88 m (by exact sd_nseq (fun j => by rw [← sd_fil_s, show (4200 + (12 * s.toNat + zi88)) = 4200 + 12 * s.toNat + zi88 from by omega]) hx) (by trivial)) (by rw [show (((zi88 : Int) + 1) : Int) = ((zi88 + 1 : Nat) : Int) from by omega]) rfl
            ·
              show sd_Wp sd_SM 2 sY11_sheet 88 [some (.inr 15), some (.inl s), some (.inl b), some (.inl n), some (.inl (12 : Int))] [] m _
              refine sd_iload sD11_sheet_88 rfl ?_
              refine sd_bipush sD11_sheet_90 rfl (by decide) ?_
              refine sd_icmp_ge (tgt := 114) sD11_sheet_92 (by decide) (fun zc92 => ?_) (fun zc92 => (by exfalso; omega))
              refine sd_iload_n sD11_sheet_114 rfl ?_
              refine sd_ireturn sD11_sheet_115 rfl (fun hr hm => ?_)
              first | (exfalso; omega) | exact sd_done (by unfold spM_sheet; ((repeat (first | rw [if_pos (by first | assumption | omega)] | rw [if_neg (by first | assumption | omega)])); try rfl); try (first | (rw [if_pos (by omega)]; done) | (rw [if_pos (by omega)]; rfl) | (rw [if_neg (by omega)]; done))) hx
          ·
            refine sd_aload_n sD11_sheet_62 rfl ?_
            refine sd_getfr sD11_sheet_63 sF11_43 sGM15_20 ?_
            refine sd_iload_n sD11_sheet_66 rfl ?_
            refine sd_iconst sD11_sheet_67 (by decide) ?_
            refine sd_iastx (a := (4250 + s.toNat)) sd_sokM hx sD11_sheet_68 sAM11 (by omega) (fun m hx em68 => ?_)
            refine sd_iconst sD11_sheet_69 (by decide) ?_
            refine sd_ireturn sD11_sheet_70 rfl (fun hr hm => ?_)
            first | (exfalso; omega) | exact sd_done (by unfold spM_sheet; ((repeat (first | rw [if_pos (by first | assumption | omega)] | rw [if_neg (by first | assumption | omega)])); try rfl); try (first | (rw [if_pos (by omega)]; done) | (rw [if_pos (by omega)]; rfl) | (rw [if_neg (by omega)]; done))) hx
        ·
          refine sd_aload_n sD11_sheet_52 rfl ?_
          refine sd_iconst sD11_sheet_53 (by decide) ?_
          refine sd_callV (as := [.inl 0]) (st := []) sD11_sheet_54 sM11_78 rfl rfl sOM15 rfl (by decide) (Nat.le_of_ble_eq_true rfl) (cM_finding 0 (by decide) _ m hx (hF 0 (by decide))) (fun r m hq ho54 hm => ?_)
          obtain ⟨rfl, hx⟩ := hq
          show sd_Wp sd_SM 2 sY11_sheet 57 [some (.inr 15), some (.inl s), some (.inl b), some (.inl n), none] [.inl (-1000001)] m _
          refine sd_ireturn sD11_sheet_57 rfl (fun hr hm => ?_)
          first | (exfalso; omega) | exact sd_done (by unfold spM_sheet; ((repeat (first | rw [if_pos (by first | assumption | omega)] | rw [if_neg (by first | assumption | omega)])); try rfl); try (first | (rw [if_pos (by omega)]; done) | (rw [if_pos (by omega)]; rfl) | (rw [if_neg (by omega)]; done))) hx
      ·
        refine sd_aload_n sD11_sheet_39 rfl ?_
        refine sd_bipush sD11_sheet_40 rfl (by decide) ?_
        refine sd_callV (as := [.inl 6]) (st := []) sD11_sheet_42 sM11_78 rfl rfl sOM15 rfl (by decide) (Nat.le_of_ble_eq_true rfl) (cM_finding 6 (by decide) _ m hx (hF 6 (by decide))) (fun r m hq ho42 hm => ?_)
        obtain ⟨rfl, hx⟩ := hq
        show sd_Wp sd_SM 2 sY11_sheet 45 [some (.inr 15), some (.inl s), some (.inl b), some (.inl n), none] [.inl (-1000007)] m _
        refine sd_ireturn sD11_sheet_45 rfl (fun hr hm => ?_)
        first | (exfalso; omega) | exact sd_done (by unfold spM_sheet; ((repeat (first | rw [if_pos (by first | assumption | omega)] | rw [if_neg (by first | assumption | omega)])); try rfl); try (first | (rw [if_pos (by omega)]; done) | (rw [if_pos (by omega)]; rfl) | (rw [if_neg (by omega)]; done))) hx
    ·
      refine sd_iload_n sD11_sheet_11 rfl ?_
      refine sd_bipush sD11_sheet_12 rfl (by decide) ?_
      refine sd_icmp_eq (tgt := 35) sD11_sheet_14 (by decide) (fun zc14 => ?_) (fun zc14 => ?_)
      ·
        refine sd_iload_n sD11_sheet_35 rfl ?_
        refine sd_if_ge (tgt := 46) sD11_sheet_36 (by decide) (fun zc36 => ?_) (fun zc36 => ?_)
        ·
          refine sd_iload_n sD11_sheet_46 rfl ?_
          refine sd_bipush sD11_sheet_47 rfl (by decide) ?_
          refine sd_icmp_le (tgt := 58) sD11_sheet_49 (by decide) (fun zc49 => ?_) (fun zc49 => ?_)
          ·
            refine sd_iload_n sD11_sheet_58 rfl ?_
            refine sd_if_ne (tgt := 71) sD11_sheet_59 (by decide) (fun zc59 => ?_) (fun zc59 => ?_)
            ·
              refine sd_aload_n sD11_sheet_71 rfl ?_
              refine sd_getfr sD11_sheet_72 sF11_43 sGM15_20 ?_
              refine sd_iload_n sD11_sheet_75 rfl ?_
              refine sd_iload_n sD11_sheet_76 rfl ?_
              refine sd_iastx (a := (4250 + s.toNat)) sd_sokM hx sD11_sheet_77 sAM11 (by omega) (fun m hx em77 => ?_)
              refine sd_aload_n sD11_sheet_78 rfl ?_
              refine sd_getfr sD11_sheet_79 sF11_46 sGM15_21 ?_
              refine sd_iload_n sD11_sheet_82 rfl ?_
              refine sd_iload_n sD11_sheet_83 rfl ?_
              refine sd_iastx (a := (4254 + s.toNat)) sd_sokM hx sD11_sheet_84 sAM12 (by omega) (fun m hx em84 => ?_)
              refine sd_iconst sD11_sheet_85 (by decide) ?_
              refine sd_istore (ls' := [some (.inr 15), some (.inl s), some (.inl b), some (.inl n), some (.inl 0)]) sD11_sheet_86 (by decide) rfl ?_
              refine sd_forX (12) (fun zi88 : Nat => [some (.inr 15), some (.inl s), some (.inl b), some (.inl n), some (.inl (zi88 : Int))]) (fun zi88 : Nat => sd_fil (sd_up (sd_up x (4250 + s.toNat) b) (4254 + s.toNat) n) (4200 + 12 * s.toNat) zi88 0) (fun (zi88 : Nat) (m : sd_M) => True) (by rfl) (fun zi88 hizi88 m hx hpzi88 ihzi88 => ?_) (fun m hx hpzi88 => ?_) (by rw [sd_fil_0]; exact hx) (by trivial)
              ·
                refine sd_iload sD11_sheet_88 rfl ?_
                refine sd_bipush sD11_sheet_90 rfl (by decide) ?_
                refine sd_icmp_ge (tgt := 114) sD11_sheet_92 (by decide) (fun zc92 => (by exfalso; omega)) (fun zc92 => ?_)
                refine sd_aload_n sD11_sheet_95 rfl ?_
                refine sd_getfr sD11_sheet_96 sF11_49 sGM15_22 ?_
                refine sd_bipush sD11_sheet_99 rfl (by decide) ?_
                refine sd_iload_n sD11_sheet_101 rfl ?_
                refine sd_imul (z := (12 * s)) sD11_sheet_102 (by omega) (by omega) ?_
                refine sd_iload sD11_sheet_103 rfl ?_
                refine sd_iadd (z := ((12 * s) + (zi88 : Int))) sD11_sheet_105 (by omega) (by omega) ?_
                refine sd_iconst sD11_sheet_106 (by decide) ?_
                refine sd_iastx (a := (4200 + ((12 * s.toNat) + zi88))) sd_sokM hx sD11_sheet_107 sAM13 (by omega) (fun m hx em107 => ?_)
                refine sd_iinc (y := ((zi88 : Int) + 1)) (ls' := [some (.inr 15), some (.inl s), some (.inl b), some (.inl n), some (.inl ((zi88 : Int) + 1))]) sD11_sheet_108 rfl (by omega) (by omega) (by decide) rfl ?_
                refine sd_goto (tgt := 88) sD11_sheet_111 (by decide) ?_
                exact sd_eqw (ls' := [some (.inr 15), some (.inl s), some (.inl b), some (.inl n), some (.inl ((zi88 + 1 : Nat) : Int))]) (ihzi88 m (by exact sd_nseq (fun j => by rw [← sd_fil_s, show (4200 + (12 * s.toNat + zi88)) = 4200 + 12 * s.toNat + zi88 from by omega]) hx) (by trivial)) (by rw [show (((zi88 : Int) + 1) : Int) = ((zi88 + 1 : Nat) : Int) from by omega]) rfl
              ·
                show sd_Wp sd_SM 2 sY11_sheet 88 [some (.inr 15), some (.inl s), some (.inl b), some (.inl n), some (.inl (12 : Int))] [] m _
                refine sd_iload sD11_sheet_88 rfl ?_
                refine sd_bipush sD11_sheet_90 rfl (by decide) ?_
                refine sd_icmp_ge (tgt := 114) sD11_sheet_92 (by decide) (fun zc92 => ?_) (fun zc92 => (by exfalso; omega))
                refine sd_iload_n sD11_sheet_114 rfl ?_
                refine sd_ireturn sD11_sheet_115 rfl (fun hr hm => ?_)
                first | (exfalso; omega) | exact sd_done (by unfold spM_sheet; ((repeat (first | rw [if_pos (by first | assumption | omega)] | rw [if_neg (by first | assumption | omega)])); try rfl); try (first | (rw [if_pos (by omega)]; done) | (rw [if_pos (by omega)]; rfl) | (rw [if_neg (by omega)]; done))) hx
            ·
              refine sd_aload_n sD11_sheet_62 rfl ?_
              refine sd_getfr sD11_sheet_63 sF11_43 sGM15_20 ?_
              refine sd_iload_n sD11_sheet_66 rfl ?_
              refine sd_iconst sD11_sheet_67 (by decide) ?_
              refine sd_iastx (a := (4250 + s.toNat)) sd_sokM hx sD11_sheet_68 sAM11 (by omega) (fun m hx em68 => ?_)
              refine sd_iconst sD11_sheet_69 (by decide) ?_
              refine sd_ireturn sD11_sheet_70 rfl (fun hr hm => ?_)
              first | (exfalso; omega) | exact sd_done (by unfold spM_sheet; ((repeat (first | rw [if_pos (by first | assumption | omega)] | rw [if_neg (by first | assumption | omega)])); try rfl); try (first | (rw [if_pos (by omega)]; done) | (rw [if_pos (by omega)]; rfl) | (rw [if_neg (by omega)]; done))) hx
          ·
            refine sd_aload_n sD11_sheet_52 rfl ?_
            refine sd_iconst sD11_sheet_53 (by decide) ?_
            refine sd_callV (as := [.inl 0]) (st := []) sD11_sheet_54 sM11_78 rfl rfl sOM15 rfl (by decide) (Nat.le_of_ble_eq_true rfl) (cM_finding 0 (by decide) _ m hx (hF 0 (by decide))) (fun r m hq ho54 hm => ?_)
            obtain ⟨rfl, hx⟩ := hq
            show sd_Wp sd_SM 2 sY11_sheet 57 [some (.inr 15), some (.inl s), some (.inl b), some (.inl n), none] [.inl (-1000001)] m _
            refine sd_ireturn sD11_sheet_57 rfl (fun hr hm => ?_)
            first | (exfalso; omega) | exact sd_done (by unfold spM_sheet; ((repeat (first | rw [if_pos (by first | assumption | omega)] | rw [if_neg (by first | assumption | omega)])); try rfl); try (first | (rw [if_pos (by omega)]; done) | (rw [if_pos (by omega)]; rfl) | (rw [if_neg (by omega)]; done))) hx
        ·
          refine sd_aload_n sD11_sheet_39 rfl ?_
          refine sd_bipush sD11_sheet_40 rfl (by decide) ?_
          refine sd_callV (as := [.inl 6]) (st := []) sD11_sheet_42 sM11_78 rfl rfl sOM15 rfl (by decide) (Nat.le_of_ble_eq_true rfl) (cM_finding 6 (by decide) _ m hx (hF 6 (by decide))) (fun r m hq ho42 hm => ?_)
          obtain ⟨rfl, hx⟩ := hq
          show sd_Wp sd_SM 2 sY11_sheet 45 [some (.inr 15), some (.inl s), some (.inl b), some (.inl n), none] [.inl (-1000007)] m _
          refine sd_ireturn sD11_sheet_45 rfl (fun hr hm => ?_)
          first | (exfalso; omega) | exact sd_done (by unfold spM_sheet; ((repeat (first | rw [if_pos (by first | assumption | omega)] | rw [if_neg (by first | assumption | omega)])); try rfl); try (first | (rw [if_pos (by omega)]; done) | (rw [if_pos (by omega)]; rfl) | (rw [if_neg (by omega)]; done))) hx
      ·
        refine sd_iload_n sD11_sheet_17 rfl ?_
        refine sd_bipush sD11_sheet_18 rfl (by decide) ?_
        refine sd_icmp_eq (tgt := 35) sD11_sheet_20 (by decide) (fun zc20 => ?_) (fun zc20 => ?_)
        ·
          refine sd_iload_n sD11_sheet_35 rfl ?_
          refine sd_if_ge (tgt := 46) sD11_sheet_36 (by decide) (fun zc36 => ?_) (fun zc36 => ?_)
          ·
            refine sd_iload_n sD11_sheet_46 rfl ?_
            refine sd_bipush sD11_sheet_47 rfl (by decide) ?_
            refine sd_icmp_le (tgt := 58) sD11_sheet_49 (by decide) (fun zc49 => ?_) (fun zc49 => ?_)
            ·
              refine sd_iload_n sD11_sheet_58 rfl ?_
              refine sd_if_ne (tgt := 71) sD11_sheet_59 (by decide) (fun zc59 => ?_) (fun zc59 => ?_)
              ·
                refine sd_aload_n sD11_sheet_71 rfl ?_
                refine sd_getfr sD11_sheet_72 sF11_43 sGM15_20 ?_
                refine sd_iload_n sD11_sheet_75 rfl ?_
                refine sd_iload_n sD11_sheet_76 rfl ?_
                refine sd_iastx (a := (4250 + s.toNat)) sd_sokM hx sD11_sheet_77 sAM11 (by omega) (fun m hx em77 => ?_)
                refine sd_aload_n sD11_sheet_78 rfl ?_
                refine sd_getfr sD11_sheet_79 sF11_46 sGM15_21 ?_
                refine sd_iload_n sD11_sheet_82 rfl ?_
                refine sd_iload_n sD11_sheet_83 rfl ?_
                refine sd_iastx (a := (4254 + s.toNat)) sd_sokM hx sD11_sheet_84 sAM12 (by omega) (fun m hx em84 => ?_)
                refine sd_iconst sD11_sheet_85 (by decide) ?_
                refine sd_istore (ls' := [some (.inr 15), some (.inl s), some (.inl b), some (.inl n), some (.inl 0)]) sD11_sheet_86 (by decide) rfl ?_
                refine sd_forX (12) (fun zi88 : Nat => [some (.inr 15), some (.inl s), some (.inl b), some (.inl n), some (.inl (zi88 : Int))]) (fun zi88 : Nat => sd_fil (sd_up (sd_up x (4250 + s.toNat) b) (4254 + s.toNat) n) (4200 + 12 * s.toNat) zi88 0) (fun (zi88 : Nat) (m : sd_M) => True) (by rfl) (fun zi88 hizi88 m hx hpzi88 ihzi88 => ?_) (fun m hx hpzi88 => ?_) (by rw [sd_fil_0]; exact hx) (by trivial)
                ·
                  refine sd_iload sD11_sheet_88 rfl ?_
                  refine sd_bipush sD11_sheet_90 rfl (by decide) ?_
                  refine sd_icmp_ge (tgt := 114) sD11_sheet_92 (by decide) (fun zc92 => (by exfalso; omega)) (fun zc92 => ?_)
                  refine sd_aload_n sD11_sheet_95 rfl ?_
                  refine sd_getfr sD11_sheet_96 sF11_49 sGM15_22 ?_
                  refine sd_bipush sD11_sheet_99 rfl (by decide) ?_
                  refine sd_iload_n sD11_sheet_101 rfl ?_
                  refine sd_imul (z := (12 * s)) sD11_sheet_102 (by omega) (by omega) ?_
                  refine sd_iload sD11_sheet_103 rfl ?_
                  refine sd_iadd (z := ((12 * s) + (zi88 : Int))) sD11_sheet_105 (by omega) (by omega) ?_
                  refine sd_iconst sD11_sheet_106 (by decide) ?_
                  refine sd_iastx (a := (4200 + ((12 * s.toNat) + zi88))) sd_sokM hx sD11_sheet_107 sAM13 (by omega) (fun m hx em107 => ?_)
                  refine sd_iinc (y := ((zi88 : Int) + 1)) (ls' := [some (.inr 15), some (.inl s), some (.inl b), some (.inl n), some (.inl ((zi88 : Int) + 1))]) sD11_sheet_108 rfl (by omega) (by omega) (by decide) rfl ?_
                  refine sd_goto (tgt := 88) sD11_sheet_111 (by decide) ?_
                  exact sd_eqw (ls' := [some (.inr 15), some (.inl s), some (.inl b), some (.inl n), some (.inl ((zi88 + 1 : Nat) : Int))]) (ihzi88 m (by exact sd_nseq (fun j => by rw [← sd_fil_s, show (4200 + (12 * s.toNat + zi88)) = 4200 + 12 * s.toNat + zi88 from by omega]) hx) (by trivial)) (by rw [show (((zi88 : Int) + 1) : Int) = ((zi88 + 1 : Nat) : Int) from by omega]) rfl
                ·
                  show sd_Wp sd_SM 2 sY11_sheet 88 [some (.inr 15), some (.inl s), some (.inl b), some (.inl n), some (.inl (12 : Int))] [] m _
                  refine sd_iload sD11_sheet_88 rfl ?_
                  refine sd_bipush sD11_sheet_90 rfl (by decide) ?_
                  refine sd_icmp_ge (tgt := 114) sD11_sheet_92 (by decide) (fun zc92 => ?_) (fun zc92 => (by exfalso; omega))
                  refine sd_iload_n sD11_sheet_114 rfl ?_
                  refine sd_ireturn sD11_sheet_115 rfl (fun hr hm => ?_)
                  first | (exfalso; omega) | exact sd_done (by unfold spM_sheet; ((repeat (first | rw [if_pos (by first | assumption | omega)] | rw [if_neg (by first | assumption | omega)])); try rfl); try (first | (rw [if_pos (by omega)]; done) | (rw [if_pos (by omega)]; rfl) | (rw [if_neg (by omega)]; done))) hx
              ·
                refine sd_aload_n sD11_sheet_62 rfl ?_
                refine sd_getfr sD11_sheet_63 sF11_43 sGM15_20 ?_
                refine sd_iload_n sD11_sheet_66 rfl ?_
                refine sd_iconst sD11_sheet_67 (by decide) ?_
                refine sd_iastx (a := (4250 + s.toNat)) sd_sokM hx sD11_sheet_68 sAM11 (by omega) (fun m hx em68 => ?_)
                refine sd_iconst sD11_sheet_69 (by decide) ?_
                refine sd_ireturn sD11_sheet_70 rfl (fun hr hm => ?_)
                first | (exfalso; omega) | exact sd_done (by unfold spM_sheet; ((repeat (first | rw [if_pos (by first | assumption | omega)] | rw [if_neg (by first | assumption | omega)])); try rfl); try (first | (rw [if_pos (by omega)]; done) | (rw [if_pos (by omega)]; rfl) | (rw [if_neg (by omega)]; done))) hx
            ·
              refine sd_aload_n sD11_sheet_52 rfl ?_
              refine sd_iconst sD11_sheet_53 (by decide) ?_
              refine sd_callV (as := [.inl 0]) (st := []) sD11_sheet_54 sM11_78 rfl rfl sOM15 rfl (by decide) (Nat.le_of_ble_eq_true rfl) (cM_finding 0 (by decide) _ m hx (hF 0 (by decide))) (fun r m hq ho54 hm => ?_)
              obtain ⟨rfl, hx⟩ := hq
              show sd_Wp sd_SM 2 sY11_sheet 57 [some (.inr 15), some (.inl s), some (.inl b), some (.inl n), none] [.inl (-1000001)] m _
              refine sd_ireturn sD11_sheet_57 rfl (fun hr hm => ?_)
              first | (exfalso; omega) | exact sd_done (by unfold spM_sheet; ((repeat (first | rw [if_pos (by first | assumption | omega)] | rw [if_neg (by first | assumption | omega)])); try rfl); try (first | (rw [if_pos (by omega)]; done) | (rw [if_pos (by omega)]; rfl) | (rw [if_neg (by omega)]; done))) hx
          ·
            refine sd_aload_n sD11_sheet_39 rfl ?_
            refine sd_bipush sD11_sheet_40 rfl (by decide) ?_
            refine sd_callV (as := [.inl 6]) (st := []) sD11_sheet_42 sM11_78 rfl rfl sOM15 rfl (by decide) (Nat.le_of_ble_eq_true rfl) (cM_finding 6 (by decide) _ m hx (hF 6 (by decide))) (fun r m hq ho42 hm => ?_)
            obtain ⟨rfl, hx⟩ := hq
            show sd_Wp sd_SM 2 sY11_sheet 45 [some (.inr 15), some (.inl s), some (.inl b), some (.inl n), none] [.inl (-1000007)] m _
            refine sd_ireturn sD11_sheet_45 rfl (fun hr hm => ?_)
            first | (exfalso; omega) | exact sd_done (by unfold spM_sheet; ((repeat (first | rw [if_pos (by first | assumption | omega)] | rw [if_neg (by first | assumption | omega)])); try rfl); try (first | (rw [if_pos (by omega)]; done) | (rw [if_pos (by omega)]; rfl) | (rw [if_neg (by omega)]; done))) hx
        ·
          refine sd_iload_n sD11_sheet_23 rfl ?_
          refine sd_bipush sD11_sheet_24 rfl (by decide) ?_
          refine sd_icmp_eq (tgt := 35) sD11_sheet_26 (by decide) (fun zc26 => ?_) (fun zc26 => ?_)
          ·
            refine sd_iload_n sD11_sheet_35 rfl ?_
            refine sd_if_ge (tgt := 46) sD11_sheet_36 (by decide) (fun zc36 => ?_) (fun zc36 => ?_)
            ·
              refine sd_iload_n sD11_sheet_46 rfl ?_
              refine sd_bipush sD11_sheet_47 rfl (by decide) ?_
              refine sd_icmp_le (tgt := 58) sD11_sheet_49 (by decide) (fun zc49 => ?_) (fun zc49 => ?_)
              ·
                refine sd_iload_n sD11_sheet_58 rfl ?_
                refine sd_if_ne (tgt := 71) sD11_sheet_59 (by decide) (fun zc59 => ?_) (fun zc59 => ?_)
                ·
                  refine sd_aload_n sD11_sheet_71 rfl ?_
                  refine sd_getfr sD11_sheet_72 sF11_43 sGM15_20 ?_
                  refine sd_iload_n sD11_sheet_75 rfl ?_
                  refine sd_iload_n sD11_sheet_76 rfl ?_
                  refine sd_iastx (a := (4250 + s.toNat)) sd_sokM hx sD11_sheet_77 sAM11 (by omega) (fun m hx em77 => ?_)
                  refine sd_aload_n sD11_sheet_78 rfl ?_
                  refine sd_getfr sD11_sheet_79 sF11_46 sGM15_21 ?_
                  refine sd_iload_n sD11_sheet_82 rfl ?_
                  refine sd_iload_n sD11_sheet_83 rfl ?_
                  refine sd_iastx (a := (4254 + s.toNat)) sd_sokM hx sD11_sheet_84 sAM12 (by omega) (fun m hx em84 => ?_)
                  refine sd_iconst sD11_sheet_85 (by decide) ?_
                  refine sd_istore (ls' := [some (.inr 15), some (.inl s), some (.inl b), some (.inl n), some (.inl 0)]) sD11_sheet_86 (by decide) rfl ?_
                  refine sd_forX (12) (fun zi88 : Nat => [some (.inr 15), some (.inl s), some (.inl b), some (.inl n), some (.inl (zi88 : Int))]) (fun zi88 : Nat => sd_fil (sd_up (sd_up x (4250 + s.toNat) b) (4254 + s.toNat) n) (4200 + 12 * s.toNat) zi88 0) (fun (zi88 : Nat) (m : sd_M) => True) (by rfl) (fun zi88 hizi88 m hx hpzi88 ihzi88 => ?_) (fun m hx hpzi88 => ?_) (by rw [sd_fil_0]; exact hx) (by trivial)
                  ·
                    refine sd_iload sD11_sheet_88 rfl ?_
                    refine sd_bipush sD11_sheet_90 rfl (by decide) ?_
                    refine sd_icmp_ge (tgt := 114) sD11_sheet_92 (by decide) (fun zc92 => (by exfalso; omega)) (fun zc92 => ?_)
                    refine sd_aload_n sD11_sheet_95 rfl ?_
                    refine sd_getfr sD11_sheet_96 sF11_49 sGM15_22 ?_
                    refine sd_bipush sD11_sheet_99 rfl (by decide) ?_
                    refine sd_iload_n sD11_sheet_101 rfl ?_
                    refine sd_imul (z := (12 * s)) sD11_sheet_102 (by omega) (by omega) ?_
                    refine sd_iload sD11_sheet_103 rfl ?_
                    refine sd_iadd (z := ((12 * s) + (zi88 : Int))) sD11_sheet_105 (by omega) (by omega) ?_
                    refine sd_iconst sD11_sheet_106 (by decide) ?_
                    refine sd_iastx (a := (4200 + ((12 * s.toNat) + zi88))) sd_sokM hx sD11_sheet_107 sAM13 (by omega) (fun m hx em107 => ?_)
                    refine sd_iinc (y := ((zi88 : Int) + 1)) (ls' := [some (.inr 15), some (.inl s), some (.inl b), some (.inl n), some (.inl ((zi88 : Int) + 1))]) sD11_sheet_108 rfl (by omega) (by omega) (by decide) rfl ?_
                    refine sd_goto (tgt := 88) sD11_sheet_111 (by decide) ?_
                    exact sd_eqw (ls' := [some (.inr 15), some (.inl s), some (.inl b), some (.inl n), some (.inl ((zi88 + 1 : Nat) : Int))]) (ihzi88 m (by exact sd_nseq (fun j => by rw [← sd_fil_s, show (4200 + (12 * s.toNat + zi88)) = 4200 + 12 * s.toNat + zi88 from by omega]) hx) (by trivial)) (by rw [show (((zi88 : Int) + 1) : Int) = ((zi88 + 1 : Nat) : Int) from by omega]) rfl
                  ·
                    show sd_Wp sd_SM 2 sY11_sheet 88 [some (.inr 15), some (.inl s), some (.inl b), some (.inl n), some (.inl (12 : Int))] [] m _
                    refine sd_iload sD11_sheet_88 rfl ?_
                    refine sd_bipush sD11_sheet_90 rfl (by decide) ?_
                    refine sd_icmp_ge (tgt := 114) sD11_sheet_92 (by decide) (fun zc92 => ?_) (fun zc92 => (by exfalso; omega))
                    refine sd_iload_n sD11_sheet_114 rfl ?_
                    refine sd_ireturn sD11_sheet_115 rfl (fun hr hm => ?_)
                    first | (exfalso; omega) | exact sd_done (by unfold spM_sheet; ((repeat (first | rw [if_pos (by first | assumption | omega)] | rw [if_neg (by first | assumption | omega)])); try rfl); try (first | (rw [if_pos (by omega)]; done) | (rw [if_pos (by omega)]; rfl) | (rw [if_neg (by omega)]; done))) hx
                ·
                  refine sd_aload_n sD11_sheet_62 rfl ?_
                  refine sd_getfr sD11_sheet_63 sF11_43 sGM15_20 ?_
                  refine sd_iload_n sD11_sheet_66 rfl ?_
                  refine sd_iconst sD11_sheet_67 (by decide) ?_
                  refine sd_iastx (a := (4250 + s.toNat)) sd_sokM hx sD11_sheet_68 sAM11 (by omega) (fun m hx em68 => ?_)
                  refine sd_iconst sD11_sheet_69 (by decide) ?_
                  refine sd_ireturn sD11_sheet_70 rfl (fun hr hm => ?_)
                  first | (exfalso; omega) | exact sd_done (by unfold spM_sheet; ((repeat (first | rw [if_pos (by first | assumption | omega)] | rw [if_neg (by first | assumption | omega)])); try rfl); try (first | (rw [if_pos (by omega)]; done) | (rw [if_pos (by omega)]; rfl) | (rw [if_neg (by omega)]; done))) hx
              ·
                refine sd_aload_n sD11_sheet_52 rfl ?_
                refine sd_iconst sD11_sheet_53 (by decide) ?_
                refine sd_callV (as := [.inl 0]) (st := []) sD11_sheet_54 sM11_78 rfl rfl sOM15 rfl (by decide) (Nat.le_of_ble_eq_true rfl) (cM_finding 0 (by decide) _ m hx (hF 0 (by decide))) (fun r m hq ho54 hm => ?_)
                obtain ⟨rfl, hx⟩ := hq
                show sd_Wp sd_SM 2 sY11_sheet 57 [some (.inr 15), some (.inl s), some (.inl b), some (.inl n), none] [.inl (-1000001)] m _
                refine sd_ireturn sD11_sheet_57 rfl (fun hr hm => ?_)
                first | (exfalso; omega) | exact sd_done (by unfold spM_sheet; ((repeat (first | rw [if_pos (by first | assumption | omega)] | rw [if_neg (by first | assumption | omega)])); try rfl); try (first | (rw [if_pos (by omega)]; done) | (rw [if_pos (by omega)]; rfl) | (rw [if_neg (by omega)]; done))) hx
            ·
              refine sd_aload_n sD11_sheet_39 rfl ?_
              refine sd_bipush sD11_sheet_40 rfl (by decide) ?_
              refine sd_callV (as := [.inl 6]) (st := []) sD11_sheet_42 sM11_78 rfl rfl sOM15 rfl (by decide) (Nat.le_of_ble_eq_true rfl) (cM_finding 6 (by decide) _ m hx (hF 6 (by decide))) (fun r m hq ho42 hm => ?_)
              obtain ⟨rfl, hx⟩ := hq
              show sd_Wp sd_SM 2 sY11_sheet 45 [some (.inr 15), some (.inl s), some (.inl b), some (.inl n), none] [.inl (-1000007)] m _
              refine sd_ireturn sD11_sheet_45 rfl (fun hr hm => ?_)
              first | (exfalso; omega) | exact sd_done (by unfold spM_sheet; ((repeat (first | rw [if_pos (by first | assumption | omega)] | rw [if_neg (by first | assumption | omega)])); try rfl); try (first | (rw [if_pos (by omega)]; done) | (rw [if_pos (by omega)]; rfl) | (rw [if_neg (by omega)]; done))) hx
          ·
            refine sd_aload_n sD11_sheet_29 rfl ?_
            refine sd_iconst sD11_sheet_30 (by decide) ?_
            refine sd_callV (as := [.inl 0]) (st := []) sD11_sheet_31 sM11_78 rfl rfl sOM15 rfl (by decide) (Nat.le_of_ble_eq_true rfl) (cM_finding 0 (by decide) _ m hx (hF 0 (by decide))) (fun r m hq ho31 hm => ?_)
            obtain ⟨rfl, hx⟩ := hq
            show sd_Wp sd_SM 2 sY11_sheet 34 [some (.inr 15), some (.inl s), some (.inl b), some (.inl n), none] [.inl (-1000001)] m _
            refine sd_ireturn sD11_sheet_34 rfl (fun hr hm => ?_)
            first | (exfalso; omega) | exact sd_done (by unfold spM_sheet; ((repeat (first | rw [if_pos (by first | assumption | omega)] | rw [if_neg (by first | assumption | omega)])); try rfl); try (first | (rw [if_pos (by omega)]; done) | (rw [if_pos (by omega)]; rfl) | (rw [if_neg (by omega)]; done))) hx
