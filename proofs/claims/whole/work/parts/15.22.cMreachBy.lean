set_option maxRecDepth 100000 in
set_option maxHeartbeats 4000000 in
theorem cM_reachBy (s : Int) (k : Int) (x m : sd_M) (hx : sd_ns x m) (h1 : sd_I1 x) (h2 : sd_I2 x) (h3 : sd_I3 x) (hk : 0 ≤ k ∧ k ≤ 9) : sd_Cp sd_SM 1 sY11_reachBy [.inr 15, .inl s, .inl k] m (.inl (sd_rch x (sd_shl 1 s) k.toNat)) := by
  refine sd_ct rfl (Nat.le_of_ble_eq_true rfl) (fun hok hm => ?_)
  obtain ⟨⟨i0, j0⟩, ⟨i1, j1⟩, ⟨i2, j2⟩, ⟨i3, j3⟩, ⟨i4, j4⟩, ⟨i5, j5⟩, ⟨i6, j6⟩, ⟨i7, j7⟩, ⟨i8, j8⟩⟩ := id h1
  have r_s : sd_R s := hok (.inl s) (by simp)
  have r_k : sd_R k := hok (.inl k) (by simp)
  show sd_Wp sd_SM 1 sY11_reachBy 0 [some (.inr 15), some (.inl s), some (.inl k), none, none, none, none, none] [] m _
  refine sd_iconst sD11_reachBy_0 (by decide) ?_
  refine sd_iload_n sD11_reachBy_1 rfl ?_
  refine sd_ishl sD11_reachBy_2 ?_
  refine sd_istore_n (ls' := [some (.inr 15), some (.inl s), some (.inl k), some (.inl (sd_shl 1 s)), none, none, none, none]) sD11_reachBy_3 (by decide) rfl ?_
  refine sd_iconst sD11_reachBy_4 (by decide) ?_
  refine sd_istore (ls' := [some (.inr 15), some (.inl s), some (.inl k), some (.inl (sd_shl 1 s)), some (.inl 0), none, none, none]) sD11_reachBy_5 (by decide) rfl ?_
  refine sd_forE (k.toNat) (fun zi7 : Nat => [some (.inr 15), some (.inl s), some (.inl k), some (.inl (sd_rch x (sd_shl 1 s) zi7)), some (.inl (zi7 : Int)), none, none, none]) (by rfl) (fun zi7 hizi7 ihzi7 => ?_) ?_
  ·
    refine sd_iload sD11_reachBy_7 rfl ?_
    refine sd_iload_n sD11_reachBy_9 rfl ?_
    refine sd_icmp_ge (tgt := 167) sD11_reachBy_10 (by decide) (fun zc10 => (by exfalso; omega)) (fun zc10 => ?_)
    refine sd_iload_n sD11_reachBy_13 rfl ?_
    refine sd_istore (ls' := [some (.inr 15), some (.inl s), some (.inl k), some (.inl (sd_rch x (sd_shl 1 s) zi7)), some (.inl (zi7 : Int)), some (.inl (sd_rch x (sd_shl 1 s) zi7)), none, none]) sD11_reachBy_14 (by decide) rfl ?_
    refine sd_iconst sD11_reachBy_16 (by decide) ?_
    refine sd_istore (ls' := [some (.inr 15), some (.inl s), some (.inl k), some (.inl (sd_rch x (sd_shl 1 s) zi7)), some (.inl (zi7 : Int)), some (.inl (sd_rch x (sd_shl 1 s) zi7)), some (.inl 0), none]) sD11_reachBy_17 (by decide) rfl ?_
    refine sd_forE ((x 2).toNat) (fun zi19 : Nat => [some (.inr 15), some (.inl s), some (.inl k), some (.inl (sd_rch x (sd_shl 1 s) zi7)), some (.inl (zi7 : Int)), some (.inl (sd_stp x (sd_rch x (sd_shl 1 s) zi7) zi19)), some (.inl (zi19 : Int)), none]) (by rfl) (fun zi19 hizi19 ihzi19 => ?_) ?_
    ·
      have e2 := (h2 zi19 (by omega)).1
      have e6 : sd_R (sd_stp x (sd_rch x (sd_shl 1 s) zi7) zi19) := sd_stpR (sd_rchR (sd_R_shl _ _) _) _
      refine sd_iload sD11_reachBy_19 rfl ?_
      refine sd_aload_n sD11_reachBy_21 rfl ?_
      refine sd_getfr sD11_reachBy_22 sF11_7 sGM15_0 ?_
      refine sd_iconst sD11_reachBy_25 (by decide) ?_
      refine sd_ialdx (a := 2) (v := x 2) hx sD11_reachBy_26 sAM0 (by omega) rfl ?_
      refine sd_icmp_ge (tgt := 158) sD11_reachBy_27 (by decide) (fun zc27 => (by exfalso; omega)) (fun zc27 => ?_)
      refine sd_aload_n sD11_reachBy_30 rfl ?_
      refine sd_iload sD11_reachBy_31 rfl ?_
      refine sd_callVp (as := [.inl (zi19 : Int)]) (st := []) (v := .inl (x (10 + zi19))) sD11_reachBy_33 sM11_64 sOM15 rfl rfl rfl (by decide) (Nat.le_of_ble_eq_true rfl) (cM_kindOf (zi19 : Int) _ m hx  (by omega)) (fun ho33 => ?_)
      refine sd_iconst sD11_reachBy_36 (by decide) ?_
      refine sd_icmp_ne (tgt := 152) sD11_reachBy_37 (by decide) (fun zc37 => ?_) (fun zc37 => ?_)
      ·
        refine sd_iinc (y := ((zi19 : Int) + 1)) (ls' := [some (.inr 15), some (.inl s), some (.inl k), some (.inl (sd_rch x (sd_shl 1 s) zi7)), some (.inl (zi7 : Int)), some (.inl (sd_stp x (sd_rch x (sd_shl 1 s) zi7) zi19)), some (.inl ((zi19 : Int) + 1)), none]) sD11_reachBy_152 rfl (by omega) (by omega) (by decide) rfl ?_
        refine sd_goto (tgt := 19) sD11_reachBy_155 (by decide) ?_
        exact sd_eqw (ls' := [some (.inr 15), some (.inl s), some (.inl k), some (.inl (sd_rch x (sd_shl 1 s) zi7)), some (.inl (zi7 : Int)), some (.inl (sd_stp x (sd_rch x (sd_shl 1 s) zi7) (zi19 + 1))), some (.inl ((zi19 + 1 : Nat) : Int)), none]) ihzi19 (by rw [show (sd_stp x (sd_rch x (sd_shl 1 s) zi7) zi19 : Int) = sd_stp x (sd_rch x (sd_shl 1 s) zi7) (zi19 + 1) from by (simp only [sd_stp]; first | (rw [if_neg (by omega)]; done) | (rw [if_neg (by omega)]; exact sd_or_0 e6) | (rw [if_pos (by omega)]; rfl)), show (((zi19 : Int) + 1) : Int) = ((zi19 + 1 : Nat) : Int) from by omega]) rfl
      ·
        refine sd_aload_n sD11_reachBy_40 rfl ?_
        refine sd_getfr sD11_reachBy_41 sF11_7 sGM15_0 ?_
        refine sd_sipush sD11_reachBy_44 rfl (by decide) ?_
        refine sd_iload sD11_reachBy_47 rfl ?_
        refine sd_iadd (z := (202 + (zi19 : Int))) sD11_reachBy_49 (by omega) (by omega) ?_
        refine sd_ialdx (a := (202 + zi19)) (v := x (202 + zi19)) hx sD11_reachBy_50 sAM0 (by omega) rfl ?_
        refine sd_iconst sD11_reachBy_51 (by decide) ?_
        refine sd_icmp_ne (tgt := 152) sD11_reachBy_52 (by decide) (fun zc52 => ?_) (fun zc52 => ?_)
        ·
          refine sd_iinc (y := ((zi19 : Int) + 1)) (ls' := [some (.inr 15), some (.inl s), some (.inl k), some (.inl (sd_rch x (sd_shl 1 s) zi7)), some (.inl (zi7 : Int)), some (.inl (sd_stp x (sd_rch x (sd_shl 1 s) zi7) zi19)), some (.inl ((zi19 : Int) + 1)), none]) sD11_reachBy_152 rfl (by omega) (by omega) (by decide) rfl ?_
          refine sd_goto (tgt := 19) sD11_reachBy_155 (by decide) ?_
          exact sd_eqw (ls' := [some (.inr 15), some (.inl s), some (.inl k), some (.inl (sd_rch x (sd_shl 1 s) zi7)), some (.inl (zi7 : Int)), some (.inl (sd_stp x (sd_rch x (sd_shl 1 s) zi7) (zi19 + 1))), some (.inl ((zi19 + 1 : Nat) : Int)), none]) ihzi19 (by rw [show (sd_stp x (sd_rch x (sd_shl 1 s) zi7) zi19 : Int) = sd_stp x (sd_rch x (sd_shl 1 s) zi7) (zi19 + 1) from by (simp only [sd_stp]; first | (rw [if_neg (by omega)]; done) | (rw [if_neg (by omega)]; exact sd_or_0 e6) | (rw [if_pos (by omega)]; rfl)), show (((zi19 : Int) + 1) : Int) = ((zi19 + 1 : Nat) : Int) from by omega]) rfl
        ·
          refine sd_aload_n sD11_reachBy_55 rfl ?_
          refine sd_getfr sD11_reachBy_56 sF11_7 sGM15_0 ?_
          refine sd_bipush sD11_reachBy_59 rfl (by decide) ?_
          refine sd_iload sD11_reachBy_61 rfl ?_
          refine sd_iadd (z := (58 + (zi19 : Int))) sD11_reachBy_63 (by omega) (by omega) ?_
          refine sd_ialdx (a := (58 + zi19)) (v := x (58 + zi19)) hx sD11_reachBy_64 sAM0 (by omega) rfl ?_
          refine sd_bipush sD11_reachBy_65 rfl (by decide) ?_
          refine sd_icmp_eq (tgt := 152) sD11_reachBy_67 (by decide) (fun zc67 => ?_) (fun zc67 => ?_)
          ·
            refine sd_iinc (y := ((zi19 : Int) + 1)) (ls' := [some (.inr 15), some (.inl s), some (.inl k), some (.inl (sd_rch x (sd_shl 1 s) zi7)), some (.inl (zi7 : Int)), some (.inl (sd_stp x (sd_rch x (sd_shl 1 s) zi7) zi19)), some (.inl ((zi19 : Int) + 1)), none]) sD11_reachBy_152 rfl (by omega) (by omega) (by decide) rfl ?_
            refine sd_goto (tgt := 19) sD11_reachBy_155 (by decide) ?_
            exact sd_eqw (ls' := [some (.inr 15), some (.inl s), some (.inl k), some (.inl (sd_rch x (sd_shl 1 s) zi7)), some (.inl (zi7 : Int)), some (.inl (sd_stp x (sd_rch x (sd_shl 1 s) zi7) (zi19 + 1))), some (.inl ((zi19 + 1 : Nat) : Int)), none]) ihzi19 (by rw [show (sd_stp x (sd_rch x (sd_shl 1 s) zi7) zi19 : Int) = sd_stp x (sd_rch x (sd_shl 1 s) zi7) (zi19 + 1) from by (simp only [sd_stp]; first | (rw [if_neg (by omega)]; done) | (rw [if_neg (by omega)]; exact sd_or_0 e6) | (rw [if_pos (by omega)]; rfl)), show (((zi19 : Int) + 1) : Int) = ((zi19 + 1 : Nat) : Int) from by omega]) rfl
          ·
            have e3 := sd_gA h1 h3 (by omega) zc37
            have e4 := sd_gB h1 h3 (by omega) zc37 zc67
            refine sd_iload_n sD11_reachBy_70 rfl ?_
            refine sd_aload_n sD11_reachBy_71 rfl ?_
            refine sd_getfr sD11_reachBy_72 sF11_7 sGM15_0 ?_
            refine sd_bipush sD11_reachBy_75 rfl (by decide) ?_
            refine sd_iload sD11_reachBy_77 rfl ?_
            refine sd_iadd (z := (34 + (zi19 : Int))) sD11_reachBy_79 (by omega) (by omega) ?_
            refine sd_ialdx (a := (34 + zi19)) (v := x (34 + zi19)) hx sD11_reachBy_80 sAM0 (by omega) rfl ?_
            refine sd_ishr sD11_reachBy_81 ?_
            refine sd_iconst sD11_reachBy_82 (by decide) ?_
            refine sd_iand sD11_reachBy_83 ?_
            refine sd_iconst sD11_reachBy_84 (by decide) ?_
            refine sd_cut (J := 111) (ls := [some (.inr 15), some (.inl s), some (.inl k), some (.inl (sd_rch x (sd_shl 1 s) zi7)), some (.inl (zi7 : Int)), some (.inl (sd_stp x (sd_rch x (sd_shl 1 s) zi7) zi19)), some (.inl (zi19 : Int)), none]) (st := []) (fun zv => zv = (sd_b ((sd_and (sd_shr (sd_rch x (sd_shl 1 s) zi7) (x (34 + zi19))) 1 = 1) ∨ ((¬ sd_and (sd_shr (sd_rch x (sd_shl 1 s) zi7) (x (34 + zi19))) 1 = 1) ∧ (sd_and (sd_shr (sd_rch x (sd_shl 1 s) zi7) (x (58 + zi19))) 1 = 1))))) (fun zv hzv => ?_) (fun K85 => ?_)
            ·
              subst hzv
              refine sd_istore (ls' := [some (.inr 15), some (.inl s), some (.inl k), some (.inl (sd_rch x (sd_shl 1 s) zi7)), some (.inl (zi7 : Int)), some (.inl (sd_stp x (sd_rch x (sd_shl 1 s) zi7) zi19)), some (.inl (zi19 : Int)), some (.inl (sd_b ((sd_and (sd_shr (sd_rch x (sd_shl 1 s) zi7) (x (34 + zi19))) 1 = 1) ∨ ((¬ sd_and (sd_shr (sd_rch x (sd_shl 1 s) zi7) (x (34 + zi19))) 1 = 1) ∧ (sd_and (sd_shr (sd_rch x (sd_shl 1 s) zi7) (x (58 + zi19))) 1 = 1)))))]) sD11_reachBy_111 (by decide) rfl ?_
              refine sd_iload sD11_reachBy_113 rfl ?_
              refine sd_iload sD11_reachBy_115 rfl ?_
              refine sd_bif_eq (tgt := 148) sD11_reachBy_117 (by decide) (fun zc117 => ?_) (fun zc117 => ?_)
              ·
                refine sd_iconst sD11_reachBy_148 (by decide) ?_
                refine sd_ior sD11_reachBy_149 ?_
                refine sd_istore (ls' := [some (.inr 15), some (.inl s), some (.inl k), some (.inl (sd_rch x (sd_shl 1 s) zi7)), some (.inl (zi7 : Int)), some (.inl (sd_or (sd_stp x (sd_rch x (sd_shl 1 s) zi7) zi19) 0)), some (.inl (zi19 : Int)), some (.inl (sd_b ((sd_and (sd_shr (sd_rch x (sd_shl 1 s) zi7) (x (34 + zi19))) 1 = 1) ∨ ((¬ sd_and (sd_shr (sd_rch x (sd_shl 1 s) zi7) (x (34 + zi19))) 1 = 1) ∧ (sd_and (sd_shr (sd_rch x (sd_shl 1 s) zi7) (x (58 + zi19))) 1 = 1)))))]) sD11_reachBy_150 (by decide) rfl ?_
                refine sd_iinc (y := ((zi19 : Int) + 1)) (ls' := [some (.inr 15), some (.inl s), some (.inl k), some (.inl (sd_rch x (sd_shl 1 s) zi7)), some (.inl (zi7 : Int)), some (.inl (sd_or (sd_stp x (sd_rch x (sd_shl 1 s) zi7) zi19) 0)), some (.inl ((zi19 : Int) + 1)), some (.inl (sd_b ((sd_and (sd_shr (sd_rch x (sd_shl 1 s) zi7) (x (34 + zi19))) 1 = 1) ∨ ((¬ sd_and (sd_shr (sd_rch x (sd_shl 1 s) zi7) (x (34 + zi19))) 1 = 1) ∧ (sd_and (sd_shr (sd_rch x (sd_shl 1 s) zi7) (x (58 + zi19))) 1 = 1)))))]) sD11_reachBy_152 rfl (by omega) (by omega) (by decide) rfl ?_
                refine sd_goto (tgt := 19) sD11_reachBy_155 (by decide) ?_
                refine sd_less (ls' := [some (.inr 15), some (.inl s), some (.inl k), some (.inl (sd_rch x (sd_shl 1 s) zi7)), some (.inl (zi7 : Int)), some (.inl (sd_or (sd_stp x (sd_rch x (sd_shl 1 s) zi7) zi19) 0)), some (.inl ((zi19 : Int) + 1)), none]) ?_ rfl (by intro zi zv zh; rcases zi with _ | _ | _ | _ | _ | _ | _ | _ | zi <;> first | exact zh | cases zh)
                exact sd_eqw (ls' := [some (.inr 15), some (.inl s), some (.inl k), some (.inl (sd_rch x (sd_shl 1 s) zi7)), some (.inl (zi7 : Int)), some (.inl (sd_stp x (sd_rch x (sd_shl 1 s) zi7) (zi19 + 1))), some (.inl ((zi19 + 1 : Nat) : Int)), none]) ihzi19 (by rw [show (sd_or (sd_stp x (sd_rch x (sd_shl 1 s) zi7) zi19) 0 : Int) = sd_stp x (sd_rch x (sd_shl 1 s) zi7) (zi19 + 1) from by (simp only [sd_stp]; first | (rw [if_neg (by omega)]; done) | (rw [if_neg (by omega)]; exact sd_or_0 e6) | (rw [if_pos (by omega)]; rfl)), show (((zi19 : Int) + 1) : Int) = ((zi19 + 1 : Nat) : Int) from by omega]) rfl
              ·
                refine sd_iconst sD11_reachBy_120 (by decide) ?_
                refine sd_aload_n sD11_reachBy_121 rfl ?_
                refine sd_getfr sD11_reachBy_122 sF11_7 sGM15_0 ?_
                refine sd_bipush sD11_reachBy_125 rfl (by decide) ?_
                refine sd_iload sD11_reachBy_127 rfl ?_
                refine sd_iadd (z := (34 + (zi19 : Int))) sD11_reachBy_129 (by omega) (by omega) ?_
                refine sd_ialdx (a := (34 + zi19)) (v := x (34 + zi19)) hx sD11_reachBy_130 sAM0 (by omega) rfl ?_
                refine sd_ishl sD11_reachBy_131 ?_
                refine sd_iconst sD11_reachBy_132 (by decide) ?_
                refine sd_aload_n sD11_reachBy_133 rfl ?_
                refine sd_getfr sD11_reachBy_134 sF11_7 sGM15_0 ?_
                refine sd_bipush sD11_reachBy_137 rfl (by decide) ?_
                refine sd_iload sD11_reachBy_139 rfl ?_
                refine sd_iadd (z := (58 + (zi19 : Int))) sD11_reachBy_141 (by omega) (by omega) ?_
                refine sd_ialdx (a := (58 + zi19)) (v := x (58 + zi19)) hx sD11_reachBy_142 sAM0 (by omega) rfl ?_
                refine sd_ishl sD11_reachBy_143 ?_
                refine sd_ior sD11_reachBy_144 ?_
                refine sd_goto (tgt := 149) sD11_reachBy_145 (by decide) ?_
                refine sd_ior sD11_reachBy_149 ?_
                refine sd_istore (ls' := [some (.inr 15), some (.inl s), some (.inl k), some (.inl (sd_rch x (sd_shl 1 s) zi7)), some (.inl (zi7 : Int)), some (.inl (sd_or (sd_stp x (sd_rch x (sd_shl 1 s) zi7) zi19) (sd_or (sd_shl 1 (x (34 + zi19))) (sd_shl 1 (x (58 + zi19)))))), some (.inl (zi19 : Int)), some (.inl (sd_b ((sd_and (sd_shr (sd_rch x (sd_shl 1 s) zi7) (x (34 + zi19))) 1 = 1) ∨ ((¬ sd_and (sd_shr (sd_rch x (sd_shl 1 s) zi7) (x (34 + zi19))) 1 = 1) ∧ (sd_and (sd_shr (sd_rch x (sd_shl 1 s) zi7) (x (58 + zi19))) 1 = 1)))))]) sD11_reachBy_150 (by decide) rfl ?_
                refine sd_iinc (y := ((zi19 : Int) + 1)) (ls' := [some (.inr 15), some (.inl s), some (.inl k), some (.inl (sd_rch x (sd_shl 1 s) zi7)), some (.inl (zi7 : Int)), some (.inl (sd_or (sd_stp x (sd_rch x (sd_shl 1 s) zi7) zi19) (sd_or (sd_shl 1 (x (34 + zi19))) (sd_shl 1 (x (58 + zi19)))))), some (.inl ((zi19 : Int) + 1)), some (.inl (sd_b ((sd_and (sd_shr (sd_rch x (sd_shl 1 s) zi7) (x (34 + zi19))) 1 = 1) ∨ ((¬ sd_and (sd_shr (sd_rch x (sd_shl 1 s) zi7) (x (34 + zi19))) 1 = 1) ∧ (sd_and (sd_shr (sd_rch x (sd_shl 1 s) zi7) (x (58 + zi19))) 1 = 1)))))]) sD11_reachBy_152 rfl (by omega) (by omega) (by decide) rfl ?_
                refine sd_goto (tgt := 19) sD11_reachBy_155 (by decide) ?_
                refine sd_less (ls' := [some (.inr 15), some (.inl s), some (.inl k), some (.inl (sd_rch x (sd_shl 1 s) zi7)), some (.inl (zi7 : Int)), some (.inl (sd_or (sd_stp x (sd_rch x (sd_shl 1 s) zi7) zi19) (sd_or (sd_shl 1 (x (34 + zi19))) (sd_shl 1 (x (58 + zi19)))))), some (.inl ((zi19 : Int) + 1)), none]) ?_ rfl (by intro zi zv zh; rcases zi with _ | _ | _ | _ | _ | _ | _ | _ | zi <;> first | exact zh | cases zh)
                exact sd_eqw (ls' := [some (.inr 15), some (.inl s), some (.inl k), some (.inl (sd_rch x (sd_shl 1 s) zi7)), some (.inl (zi7 : Int)), some (.inl (sd_stp x (sd_rch x (sd_shl 1 s) zi7) (zi19 + 1))), some (.inl ((zi19 + 1 : Nat) : Int)), none]) ihzi19 (by rw [show (sd_or (sd_stp x (sd_rch x (sd_shl 1 s) zi7) zi19) (sd_or (sd_shl 1 (x (34 + zi19))) (sd_shl 1 (x (58 + zi19)))) : Int) = sd_stp x (sd_rch x (sd_shl 1 s) zi7) (zi19 + 1) from by (simp only [sd_stp]; first | (rw [if_neg (by omega)]; done) | (rw [if_neg (by omega)]; exact sd_or_0 e6) | (rw [if_pos (by omega)]; rfl)), show (((zi19 : Int) + 1) : Int) = ((zi19 + 1 : Nat) : Int) from by omega]) rfl
            ·
              refine sd_icmp_eq (tgt := 106) sD11_reachBy_85 (by decide) (fun zc85 => ?_) (fun zc85 => ?_)
              ·
                refine sd_iconst sD11_reachBy_106 (by decide) ?_
                refine sd_goto (tgt := 111) sD11_reachBy_107 (by decide) ?_
                exact K85 _ (by exact (sd_b1 (by omega)).symm)
              ·
                refine sd_iload_n sD11_reachBy_88 rfl ?_
                refine sd_aload_n sD11_reachBy_89 rfl ?_
                refine sd_getfr sD11_reachBy_90 sF11_7 sGM15_0 ?_
                refine sd_bipush sD11_reachBy_93 rfl (by decide) ?_
                refine sd_iload sD11_reachBy_95 rfl ?_
                refine sd_iadd (z := (58 + (zi19 : Int))) sD11_reachBy_97 (by omega) (by omega) ?_
                refine sd_ialdx (a := (58 + zi19)) (v := x (58 + zi19)) hx sD11_reachBy_98 sAM0 (by omega) rfl ?_
                refine sd_ishr sD11_reachBy_99 ?_
                refine sd_iconst sD11_reachBy_100 (by decide) ?_
                refine sd_iand sD11_reachBy_101 ?_
                refine sd_iconst sD11_reachBy_102 (by decide) ?_
                refine sd_icmp_ne (tgt := 110) sD11_reachBy_103 (by decide) (fun zc103 => ?_) (fun zc103 => ?_)
                ·
                  refine sd_iconst sD11_reachBy_110 (by decide) ?_
                  exact K85 _ (by exact (sd_b0 (by omega)).symm)
                ·
                  refine sd_iconst sD11_reachBy_106 (by decide) ?_
                  refine sd_goto (tgt := 111) sD11_reachBy_107 (by decide) ?_
                  exact K85 _ (by exact (sd_b1 (by omega)).symm)
    ·
      show sd_Wp sd_SM 1 sY11_reachBy 19 [some (.inr 15), some (.inl s), some (.inl k), some (.inl (sd_rch x (sd_shl 1 s) zi7)), some (.inl (zi7 : Int)), some (.inl (sd_stp x (sd_rch x (sd_shl 1 s) zi7) ((x 2).toNat))), some (.inl ((((x 2).toNat) : Nat) : Int)), none] [] m _
      refine sd_iload sD11_reachBy_19 rfl ?_
      refine sd_aload_n sD11_reachBy_21 rfl ?_
      refine sd_getfr sD11_reachBy_22 sF11_7 sGM15_0 ?_
      refine sd_iconst sD11_reachBy_25 (by decide) ?_
      refine sd_ialdx (a := 2) (v := x 2) hx sD11_reachBy_26 sAM0 (by omega) rfl ?_
      refine sd_icmp_ge (tgt := 158) sD11_reachBy_27 (by decide) (fun zc27 => ?_) (fun zc27 => (by exfalso; omega))
      refine sd_iload sD11_reachBy_158 rfl ?_
      refine sd_istore_n (ls' := [some (.inr 15), some (.inl s), some (.inl k), some (.inl (sd_stp x (sd_rch x (sd_shl 1 s) zi7) ((x 2).toNat))), some (.inl (zi7 : Int)), some (.inl (sd_stp x (sd_rch x (sd_shl 1 s) zi7) ((x 2).toNat))), some (.inl ((((x 2).toNat) : Nat) : Int)), none]) sD11_reachBy_160 (by decide) rfl ?_
      refine sd_iinc (y := ((zi7 : Int) + 1)) (ls' := [some (.inr 15), some (.inl s), some (.inl k), some (.inl (sd_stp x (sd_rch x (sd_shl 1 s) zi7) ((x 2).toNat))), some (.inl ((zi7 : Int) + 1)), some (.inl (sd_stp x (sd_rch x (sd_shl 1 s) zi7) ((x 2).toNat))), some (.inl ((((x 2).toNat) : Nat) : Int)), none]) sD11_reachBy_161 rfl (by omega) (by omega) (by decide) rfl ?_
      refine sd_goto (tgt := 7) sD11_reachBy_164 (by decide) ?_
      refine sd_less (ls' := [some (.inr 15), some (.inl s), some (.inl k), some (.inl (sd_stp x (sd_rch x (sd_shl 1 s) zi7) ((x 2).toNat))), some (.inl ((zi7 : Int) + 1)), none, none, none]) ?_ rfl (by intro zi zv zh; rcases zi with _ | _ | _ | _ | _ | _ | _ | _ | zi <;> first | exact zh | cases zh)
      exact sd_eqw (ls' := [some (.inr 15), some (.inl s), some (.inl k), some (.inl (sd_rch x (sd_shl 1 s) (zi7 + 1))), some (.inl ((zi7 + 1 : Nat) : Int)), none, none, none]) ihzi7 (by rw [show (sd_stp x (sd_rch x (sd_shl 1 s) zi7) ((x 2).toNat) : Int) = sd_rch x (sd_shl 1 s) (zi7 + 1) from by rfl, show (((zi7 : Int) + 1) : Int) = ((zi7 + 1 : Nat) : Int) from by omega]) rfl
  ·
    show sd_Wp sd_SM 1 sY11_reachBy 7 [some (.inr 15), some (.inl s), some (.inl k), some (.inl (sd_rch x (sd_shl 1 s) k.toNat)), some (.inl ((k.toNat : Nat) : Int)), none, none, none] [] m _
    refine sd_iload sD11_reachBy_7 rfl ?_
    refine sd_iload_n sD11_reachBy_9 rfl ?_
    refine sd_icmp_ge (tgt := 167) sD11_reachBy_10 (by decide) (fun zc10 => ?_) (fun zc10 => (by exfalso; omega))
    refine sd_iload_n sD11_reachBy_167 rfl ?_
    refine sd_iretp sD11_reachBy_168 rfl ?_
    first | rfl | omega | (congr 1; omega)
