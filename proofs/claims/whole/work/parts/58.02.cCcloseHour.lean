set_option maxRecDepth 100000 in
set_option maxHeartbeats 4000000 in
theorem cC_closeHour (x m : sd_M) (hx : sd_ns x m) (hJ : sd_J x) (hc : x 8 ≤ 6 * x 0) (h9 : x 0 + 1 ≤ 959) : sd_Ct sd_SC 5 sY6_closeHour [.inr 53] m (fun r m' => r = none ∧ sd_ns (sd_clo x) m') := by
  refine sd_ct rfl (Nat.le_of_ble_eq_true rfl) (fun hok hm => ?_)
  have h1 := hJ.1
  obtain ⟨⟨i0, j0⟩, ⟨i1, j1⟩, ⟨i2, j2⟩, ⟨i3, j3⟩, ⟨i4, j4⟩, ⟨i5, j5⟩, ⟨i6, j6⟩, ⟨i7, j7⟩, ⟨i8, j8⟩⟩ := id h1
  obtain ⟨⟨hJ1, g10, g12, g13⟩, ⟨hJ2, g20, g23, g22⟩, ⟨hJ3, g30, g38, g32⟩⟩ := sd_y3J hJ
  obtain ⟨hJ4, g40, g48, hrr4⟩ := sd_y4J hJ hc
  obtain ⟨hJ5, g50, g58⟩ := sd_y5J hJ hc
  show sd_Wp sd_SC 5 sY6_closeHour 0 [some (.inr 53), none, none, none] [] m _
  refine sd_aload_n sD6_closeHour_0 rfl ?_
  refine sd_getfx (v := x 0) hx sD6_closeHour_1 sF6_9 sGC53_0 (by decide) rfl ?_
  refine sd_bipush sD6_closeHour_4 rfl (by decide) ?_
  refine sd_irem (z := (x 0 % 24)) sD6_closeHour_6 (by decide) (by exact Int.tmod_eq_emod_of_nonneg (by omega)) (by omega) ?_
  refine sd_istore_n (ls' := [some (.inr 53), some (.inl (x 0 % 24)), none, none]) sD6_closeHour_7 (by decide) rfl ?_
  refine sd_aload_n sD6_closeHour_8 rfl ?_
  refine sd_getfr sD6_closeHour_9 sF6_21 sGC53_2 ?_
  refine sd_aload_n sD6_closeHour_12 rfl ?_
  refine sd_getfx (v := x 1) hx sD6_closeHour_13 sF6_15 sGC53_1 (by decide) rfl ?_
  refine sd_callV (as := [.inl (x 1)]) (st := []) sD6_closeHour_16 sM6_208 rfl rfl sOC13 rfl (by decide) (Nat.le_of_ble_eq_true rfl) (cC_weather (x 1) _ m hx hJ rfl) (fun r m hq ho16 hm => ?_)
  obtain ⟨rfl, hx⟩ := hq
  show sd_Wp sd_SC 5 sY6_closeHour 19 [some (.inr 53), some (.inl (x 0 % 24)), none, none] [] m _
  refine sd_iload_n sD6_closeHour_19 rfl ?_
  refine sd_bipush sD6_closeHour_20 rfl (by decide) ?_
  refine sd_cut (J := 42) (ls := [some (.inr 53), some (.inl (x 0 % 24)), none, none]) (st := []) (fun zv => zv = (sd_b (((x 0 % 24) = 6) ∨ ((¬ (x 0 % 24) = 6) ∧ ((x 0 % 24) = 12)) ∨ ((¬ (x 0 % 24) = 6) ∧ (¬ (x 0 % 24) = 12) ∧ ((x 0 % 24) = 18))))) (fun zv hzv => ?_) (fun K22 => ?_)
  ·
    subst hzv
    refine sd_istore_n (ls' := [some (.inr 53), some (.inl (x 0 % 24)), some (.inl (sd_b (((x 0 % 24) = 6) ∨ ((¬ (x 0 % 24) = 6) ∧ ((x 0 % 24) = 12)) ∨ ((¬ (x 0 % 24) = 6) ∧ (¬ (x 0 % 24) = 12) ∧ ((x 0 % 24) = 18))))), none]) sD6_closeHour_42 (by decide) rfl ?_
    refine sd_eqw (ls' := [some (.inr 53), some (.inl (x 0 % 24)), some (.inl (sd_b (x 0 % 24 = 6 ∨ x 0 % 24 = 12 ∨ x 0 % 24 = 18))), none]) ?_ (sd_cg rfl (sd_cg rfl (sd_cg (sd_ce (sd_bc (by omega))) rfl))) rfl
    refine sd_iconst sD6_closeHour_43 (by decide) ?_
    refine sd_istore_n (ls' := [some (.inr 53), some (.inl (x 0 % 24)), some (.inl (sd_b (x 0 % 24 = 6 ∨ x 0 % 24 = 12 ∨ x 0 % 24 = 18))), some (.inl 0)]) sD6_closeHour_44 (by decide) rfl ?_
    refine sd_forX ((x 3).toNat) (fun zi45 : Nat => [some (.inr 53), some (.inl (x 0 % 24)), some (.inl (sd_b (x 0 % 24 = 6 ∨ x 0 % 24 = 12 ∨ x 0 % 24 = 18))), some (.inl (zi45 : Int))]) (fun zi45 : Nat => sd_eaL (sd_y1 x) (x 0 % 24 = 6 ∨ x 0 % 24 = 12 ∨ x 0 % 24 = 18) zi45) (fun (zi45 : Nat) (m : sd_M) => True) (by rfl) (fun zi45 hizi45 m hx hpzi45 ihzi45 => ?_) (fun m hx hpzi45 => ?_) (by exact hx) (by trivial)
    ·
      obtain ⟨hJe, hO⟩ := sd_eaL_J hJ1 (x 0 % 24 = 6 ∨ x 0 % 24 = 12 ∨ x 0 % 24 = 18) zi45 (by omega)
      have h1 := hJe.1
      have h2 := hJe.2.1
      have h3 := hJe.2.2.1
      have h4 := hJe.2.2.2.1
      have h5 := hJe.2.2.2.2.1
      have h6 := hJe.2.2.2.2.2.1
      have h7 := hJe.2.2.2.2.2.2.1
      have hR := hJe.2.2.2.2.2.2.2.1
      have hI := hJe.2.2.2.2.2.2.2.2.1
      have hL := hJe.2.2.2.2.2.2.2.2.2
      have e4 := (h4 zi45 (by omega)).1
      refine sd_iload_n sD6_closeHour_45 rfl ?_
      refine sd_aload_n sD6_closeHour_46 rfl ?_
      refine sd_getfr sD6_closeHour_47 sF6_28 sGC53_3 ?_
      refine sd_getfx (v := x 3) hx sD6_closeHour_50 sF6_212 sGC18_0 (by decide) ((hO 3 (by omega)).trans g13) ?_
      refine sd_icmp_ge (tgt := 81) sD6_closeHour_53 (by decide) (fun zc53 => (by exfalso; omega)) (fun zc53 => ?_)
      refine sd_aload_n sD6_closeHour_56 rfl ?_
      refine sd_getfr sD6_closeHour_57 sF6_28 sGC53_3 ?_
      refine sd_getfr sD6_closeHour_60 sF6_201 sGC18_1 ?_
      refine sd_iload_n sD6_closeHour_63 rfl ?_
      refine sd_ialdx (a := (322 + zi45)) (v := (sd_eaL (sd_y1 x) (x 0 % 24 = 6 ∨ x 0 % 24 = 12 ∨ x 0 % 24 = 18) zi45) (322 + zi45)) hx sD6_closeHour_64 sAC14 (by omega) rfl ?_
      refine sd_iconst sD6_closeHour_65 (by decide) ?_
      refine sd_icmp_eq (tgt := 75) sD6_closeHour_66 (by decide) (fun zc66 => ?_) (fun zc66 => ?_)
      ·
        refine sd_iinc (y := ((zi45 : Int) + 1)) (ls' := [some (.inr 53), some (.inl (x 0 % 24)), some (.inl (sd_b (x 0 % 24 = 6 ∨ x 0 % 24 = 12 ∨ x 0 % 24 = 18))), some (.inl ((zi45 : Int) + 1))]) sD6_closeHour_75 rfl (by omega) (by omega) (by decide) rfl ?_
        refine sd_goto (tgt := 45) sD6_closeHour_78 (by decide) ?_
        exact sd_eqw (ls' := [some (.inr 53), some (.inl (x 0 % 24)), some (.inl (sd_b (x 0 % 24 = 6 ∨ x 0 % 24 = 12 ∨ x 0 % 24 = 18))), some (.inl ((zi45 + 1 : Nat) : Int))]) (ihzi45 m (by simp only [sd_eaL]; first | (rw [if_pos (by omega)]; exact hx) | (rw [if_neg (by omega)]; exact hx)) (by trivial)) (sd_cg rfl (sd_cg rfl (sd_cg rfl (sd_cg (sd_ce (show (((zi45 : Int) + 1) : Int) = ((zi45 + 1 : Nat) : Int) from by omega)) rfl)))) rfl
      ·
        refine sd_aload_n sD6_closeHour_69 rfl ?_
        refine sd_iload_n sD6_closeHour_70 rfl ?_
        refine sd_iload_n sD6_closeHour_71 rfl ?_
        refine sd_callV (as := [.inl (zi45 : Int), .inl (sd_b (x 0 % 24 = 6 ∨ x 0 % 24 = 12 ∨ x 0 % 24 = 18))]) (st := []) sD6_closeHour_72 sM6_213 rfl rfl sOC53 rfl (by decide) (Nat.le_of_ble_eq_true rfl) (cC_eat zi45 (by omega) (x 0 % 24 = 6 ∨ x 0 % 24 = 12 ∨ x 0 % 24 = 18) _ m hx hJe (by omega)) (fun r m hq ho72 hm => ?_)
        obtain ⟨rfl, hx⟩ := hq
        show sd_Wp sd_SC 5 sY6_closeHour 75 [some (.inr 53), some (.inl (x 0 % 24)), some (.inl (sd_b (x 0 % 24 = 6 ∨ x 0 % 24 = 12 ∨ x 0 % 24 = 18))), some (.inl (zi45 : Int))] [] m _
        refine sd_iinc (y := ((zi45 : Int) + 1)) (ls' := [some (.inr 53), some (.inl (x 0 % 24)), some (.inl (sd_b (x 0 % 24 = 6 ∨ x 0 % 24 = 12 ∨ x 0 % 24 = 18))), some (.inl ((zi45 : Int) + 1))]) sD6_closeHour_75 rfl (by omega) (by omega) (by decide) rfl ?_
        refine sd_goto (tgt := 45) sD6_closeHour_78 (by decide) ?_
        exact sd_eqw (ls' := [some (.inr 53), some (.inl (x 0 % 24)), some (.inl (sd_b (x 0 % 24 = 6 ∨ x 0 % 24 = 12 ∨ x 0 % 24 = 18))), some (.inl ((zi45 + 1 : Nat) : Int))]) (ihzi45 m (by simp only [sd_eaL]; first | (rw [if_pos (by omega)]; exact hx) | (rw [if_neg (by omega)]; exact hx)) (by trivial)) (sd_cg rfl (sd_cg rfl (sd_cg rfl (sd_cg (sd_ce (show (((zi45 : Int) + 1) : Int) = ((zi45 + 1 : Nat) : Int) from by omega)) rfl)))) rfl
    ·
      show sd_Wp sd_SC 5 sY6_closeHour 45 [some (.inr 53), some (.inl (x 0 % 24)), some (.inl (sd_b (x 0 % 24 = 6 ∨ x 0 % 24 = 12 ∨ x 0 % 24 = 18))), some (.inl ((((x 3).toNat) : Nat) : Int))] [] m _
      obtain ⟨hJe, hO⟩ := sd_eaL_J hJ1 (x 0 % 24 = 6 ∨ x 0 % 24 = 12 ∨ x 0 % 24 = 18) (x 3).toNat (by omega)
      refine sd_iload_n sD6_closeHour_45 rfl ?_
      refine sd_aload_n sD6_closeHour_46 rfl ?_
      refine sd_getfr sD6_closeHour_47 sF6_28 sGC53_3 ?_
      refine sd_getfx (v := x 3) hx sD6_closeHour_50 sF6_212 sGC18_0 (by decide) ((hO 3 (by omega)).trans g13) ?_
      refine sd_icmp_ge (tgt := 81) sD6_closeHour_53 (by decide) (fun zc53 => ?_) (fun zc53 => (by exfalso; omega))
      replace hx : sd_ns (sd_y2 x) m := hx
      refine sd_iconst sD6_closeHour_81 (by decide) ?_
      refine sd_istore_n (ls' := [some (.inr 53), some (.inl (x 0 % 24)), some (.inl (sd_b (x 0 % 24 = 6 ∨ x 0 % 24 = 12 ∨ x 0 % 24 = 18))), some (.inl 0)]) sD6_closeHour_82 (by decide) rfl ?_
      refine sd_forX ((x 3).toNat) (fun zi83 : Nat => [some (.inr 53), some (.inl (x 0 % 24)), some (.inl (sd_b (x 0 % 24 = 6 ∨ x 0 % 24 = 12 ∨ x 0 % 24 = 18))), some (.inl (zi83 : Int))]) (fun zi83 : Nat => sd_tiL (sd_y2 x) (x 0 % 24) zi83) (fun (zi83 : Nat) (m : sd_M) => True) (by rfl) (fun zi83 hizi83 m hx hpzi83 ihzi83 => ?_) (fun m hx hpzi83 => ?_) (by exact hx) (by trivial)
      ·
        obtain ⟨hJe, hO⟩ := sd_tiL_J hJ2 (x 0 % 24) zi83 (by omega)
        have h1 := hJe.1
        have h2 := hJe.2.1
        have h3 := hJe.2.2.1
        have h4 := hJe.2.2.2.1
        have h5 := hJe.2.2.2.2.1
        have h6 := hJe.2.2.2.2.2.1
        have h7 := hJe.2.2.2.2.2.2.1
        have hR := hJe.2.2.2.2.2.2.2.1
        have hI := hJe.2.2.2.2.2.2.2.2.1
        have hL := hJe.2.2.2.2.2.2.2.2.2
        have e4 := (h4 zi83 (by omega)).1
        refine sd_iload_n sD6_closeHour_83 rfl ?_
        refine sd_aload_n sD6_closeHour_84 rfl ?_
        refine sd_getfr sD6_closeHour_85 sF6_28 sGC53_3 ?_
        refine sd_getfx (v := x 3) hx sD6_closeHour_88 sF6_212 sGC18_0 (by decide) ((hO 3 (by omega)).trans g23) ?_
        refine sd_icmp_ge (tgt := 119) sD6_closeHour_91 (by decide) (fun zc91 => (by exfalso; omega)) (fun zc91 => ?_)
        refine sd_aload_n sD6_closeHour_94 rfl ?_
        refine sd_getfr sD6_closeHour_95 sF6_28 sGC53_3 ?_
        refine sd_getfr sD6_closeHour_98 sF6_201 sGC18_1 ?_
        refine sd_iload_n sD6_closeHour_101 rfl ?_
        refine sd_ialdx (a := (322 + zi83)) (v := (sd_tiL (sd_y2 x) (x 0 % 24) zi83) (322 + zi83)) hx sD6_closeHour_102 sAC14 (by omega) rfl ?_
        refine sd_iconst sD6_closeHour_103 (by decide) ?_
        refine sd_icmp_eq (tgt := 113) sD6_closeHour_104 (by decide) (fun zc104 => ?_) (fun zc104 => ?_)
        ·
          refine sd_iinc (y := ((zi83 : Int) + 1)) (ls' := [some (.inr 53), some (.inl (x 0 % 24)), some (.inl (sd_b (x 0 % 24 = 6 ∨ x 0 % 24 = 12 ∨ x 0 % 24 = 18))), some (.inl ((zi83 : Int) + 1))]) sD6_closeHour_113 rfl (by omega) (by omega) (by decide) rfl ?_
          refine sd_goto (tgt := 83) sD6_closeHour_116 (by decide) ?_
          exact sd_eqw (ls' := [some (.inr 53), some (.inl (x 0 % 24)), some (.inl (sd_b (x 0 % 24 = 6 ∨ x 0 % 24 = 12 ∨ x 0 % 24 = 18))), some (.inl ((zi83 + 1 : Nat) : Int))]) (ihzi83 m (by simp only [sd_tiL]; first | (rw [if_pos (by omega)]; exact hx) | (rw [if_neg (by omega)]; exact hx)) (by trivial)) (sd_cg rfl (sd_cg rfl (sd_cg rfl (sd_cg (sd_ce (show (((zi83 : Int) + 1) : Int) = ((zi83 + 1 : Nat) : Int) from by omega)) rfl)))) rfl
        ·
          refine sd_aload_n sD6_closeHour_107 rfl ?_
          refine sd_iload_n sD6_closeHour_108 rfl ?_
          refine sd_iload_n sD6_closeHour_109 rfl ?_
          refine sd_callV (as := [.inl (zi83 : Int), .inl (x 0 % 24)]) (st := []) sD6_closeHour_110 sM6_217 rfl rfl sOC53 rfl (by decide) (Nat.le_of_ble_eq_true rfl) (cC_tire zi83 (by omega) (x 0 % 24) _ m hx hJe (by omega)) (fun r m hq ho110 hm => ?_)
          obtain ⟨rfl, hx⟩ := hq
          show sd_Wp sd_SC 5 sY6_closeHour 113 [some (.inr 53), some (.inl (x 0 % 24)), some (.inl (sd_b (x 0 % 24 = 6 ∨ x 0 % 24 = 12 ∨ x 0 % 24 = 18))), some (.inl (zi83 : Int))] [] m _
          refine sd_iinc (y := ((zi83 : Int) + 1)) (ls' := [some (.inr 53), some (.inl (x 0 % 24)), some (.inl (sd_b (x 0 % 24 = 6 ∨ x 0 % 24 = 12 ∨ x 0 % 24 = 18))), some (.inl ((zi83 : Int) + 1))]) sD6_closeHour_113 rfl (by omega) (by omega) (by decide) rfl ?_
          refine sd_goto (tgt := 83) sD6_closeHour_116 (by decide) ?_
          exact sd_eqw (ls' := [some (.inr 53), some (.inl (x 0 % 24)), some (.inl (sd_b (x 0 % 24 = 6 ∨ x 0 % 24 = 12 ∨ x 0 % 24 = 18))), some (.inl ((zi83 + 1 : Nat) : Int))]) (ihzi83 m (by simp only [sd_tiL]; first | (rw [if_pos (by omega)]; exact hx) | (rw [if_neg (by omega)]; exact hx)) (by trivial)) (sd_cg rfl (sd_cg rfl (sd_cg rfl (sd_cg (sd_ce (show (((zi83 : Int) + 1) : Int) = ((zi83 + 1 : Nat) : Int) from by omega)) rfl)))) rfl
      ·
        show sd_Wp sd_SC 5 sY6_closeHour 83 [some (.inr 53), some (.inl (x 0 % 24)), some (.inl (sd_b (x 0 % 24 = 6 ∨ x 0 % 24 = 12 ∨ x 0 % 24 = 18))), some (.inl ((((x 3).toNat) : Nat) : Int))] [] m _
        obtain ⟨hJe, hO⟩ := sd_tiL_J hJ2 (x 0 % 24) (x 3).toNat (by omega)
        refine sd_iload_n sD6_closeHour_83 rfl ?_
        refine sd_aload_n sD6_closeHour_84 rfl ?_
        refine sd_getfr sD6_closeHour_85 sF6_28 sGC53_3 ?_
        refine sd_getfx (v := x 3) hx sD6_closeHour_88 sF6_212 sGC18_0 (by decide) ((hO 3 (by omega)).trans g23) ?_
        refine sd_icmp_ge (tgt := 119) sD6_closeHour_91 (by decide) (fun zc91 => ?_) (fun zc91 => (by exfalso; omega))
        replace hx : sd_ns (sd_y3 x) m := hx
        have h1 := hJ3.1
        have h2 := hJ3.2.1
        have h3 := hJ3.2.2.1
        have h4 := hJ3.2.2.2.1
        have h5 := hJ3.2.2.2.2.1
        have h6 := hJ3.2.2.2.2.2.1
        have h7 := hJ3.2.2.2.2.2.2.1
        have hR := hJ3.2.2.2.2.2.2.2.1
        have hI := hJ3.2.2.2.2.2.2.2.2.1
        have hL := hJ3.2.2.2.2.2.2.2.2.2
        refine sd_aload_n sD6_closeHour_119 rfl ?_
        refine sd_getfr sD6_closeHour_120 sF6_35 sGC53_4 ?_
        refine sd_aload_n sD6_closeHour_123 rfl ?_
        refine sd_aload_n sD6_closeHour_124 rfl ?_
        refine sd_callV (as := []) (st := [.inr 53, .inr 23]) sD6_closeHour_125 sM6_157 rfl rfl sOC53 rfl (by decide) (Nat.le_of_ble_eq_true rfl) (cC_makers _ m hx h1 h2 h4 h6 hR) (fun r m hq ho125 hm => ?_)
        obtain ⟨rfl, hx⟩ := hq
        show sd_Wp sd_SC 5 sY6_closeHour 128 [some (.inr 53), some (.inl (x 0 % 24)), some (.inl (sd_b (x 0 % 24 = 6 ∨ x 0 % 24 = 12 ∨ x 0 % 24 = 18))), some (.inl ((((x 3).toNat) : Nat) : Int))] [.inl (sd_mks (sd_y3 x)), .inr 53, .inr 23] m _
        refine sd_callV (as := [.inl (sd_mks (sd_y3 x))]) (st := [.inr 23]) sD6_closeHour_128 sM6_166 rfl rfl sOC53 rfl (by decide) (Nat.le_of_ble_eq_true rfl) (cC_madeBy (sd_mks (sd_y3 x)) _ m hx h1 h2 (sd_mks_A h1 h3 h2 (fun h hh hb => hb))) (fun r m hq ho128 hm => ?_)
        obtain ⟨rfl, hx, hmd128⟩ := hq
        show sd_Wp sd_SC 5 sY6_closeHour 131 [some (.inr 53), some (.inl (x 0 % 24)), some (.inl (sd_b (x 0 % 24 = 6 ∨ x 0 % 24 = 12 ∨ x 0 % 24 = 18))), some (.inl ((((x 3).toNat) : Nat) : Int))] [.inr 52, .inr 23] m _
        refine sd_callV (as := [.inr 52]) (st := []) sD6_closeHour_131 sM6_221 rfl rfl sOC23 rfl (by decide) (Nat.le_of_ble_eq_true rfl) (cC_wclose (sd_kN (sd_y3 x)) _ m hx h1 h5 (sd_mka_kr h1 h2 _) hmd128) (fun r m hq ho131 hm => ?_)
        obtain ⟨rfl, hx⟩ := hq
        replace hx : sd_ns (sd_y4 x) m := hx
        have i43 := h1.2.2.2.2.1
        have eS := sd_set_rng (sd_stW (sd_y3 x) (sd_kN (sd_y3 x)) (sd_stx (sd_y3 x))) (sd_y3 x 4).toNat (by omega)
        show sd_Wp sd_SC 5 sY6_closeHour 134 [some (.inr 53), some (.inl (x 0 % 24)), some (.inl (sd_b (x 0 % 24 = 6 ∨ x 0 % 24 = 12 ∨ x 0 % 24 = 18))), some (.inl ((((x 3).toNat) : Nat) : Int))] [.inl (sd_set (sd_stW (sd_y3 x) (sd_kN (sd_y3 x)) (sd_stx (sd_y3 x))) (sd_y3 x 4).toNat)] m _
        refine sd_istore_n (ls' := [some (.inr 53), some (.inl (x 0 % 24)), some (.inl (sd_b (x 0 % 24 = 6 ∨ x 0 % 24 = 12 ∨ x 0 % 24 = 18))), some (.inl (sd_set (sd_stW (sd_y3 x) (sd_kN (sd_y3 x)) (sd_stx (sd_y3 x))) (sd_y3 x 4).toNat))]) sD6_closeHour_134 (by decide) rfl ?_
        refine sd_iload_n sD6_closeHour_135 rfl ?_
        refine sd_bipush sD6_closeHour_136 rfl (by decide) ?_
        refine sd_icmp_ne (tgt := 153) sD6_closeHour_138 (by decide) (fun zc138 => ?_) (fun zc138 => ?_)
        ·
          replace hx : sd_ns (sd_y5 x) m := by unfold sd_y5; rw [if_neg (by omega)]; exact hx
          refine sd_aload_n sD6_closeHour_153 rfl ?_
          refine sd_getfr sD6_closeHour_154 sF6_21 sGC53_2 ?_
          refine sd_callV (as := []) (st := []) sD6_closeHour_157 sM6_228 rfl rfl sOC13 rfl (by decide) (Nat.le_of_ble_eq_true rfl) (cC_openW _ m hx) (fun r m hq ho157 hm => ?_)
          obtain ⟨rfl, hx⟩ := hq
          show sd_Wp sd_SC 5 sY6_closeHour 160 [some (.inr 53), some (.inl (x 0 % 24)), some (.inl (sd_b (x 0 % 24 = 6 ∨ x 0 % 24 = 12 ∨ x 0 % 24 = 18))), some (.inl (sd_set (sd_stW (sd_y3 x) (sd_kN (sd_y3 x)) (sd_stx (sd_y3 x))) (sd_y3 x 4).toNat))] [] m _
          refine sd_aload_n sD6_closeHour_160 rfl ?_
          refine sd_dup sD6_closeHour_161 ?_
          refine sd_getfx (v := x 0) hx sD6_closeHour_162 sF6_9 sGC53_0 (by decide) (by unfold sd_fil; rw [if_neg (by omega)]; exact g50) ?_
          refine sd_iconst sD6_closeHour_165 (by decide) ?_
          refine sd_iadd (z := (x 0 + 1)) sD6_closeHour_166 (by omega) (by omega) ?_
          refine sd_putfx sd_sokC sd_oneC hx sD6_closeHour_167 sF6_9 sGC53_0 (Or.inl rfl) (fun m hx em167 => ?_)
          refine sd_vreturn sD6_closeHour_170 rfl (fun hm => ?_)
          exact ⟨rfl, hx⟩
        ·
          refine sd_aload_n sD6_closeHour_141 rfl ?_
          refine sd_aload_n sD6_closeHour_142 rfl ?_
          refine sd_getfx (v := x 0) hx sD6_closeHour_143 sF6_9 sGC53_0 (by decide) g40 ?_
          refine sd_bipush sD6_closeHour_146 rfl (by decide) ?_
          refine sd_idiv (z := (x 0 / 24)) sD6_closeHour_148 (by decide) (by exact Int.tdiv_eq_ediv_of_nonneg (by omega)) (by omega) ?_
          refine sd_iload_n sD6_closeHour_149 rfl ?_
          refine sd_callV (as := [.inl (x 0 / 24), .inl (sd_set (sd_stW (sd_y3 x) (sd_kN (sd_y3 x)) (sd_stx (sd_y3 x))) (sd_y3 x 4).toNat)]) (st := []) sD6_closeHour_150 sM6_225 rfl rfl sOC53 rfl (by decide) (Nat.le_of_ble_eq_true rfl) (cC_pageI (x 0 / 24) (by omega) (sd_set (sd_stW (sd_y3 x) (sd_kN (sd_y3 x)) (sd_stx (sd_y3 x))) (sd_y3 x 4).toNat) eS _ m hx hJ4) (fun r m hq ho150 hm => ?_)
          obtain ⟨rfl, hx⟩ := hq
          rw [sd_ones_set _ _ (by omega)] at hx
          show sd_Wp sd_SC 5 sY6_closeHour 153 [some (.inr 53), some (.inl (x 0 % 24)), some (.inl (sd_b (x 0 % 24 = 6 ∨ x 0 % 24 = 12 ∨ x 0 % 24 = 18))), some (.inl (sd_set (sd_stW (sd_y3 x) (sd_kN (sd_y3 x)) (sd_stx (sd_y3 x))) (sd_y3 x 4).toNat))] [] m _
          replace hx : sd_ns (sd_y5 x) m := by unfold sd_y5; rw [if_pos (by omega)]; exact hx
          refine sd_aload_n sD6_closeHour_153 rfl ?_
          refine sd_getfr sD6_closeHour_154 sF6_21 sGC53_2 ?_
          refine sd_callV (as := []) (st := []) sD6_closeHour_157 sM6_228 rfl rfl sOC13 rfl (by decide) (Nat.le_of_ble_eq_true rfl) (cC_openW _ m hx) (fun r m hq ho157 hm => ?_)
          obtain ⟨rfl, hx⟩ := hq
          show sd_Wp sd_SC 5 sY6_closeHour 160 [some (.inr 53), some (.inl (x 0 % 24)), some (.inl (sd_b (x 0 % 24 = 6 ∨ x 0 % 24 = 12 ∨ x 0 % 24 = 18))), some (.inl (sd_set (sd_stW (sd_y3 x) (sd_kN (sd_y3 x)) (sd_stx (sd_y3 x))) (sd_y3 x 4).toNat))] [] m _
          refine sd_aload_n sD6_closeHour_160 rfl ?_
          refine sd_dup sD6_closeHour_161 ?_
          refine sd_getfx (v := x 0) hx sD6_closeHour_162 sF6_9 sGC53_0 (by decide) (by unfold sd_fil; rw [if_neg (by omega)]; exact g50) ?_
          refine sd_iconst sD6_closeHour_165 (by decide) ?_
          refine sd_iadd (z := (x 0 + 1)) sD6_closeHour_166 (by omega) (by omega) ?_
          refine sd_putfx sd_sokC sd_oneC hx sD6_closeHour_167 sF6_9 sGC53_0 (Or.inl rfl) (fun m hx em167 => ?_)
          refine sd_vreturn sD6_closeHour_170 rfl (fun hm => ?_)
          exact ⟨rfl, hx⟩
  ·
    refine sd_icmp_eq (tgt := 37) sD6_closeHour_22 (by decide) (fun zc22 => ?_) (fun zc22 => ?_)
    ·
      refine sd_iconst sD6_closeHour_37 (by decide) ?_
      refine sd_goto (tgt := 42) sD6_closeHour_38 (by decide) ?_
      exact K22 _ (by exact (sd_b1 (by omega)).symm)
    ·
      refine sd_iload_n sD6_closeHour_25 rfl ?_
      refine sd_bipush sD6_closeHour_26 rfl (by decide) ?_
      refine sd_icmp_eq (tgt := 37) sD6_closeHour_28 (by decide) (fun zc28 => ?_) (fun zc28 => ?_)
      ·
        refine sd_iconst sD6_closeHour_37 (by decide) ?_
        refine sd_goto (tgt := 42) sD6_closeHour_38 (by decide) ?_
        exact K22 _ (by exact (sd_b1 (by omega)).symm)
      ·
        refine sd_iload_n sD6_closeHour_31 rfl ?_
        refine sd_bipush sD6_closeHour_32 rfl (by decide) ?_
        refine sd_icmp_ne (tgt := 41) sD6_closeHour_34 (by decide) (fun zc34 => ?_) (fun zc34 => ?_)
        ·
          refine sd_iconst sD6_closeHour_41 (by decide) ?_
          exact K22 _ (by exact (sd_b0 (by omega)).symm)
        ·
          refine sd_iconst sD6_closeHour_37 (by decide) ?_
          refine sd_goto (tgt := 42) sD6_closeHour_38 (by decide) ?_
          exact K22 _ (by exact (sd_b1 (by omega)).symm)
