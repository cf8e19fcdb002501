set_option maxRecDepth 100000 in
set_option maxHeartbeats 4000000 in
theorem cC_rn (B : Nat → Int) (n p : Nat) (x m : sd_M) (hx : sd_ns x m) (hT : sd_TB x B n) (hp : m 5390 = (p : Int)) (hpn : p ≤ n) : sd_Ct sd_SC 1 sY7_readNumber [.inr 118] m (fun r m' => r = some (.inl (sd_nv B p (sd_dn B p))) ∧ sd_ns x m' ∧ m' 5390 = ((p + sd_dn B p : Nat) : Int)) := by
  refine sd_ct rfl (Nat.le_of_ble_eq_true rfl) (fun hok hm => ?_)
  have t1 := hT.1
  have t2 := hT.2.1
  show sd_Wp sd_SC 1 sY7_readNumber 0 [some (.inr 118), none, none] [] m _
  refine sd_iconst sD7_readNumber_0 (by decide) ?_
  refine sd_istore_n (ls' := [some (.inr 118), some (.inl (-1)), none]) sD7_readNumber_1 (by decide) rfl ?_
  refine sd_iconst sD7_readNumber_2 (by decide) ?_
  refine sd_istore_n (ls' := [some (.inr 118), some (.inl (-1)), some (.inl 0)]) sD7_readNumber_3 (by decide) rfl ?_
  refine sd_forX (3) (fun zi4 : Nat => [some (.inr 118), some (.inl (sd_nv B p zi4)), some (.inl (zi4 : Int))]) (fun zi4 : Nat => x) (fun (zi4 : Nat) (m : sd_M) => m 5390 = ((p + zi4 : Nat) : Int) ∧ ∀ j, j < zi4 → sd_dg (B (p + j))) (by rfl) (fun zi4 hizi4 m hx hpzi4 ihzi4 => ?_) (fun m hx hpzi4 => ?_) (by exact hx) (by exact ⟨hp, fun j hj => absurd hj (by omega)⟩)
  ·
    have e5 := sd_nv_rng hpzi4.2 (by omega)
    refine sd_iload_n sD7_readNumber_4 rfl ?_
    refine sd_iconst sD7_readNumber_5 (by decide) ?_
    refine sd_icmp_ge (tgt := 77) sD7_readNumber_6 (by decide) (fun zc6 => (by exfalso; omega)) (fun zc6 => ?_)
    refine sd_aload_n sD7_readNumber_9 rfl ?_
    refine sd_getfi sD7_readNumber_10 sF7_15 sGC118_1 ?_
    rw [show m 5390 = (((p + zi4) : Nat) : Int) from hpzi4.1]
    refine sd_aload_n sD7_readNumber_13 rfl ?_
    refine sd_getfx (v := x 4100) hx sD7_readNumber_14 sF7_9 sGC118_0 (by decide) rfl ?_
    refine sd_icmp_ge (tgt := 77) sD7_readNumber_17 (by decide) (fun zc17 => ?_) (fun zc17 => ?_)
    ·
      refine sd_iload_n sD7_readNumber_77 rfl ?_
      refine sd_ireturn sD7_readNumber_78 rfl (fun hr hm => ?_)
      have zd : sd_dn B p = zi4 := sd_dn_at hpzi4.2 (Or.inr ⟨by omega, fun q => by rcases Nat.lt_or_ge (p + zi4) n with q1 | q1; (have q2 := hT.2.2.1 (p + zi4) q1; omega); (have q2 := hT.2.2.2 (p + zi4) q1; omega)⟩)
      exact ⟨by rw [zd], hx, by rw [zd]; exact hpzi4.1⟩
    ·
      refine sd_aload_n sD7_readNumber_20 rfl ?_
      refine sd_getfr sD7_readNumber_21 sF7_18 sGC118_2 ?_
      refine sd_aload_n sD7_readNumber_24 rfl ?_
      refine sd_getfi sD7_readNumber_25 sF7_15 sGC118_1 ?_
      rw [show m 5390 = (((p + zi4) : Nat) : Int) from hpzi4.1]
      refine sd_ialdx (a := (4000 + (p + zi4))) (v := x (4000 + (p + zi4))) hx sD7_readNumber_28 sAC117 (by omega) rfl ?_
      refine sd_bipush sD7_readNumber_29 rfl (by decide) ?_
      refine sd_bipush sD7_readNumber_31 rfl (by decide) ?_
      refine sd_callNp (as := [.inl (x (4000 + (p + zi4))), .inl 48, .inl 57]) (st := []) (v := .inl (sd_b (48 ≤ x (4000 + (p + zi4)) ∧ x (4000 + (p + zi4)) ≤ 57))) sD7_readNumber_33 sM7_102 rfl rfl (by decide) (Nat.le_of_ble_eq_true rfl) (cC_isWithin (x (4000 + (p + zi4))) 48 57 m) (fun ho33 => ?_)
      refine sd_bif_eq (tgt := 77) sD7_readNumber_36 (by decide) (fun zc36 => ?_) (fun zc36 => ?_)
      ·
        refine sd_iload_n sD7_readNumber_77 rfl ?_
        refine sd_ireturn sD7_readNumber_78 rfl (fun hr hm => ?_)
        have zd : sd_dn B p = zi4 := sd_dn_at hpzi4.2 (Or.inr ⟨by omega, fun q => by rcases Nat.lt_or_ge (p + zi4) n with q1 | q1; (have q2 := hT.2.2.1 (p + zi4) q1; omega); (have q2 := hT.2.2.2 (p + zi4) q1; omega)⟩)
        exact ⟨by rw [zd], hx, by rw [zd]; exact hpzi4.1⟩
      ·
        refine sd_bipush sD7_readNumber_39 rfl (by decide) ?_
        refine sd_iconst sD7_readNumber_41 (by decide) ?_
        refine sd_iload_n sD7_readNumber_42 rfl ?_
        refine sd_mmax sD7_readNumber_43 sM7_106 (by decide) (Nat.le_of_ble_eq_true rfl) ?_
        refine sd_imul (z := (10 * (max 0 (sd_nv B p zi4)))) sD7_readNumber_46 (by omega) (by omega) ?_
        refine sd_aload_n sD7_readNumber_47 rfl ?_
        refine sd_getfr sD7_readNumber_48 sF7_18 sGC118_2 ?_
        refine sd_aload_n sD7_readNumber_51 rfl ?_
        refine sd_getfi sD7_readNumber_52 sF7_15 sGC118_1 ?_
        rw [show m 5390 = (((p + zi4) : Nat) : Int) from hpzi4.1]
        refine sd_ialdx (a := (4000 + (p + zi4))) (v := x (4000 + (p + zi4))) hx sD7_readNumber_55 sAC117 (by omega) rfl ?_
        refine sd_iadd (z := ((10 * (max 0 (sd_nv B p zi4))) + x (4000 + (p + zi4)))) sD7_readNumber_56 (by omega) (by omega) ?_
        refine sd_bipush sD7_readNumber_57 rfl (by decide) ?_
        refine sd_isub (z := (((10 * (max 0 (sd_nv B p zi4))) + x (4000 + (p + zi4))) - 48)) sD7_readNumber_59 (by omega) (by omega) ?_
        refine sd_istore_n (ls' := [some (.inr 118), some (.inl (((10 * (max 0 (sd_nv B p zi4))) + x (4000 + (p + zi4))) - 48)), some (.inl (zi4 : Int))]) sD7_readNumber_60 (by decide) rfl ?_
        refine sd_aload_n sD7_readNumber_61 rfl ?_
        refine sd_dup sD7_readNumber_62 ?_
        refine sd_getfi sD7_readNumber_63 sF7_15 sGC118_1 ?_
        rw [show m 5390 = (((p + zi4) : Nat) : Int) from hpzi4.1]
        refine sd_iconst sD7_readNumber_66 (by decide) ?_
        refine sd_iadd (z := ((((p + zi4) : Nat) : Int) + 1)) sD7_readNumber_67 (by omega) (by omega) ?_
        refine sd_putfc sd_sokC sd_oneC hx sD7_readNumber_68 sF7_15 sGC118_1 (by decide) (Or.inl rfl) (fun m hx em68 => ?_)
        have hpl68_1 : m 5390 = ((((p + zi4) + 1) : Nat) : Int) := by rw [em68]; unfold sd_up; rw [if_pos rfl]; (try omega)
        refine sd_iinc (y := ((zi4 : Int) + 1)) (ls' := [some (.inr 118), some (.inl (((10 * (max 0 (sd_nv B p zi4))) + x (4000 + (p + zi4))) - 48)), some (.inl ((zi4 : Int) + 1))]) sD7_readNumber_71 rfl (by omega) (by omega) (by decide) rfl ?_
        refine sd_goto (tgt := 4) sD7_readNumber_74 (by decide) ?_
        exact sd_eqw (ls' := [some (.inr 118), some (.inl (sd_nv B p (zi4 + 1))), some (.inl ((zi4 + 1 : Nat) : Int))]) (ihzi4 m (by exact hx) (by exact ⟨by have zz := hpl68_1; rw [zz]; congr 1, fun j hj => by by_cases q : j = zi4; (subst q; rw [← hT.2.2.1 _ (by omega)]; omega); exact hpzi4.2 j (by omega)⟩)) (sd_cg rfl (sd_cg (sd_ce (show ((((10 * (max 0 (sd_nv B p zi4))) + x (4000 + (p + zi4))) - 48) : Int) = sd_nv B p (zi4 + 1) from by simp only [sd_nv]; rw [← hT.2.2.1 (p + zi4) (by omega)])) (sd_cg (sd_ce (show (((zi4 : Int) + 1) : Int) = ((zi4 + 1 : Nat) : Int) from by omega)) rfl))) rfl
  ·
    show sd_Wp sd_SC 1 sY7_readNumber 4 [some (.inr 118), some (.inl (sd_nv B p 3)), some (.inl (3 : Int))] [] m _
    refine sd_iload_n sD7_readNumber_4 rfl ?_
    refine sd_iconst sD7_readNumber_5 (by decide) ?_
    refine sd_icmp_ge (tgt := 77) sD7_readNumber_6 (by decide) (fun zc6 => ?_) (fun zc6 => (by exfalso; omega))
    refine sd_iload_n sD7_readNumber_77 rfl ?_
    refine sd_ireturn sD7_readNumber_78 rfl (fun hr hm => ?_)
    have zd : sd_dn B p = 3 := sd_dn_at hpzi4.2 (Or.inl rfl)
    exact ⟨by rw [zd], hx, by rw [zd]; exact hpzi4.1⟩
