set_option maxRecDepth 100000 in
set_option maxHeartbeats 4000000 in
theorem cC_takeF (w : Nat) (hw : w < 6) (r : Nat → Int) (x m0 m : sd_M) (hK : sd_kF 5030 5036 m0 m) (hx : sd_ns x m) (h5 : sd_I5 x) (hrr : sd_rr r) (hr : ∀ p, p < 6 → m (5030 + p) = r p) : sd_Ct sd_SC 0 sY9_takeNeed [.inr 23, .inl (w : Int), .inr 22] m (fun q m' => q = none ∧ sd_kF 5030 5036 m0 m' ∧ ∀ p, p < 6 → m' (5030 + p) = sd_tk x w r p) := by
  refine sd_ct rfl (Nat.le_of_ble_eq_true rfl) (fun hok hm => ?_)
  show sd_Wp sd_SC 0 sY9_takeNeed 0 [some (.inr 23), some (.inl (w : Int)), some (.inr 22), none] [] m _
  refine sd_iconst sD9_takeNeed_0 (by decide) ?_
  refine sd_istore_n (ls' := [some (.inr 23), some (.inl (w : Int)), some (.inr 22), some (.inl 0)]) sD9_takeNeed_1 (by decide) rfl ?_
  refine sd_forX (6) (fun zi2 : Nat => [some (.inr 23), some (.inl (w : Int)), some (.inr 22), some (.inl (zi2 : Int))]) (fun zi2 : Nat => x) (fun (zi2 : Nat) (m : sd_M) => sd_kF 5030 5036 m0 m ∧ ∀ p, p < 6 → m (5030 + p) = sd_pt r (sd_tk x w r) zi2 p) (by rfl) (fun zi2 hizi2 m hx hpzi2 ihzi2 => ?_) (fun m hx hpzi2 => ?_) (by exact hx) (by exact ⟨hK, fun p hp => by unfold sd_pt; rw [if_neg (by omega)]; exact hr p hp⟩)
  ·
    have e1 := hrr zi2 (by omega)
    have e2 := h5.2 (6 * w + zi2) (by omega)
    refine sd_iload_n sD9_takeNeed_2 rfl ?_
    refine sd_bipush sD9_takeNeed_3 rfl (by decide) ?_
    refine sd_icmp_ge (tgt := 31) sD9_takeNeed_5 (by decide) (fun zc5 => (by exfalso; omega)) (fun zc5 => ?_)
    refine sd_aload_n sD9_takeNeed_8 rfl ?_
    refine sd_iload_n sD9_takeNeed_9 rfl ?_
    refine sd_dup2 sD9_takeNeed_10 ?_
    refine sd_iald (a := (5030 + zi2)) sD9_takeNeed_11 sAC22 (by omega) ?_
    rw [show m (5030 + zi2) = r zi2 from (by rw [hpzi2.2 zi2 (by omega)]; unfold sd_pt; rw [if_neg (by omega)])]
    refine sd_aload_n sD9_takeNeed_12 rfl ?_
    refine sd_getfr sD9_takeNeed_13 sF9_22 sGC23_3 ?_
    refine sd_iload_n sD9_takeNeed_16 rfl ?_
    refine sd_bipush sD9_takeNeed_17 rfl (by decide) ?_
    refine sd_imul (z := ((w : Int) * 6)) sD9_takeNeed_19 (by omega) (by omega) ?_
    refine sd_iload_n sD9_takeNeed_20 rfl ?_
    refine sd_iadd (z := (((w : Int) * 6) + (zi2 : Int))) sD9_takeNeed_21 (by omega) (by omega) ?_
    refine sd_ialdx (a := (392 + (6 * w + zi2))) (v := x (392 + (6 * w + zi2))) hx sD9_takeNeed_22 sAC20 (by omega) rfl ?_
    refine sd_isub (z := (r zi2 - (x (392 + (6 * w + zi2))))) sD9_takeNeed_23 (by omega) (by omega) ?_
    refine sd_iastc (a := (5030 + zi2)) sd_sokC hx sD9_takeNeed_24 sAC22 (by omega) (fun m hx em24 => ?_)
    refine sd_iinc (y := ((zi2 : Int) + 1)) (ls' := [some (.inr 23), some (.inl (w : Int)), some (.inr 22), some (.inl ((zi2 : Int) + 1))]) sD9_takeNeed_25 rfl (by omega) (by omega) (by decide) rfl ?_
    refine sd_goto (tgt := 2) sD9_takeNeed_28 (by decide) ?_
    exact sd_eqw (ls' := [some (.inr 23), some (.inl (w : Int)), some (.inr 22), some (.inl ((zi2 + 1 : Nat) : Int))]) (ihzi2 m (by exact hx) (by exact ⟨hpzi2.1.tr (sd_kF.up em24 (by omega)), sd_row_F hpzi2.2 em24 (by unfold sd_pt sd_tk; rw [if_pos (by omega)]) (fun g hg hn => by unfold sd_pt; first | (rw [sd_itec (show g < zi2 + 1 ↔ g < zi2 by omega)]))⟩)) (sd_cg rfl (sd_cg rfl (sd_cg rfl (sd_cg (sd_ce (show (((zi2 : Int) + 1) : Int) = ((zi2 + 1 : Nat) : Int) from by omega)) rfl)))) rfl
  ·
    show sd_Wp sd_SC 0 sY9_takeNeed 2 [some (.inr 23), some (.inl (w : Int)), some (.inr 22), some (.inl (6 : Int))] [] m _
    refine sd_iload_n sD9_takeNeed_2 rfl ?_
    refine sd_bipush sD9_takeNeed_3 rfl (by decide) ?_
    refine sd_icmp_ge (tgt := 31) sD9_takeNeed_5 (by decide) (fun zc5 => ?_) (fun zc5 => (by exfalso; omega))
    refine sd_vreturn sD9_takeNeed_31 rfl (fun hm => ?_)
    exact ⟨rfl, hpzi2.1, fun p hp => by rw [hpzi2.2 p hp]; unfold sd_pt; rw [if_pos hp]⟩
