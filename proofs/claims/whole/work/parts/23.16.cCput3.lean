set_option maxRecDepth 100000 in
set_option maxHeartbeats 4000000 in
theorem cC_put3 (i v : Int) (x m : sd_M) (hx : sd_ns x m) (hi : 0 ≤ i ∧ i < 12) : sd_Ct sd_SC 0 sY5_put [.inr 115, .inl i, .inl v] m (fun r m' => r = some (.inl (x (8236 + i.toNat))) ∧ sd_ns (sd_up x (8236 + i.toNat) (sd_cnv (x 4253) v)) m') := by
  refine sd_ct rfl (Nat.le_of_ble_eq_true rfl) (fun hok hm => ?_)
  show sd_Wp sd_SC 0 sY5_put 0 [some (.inr 115), some (.inl i), some (.inl v), none] [] m _
  refine sd_aload_n sD5_put_0 rfl ?_
  refine sd_getfr sD5_put_1 sF5_18 sGC115_2 ?_
  refine sd_iload_n sD5_put_4 rfl ?_
  refine sd_ialdx (a := (8236 + i.toNat)) (v := x (8236 + i.toNat)) hx sD5_put_5 sAC114 (by omega) rfl ?_
  refine sd_istore_n (ls' := [some (.inr 115), some (.inl i), some (.inl v), some (.inl (x (8236 + i.toNat)))]) sD5_put_6 (by decide) rfl ?_
  refine sd_aload_n sD5_put_7 rfl ?_
  refine sd_getfx (v := x 4253) hx sD5_put_8 sF5_9 sGC115_0 (by decide) rfl ?_
  rcases (show x 4253 = 8 ∨ x 4253 = 16 ∨ (x 4253 ≠ 8 ∧ x 4253 ≠ 16) by omega) with zc11 | zc11 | zc11
  ·
    refine sd_lsw (off := 25) (tgt := 36) sD5_put_11 (by decide) (by rw [zc11]; decide) (by decide) ?_
    refine sd_aload_n sD5_put_36 rfl ?_
    refine sd_getfr sD5_put_37 sF5_18 sGC115_2 ?_
    refine sd_iload_n sD5_put_40 rfl ?_
    refine sd_iload_n sD5_put_41 rfl ?_
    refine sd_i2b sD5_put_42 ?_
    refine sd_iastx (a := (8236 + i.toNat)) sd_sokC hx sD5_put_43 sAC114 (by omega) (fun m hx em43 => ?_)
    refine sd_goto (tgt := 65) sD5_put_44 (by decide) ?_
    refine sd_iload_n sD5_put_65 rfl ?_
    refine sd_ireturn sD5_put_66 rfl (fun hr hm => ?_)
    exact ⟨rfl, sd_nseq (by intro j; unfold sd_cnv; first | (rw [if_pos (by omega)]; done) | (rw [if_neg (by omega), if_pos (by omega)]; done) | (rw [if_neg (by omega), if_neg (by omega)]; done)) hx⟩
  ·
    refine sd_lsw (off := 36) (tgt := 47) sD5_put_11 (by decide) (by rw [zc11]; decide) (by decide) ?_
    refine sd_aload_n sD5_put_47 rfl ?_
    refine sd_getfr sD5_put_48 sF5_18 sGC115_2 ?_
    refine sd_iload_n sD5_put_51 rfl ?_
    refine sd_iload_n sD5_put_52 rfl ?_
    refine sd_i2s sD5_put_53 ?_
    refine sd_iastx (a := (8236 + i.toNat)) sd_sokC hx sD5_put_54 sAC114 (by omega) (fun m hx em54 => ?_)
    refine sd_goto (tgt := 65) sD5_put_55 (by decide) ?_
    refine sd_iload_n sD5_put_65 rfl ?_
    refine sd_ireturn sD5_put_66 rfl (fun hr hm => ?_)
    exact ⟨rfl, sd_nseq (by intro j; unfold sd_cnv; first | (rw [if_pos (by omega)]; done) | (rw [if_neg (by omega), if_pos (by omega)]; done) | (rw [if_neg (by omega), if_neg (by omega)]; done)) hx⟩
  ·
    refine sd_lsw (off := 47) (tgt := 58) sD5_put_11 (by decide) (by simp [Op.lookupswitch.offset]; repeat (rw [if_neg (by omega)])) (by decide) ?_
    refine sd_aload_n sD5_put_58 rfl ?_
    refine sd_getfr sD5_put_59 sF5_18 sGC115_2 ?_
    refine sd_iload_n sD5_put_62 rfl ?_
    refine sd_iload_n sD5_put_63 rfl ?_
    refine sd_iastx (a := (8236 + i.toNat)) sd_sokC hx sD5_put_64 sAC114 (by omega) (fun m hx em64 => ?_)
    refine sd_iload_n sD5_put_65 rfl ?_
    refine sd_ireturn sD5_put_66 rfl (fun hr hm => ?_)
    exact ⟨rfl, sd_nseq (by intro j; unfold sd_cnv; first | (rw [if_pos (by omega)]; done) | (rw [if_neg (by omega), if_pos (by omega)]; done) | (rw [if_neg (by omega), if_neg (by omega)]; done)) hx⟩
