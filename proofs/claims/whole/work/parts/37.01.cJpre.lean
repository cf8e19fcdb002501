set_option maxRecDepth 100000 in
set_option maxHeartbeats 4000000 in
theorem cJ_pre (i k : Int) (m : sd_M) (hik : 0 ≤ i ∧ i < k) (w : Value) (hw : w.isRef = true) (d : Nat) (l : Launch) (g : sd_G) : Met l sYJ3_checkIndex_8e157.1 (sd_wy sYJ3_checkIndex_8e157) (sd_rm d) (fun v U => v = #[.int (Int32.ofInt i), .int (Int32.ofInt k), w] ∧ (sd_R i ∧ sd_R k) ∧ (∀ j, sd_R (m j)) ∧ va_P g.2.1 sd_cl (sd_ws sd_SC g m) U.heap ∧ sd_inj sd_SC g ∧ va_K g.2.1 sd_cl (sd_tys g) U ∧ sd_RO g (sd_A sd_SC g) U U.heap) (sd_Qc sd_SC g (fun r m' => r = some (.inl i) ∧ m' = m)) 0 0 (sd_A sd_SC g) := by
  have walk : (∀ j, sd_R (m j)) → sd_Wp sd_SC 0 sYJ3_checkIndex_8e157 0 [some (.inl i), some (.inl k), none] [] m (fun r m' => r = some (.inl i) ∧ m' = m) := by
    intro hm
    show sd_Wp sd_SC 0 sYJ3_checkIndex_8e157 0 [some (.inl i), some (.inl k), none] [] m _
    refine sd_iload_n sDJ3_checkIndex_8e157_0 rfl ?_
    refine sd_if_lt (tgt := 9) sDJ3_checkIndex_8e157_1 (by decide) (fun zc1 => (by exfalso; omega)) (fun zc1 => ?_)
    refine sd_iload_n sDJ3_checkIndex_8e157_4 rfl ?_
    refine sd_iload_n sDJ3_checkIndex_8e157_5 rfl ?_
    refine sd_icmp_lt (tgt := 16) sDJ3_checkIndex_8e157_6 (by decide) (fun zc6 => ?_) (fun zc6 => (by exfalso; omega))
    refine sd_iload_n sDJ3_checkIndex_8e157_16 rfl ?_
    refine sd_ireturn sDJ3_checkIndex_8e157_17 rfl (fun hr hm => ?_)
    exact ⟨rfl, rfl⟩
  have hcat : w.category = 1 := by
    cases w <;> first | rfl | cases hw
  have hsl : ∀ a b : Int32, (lg_sl [.int a, .int b, w]).length = 3 := by
    intro a b
    cases w <;> first | rfl | cases hw
  refine Met.ofW (cc := sYJ3_checkIndex_8e157.2.1) (maxL := 3) (ret := some .int) rfl rfl ?_
  intro p e s mi args below meth c s₁ B hml hv
  obtain ⟨rfl, ⟨hi, hk⟩, hm, hP, hin, hK, hRO⟩ := hv
  have hts0 := atoms_spec (ws := sd_wy sYJ3_checkIndex_8e157) B.pre
  have hown : s.vm.findClass sYJ3_checkIndex_8e157.1.cls = some mi.cls := findClass_of_methodNamed B.named
  have hF : sd_F sd_SC g sYJ3_checkIndex_8e157 p s mi #[.int (Int32.ofInt i), .int (Int32.ofInt k), w] meth c := ⟨B.exec, B.bytes, hml, hown, fun w hw => hts0 w (List.mem_cons_of_mem _ hw), B.returns, B.notSynchronized, hin, hK, hRO⟩
  have hl0 := lv_entry [.int (Int32.ofInt i), .int (Int32.ofInt k), w] (n := 3) (by rw [hsl]; exact Nat.le_refl 3)
  rw [lg_entry_eq]
  refine walk hm d g p l e s mi _ below meth c s.heap [] _ (Nat.zero_le _) hF hP hm va_S.rf ⟨⟨hl0.1, hl0.2.1, ?_⟩, rfl, ?_⟩ (fun v hv => by cases hv)
  · rintro ⟨q, z⟩ hq
    obtain ⟨v, h1, rfl⟩ := sd_lvmem.mp hq
    apply hl0.2.2
    rcases q with _ | _ | _ | q
    · simp at h1; subst h1; simp [lv_args, sd_cv, Value.category]
    · simp at h1; subst h1; simp [lv_args, sd_cv, Value.category]
    · simp at h1
    · simp at h1
  · intro v hv
    simp at hv
    rcases hv with rfl | rfl
    · exact hi
    · exact hk
