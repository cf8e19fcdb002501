theorem sd_clD {x : sd_M} {M : Int} {h A : Nat} {v c : Int} (hA6 : A < 6) (hA : x (34 + h) = (A : Int)) (hb : sd_bit M h) (hv : v = min 9999 (sd_ad (sd_md x M h) (sd_stx x) A + x (58 + h))) (hr : 0 ≤ sd_stx x A ∧ sd_stx x A ≤ 9999) (hs : 0 ≤ sd_md x M h A) (hx : 0 ≤ x (58 + h)) : ∀ j, sd_up (sd_rc x (sd_ad (sd_md x M h) (sd_stx x)) c) (386 + A) v j = sd_rc x (sd_ad (sd_md x M (h + 1)) (sd_stx x)) c j := by
  have e : ∀ q, sd_md x M (h + 1) q = sd_md x M h q + sd_fmk x M q h := fun q => rfl
  refine sd_rc_st hA6 ?_ (fun p hp hn => ?_)
  · have f : sd_fmk x M A h = x (58 + h) := by unfold sd_fmk; rw [if_pos ⟨hb, hA⟩]
    have e2 := e A
    rw [hv]
    unfold sd_ad
    rw [e2, f]
    omega
  · have f : sd_fmk x M p h = 0 := by unfold sd_fmk; rw [if_neg (fun q => by have := q.2; omega)]
    have e2 := e p
    unfold sd_ad
    rw [e2, f]
    omega
theorem sd_clD0 {x : sd_M} {M : Int} {h : Nat} {c : Int} (hb : ¬ sd_bit M h) : ∀ j, sd_rc x (sd_ad (sd_md x M h) (sd_stx x)) c j = sd_rc x (sd_ad (sd_md x M (h + 1)) (sd_stx x)) c j := by
  refine sd_rc_cong (fun p hp => ?_)
  have e : sd_md x M (h + 1) p = sd_md x M h p + sd_fmk x M p h := rfl
  have f : sd_fmk x M p h = 0 := by unfold sd_fmk; rw [if_neg (fun q => hb q.1)]
  unfold sd_ad
  rw [e, f]
  omega
