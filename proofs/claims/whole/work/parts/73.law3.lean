/-! The law's loop. -/
set_option maxRecDepth 100000 in
set_option maxHeartbeats 400000 in
theorem xl_loop (P : xw_T) {X : xf_C} {b N : Nat} {xs : Nat → Int32} (hN : N ≤ 3074) (hX : xf_ok X (xw_l P) xnR_LW xnc_LW_law 4 11 400 (xw_W P) (xw_D P) (xw_ty P)) (hB : xl_scr X b N xs) (hend : ∀ (i : Int32) (σ τ : xf_T), xf_V X 556 [some (.ref b), some (.ref (xw_a P 0)), some (.ref (xw_a P 100)), some (.int i)] [] (σ, τ)) : ∀ (r j : Nat) (σ τ : xf_T), N < 6 * r + j → j ≤ N + 6 → xr_R (xw_n P) (xw_w P) σ τ → xf_V X 38 [some (.ref b), some (.ref (xw_a P 0)), some (.ref (xw_a P 100)), some (.int (nI j))] [] (σ, τ) := by
  intro r
  induction r with
  | zero =>
    intro j σ τ hr hj hR
    refine xf_iload_n hX 39 rfl 3 xnd_LW_law_38 rfl rfl ?_
    refine xf_aload_n hX 40 rfl 0 xnd_LW_law_39 rfl rfl ?_
    refine xf_slen hX hB 41 rfl xnd_LW_law_40 ?_
    refine xf_bipush hX 43 rfl (6) xnd_LW_law_41 (by decide) ?_
    refine xf_isub hX 44 rfl xnd_LW_law_43 ?_
    refine xf_icmp_gt hX 47 rfl 556 xnd_LW_law_44 (by decide) (fun _ => ?_) (fun h => ?_)
    · exact hend _ _ _
    · have := xl_le hN (by omega) h
      omega
  | succ r ih =>
    intro j σ τ hr hj hR
    refine xf_iload_n hX 39 rfl 3 xnd_LW_law_38 rfl rfl ?_
    refine xf_aload_n hX 40 rfl 0 xnd_LW_law_39 rfl rfl ?_
    refine xf_slen hX hB 41 rfl xnd_LW_law_40 ?_
    refine xf_bipush hX 43 rfl (6) xnd_LW_law_41 (by decide) ?_
    refine xf_isub hX 44 rfl xnd_LW_law_43 ?_
    refine xf_icmp_gt hX 47 rfl 556 xnd_LW_law_44 (by decide) (fun _ => hend _ _ _) (fun h => ?_)
    have hj6 := xl_le hN (by omega) h
    have next : ∀ σ' τ' : xf_T, xr_R (xw_n P) (xw_w P) σ' τ' → xf_V X 550 [some (.ref b), some (.ref (xw_a P 0)), some (.ref (xw_a P 100)), some (.int (nI j))] [] (σ', τ') := by
      intro σ' τ' hR'
      refine xf_iinc hX 553 rfl (nI (j + 6)) xnd_LW_law_550 rfl (nI_add j 6) (by decide) ?_
      dsimp only [List.set]
      refine xf_goto hX 38 xnd_LW_law_553 (by decide) ?_
      exact ih (j + 6) σ' τ' (by omega) (by omega) hR'
    refine xf_aload_n hX 48 rfl 0 xnd_LW_law_47 rfl rfl ?_
    refine xf_iload_n hX 49 rfl 3 xnd_LW_law_48 rfl rfl ?_
    refine xf_sld hX hB 50 rfl j rfl (by omega) (by omega) xnd_LW_law_49 ?_
    refine xf_bipush hX 52 rfl (15) xnd_LW_law_50 (by decide) ?_
    refine xf_iand hX 53 rfl xnd_LW_law_52 ?_
    obtain ⟨t, ht, et⟩ : ∃ t, t < 16 ∧ xs j &&& 15 = nI t := pk_andE _ 4 (by decide)
    rw [et]
    rcases (show t = 0 ∨ t = 1 ∨ t = 2 ∨ t = 3 ∨ t = 4 ∨ t = 5 ∨ t = 6 ∨ t = 7 ∨ t = 8 ∨ t = 9 ∨ t = 10 ∨ t = 11 ∨ t = 12 ∨ t = 13 ∨ t = 14 ∨ t = 15 by omega) with rfl | rfl | rfl | rfl | rfl | rfl | rfl | rfl | rfl | rfl | rfl | rfl | rfl | rfl | rfl | rfl
    · refine xf_tabIn hX 132 xnd_LW_law_53 (by decide) (by decide) rfl (by decide) ?_
      exact xl_write P hN hj6 hX hB hR next
    · refine xf_tabIn hX 195 xnd_LW_law_53 (by decide) (by decide) rfl (by decide) ?_
      exact xl_work P hN hj6 hX hB hR next
    · refine xf_tabIn hX 218 xnd_LW_law_53 (by decide) (by decide) rfl (by decide) ?_
      exact xl_outcome P hN hj6 hX hB hR next
    · refine xf_tabIn hX 231 xnd_LW_law_53 (by decide) (by decide) rfl (by decide) ?_
      exact xl_get P hN hj6 hX hB hR next
    · refine xf_tabIn hX 264 xnd_LW_law_53 (by decide) (by decide) rfl (by decide) ?_
      exact xl_step P hN hj6 hX hB hR next
    · refine xf_tabIn hX 287 xnd_LW_law_53 (by decide) (by decide) rfl (by decide) ?_
      exact xl_state P hN hj6 hX hB hR next
    · refine xf_tabIn hX 310 xnd_LW_law_53 (by decide) (by decide) rfl (by decide) ?_
      exact xl_value P hN hj6 hX hB hR next
    · refine xf_tabIn hX 333 xnd_LW_law_53 (by decide) (by decide) rfl (by decide) ?_
      exact xl_token P hN hj6 hX hB hR next
    · refine xf_tabIn hX 356 xnd_LW_law_53 (by decide) (by decide) rfl (by decide) ?_
      exact xl_pass P hN hj6 hX hB hR next
    · refine xf_tabIn hX 379 xnd_LW_law_53 (by decide) (by decide) rfl (by decide) ?_
      exact xl_where P hN hj6 hX hB hR next
    · refine xf_tabIn hX 402 xnd_LW_law_53 (by decide) (by decide) rfl (by decide) ?_
      exact xl_at P hN hj6 hX hB hR next
    · refine xf_tabIn hX 425 xnd_LW_law_53 (by decide) (by decide) rfl (by decide) ?_
      exact xl_item P hN hj6 hX hB hR next
    · refine xf_tabIn hX 458 xnd_LW_law_53 (by decide) (by decide) rfl (by decide) ?_
      exact xl_used P hN hj6 hX hB hR next
    · refine xf_tabIn hX 481 xnd_LW_law_53 (by decide) (by decide) rfl (by decide) ?_
      exact xl_version P hN hj6 hX hB hR next
    · refine xf_tabIn hX 504 xnd_LW_law_53 (by decide) (by decide) rfl (by decide) ?_
      exact xl_hash P hN hj6 hX hB hR next
    · refine xf_tabIn hX 527 xnd_LW_law_53 (by decide) (by decide) rfl (by decide) ?_
      exact xl_count P hN hj6 hX hB hR next
