set_option maxHeartbeats 4000000 in
set_option maxRecDepth 100000 in
theorem lq_step {G : zw_G} {nm : String} {L κ σ i : Nat} {xs : Nat → Int32} {w : zw_W} (hL : L ≤ 1537) (hi : i ≤ 1540) (hI : lq_I w) (hκ : κ ≤ 100 + 2 * i) (hσ : σ ≤ 4000 + 22 * i) (nx : ∀ w2 κ2 σ2, i + 2 < L → lq_I w2 → κ2 ≤ κ + 2 → σ2 ≤ σ + 22 → lq_at G nm L xs κ2 σ2 28 (i + 3) w2) : lq_at G nm L xs κ σ 28 i w := by
  refine zr_iload_n dLaw_law_28 rfl ?_
  refine zr_aload_n dLaw_law_29 rfl rfl ?_
  refine zr_slen (fun s h => h.2) dLaw_law_30 ?_
  refine zr_iconst (v := nI 3) dLaw_law_31 (by decide) ?_
  refine zr_isub dLaw_law_32 ?_
  refine zr_icmp_gt (tgt := 503) dLaw_law_33 (by decide) (fun h33 => ?_) (fun h33 => ?_)
  · refine zr_iconst (v := nI 1) dLaw_law_503 (by decide) ?_
    exact lq_ret (by omega) (by omega) dLaw_law_504
  · have hi3 : i + 2 < L := by
      have h1 := pk_sub_toInt (a := L) (b := 3) (by omega) (by omega)
      have h0 := nI_toInt (n := i) (by omega)
      have h2 : ¬ (nI L - nI 3).toInt < (nI i).toInt := fun z => h33 (Int32.lt_iff_toInt_lt.mpr z)
      rw [h1, h0] at h2
      omega
    refine zr_aload_n dLaw_law_36 rfl rfl ?_
    refine zr_iload_n dLaw_law_37 rfl ?_
    refine zr_sld (fun s h => h.2) dLaw_law_38 (by omega) (by omega) ?_
    refine zr_bipush (v := nI 31) dLaw_law_39 (by decide) ?_
    refine zr_iand dLaw_law_41 ?_
    obtain ⟨j, hj, ej⟩ := pk_andE (xs i) (m := nI 31) 5 (by decide)
    refine zr_topI ej ?_
    have nx2 : ∀ w2 κ2 σ2, lq_I w2 → κ2 ≤ κ + 2 → σ2 ≤ σ + 22 → lq_at G nm L xs κ2 σ2 497 i w2 := by
      intro w2 κ2 σ2 h1 h2 h3
      refine zr_iinc (v := nI (i + 3)) dLaw_law_497 rfl (by rw [show Int32.ofInt 3 = nI 3 by decide]; exact nI_add i 3) (Nat.le_of_ble_eq_true rfl) ?_
      exact zr_goto (tgt := 28) dLaw_law_500 (by decide) (nx w2 κ2 σ2 hi3 h1 h2 h3)
    by_cases h16 : 16 < j
    · have tj : (nI j).toInt = (j : Int) := nI_toInt (by omega)
      exact zr_tableOut (tgt := 497) dLaw_law_42 (Or.inr (by rw [tj]; omega)) (by decide) (nx2 w κ σ hI (by omega) (by omega))
    have h17 : j = 0 ∨ j = 1 ∨ j = 2 ∨ j = 3 ∨ j = 4 ∨ j = 5 ∨ j = 6 ∨ j = 7 ∨ j = 8 ∨ j = 9 ∨ j = 10 ∨ j = 11 ∨ j = 12 ∨ j = 13 ∨ j = 14 ∨ j = 15 ∨ j = 16 := by omega
    clear ej hj h16
    rcases h17 with rfl | rfl | rfl | rfl | rfl | rfl | rfl | rfl | rfl | rfl | rfl | rfl | rfl | rfl | rfl | rfl | rfl
    · exact zr_tableIn (tgt := 124) dLaw_law_42 (by decide) (by decide) rfl (by decide) (lc_0 hI hi3 hL (by omega) (by omega) nx2)
    · exact zr_tableIn (tgt := 149) dLaw_law_42 (by decide) (by decide) rfl (by decide) (lc_1 hI hi3 hL (by omega) (by omega) nx2)
    · exact zr_tableIn (tgt := 162) dLaw_law_42 (by decide) (by decide) rfl (by decide) (lc_2 hI hi3 hL (by omega) (by omega) nx2)
    · exact zr_tableIn (tgt := 175) dLaw_law_42 (by decide) (by decide) rfl (by decide) (lc_3 hI hi3 hL (by omega) (by omega) nx2)
    · exact zr_tableIn (tgt := 208) dLaw_law_42 (by decide) (by decide) rfl (by decide) (lc_4 hI hi3 hL (by omega) (by omega) nx2)
    · exact zr_tableIn (tgt := 241) dLaw_law_42 (by decide) (by decide) rfl (by decide) (lc_5 hI hi3 hL (by omega) (by omega) nx2)
    · exact zr_tableIn (tgt := 264) dLaw_law_42 (by decide) (by decide) rfl (by decide) (lc_6 hI hi3 hL (by omega) (by omega) nx2)
    · exact zr_tableIn (tgt := 277) dLaw_law_42 (by decide) (by decide) rfl (by decide) (lc_7 hI hi3 hL (by omega) (by omega) nx2)
    · exact zr_tableIn (tgt := 300) dLaw_law_42 (by decide) (by decide) rfl (by decide) (lc_8 hI hi3 hL (by omega) (by omega) nx2)
    · exact zr_tableIn (tgt := 313) dLaw_law_42 (by decide) (by decide) rfl (by decide) (lc_9 hI hi3 hL (by omega) (by omega) nx2)
    · exact zr_tableIn (tgt := 336) dLaw_law_42 (by decide) (by decide) rfl (by decide) (lc_10 hI hi3 hL (by omega) (by omega) nx2)
    · exact zr_tableIn (tgt := 359) dLaw_law_42 (by decide) (by decide) rfl (by decide) (lc_11 hI hi3 hL (by omega) (by omega) nx2)
    · exact zr_tableIn (tgt := 392) dLaw_law_42 (by decide) (by decide) rfl (by decide) (lc_12 hI hi3 hL (by omega) (by omega) nx2)
    · exact zr_tableIn (tgt := 405) dLaw_law_42 (by decide) (by decide) rfl (by decide) (lc_13 hI hi3 hL (by omega) (by omega) nx2)
    · exact zr_tableIn (tgt := 428) dLaw_law_42 (by decide) (by decide) rfl (by decide) (lc_14 hI hi3 hL (by omega) (by omega) nx2)
    · exact zr_tableIn (tgt := 441) dLaw_law_42 (by decide) (by decide) rfl (by decide) (lc_15 hI hi3 hL (by omega) (by omega) nx2)
    · exact zr_tableIn (tgt := 464) dLaw_law_42 (by decide) (by decide) rfl (by decide) (lc_16 hI hi3 hL (by omega) (by omega) nx2)
theorem lq_loop {G : zw_G} {nm : String} {L : Nat} {xs : Nat → Int32} (hL : L ≤ 1537) : ∀ (n i κ σ : Nat) (w : zw_W), L ≤ i + n → i ≤ 1540 → lq_I w → κ ≤ 100 + 2 * i → σ ≤ 4000 + 22 * i → lq_at G nm L xs κ σ 28 i w := by
  intro n
  induction n with
  | zero => exact fun i κ σ w h1 h2 h3 h4 h5 => lq_step hL h2 h3 h4 h5 (fun w2 κ2 σ2 q1 q2 q3 q4 => absurd q1 (by omega))
  | succ n ih => exact fun i κ σ w h1 h2 h3 h4 h5 => lq_step hL h2 h3 h4 h5 (fun w2 κ2 σ2 q1 q2 q3 q4 => ih (i + 3) κ2 σ2 w2 (by omega) (by omega) q2 (by omega) (by omega))
