set_option maxHeartbeats 4000000 in
set_option maxRecDepth 100000 in
theorem lc_5 {G : zw_G} {nm : String} {L κ σ i : Nat} {xs : Nat → Int32} {w : zw_W} (hI : lq_I w) (hi : i + 2 < L) (hL : L ≤ 1537) (hκ : κ ≤ 5000) (hσ : σ ≤ 50000) (nx : ∀ w2 κ2 σ2, lq_I w2 → κ2 ≤ κ + 2 → σ2 ≤ σ + 22 → lq_at G nm L xs κ2 σ2 497 i w2) : lq_at G nm L xs κ σ 241 i w := by
  obtain ⟨n, len, m, cn, cw, wo, x, lb, li, lc, ln, dc1, dn1, dc2, dn2, tw, s1, s2, l1, l2, cu, co, wr, g1, g2, pl, ids, bl, fd, fe, tx, le, la, sz, wh, wt, ma, bk, lf, rt, fr, df1, df2, lff, D1, D2, LW, r, rfl, hn2, hn4, hlen, hx, hx16, htw, e1, e2, hm, hsum, hlb, h32, hids, hbl, hwh, hbk, e3, h10, hg12⟩ := hI
  have hw20 := wt_of_le x hlen
  have hwok := (wt_of_ok x len).2.1
  have hmm := lq_m hlb
  have hs10 : zs_size g1 32 ≤ 10 := by rw [zs_size_congr hg12]; exact h10 m (Nat.le_refl m)
  by_cases hz : zf_untrain g1 (wn_sum lb m) (xs (i + 1)) = 0
  · obtain ⟨j, hj, hje, hg, hfit⟩ := lq_ut0 hz
    obtain ⟨q, hq⟩ : ∃ q, g1 j = some q := by
      cases h : g1 j with
      | none => exact absurd h hg
      | some q => exact ⟨q, rfl⟩
    have hL1 := (lq_L0 (g1 := g1) (g2 := g2) (dc1 := dc1) (dc2 := dc2) hj)
    have hLj : le_2 (le_L g1 dc1) (le_L g2 dc2) j = dc1 j + 1 := by rw [le_2_lo hj]; unfold le_L; rw [if_neg hg]
    obtain ⟨k, rfl, hk1, hk2⟩ := ((e1 j hj).2.2.2 q hq).2.2.1
    have e3n := le_push (c := 0) (n := 0) (x := none) (f := fun _ => 0) (Wd := fun _ => []) (lab := 0) (cu := cu) e3 (Nat.zero_le 20) (fun _ => ⟨rfl, rfl⟩) (fun q hq => by cases hq)
    have e1n := le_up e1 e3n (Nat.lt_succ_self m) hj
    rw [show va_up pl m none m = none from if_pos rfl, show va_up lc m 0 m = 0 from if_pos rfl, show va_up ln m 0 m = 0 from if_pos rfl, show va_up lff m (fun _ => 0) m = (fun _ => 0) from if_pos rfl, show va_up LW m (fun _ => []) m = (fun _ => []) from if_pos rfl] at e1n
    have e2n : le_ok 32 32 r g2 dc2 dn2 df2 D2 (upd la j (upd wt m (nI 0) m)) (upd sz j (upd ma m (nI 0) m)) (va_cpy (va_cpy cu wr 0 (20 * m) 0) co (20 * m) (20 * j) 0) := le_to e2 (fun i hi => ⟨pk_un (by omega), pk_un (by omega)⟩) (fun i hi => pk_cpy_out (by omega))
    refine zr_aload_n dLaw_law_241 rfl rfl ?_
    refine zr_aload_n dLaw_law_242 rfl rfl ?_
    refine zr_iload_n dLaw_law_243 rfl ?_
    refine zr_iconst (v := nI 1) dLaw_law_244 (by decide) ?_
    refine zr_iaddN dLaw_law_245 ?_
    refine zr_sld (fun s h => h.2) dLaw_law_246 (by omega) (by omega) ?_
    refine zr_invV (show zw_Met G Y_WE_untrain 3 0 0 [.ref 1, .int (xs (i + 1))] _ _ from by rw [hje]; exact c_WE_untrain_ok (j := j) (c := dc1 j) (k := k) hsum hj hq hk1 hfit (by omega)) m_WE_untrain k_Law_44 v_WE_untrain rfl rfl dLaw_law_247 rfl (Nat.le_of_ble_eq_true rfl) ⟨by decide, by decide, by show κ + 0 ≤ 716553; omega, by show σ + 0 ≤ 6952589; omega⟩ (Nat.le_of_ble_eq_true rfl) rfl (fun v w2 hp => ?_)
    obtain ⟨rfl, rfl⟩ := hp
    refine ⟨rfl, ?_⟩
    refine zr_aload_n dLaw_law_250 rfl rfl ?_
    refine zr_aload_n dLaw_law_251 rfl rfl ?_
    refine zr_iload_n dLaw_law_252 rfl ?_
    refine zr_iconst (v := nI 1) dLaw_law_253 (by decide) ?_
    refine zr_iaddN dLaw_law_254 ?_
    refine zr_sld (fun s h => h.2) dLaw_law_255 (by omega) (by omega) ?_
    refine zr_invV (show zw_Met G Y_Mo_untrain 1 0 0 [.ref 26, .int (xs (i + 1))] _ _ from by rw [hje]; exact c_Mo_untrain_ok (le_hla e1 e2) hm hbk hsum hj (by omega) (by omega) (by omega)) m_Mo_untrain k_Law_48 v_Mo_untrain rfl rfl dLaw_law_256 rfl (Nat.le_of_ble_eq_true rfl) ⟨by decide, by decide, by show κ + 0 ≤ 716553; omega, by show σ + 0 ≤ 6952589; omega⟩ (Nat.le_of_ble_eq_true rfl) rfl (fun v w2 hp => ?_)
    obtain ⟨rfl, rfl⟩ := hp
    refine ⟨rfl, ?_⟩
    have heq : nI (dc1 j) = nI (le_2 (le_L g1 dc1) (le_L g2 dc2) j - 1) := by rw [hLj, Nat.add_sub_cancel]
    refine zr_icmp_eq (tgt := 497) dLaw_law_259 (by decide) (fun _ => ?_) (fun hne => absurd heq hne)
    exact nx _ _ _ ⟨n, len, (m + 1), cn, cw, wo, x, (va_up lb m 1), (va_up li m j), (va_up lc m 0), (va_up ln m 0), (va_up dc1 j 0), (va_up dn1 j 0), dc2, dn2, tw, s1, s2, l1, l2, cu, (va_cpy (va_cpy cu wr 0 (20 * m) 0) co (20 * m) (20 * j) 0), (va_cpy cu wr 0 (20 * m) 0), (va_up g1 j none), g2, (va_up pl m none), (upd ids m (nI j)), (upd bl m (nI 1)), fd, fe, tx, le, (upd la j (upd wt m (nI 0) m)), (upd sz j (upd ma m (nI 0) m)), (upd wh m (nI j)), (upd wt m (nI 0)), (upd ma m (nI 0)), (upd bk m (nI 1)), lf, rt, fr, (va_up df1 j (fun _ => 0)), df2, (va_up lff m (fun _ => 0)), (va_up D1 j (fun _ => [])), D2, (va_up LW m (fun _ => [])), r, (by rw [lq_sum]; first | done | rfl), hn2, hn4, hlen, hx, hx16, htw, e1n, e2n, (by omega), (by rw [lq_sum]; omega), (lq_upp (f := lb) (P := fun z => 1 ≤ z) hlb (by omega)), (lq_upp (f := li) (P := fun z => z < 32) h32 hj), (lq_upn hids rfl), (lq_upn hbl rfl), (lq_upn hwh rfl), (lq_upn hbk rfl), e3n, (lq_push_10 h10 (Nat.le_trans (zs_size_up.2 rfl) (h10 m (Nat.le_refl m)))), (lq_push_g hg12)⟩ (by omega) (by omega)
  · refine zr_aload_n dLaw_law_241 rfl rfl ?_
    refine zr_aload_n dLaw_law_242 rfl rfl ?_
    refine zr_iload_n dLaw_law_243 rfl ?_
    refine zr_iconst (v := nI 1) dLaw_law_244 (by decide) ?_
    refine zr_iaddN dLaw_law_245 ?_
    refine zr_sld (fun s h => h.2) dLaw_law_246 (by omega) (by omega) ?_
    refine zr_invV (c_WE_untrain_no hsum hz) m_WE_untrain k_Law_44 v_WE_untrain rfl rfl dLaw_law_247 rfl (Nat.le_of_ble_eq_true rfl) ⟨by decide, by decide, by show κ + 0 ≤ 716553; omega, by show σ + 0 ≤ 6952589; omega⟩ (Nat.le_of_ble_eq_true rfl) rfl (fun v w2 hp => ?_)
    obtain ⟨rfl, rfl⟩ := hp
    refine ⟨rfl, ?_⟩
    refine zr_aload_n dLaw_law_250 rfl rfl ?_
    refine zr_aload_n dLaw_law_251 rfl rfl ?_
    refine zr_iload_n dLaw_law_252 rfl ?_
    refine zr_iconst (v := nI 1) dLaw_law_253 (by decide) ?_
    refine zr_iaddN dLaw_law_254 ?_
    refine zr_sld (fun s h => h.2) dLaw_law_255 (by omega) (by omega) ?_
    refine zr_invV (c_Mo_untrain_no (le_hla e1 e2) hm hbk hsum (by rw [← lq_untrain hsum]; exact hz)) m_Mo_untrain k_Law_48 v_Mo_untrain rfl rfl dLaw_law_256 rfl (Nat.le_of_ble_eq_true rfl) ⟨by decide, by decide, by show κ + 0 ≤ 716553; omega, by show σ + 0 ≤ 6952589; omega⟩ (Nat.le_of_ble_eq_true rfl) rfl (fun v w2 hp => ?_)
    obtain ⟨rfl, rfl⟩ := hp
    refine ⟨rfl, ?_⟩
    have heq := lq_untrain (g1 := g1) (g2 := g2) (dc1 := dc1) (dc2 := dc2) (pb := wn_sum lb m) (id := (xs (i + 1))) hsum
    refine zr_icmp_eq (tgt := 497) dLaw_law_259 (by decide) (fun _ => ?_) (fun hne => absurd heq hne)
    exact nx _ _ _ ⟨n, len, m, cn, cw, wo, x, lb, li, lc, ln, dc1, dn1, dc2, dn2, tw, s1, s2, l1, l2, cu, co, wr, g1, g2, pl, ids, bl, fd, fe, tx, le, la, sz, wh, wt, ma, bk, lf, rt, fr, df1, df2, lff, D1, D2, LW, r, rfl, hn2, hn4, hlen, hx, hx16, htw, e1, e2, hm, hsum, hlb, h32, hids, hbl, hwh, hbk, e3, h10, hg12⟩ (by omega) (by omega)
