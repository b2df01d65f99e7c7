set_option maxHeartbeats 4000000 in
set_option maxRecDepth 100000 in
theorem lc_1 {G : zw_G} {nm : String} {L κ σ i : Nat} {xs : Nat → Int32} {w : zw_W} (hI : lq_I w) (hi : i + 2 < L) (hL : L ≤ 1537) (hκ : κ ≤ 5000) (hσ : σ ≤ 50000) (nx : ∀ w2 κ2 σ2, lq_I w2 → κ2 ≤ κ + 2 → σ2 ≤ σ + 22 → lq_at G nm L xs κ2 σ2 497 i w2) : lq_at G nm L xs κ σ 149 i w := by
  obtain ⟨n, len, m, cn, cw, wo, x, lb, li, lc, ln, dc1, dn1, dc2, dn2, tw, s1, s2, l1, l2, cu, co, wr, g1, g2, pl, ids, bl, fd, fe, tx, le, la, sz, wh, wt, ma, bk, lf, rt, fr, df1, df2, lff, D1, D2, LW, r, rfl, hn2, hn4, hlen, hx, hx16, htw, e1, e2, hm, hsum, hlb, h32, hids, hbl, hwh, hbk, e3, h10, hg12⟩ := hI
  have hw20 := wt_of_le x hlen
  have hwok := (wt_of_ok x len).2.1
  have hs10 : zs_size g1 32 ≤ 10 := by rw [zs_size_congr hg12]; exact h10 m (Nat.le_refl m)
  refine zr_aload_n dLaw_law_149 rfl rfl ?_
  refine zr_invV c_WE_clear m_WE_clear k_Law_26 v_WE_clear rfl rfl dLaw_law_150 rfl (Nat.le_of_ble_eq_true rfl) ⟨by decide, by decide, by show κ + 0 ≤ 716553; omega, by show σ + 0 ≤ 6952589; omega⟩ (Nat.le_of_ble_eq_true rfl) rfl (fun v w2 hp => ?_)
  obtain ⟨rfl, rfl⟩ := hp
  refine ⟨rfl, ?_⟩
  refine zr_aload_n dLaw_law_153 rfl rfl ?_
  refine zr_invV c_Mo_clear m_Mo_clear k_Law_30 v_Mo_clear rfl rfl dLaw_law_154 rfl (Nat.le_of_ble_eq_true rfl) ⟨by decide, by decide, by show κ + 0 ≤ 716553; omega, by show σ + 0 ≤ 6952589; omega⟩ (Nat.le_of_ble_eq_true rfl) rfl (fun v w2 hp => ?_)
  obtain ⟨rfl, rfl⟩ := hp
  refine ⟨rfl, ?_⟩
  have heq : nI len = nI len := rfl
  refine zr_icmp_eq (tgt := 497) dLaw_law_157 (by decide) (fun _ => ?_) (fun hne => absurd heq hne)
  exact nx _ _ _ ⟨n, 0, m, cn, cw, wo, x, lb, li, lc, ln, dc1, dn1, dc2, dn2, tw, s1, s2, l1, l2, cu, co, wr, g1, g2, pl, ids, bl, fd, fe, tx, le, la, sz, wh, wt, ma, bk, lf, rt, fr, df1, df2, lff, D1, D2, LW, r, rfl, hn2, hn4, Nat.zero_le 40, (fun i hi => absurd hi (Nat.not_lt_zero i)), (fun i hi => absurd hi (Nat.not_lt_zero i)), (fun i hi => absurd hi (Nat.not_lt_zero i)), e1, e2, hm, hsum, hlb, h32, hids, hbl, hwh, hbk, e3, h10, hg12⟩ (by omega) (by omega)
set_option maxHeartbeats 4000000 in
set_option maxRecDepth 100000 in
theorem lc_2 {G : zw_G} {nm : String} {L κ σ i : Nat} {xs : Nat → Int32} {w : zw_W} (hI : lq_I w) (hi : i + 2 < L) (hL : L ≤ 1537) (hκ : κ ≤ 5000) (hσ : σ ≤ 50000) (nx : ∀ w2 κ2 σ2, lq_I w2 → κ2 ≤ κ + 2 → σ2 ≤ σ + 22 → lq_at G nm L xs κ2 σ2 497 i w2) : lq_at G nm L xs κ σ 162 i w := by
  obtain ⟨n, len, m, cn, cw, wo, x, lb, li, lc, ln, dc1, dn1, dc2, dn2, tw, s1, s2, l1, l2, cu, co, wr, g1, g2, pl, ids, bl, fd, fe, tx, le, la, sz, wh, wt, ma, bk, lf, rt, fr, df1, df2, lff, D1, D2, LW, r, rfl, hn2, hn4, hlen, hx, hx16, htw, e1, e2, hm, hsum, hlb, h32, hids, hbl, hwh, hbk, e3, h10, hg12⟩ := hI
  have hw20 := wt_of_le x hlen
  have hwok := (wt_of_ok x len).2.1
  have hs10 : zs_size g1 32 ≤ 10 := by rw [zs_size_congr hg12]; exact h10 m (Nat.le_refl m)
  refine zr_aload_n dLaw_law_162 rfl rfl ?_
  refine zr_invV c_WE_words m_WE_words k_Law_31 v_WE_words rfl rfl dLaw_law_163 rfl (Nat.le_of_ble_eq_true rfl) ⟨by decide, by decide, by show κ + 0 ≤ 716553; omega, by show σ + 0 ≤ 6952589; omega⟩ (Nat.le_of_ble_eq_true rfl) rfl (fun v w2 hp => ?_)
  obtain ⟨rfl, rfl⟩ := hp
  refine ⟨rfl, ?_⟩
  refine zr_aload_n dLaw_law_166 rfl rfl ?_
  refine zr_invV (c_Mo_words hlen hx hx16) m_Mo_words k_Law_34 v_Mo_words rfl rfl dLaw_law_167 rfl (Nat.le_of_ble_eq_true rfl) ⟨by decide, by decide, by show κ + 0 ≤ 716553; omega, by show σ + 0 ≤ 6952589; omega⟩ (Nat.le_of_ble_eq_true rfl) rfl (fun v w2 hp => ?_)
  obtain ⟨rfl, wo2, cu2, le2, rfl⟩ := hp
  refine ⟨rfl, ?_⟩
  have heq : nI (wt_of x len).1 = nI (wt_of x len).1 := rfl
  refine zr_icmp_eq (tgt := 497) dLaw_law_170 (by decide) (fun _ => ?_) (fun hne => absurd heq hne)
  exact nx _ _ _ ⟨n, len, m, cn, cw, wo2, x, lb, li, lc, ln, dc1, dn1, dc2, dn2, tw, s1, s2, l1, l2, cu2, co, wr, g1, g2, pl, ids, bl, fd, fe, tx, le2, la, sz, wh, wt, ma, bk, lf, rt, fr, df1, df2, lff, D1, D2, LW, r, rfl, hn2, hn4, hlen, hx, hx16, htw, e1, e2, hm, hsum, hlb, h32, hids, hbl, hwh, hbk, e3, h10, hg12⟩ (by omega) (by omega)
set_option maxHeartbeats 4000000 in
set_option maxRecDepth 100000 in
theorem lc_3 {G : zw_G} {nm : String} {L κ σ i : Nat} {xs : Nat → Int32} {w : zw_W} (hI : lq_I w) (hi : i + 2 < L) (hL : L ≤ 1537) (hκ : κ ≤ 5000) (hσ : σ ≤ 50000) (nx : ∀ w2 κ2 σ2, lq_I w2 → κ2 ≤ κ + 2 → σ2 ≤ σ + 22 → lq_at G nm L xs κ2 σ2 497 i w2) : lq_at G nm L xs κ σ 175 i w := by
  obtain ⟨n, len, m, cn, cw, wo, x, lb, li, lc, ln, dc1, dn1, dc2, dn2, tw, s1, s2, l1, l2, cu, co, wr, g1, g2, pl, ids, bl, fd, fe, tx, le, la, sz, wh, wt, ma, bk, lf, rt, fr, df1, df2, lff, D1, D2, LW, r, rfl, hn2, hn4, hlen, hx, hx16, htw, e1, e2, hm, hsum, hlb, h32, hids, hbl, hwh, hbk, e3, h10, hg12⟩ := hI
  have hw20 := wt_of_le x hlen
  have hwok := (wt_of_ok x len).2.1
  have hs10 : zs_size g1 32 ≤ 10 := by rw [zs_size_congr hg12]; exact h10 m (Nat.le_refl m)
  refine zr_aload_n dLaw_law_175 rfl rfl ?_
  refine zr_aload_n dLaw_law_176 rfl rfl ?_
  refine zr_iload_n dLaw_law_177 rfl ?_
  refine zr_iconst (v := nI 1) dLaw_law_178 (by decide) ?_
  refine zr_iaddN dLaw_law_179 ?_
  refine zr_sld (fun s h => h.2) dLaw_law_180 (by omega) (by omega) ?_
  refine zr_aload_n dLaw_law_181 rfl rfl ?_
  refine zr_iload_n dLaw_law_182 rfl ?_
  refine zr_iconst (v := nI 2) dLaw_law_183 (by decide) ?_
  refine zr_iaddN dLaw_law_184 ?_
  refine zr_sld (fun s h => h.2) dLaw_law_185 (by omega) (by omega) ?_
  refine zr_invV (c_WE_letter (X := fun j => we_a ((wt_of x len).2.1 j)) hw20 (fun j hj => ⟨htw j hj, we_a_lt2 _ (fun q hq => ((hwok j hj).2.2 q hq).2) (hwok j hj).2.1⟩)) m_WE_letter k_Law_35 v_WE_letter rfl rfl dLaw_law_186 rfl (Nat.le_of_ble_eq_true rfl) ⟨by decide, by decide, by show κ + 0 ≤ 716553; omega, by show σ + 0 ≤ 6952589; omega⟩ (Nat.le_of_ble_eq_true rfl) rfl (fun v w2 hp => ?_)
  obtain ⟨rfl, rfl⟩ := hp
  refine ⟨rfl, ?_⟩
  refine zr_aload_n dLaw_law_189 rfl rfl ?_
  refine zr_aload_n dLaw_law_190 rfl rfl ?_
  refine zr_iload_n dLaw_law_191 rfl ?_
  refine zr_iconst (v := nI 1) dLaw_law_192 (by decide) ?_
  refine zr_iaddN dLaw_law_193 ?_
  refine zr_sld (fun s h => h.2) dLaw_law_194 (by omega) (by omega) ?_
  refine zr_aload_n dLaw_law_195 rfl rfl ?_
  refine zr_iload_n dLaw_law_196 rfl ?_
  refine zr_iconst (v := nI 2) dLaw_law_197 (by decide) ?_
  refine zr_iaddN dLaw_law_198 ?_
  refine zr_sld (fun s h => h.2) dLaw_law_199 (by omega) (by omega) ?_
  refine zr_invV (c_Mo_letter hlen hx hx16) m_Mo_letter k_Law_39 v_Mo_letter rfl rfl dLaw_law_200 rfl (Nat.le_of_ble_eq_true rfl) ⟨by decide, by decide, by show κ + 0 ≤ 716553; omega, by show σ + 0 ≤ 6952589; omega⟩ (Nat.le_of_ble_eq_true rfl) rfl (fun v w2 hp => ?_)
  obtain ⟨rfl, wo2, cu2, le2, rfl⟩ := hp
  refine ⟨rfl, ?_⟩
  have heq := lq_letter (k := xs (i + 1)) (i := xs (i + 2)) hw20 hwok
  refine zr_icmp_eq (tgt := 497) dLaw_law_203 (by decide) (fun _ => ?_) (fun hne => absurd heq hne)
  exact nx _ _ _ ⟨n, len, m, cn, cw, wo2, x, lb, li, lc, ln, dc1, dn1, dc2, dn2, tw, s1, s2, l1, l2, cu2, co, wr, g1, g2, pl, ids, bl, fd, fe, tx, le2, la, sz, wh, wt, ma, bk, lf, rt, fr, df1, df2, lff, D1, D2, LW, r, rfl, hn2, hn4, hlen, hx, hx16, htw, e1, e2, hm, hsum, hlb, h32, hids, hbl, hwh, hbk, e3, h10, hg12⟩ (by omega) (by omega)
set_option maxHeartbeats 4000000 in
set_option maxRecDepth 100000 in
theorem lc_8 {G : zw_G} {nm : String} {L κ σ i : Nat} {xs : Nat → Int32} {w : zw_W} (hI : lq_I w) (hi : i + 2 < L) (hL : L ≤ 1537) (hκ : κ ≤ 5000) (hσ : σ ≤ 50000) (nx : ∀ w2 κ2 σ2, lq_I w2 → κ2 ≤ κ + 2 → σ2 ≤ σ + 22 → lq_at G nm L xs κ2 σ2 497 i w2) : lq_at G nm L xs κ σ 300 i w := by
  obtain ⟨n, len, m, cn, cw, wo, x, lb, li, lc, ln, dc1, dn1, dc2, dn2, tw, s1, s2, l1, l2, cu, co, wr, g1, g2, pl, ids, bl, fd, fe, tx, le, la, sz, wh, wt, ma, bk, lf, rt, fr, df1, df2, lff, D1, D2, LW, r, rfl, hn2, hn4, hlen, hx, hx16, htw, e1, e2, hm, hsum, hlb, h32, hids, hbl, hwh, hbk, e3, h10, hg12⟩ := hI
  have hw20 := wt_of_le x hlen
  have hwok := (wt_of_ok x len).2.1
  have hs10 : zs_size g1 32 ≤ 10 := by rw [zs_size_congr hg12]; exact h10 m (Nat.le_refl m)
  refine zr_aload_n dLaw_law_300 rfl rfl ?_
  refine zr_invV c_WE_pending m_WE_pending k_Law_57 v_WE_pending rfl rfl dLaw_law_301 rfl (Nat.le_of_ble_eq_true rfl) ⟨by decide, by decide, by show κ + 0 ≤ 716553; omega, by show σ + 0 ≤ 6952589; omega⟩ (Nat.le_of_ble_eq_true rfl) rfl (fun v w2 hp => ?_)
  obtain ⟨rfl, rfl⟩ := hp
  refine ⟨rfl, ?_⟩
  refine zr_aload_n dLaw_law_304 rfl rfl ?_
  refine zr_invV (c_Mo_pending hm hbk) m_Mo_pending k_Law_60 v_Mo_pending rfl rfl dLaw_law_305 rfl (Nat.le_of_ble_eq_true rfl) ⟨by decide, by decide, by show κ + 0 ≤ 716553; omega, by show σ + 0 ≤ 6952589; omega⟩ (Nat.le_of_ble_eq_true rfl) rfl (fun v w2 hp => ?_)
  obtain ⟨rfl, rfl⟩ := hp
  refine ⟨rfl, ?_⟩
  have heq : nI (wn_sum lb m) = nI (wn_sum lb m) := rfl
  refine zr_icmp_eq (tgt := 497) dLaw_law_308 (by decide) (fun _ => ?_) (fun hne => absurd heq hne)
  exact nx _ _ _ ⟨n, len, m, cn, cw, wo, x, lb, li, lc, ln, dc1, dn1, dc2, dn2, tw, s1, s2, l1, l2, cu, co, wr, g1, g2, pl, ids, bl, fd, fe, tx, le, la, sz, wh, wt, ma, bk, lf, rt, fr, df1, df2, lff, D1, D2, LW, r, rfl, hn2, hn4, hlen, hx, hx16, htw, e1, e2, hm, hsum, hlb, h32, hids, hbl, hwh, hbk, e3, h10, hg12⟩ (by omega) (by omega)
set_option maxHeartbeats 4000000 in
set_option maxRecDepth 100000 in
theorem lc_9 {G : zw_G} {nm : String} {L κ σ i : Nat} {xs : Nat → Int32} {w : zw_W} (hI : lq_I w) (hi : i + 2 < L) (hL : L ≤ 1537) (hκ : κ ≤ 5000) (hσ : σ ≤ 50000) (nx : ∀ w2 κ2 σ2, lq_I w2 → κ2 ≤ κ + 2 → σ2 ≤ σ + 22 → lq_at G nm L xs κ2 σ2 497 i w2) : lq_at G nm L xs κ σ 313 i w := by
  obtain ⟨n, len, m, cn, cw, wo, x, lb, li, lc, ln, dc1, dn1, dc2, dn2, tw, s1, s2, l1, l2, cu, co, wr, g1, g2, pl, ids, bl, fd, fe, tx, le, la, sz, wh, wt, ma, bk, lf, rt, fr, df1, df2, lff, D1, D2, LW, r, rfl, hn2, hn4, hlen, hx, hx16, htw, e1, e2, hm, hsum, hlb, h32, hids, hbl, hwh, hbk, e3, h10, hg12⟩ := hI
  have hw20 := wt_of_le x hlen
  have hwok := (wt_of_ok x len).2.1
  have hs10 : zs_size g1 32 ≤ 10 := by rw [zs_size_congr hg12]; exact h10 m (Nat.le_refl m)
  by_cases ha : xs (i + 1) = -1
  · have hv : zf_docs n g1 dc1 (xs (i + 1)) = nI (zs_size g1 32) := if_pos ha
    refine zr_aload_n dLaw_law_313 rfl rfl ?_
    refine zr_aload_n dLaw_law_314 rfl rfl ?_
    refine zr_iload_n dLaw_law_315 rfl ?_
    refine zr_iconst (v := nI 1) dLaw_law_316 (by decide) ?_
    refine zr_iaddN dLaw_law_317 ?_
    refine zr_sld (fun s h => h.2) dLaw_law_318 (by omega) (by omega) ?_
    refine zr_invV (c_WE_documents hn4 (le_okR14 e1)) m_WE_documents k_Law_61 v_WE_documents rfl rfl dLaw_law_319 rfl (Nat.le_of_ble_eq_true rfl) ⟨by decide, by decide, by show κ + 0 ≤ 716553; omega, by show σ + 0 ≤ 6952589; omega⟩ (Nat.le_of_ble_eq_true rfl) rfl (fun v w2 hp => ?_)
    obtain ⟨rfl, rfl⟩ := hp
    refine ⟨rfl, ?_⟩
    refine zr_aload_n dLaw_law_322 rfl rfl ?_
    refine zr_aload_n dLaw_law_323 rfl rfl ?_
    refine zr_iload_n dLaw_law_324 rfl ?_
    refine zr_iconst (v := nI 1) dLaw_law_325 (by decide) ?_
    refine zr_iaddN dLaw_law_326 ?_
    refine zr_sld (fun s h => h.2) dLaw_law_327 (by omega) (by omega) ?_
    refine zr_invV (show zw_Met G Y_Mo_documents 0 0 0 [.ref 26, .int (xs (i + 1))] _ _ from by rw [ha]; exact c_Mo_docs_all (le_hla e1 e2) hn4) m_Mo_documents k_Law_64 v_Mo_documents rfl rfl dLaw_law_328 rfl (Nat.le_of_ble_eq_true rfl) ⟨by decide, by decide, by show κ + 0 ≤ 716553; omega, by show σ + 0 ≤ 6952589; omega⟩ (Nat.le_of_ble_eq_true rfl) rfl (fun v w2 hp => ?_)
    obtain ⟨rfl, rfl⟩ := hp
    refine ⟨rfl, ?_⟩
    have heq : zf_docs n g1 dc1 (xs (i + 1)) = nI (mo_size (le_2 (le_L g1 dc1) (le_L g2 dc2)) 32) := by rw [hv, le_size]
    refine zr_icmp_eq (tgt := 497) dLaw_law_331 (by decide) (fun _ => ?_) (fun hne => absurd heq hne)
    exact nx _ _ _ ⟨n, len, m, cn, cw, wo, x, lb, li, lc, ln, dc1, dn1, dc2, dn2, tw, s1, s2, l1, l2, cu, co, wr, g1, g2, pl, ids, bl, fd, fe, tx, le, la, sz, wh, wt, ma, bk, lf, rt, fr, df1, df2, lff, D1, D2, LW, r, rfl, hn2, hn4, hlen, hx, hx16, htw, e1, e2, hm, hsum, hlb, h32, hids, hbl, hwh, hbk, e3, h10, hg12⟩ (by omega) (by omega)
  · by_cases hb : ¬ xs (i + 1) < 0 ∧ xs (i + 1) < nI n
    · obtain ⟨jc, hjc, hje⟩ := zf_rng (by omega) hb.1 hb.2
      have hv : zf_docs n g1 dc1 (xs (i + 1)) = nI (zc_D g1 dc1 jc) := (if_neg ha).trans ((if_pos hb).trans (by rw [hje, nI_clamp (by omega)]))
      refine zr_aload_n dLaw_law_313 rfl rfl ?_
      refine zr_aload_n dLaw_law_314 rfl rfl ?_
      refine zr_iload_n dLaw_law_315 rfl ?_
      refine zr_iconst (v := nI 1) dLaw_law_316 (by decide) ?_
      refine zr_iaddN dLaw_law_317 ?_
      refine zr_sld (fun s h => h.2) dLaw_law_318 (by omega) (by omega) ?_
      refine zr_invV (c_WE_documents hn4 (le_okR14 e1)) m_WE_documents k_Law_61 v_WE_documents rfl rfl dLaw_law_319 rfl (Nat.le_of_ble_eq_true rfl) ⟨by decide, by decide, by show κ + 0 ≤ 716553; omega, by show σ + 0 ≤ 6952589; omega⟩ (Nat.le_of_ble_eq_true rfl) rfl (fun v w2 hp => ?_)
      obtain ⟨rfl, rfl⟩ := hp
      refine ⟨rfl, ?_⟩
      refine zr_aload_n dLaw_law_322 rfl rfl ?_
      refine zr_aload_n dLaw_law_323 rfl rfl ?_
      refine zr_iload_n dLaw_law_324 rfl ?_
      refine zr_iconst (v := nI 1) dLaw_law_325 (by decide) ?_
      refine zr_iaddN dLaw_law_326 ?_
      refine zr_sld (fun s h => h.2) dLaw_law_327 (by omega) (by omega) ?_
      refine zr_invV (show zw_Met G Y_Mo_documents 0 0 0 [.ref 26, .int (xs (i + 1))] _ _ from by rw [hje]; exact c_Mo_docs_of (le_hla e1 e2) hn4 hjc) m_Mo_documents k_Law_64 v_Mo_documents rfl rfl dLaw_law_328 rfl (Nat.le_of_ble_eq_true rfl) ⟨by decide, by decide, by show κ + 0 ≤ 716553; omega, by show σ + 0 ≤ 6952589; omega⟩ (Nat.le_of_ble_eq_true rfl) rfl (fun v w2 hp => ?_)
      obtain ⟨rfl, rfl⟩ := hp
      refine ⟨rfl, ?_⟩
      have heq : zf_docs n g1 dc1 (xs (i + 1)) = nI (mo_sum (le_2 (le_L g1 dc1) (le_L g2 dc2)) jc (fun _ => 1) 32) := by rw [hv]; exact congrArg nI (le_sum (fun _ _ _ => rfl)).symm
      refine zr_icmp_eq (tgt := 497) dLaw_law_331 (by decide) (fun _ => ?_) (fun hne => absurd heq hne)
      exact nx _ _ _ ⟨n, len, m, cn, cw, wo, x, lb, li, lc, ln, dc1, dn1, dc2, dn2, tw, s1, s2, l1, l2, cu, co, wr, g1, g2, pl, ids, bl, fd, fe, tx, le, la, sz, wh, wt, ma, bk, lf, rt, fr, df1, df2, lff, D1, D2, LW, r, rfl, hn2, hn4, hlen, hx, hx16, htw, e1, e2, hm, hsum, hlb, h32, hids, hbl, hwh, hbk, e3, h10, hg12⟩ (by omega) (by omega)
    · have hv : zf_docs n g1 dc1 (xs (i + 1)) = -1 := (if_neg ha).trans (if_neg hb)
      have hout : xs (i + 1) < -1 ∨ ¬ xs (i + 1) < nI n := by
        by_cases h0 : xs (i + 1) < 0
        · exact Or.inl (lq_lt1 h0 ha)
        · exact Or.inr (fun z => hb ⟨h0, z⟩)
      refine zr_aload_n dLaw_law_313 rfl rfl ?_
      refine zr_aload_n dLaw_law_314 rfl rfl ?_
      refine zr_iload_n dLaw_law_315 rfl ?_
      refine zr_iconst (v := nI 1) dLaw_law_316 (by decide) ?_
      refine zr_iaddN dLaw_law_317 ?_
      refine zr_sld (fun s h => h.2) dLaw_law_318 (by omega) (by omega) ?_
      refine zr_invV (c_WE_documents hn4 (le_okR14 e1)) m_WE_documents k_Law_61 v_WE_documents rfl rfl dLaw_law_319 rfl (Nat.le_of_ble_eq_true rfl) ⟨by decide, by decide, by show κ + 0 ≤ 716553; omega, by show σ + 0 ≤ 6952589; omega⟩ (Nat.le_of_ble_eq_true rfl) rfl (fun v w2 hp => ?_)
      obtain ⟨rfl, rfl⟩ := hp
      refine ⟨rfl, ?_⟩
      refine zr_aload_n dLaw_law_322 rfl rfl ?_
      refine zr_aload_n dLaw_law_323 rfl rfl ?_
      refine zr_iload_n dLaw_law_324 rfl ?_
      refine zr_iconst (v := nI 1) dLaw_law_325 (by decide) ?_
      refine zr_iaddN dLaw_law_326 ?_
      refine zr_sld (fun s h => h.2) dLaw_law_327 (by omega) (by omega) ?_
      refine zr_invV (c_Mo_docs_no hout) m_Mo_documents k_Law_64 v_Mo_documents rfl rfl dLaw_law_328 rfl (Nat.le_of_ble_eq_true rfl) ⟨by decide, by decide, by show κ + 0 ≤ 716553; omega, by show σ + 0 ≤ 6952589; omega⟩ (Nat.le_of_ble_eq_true rfl) rfl (fun v w2 hp => ?_)
      obtain ⟨rfl, rfl⟩ := hp
      refine ⟨rfl, ?_⟩
      have heq : zf_docs n g1 dc1 (xs (i + 1)) = -1 := hv
      refine zr_icmp_eq (tgt := 497) dLaw_law_331 (by decide) (fun _ => ?_) (fun hne => absurd heq hne)
      exact nx _ _ _ ⟨n, len, m, cn, cw, wo, x, lb, li, lc, ln, dc1, dn1, dc2, dn2, tw, s1, s2, l1, l2, cu, co, wr, g1, g2, pl, ids, bl, fd, fe, tx, le, la, sz, wh, wt, ma, bk, lf, rt, fr, df1, df2, lff, D1, D2, LW, r, rfl, hn2, hn4, hlen, hx, hx16, htw, e1, e2, hm, hsum, hlb, h32, hids, hbl, hwh, hbk, e3, h10, hg12⟩ (by omega) (by omega)
set_option maxHeartbeats 4000000 in
set_option maxRecDepth 100000 in
theorem lc_10 {G : zw_G} {nm : String} {L κ σ i : Nat} {xs : Nat → Int32} {w : zw_W} (hI : lq_I w) (hi : i + 2 < L) (hL : L ≤ 1537) (hκ : κ ≤ 5000) (hσ : σ ≤ 50000) (nx : ∀ w2 κ2 σ2, lq_I w2 → κ2 ≤ κ + 2 → σ2 ≤ σ + 22 → lq_at G nm L xs κ2 σ2 497 i w2) : lq_at G nm L xs κ σ 336 i w := by
  obtain ⟨n, len, m, cn, cw, wo, x, lb, li, lc, ln, dc1, dn1, dc2, dn2, tw, s1, s2, l1, l2, cu, co, wr, g1, g2, pl, ids, bl, fd, fe, tx, le, la, sz, wh, wt, ma, bk, lf, rt, fr, df1, df2, lff, D1, D2, LW, r, rfl, hn2, hn4, hlen, hx, hx16, htw, e1, e2, hm, hsum, hlb, h32, hids, hbl, hwh, hbk, e3, h10, hg12⟩ := hI
  have hw20 := wt_of_le x hlen
  have hwok := (wt_of_ok x len).2.1
  have hs10 : zs_size g1 32 ≤ 10 := by rw [zs_size_congr hg12]; exact h10 m (Nat.le_refl m)
  refine zr_aload_n dLaw_law_336 rfl rfl ?_
  refine zr_aload_n dLaw_law_337 rfl rfl ?_
  refine zr_iload_n dLaw_law_338 rfl ?_
  refine zr_iconst (v := nI 1) dLaw_law_339 (by decide) ?_
  refine zr_iaddN dLaw_law_340 ?_
  refine zr_sld (fun s h => h.2) dLaw_law_341 (by omega) (by omega) ?_
  refine zr_invV (c_WE_total hn4 (le_okR14 e1)) m_WE_total k_Law_65 v_WE_total rfl rfl dLaw_law_342 rfl (Nat.le_of_ble_eq_true rfl) ⟨by decide, by decide, by show κ + 0 ≤ 716553; omega, by show σ + 0 ≤ 6952589; omega⟩ (Nat.le_of_ble_eq_true rfl) rfl (fun v w2 hp => ?_)
  obtain ⟨rfl, rfl⟩ := hp
  refine ⟨rfl, ?_⟩
  refine zr_aload_n dLaw_law_345 rfl rfl ?_
  refine zr_aload_n dLaw_law_346 rfl rfl ?_
  refine zr_iload_n dLaw_law_347 rfl ?_
  refine zr_iconst (v := nI 1) dLaw_law_348 (by decide) ?_
  refine zr_iaddN dLaw_law_349 ?_
  refine zr_sld (fun s h => h.2) dLaw_law_350 (by omega) (by omega) ?_
  refine zr_invV (c_Mo_total (le_hla e1 e2) (le_hsz e1 e2) hn4) m_Mo_total k_Law_68 v_Mo_total rfl rfl dLaw_law_351 rfl (Nat.le_of_ble_eq_true rfl) ⟨by decide, by decide, by show κ + 0 ≤ 716553; omega, by show σ + 0 ≤ 6952589; omega⟩ (Nat.le_of_ble_eq_true rfl) rfl (fun v w2 hp => ?_)
  obtain ⟨rfl, rfl⟩ := hp
  refine ⟨rfl, ?_⟩
  have heq : zf_total n g1 dc1 dn1 (xs (i + 1)) = mo_total n (le_2 (le_L g1 dc1) (le_L g2 dc2)) (le_2 dn1 dn2) (xs (i + 1)) := by
    unfold zf_total mo_total
    rw [le_sum (v2 := dn1) (fun id hid _ => le_2_lo hid)]
  refine zr_icmp_eq (tgt := 497) dLaw_law_354 (by decide) (fun _ => ?_) (fun hne => absurd heq hne)
  exact nx _ _ _ ⟨n, len, m, cn, cw, wo, x, lb, li, lc, ln, dc1, dn1, dc2, dn2, tw, s1, s2, l1, l2, cu, co, wr, g1, g2, pl, ids, bl, fd, fe, tx, le, la, sz, wh, wt, ma, bk, lf, rt, fr, df1, df2, lff, D1, D2, LW, r, rfl, hn2, hn4, hlen, hx, hx16, htw, e1, e2, hm, hsum, hlb, h32, hids, hbl, hwh, hbk, e3, h10, hg12⟩ (by omega) (by omega)
set_option maxHeartbeats 4000000 in
set_option maxRecDepth 100000 in
theorem lc_11 {G : zw_G} {nm : String} {L κ σ i : Nat} {xs : Nat → Int32} {w : zw_W} (hI : lq_I w) (hi : i + 2 < L) (hL : L ≤ 1537) (hκ : κ ≤ 5000) (hσ : σ ≤ 50000) (nx : ∀ w2 κ2 σ2, lq_I w2 → κ2 ≤ κ + 2 → σ2 ≤ σ + 22 → lq_at G nm L xs κ2 σ2 497 i w2) : lq_at G nm L xs κ σ 359 i w := by
  obtain ⟨n, len, m, cn, cw, wo, x, lb, li, lc, ln, dc1, dn1, dc2, dn2, tw, s1, s2, l1, l2, cu, co, wr, g1, g2, pl, ids, bl, fd, fe, tx, le, la, sz, wh, wt, ma, bk, lf, rt, fr, df1, df2, lff, D1, D2, LW, r, rfl, hn2, hn4, hlen, hx, hx16, htw, e1, e2, hm, hsum, hlb, h32, hids, hbl, hwh, hbk, e3, h10, hg12⟩ := hI
  have hw20 := wt_of_le x hlen
  have hwok := (wt_of_ok x len).2.1
  have hs10 : zs_size g1 32 ≤ 10 := by rw [zs_size_congr hg12]; exact h10 m (Nat.le_refl m)
  refine zr_aload_n dLaw_law_359 rfl rfl ?_
  refine zr_aload_n dLaw_law_360 rfl rfl ?_
  refine zr_iload_n dLaw_law_361 rfl ?_
  refine zr_iconst (v := nI 1) dLaw_law_362 (by decide) ?_
  refine zr_iaddN dLaw_law_363 ?_
  refine zr_sld (fun s h => h.2) dLaw_law_364 (by omega) (by omega) ?_
  refine zr_aload_n dLaw_law_365 rfl rfl ?_
  refine zr_iload_n dLaw_law_366 rfl ?_
  refine zr_iconst (v := nI 2) dLaw_law_367 (by decide) ?_
  refine zr_iaddN dLaw_law_368 ?_
  refine zr_sld (fun s h => h.2) dLaw_law_369 (by omega) (by omega) ?_
  refine zr_invV (c_WE_count hn4 hw20 (le_okR14 e1)) m_WE_count k_Law_69 v_WE_count rfl rfl dLaw_law_370 rfl (Nat.le_of_ble_eq_true rfl) ⟨by decide, by decide, by show κ + 0 ≤ 716553; omega, by show σ + 0 ≤ 6952589; omega⟩ (Nat.le_of_ble_eq_true rfl) rfl (fun v w2 hp => ?_)
  obtain ⟨rfl, rfl⟩ := hp
  refine ⟨rfl, ?_⟩
  refine zr_aload_n dLaw_law_373 rfl rfl ?_
  refine zr_aload_n dLaw_law_374 rfl rfl ?_
  refine zr_iload_n dLaw_law_375 rfl ?_
  refine zr_iconst (v := nI 1) dLaw_law_376 (by decide) ?_
  refine zr_iaddN dLaw_law_377 ?_
  refine zr_sld (fun s h => h.2) dLaw_law_378 (by omega) (by omega) ?_
  refine zr_aload_n dLaw_law_379 rfl rfl ?_
  refine zr_iload_n dLaw_law_380 rfl ?_
  refine zr_iconst (v := nI 2) dLaw_law_381 (by decide) ?_
  refine zr_iaddN dLaw_law_382 ?_
  refine zr_sld (fun s h => h.2) dLaw_law_383 (by omega) (by omega) ?_
  refine zr_invV (c_Mo_count (le_hla e1 e2) (le_hsz e1 e2) hlen hx hx16 hn4) m_Mo_count k_Law_72 v_Mo_count rfl rfl dLaw_law_384 rfl (Nat.le_of_ble_eq_true rfl) ⟨by decide, by decide, by show κ + 0 ≤ 716553; omega, by show σ + 0 ≤ 6952589; omega⟩ (Nat.le_of_ble_eq_true rfl) rfl (fun v w2 hp => ?_)
  obtain ⟨rfl, wo2, cu2, le2, rfl⟩ := hp
  refine ⟨rfl, ?_⟩
  have heq : zf_count n (wt_of x len).1 g1 dc1 dn1 df1 tw (xs (i + 1)) (xs (i + 2)) = mo_count n (le_2 (le_L g1 dc1) (le_L g2 dc2)) (le_2 dn1 dn2) co (wt_of x len) (xs (i + 1)) (xs (i + 2)) := by
    unfold zf_count mo_count
    by_cases hb : (¬ xs (i + 1) < 0 ∧ xs (i + 1) < nI n) ∧ (¬ xs (i + 2) < 0 ∧ xs (i + 2) < nI (wt_of x len).1)
    · rw [if_pos hb, if_pos hb]
      obtain ⟨jk, hjk, hje⟩ := zf_rng (by omega) hb.2.1 hb.2.2
      rw [hje, nI_clamp (by omega), le_often e1 (hwok jk hjk), htw jk hjk]
    · rw [if_neg hb, if_neg hb]
  refine zr_icmp_eq (tgt := 497) dLaw_law_387 (by decide) (fun _ => ?_) (fun hne => absurd heq hne)
  exact nx _ _ _ ⟨n, len, m, cn, cw, wo2, x, lb, li, lc, ln, dc1, dn1, dc2, dn2, tw, s1, s2, l1, l2, cu2, co, wr, g1, g2, pl, ids, bl, fd, fe, tx, le2, la, sz, wh, wt, ma, bk, lf, rt, fr, df1, df2, lff, D1, D2, LW, r, rfl, hn2, hn4, hlen, hx, hx16, htw, e1, e2, hm, hsum, hlb, h32, hids, hbl, hwh, hbk, e3, h10, hg12⟩ (by omega) (by omega)
set_option maxHeartbeats 4000000 in
set_option maxRecDepth 100000 in
theorem lc_12 {G : zw_G} {nm : String} {L κ σ i : Nat} {xs : Nat → Int32} {w : zw_W} (hI : lq_I w) (hi : i + 2 < L) (hL : L ≤ 1537) (hκ : κ ≤ 5000) (hσ : σ ≤ 50000) (nx : ∀ w2 κ2 σ2, lq_I w2 → κ2 ≤ κ + 2 → σ2 ≤ σ + 22 → lq_at G nm L xs κ2 σ2 497 i w2) : lq_at G nm L xs κ σ 392 i w := by
  obtain ⟨n, len, m, cn, cw, wo, x, lb, li, lc, ln, dc1, dn1, dc2, dn2, tw, s1, s2, l1, l2, cu, co, wr, g1, g2, pl, ids, bl, fd, fe, tx, le, la, sz, wh, wt, ma, bk, lf, rt, fr, df1, df2, lff, D1, D2, LW, r, rfl, hn2, hn4, hlen, hx, hx16, htw, e1, e2, hm, hsum, hlb, h32, hids, hbl, hwh, hbk, e3, h10, hg12⟩ := hI
  have hw20 := wt_of_le x hlen
  have hwok := (wt_of_ok x len).2.1
  have hs10 : zs_size g1 32 ≤ 10 := by rw [zs_size_congr hg12]; exact h10 m (Nat.le_refl m)
  refine zr_aload_n dLaw_law_392 rfl rfl ?_
  refine zr_invV (c_WE_vocabulary (le_okR14 e1) (zf_bounds (dc := dc1) (df := df1) hs10 (fun i hi _ => (e1 i hi).2.1)).1) m_WE_vocabulary k_Law_73 v_WE_vocabulary rfl rfl dLaw_law_393 rfl (Nat.le_of_ble_eq_true rfl) ⟨by decide, by decide, by show κ + 0 ≤ 716553; omega, by show σ + 0 ≤ 6952589; omega⟩ (Nat.le_of_ble_eq_true rfl) rfl (fun v w2 hp => ?_)
  obtain ⟨rfl, s3, rfl⟩ := hp
  refine ⟨rfl, ?_⟩
  refine zr_aload_n dLaw_law_396 rfl rfl ?_
  refine zr_invV (c_Mo_vocabulary (le_hla e1 e2) (le_hsz e1 e2)) m_Mo_vocabulary k_Law_76 v_Mo_vocabulary rfl rfl dLaw_law_397 rfl (Nat.le_of_ble_eq_true rfl) ⟨by decide, by decide, by show κ + 0 ≤ 716553; omega, by show σ + 0 ≤ 6952589; omega⟩ (Nat.le_of_ble_eq_true rfl) rfl (fun v w2 hp => ?_)
  obtain ⟨rfl, rfl⟩ := hp
  refine ⟨rfl, ?_⟩
  have heq := congrArg nI (le_voc (g2 := g2) (dc2 := dc2) (dn2 := dn2) e1).symm
  refine zr_icmp_eq (tgt := 497) dLaw_law_400 (by decide) (fun _ => ?_) (fun hne => absurd heq hne)
  exact nx _ _ _ ⟨n, len, m, cn, cw, wo, x, lb, li, lc, ln, dc1, dn1, dc2, dn2, tw, s3, s2, l1, l2, cu, co, wr, g1, g2, pl, ids, bl, fd, fe, tx, le, la, sz, wh, wt, ma, bk, lf, rt, fr, df1, df2, lff, D1, D2, LW, r, rfl, hn2, hn4, hlen, hx, hx16, htw, e1, e2, hm, hsum, hlb, h32, hids, hbl, hwh, hbk, e3, h10, hg12⟩ (by omega) (by omega)
set_option maxHeartbeats 4000000 in
set_option maxRecDepth 100000 in
theorem lc_13 {G : zw_G} {nm : String} {L κ σ i : Nat} {xs : Nat → Int32} {w : zw_W} (hI : lq_I w) (hi : i + 2 < L) (hL : L ≤ 1537) (hκ : κ ≤ 5000) (hσ : σ ≤ 50000) (nx : ∀ w2 κ2 σ2, lq_I w2 → κ2 ≤ κ + 2 → σ2 ≤ σ + 22 → lq_at G nm L xs κ2 σ2 497 i w2) : lq_at G nm L xs κ σ 405 i w := by
  obtain ⟨n, len, m, cn, cw, wo, x, lb, li, lc, ln, dc1, dn1, dc2, dn2, tw, s1, s2, l1, l2, cu, co, wr, g1, g2, pl, ids, bl, fd, fe, tx, le, la, sz, wh, wt, ma, bk, lf, rt, fr, df1, df2, lff, D1, D2, LW, r, rfl, hn2, hn4, hlen, hx, hx16, htw, e1, e2, hm, hsum, hlb, h32, hids, hbl, hwh, hbk, e3, h10, hg12⟩ := hI
  have hw20 := wt_of_le x hlen
  have hwok := (wt_of_ok x len).2.1
  have hs10 : zs_size g1 32 ≤ 10 := by rw [zs_size_congr hg12]; exact h10 m (Nat.le_refl m)
  refine zr_aload_n dLaw_law_405 rfl rfl ?_
  refine zr_aload_n dLaw_law_406 rfl rfl ?_
  refine zr_iload_n dLaw_law_407 rfl ?_
  refine zr_iconst (v := nI 1) dLaw_law_408 (by decide) ?_
  refine zr_iaddN dLaw_law_409 ?_
  refine zr_sld (fun s h => h.2) dLaw_law_410 (by omega) (by omega) ?_
  refine zr_invV (c_WE_label (le_okR14 e1)) m_WE_label k_Law_77 v_WE_label rfl rfl dLaw_law_411 rfl (Nat.le_of_ble_eq_true rfl) ⟨by decide, by decide, by show κ + 0 ≤ 716553; omega, by show σ + 0 ≤ 6952589; omega⟩ (Nat.le_of_ble_eq_true rfl) rfl (fun v w2 hp => ?_)
  obtain ⟨rfl, rfl⟩ := hp
  refine ⟨rfl, ?_⟩
  refine zr_aload_n dLaw_law_414 rfl rfl ?_
  refine zr_aload_n dLaw_law_415 rfl rfl ?_
  refine zr_iload_n dLaw_law_416 rfl ?_
  refine zr_iconst (v := nI 1) dLaw_law_417 (by decide) ?_
  refine zr_iaddN dLaw_law_418 ?_
  refine zr_sld (fun s h => h.2) dLaw_law_419 (by omega) (by omega) ?_
  refine zr_invV (c_Mo_label (le_hla e1 e2)) m_Mo_label k_Law_80 v_Mo_label rfl rfl dLaw_law_420 rfl (Nat.le_of_ble_eq_true rfl) ⟨by decide, by decide, by show κ + 0 ≤ 716553; omega, by show σ + 0 ≤ 6952589; omega⟩ (Nat.le_of_ble_eq_true rfl) rfl (fun v w2 hp => ?_)
  obtain ⟨rfl, rfl⟩ := hp
  refine ⟨rfl, ?_⟩
  have heq : zf_label g1 dc1 (xs (i + 1)) = mo_label (le_2 (le_L g1 dc1) (le_L g2 dc2)) (xs (i + 1)) := by
    unfold zf_label mo_label
    by_cases hb : ¬ xs (i + 1) < 0 ∧ xs (i + 1) < nI 32
    · rw [if_pos hb]
      obtain ⟨j, hj, hje⟩ := zf_rng (by decide) hb.1 hb.2
      rw [hje, nI_clamp (by omega), le_2_lo hj]
      unfold le_L
      by_cases hg : g1 j = none
      · rw [if_neg (fun q => q.2 hg), if_pos hg]; decide
      · rw [if_pos ⟨by rw [← hje]; exact hb, hg⟩, if_neg hg, pk_sub (by omega), Nat.add_sub_cancel]
    · rw [if_neg (fun q => hb q.1), if_neg hb]
  refine zr_icmp_eq (tgt := 497) dLaw_law_423 (by decide) (fun _ => ?_) (fun hne => absurd heq hne)
  exact nx _ _ _ ⟨n, len, m, cn, cw, wo, x, lb, li, lc, ln, dc1, dn1, dc2, dn2, tw, s1, s2, l1, l2, cu, co, wr, g1, g2, pl, ids, bl, fd, fe, tx, le, la, sz, wh, wt, ma, bk, lf, rt, fr, df1, df2, lff, D1, D2, LW, r, rfl, hn2, hn4, hlen, hx, hx16, htw, e1, e2, hm, hsum, hlb, h32, hids, hbl, hwh, hbk, e3, h10, hg12⟩ (by omega) (by omega)
set_option maxHeartbeats 4000000 in
set_option maxRecDepth 100000 in
theorem lc_14 {G : zw_G} {nm : String} {L κ σ i : Nat} {xs : Nat → Int32} {w : zw_W} (hI : lq_I w) (hi : i + 2 < L) (hL : L ≤ 1537) (hκ : κ ≤ 5000) (hσ : σ ≤ 50000) (nx : ∀ w2 κ2 σ2, lq_I w2 → κ2 ≤ κ + 2 → σ2 ≤ σ + 22 → lq_at G nm L xs κ2 σ2 497 i w2) : lq_at G nm L xs κ σ 428 i w := by
  obtain ⟨n, len, m, cn, cw, wo, x, lb, li, lc, ln, dc1, dn1, dc2, dn2, tw, s1, s2, l1, l2, cu, co, wr, g1, g2, pl, ids, bl, fd, fe, tx, le, la, sz, wh, wt, ma, bk, lf, rt, fr, df1, df2, lff, D1, D2, LW, r, rfl, hn2, hn4, hlen, hx, hx16, htw, e1, e2, hm, hsum, hlb, h32, hids, hbl, hwh, hbk, e3, h10, hg12⟩ := hI
  have hw20 := wt_of_le x hlen
  have hwok := (wt_of_ok x len).2.1
  have hs10 : zs_size g1 32 ≤ 10 := by rw [zs_size_congr hg12]; exact h10 m (Nat.le_refl m)
  have hbd := le_bounds (g2 := g2) (dc2 := dc2) (dn2 := dn2) e1 hs10 hwok
  have hsg := le_sg (g2 := g2) (dc2 := dc2) (dn2 := dn2) e1 hwok htw
  refine zr_aload_n dLaw_law_428 rfl rfl ?_
  refine zr_invV (c_WE_classify hn4 hw20 (le_okR14 e1) hs10 hn2) m_WE_classify k_Law_81 v_WE_classify rfl rfl dLaw_law_429 rfl (Nat.le_of_ble_eq_true rfl) ⟨by decide, by decide, by show κ + 0 ≤ 716553; omega, by show σ + 0 ≤ 6952589; omega⟩ (Nat.le_of_ble_eq_true rfl) rfl (fun v w2 hp => ?_)
  obtain ⟨⟨y, rfl, hy0, hy1⟩, s3, cn3, cw3, fd3, fe3, fr3, m1, m2, rfl⟩ := hp
  refine ⟨rfl, ?_⟩
  refine zr_aload_n dLaw_law_432 rfl rfl ?_
  refine zr_invV (c_Mo_classify (le_hla e1 e2) (le_hsz e1 e2) hlen hx hx16 hn4 (fun c _ => hbd.1 c) (fun c _ => hbd.2.1 c) (fun c _ k hk => hbd.2.2 c k hk)) m_Mo_classify k_Law_84 v_Mo_classify rfl rfl dLaw_law_433 rfl (Nat.le_of_ble_eq_true rfl) ⟨by decide, by decide, by show κ + 0 ≤ 716553; omega, by show σ + 0 ≤ 6952589; omega⟩ (Nat.le_of_ble_eq_true rfl) rfl (fun v w2 hp => ?_)
  obtain ⟨⟨z, rfl, hz0, hz1⟩, wo2, cu2, le2, lf2, rt2, rfl⟩ := hp
  refine ⟨rfl, ?_⟩
  have heq : y = z := by
    rw [le_size] at hz0 hz1
    by_cases h0 : zs_size g1 32 = 0
    · rw [hy0 h0, hz0 h0]
    · exact zc_at_one hsg (hy1 h0) (hz1 h0)
  refine zr_icmp_eq (tgt := 497) dLaw_law_436 (by decide) (fun _ => ?_) (fun hne => absurd heq hne)
  exact nx _ _ _ ⟨n, len, m, cn3, cw3, wo2, x, lb, li, lc, ln, dc1, dn1, dc2, dn2, tw, s3, s2, m1, m2, cu2, co, wr, g1, g2, pl, ids, bl, fd3, fe3, tx, le2, la, sz, wh, wt, ma, bk, lf2, rt2, fr3, df1, df2, lff, D1, D2, LW, r, rfl, hn2, hn4, hlen, hx, hx16, htw, e1, e2, hm, hsum, hlb, h32, hids, hbl, hwh, hbk, e3, h10, hg12⟩ (by omega) (by omega)
set_option maxHeartbeats 4000000 in
set_option maxRecDepth 100000 in
theorem lc_15 {G : zw_G} {nm : String} {L κ σ i : Nat} {xs : Nat → Int32} {w : zw_W} (hI : lq_I w) (hi : i + 2 < L) (hL : L ≤ 1537) (hκ : κ ≤ 5000) (hσ : σ ≤ 50000) (nx : ∀ w2 κ2 σ2, lq_I w2 → κ2 ≤ κ + 2 → σ2 ≤ σ + 22 → lq_at G nm L xs κ2 σ2 497 i w2) : lq_at G nm L xs κ σ 441 i w := by
  obtain ⟨n, len, m, cn, cw, wo, x, lb, li, lc, ln, dc1, dn1, dc2, dn2, tw, s1, s2, l1, l2, cu, co, wr, g1, g2, pl, ids, bl, fd, fe, tx, le, la, sz, wh, wt, ma, bk, lf, rt, fr, df1, df2, lff, D1, D2, LW, r, rfl, hn2, hn4, hlen, hx, hx16, htw, e1, e2, hm, hsum, hlb, h32, hids, hbl, hwh, hbk, e3, h10, hg12⟩ := hI
  have hw20 := wt_of_le x hlen
  have hwok := (wt_of_ok x len).2.1
  have hs10 : zs_size g1 32 ≤ 10 := by rw [zs_size_congr hg12]; exact h10 m (Nat.le_refl m)
  have hbd := le_bounds (g2 := g2) (dc2 := dc2) (dn2 := dn2) e1 hs10 hwok
  have hsg := le_sg (g2 := g2) (dc2 := dc2) (dn2 := dn2) e1 hwok htw
  refine zr_aload_n dLaw_law_441 rfl rfl ?_
  refine zr_aload_n dLaw_law_442 rfl rfl ?_
  refine zr_iload_n dLaw_law_443 rfl ?_
  refine zr_iconst (v := nI 1) dLaw_law_444 (by decide) ?_
  refine zr_iaddN dLaw_law_445 ?_
  refine zr_sld (fun s h => h.2) dLaw_law_446 (by omega) (by omega) ?_
  refine zr_invV (c_WE_order hn4 hw20 (le_okR14 e1) hs10) m_WE_order k_Law_85 v_WE_order rfl rfl dLaw_law_447 rfl (Nat.le_of_ble_eq_true rfl) ⟨by decide, by decide, by show κ + 0 ≤ 716553; omega, by show σ + 0 ≤ 6952589; omega⟩ (Nat.le_of_ble_eq_true rfl) rfl (fun v w2 hp => ?_)
  obtain ⟨⟨y, rfl, hy1, hy0⟩, s3, cn3, cw3, fd3, fe3, fr3, m1, m2, rfl⟩ := hp
  refine ⟨rfl, ?_⟩
  refine zr_aload_n dLaw_law_450 rfl rfl ?_
  refine zr_aload_n dLaw_law_451 rfl rfl ?_
  refine zr_iload_n dLaw_law_452 rfl ?_
  refine zr_iconst (v := nI 1) dLaw_law_453 (by decide) ?_
  refine zr_iaddN dLaw_law_454 ?_
  refine zr_sld (fun s h => h.2) dLaw_law_455 (by omega) (by omega) ?_
  refine zr_invV (c_Mo_order (le_hla e1 e2) (le_hsz e1 e2) hlen hx hx16 hn4 (fun c _ => hbd.1 c) (fun c _ => hbd.2.1 c) (fun c _ k hk => hbd.2.2 c k hk)) m_Mo_order k_Law_88 v_Mo_order rfl rfl dLaw_law_456 rfl (Nat.le_of_ble_eq_true rfl) ⟨by decide, by decide, by show κ + 0 ≤ 716553; omega, by show σ + 0 ≤ 6952589; omega⟩ (Nat.le_of_ble_eq_true rfl) rfl (fun v w2 hp => ?_)
  obtain ⟨⟨z, rfl, hz⟩, wo2, cu2, le2, lf2, rt2, rfl⟩ := hp
  refine ⟨rfl, ?_⟩
  have heq : y = z := by
    by_cases h0 : ¬ xs (i + 1) < 0 ∧ xs (i + 1) < nI n
    · exact zc_at_one hsg (hy1 h0) hz
    · rw [hy0 h0, zc_at_out hn4 (fun c => by rw [← hsg]; exact zf_sg0 c) h0 hz]
  refine zr_icmp_eq (tgt := 497) dLaw_law_459 (by decide) (fun _ => ?_) (fun hne => absurd heq hne)
  exact nx _ _ _ ⟨n, len, m, cn3, cw3, wo2, x, lb, li, lc, ln, dc1, dn1, dc2, dn2, tw, s3, s2, m1, m2, cu2, co, wr, g1, g2, pl, ids, bl, fd3, fe3, tx, le2, la, sz, wh, wt, ma, bk, lf2, rt2, fr3, df1, df2, lff, D1, D2, LW, r, rfl, hn2, hn4, hlen, hx, hx16, htw, e1, e2, hm, hsum, hlb, h32, hids, hbl, hwh, hbk, e3, h10, hg12⟩ (by omega) (by omega)
set_option maxHeartbeats 4000000 in
set_option maxRecDepth 100000 in
theorem lc_16 {G : zw_G} {nm : String} {L κ σ i : Nat} {xs : Nat → Int32} {w : zw_W} (hI : lq_I w) (hi : i + 2 < L) (hL : L ≤ 1537) (hκ : κ ≤ 5000) (hσ : σ ≤ 50000) (nx : ∀ w2 κ2 σ2, lq_I w2 → κ2 ≤ κ + 2 → σ2 ≤ σ + 22 → lq_at G nm L xs κ2 σ2 497 i w2) : lq_at G nm L xs κ σ 464 i w := by
  obtain ⟨n, len, m, cn, cw, wo, x, lb, li, lc, ln, dc1, dn1, dc2, dn2, tw, s1, s2, l1, l2, cu, co, wr, g1, g2, pl, ids, bl, fd, fe, tx, le, la, sz, wh, wt, ma, bk, lf, rt, fr, df1, df2, lff, D1, D2, LW, r, rfl, hn2, hn4, hlen, hx, hx16, htw, e1, e2, hm, hsum, hlb, h32, hids, hbl, hwh, hbk, e3, h10, hg12⟩ := hI
  have hw20 := wt_of_le x hlen
  have hwok := (wt_of_ok x len).2.1
  have hs10 : zs_size g1 32 ≤ 10 := by rw [zs_size_congr hg12]; exact h10 m (Nat.le_refl m)
  have hbd := le_bounds (g2 := g2) (dc2 := dc2) (dn2 := dn2) e1 hs10 hwok
  have hsg := le_sg (g2 := g2) (dc2 := dc2) (dn2 := dn2) e1 hwok htw
  refine zr_aload_n dLaw_law_464 rfl rfl ?_
  refine zr_aload_n dLaw_law_465 rfl rfl ?_
  refine zr_iload_n dLaw_law_466 rfl ?_
  refine zr_iconst (v := nI 1) dLaw_law_467 (by decide) ?_
  refine zr_iaddN dLaw_law_468 ?_
  refine zr_sld (fun s h => h.2) dLaw_law_469 (by omega) (by omega) ?_
  refine zr_aload_n dLaw_law_470 rfl rfl ?_
  refine zr_iload_n dLaw_law_471 rfl ?_
  refine zr_iconst (v := nI 2) dLaw_law_472 (by decide) ?_
  refine zr_iaddN dLaw_law_473 ?_
  refine zr_sld (fun s h => h.2) dLaw_law_474 (by omega) (by omega) ?_
  refine zr_invV (c_WE_compare hn4 hw20 (le_okR14 e1) hs10) m_WE_compare k_Law_89 v_WE_compare rfl rfl dLaw_law_475 rfl (Nat.le_of_ble_eq_true rfl) ⟨by decide, by decide, by show κ + 0 ≤ 716553; omega, by show σ + 0 ≤ 6952589; omega⟩ (Nat.le_of_ble_eq_true rfl) rfl (fun v w2 hp => ?_)
  obtain ⟨rfl, s3, cn3, cw3, fd3, fe3, fr3, m1, m2, rfl⟩ := hp
  refine ⟨rfl, ?_⟩
  refine zr_aload_n dLaw_law_478 rfl rfl ?_
  refine zr_aload_n dLaw_law_479 rfl rfl ?_
  refine zr_iload_n dLaw_law_480 rfl ?_
  refine zr_iconst (v := nI 1) dLaw_law_481 (by decide) ?_
  refine zr_iaddN dLaw_law_482 ?_
  refine zr_sld (fun s h => h.2) dLaw_law_483 (by omega) (by omega) ?_
  refine zr_aload_n dLaw_law_484 rfl rfl ?_
  refine zr_iload_n dLaw_law_485 rfl ?_
  refine zr_iconst (v := nI 2) dLaw_law_486 (by decide) ?_
  refine zr_iaddN dLaw_law_487 ?_
  refine zr_sld (fun s h => h.2) dLaw_law_488 (by omega) (by omega) ?_
  refine zr_invV (c_Mo_compare (le_hla e1 e2) (le_hsz e1 e2) hlen hx hx16 hn4 (fun c _ => hbd.1 c) (fun c _ => hbd.2.1 c) (fun c _ k hk => hbd.2.2 c k hk)) m_Mo_compare k_Law_92 v_Mo_compare rfl rfl dLaw_law_489 rfl (Nat.le_of_ble_eq_true rfl) ⟨by decide, by decide, by show κ + 0 ≤ 716553; omega, by show σ + 0 ≤ 6952589; omega⟩ (Nat.le_of_ble_eq_true rfl) rfl (fun v w2 hp => ?_)
  obtain ⟨rfl, wo2, cu2, le2, lf2, rt2, rfl⟩ := hp
  refine ⟨rfl, ?_⟩
  have heq : zf_cmp n (zf_sg g1 dc1 dn1 df1 tw (wt_of x len).1) (xs (i + 1)) (xs (i + 2)) = zf_cmp n (mo_sg (le_2 (le_L g1 dc1) (le_L g2 dc2)) (le_2 dn1 dn2) co (wt_of x len)) (xs (i + 1)) (xs (i + 2)) := by
    unfold zf_cmp
    rw [hsg]
  refine zr_icmp_eq (tgt := 497) dLaw_law_492 (by decide) (fun _ => ?_) (fun hne => absurd heq hne)
  exact nx _ _ _ ⟨n, len, m, cn3, cw3, wo2, x, lb, li, lc, ln, dc1, dn1, dc2, dn2, tw, s3, s2, m1, m2, cu2, co, wr, g1, g2, pl, ids, bl, fd3, fe3, tx, le2, la, sz, wh, wt, ma, bk, lf2, rt2, fr3, df1, df2, lff, D1, D2, LW, r, rfl, hn2, hn4, hlen, hx, hx16, htw, e1, e2, hm, hsum, hlb, h32, hids, hbl, hwh, hbk, e3, h10, hg12⟩ (by omega) (by omega)
set_option maxHeartbeats 4000000 in
set_option maxRecDepth 100000 in
theorem lc_0 {G : zw_G} {nm : String} {L κ σ i : Nat} {xs : Nat → Int32} {w : zw_W} (hI : lq_I w) (hi : i + 2 < L) (hL : L ≤ 1537) (hκ : κ ≤ 5000) (hσ : σ ≤ 50000) (nx : ∀ w2 κ2 σ2, lq_I w2 → κ2 ≤ κ + 2 → σ2 ≤ σ + 22 → lq_at G nm L xs κ2 σ2 497 i w2) : lq_at G nm L xs κ σ 124 i w := by
  obtain ⟨n, len, m, cn, cw, wo, x, lb, li, lc, ln, dc1, dn1, dc2, dn2, tw, s1, s2, l1, l2, cu, co, wr, g1, g2, pl, ids, bl, fd, fe, tx, le, la, sz, wh, wt, ma, bk, lf, rt, fr, df1, df2, lff, D1, D2, LW, r, rfl, hn2, hn4, hlen, hx, hx16, htw, e1, e2, hm, hsum, hlb, h32, hids, hbl, hwh, hbk, e3, h10, hg12⟩ := hI
  have hw20 := wt_of_le x hlen
  have hwok := (wt_of_ok x len).2.1
  have hs10 : zs_size g1 32 ≤ 10 := by rw [zs_size_congr hg12]; exact h10 m (Nat.le_refl m)
  obtain ⟨c, hcd⟩ : ∃ c, c = ((xs (i + 1)).toBitVec.toNat % 65536) := ⟨_, rfl⟩
  have hc : c < 65536 := by rw [hcd]; exact Nat.mod_lt _ (by decide)
  by_cases hk : 32 ≤ c ∧ c ≤ 126 ∧ len < 40
  · have ez : zf_key len (wt_of x len) c = (len + 1, wt_of (va_up x len c) (len + 1)) := (if_pos hk).trans (by rw [lq_key])
    refine zr_aload_n dLaw_law_124 rfl rfl ?_
    refine zr_aload_n dLaw_law_125 rfl rfl ?_
    refine zr_iload_n dLaw_law_126 rfl ?_
    refine zr_iconst (v := nI 1) dLaw_law_127 (by decide) ?_
    refine zr_iaddN dLaw_law_128 ?_
    refine zr_sld (fun s h => h.2) dLaw_law_129 (by omega) (by omega) ?_
    refine zr_i2c dLaw_law_130 ((pk_char _).trans (congrArg nI hcd.symm)) ?_
    refine zr_invV (c_WE_key (s := wt_of x len) hc hlen (wt_of_ok x len) (by have := wt_run_le x len; omega) htw) m_WE_key k_Law_21 v_WE_key rfl rfl dLaw_law_131 rfl (Nat.le_of_ble_eq_true rfl) ⟨by decide, by decide, by show κ + 0 ≤ 716553; omega, by show σ + 0 ≤ 6952589; omega⟩ (Nat.le_of_ble_eq_true rfl) rfl (fun v w2 hp => ?_)
    obtain ⟨rfl, tw2, rfl, ht2⟩ := hp
    refine ⟨rfl, ?_⟩
    rw [ez] at ht2 ⊢
    refine zr_aload_n dLaw_law_134 rfl rfl ?_
    refine zr_aload_n dLaw_law_135 rfl rfl ?_
    refine zr_iload_n dLaw_law_136 rfl ?_
    refine zr_iconst (v := nI 1) dLaw_law_137 (by decide) ?_
    refine zr_iaddN dLaw_law_138 ?_
    refine zr_sld (fun s h => h.2) dLaw_law_139 (by omega) (by omega) ?_
    refine zr_i2c dLaw_law_140 ((pk_char _).trans (congrArg nI hcd.symm)) ?_
    refine zr_invV (c_Mo_key hc hlen) m_Mo_key k_Law_25 v_Mo_key rfl rfl dLaw_law_141 rfl (Nat.le_of_ble_eq_true rfl) ⟨by decide, by decide, by show κ + 0 ≤ 716553; omega, by show σ + 0 ≤ 6952589; omega⟩ (Nat.le_of_ble_eq_true rfl) rfl (fun v w2 hp => ?_)
    obtain ⟨rfl, rfl⟩ := hp
    rw [if_pos hk]
    refine ⟨rfl, ?_⟩
    have heq : zw_b (32 ≤ c ∧ c ≤ 126 ∧ len < 40) = zw_b (32 ≤ c ∧ c ≤ 126 ∧ len < 40) := rfl
    refine zr_icmp_eq (tgt := 497) dLaw_law_144 (by decide) (fun _ => ?_) (fun hne => absurd heq hne)
    exact nx _ _ _ ⟨n, (len + 1), m, cn, cw, wo, (va_up x len c), lb, li, lc, ln, dc1, dn1, dc2, dn2, tw2, s1, s2, l1, l2, cu, co, wr, g1, g2, pl, ids, bl, fd, fe, (upd tx len (nI c)), le, la, sz, wh, wt, ma, bk, lf, rt, fr, df1, df2, lff, D1, D2, LW, r, rfl, hn2, hn4, (by omega), (fun i hi => by
        by_cases e : i = len
        · subst e; rw [pk_us, show va_up x i c i = c from if_pos rfl]
        · rw [pk_un e, show va_up x len c i = x i from if_neg e]; exact hx i (by omega)), (fun i hi => by
        by_cases e : i = len
        · subst e; rw [show va_up x i c i = c from if_pos rfl]; exact hc
        · rw [show va_up x len c i = x i from if_neg e]; exact hx16 i (by omega)), ht2, e1, e2, hm, hsum, hlb, h32, hids, hbl, hwh, hbk, e3, h10, hg12⟩ (by omega) (by omega)
  · have ez : zf_key len (wt_of x len) c = (len, wt_of x len) := if_neg hk
    refine zr_aload_n dLaw_law_124 rfl rfl ?_
    refine zr_aload_n dLaw_law_125 rfl rfl ?_
    refine zr_iload_n dLaw_law_126 rfl ?_
    refine zr_iconst (v := nI 1) dLaw_law_127 (by decide) ?_
    refine zr_iaddN dLaw_law_128 ?_
    refine zr_sld (fun s h => h.2) dLaw_law_129 (by omega) (by omega) ?_
    refine zr_i2c dLaw_law_130 ((pk_char _).trans (congrArg nI hcd.symm)) ?_
    refine zr_invV (c_WE_key (s := wt_of x len) hc hlen (wt_of_ok x len) (by have := wt_run_le x len; omega) htw) m_WE_key k_Law_21 v_WE_key rfl rfl dLaw_law_131 rfl (Nat.le_of_ble_eq_true rfl) ⟨by decide, by decide, by show κ + 0 ≤ 716553; omega, by show σ + 0 ≤ 6952589; omega⟩ (Nat.le_of_ble_eq_true rfl) rfl (fun v w2 hp => ?_)
    obtain ⟨rfl, tw2, rfl, ht2⟩ := hp
    refine ⟨rfl, ?_⟩
    rw [ez] at ht2 ⊢
    refine zr_aload_n dLaw_law_134 rfl rfl ?_
    refine zr_aload_n dLaw_law_135 rfl rfl ?_
    refine zr_iload_n dLaw_law_136 rfl ?_
    refine zr_iconst (v := nI 1) dLaw_law_137 (by decide) ?_
    refine zr_iaddN dLaw_law_138 ?_
    refine zr_sld (fun s h => h.2) dLaw_law_139 (by omega) (by omega) ?_
    refine zr_i2c dLaw_law_140 ((pk_char _).trans (congrArg nI hcd.symm)) ?_
    refine zr_invV (c_Mo_key hc hlen) m_Mo_key k_Law_25 v_Mo_key rfl rfl dLaw_law_141 rfl (Nat.le_of_ble_eq_true rfl) ⟨by decide, by decide, by show κ + 0 ≤ 716553; omega, by show σ + 0 ≤ 6952589; omega⟩ (Nat.le_of_ble_eq_true rfl) rfl (fun v w2 hp => ?_)
    obtain ⟨rfl, rfl⟩ := hp
    rw [if_neg hk]
    refine ⟨rfl, ?_⟩
    have heq : zw_b (32 ≤ c ∧ c ≤ 126 ∧ len < 40) = zw_b (32 ≤ c ∧ c ≤ 126 ∧ len < 40) := rfl
    refine zr_icmp_eq (tgt := 497) dLaw_law_144 (by decide) (fun _ => ?_) (fun hne => absurd heq hne)
    exact nx _ _ _ ⟨n, len, m, cn, cw, wo, x, lb, li, lc, ln, dc1, dn1, dc2, dn2, tw2, s1, s2, l1, l2, cu, co, wr, g1, g2, pl, ids, bl, fd, fe, tx, le, la, sz, wh, wt, ma, bk, lf, rt, fr, df1, df2, lff, D1, D2, LW, r, rfl, hn2, hn4, hlen, hx, hx16, ht2, e1, e2, hm, hsum, hlb, h32, hids, hbl, hwh, hbk, e3, h10, hg12⟩ (by omega) (by omega)
