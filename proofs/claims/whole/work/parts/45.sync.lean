set_option maxHeartbeats 4000000 in
set_option maxRecDepth 100000 in
theorem lc_6 {G : zw_G} {nm : String} {L κ σ i : Nat} {xs : Nat → Int32} {w : zw_W} (hI : lq_I w) (hi : i + 2 < L) (hL : L ≤ 1537) (hκ : κ ≤ 5000) (hσ : σ ≤ 50000) (nx : ∀ w2 κ2 σ2, lq_I w2 → κ2 ≤ κ + 2 → σ2 ≤ σ + 22 → lq_at G nm L xs κ2 σ2 497 i w2) : lq_at G nm L xs κ σ 264 i w := by
  obtain ⟨n, len, m, cn, cw, wo, x, lb, li, lc, ln, dc1, dn1, dc2, dn2, tw, s1, s2, l1, l2, cu, co, wr, g1, g2, pl, ids, bl, fd, fe, tx, le, la, sz, wh, wt, ma, bk, lf, rt, fr, df1, df2, lff, D1, D2, LW, r, rfl, hn2, hn4, hlen, hx, hx16, htw, e1, e2, hm, hsum, hlb, h32, hids, hbl, hwh, hbk, e3, h10, hg12⟩ := hI
  have hw20 := wt_of_le x hlen
  have hwok := (wt_of_ok x len).2.1
  have hmm := lq_m hlb
  have hs10 : zs_size g1 32 ≤ 10 := by rw [zs_size_congr hg12]; exact h10 m (Nat.le_refl m)
  refine zr_aload_n dLaw_law_264 rfl rfl ?_
  refine zr_invV (c_WE_sync (fun id hid q hq => by obtain ⟨k, a1, a2, a3⟩ := ((e1 id hid).2.2.2 q hq).2.2.1; exact ⟨k, _, a1, a2⟩)) m_WE_sync k_Law_49 v_WE_sync rfl rfl dLaw_law_265 rfl (Nat.le_of_ble_eq_true rfl) ⟨by decide, by decide, by show κ + 0 ≤ 716553; omega, by show σ + 0 ≤ 6952589; omega⟩ (Nat.le_of_ble_eq_true rfl) rfl (fun v w2 hp => ?_)
  obtain ⟨rfl, rfl⟩ := hp
  refine ⟨rfl, ?_⟩
  refine zr_aload_n dLaw_law_268 rfl rfl ?_
  refine zr_invV (c_Mo_sync hm hbk) m_Mo_sync k_Law_52 v_Mo_sync rfl rfl dLaw_law_269 rfl (Nat.le_of_ble_eq_true rfl) ⟨by decide, by decide, by show κ + 0 ≤ 716553; omega, by show σ + 0 ≤ 6952589; omega⟩ (Nat.le_of_ble_eq_true rfl) rfl (fun v w2 hp => ?_)
  obtain ⟨rfl, rfl⟩ := hp
  refine ⟨rfl, ?_⟩
  have heq : nI (wn_sum lb m) = nI (wn_sum lb m) := rfl
  refine zr_icmp_eq (tgt := 497) dLaw_law_272 (by decide) (fun _ => ?_) (fun hne => absurd heq hne)
  exact nx _ _ _ ⟨n, len, 0, cn, cw, wo, x, lb, li, lc, ln, dc1, dn1, dc1, dn1, tw, s1, s2, l1, l2, cu, (va_cpy co co (20 * 0) (20 * 32) 640), wr, g1, (fun j => if j < 32 then g1 j else g2 j), pl, ids, bl, fd, fe, tx, le, (va_cpy la la 0 32 32), (va_cpy sz sz 0 32 32), wh, wt, ma, bk, lf, rt, fr, df1, df1, lff, D1, D1, LW, r, rfl, hn2, hn4, hlen, hx, hx16, htw, (le_to (o2 := 0) e1 (fun i hi => ⟨pk_cpy_out (by omega), pk_cpy_out (by omega)⟩) (fun i hi => pk_cpy_out (by omega))), (le_g (le_to (o2 := 32) e1 (fun i hi => ⟨(pk_cpy_in (by omega) (by omega)).trans (congrArg la (by omega)), (pk_cpy_in (by omega) (by omega)).trans (congrArg sz (by omega))⟩) (fun i hi => (pk_cpy_in (by omega) (by omega)).trans (congrArg co (by omega)))) (fun i hi => if_pos hi)), (Nat.zero_le 24), (Nat.zero_le 24), (fun j hj => absurd hj (Nat.not_lt_zero j)), (fun j hj => absurd hj (Nat.not_lt_zero j)), (fun j hj => absurd hj (Nat.not_lt_zero j)), (fun j hj => absurd hj (Nat.not_lt_zero j)), (fun j hj => absurd hj (Nat.not_lt_zero j)), (fun j hj => absurd hj (Nat.not_lt_zero j)), (fun j hj => absurd hj (Nat.not_lt_zero j)), (fun k hk => by
      have e : k = 0 := by omega
      subst e
      show zs_size (fun j => if j < 32 then g1 j else g2 j) 32 ≤ 10
      rw [zs_size_congr (g3 := g1) (fun id hid => by rw [if_pos hid])]
      exact hs10), (fun id hid => by
      show g1 id = none ↔ (if id < 32 then g1 id else g2 id) = none
      rw [if_pos hid])⟩ (by omega) (by omega)
set_option maxHeartbeats 4000000 in
set_option maxRecDepth 100000 in
theorem lc_7 {G : zw_G} {nm : String} {L κ σ i : Nat} {xs : Nat → Int32} {w : zw_W} (hI : lq_I w) (hi : i + 2 < L) (hL : L ≤ 1537) (hκ : κ ≤ 5000) (hσ : σ ≤ 50000) (nx : ∀ w2 κ2 σ2, lq_I w2 → κ2 ≤ κ + 2 → σ2 ≤ σ + 22 → lq_at G nm L xs κ2 σ2 497 i w2) : lq_at G nm L xs κ σ 277 i w := by
  obtain ⟨n, len, m, cn, cw, wo, x, lb, li, lc, ln, dc1, dn1, dc2, dn2, tw, s1, s2, l1, l2, cu, co, wr, g1, g2, pl, ids, bl, fd, fe, tx, le, la, sz, wh, wt, ma, bk, lf, rt, fr, df1, df2, lff, D1, D2, LW, r, rfl, hn2, hn4, hlen, hx, hx16, htw, e1, e2, hm, hsum, hlb, h32, hids, hbl, hwh, hbk, e3, h10, hg12⟩ := hI
  have hw20 := wt_of_le x hlen
  have hwok := (wt_of_ok x len).2.1
  have hmm := lq_m hlb
  have hs10 : zs_size g1 32 ≤ 10 := by rw [zs_size_congr hg12]; exact h10 m (Nat.le_refl m)
  have hbase : le_ok 32 0 r g2 dc2 dn2 df2 D2 (va_cpy la la 32 0 32) (va_cpy sz sz 32 0 32) (va_cpy co co (20 * 32) (20 * 0) 640) := le_to e2 (fun i hi => ⟨(pk_cpy_in (by omega) (by omega)).trans (congrArg la (by omega)), (pk_cpy_in (by omega) (by omega)).trans (congrArg sz (by omega))⟩) (fun i hi => (pk_cpy_in (by omega) (by omega)).trans (congrArg co (by omega)))
  refine zr_aload_n dLaw_law_277 rfl rfl ?_
  refine zr_aload_n dLaw_law_278 rfl rfl ?_
  refine zr_iload_n dLaw_law_279 rfl ?_
  refine zr_iconst (v := nI 1) dLaw_law_280 (by decide) ?_
  refine zr_iaddN dLaw_law_281 ?_
  refine zr_sld (fun s h => h.2) dLaw_law_282 (by omega) (by omega) ?_
  refine zr_invV (c_WE_fail (li := li) (lb := lb) hm hids hbl h32 hsum (fun id hid q hq => by obtain ⟨k, a1, a2, a3⟩ := ((e3 id hid).2.2.2 q hq).2.2.1; exact ⟨k, _, a1, a2⟩) (fun id hid q hq => by obtain ⟨k, a1, a2, a3⟩ := ((e2 id hid).2.2.2 q hq).2.2.1; exact ⟨k, _, a1, a2⟩)) m_WE_fail k_Law_53 v_WE_fail rfl rfl dLaw_law_283 rfl (Nat.le_of_ble_eq_true rfl) ⟨by decide, by decide, by show κ + 0 ≤ 716553; omega, by show σ + 0 ≤ 6952589; omega⟩ (Nat.le_of_ble_eq_true rfl) rfl (fun v w2 hp => ?_)
  obtain ⟨k, hk, rfl, rfl⟩ := hp
  have hap := le_apps hbase e3 h32 k hk.1
  have hk10 := h10 k hk.1
  refine ⟨rfl, ?_⟩
  refine zr_aload_n dLaw_law_286 rfl rfl ?_
  refine zr_aload_n dLaw_law_287 rfl rfl ?_
  refine zr_iload_n dLaw_law_288 rfl ?_
  refine zr_iconst (v := nI 1) dLaw_law_289 (by decide) ?_
  refine zr_iaddN dLaw_law_290 ?_
  refine zr_sld (fun s h => h.2) dLaw_law_291 (by omega) (by omega) ?_
  refine zr_invV (c_Mo_fail (li := li) (ln := ln) (lb := lb) hm hbk hsum hwh (fun j hj => by have := (e3 j hj).1; rwa [Nat.zero_add] at this) h32 (fun j hj => (e3 j hj).2.1)) m_Mo_fail k_Law_56 v_Mo_fail rfl rfl dLaw_law_292 rfl (Nat.le_of_ble_eq_true rfl) ⟨by decide, by decide, by show κ + 0 ≤ 716553; omega, by show σ + 0 ≤ 6952589; omega⟩ (Nat.le_of_ble_eq_true rfl) rfl (fun v w2 hp => ?_)
  obtain ⟨k2, hk2, rfl, rfl⟩ := hp
  obtain rfl := zl_done_one hk hk2
  refine ⟨rfl, ?_⟩
  have heq : nI (m - k) = nI (m - k) := rfl
  refine zr_icmp_eq (tgt := 497) dLaw_law_295 (by decide) (fun _ => ?_) (fun hne => absurd heq hne)
  exact nx _ _ _ ⟨n, len, 0, cn, cw, wo, x, lb, li, lc, ln, (zl_app li lc dc2 k), (zl_app li ln dn2 k), (zl_app li lc dc2 k), (zl_app li ln dn2 k), tw, s1, s2, l1, l2, cu, (va_cpy (mo_co li ln wr (va_cpy co co (20 * 32) (20 * 0) 640) k) (mo_co li ln wr (va_cpy co co (20 * 32) (20 * 0) 640) k) (20 * 0) (20 * 32) 640), wr, (fun j => if j < 32 then (zl_app li pl g2 k) j else g1 j), (zl_app li pl g2 k), pl, ids, bl, fd, fe, tx, le, (va_cpy (zl_app li wt (va_cpy la la 32 0 32) k) (zl_app li wt (va_cpy la la 32 0 32) k) 0 32 32), (va_cpy (zl_app li ma (va_cpy sz sz 32 0 32) k) (zl_app li ma (va_cpy sz sz 32 0 32) k) 0 32 32), wh, wt, ma, bk, lf, rt, fr, (zl_app li lff df2 k), (zl_app li lff df2 k), lff, (zl_app li LW D2 k), (zl_app li LW D2 k), LW, r, rfl, hn2, hn4, hlen, hx, hx16, htw, (le_g (le_to (o2 := 0) hap (fun i hi => ⟨pk_cpy_out (by omega), pk_cpy_out (by omega)⟩) (fun i hi => pk_cpy_out (by omega))) (fun i hi => if_pos hi)), (le_to (o2 := 32) hap (fun i hi => ⟨(pk_cpy_in (by omega) (by omega)).trans (congrArg _ (by omega)), (pk_cpy_in (by omega) (by omega)).trans (congrArg _ (by omega))⟩) (fun i hi => (pk_cpy_in (by omega) (by omega)).trans (congrArg _ (by omega)))), (Nat.zero_le 24), (Nat.zero_le 24), (fun j hj => absurd hj (Nat.not_lt_zero j)), (fun j hj => absurd hj (Nat.not_lt_zero j)), (fun j hj => absurd hj (Nat.not_lt_zero j)), (fun j hj => absurd hj (Nat.not_lt_zero j)), (fun j hj => absurd hj (Nat.not_lt_zero j)), (fun j hj => absurd hj (Nat.not_lt_zero j)), (fun j hj => absurd hj (Nat.not_lt_zero j)), (fun k2 hk2 => by
      have e : k2 = 0 := by omega
      subst e
      exact hk10), (fun id hid => by
      show (if id < 32 then (zl_app li pl g2 k) id else g1 id) = none ↔ (zl_app li pl g2 k) id = none
      rw [if_pos hid])⟩ (by omega) (by omega)
