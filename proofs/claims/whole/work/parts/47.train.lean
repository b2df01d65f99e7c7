set_option maxHeartbeats 4000000 in
set_option maxRecDepth 100000 in
theorem lc_4 {G : zw_G} {nm : String} {L κ σ i : Nat} {xs : Nat → Int32} {w : zw_W} (hI : lq_I w) (hi : i + 2 < L) (hL : L ≤ 1537) (hκ : κ ≤ 5000) (hσ : σ ≤ 50000) (nx : ∀ w2 κ2 σ2, lq_I w2 → κ2 ≤ κ + 2 → σ2 ≤ σ + 22 → lq_at G nm L xs κ2 σ2 497 i w2) : lq_at G nm L xs κ σ 208 i w := by
  obtain ⟨n, len, m, cn, cw, wo, x, lb, li, lc, ln, dc1, dn1, dc2, dn2, tw, s1, s2, l1, l2, cu, co, wr, g1, g2, pl, ids, bl, fd, fe, tx, le, la, sz, wh, wt, ma, bk, lf, rt, fr, df1, df2, lff, D1, D2, LW, r, rfl, hn2, hn4, hlen, hx, hx16, htw, e1, e2, hm, hsum, hlb, h32, hids, hbl, hwh, hbk, e3, h10, hg12⟩ := hI
  have hw20 := wt_of_le x hlen
  have hwok := (wt_of_ok x len).2.1
  have hmm := lq_m hlb
  have hs10 : zs_size g1 32 ≤ 10 := by rw [zs_size_congr hg12]; exact h10 m (Nat.le_refl m)
  by_cases hz : zf_train n g1 (wn_sum lb m) (wt_of x len).1 (xs (i + 1)) (xs (i + 2)) = 0
  · obtain ⟨j, c, hj, hc, hje, hce, hg, hs9, hfit⟩ := lq_tr0 hn4 hz
    have hL0 := (lq_L0 (g1 := g1) (g2 := g2) (dc1 := dc1) (dc2 := dc2) hj).mpr hg
    have hsz9 : mo_size (le_2 (le_L g1 dc1) (le_L g2 dc2)) 32 < 10 := by rw [le_size]; exact hs9
    refine zr_aload_n dLaw_law_208 rfl rfl ?_
    refine zr_aload_n dLaw_law_209 rfl rfl ?_
    refine zr_iload_n dLaw_law_210 rfl ?_
    refine zr_iconst (v := nI 1) dLaw_law_211 (by decide) ?_
    refine zr_iaddN dLaw_law_212 ?_
    refine zr_sld (fun s h => h.2) dLaw_law_213 (by omega) (by omega) ?_
    refine zr_aload_n dLaw_law_214 rfl rfl ?_
    refine zr_iload_n dLaw_law_215 rfl ?_
    refine zr_iconst (v := nI 2) dLaw_law_216 (by decide) ?_
    refine zr_iaddN dLaw_law_217 ?_
    refine zr_sld (fun s h => h.2) dLaw_law_218 (by omega) (by omega) ?_
    refine zr_invV (show zw_Met G Y_WE_train 3 2 (2 + (wt_of x len).1) [.ref 1, .int (xs (i + 1)), .int (xs (i + 2))] _ _ from by rw [hje, hce]; exact c_WE_train_ok (j := j) (c := c) (k := r.length) hw20 hsum hj hc hn4 hg hs9 hfit (by omega) rfl) m_WE_train k_Law_40 v_WE_train rfl rfl dLaw_law_219 rfl (Nat.le_of_ble_eq_true rfl) ⟨by decide, by decide, by show κ + 2 ≤ 716553; omega, by show σ + (2 + (wt_of x len).1) ≤ 6952589; omega⟩ (Nat.le_of_ble_eq_true rfl) rfl (fun v w2 hp => ?_)
    obtain ⟨rfl, f2, rfl, hf2⟩ := hp
    refine ⟨by simp only [List.length_cons, List.length_append, List.length_nil], ?_⟩
    refine zr_wld (w2 := (zk_WE n :: zk_Text (wt_of x len).1 len (wt_of x len).2.2 :: zk_L 20 tw :: zk_Sh 3 :: zk_D 32 (va_up g1 j (some (r.length + 40))) :: zk_L 200 s1 :: zk_Sh 6 :: zk_D 32 g2 :: zk_L 200 s2 :: zk_Log (m + 1) (wn_sum lb m + (1 + ((wt_of x len).1 + 4 - 1) / 4)) :: zk_I 24 (upd ids m (nI j)) :: zk_I 24 (upd bl m (nI (1 + ((wt_of x len).1 + 4 - 1) / 4))) :: zk_D 24 (va_up pl m (some (r.length + 40))) :: zk_Ch cn cw :: zk_I 4 fd :: zk_A 4 zk_ga :: zk_I 20 (fr 0) :: zk_I 20 (fr 1) :: zk_I 20 (fr 2) :: zk_I 20 (fr 3) :: zk_I 4 fe :: zk_P 21 :: zk_L 12 l1 :: zk_P 23 :: zk_L 12 l2 :: zk_Mo n len wo m :: zk_I 40 tx :: zk_L 20 cu :: zk_I 160 le :: zk_I 64 la :: zk_I 64 sz :: zk_L 1280 co :: zk_I 24 wh :: zk_I 24 wt :: zk_I 24 ma :: zk_I 24 bk :: zk_L 480 wr :: zk_I 50 lf :: zk_I 50 rt :: ((r ++ [.inr (6, [.int (nI c), .ref (r.length + 41)])]) ++ [zk_L (wt_of x len).1 f2]))) rfl ?_
    refine zr_aload_n dLaw_law_222 rfl rfl ?_
    refine zr_aload_n dLaw_law_223 rfl rfl ?_
    refine zr_iload_n dLaw_law_224 rfl ?_
    refine zr_iconst (v := nI 1) dLaw_law_225 (by decide) ?_
    refine zr_iaddN dLaw_law_226 ?_
    refine zr_sld (fun s h => h.2) dLaw_law_227 (by omega) (by omega) ?_
    refine zr_aload_n dLaw_law_228 rfl rfl ?_
    refine zr_iload_n dLaw_law_229 rfl ?_
    refine zr_iconst (v := nI 2) dLaw_law_230 (by decide) ?_
    refine zr_iaddN dLaw_law_231 ?_
    refine zr_sld (fun s h => h.2) dLaw_law_232 (by omega) (by omega) ?_
    refine zr_invV (show zw_Met G Y_Mo_train 2 0 0 [.ref 26, .int (xs (i + 1)), .int (xs (i + 2))] _ _ from by rw [hje, hce]; exact c_Mo_train_ok (le_hla e1 e2) hlen hx hx16 hm hbk hsum hj hc hn4 hL0 hsz9 (by omega) (by omega)) m_Mo_train k_Law_43 v_Mo_train rfl rfl dLaw_law_233 rfl (Nat.le_of_ble_eq_true rfl) ⟨by decide, by decide, by show κ + 2 + 0 ≤ 716553; omega, by show σ + (2 + (wt_of x len).1) + 0 ≤ 6952589; omega⟩ (Nat.le_of_ble_eq_true rfl) rfl (fun v w2 hp => ?_)
    obtain ⟨rfl, cu2, le2, rfl, hmr⟩ := hp
    have e3n := le_push (c := c) (n := (wt_of x len).1) (x := (some (r.length + 40))) (f := f2) (Wd := (wt_of x len).2.1) (lab := c + 1) (cu := cu2) (le_app (v := [zk_L (wt_of x len).1 f2]) (le_app (v := [.inr (6, [.int (nI c), .ref (r.length + 41)])]) e3)) hw20 (fun h => by cases h) (fun q hq => by cases hq; exact ⟨rfl, by omega, ⟨r.length, rfl, zf_ap1 rfl, zf_ap3⟩, fun i hi => ⟨hwok i hi, (hf2 i hi).trans (htw i hi), hmr.1 i hi⟩⟩)
    have e1n := le_up (le_app (v := [zk_L (wt_of x len).1 f2]) (le_app (v := [.inr (6, [.int (nI c), .ref (r.length + 41)])]) e1)) e3n (Nat.lt_succ_self m) hj
    rw [show va_up pl m (some (r.length + 40)) m = (some (r.length + 40)) from if_pos rfl, show va_up lc m c m = c from if_pos rfl, show va_up ln m (wt_of x len).1 m = (wt_of x len).1 from if_pos rfl, show va_up lff m f2 m = f2 from if_pos rfl, show va_up LW m (wt_of x len).2.1 m = (wt_of x len).2.1 from if_pos rfl] at e1n
    have e2n : le_ok 32 32 ((r ++ [.inr (6, [.int (nI c), .ref (r.length + 41)])]) ++ [zk_L (wt_of x len).1 f2]) g2 dc2 dn2 df2 D2 (upd la j (upd wt m (nI (c + 1)) m)) (upd sz j (upd ma m (nI (wt_of x len).1) m)) (va_cpy (va_cpy cu2 wr 0 (20 * m) (wt_of x len).1) co (20 * m) (20 * j) (wt_of x len).1) := le_to (le_app (v := [zk_L (wt_of x len).1 f2]) (le_app (v := [.inr (6, [.int (nI c), .ref (r.length + 41)])]) e2)) (fun i hi => ⟨pk_un (by omega), pk_un (by omega)⟩) (fun i hi => pk_cpy_out (by omega))
    refine ⟨rfl, ?_⟩
    have heq : nI (1 + ((wt_of x len).1 + 4 - 1) / 4) = nI (1 + ((wt_of x len).1 + 3) / 4) := congrArg nI (by omega)
    refine zr_icmp_eq (tgt := 497) dLaw_law_236 (by decide) (fun _ => ?_) (fun hne => absurd heq hne)
    exact nx _ _ _ ⟨n, len, (m + 1), cn, cw, (wt_of x len).1, x, (va_up lb m (1 + ((wt_of x len).1 + 4 - 1) / 4)), (va_up li m j), (va_up lc m c), (va_up ln m (wt_of x len).1), (va_up dc1 j c), (va_up dn1 j (wt_of x len).1), dc2, dn2, tw, s1, s2, l1, l2, cu2, (va_cpy (va_cpy cu2 wr 0 (20 * m) (wt_of x len).1) co (20 * m) (20 * j) (wt_of x len).1), (va_cpy cu2 wr 0 (20 * m) (wt_of x len).1), (va_up g1 j (some (r.length + 40))), g2, (va_up pl m (some (r.length + 40))), (upd ids m (nI j)), (upd bl m (nI (1 + ((wt_of x len).1 + 4 - 1) / 4))), fd, fe, tx, le2, (upd la j (upd wt m (nI (c + 1)) m)), (upd sz j (upd ma m (nI (wt_of x len).1) m)), (upd wh m (nI j)), (upd wt m (nI (c + 1))), (upd ma m (nI (wt_of x len).1)), (upd bk m (nI (1 + ((wt_of x len).1 + 3) / 4))), lf, rt, fr, (va_up df1 j f2), df2, (va_up lff m f2), (va_up D1 j (wt_of x len).2.1), D2, (va_up LW m (wt_of x len).2.1), ((r ++ [.inr (6, [.int (nI c), .ref (r.length + 41)])]) ++ [zk_L (wt_of x len).1 f2]), (by rw [lq_sum]; first | done | rfl), hn2, hn4, hlen, hx, hx16, htw, e1n, e2n, (by omega), (by rw [lq_sum]; omega), (lq_upp (f := lb) (P := fun z => 1 ≤ z) hlb (by omega)), (lq_upp (f := li) (P := fun z => z < 32) h32 hj), (lq_upn hids rfl), (lq_upn hbl rfl), (lq_upn hwh rfl), (lq_upn hbk (congrArg nI (by omega))), e3n, (lq_push_10 h10 (Nat.le_trans zs_size_up.1 (by rw [← zs_size_congr hg12]; omega))), (lq_push_g hg12)⟩ (by omega) (by show σ + (2 + (wt_of x len).1) + 0 ≤ σ + 22; omega)
  · refine zr_aload_n dLaw_law_208 rfl rfl ?_
    refine zr_aload_n dLaw_law_209 rfl rfl ?_
    refine zr_iload_n dLaw_law_210 rfl ?_
    refine zr_iconst (v := nI 1) dLaw_law_211 (by decide) ?_
    refine zr_iaddN dLaw_law_212 ?_
    refine zr_sld (fun s h => h.2) dLaw_law_213 (by omega) (by omega) ?_
    refine zr_aload_n dLaw_law_214 rfl rfl ?_
    refine zr_iload_n dLaw_law_215 rfl ?_
    refine zr_iconst (v := nI 2) dLaw_law_216 (by decide) ?_
    refine zr_iaddN dLaw_law_217 ?_
    refine zr_sld (fun s h => h.2) dLaw_law_218 (by omega) (by omega) ?_
    refine zr_invV (c_WE_train_no hw20 hsum hz) m_WE_train k_Law_40 v_WE_train rfl rfl dLaw_law_219 rfl (Nat.le_of_ble_eq_true rfl) ⟨by decide, by decide, by show κ + 0 ≤ 716553; omega, by show σ + 0 ≤ 6952589; omega⟩ (Nat.le_of_ble_eq_true rfl) rfl (fun v w2 hp => ?_)
    obtain ⟨rfl, rfl⟩ := hp
    refine ⟨rfl, ?_⟩
    refine zr_aload_n dLaw_law_222 rfl rfl ?_
    refine zr_aload_n dLaw_law_223 rfl rfl ?_
    refine zr_iload_n dLaw_law_224 rfl ?_
    refine zr_iconst (v := nI 1) dLaw_law_225 (by decide) ?_
    refine zr_iaddN dLaw_law_226 ?_
    refine zr_sld (fun s h => h.2) dLaw_law_227 (by omega) (by omega) ?_
    refine zr_aload_n dLaw_law_228 rfl rfl ?_
    refine zr_iload_n dLaw_law_229 rfl ?_
    refine zr_iconst (v := nI 2) dLaw_law_230 (by decide) ?_
    refine zr_iaddN dLaw_law_231 ?_
    refine zr_sld (fun s h => h.2) dLaw_law_232 (by omega) (by omega) ?_
    refine zr_invV (c_Mo_train_no (le_hla e1 e2) hlen hx hx16 hm hbk hsum (by rw [← lq_train hs10]; exact hz)) m_Mo_train k_Law_43 v_Mo_train rfl rfl dLaw_law_233 rfl (Nat.le_of_ble_eq_true rfl) ⟨by decide, by decide, by show κ + 0 ≤ 716553; omega, by show σ + 0 ≤ 6952589; omega⟩ (Nat.le_of_ble_eq_true rfl) rfl (fun v w2 hp => ?_)
    obtain ⟨rfl, wo2, cu2, le2, rfl⟩ := hp
    refine ⟨rfl, ?_⟩
    have heq := lq_train (g1 := g1) (g2 := g2) (dc1 := dc1) (dc2 := dc2) (n := n) (pb := wn_sum lb m) (wc := (wt_of x len).1) (id := (xs (i + 1))) (c := (xs (i + 2))) hs10
    refine zr_icmp_eq (tgt := 497) dLaw_law_236 (by decide) (fun _ => ?_) (fun hne => absurd heq hne)
    exact nx _ _ _ ⟨n, len, m, cn, cw, wo2, x, lb, li, lc, ln, dc1, dn1, dc2, dn2, tw, s1, s2, l1, l2, cu2, co, wr, g1, g2, pl, ids, bl, fd, fe, tx, le2, la, sz, wh, wt, ma, bk, lf, rt, fr, df1, df2, lff, D1, D2, LW, r, rfl, hn2, hn4, hlen, hx, hx16, htw, e1, e2, hm, hsum, hlb, h32, hids, hbl, hwh, hbk, e3, h10, hg12⟩ (by omega) (by omega)
