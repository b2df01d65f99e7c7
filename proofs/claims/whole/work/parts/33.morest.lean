/-! the reference: places, answers, changes -/
set_option maxHeartbeats 4000000 in
set_option maxRecDepth 100000 in
theorem c_Mo_place {G : zw_G} {c0 c1 c2 c3 c4 c5 c6 c7 c8 c9 c10 c11 c12 c13 c14 c15 c16 c17 c18 c19 c20 c21 c22 c23 c24 : zw_C} {n ty wo ch : Nat} {tx le la sz wh wt ma bk lf rt : Nat → Int32} {cu co wr : Nat → Int64} {r : zw_W} {L : Nat → Nat} (hla : ∀ i, i < 64 → la i = nI (L i) ∧ L i < 1000) {Z : Nat → Nat} (hsz : ∀ i, i < 64 → sz i = nI (Z i) ∧ Z i ≤ 20) {x : Nat → Nat} (hty : ty ≤ 40) (hx : ∀ i, i < ty → tx i = nI (x i)) (hx16 : ∀ i, i < ty → x i < 65536) (hn4 : n ≤ 4) (hD : ∀ c, c < n → mo_D L c ≤ 10) (hE : ∀ c, c < n → mo_E L Z co c ≤ 401) (hN : ∀ c, c < n → ∀ k, k < (wt_of x ty).1 → mo_N L Z co (wt_of x ty) c k ≤ 201) {c : Nat} (hc : c < n) : zw_Met G Y_Mo_place 3 0 0 [.ref 26, .int (nI c)] (c0 :: c1 :: c2 :: c3 :: c4 :: c5 :: c6 :: c7 :: c8 :: c9 :: c10 :: c11 :: c12 :: c13 :: c14 :: c15 :: c16 :: c17 :: c18 :: c19 :: c20 :: c21 :: c22 :: c23 :: c24 :: zk_Mo n ty wo ch :: zk_I 40 tx :: zk_L 20 cu :: zk_I 160 le :: zk_I 64 la :: zk_I 64 sz :: zk_L 1280 co :: zk_I 24 wh :: zk_I 24 wt :: zk_I 24 ma :: zk_I 24 bk :: zk_L 480 wr :: zk_I 50 lf :: zk_I 50 rt :: r) (fun v w2 => v = some (.int (nI (zc_place (mo_sg L Z co (wt_of x ty)) c n))) ∧ ∃ (wo2 : Nat) (cu2 : Nat → Int64) (le2 lf2 rt2 : Nat → Int32), w2 = (c0 :: c1 :: c2 :: c3 :: c4 :: c5 :: c6 :: c7 :: c8 :: c9 :: c10 :: c11 :: c12 :: c13 :: c14 :: c15 :: c16 :: c17 :: c18 :: c19 :: c20 :: c21 :: c22 :: c23 :: c24 :: zk_Mo n ty wo2 ch :: zk_I 40 tx :: zk_L 20 cu2 :: zk_I 160 le2 :: zk_I 64 la :: zk_I 64 sz :: zk_L 1280 co :: zk_I 24 wh :: zk_I 24 wt :: zk_I 24 ma :: zk_I 24 bk :: zk_L 480 wr :: zk_I 50 lf2 :: zk_I 50 rt2 :: r)) := by
  have key : ∀ k, k ≤ n → ∀ (wo1 : Nat) (cu1 : Nat → Int64) (le1 lf1 rt1 : Nat → Int32), zw_Z G Y_Mo_place (zw_R 3 0 0) (fun _ => True) (zw_Q G 0 0 (fun v w2 => v = some (.int (nI (zc_place (mo_sg L Z co (wt_of x ty)) c n))) ∧ ∃ (wo2 : Nat) (cu2 : Nat → Int64) (le2 lf2 rt2 : Nat → Int32), w2 = (c0 :: c1 :: c2 :: c3 :: c4 :: c5 :: c6 :: c7 :: c8 :: c9 :: c10 :: c11 :: c12 :: c13 :: c14 :: c15 :: c16 :: c17 :: c18 :: c19 :: c20 :: c21 :: c22 :: c23 :: c24 :: zk_Mo n ty wo2 ch :: zk_I 40 tx :: zk_L 20 cu2 :: zk_I 160 le2 :: zk_I 64 la :: zk_I 64 sz :: zk_L 1280 co :: zk_I 24 wh :: zk_I 24 wt :: zk_I 24 ma :: zk_I 24 bk :: zk_L 480 wr :: zk_I 50 lf2 :: zk_I 50 rt2 :: r))) 0 0 4 [some (.ref 26), some (.int (nI c)), some (.int (nI (zc_place (mo_sg L Z co (wt_of x ty)) c k))), some (.int (nI k)), none] [] (c0 :: c1 :: c2 :: c3 :: c4 :: c5 :: c6 :: c7 :: c8 :: c9 :: c10 :: c11 :: c12 :: c13 :: c14 :: c15 :: c16 :: c17 :: c18 :: c19 :: c20 :: c21 :: c22 :: c23 :: c24 :: zk_Mo n ty wo1 ch :: zk_I 40 tx :: zk_L 20 cu1 :: zk_I 160 le1 :: zk_I 64 la :: zk_I 64 sz :: zk_L 1280 co :: zk_I 24 wh :: zk_I 24 wt :: zk_I 24 ma :: zk_I 24 bk :: zk_L 480 wr :: zk_I 50 lf1 :: zk_I 50 rt1 :: r) := by
    refine wz_up n (fun k hk ih => ?_) ?_
    · intro wo1 cu1 le1 lf1 rt1
      refine zr_iload_n dMo_place_4 rfl ?_
      refine zr_aload_n dMo_place_5 rfl rfl ?_
      refine zr_getf g_Mo_50 dMo_place_6 rfl rfl ?_
      refine zr_icmp_geN (tgt := 49) (by omega) (by omega) dMo_place_9 (by decide) (fun h9 => ?_) (fun h9 => ?_)
      · exfalso; omega
      · refine zr_aload_n dMo_place_12 rfl rfl ?_
        refine zr_iload_n dMo_place_13 rfl ?_
        refine zr_iload_n dMo_place_14 rfl ?_
        refine zr_invV (c_Mo_against hla hsz hty hx hx16 hn4 hD hE hN hk hc) m_Mo_against k_Mo_119 v_Mo_against rfl rfl dMo_place_15 rfl (Nat.le_of_ble_eq_true rfl) (by decide) (Nat.le_of_ble_eq_true rfl) rfl (fun v w2 hp => ?_)
        obtain ⟨rfl, wo2, cu2, le2, lf2, rt2, rfl⟩ := hp
        refine ⟨rfl, ?_⟩
        refine zr_istore dMo_place_18 (by decide) ?_
        refine zr_iload dMo_place_20 rfl ?_
        refine zr_if_gt (tgt := 35) dMo_place_22 (by decide) (fun h22 => ?_) (fun h22 => ?_)
        · rw [zc_place_1 (Or.inl h22)] at ih
          refine zr_iload_n dMo_place_35 rfl ?_
          refine zr_iconst (v := nI 1) dMo_place_36 (by decide) ?_
          refine zr_iaddN dMo_place_37 ?_
          refine zr_goto (tgt := 42) dMo_place_38 (by decide) ?_
          refine zr_istore_n dMo_place_42 (by decide) ?_
          refine zr_iinc (v := nI (k + 1)) dMo_place_43 rfl (nI_1 _) (by decide) ?_
          refine zr_goto (tgt := 4) dMo_place_46 (by decide) ?_
          exact zr_mask [true, true, true, true, false] (ih _ _ _ _ _)
        · refine zr_iload dMo_place_25 rfl ?_
          refine zr_if_ne (tgt := 41) dMo_place_27 (by decide) (fun h27 => ?_) (fun h27 => ?_)
          · rw [zc_place_0 (fun q => q.elim h22 (fun z => h27 z.1))] at ih
            refine zr_iload_n dMo_place_41 rfl ?_
            refine zr_istore_n dMo_place_42 (by decide) ?_
            refine zr_iinc (v := nI (k + 1)) dMo_place_43 rfl (nI_1 _) (by decide) ?_
            refine zr_goto (tgt := 4) dMo_place_46 (by decide) ?_
            exact zr_mask [true, true, true, true, false] (ih _ _ _ _ _)
          · refine zr_iload_n dMo_place_30 rfl ?_
            refine zr_iload_n dMo_place_31 rfl ?_
            refine zr_icmp_geN (tgt := 41) (by omega) (by omega) dMo_place_32 (by decide) (fun h32 => ?_) (fun h32 => ?_)
            · rw [zc_place_0 (n := k) (fun q => q.elim h22 (fun z => by omega))] at ih
              refine zr_iload_n dMo_place_41 rfl ?_
              refine zr_istore_n dMo_place_42 (by decide) ?_
              refine zr_iinc (v := nI (k + 1)) dMo_place_43 rfl (nI_1 _) (by decide) ?_
              refine zr_goto (tgt := 4) dMo_place_46 (by decide) ?_
              exact zr_mask [true, true, true, true, false] (ih _ _ _ _ _)
            · rw [zc_place_1 (Or.inr ⟨h27, h32⟩)] at ih
              refine zr_iload_n dMo_place_35 rfl ?_
              refine zr_iconst (v := nI 1) dMo_place_36 (by decide) ?_
              refine zr_iaddN dMo_place_37 ?_
              refine zr_goto (tgt := 42) dMo_place_38 (by decide) ?_
              refine zr_istore_n dMo_place_42 (by decide) ?_
              refine zr_iinc (v := nI (k + 1)) dMo_place_43 rfl (nI_1 _) (by decide) ?_
              refine zr_goto (tgt := 4) dMo_place_46 (by decide) ?_
              exact zr_mask [true, true, true, true, false] (ih _ _ _ _ _)
    · intro wo1 cu1 le1 lf1 rt1
      refine zr_iload_n dMo_place_4 rfl ?_
      refine zr_aload_n dMo_place_5 rfl rfl ?_
      refine zr_getf g_Mo_50 dMo_place_6 rfl rfl ?_
      refine zr_icmp_geN (tgt := 49) (by omega) (by omega) dMo_place_9 (by decide) (fun h9 => ?_) (fun h9 => ?_)
      · refine zr_iload_n dMo_place_49 rfl ?_
        exact zr_ireturn dMo_place_50 rfl rfl (⟨rfl, wo1, cu1, le1, lf1, rt1, rfl⟩)
      · exfalso; omega
  show zw_Z G Y_Mo_place _ _ _ 0 0 0 [some (.ref 26), some (.int (nI c)), none, none, none] [] _
  refine zr_iconst (v := nI 0) dMo_place_0 (by decide) ?_
  refine zr_istore_n dMo_place_1 (by decide) ?_
  refine zr_iconst (v := nI 0) dMo_place_2 (by decide) ?_
  refine zr_istore_n dMo_place_3 (by decide) ?_
  exact key 0 (Nat.zero_le n) _ _ _ _ _
set_option maxHeartbeats 4000000 in
set_option maxRecDepth 100000 in
theorem c_Mo_order {G : zw_G} {c0 c1 c2 c3 c4 c5 c6 c7 c8 c9 c10 c11 c12 c13 c14 c15 c16 c17 c18 c19 c20 c21 c22 c23 c24 : zw_C} {n ty wo ch : Nat} {tx le la sz wh wt ma bk lf rt : Nat → Int32} {cu co wr : Nat → Int64} {r : zw_W} {L : Nat → Nat} (hla : ∀ i, i < 64 → la i = nI (L i) ∧ L i < 1000) {Z : Nat → Nat} (hsz : ∀ i, i < 64 → sz i = nI (Z i) ∧ Z i ≤ 20) {x : Nat → Nat} (hty : ty ≤ 40) (hx : ∀ i, i < ty → tx i = nI (x i)) (hx16 : ∀ i, i < ty → x i < 65536) (hn4 : n ≤ 4) (hD : ∀ c, c < n → mo_D L c ≤ 10) (hE : ∀ c, c < n → mo_E L Z co c ≤ 401) (hN : ∀ c, c < n → ∀ k, k < (wt_of x ty).1 → mo_N L Z co (wt_of x ty) c k ≤ 201) {y : Int32} : zw_Met G Y_Mo_order 4 0 0 [.ref 26, .int y] (c0 :: c1 :: c2 :: c3 :: c4 :: c5 :: c6 :: c7 :: c8 :: c9 :: c10 :: c11 :: c12 :: c13 :: c14 :: c15 :: c16 :: c17 :: c18 :: c19 :: c20 :: c21 :: c22 :: c23 :: c24 :: zk_Mo n ty wo ch :: zk_I 40 tx :: zk_L 20 cu :: zk_I 160 le :: zk_I 64 la :: zk_I 64 sz :: zk_L 1280 co :: zk_I 24 wh :: zk_I 24 wt :: zk_I 24 ma :: zk_I 24 bk :: zk_L 480 wr :: zk_I 50 lf :: zk_I 50 rt :: r) (fun v w2 => (∃ z, v = some (.int z) ∧ zc_at (mo_sg L Z co (wt_of x ty)) n y z) ∧ ∃ (wo2 : Nat) (cu2 : Nat → Int64) (le2 lf2 rt2 : Nat → Int32), w2 = (c0 :: c1 :: c2 :: c3 :: c4 :: c5 :: c6 :: c7 :: c8 :: c9 :: c10 :: c11 :: c12 :: c13 :: c14 :: c15 :: c16 :: c17 :: c18 :: c19 :: c20 :: c21 :: c22 :: c23 :: c24 :: zk_Mo n ty wo2 ch :: zk_I 40 tx :: zk_L 20 cu2 :: zk_I 160 le2 :: zk_I 64 la :: zk_I 64 sz :: zk_L 1280 co :: zk_I 24 wh :: zk_I 24 wt :: zk_I 24 ma :: zk_I 24 bk :: zk_L 480 wr :: zk_I 50 lf2 :: zk_I 50 rt2 :: r)) := by
  have key : ∀ k, k ≤ n → (∀ b, b < k → nI (zc_place (mo_sg L Z co (wt_of x ty)) b n) ≠ y) → ∀ (wo1 : Nat) (cu1 : Nat → Int64) (le1 lf1 rt1 : Nat → Int32), zw_Z G Y_Mo_order (zw_R 4 0 0) (fun _ => True) (zw_Q G 0 0 (fun v w2 => (∃ z, v = some (.int z) ∧ zc_at (mo_sg L Z co (wt_of x ty)) n y z) ∧ ∃ (wo2 : Nat) (cu2 : Nat → Int64) (le2 lf2 rt2 : Nat → Int32), w2 = (c0 :: c1 :: c2 :: c3 :: c4 :: c5 :: c6 :: c7 :: c8 :: c9 :: c10 :: c11 :: c12 :: c13 :: c14 :: c15 :: c16 :: c17 :: c18 :: c19 :: c20 :: c21 :: c22 :: c23 :: c24 :: zk_Mo n ty wo2 ch :: zk_I 40 tx :: zk_L 20 cu2 :: zk_I 160 le2 :: zk_I 64 la :: zk_I 64 sz :: zk_L 1280 co :: zk_I 24 wh :: zk_I 24 wt :: zk_I 24 ma :: zk_I 24 bk :: zk_L 480 wr :: zk_I 50 lf2 :: zk_I 50 rt2 :: r))) 0 0 2 [some (.ref 26), some (.int y), some (.int (nI k))] [] (c0 :: c1 :: c2 :: c3 :: c4 :: c5 :: c6 :: c7 :: c8 :: c9 :: c10 :: c11 :: c12 :: c13 :: c14 :: c15 :: c16 :: c17 :: c18 :: c19 :: c20 :: c21 :: c22 :: c23 :: c24 :: zk_Mo n ty wo1 ch :: zk_I 40 tx :: zk_L 20 cu1 :: zk_I 160 le1 :: zk_I 64 la :: zk_I 64 sz :: zk_L 1280 co :: zk_I 24 wh :: zk_I 24 wt :: zk_I 24 ma :: zk_I 24 bk :: zk_L 480 wr :: zk_I 50 lf1 :: zk_I 50 rt1 :: r) := by
    refine wz_up n (fun k hk ih => ?_) ?_
    · intro hno wo1 cu1 le1 lf1 rt1
      refine zr_iload_n dMo_order_2 rfl ?_
      refine zr_aload_n dMo_order_3 rfl rfl ?_
      refine zr_getf g_Mo_50 dMo_order_4 rfl rfl ?_
      refine zr_icmp_geN (tgt := 27) (by omega) (by omega) dMo_order_7 (by decide) (fun h7 => ?_) (fun h7 => ?_)
      · exfalso; omega
      · refine zr_aload_n dMo_order_10 rfl rfl ?_
        refine zr_iload_n dMo_order_11 rfl ?_
        refine zr_invV (c_Mo_place hla hsz hty hx hx16 hn4 hD hE hN hk) m_Mo_place k_Mo_123 v_Mo_place rfl rfl dMo_order_12 rfl (Nat.le_of_ble_eq_true rfl) (by decide) (Nat.le_of_ble_eq_true rfl) rfl (fun v w2 hp => ?_)
        obtain ⟨rfl, wo2, cu2, le2, lf2, rt2, rfl⟩ := hp
        refine ⟨rfl, ?_⟩
        refine zr_iload_n dMo_order_15 rfl ?_
        refine zr_icmp_ne (tgt := 21) dMo_order_16 (by decide) (fun h16 => ?_) (fun h16 => ?_)
        · refine zr_iinc (v := nI (k + 1)) dMo_order_21 rfl (nI_1 _) (by decide) ?_
          refine zr_goto (tgt := 2) dMo_order_24 (by decide) ?_
          refine ih (fun b hb => ?_) _ _ _ _ _
          by_cases e : b = k
          · rw [e]; exact h16
          · exact hno b (by omega)
        · refine zr_iload_n dMo_order_19 rfl ?_
          exact zr_ireturn dMo_order_20 rfl rfl (⟨⟨_, rfl, Or.inl ⟨k, hk, rfl, h16, hno⟩⟩, wo2, cu2, le2, lf2, rt2, rfl⟩)
    · intro hno wo1 cu1 le1 lf1 rt1
      refine zr_iload_n dMo_order_2 rfl ?_
      refine zr_aload_n dMo_order_3 rfl rfl ?_
      refine zr_getf g_Mo_50 dMo_order_4 rfl rfl ?_
      refine zr_icmp_geN (tgt := 27) (by omega) (by omega) dMo_order_7 (by decide) (fun h7 => ?_) (fun h7 => ?_)
      · refine zr_iconst (v := (-1)) dMo_order_27 (by decide) ?_
        exact zr_ireturn dMo_order_28 rfl rfl (⟨⟨_, rfl, Or.inr ⟨rfl, hno⟩⟩, wo1, cu1, le1, lf1, rt1, rfl⟩)
      · exfalso; omega
  show zw_Z G Y_Mo_order _ _ _ 0 0 0 [some (.ref 26), some (.int y), none] [] _
  refine zr_iconst (v := nI 0) dMo_order_0 (by decide) ?_
  refine zr_istore_n dMo_order_1 (by decide) ?_
  exact key 0 (Nat.zero_le n) (fun b hb => absurd hb (Nat.not_lt_zero b)) _ _ _ _ _
set_option maxHeartbeats 4000000 in
set_option maxRecDepth 100000 in
theorem c_Mo_compare {G : zw_G} {c0 c1 c2 c3 c4 c5 c6 c7 c8 c9 c10 c11 c12 c13 c14 c15 c16 c17 c18 c19 c20 c21 c22 c23 c24 : zw_C} {n ty wo ch : Nat} {tx le la sz wh wt ma bk lf rt : Nat → Int32} {cu co wr : Nat → Int64} {r : zw_W} {L : Nat → Nat} (hla : ∀ i, i < 64 → la i = nI (L i) ∧ L i < 1000) {Z : Nat → Nat} (hsz : ∀ i, i < 64 → sz i = nI (Z i) ∧ Z i ≤ 20) {x : Nat → Nat} (hty : ty ≤ 40) (hx : ∀ i, i < ty → tx i = nI (x i)) (hx16 : ∀ i, i < ty → x i < 65536) (hn4 : n ≤ 4) (hD : ∀ c, c < n → mo_D L c ≤ 10) (hE : ∀ c, c < n → mo_E L Z co c ≤ 401) (hN : ∀ c, c < n → ∀ k, k < (wt_of x ty).1 → mo_N L Z co (wt_of x ty) c k ≤ 201) {a b : Int32} : zw_Met G Y_Mo_compare 3 0 0 [.ref 26, .int a, .int b] (c0 :: c1 :: c2 :: c3 :: c4 :: c5 :: c6 :: c7 :: c8 :: c9 :: c10 :: c11 :: c12 :: c13 :: c14 :: c15 :: c16 :: c17 :: c18 :: c19 :: c20 :: c21 :: c22 :: c23 :: c24 :: zk_Mo n ty wo ch :: zk_I 40 tx :: zk_L 20 cu :: zk_I 160 le :: zk_I 64 la :: zk_I 64 sz :: zk_L 1280 co :: zk_I 24 wh :: zk_I 24 wt :: zk_I 24 ma :: zk_I 24 bk :: zk_L 480 wr :: zk_I 50 lf :: zk_I 50 rt :: r) (fun v w2 => v = some (.int (zf_cmp n (mo_sg L Z co (wt_of x ty)) a b)) ∧ ∃ (wo2 : Nat) (cu2 : Nat → Int64) (le2 lf2 rt2 : Nat → Int32), w2 = (c0 :: c1 :: c2 :: c3 :: c4 :: c5 :: c6 :: c7 :: c8 :: c9 :: c10 :: c11 :: c12 :: c13 :: c14 :: c15 :: c16 :: c17 :: c18 :: c19 :: c20 :: c21 :: c22 :: c23 :: c24 :: zk_Mo n ty wo2 ch :: zk_I 40 tx :: zk_L 20 cu2 :: zk_I 160 le2 :: zk_I 64 la :: zk_I 64 sz :: zk_L 1280 co :: zk_I 24 wh :: zk_I 24 wt :: zk_I 24 ma :: zk_I 24 bk :: zk_L 480 wr :: zk_I 50 lf2 :: zk_I 50 rt2 :: r)) := by
  show zw_Z G Y_Mo_compare _ _ _ 0 0 0 [some (.ref 26), some (.int a), some (.int b)] [] _
  refine zr_aload_n dMo_compare_0 rfl rfl ?_
  refine zr_iload_n dMo_compare_1 rfl ?_
  refine zr_invV (c_Mo_isClass (i := 25) rfl) m_Mo_isClass k_Mo_95 v_Mo_isClass rfl rfl dMo_compare_2 rfl (Nat.le_of_ble_eq_true rfl) (by decide) (Nat.le_of_ble_eq_true rfl) rfl (fun v w2 hp => ?_)
  obtain ⟨rfl, rfl⟩ := hp
  refine ⟨rfl, ?_⟩
  refine zr_if_eqB (tgt := 25) dMo_compare_5 (by decide) (fun h5 => ?_) (fun h5 => ?_)
  · have hv : zf_cmp n (mo_sg L Z co (wt_of x ty)) a b = -2 := if_neg (fun q => h5 q.1)
    have hj : ∃ (wo2 : Nat) (cu2 : Nat → Int64) (le2 lf2 rt2 : Nat → Int32), (c0 :: c1 :: c2 :: c3 :: c4 :: c5 :: c6 :: c7 :: c8 :: c9 :: c10 :: c11 :: c12 :: c13 :: c14 :: c15 :: c16 :: c17 :: c18 :: c19 :: c20 :: c21 :: c22 :: c23 :: c24 :: zk_Mo n ty wo ch :: zk_I 40 tx :: zk_L 20 cu :: zk_I 160 le :: zk_I 64 la :: zk_I 64 sz :: zk_L 1280 co :: zk_I 24 wh :: zk_I 24 wt :: zk_I 24 ma :: zk_I 24 bk :: zk_L 480 wr :: zk_I 50 lf :: zk_I 50 rt :: r) = (c0 :: c1 :: c2 :: c3 :: c4 :: c5 :: c6 :: c7 :: c8 :: c9 :: c10 :: c11 :: c12 :: c13 :: c14 :: c15 :: c16 :: c17 :: c18 :: c19 :: c20 :: c21 :: c22 :: c23 :: c24 :: zk_Mo n ty wo2 ch :: zk_I 40 tx :: zk_L 20 cu2 :: zk_I 160 le2 :: zk_I 64 la :: zk_I 64 sz :: zk_L 1280 co :: zk_I 24 wh :: zk_I 24 wt :: zk_I 24 ma :: zk_I 24 bk :: zk_L 480 wr :: zk_I 50 lf2 :: zk_I 50 rt2 :: r) := ⟨wo, cu, le, lf, rt, rfl⟩
    refine zr_bipush (v := (-2)) dMo_compare_25 (by decide) ?_
    exact zr_ireturn dMo_compare_27 rfl rfl (⟨congrArg (fun x => some (Value.int x)) hv.symm, hj⟩)
  · obtain ⟨ja, hja, rfl⟩ := zf_rng (by omega) h5.1 h5.2
    refine zr_aload_n dMo_compare_8 rfl rfl ?_
    refine zr_iload_n dMo_compare_9 rfl ?_
    refine zr_invV (c_Mo_isClass (i := 25) rfl) m_Mo_isClass k_Mo_95 v_Mo_isClass rfl rfl dMo_compare_10 rfl (Nat.le_of_ble_eq_true rfl) (by decide) (Nat.le_of_ble_eq_true rfl) rfl (fun v w2 hp => ?_)
    obtain ⟨rfl, rfl⟩ := hp
    refine ⟨rfl, ?_⟩
    refine zr_if_eqB (tgt := 25) dMo_compare_13 (by decide) (fun h13 => ?_) (fun h13 => ?_)
    · have hv : zf_cmp n (mo_sg L Z co (wt_of x ty)) (nI ja) b = -2 := if_neg (fun q => h13 q.2)
      have hj : ∃ (wo2 : Nat) (cu2 : Nat → Int64) (le2 lf2 rt2 : Nat → Int32), (c0 :: c1 :: c2 :: c3 :: c4 :: c5 :: c6 :: c7 :: c8 :: c9 :: c10 :: c11 :: c12 :: c13 :: c14 :: c15 :: c16 :: c17 :: c18 :: c19 :: c20 :: c21 :: c22 :: c23 :: c24 :: zk_Mo n ty wo ch :: zk_I 40 tx :: zk_L 20 cu :: zk_I 160 le :: zk_I 64 la :: zk_I 64 sz :: zk_L 1280 co :: zk_I 24 wh :: zk_I 24 wt :: zk_I 24 ma :: zk_I 24 bk :: zk_L 480 wr :: zk_I 50 lf :: zk_I 50 rt :: r) = (c0 :: c1 :: c2 :: c3 :: c4 :: c5 :: c6 :: c7 :: c8 :: c9 :: c10 :: c11 :: c12 :: c13 :: c14 :: c15 :: c16 :: c17 :: c18 :: c19 :: c20 :: c21 :: c22 :: c23 :: c24 :: zk_Mo n ty wo2 ch :: zk_I 40 tx :: zk_L 20 cu2 :: zk_I 160 le2 :: zk_I 64 la :: zk_I 64 sz :: zk_L 1280 co :: zk_I 24 wh :: zk_I 24 wt :: zk_I 24 ma :: zk_I 24 bk :: zk_L 480 wr :: zk_I 50 lf2 :: zk_I 50 rt2 :: r) := ⟨wo, cu, le, lf, rt, rfl⟩
      refine zr_bipush (v := (-2)) dMo_compare_25 (by decide) ?_
      exact zr_ireturn dMo_compare_27 rfl rfl (⟨congrArg (fun x => some (Value.int x)) hv.symm, hj⟩)
    · obtain ⟨jb, hjb, rfl⟩ := zf_rng (by omega) h13.1 h13.2
      have hv : zf_cmp n (mo_sg L Z co (wt_of x ty)) (nI ja) (nI jb) = mo_sg L Z co (wt_of x ty) ja jb := (if_pos ⟨h5, h13⟩).trans (by rw [nI_clamp (by omega), nI_clamp (by omega)])
      refine zr_aload_n dMo_compare_16 rfl rfl ?_
      refine zr_iload_n dMo_compare_17 rfl ?_
      refine zr_iload_n dMo_compare_18 rfl ?_
      refine zr_invV (c_Mo_against hla hsz hty hx hx16 hn4 hD hE hN hja hjb) m_Mo_against k_Mo_119 v_Mo_against rfl rfl dMo_compare_19 rfl (Nat.le_of_ble_eq_true rfl) (by decide) (Nat.le_of_ble_eq_true rfl) rfl (fun v w2 hp => ?_)
      obtain ⟨rfl, wo2, cu2, le2, lf2, rt2, rfl⟩ := hp
      have hj : ∃ (wo9 : Nat) (cu9 : Nat → Int64) (le9 lf9 rt9 : Nat → Int32), (c0 :: c1 :: c2 :: c3 :: c4 :: c5 :: c6 :: c7 :: c8 :: c9 :: c10 :: c11 :: c12 :: c13 :: c14 :: c15 :: c16 :: c17 :: c18 :: c19 :: c20 :: c21 :: c22 :: c23 :: c24 :: zk_Mo n ty wo2 ch :: zk_I 40 tx :: zk_L 20 cu2 :: zk_I 160 le2 :: zk_I 64 la :: zk_I 64 sz :: zk_L 1280 co :: zk_I 24 wh :: zk_I 24 wt :: zk_I 24 ma :: zk_I 24 bk :: zk_L 480 wr :: zk_I 50 lf2 :: zk_I 50 rt2 :: r) = (c0 :: c1 :: c2 :: c3 :: c4 :: c5 :: c6 :: c7 :: c8 :: c9 :: c10 :: c11 :: c12 :: c13 :: c14 :: c15 :: c16 :: c17 :: c18 :: c19 :: c20 :: c21 :: c22 :: c23 :: c24 :: zk_Mo n ty wo9 ch :: zk_I 40 tx :: zk_L 20 cu9 :: zk_I 160 le9 :: zk_I 64 la :: zk_I 64 sz :: zk_L 1280 co :: zk_I 24 wh :: zk_I 24 wt :: zk_I 24 ma :: zk_I 24 bk :: zk_L 480 wr :: zk_I 50 lf9 :: zk_I 50 rt9 :: r) := ⟨wo2, cu2, le2, lf2, rt2, rfl⟩
      refine ⟨rfl, ?_⟩
      refine zr_goto (tgt := 27) dMo_compare_22 (by decide) ?_
      exact zr_ireturn dMo_compare_27 rfl rfl (⟨congrArg (fun x => some (Value.int x)) hv.symm, hj⟩)
set_option maxHeartbeats 4000000 in
set_option maxRecDepth 100000 in
theorem c_Mo_classify {G : zw_G} {c0 c1 c2 c3 c4 c5 c6 c7 c8 c9 c10 c11 c12 c13 c14 c15 c16 c17 c18 c19 c20 c21 c22 c23 c24 : zw_C} {n ty wo ch : Nat} {tx le la sz wh wt ma bk lf rt : Nat → Int32} {cu co wr : Nat → Int64} {r : zw_W} {L : Nat → Nat} (hla : ∀ i, i < 64 → la i = nI (L i) ∧ L i < 1000) {Z : Nat → Nat} (hsz : ∀ i, i < 64 → sz i = nI (Z i) ∧ Z i ≤ 20) {x : Nat → Nat} (hty : ty ≤ 40) (hx : ∀ i, i < ty → tx i = nI (x i)) (hx16 : ∀ i, i < ty → x i < 65536) (hn4 : n ≤ 4) (hD : ∀ c, c < n → mo_D L c ≤ 10) (hE : ∀ c, c < n → mo_E L Z co c ≤ 401) (hN : ∀ c, c < n → ∀ k, k < (wt_of x ty).1 → mo_N L Z co (wt_of x ty) c k ≤ 201) : zw_Met G Y_Mo_classify 5 0 0 [.ref 26] (c0 :: c1 :: c2 :: c3 :: c4 :: c5 :: c6 :: c7 :: c8 :: c9 :: c10 :: c11 :: c12 :: c13 :: c14 :: c15 :: c16 :: c17 :: c18 :: c19 :: c20 :: c21 :: c22 :: c23 :: c24 :: zk_Mo n ty wo ch :: zk_I 40 tx :: zk_L 20 cu :: zk_I 160 le :: zk_I 64 la :: zk_I 64 sz :: zk_L 1280 co :: zk_I 24 wh :: zk_I 24 wt :: zk_I 24 ma :: zk_I 24 bk :: zk_L 480 wr :: zk_I 50 lf :: zk_I 50 rt :: r) (fun v w2 => (∃ z, v = some (.int z) ∧ (mo_size L 32 = 0 → z = -1) ∧ (mo_size L 32 ≠ 0 → zc_at (mo_sg L Z co (wt_of x ty)) n (nI 0) z)) ∧ ∃ (wo2 : Nat) (cu2 : Nat → Int64) (le2 lf2 rt2 : Nat → Int32), w2 = (c0 :: c1 :: c2 :: c3 :: c4 :: c5 :: c6 :: c7 :: c8 :: c9 :: c10 :: c11 :: c12 :: c13 :: c14 :: c15 :: c16 :: c17 :: c18 :: c19 :: c20 :: c21 :: c22 :: c23 :: c24 :: zk_Mo n ty wo2 ch :: zk_I 40 tx :: zk_L 20 cu2 :: zk_I 160 le2 :: zk_I 64 la :: zk_I 64 sz :: zk_L 1280 co :: zk_I 24 wh :: zk_I 24 wt :: zk_I 24 ma :: zk_I 24 bk :: zk_L 480 wr :: zk_I 50 lf2 :: zk_I 50 rt2 :: r)) := by
  show zw_Z G Y_Mo_classify _ _ _ 0 0 0 [some (.ref 26)] [] _
  refine zr_aload_n dMo_classify_0 rfl rfl ?_
  refine zr_invV (c_Mo_inForce hla) m_Mo_inForce k_Mo_76 v_Mo_inForce rfl rfl dMo_classify_1 rfl (Nat.le_of_ble_eq_true rfl) (by decide) (Nat.le_of_ble_eq_true rfl) rfl (fun v w2 hp => ?_)
  obtain ⟨rfl, rfl⟩ := hp
  refine ⟨rfl, ?_⟩
  refine zr_if_neN (tgt := 11) (by have := @mo_size_le L 32; omega) dMo_classify_4 (by decide) (fun h4 => ?_) (fun h4 => ?_)
  · refine zr_aload_n dMo_classify_11 rfl rfl ?_
    refine zr_iconst (v := nI 0) dMo_classify_12 (by decide) ?_
    refine zr_invV (c_Mo_order hla hsz hty hx hx16 hn4 hD hE hN) m_Mo_order k_Mo_126 v_Mo_order rfl rfl dMo_classify_13 rfl (Nat.le_of_ble_eq_true rfl) (by decide) (Nat.le_of_ble_eq_true rfl) rfl (fun v w2 hp => ?_)
    obtain ⟨⟨z, rfl, hz⟩, wo2, cu2, le2, lf2, rt2, rfl⟩ := hp
    refine ⟨rfl, ?_⟩
    exact zr_ireturn dMo_classify_16 rfl rfl (by first | exact ⟨⟨_, rfl, fun _ => rfl, fun q => absurd h4 q⟩, wo, cu, le, lf, rt, rfl⟩ | exact ⟨⟨z, rfl, fun q => absurd q h4, fun _ => hz⟩, wo2, cu2, le2, lf2, rt2, rfl⟩)
  · refine zr_iconst (v := (-1)) dMo_classify_7 (by decide) ?_
    refine zr_goto (tgt := 16) dMo_classify_8 (by decide) ?_
    exact zr_ireturn dMo_classify_16 rfl rfl (by first | exact ⟨⟨_, rfl, fun _ => rfl, fun q => absurd h4 q⟩, wo, cu, le, lf, rt, rfl⟩ | exact ⟨⟨z, rfl, fun q => absurd q h4, fun _ => hz⟩, wo2, cu2, le2, lf2, rt2, rfl⟩)
def mo_train (n : Nat) (L : Nat → Nat) (pb wc : Nat) (id c : Int32) : Int32 :=
  if ¬ ((¬ id < 0 ∧ id < nI 32) ∧ (¬ c < 0 ∧ c < nI n)) then -1
  else if ¬ L id.toNatClampNeg = 0 then -2
  else if mo_size L 32 = 10 then -4
  else if 24 < pb + (1 + (wc + 3) / 4) then -5 else 0
theorem mo_tr2 {n : Nat} {L : Nat → Nat} {pb wc j : Nat} {c : Int32} (hj : j < 32) (h : (¬ nI j < 0 ∧ nI j < nI 32) ∧ (¬ c < 0 ∧ c < nI n)) : mo_train n L pb wc (nI j) c = if ¬ L j = 0 then -2 else if mo_size L 32 = 10 then -4 else if 24 < pb + (1 + (wc + 3) / 4) then -5 else 0 := by
  unfold mo_train
  rw [if_neg (fun q => q h), nI_clamp (by omega)]
set_option maxHeartbeats 4000000 in
set_option maxRecDepth 100000 in
theorem c_Mo_train_no {G : zw_G} {c0 c1 c2 c3 c4 c5 c6 c7 c8 c9 c10 c11 c12 c13 c14 c15 c16 c17 c18 c19 c20 c21 c22 c23 c24 : zw_C} {n ty wo ch : Nat} {tx le la sz wh wt ma bk lf rt : Nat → Int32} {cu co wr : Nat → Int64} {r : zw_W} {L : Nat → Nat} (hla : ∀ i, i < 64 → la i = nI (L i) ∧ L i < 1000) {x : Nat → Nat} (hty : ty ≤ 40) (hx : ∀ i, i < ty → tx i = nI (x i)) (hx16 : ∀ i, i < ty → x i < 65536) {lb : Nat → Nat} (hch : ch ≤ 24) (hbk : ∀ j, j < ch → bk j = nI (lb j)) (hsum : wn_sum lb ch ≤ 24) {id c : Int32} (hno : mo_train n L (wn_sum lb ch) (wt_of x ty).1 id c ≠ 0) : zw_Met G Y_Mo_train 2 0 0 [.ref 26, .int id, .int c] (c0 :: c1 :: c2 :: c3 :: c4 :: c5 :: c6 :: c7 :: c8 :: c9 :: c10 :: c11 :: c12 :: c13 :: c14 :: c15 :: c16 :: c17 :: c18 :: c19 :: c20 :: c21 :: c22 :: c23 :: c24 :: zk_Mo n ty wo ch :: zk_I 40 tx :: zk_L 20 cu :: zk_I 160 le :: zk_I 64 la :: zk_I 64 sz :: zk_L 1280 co :: zk_I 24 wh :: zk_I 24 wt :: zk_I 24 ma :: zk_I 24 bk :: zk_L 480 wr :: zk_I 50 lf :: zk_I 50 rt :: r) (fun v w2 => v = some (.int (mo_train n L (wn_sum lb ch) (wt_of x ty).1 id c)) ∧ ∃ (wo2 : Nat) (cu2 : Nat → Int64) (le2 : Nat → Int32), w2 = (c0 :: c1 :: c2 :: c3 :: c4 :: c5 :: c6 :: c7 :: c8 :: c9 :: c10 :: c11 :: c12 :: c13 :: c14 :: c15 :: c16 :: c17 :: c18 :: c19 :: c20 :: c21 :: c22 :: c23 :: c24 :: zk_Mo n ty wo2 ch :: zk_I 40 tx :: zk_L 20 cu2 :: zk_I 160 le2 :: zk_I 64 la :: zk_I 64 sz :: zk_L 1280 co :: zk_I 24 wh :: zk_I 24 wt :: zk_I 24 ma :: zk_I 24 bk :: zk_L 480 wr :: zk_I 50 lf :: zk_I 50 rt :: r)) := by
  show zw_Z G Y_Mo_train _ _ _ 0 0 0 [some (.ref 26), some (.int id), some (.int c), none] [] _
  refine zr_iload_n dMo_train_0 rfl ?_
  refine zr_invS c_Mo_isId m_Mo_isId k_Mo_72 (s_Mo_isId) dMo_train_1 rfl (Nat.le_of_ble_eq_true rfl) (by decide) (Nat.le_of_ble_eq_true rfl) rfl (fun v w2 hp => ?_)
  obtain ⟨rfl, rfl⟩ := hp
  refine ⟨rfl, ?_⟩
  refine zr_if_eqB (tgt := 19) dMo_train_4 (by decide) (fun h4 => ?_) (fun h4 => ?_)
  · have hv : mo_train n L (wn_sum lb ch) (wt_of x ty).1 id c = -1 := if_pos (fun q => h4 q.1)
    refine zr_iconst (v := (-1)) dMo_train_19 (by decide) ?_
    exact zr_ireturn dMo_train_20 rfl rfl (⟨congrArg (fun x => some (Value.int x)) hv.symm, wo, cu, le, rfl⟩)
  · refine zr_iload_n dMo_train_7 rfl ?_
    refine zr_if_lt (tgt := 19) dMo_train_8 (by decide) (fun h8 => ?_) (fun h8 => ?_)
    · have hv : mo_train n L (wn_sum lb ch) (wt_of x ty).1 id c = -1 := if_pos (fun q => q.2.1 h8)
      refine zr_iconst (v := (-1)) dMo_train_19 (by decide) ?_
      exact zr_ireturn dMo_train_20 rfl rfl (⟨congrArg (fun x => some (Value.int x)) hv.symm, wo, cu, le, rfl⟩)
    · refine zr_iload_n dMo_train_11 rfl ?_
      refine zr_aload_n dMo_train_12 rfl rfl ?_
      refine zr_getf g_Mo_50 dMo_train_13 rfl rfl ?_
      refine zr_icmp_lt (tgt := 21) dMo_train_16 (by decide) (fun h16 => ?_) (fun h16 => ?_)
      · obtain ⟨j, hj, rfl⟩ := zf_rng (by decide) h4.1 h4.2
        have ht := mo_tr2 (L := L) (pb := wn_sum lb ch) (wc := (wt_of x ty).1) (n := n) hj ⟨h4, h8, h16⟩
        refine zr_aload_n dMo_train_21 rfl rfl ?_
        refine zr_getf g_Mo_20 dMo_train_22 rfl rfl ?_
        refine zr_iload_n dMo_train_25 rfl ?_
        refine zr_iald dMo_train_26 rfl (by omega) (by decide) ?_
        refine zr_topI (hla j (by omega)).1 ?_
        refine zr_if_leN (tgt := 33) (by have := (hla j (by omega)).2; omega) dMo_train_27 (by decide) (fun h27 => ?_) (fun h27 => ?_)
        · rw [if_neg (by omega)] at ht
          refine zr_aload_n dMo_train_33 rfl rfl ?_
          refine zr_invV (c_Mo_inForce hla) m_Mo_inForce k_Mo_76 v_Mo_inForce rfl rfl dMo_train_34 rfl (Nat.le_of_ble_eq_true rfl) (by decide) (Nat.le_of_ble_eq_true rfl) rfl (fun v w2 hp => ?_)
          obtain ⟨rfl, rfl⟩ := hp
          refine ⟨rfl, ?_⟩
          refine zr_bipush (v := nI 10) dMo_train_37 (by decide) ?_
          refine zr_icmp_neN (tgt := 45) (by have := @mo_size_le L 32; omega) (by omega) dMo_train_39 (by decide) (fun h39 => ?_) (fun h39 => ?_)
          · rw [if_neg h39] at ht
            refine zr_aload_n dMo_train_45 rfl rfl ?_
            refine zr_invV (c_Mo_read hty hx hx16) m_Mo_read k_Mo_66 v_Mo_read rfl rfl dMo_train_46 rfl (Nat.le_of_ble_eq_true rfl) (by decide) (Nat.le_of_ble_eq_true rfl) rfl (fun v w2 hp => ?_)
            obtain ⟨rfl, cu2, le2, rfl, hmr⟩ := hp
            have hw20 := wt_of_le x hty
            refine ⟨rfl, ?_⟩
            refine zr_iconst (v := nI 1) dMo_train_49 (by decide) ?_
            refine zr_aload_n dMo_train_50 rfl rfl ?_
            refine zr_getf g_Mo_57 dMo_train_51 rfl rfl ?_
            refine zr_iconst (v := nI 3) dMo_train_54 (by decide) ?_
            refine zr_iaddN dMo_train_55 ?_
            refine zr_iconst (v := nI 4) dMo_train_56 (by decide) ?_
            refine zr_idivN (by omega) (by decide) (by decide) dMo_train_57 ?_
            refine zr_iaddN dMo_train_58 ?_
            refine zr_istore_n dMo_train_59 (by decide) ?_
            refine zr_aload_n dMo_train_60 rfl rfl ?_
            refine zr_invV (c_Mo_pending hch hbk) m_Mo_pending k_Mo_80 v_Mo_pending rfl rfl dMo_train_61 rfl (Nat.le_of_ble_eq_true rfl) (by decide) (Nat.le_of_ble_eq_true rfl) rfl (fun v w2 hp => ?_)
            obtain ⟨rfl, rfl⟩ := hp
            refine ⟨rfl, ?_⟩
            refine zr_iload_n dMo_train_64 rfl ?_
            refine zr_iaddN dMo_train_65 ?_
            refine zr_bipush (v := nI 24) dMo_train_66 (by decide) ?_
            refine zr_icmp_leN (tgt := 74) (by omega) (by omega) dMo_train_68 (by decide) (fun h68 => ?_) (fun h68 => ?_)
            · exact absurd (ht.trans (if_neg (by omega))) hno
            · have hv : mo_train n L (wn_sum lb ch) (wt_of x ty).1 (nI j) c = -5 := ht.trans (if_pos (by omega))
              refine zr_bipush (v := (-5)) dMo_train_71 (by decide) ?_
              exact zr_ireturn dMo_train_73 rfl rfl (⟨congrArg (fun x => some (Value.int x)) hv.symm, _, cu2, le2, rfl⟩)
          · have hv : mo_train n L (wn_sum lb ch) (wt_of x ty).1 (nI j) c = -4 := ht.trans (if_pos h39)
            refine zr_bipush (v := (-4)) dMo_train_42 (by decide) ?_
            exact zr_ireturn dMo_train_44 rfl rfl (⟨congrArg (fun x => some (Value.int x)) hv.symm, wo, cu, le, rfl⟩)
        · have hv : mo_train n L (wn_sum lb ch) (wt_of x ty).1 (nI j) c = -2 := ht.trans (if_pos (by omega))
          refine zr_bipush (v := (-2)) dMo_train_30 (by decide) ?_
          exact zr_ireturn dMo_train_32 rfl rfl (⟨congrArg (fun x => some (Value.int x)) hv.symm, wo, cu, le, rfl⟩)
      · have hv : mo_train n L (wn_sum lb ch) (wt_of x ty).1 id c = -1 := if_pos (fun q => h16 q.2.2)
        refine zr_iconst (v := (-1)) dMo_train_19 (by decide) ?_
        exact zr_ireturn dMo_train_20 rfl rfl (⟨congrArg (fun x => some (Value.int x)) hv.symm, wo, cu, le, rfl⟩)
set_option maxHeartbeats 4000000 in
set_option maxRecDepth 100000 in
theorem c_Mo_train_ok {G : zw_G} {c0 c1 c2 c3 c4 c5 c6 c7 c8 c9 c10 c11 c12 c13 c14 c15 c16 c17 c18 c19 c20 c21 c22 c23 c24 : zw_C} {n ty wo ch : Nat} {tx le la sz wh wt ma bk lf rt : Nat → Int32} {cu co wr : Nat → Int64} {r : zw_W} {L : Nat → Nat} (hla : ∀ i, i < 64 → la i = nI (L i) ∧ L i < 1000) {x : Nat → Nat} (hty : ty ≤ 40) (hx : ∀ i, i < ty → tx i = nI (x i)) (hx16 : ∀ i, i < ty → x i < 65536) {lb : Nat → Nat} (hch : ch ≤ 24) (hbk : ∀ j, j < ch → bk j = nI (lb j)) (hsum : wn_sum lb ch ≤ 24) {j c : Nat} (hj : j < 32) (hc : c < n) (hn4 : n ≤ 4) (hg : L j = 0) (hs : mo_size L 32 < 10) (hfit : wn_sum lb ch + (1 + ((wt_of x ty).1 + 3) / 4) ≤ 24) (hch2 : ch < 24) : zw_Met G Y_Mo_train 2 0 0 [.ref 26, .int (nI j), .int (nI c)] (c0 :: c1 :: c2 :: c3 :: c4 :: c5 :: c6 :: c7 :: c8 :: c9 :: c10 :: c11 :: c12 :: c13 :: c14 :: c15 :: c16 :: c17 :: c18 :: c19 :: c20 :: c21 :: c22 :: c23 :: c24 :: zk_Mo n ty wo ch :: zk_I 40 tx :: zk_L 20 cu :: zk_I 160 le :: zk_I 64 la :: zk_I 64 sz :: zk_L 1280 co :: zk_I 24 wh :: zk_I 24 wt :: zk_I 24 ma :: zk_I 24 bk :: zk_L 480 wr :: zk_I 50 lf :: zk_I 50 rt :: r) (fun v w2 => v = some (.int (nI (1 + ((wt_of x ty).1 + 3) / 4))) ∧ ∃ cu2 le2, w2 = (c0 :: c1 :: c2 :: c3 :: c4 :: c5 :: c6 :: c7 :: c8 :: c9 :: c10 :: c11 :: c12 :: c13 :: c14 :: c15 :: c16 :: c17 :: c18 :: c19 :: c20 :: c21 :: c22 :: c23 :: c24 :: zk_Mo n ty (wt_of x ty).1 (ch + 1) :: zk_I 40 tx :: zk_L 20 cu2 :: zk_I 160 le2 :: zk_I 64 (upd la j (upd wt ch (nI (c + 1)) ch)) :: zk_I 64 (upd sz j (upd ma ch (nI (wt_of x ty).1) ch)) :: zk_L 1280 (va_cpy (va_cpy cu2 wr 0 (20 * ch) (wt_of x ty).1) co (20 * ch) (20 * j) (wt_of x ty).1) :: zk_I 24 (upd wh ch (nI j)) :: zk_I 24 (upd wt ch (nI (c + 1))) :: zk_I 24 (upd ma ch (nI (wt_of x ty).1)) :: zk_I 24 (upd bk ch (nI (1 + ((wt_of x ty).1 + 3) / 4))) :: zk_L 480 (va_cpy cu2 wr 0 (20 * ch) (wt_of x ty).1) :: zk_I 50 lf :: zk_I 50 rt :: r) ∧ mr_ok (wt_of x ty) cu2 le2) := by
  show zw_Z G Y_Mo_train _ _ _ 0 0 0 [some (.ref 26), some (.int (nI j)), some (.int (nI c)), none] [] _
  refine zr_iload_n dMo_train_0 rfl ?_
  refine zr_invS c_Mo_isId m_Mo_isId k_Mo_72 (s_Mo_isId) dMo_train_1 rfl (Nat.le_of_ble_eq_true rfl) (by decide) (Nat.le_of_ble_eq_true rfl) rfl (fun v w2 hp => ?_)
  obtain ⟨rfl, rfl⟩ := hp
  refine ⟨rfl, ?_⟩
  refine zr_if_eqB (tgt := 19) dMo_train_4 (by decide) (fun h4 => ?_) (fun h4 => ?_)
  · exact absurd ⟨nI_pos (by omega), nI_lt hj (by decide)⟩ h4
  · refine zr_iload_n dMo_train_7 rfl ?_
    refine zr_if_ltN (tgt := 19) (by omega) dMo_train_8 (by decide) (fun h8 => ?_) (fun h8 => ?_)
    · exact h8.elim
    · refine zr_iload_n dMo_train_11 rfl ?_
      refine zr_aload_n dMo_train_12 rfl rfl ?_
      refine zr_getf g_Mo_50 dMo_train_13 rfl rfl ?_
      refine zr_icmp_ltN (tgt := 21) (by omega) (by omega) dMo_train_16 (by decide) (fun h16 => ?_) (fun h16 => ?_)
      · refine zr_aload_n dMo_train_21 rfl rfl ?_
        refine zr_getf g_Mo_20 dMo_train_22 rfl rfl ?_
        refine zr_iload_n dMo_train_25 rfl ?_
        refine zr_iald dMo_train_26 rfl (by omega) (by decide) ?_
        refine zr_topI (hla j (by omega)).1 ?_
        refine zr_if_leN (tgt := 33) (by have := (hla j (by omega)).2; omega) dMo_train_27 (by decide) (fun h27 => ?_) (fun h27 => ?_)
        · refine zr_aload_n dMo_train_33 rfl rfl ?_
          refine zr_invV (c_Mo_inForce hla) m_Mo_inForce k_Mo_76 v_Mo_inForce rfl rfl dMo_train_34 rfl (Nat.le_of_ble_eq_true rfl) (by decide) (Nat.le_of_ble_eq_true rfl) rfl (fun v w2 hp => ?_)
          obtain ⟨rfl, rfl⟩ := hp
          refine ⟨rfl, ?_⟩
          refine zr_bipush (v := nI 10) dMo_train_37 (by decide) ?_
          refine zr_icmp_neN (tgt := 45) (by have := @mo_size_le L 32; omega) (by omega) dMo_train_39 (by decide) (fun h39 => ?_) (fun h39 => ?_)
          · refine zr_aload_n dMo_train_45 rfl rfl ?_
            refine zr_invV (c_Mo_read hty hx hx16) m_Mo_read k_Mo_66 v_Mo_read rfl rfl dMo_train_46 rfl (Nat.le_of_ble_eq_true rfl) (by decide) (Nat.le_of_ble_eq_true rfl) rfl (fun v w2 hp => ?_)
            obtain ⟨rfl, cu2, le2, rfl, hmr⟩ := hp
            have hw20 := wt_of_le x hty
            refine ⟨rfl, ?_⟩
            refine zr_iconst (v := nI 1) dMo_train_49 (by decide) ?_
            refine zr_aload_n dMo_train_50 rfl rfl ?_
            refine zr_getf g_Mo_57 dMo_train_51 rfl rfl ?_
            refine zr_iconst (v := nI 3) dMo_train_54 (by decide) ?_
            refine zr_iaddN dMo_train_55 ?_
            refine zr_iconst (v := nI 4) dMo_train_56 (by decide) ?_
            refine zr_idivN (by omega) (by decide) (by decide) dMo_train_57 ?_
            refine zr_iaddN dMo_train_58 ?_
            refine zr_istore_n dMo_train_59 (by decide) ?_
            refine zr_aload_n dMo_train_60 rfl rfl ?_
            refine zr_invV (c_Mo_pending hch hbk) m_Mo_pending k_Mo_80 v_Mo_pending rfl rfl dMo_train_61 rfl (Nat.le_of_ble_eq_true rfl) (by decide) (Nat.le_of_ble_eq_true rfl) rfl (fun v w2 hp => ?_)
            obtain ⟨rfl, rfl⟩ := hp
            refine ⟨rfl, ?_⟩
            refine zr_iload_n dMo_train_64 rfl ?_
            refine zr_iaddN dMo_train_65 ?_
            refine zr_bipush (v := nI 24) dMo_train_66 (by decide) ?_
            refine zr_icmp_leN (tgt := 74) (by omega) (by omega) dMo_train_68 (by decide) (fun h68 => ?_) (fun h68 => ?_)
            · refine zr_aload_n dMo_train_74 rfl rfl ?_
              refine zr_iload_n dMo_train_75 rfl ?_
              refine zr_iload_n dMo_train_76 rfl ?_
              refine zr_iconst (v := nI 1) dMo_train_77 (by decide) ?_
              refine zr_iaddN dMo_train_78 ?_
              refine zr_aload_n dMo_train_79 rfl rfl ?_
              refine zr_getf g_Mo_57 dMo_train_80 rfl rfl ?_
              refine zr_iload_n dMo_train_83 rfl ?_
              refine zr_invV (c_Mo_log (by omega) (by omega)) m_Mo_log k_Mo_83 v_Mo_log rfl rfl dMo_train_84 rfl (Nat.le_of_ble_eq_true rfl) (by decide) (Nat.le_of_ble_eq_true rfl) rfl (fun v w2 hp => ?_)
              obtain ⟨rfl, rfl⟩ := hp
              refine ⟨rfl, ?_⟩
              refine zr_aload_n dMo_train_87 rfl rfl ?_
              refine zr_aload_n dMo_train_88 rfl rfl ?_
              refine zr_getf g_Mo_69 dMo_train_89 rfl rfl ?_
              refine zr_iconst (v := nI 1) dMo_train_92 (by decide) ?_
              refine zr_isubN (by omega) dMo_train_93 ?_
              rw [Nat.add_sub_cancel]
              refine zr_invV (c_Mo_apply (c := ch) (li := j) (ln := (wt_of x ty).1) (by omega) pk_us pk_us hj (by omega)) m_Mo_apply k_Mo_87 v_Mo_apply rfl rfl dMo_train_94 rfl (Nat.le_of_ble_eq_true rfl) (by decide) (Nat.le_of_ble_eq_true rfl) rfl (fun v w2 hp => ?_)
              obtain ⟨rfl, rfl⟩ := hp
              refine ⟨rfl, ?_⟩
              refine zr_iload_n dMo_train_97 rfl ?_
              exact zr_ireturn dMo_train_98 rfl rfl (⟨rfl, cu2, le2, rfl, hmr⟩)
            · exfalso; omega
          · exfalso; omega
        · exfalso; omega
      · exfalso; omega
def mo_untrain (L : Nat → Nat) (pb : Nat) (id : Int32) : Int32 :=
  if ¬ (¬ id < 0 ∧ id < nI 32) then -1 else if L id.toNatClampNeg = 0 then -3 else if pb = 24 then -5 else 0
theorem mo_ut {L : Nat → Nat} {pb j : Nat} (hj : j < 32) : mo_untrain L pb (nI j) = if L j = 0 then -3 else if pb = 24 then -5 else 0 := by
  unfold mo_untrain
  rw [if_neg (fun q => q ⟨nI_pos (by omega), nI_lt hj (by decide)⟩), nI_clamp (by omega)]
theorem mo_ge1 {a : Nat} (ha : a < 1000) : 0 ≤ nI a - nI 1 ↔ ¬ a = 0 := by
  constructor
  · intro h e
    subst e
    exact absurd h (by decide)
  · intro h
    rw [pk_sub (by omega)]
    exact nI_pos' (by omega)
set_option maxHeartbeats 4000000 in
set_option maxRecDepth 100000 in
theorem c_Mo_untrain_no {G : zw_G} {c0 c1 c2 c3 c4 c5 c6 c7 c8 c9 c10 c11 c12 c13 c14 c15 c16 c17 c18 c19 c20 c21 c22 c23 c24 : zw_C} {n ty wo ch : Nat} {tx le la sz wh wt ma bk lf rt : Nat → Int32} {cu co wr : Nat → Int64} {r : zw_W} {L : Nat → Nat} (hla : ∀ i, i < 64 → la i = nI (L i) ∧ L i < 1000) {lb : Nat → Nat} (hch : ch ≤ 24) (hbk : ∀ j, j < ch → bk j = nI (lb j)) (hsum : wn_sum lb ch ≤ 24) {id : Int32} (hno : mo_untrain L (wn_sum lb ch) id ≠ 0) : zw_Met G Y_Mo_untrain 1 0 0 [.ref 26, .int id] (c0 :: c1 :: c2 :: c3 :: c4 :: c5 :: c6 :: c7 :: c8 :: c9 :: c10 :: c11 :: c12 :: c13 :: c14 :: c15 :: c16 :: c17 :: c18 :: c19 :: c20 :: c21 :: c22 :: c23 :: c24 :: zk_Mo n ty wo ch :: zk_I 40 tx :: zk_L 20 cu :: zk_I 160 le :: zk_I 64 la :: zk_I 64 sz :: zk_L 1280 co :: zk_I 24 wh :: zk_I 24 wt :: zk_I 24 ma :: zk_I 24 bk :: zk_L 480 wr :: zk_I 50 lf :: zk_I 50 rt :: r) (zw_is (some (.int (mo_untrain L (wn_sum lb ch) id))) (c0 :: c1 :: c2 :: c3 :: c4 :: c5 :: c6 :: c7 :: c8 :: c9 :: c10 :: c11 :: c12 :: c13 :: c14 :: c15 :: c16 :: c17 :: c18 :: c19 :: c20 :: c21 :: c22 :: c23 :: c24 :: zk_Mo n ty wo ch :: zk_I 40 tx :: zk_L 20 cu :: zk_I 160 le :: zk_I 64 la :: zk_I 64 sz :: zk_L 1280 co :: zk_I 24 wh :: zk_I 24 wt :: zk_I 24 ma :: zk_I 24 bk :: zk_L 480 wr :: zk_I 50 lf :: zk_I 50 rt :: r)) := by
  show zw_Z G Y_Mo_untrain _ _ _ 0 0 0 [some (.ref 26), some (.int id), none] [] _
  refine zr_iload_n dMo_untrain_0 rfl ?_
  refine zr_invS c_Mo_isId m_Mo_isId k_Mo_72 (s_Mo_isId) dMo_untrain_1 rfl (Nat.le_of_ble_eq_true rfl) (by decide) (Nat.le_of_ble_eq_true rfl) rfl (fun v w2 hp => ?_)
  obtain ⟨rfl, rfl⟩ := hp
  refine ⟨rfl, ?_⟩
  refine zr_if_neB (tgt := 9) dMo_untrain_4 (by decide) (fun h4 => ?_) (fun h4 => ?_)
  · obtain ⟨j, hj, rfl⟩ := zf_rng (by decide) h4.1 h4.2
    have ht := mo_ut (L := L) (pb := wn_sum lb ch) hj
    have hLj := (hla j (by omega)).2
    refine zr_aload_n dMo_untrain_9 rfl rfl ?_
    refine zr_getf g_Mo_20 dMo_untrain_10 rfl rfl ?_
    refine zr_iload_n dMo_untrain_13 rfl ?_
    refine zr_iald dMo_untrain_14 rfl (by omega) (by decide) ?_
    refine zr_topI (hla j (by omega)).1 ?_
    refine zr_iconst (v := nI 1) dMo_untrain_15 (by decide) ?_
    refine zr_isub dMo_untrain_16 ?_
    refine zr_istore_n dMo_untrain_17 (by decide) ?_
    refine zr_iload_n dMo_untrain_18 rfl ?_
    refine zr_if_ge (tgt := 25) dMo_untrain_19 (by decide) (fun h19 => ?_) (fun h19 => ?_)
    · rw [if_neg ((mo_ge1 hLj).mp h19)] at ht
      refine zr_aload_n dMo_untrain_25 rfl rfl ?_
      refine zr_invV (c_Mo_pending hch hbk) m_Mo_pending k_Mo_80 v_Mo_pending rfl rfl dMo_untrain_26 rfl (Nat.le_of_ble_eq_true rfl) (by decide) (Nat.le_of_ble_eq_true rfl) rfl (fun v w2 hp => ?_)
      obtain ⟨rfl, rfl⟩ := hp
      refine ⟨rfl, ?_⟩
      refine zr_bipush (v := nI 24) dMo_untrain_29 (by decide) ?_
      refine zr_icmp_neN (tgt := 37) (by omega) (by omega) dMo_untrain_31 (by decide) (fun h31 => ?_) (fun h31 => ?_)
      · exact absurd (ht.trans (if_neg h31)) hno
      · have hv : mo_untrain L (wn_sum lb ch) (nI j) = -5 := ht.trans (if_pos h31)
        refine zr_bipush (v := (-5)) dMo_untrain_34 (by decide) ?_
        exact zr_ireturn dMo_untrain_36 rfl rfl (⟨congrArg (fun x => some (Value.int x)) hv.symm, rfl⟩)
    · have hv : mo_untrain L (wn_sum lb ch) (nI j) = -3 := ht.trans (if_pos (Decidable.byContradiction fun q => h19 ((mo_ge1 hLj).mpr q)))
      refine zr_bipush (v := (-3)) dMo_untrain_22 (by decide) ?_
      exact zr_ireturn dMo_untrain_24 rfl rfl (⟨congrArg (fun x => some (Value.int x)) hv.symm, rfl⟩)
  · have hv : mo_untrain L (wn_sum lb ch) id = -1 := if_pos h4
    refine zr_iconst (v := (-1)) dMo_untrain_7 (by decide) ?_
    exact zr_ireturn dMo_untrain_8 rfl rfl (⟨congrArg (fun x => some (Value.int x)) hv.symm, rfl⟩)
set_option maxHeartbeats 4000000 in
set_option maxRecDepth 100000 in
theorem c_Mo_untrain_ok {G : zw_G} {c0 c1 c2 c3 c4 c5 c6 c7 c8 c9 c10 c11 c12 c13 c14 c15 c16 c17 c18 c19 c20 c21 c22 c23 c24 : zw_C} {n ty wo ch : Nat} {tx le la sz wh wt ma bk lf rt : Nat → Int32} {cu co wr : Nat → Int64} {r : zw_W} {L : Nat → Nat} (hla : ∀ i, i < 64 → la i = nI (L i) ∧ L i < 1000) {lb : Nat → Nat} (hch : ch ≤ 24) (hbk : ∀ j, j < ch → bk j = nI (lb j)) (hsum : wn_sum lb ch ≤ 24) {j : Nat} (hj : j < 32) (hg : 0 < L j) (hfit : wn_sum lb ch < 24) (hch2 : ch < 24) : zw_Met G Y_Mo_untrain 1 0 0 [.ref 26, .int (nI j)] (c0 :: c1 :: c2 :: c3 :: c4 :: c5 :: c6 :: c7 :: c8 :: c9 :: c10 :: c11 :: c12 :: c13 :: c14 :: c15 :: c16 :: c17 :: c18 :: c19 :: c20 :: c21 :: c22 :: c23 :: c24 :: zk_Mo n ty wo ch :: zk_I 40 tx :: zk_L 20 cu :: zk_I 160 le :: zk_I 64 la :: zk_I 64 sz :: zk_L 1280 co :: zk_I 24 wh :: zk_I 24 wt :: zk_I 24 ma :: zk_I 24 bk :: zk_L 480 wr :: zk_I 50 lf :: zk_I 50 rt :: r) (zw_is (some (.int (nI (L j - 1)))) (c0 :: c1 :: c2 :: c3 :: c4 :: c5 :: c6 :: c7 :: c8 :: c9 :: c10 :: c11 :: c12 :: c13 :: c14 :: c15 :: c16 :: c17 :: c18 :: c19 :: c20 :: c21 :: c22 :: c23 :: c24 :: zk_Mo n ty wo (ch + 1) :: zk_I 40 tx :: zk_L 20 cu :: zk_I 160 le :: zk_I 64 (upd la j (upd wt ch (nI 0) ch)) :: zk_I 64 (upd sz j (upd ma ch (nI 0) ch)) :: zk_L 1280 (va_cpy (va_cpy cu wr 0 (20 * ch) 0) co (20 * ch) (20 * j) 0) :: zk_I 24 (upd wh ch (nI j)) :: zk_I 24 (upd wt ch (nI 0)) :: zk_I 24 (upd ma ch (nI 0)) :: zk_I 24 (upd bk ch (nI 1)) :: zk_L 480 (va_cpy cu wr 0 (20 * ch) 0) :: zk_I 50 lf :: zk_I 50 rt :: r)) := by
  show zw_Z G Y_Mo_untrain _ _ _ 0 0 0 [some (.ref 26), some (.int (nI j)), none] [] _
  refine zr_iload_n dMo_untrain_0 rfl ?_
  refine zr_invS c_Mo_isId m_Mo_isId k_Mo_72 (s_Mo_isId) dMo_untrain_1 rfl (Nat.le_of_ble_eq_true rfl) (by decide) (Nat.le_of_ble_eq_true rfl) rfl (fun v w2 hp => ?_)
  obtain ⟨rfl, rfl⟩ := hp
  refine ⟨rfl, ?_⟩
  refine zr_if_neB (tgt := 9) dMo_untrain_4 (by decide) (fun h4 => ?_) (fun h4 => ?_)
  · refine zr_aload_n dMo_untrain_9 rfl rfl ?_
    refine zr_getf g_Mo_20 dMo_untrain_10 rfl rfl ?_
    refine zr_iload_n dMo_untrain_13 rfl ?_
    refine zr_iald dMo_untrain_14 rfl (by omega) (by decide) ?_
    refine zr_topI (hla j (by omega)).1 ?_
    refine zr_iconst (v := nI 1) dMo_untrain_15 (by decide) ?_
    refine zr_isubN (by omega) dMo_untrain_16 ?_
    refine zr_istore_n dMo_untrain_17 (by decide) ?_
    refine zr_iload_n dMo_untrain_18 rfl ?_
    refine zr_if_geN (tgt := 25) (by have := (hla j (by omega)).2; omega) dMo_untrain_19 (by decide) (fun h19 => ?_) (fun h19 => ?_)
    · refine zr_aload_n dMo_untrain_25 rfl rfl ?_
      refine zr_invV (c_Mo_pending hch hbk) m_Mo_pending k_Mo_80 v_Mo_pending rfl rfl dMo_untrain_26 rfl (Nat.le_of_ble_eq_true rfl) (by decide) (Nat.le_of_ble_eq_true rfl) rfl (fun v w2 hp => ?_)
      obtain ⟨rfl, rfl⟩ := hp
      refine ⟨rfl, ?_⟩
      refine zr_bipush (v := nI 24) dMo_untrain_29 (by decide) ?_
      refine zr_icmp_neN (tgt := 37) (by omega) (by omega) dMo_untrain_31 (by decide) (fun h31 => ?_) (fun h31 => ?_)
      · refine zr_aload_n dMo_untrain_37 rfl rfl ?_
        refine zr_iload_n dMo_untrain_38 rfl ?_
        refine zr_iconst (v := nI 0) dMo_untrain_39 (by decide) ?_
        refine zr_iconst (v := nI 0) dMo_untrain_40 (by decide) ?_
        refine zr_iconst (v := nI 1) dMo_untrain_41 (by decide) ?_
        refine zr_invV (c_Mo_log (by omega) (by omega)) m_Mo_log k_Mo_83 v_Mo_log rfl rfl dMo_untrain_42 rfl (Nat.le_of_ble_eq_true rfl) (by decide) (Nat.le_of_ble_eq_true rfl) rfl (fun v w2 hp => ?_)
        obtain ⟨rfl, rfl⟩ := hp
        refine ⟨rfl, ?_⟩
        refine zr_aload_n dMo_untrain_45 rfl rfl ?_
        refine zr_aload_n dMo_untrain_46 rfl rfl ?_
        refine zr_getf g_Mo_69 dMo_untrain_47 rfl rfl ?_
        refine zr_iconst (v := nI 1) dMo_untrain_50 (by decide) ?_
        refine zr_isubN (by omega) dMo_untrain_51 ?_
        rw [Nat.add_sub_cancel]
        refine zr_invV (c_Mo_apply (c := ch) (li := j) (ln := 0) (by omega) pk_us pk_us hj (by omega)) m_Mo_apply k_Mo_87 v_Mo_apply rfl rfl dMo_untrain_52 rfl (Nat.le_of_ble_eq_true rfl) (by decide) (Nat.le_of_ble_eq_true rfl) rfl (fun v w2 hp => ?_)
        obtain ⟨rfl, rfl⟩ := hp
        refine ⟨rfl, ?_⟩
        refine zr_iload_n dMo_untrain_55 rfl ?_
        exact zr_ireturn dMo_untrain_56 rfl rfl (⟨rfl, rfl⟩)
      · exfalso; omega
    · exact h19.elim
  · exact absurd ⟨nI_pos (by omega), nI_lt hj (by decide)⟩ h4
set_option maxHeartbeats 4000000 in
set_option maxRecDepth 100000 in
theorem c_Mo_sync {G : zw_G} {c0 c1 c2 c3 c4 c5 c6 c7 c8 c9 c10 c11 c12 c13 c14 c15 c16 c17 c18 c19 c20 c21 c22 c23 c24 : zw_C} {n ty wo ch : Nat} {tx le la sz wh wt ma bk lf rt : Nat → Int32} {cu co wr : Nat → Int64} {r : zw_W} {lb : Nat → Nat} (hch : ch ≤ 24) (hbk : ∀ j, j < ch → bk j = nI (lb j)) : zw_Met G Y_Mo_sync 1 0 0 [.ref 26] ((c0 :: c1 :: c2 :: c3 :: c4 :: c5 :: c6 :: c7 :: c8 :: c9 :: c10 :: c11 :: c12 :: c13 :: c14 :: c15 :: c16 :: c17 :: c18 :: c19 :: c20 :: c21 :: c22 :: c23 :: c24 :: zk_Mo n ty wo ch :: zk_I 40 tx :: zk_L 20 cu :: zk_I 160 le :: zk_I 64 la :: zk_I 64 sz :: zk_L 1280 co :: zk_I 24 wh :: zk_I 24 wt :: zk_I 24 ma :: zk_I 24 bk :: zk_L 480 wr :: zk_I 50 lf :: zk_I 50 rt :: r)) (zw_is (some (.int (nI (wn_sum lb ch)))) (c0 :: c1 :: c2 :: c3 :: c4 :: c5 :: c6 :: c7 :: c8 :: c9 :: c10 :: c11 :: c12 :: c13 :: c14 :: c15 :: c16 :: c17 :: c18 :: c19 :: c20 :: c21 :: c22 :: c23 :: c24 :: zk_Mo n ty wo 0 :: zk_I 40 tx :: zk_L 20 cu :: zk_I 160 le :: zk_I 64 (va_cpy la la 0 32 32) :: zk_I 64 (va_cpy sz sz 0 32 32) :: zk_L 1280 (va_cpy co co (20 * 0) (20 * 32) 640) :: zk_I 24 wh :: zk_I 24 wt :: zk_I 24 ma :: zk_I 24 bk :: zk_L 480 wr :: zk_I 50 lf :: zk_I 50 rt :: r)) := by
  show zw_Z G Y_Mo_sync _ _ _ 0 0 0 [some (.ref 26), none] [] _
  refine zr_aload_n dMo_sync_0 rfl rfl ?_
  refine zr_invV (c_Mo_pending hch hbk) m_Mo_pending k_Mo_80 v_Mo_pending rfl rfl dMo_sync_1 rfl (Nat.le_of_ble_eq_true rfl) (by decide) (Nat.le_of_ble_eq_true rfl) rfl (fun v w2 hp => ?_)
  obtain ⟨rfl, rfl⟩ := hp
  refine ⟨rfl, ?_⟩
  refine zr_istore_n dMo_sync_4 (by decide) ?_
  refine zr_aload_n dMo_sync_5 rfl rfl ?_
  refine zr_iconst (v := nI 0) dMo_sync_6 (by decide) ?_
  refine zr_bipush (v := nI 32) dMo_sync_7 (by decide) ?_
  refine zr_invV (c_Mo_copy (fr := 0) (to := 32) (Or.inl ⟨rfl, rfl⟩)) m_Mo_copy k_Mo_91 v_Mo_copy rfl rfl dMo_sync_9 rfl (Nat.le_of_ble_eq_true rfl) (by decide) (Nat.le_of_ble_eq_true rfl) rfl (fun v w2 hp => ?_)
  obtain ⟨rfl, rfl⟩ := hp
  refine ⟨rfl, ?_⟩
  refine zr_aload_n dMo_sync_12 rfl rfl ?_
  refine zr_iconst (v := nI 0) dMo_sync_13 (by decide) ?_
  refine zr_putf f_Mo_69 dMo_sync_14 rfl (Nat.le_of_ble_eq_true rfl) (fun _ => rfl) (fun _ => rfl) ?_
  refine zr_iload_n dMo_sync_17 rfl ?_
  exact zr_ireturn dMo_sync_18 rfl rfl (⟨rfl, rfl⟩)
set_option maxHeartbeats 4000000 in
set_option maxRecDepth 100000 in
theorem c_Mo_fail {G : zw_G} {c0 c1 c2 c3 c4 c5 c6 c7 c8 c9 c10 c11 c12 c13 c14 c15 c16 c17 c18 c19 c20 c21 c22 c23 c24 : zw_C} {n ty wo ch : Nat} {tx le la sz wh wt ma bk lf rt : Nat → Int32} {cu co wr : Nat → Int64} {r : zw_W} {li ln lb : Nat → Nat} {y : Int32} (hch : ch ≤ 24) (hbk : ∀ j, j < ch → bk j = nI (lb j)) (hsum : wn_sum lb ch ≤ 24) (hwh : ∀ j, j < ch → wh j = nI (li j)) (hma : ∀ j, j < ch → ma j = nI (ln j)) (h32 : ∀ j, j < ch → li j < 32) (hln : ∀ j, j < ch → ln j ≤ 20) : zw_Met G Y_Mo_fail 1 0 0 [.ref 26, .int y] (c0 :: c1 :: c2 :: c3 :: c4 :: c5 :: c6 :: c7 :: c8 :: c9 :: c10 :: c11 :: c12 :: c13 :: c14 :: c15 :: c16 :: c17 :: c18 :: c19 :: c20 :: c21 :: c22 :: c23 :: c24 :: zk_Mo n ty wo ch :: zk_I 40 tx :: zk_L 20 cu :: zk_I 160 le :: zk_I 64 la :: zk_I 64 sz :: zk_L 1280 co :: zk_I 24 wh :: zk_I 24 wt :: zk_I 24 ma :: zk_I 24 bk :: zk_L 480 wr :: zk_I 50 lf :: zk_I 50 rt :: r) (fun v w2 => ∃ k, zl_done ch lb y k ∧ v = some (.int (nI (ch - k))) ∧ w2 = (c0 :: c1 :: c2 :: c3 :: c4 :: c5 :: c6 :: c7 :: c8 :: c9 :: c10 :: c11 :: c12 :: c13 :: c14 :: c15 :: c16 :: c17 :: c18 :: c19 :: c20 :: c21 :: c22 :: c23 :: c24 :: zk_Mo n ty wo 0 :: zk_I 40 tx :: zk_L 20 cu :: zk_I 160 le :: zk_I 64 (va_cpy (zl_app li wt (va_cpy la la 32 0 32) k) (zl_app li wt (va_cpy la la 32 0 32) k) 0 32 32) :: zk_I 64 (va_cpy (zl_app li ma (va_cpy sz sz 32 0 32) k) (zl_app li ma (va_cpy sz sz 32 0 32) k) 0 32 32) :: zk_L 1280 (va_cpy (mo_co li ln wr (va_cpy co co (20 * 32) (20 * 0) 640) k) (mo_co li ln wr (va_cpy co co (20 * 32) (20 * 0) 640) k) (20 * 0) (20 * 32) 640) :: zk_I 24 wh :: zk_I 24 wt :: zk_I 24 ma :: zk_I 24 bk :: zk_L 480 wr :: zk_I 50 lf :: zk_I 50 rt :: r)) := by
  have key : ∀ k, k ≤ ch → k ≤ ch → (∀ j, j < k → (wn_sum lb (j + 1) : Int) ≤ y.toInt) → zw_Z G Y_Mo_fail (zw_R 1 0 0) (fun _ => True) (zw_Q G 0 0 (fun v w2 => ∃ k, zl_done ch lb y k ∧ v = some (.int (nI (ch - k))) ∧ w2 = (c0 :: c1 :: c2 :: c3 :: c4 :: c5 :: c6 :: c7 :: c8 :: c9 :: c10 :: c11 :: c12 :: c13 :: c14 :: c15 :: c16 :: c17 :: c18 :: c19 :: c20 :: c21 :: c22 :: c23 :: c24 :: zk_Mo n ty wo 0 :: zk_I 40 tx :: zk_L 20 cu :: zk_I 160 le :: zk_I 64 (va_cpy (zl_app li wt (va_cpy la la 32 0 32) k) (zl_app li wt (va_cpy la la 32 0 32) k) 0 32 32) :: zk_I 64 (va_cpy (zl_app li ma (va_cpy sz sz 32 0 32) k) (zl_app li ma (va_cpy sz sz 32 0 32) k) 0 32 32) :: zk_L 1280 (va_cpy (mo_co li ln wr (va_cpy co co (20 * 32) (20 * 0) 640) k) (mo_co li ln wr (va_cpy co co (20 * 32) (20 * 0) 640) k) (20 * 0) (20 * 32) 640) :: zk_I 24 wh :: zk_I 24 wt :: zk_I 24 ma :: zk_I 24 bk :: zk_L 480 wr :: zk_I 50 lf :: zk_I 50 rt :: r))) 0 0 11 [some (.ref 26), some (.int y), some (.int (y - nI (wn_sum lb k))), some (.int (nI k)), none] [] (c0 :: c1 :: c2 :: c3 :: c4 :: c5 :: c6 :: c7 :: c8 :: c9 :: c10 :: c11 :: c12 :: c13 :: c14 :: c15 :: c16 :: c17 :: c18 :: c19 :: c20 :: c21 :: c22 :: c23 :: c24 :: zk_Mo n ty wo ch :: zk_I 40 tx :: zk_L 20 cu :: zk_I 160 le :: zk_I 64 (zl_app li wt (va_cpy la la 32 0 32) k) :: zk_I 64 (zl_app li ma (va_cpy sz sz 32 0 32) k) :: zk_L 1280 (mo_co li ln wr (va_cpy co co (20 * 32) (20 * 0) 640) k) :: zk_I 24 wh :: zk_I 24 wt :: zk_I 24 ma :: zk_I 24 bk :: zk_L 480 wr :: zk_I 50 lf :: zk_I 50 rt :: r) := by
    refine wz_up ch (fun k hk ih => ?_) ?_
    · intro hk2 hall
      have hsk : wn_sum lb (k + 1) ≤ 24 := Nat.le_trans (wn_sum_mono hk) hsum
      have hS : wn_sum lb k = 0 ∨ (wn_sum lb k : Int) ≤ y.toInt := by
        cases k with
        | zero => exact Or.inl rfl
        | succ k => exact Or.inr (hall k (by omega))
      refine zr_iload_n dMo_fail_11 rfl ?_
      refine zr_aload_n dMo_fail_12 rfl rfl ?_
      refine zr_getf g_Mo_69 dMo_fail_13 rfl rfl ?_
      refine zr_icmp_geN (tgt := 49) (by omega) (by omega) dMo_fail_16 (by decide) (fun h16 => ?_) (fun h16 => ?_)
      · exfalso; omega
      · refine zr_aload_n dMo_fail_19 rfl rfl ?_
        refine zr_getf g_Mo_38 dMo_fail_20 rfl rfl ?_
        refine zr_iload_n dMo_fail_23 rfl ?_
        refine zr_iald dMo_fail_24 rfl (by omega) (by decide) ?_
        refine zr_topI (hbk k hk) ?_
        refine zr_iload_n dMo_fail_25 rfl ?_
        refine zr_icmp_gt (tgt := 49) dMo_fail_26 (by decide) (fun h26 => ?_) (fun h26 => ?_)
        · refine zr_aload_n dMo_fail_49 rfl rfl ?_
          refine zr_getf g_Mo_69 dMo_fail_50 rfl rfl ?_
          refine zr_iload_n dMo_fail_53 rfl ?_
          refine zr_isubN (by omega) dMo_fail_54 ?_
          refine zr_istore dMo_fail_55 (by decide) ?_
          refine zr_aload_n dMo_fail_57 rfl rfl ?_
          refine zr_iconst (v := nI 0) dMo_fail_58 (by decide) ?_
          refine zr_bipush (v := nI 32) dMo_fail_59 (by decide) ?_
          refine zr_invV (c_Mo_copy (fr := 0) (to := 32) (Or.inl ⟨rfl, rfl⟩)) m_Mo_copy k_Mo_91 v_Mo_copy rfl rfl dMo_fail_61 rfl (Nat.le_of_ble_eq_true rfl) (by decide) (Nat.le_of_ble_eq_true rfl) rfl (fun v w2 hp => ?_)
          obtain ⟨rfl, rfl⟩ := hp
          refine ⟨rfl, ?_⟩
          refine zr_aload_n dMo_fail_64 rfl rfl ?_
          refine zr_iconst (v := nI 0) dMo_fail_65 (by decide) ?_
          refine zr_putf f_Mo_69 dMo_fail_66 rfl (Nat.le_of_ble_eq_true rfl) (fun _ => rfl) (fun _ => rfl) ?_
          refine zr_iload dMo_fail_69 rfl ?_
          exact zr_ireturn dMo_fail_71 rfl rfl (⟨k, ⟨by omega, hall, Or.inr (zl_exit hsk hall hS h26)⟩, rfl, rfl⟩)
        · have hgo := zl_goes hsk hS h26
          have hall2 : ∀ j, j < k + 1 → (wn_sum lb (j + 1) : Int) ≤ y.toInt := fun j hj => by
            by_cases e : j = k
            · rw [e]; exact hgo
            · exact hall j (by omega)
          refine zr_iload_n dMo_fail_29 rfl ?_
          refine zr_aload_n dMo_fail_30 rfl rfl ?_
          refine zr_getf g_Mo_38 dMo_fail_31 rfl rfl ?_
          refine zr_iload_n dMo_fail_34 rfl ?_
          refine zr_iald dMo_fail_35 rfl (by omega) (by decide) ?_
          refine zr_topI (hbk k hk) ?_
          refine zr_isub dMo_fail_36 ?_
          refine zr_topI (zl_sub y _ _) ?_
          refine zr_istore_n dMo_fail_37 (by decide) ?_
          refine zr_aload_n dMo_fail_38 rfl rfl ?_
          refine zr_iload_n dMo_fail_39 rfl ?_
          refine zr_invV (c_Mo_apply (by omega) (hwh k hk) (hma k hk) (h32 k hk) (hln k hk)) m_Mo_apply k_Mo_87 v_Mo_apply rfl rfl dMo_fail_40 rfl (Nat.le_of_ble_eq_true rfl) (by decide) (Nat.le_of_ble_eq_true rfl) rfl (fun v w2 hp => ?_)
          obtain ⟨rfl, rfl⟩ := hp
          refine ⟨rfl, ?_⟩
          refine zr_wld (w2 := (c0 :: c1 :: c2 :: c3 :: c4 :: c5 :: c6 :: c7 :: c8 :: c9 :: c10 :: c11 :: c12 :: c13 :: c14 :: c15 :: c16 :: c17 :: c18 :: c19 :: c20 :: c21 :: c22 :: c23 :: c24 :: zk_Mo n ty wo ch :: zk_I 40 tx :: zk_L 20 cu :: zk_I 160 le :: zk_I 64 (zl_app li wt (va_cpy la la 32 0 32) (k + 1)) :: zk_I 64 (zl_app li ma (va_cpy sz sz 32 0 32) (k + 1)) :: zk_L 1280 (mo_co li ln wr (va_cpy co co (20 * 32) (20 * 0) 640) (k + 1)) :: zk_I 24 wh :: zk_I 24 wt :: zk_I 24 ma :: zk_I 24 bk :: zk_L 480 wr :: zk_I 50 lf :: zk_I 50 rt :: r)) rfl ?_
          refine zr_iinc (v := nI (k + 1)) dMo_fail_43 rfl (nI_1 _) (by decide) ?_
          refine zr_goto (tgt := 11) dMo_fail_46 (by decide) ?_
          exact ih (by omega) hall2
    · intro _ hall
      refine zr_iload_n dMo_fail_11 rfl ?_
      refine zr_aload_n dMo_fail_12 rfl rfl ?_
      refine zr_getf g_Mo_69 dMo_fail_13 rfl rfl ?_
      refine zr_icmp_geN (tgt := 49) (by omega) (by omega) dMo_fail_16 (by decide) (fun h16 => ?_) (fun h16 => ?_)
      · refine zr_aload_n dMo_fail_49 rfl rfl ?_
        refine zr_getf g_Mo_69 dMo_fail_50 rfl rfl ?_
        refine zr_iload_n dMo_fail_53 rfl ?_
        refine zr_isubN (by omega) dMo_fail_54 ?_
        refine zr_istore dMo_fail_55 (by decide) ?_
        refine zr_aload_n dMo_fail_57 rfl rfl ?_
        refine zr_iconst (v := nI 0) dMo_fail_58 (by decide) ?_
        refine zr_bipush (v := nI 32) dMo_fail_59 (by decide) ?_
        refine zr_invV (c_Mo_copy (fr := 0) (to := 32) (Or.inl ⟨rfl, rfl⟩)) m_Mo_copy k_Mo_91 v_Mo_copy rfl rfl dMo_fail_61 rfl (Nat.le_of_ble_eq_true rfl) (by decide) (Nat.le_of_ble_eq_true rfl) rfl (fun v w2 hp => ?_)
        obtain ⟨rfl, rfl⟩ := hp
        refine ⟨rfl, ?_⟩
        refine zr_aload_n dMo_fail_64 rfl rfl ?_
        refine zr_iconst (v := nI 0) dMo_fail_65 (by decide) ?_
        refine zr_putf f_Mo_69 dMo_fail_66 rfl (Nat.le_of_ble_eq_true rfl) (fun _ => rfl) (fun _ => rfl) ?_
        refine zr_iload dMo_fail_69 rfl ?_
        exact zr_ireturn dMo_fail_71 rfl rfl (⟨ch, ⟨Nat.le_refl ch, hall, Or.inl rfl⟩, rfl, rfl⟩)
      · exfalso; omega
  show zw_Z G Y_Mo_fail _ _ _ 0 0 0 [some (.ref 26), some (.int y), none, none, none] [] _
  refine zr_aload_n dMo_fail_0 rfl rfl ?_
  refine zr_bipush (v := nI 32) dMo_fail_1 (by decide) ?_
  refine zr_iconst (v := nI 0) dMo_fail_3 (by decide) ?_
  refine zr_invV (c_Mo_copy (fr := 32) (to := 0) (Or.inr ⟨rfl, rfl⟩)) m_Mo_copy k_Mo_91 v_Mo_copy rfl rfl dMo_fail_4 rfl (Nat.le_of_ble_eq_true rfl) (by decide) (Nat.le_of_ble_eq_true rfl) rfl (fun v w2 hp => ?_)
  obtain ⟨rfl, rfl⟩ := hp
  refine ⟨rfl, ?_⟩
  refine zr_iload_n dMo_fail_7 rfl ?_
  refine zr_topI (zl_sub0 y).symm ?_
  refine zr_istore_n dMo_fail_8 (by decide) ?_
  refine zr_iconst (v := nI 0) dMo_fail_9 (by decide) ?_
  refine zr_istore_n dMo_fail_10 (by decide) ?_
  exact key 0 (Nat.zero_le ch) (Nat.zero_le ch) (fun j hj => absurd hj (Nat.not_lt_zero j))
