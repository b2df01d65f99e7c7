/-! the reference: labels, sizes, contents; the log -/
theorem mo_cpyI {f g : Nat → Int32} {sp dp k : Nat} : upd (va_cpy f g sp dp k) (dp + k) (f (sp + k)) = va_cpy f g sp dp (k + 1) := by
  funext j
  unfold upd va_cpy
  by_cases h : j = dp + k
  · rw [if_pos h, if_pos (by omega), h, Nat.add_sub_cancel_left]
  · rw [if_neg h]
    by_cases h2 : dp ≤ j ∧ j < dp + k
    · rw [if_pos h2, if_pos (by omega)]
    · rw [if_neg h2, if_neg (by omega)]
theorem mo_cpyL {f g : Nat → Int64} {sp dp k : Nat} : vp_updL (va_cpy f g sp dp k) (dp + k) (f (sp + k)) = va_cpy f g sp dp (k + 1) := by
  funext j
  unfold vp_updL va_cpy
  by_cases h : j = dp + k
  · rw [if_pos h, if_pos (by omega), h, Nat.add_sub_cancel_left]
  · rw [if_neg h]
    by_cases h2 : dp ≤ j ∧ j < dp + k
    · rw [if_pos h2, if_pos (by omega)]
    · rw [if_neg h2, if_neg (by omega)]
theorem mo_cpy0 {α : Type} {f g : Nat → α} {sp dp : Nat} : va_cpy f g sp dp 0 = g := by
  funext j
  exact if_neg (by omega)
def mo_size (L : Nat → Nat) (n : Nat) : Nat := wn_sum (fun id => if L id = 0 then 0 else 1) n
def mo_sum (L : Nat → Nat) (c : Nat) (v : Nat → Nat) (n : Nat) : Nat := wn_sum (fun id => if L id = c + 1 then v id else 0) n
theorem mo_size_le {L : Nat → Nat} {n : Nat} : mo_size L n ≤ n := by
  have := wn_sum_le (h := fun id => if L id = 0 then 0 else 1) (b := 1) (n := n) (fun i _ => by split <;> omega)
  unfold mo_size
  omega
theorem mo_size_0 {L : Nat → Nat} {k : Nat} (h : L k = 0) : mo_size L (k + 1) = mo_size L k := by unfold mo_size; rw [wn_sum, if_pos h, Nat.add_zero]
theorem mo_size_1 {L : Nat → Nat} {k : Nat} (h : ¬ L k = 0) : mo_size L (k + 1) = mo_size L k + 1 := by unfold mo_size; rw [wn_sum, if_neg h]
theorem mo_sum_0 {L v : Nat → Nat} {c k : Nat} (h : ¬ L k = c + 1) : mo_sum L c v (k + 1) = mo_sum L c v k := by unfold mo_sum; rw [wn_sum, if_neg h, Nat.add_zero]
theorem mo_sum_1 {L v : Nat → Nat} {c k : Nat} (h : L k = c + 1) : mo_sum L c v (k + 1) = mo_sum L c v k + v k := by unfold mo_sum; rw [wn_sum, if_pos h]
def mo_co (li ln : Nat → Nat) (wr co : Nat → Int64) : Nat → Nat → Int64
  | 0 => co
  | k + 1 => va_cpy wr (mo_co li ln wr co k) (20 * k) (20 * li k) (ln k)
theorem mo_le31 {i : Int32} (h : ¬ nI 31 < i) : i < nI 32 := by
  have h1 := Int32.le_iff_toInt_le.mp (Int32.not_lt.mp h)
  rw [nI_toInt (by decide)] at h1
  apply Int32.lt_iff_toInt_lt.mpr
  rw [nI_toInt (by decide)]
  omega
theorem mo_gt31 {i : Int32} (h : nI 31 < i) : ¬ i < nI 32 := fun q => by
  have h1 := Int32.lt_iff_toInt_lt.mp h
  have h2 := Int32.lt_iff_toInt_lt.mp q
  rw [nI_toInt (by decide)] at h1 h2
  omega
set_option maxHeartbeats 4000000 in
set_option maxRecDepth 100000 in
theorem c_Mo_isId {G : zw_G} {w : zw_W} {x : Int32} : zw_Met G Y_Mo_isId 0 0 0 [.int x] (w) (zw_is (some (.int (zw_b (¬ x < 0 ∧ x < nI 32)))) w) := by
  show zw_Z G Y_Mo_isId _ _ _ 0 0 0 [some (.int x)] [] _
  refine zr_iload_n dMo_isId_0 rfl ?_
  refine zr_if_lt (tgt := 14) dMo_isId_1 (by decide) (fun h1 => ?_) (fun h1 => ?_)
  · have hb : zw_b (¬ x < 0 ∧ x < nI 32) = 0 := zw_b0 (fun q => q.1 h1)
    refine zr_iconst (v := nI 0) dMo_isId_14 (by decide) ?_
    exact zr_ireturn dMo_isId_15 rfl rfl (⟨congrArg (fun x => some (Value.int x)) hb.symm, rfl⟩)
  · refine zr_iload_n dMo_isId_4 rfl ?_
    refine zr_bipush (v := nI 31) dMo_isId_5 (by decide) ?_
    refine zr_icmp_gt (tgt := 14) dMo_isId_7 (by decide) (fun h7 => ?_) (fun h7 => ?_)
    · have hb : zw_b (¬ x < 0 ∧ x < nI 32) = 0 := zw_b0 (fun q => mo_gt31 h7 q.2)
      refine zr_iconst (v := nI 0) dMo_isId_14 (by decide) ?_
      exact zr_ireturn dMo_isId_15 rfl rfl (⟨congrArg (fun x => some (Value.int x)) hb.symm, rfl⟩)
    · have hb : zw_b (¬ x < 0 ∧ x < nI 32) = 1 := zw_b1 ⟨h1, mo_le31 h7⟩
      refine zr_iconst (v := nI 1) dMo_isId_10 (by decide) ?_
      refine zr_goto (tgt := 15) dMo_isId_11 (by decide) ?_
      exact zr_ireturn dMo_isId_15 rfl rfl (⟨congrArg (fun x => some (Value.int x)) hb.symm, rfl⟩)
set_option maxHeartbeats 4000000 in
set_option maxRecDepth 100000 in
theorem c_Mo_isClass {G : zw_G} {w : zw_W} {x : Int32} {i n : Nat} {fs : List Value} (hi : w[i]? = some (.inr (7, .int (nI n) :: fs))) : zw_Met G Y_Mo_isClass 0 0 0 [.ref (i + 1), .int x] (w) (zw_is (some (.int (zw_b (¬ x < 0 ∧ x < nI n)))) w) := by
  show zw_Z G Y_Mo_isClass _ _ _ 0 0 0 [some (.ref (i + 1)), some (.int x)] [] _
  refine zr_iload_n dMo_isClass_0 rfl ?_
  refine zr_if_lt (tgt := 16) dMo_isClass_1 (by decide) (fun h1 => ?_) (fun h1 => ?_)
  · have hb : zw_b (¬ x < 0 ∧ x < nI n) = 0 := zw_b0 (fun q => q.1 h1)
    refine zr_iconst (v := nI 0) dMo_isClass_16 (by decide) ?_
    exact zr_ireturn dMo_isClass_17 rfl rfl (⟨congrArg (fun x => some (Value.int x)) hb.symm, rfl⟩)
  · refine zr_iload_n dMo_isClass_4 rfl ?_
    refine zr_aload_n dMo_isClass_5 rfl rfl ?_
    refine zr_getf g_Mo_50 dMo_isClass_6 hi rfl ?_
    refine zr_icmp_ge (tgt := 16) dMo_isClass_9 (by decide) (fun h9 => ?_) (fun h9 => ?_)
    · have hb : zw_b (¬ x < 0 ∧ x < nI n) = 0 := zw_b0 (fun q => Int32.not_le.mpr q.2 h9)
      refine zr_iconst (v := nI 0) dMo_isClass_16 (by decide) ?_
      exact zr_ireturn dMo_isClass_17 rfl rfl (⟨congrArg (fun x => some (Value.int x)) hb.symm, rfl⟩)
    · have hb : zw_b (¬ x < 0 ∧ x < nI n) = 1 := zw_b1 ⟨h1, Int32.not_le.mp h9⟩
      refine zr_iconst (v := nI 1) dMo_isClass_12 (by decide) ?_
      refine zr_goto (tgt := 17) dMo_isClass_13 (by decide) ?_
      exact zr_ireturn dMo_isClass_17 rfl rfl (⟨congrArg (fun x => some (Value.int x)) hb.symm, rfl⟩)
set_option maxHeartbeats 4000000 in
set_option maxRecDepth 100000 in
theorem c_Mo_inForce {G : zw_G} {c0 c1 c2 c3 c4 c5 c6 c7 c8 c9 c10 c11 c12 c13 c14 c15 c16 c17 c18 c19 c20 c21 c22 c23 c24 : zw_C} {n ty wo ch : Nat} {tx le la sz wh wt ma bk lf rt : Nat → Int32} {cu co wr : Nat → Int64} {r : zw_W} {L : Nat → Nat} (hla : ∀ i, i < 64 → la i = nI (L i) ∧ L i < 1000) : zw_Met G Y_Mo_inForce 0 0 0 [.ref 26] (c0 :: c1 :: c2 :: c3 :: c4 :: c5 :: c6 :: c7 :: c8 :: c9 :: c10 :: c11 :: c12 :: c13 :: c14 :: c15 :: c16 :: c17 :: c18 :: c19 :: c20 :: c21 :: c22 :: c23 :: c24 :: zk_Mo n ty wo ch :: zk_I 40 tx :: zk_L 20 cu :: zk_I 160 le :: zk_I 64 la :: zk_I 64 sz :: zk_L 1280 co :: zk_I 24 wh :: zk_I 24 wt :: zk_I 24 ma :: zk_I 24 bk :: zk_L 480 wr :: zk_I 50 lf :: zk_I 50 rt :: r) (zw_is (some (.int (nI (mo_size L 32)))) (c0 :: c1 :: c2 :: c3 :: c4 :: c5 :: c6 :: c7 :: c8 :: c9 :: c10 :: c11 :: c12 :: c13 :: c14 :: c15 :: c16 :: c17 :: c18 :: c19 :: c20 :: c21 :: c22 :: c23 :: c24 :: zk_Mo n ty wo ch :: zk_I 40 tx :: zk_L 20 cu :: zk_I 160 le :: zk_I 64 la :: zk_I 64 sz :: zk_L 1280 co :: zk_I 24 wh :: zk_I 24 wt :: zk_I 24 ma :: zk_I 24 bk :: zk_L 480 wr :: zk_I 50 lf :: zk_I 50 rt :: r)) := by
  have key : ∀ k, k ≤ 32 → zw_Z G Y_Mo_inForce (zw_R 0 0 0) (fun _ => True) (zw_Q G 0 0 (zw_is (some (.int (nI (mo_size L 32)))) (c0 :: c1 :: c2 :: c3 :: c4 :: c5 :: c6 :: c7 :: c8 :: c9 :: c10 :: c11 :: c12 :: c13 :: c14 :: c15 :: c16 :: c17 :: c18 :: c19 :: c20 :: c21 :: c22 :: c23 :: c24 :: zk_Mo n ty wo ch :: zk_I 40 tx :: zk_L 20 cu :: zk_I 160 le :: zk_I 64 la :: zk_I 64 sz :: zk_L 1280 co :: zk_I 24 wh :: zk_I 24 wt :: zk_I 24 ma :: zk_I 24 bk :: zk_L 480 wr :: zk_I 50 lf :: zk_I 50 rt :: r))) 0 0 4 [some (.ref 26), some (.int (nI (mo_size L k))), some (.int (nI k))] [] (c0 :: c1 :: c2 :: c3 :: c4 :: c5 :: c6 :: c7 :: c8 :: c9 :: c10 :: c11 :: c12 :: c13 :: c14 :: c15 :: c16 :: c17 :: c18 :: c19 :: c20 :: c21 :: c22 :: c23 :: c24 :: zk_Mo n ty wo ch :: zk_I 40 tx :: zk_L 20 cu :: zk_I 160 le :: zk_I 64 la :: zk_I 64 sz :: zk_L 1280 co :: zk_I 24 wh :: zk_I 24 wt :: zk_I 24 ma :: zk_I 24 bk :: zk_L 480 wr :: zk_I 50 lf :: zk_I 50 rt :: r) := by
    refine wz_up 32 (fun k hk ih => ?_) ?_
    · refine zr_iload_n dMo_inForce_4 rfl ?_
      refine zr_bipush (v := nI 32) dMo_inForce_5 (by decide) ?_
      refine zr_icmp_geN (tgt := 33) (by omega) (by omega) dMo_inForce_7 (by decide) (fun h7 => ?_) (fun h7 => ?_)
      · exfalso; omega
      · refine zr_aload_n dMo_inForce_10 rfl rfl ?_
        refine zr_getf g_Mo_20 dMo_inForce_11 rfl rfl ?_
        refine zr_iload_n dMo_inForce_14 rfl ?_
        refine zr_iald dMo_inForce_15 rfl (by omega) (by decide) ?_
        refine zr_topI (hla k (by omega)).1 ?_
        refine zr_if_leN (tgt := 25) (by have := (hla k (by omega)).2; omega) dMo_inForce_16 (by decide) (fun h16 => ?_) (fun h16 => ?_)
        · rw [mo_size_0 h16] at ih
          refine zr_iload_n dMo_inForce_25 rfl ?_
          refine zr_istore_n dMo_inForce_26 (by decide) ?_
          refine zr_iinc (v := nI (k + 1)) dMo_inForce_27 rfl (nI_1 _) (by decide) ?_
          refine zr_goto (tgt := 4) dMo_inForce_30 (by decide) ?_
          exact ih
        · rw [mo_size_1 (k := k) (by omega)] at ih
          refine zr_iload_n dMo_inForce_19 rfl ?_
          refine zr_iconst (v := nI 1) dMo_inForce_20 (by decide) ?_
          refine zr_iaddN dMo_inForce_21 ?_
          refine zr_goto (tgt := 26) dMo_inForce_22 (by decide) ?_
          refine zr_istore_n dMo_inForce_26 (by decide) ?_
          refine zr_iinc (v := nI (k + 1)) dMo_inForce_27 rfl (nI_1 _) (by decide) ?_
          refine zr_goto (tgt := 4) dMo_inForce_30 (by decide) ?_
          exact ih
    · refine zr_iload_n dMo_inForce_4 rfl ?_
      refine zr_bipush (v := nI 32) dMo_inForce_5 (by decide) ?_
      refine zr_icmp_geN (tgt := 33) (by omega) (by omega) dMo_inForce_7 (by decide) (fun h7 => ?_) (fun h7 => ?_)
      · refine zr_iload_n dMo_inForce_33 rfl ?_
        exact zr_ireturn dMo_inForce_34 rfl rfl (⟨rfl, rfl⟩)
      · exfalso; omega
  show zw_Z G Y_Mo_inForce _ _ _ 0 0 0 [some (.ref 26), none, none] [] _
  refine zr_iconst (v := nI 0) dMo_inForce_0 (by decide) ?_
  refine zr_istore_n dMo_inForce_1 (by decide) ?_
  refine zr_iconst (v := nI 0) dMo_inForce_2 (by decide) ?_
  refine zr_istore_n dMo_inForce_3 (by decide) ?_
  exact key 0 (Nat.zero_le 32)
set_option maxHeartbeats 4000000 in
set_option maxRecDepth 100000 in
theorem c_Mo_pending {G : zw_G} {c0 c1 c2 c3 c4 c5 c6 c7 c8 c9 c10 c11 c12 c13 c14 c15 c16 c17 c18 c19 c20 c21 c22 c23 c24 : zw_C} {n ty wo ch : Nat} {tx le la sz wh wt ma bk lf rt : Nat → Int32} {cu co wr : Nat → Int64} {r : zw_W} {lb : Nat → Nat} (hch : ch ≤ 24) (hbk : ∀ j, j < ch → bk j = nI (lb j)) : zw_Met G Y_Mo_pending 0 0 0 [.ref 26] (c0 :: c1 :: c2 :: c3 :: c4 :: c5 :: c6 :: c7 :: c8 :: c9 :: c10 :: c11 :: c12 :: c13 :: c14 :: c15 :: c16 :: c17 :: c18 :: c19 :: c20 :: c21 :: c22 :: c23 :: c24 :: zk_Mo n ty wo ch :: zk_I 40 tx :: zk_L 20 cu :: zk_I 160 le :: zk_I 64 la :: zk_I 64 sz :: zk_L 1280 co :: zk_I 24 wh :: zk_I 24 wt :: zk_I 24 ma :: zk_I 24 bk :: zk_L 480 wr :: zk_I 50 lf :: zk_I 50 rt :: r) (zw_is (some (.int (nI (wn_sum lb ch)))) (c0 :: c1 :: c2 :: c3 :: c4 :: c5 :: c6 :: c7 :: c8 :: c9 :: c10 :: c11 :: c12 :: c13 :: c14 :: c15 :: c16 :: c17 :: c18 :: c19 :: c20 :: c21 :: c22 :: c23 :: c24 :: zk_Mo n ty wo ch :: zk_I 40 tx :: zk_L 20 cu :: zk_I 160 le :: zk_I 64 la :: zk_I 64 sz :: zk_L 1280 co :: zk_I 24 wh :: zk_I 24 wt :: zk_I 24 ma :: zk_I 24 bk :: zk_L 480 wr :: zk_I 50 lf :: zk_I 50 rt :: r)) := by
  have key : ∀ k, k ≤ ch → zw_Z G Y_Mo_pending (zw_R 0 0 0) (fun _ => True) (zw_Q G 0 0 (zw_is (some (.int (nI (wn_sum lb ch)))) (c0 :: c1 :: c2 :: c3 :: c4 :: c5 :: c6 :: c7 :: c8 :: c9 :: c10 :: c11 :: c12 :: c13 :: c14 :: c15 :: c16 :: c17 :: c18 :: c19 :: c20 :: c21 :: c22 :: c23 :: c24 :: zk_Mo n ty wo ch :: zk_I 40 tx :: zk_L 20 cu :: zk_I 160 le :: zk_I 64 la :: zk_I 64 sz :: zk_L 1280 co :: zk_I 24 wh :: zk_I 24 wt :: zk_I 24 ma :: zk_I 24 bk :: zk_L 480 wr :: zk_I 50 lf :: zk_I 50 rt :: r))) 0 0 4 [some (.ref 26), some (.int (nI (wn_sum lb k))), some (.int (nI k))] [] (c0 :: c1 :: c2 :: c3 :: c4 :: c5 :: c6 :: c7 :: c8 :: c9 :: c10 :: c11 :: c12 :: c13 :: c14 :: c15 :: c16 :: c17 :: c18 :: c19 :: c20 :: c21 :: c22 :: c23 :: c24 :: zk_Mo n ty wo ch :: zk_I 40 tx :: zk_L 20 cu :: zk_I 160 le :: zk_I 64 la :: zk_I 64 sz :: zk_L 1280 co :: zk_I 24 wh :: zk_I 24 wt :: zk_I 24 ma :: zk_I 24 bk :: zk_L 480 wr :: zk_I 50 lf :: zk_I 50 rt :: r) := by
    refine wz_up ch (fun k hk ih => ?_) ?_
    · refine zr_iload_n dMo_pending_4 rfl ?_
      refine zr_aload_n dMo_pending_5 rfl rfl ?_
      refine zr_getf g_Mo_69 dMo_pending_6 rfl rfl ?_
      refine zr_icmp_geN (tgt := 27) (by omega) (by omega) dMo_pending_9 (by decide) (fun h9 => ?_) (fun h9 => ?_)
      · exfalso; omega
      · refine zr_iload_n dMo_pending_12 rfl ?_
        refine zr_aload_n dMo_pending_13 rfl rfl ?_
        refine zr_getf g_Mo_38 dMo_pending_14 rfl rfl ?_
        refine zr_iload_n dMo_pending_17 rfl ?_
        refine zr_iald dMo_pending_18 rfl (by omega) (by decide) ?_
        refine zr_topI (hbk k hk) ?_
        refine zr_iaddN dMo_pending_19 ?_
        refine zr_istore_n dMo_pending_20 (by decide) ?_
        refine zr_iinc (v := nI (k + 1)) dMo_pending_21 rfl (nI_1 _) (by decide) ?_
        refine zr_goto (tgt := 4) dMo_pending_24 (by decide) ?_
        exact ih
    · refine zr_iload_n dMo_pending_4 rfl ?_
      refine zr_aload_n dMo_pending_5 rfl rfl ?_
      refine zr_getf g_Mo_69 dMo_pending_6 rfl rfl ?_
      refine zr_icmp_geN (tgt := 27) (by omega) (by omega) dMo_pending_9 (by decide) (fun h9 => ?_) (fun h9 => ?_)
      · refine zr_iload_n dMo_pending_27 rfl ?_
        exact zr_ireturn dMo_pending_28 rfl rfl (⟨rfl, rfl⟩)
      · exfalso; omega
  show zw_Z G Y_Mo_pending _ _ _ 0 0 0 [some (.ref 26), none, none] [] _
  refine zr_iconst (v := nI 0) dMo_pending_0 (by decide) ?_
  refine zr_istore_n dMo_pending_1 (by decide) ?_
  refine zr_iconst (v := nI 0) dMo_pending_2 (by decide) ?_
  refine zr_istore_n dMo_pending_3 (by decide) ?_
  exact key 0 (Nat.zero_le ch)
set_option maxHeartbeats 4000000 in
set_option maxRecDepth 100000 in
theorem c_Mo_log {G : zw_G} {c0 c1 c2 c3 c4 c5 c6 c7 c8 c9 c10 c11 c12 c13 c14 c15 c16 c17 c18 c19 c20 c21 c22 c23 c24 : zw_C} {n ty wo ch : Nat} {tx le la sz wh wt ma bk lf rt : Nat → Int32} {cu co wr : Nat → Int64} {r : zw_W} {id lw nn room : Nat} (hch : ch < 24) (hnn : nn ≤ 20) : zw_Met G Y_Mo_log 0 0 0 [.ref 26, .int (nI id), .int (nI lw), .int (nI nn), .int (nI room)] (c0 :: c1 :: c2 :: c3 :: c4 :: c5 :: c6 :: c7 :: c8 :: c9 :: c10 :: c11 :: c12 :: c13 :: c14 :: c15 :: c16 :: c17 :: c18 :: c19 :: c20 :: c21 :: c22 :: c23 :: c24 :: zk_Mo n ty wo ch :: zk_I 40 tx :: zk_L 20 cu :: zk_I 160 le :: zk_I 64 la :: zk_I 64 sz :: zk_L 1280 co :: zk_I 24 wh :: zk_I 24 wt :: zk_I 24 ma :: zk_I 24 bk :: zk_L 480 wr :: zk_I 50 lf :: zk_I 50 rt :: r) (zw_is none (c0 :: c1 :: c2 :: c3 :: c4 :: c5 :: c6 :: c7 :: c8 :: c9 :: c10 :: c11 :: c12 :: c13 :: c14 :: c15 :: c16 :: c17 :: c18 :: c19 :: c20 :: c21 :: c22 :: c23 :: c24 :: zk_Mo n ty wo (ch + 1) :: zk_I 40 tx :: zk_L 20 cu :: zk_I 160 le :: zk_I 64 la :: zk_I 64 sz :: zk_L 1280 co :: zk_I 24 (upd wh ch (nI id)) :: zk_I 24 (upd wt ch (nI lw)) :: zk_I 24 (upd ma ch (nI nn)) :: zk_I 24 (upd bk ch (nI room)) :: zk_L 480 (va_cpy cu wr 0 (20 * ch) nn) :: zk_I 50 lf :: zk_I 50 rt :: r)) := by
  have key : ∀ k, k ≤ nn → zw_Z G Y_Mo_log (zw_R 0 0 0) (fun _ => True) (zw_Q G 0 0 (zw_is none (c0 :: c1 :: c2 :: c3 :: c4 :: c5 :: c6 :: c7 :: c8 :: c9 :: c10 :: c11 :: c12 :: c13 :: c14 :: c15 :: c16 :: c17 :: c18 :: c19 :: c20 :: c21 :: c22 :: c23 :: c24 :: zk_Mo n ty wo (ch + 1) :: zk_I 40 tx :: zk_L 20 cu :: zk_I 160 le :: zk_I 64 la :: zk_I 64 sz :: zk_L 1280 co :: zk_I 24 (upd wh ch (nI id)) :: zk_I 24 (upd wt ch (nI lw)) :: zk_I 24 (upd ma ch (nI nn)) :: zk_I 24 (upd bk ch (nI room)) :: zk_L 480 (va_cpy cu wr 0 (20 * ch) nn) :: zk_I 50 lf :: zk_I 50 rt :: r))) 0 0 44 [some (.ref 26), some (.int (nI id)), some (.int (nI lw)), some (.int (nI nn)), some (.int (nI room)), some (.int (nI k))] [] (c0 :: c1 :: c2 :: c3 :: c4 :: c5 :: c6 :: c7 :: c8 :: c9 :: c10 :: c11 :: c12 :: c13 :: c14 :: c15 :: c16 :: c17 :: c18 :: c19 :: c20 :: c21 :: c22 :: c23 :: c24 :: zk_Mo n ty wo ch :: zk_I 40 tx :: zk_L 20 cu :: zk_I 160 le :: zk_I 64 la :: zk_I 64 sz :: zk_L 1280 co :: zk_I 24 (upd wh ch (nI id)) :: zk_I 24 (upd wt ch (nI lw)) :: zk_I 24 (upd ma ch (nI nn)) :: zk_I 24 (upd bk ch (nI room)) :: zk_L 480 (va_cpy cu wr 0 (20 * ch) k) :: zk_I 50 lf :: zk_I 50 rt :: r) := by
    refine wz_up nn (fun k hk ih => ?_) ?_
    · refine zr_iload dMo_log_44 rfl ?_
      refine zr_iload_n dMo_log_46 rfl ?_
      refine zr_icmp_geN (tgt := 78) (by omega) (by omega) dMo_log_47 (by decide) (fun h47 => ?_) (fun h47 => ?_)
      · exfalso; omega
      · refine zr_aload_n dMo_log_50 rfl rfl ?_
        refine zr_getf g_Mo_41 dMo_log_51 rfl rfl ?_
        refine zr_bipush (v := nI 20) dMo_log_54 (by decide) ?_
        refine zr_aload_n dMo_log_56 rfl rfl ?_
        refine zr_getf g_Mo_69 dMo_log_57 rfl rfl ?_
        refine zr_imulN dMo_log_60 ?_
        refine zr_iload dMo_log_61 rfl ?_
        refine zr_iaddN dMo_log_63 ?_
        refine zr_aload_n dMo_log_64 rfl rfl ?_
        refine zr_getf g_Mo_13 dMo_log_65 rfl rfl ?_
        refine zr_iload dMo_log_68 rfl ?_
        refine zr_lald dMo_log_70 rfl (by omega) (by decide) ?_
        refine zr_last dMo_log_71 rfl (by omega) (by decide) ?_
        refine zr_wld (w2 := (c0 :: c1 :: c2 :: c3 :: c4 :: c5 :: c6 :: c7 :: c8 :: c9 :: c10 :: c11 :: c12 :: c13 :: c14 :: c15 :: c16 :: c17 :: c18 :: c19 :: c20 :: c21 :: c22 :: c23 :: c24 :: zk_Mo n ty wo ch :: zk_I 40 tx :: zk_L 20 cu :: zk_I 160 le :: zk_I 64 la :: zk_I 64 sz :: zk_L 1280 co :: zk_I 24 (upd wh ch (nI id)) :: zk_I 24 (upd wt ch (nI lw)) :: zk_I 24 (upd ma ch (nI nn)) :: zk_I 24 (upd bk ch (nI room)) :: zk_L 480 (va_cpy cu wr 0 (20 * ch) (k + 1)) :: zk_I 50 lf :: zk_I 50 rt :: r)) (by rw [← mo_cpyL, Nat.zero_add]; rfl) ?_
        refine zr_iinc (v := nI (k + 1)) dMo_log_72 rfl (nI_1 _) (by decide) ?_
        refine zr_goto (tgt := 44) dMo_log_75 (by decide) ?_
        exact ih
    · refine zr_iload dMo_log_44 rfl ?_
      refine zr_iload_n dMo_log_46 rfl ?_
      refine zr_icmp_geN (tgt := 78) (by omega) (by omega) dMo_log_47 (by decide) (fun h47 => ?_) (fun h47 => ?_)
      · refine zr_aload_n dMo_log_78 rfl rfl ?_
        refine zr_dup dMo_log_79 rfl ?_
        refine zr_getf g_Mo_69 dMo_log_80 rfl rfl ?_
        refine zr_iconst (v := nI 1) dMo_log_83 (by decide) ?_
        refine zr_iaddN dMo_log_84 ?_
        refine zr_putf f_Mo_69 dMo_log_85 rfl (Nat.le_of_ble_eq_true rfl) (fun _ => rfl) (fun _ => rfl) ?_
        exact zr_return dMo_log_88 rfl (⟨rfl, rfl⟩)
      · exfalso; omega
  show zw_Z G Y_Mo_log _ _ _ 0 0 0 [some (.ref 26), some (.int (nI id)), some (.int (nI lw)), some (.int (nI nn)), some (.int (nI room)), none] [] _
  refine zr_aload_n dMo_log_0 rfl rfl ?_
  refine zr_getf g_Mo_29 dMo_log_1 rfl rfl ?_
  refine zr_aload_n dMo_log_4 rfl rfl ?_
  refine zr_getf g_Mo_69 dMo_log_5 rfl rfl ?_
  refine zr_iload_n dMo_log_8 rfl ?_
  refine zr_iast dMo_log_9 rfl (hch) (by decide) ?_
  refine zr_aload_n dMo_log_10 rfl rfl ?_
  refine zr_getf g_Mo_32 dMo_log_11 rfl rfl ?_
  refine zr_aload_n dMo_log_14 rfl rfl ?_
  refine zr_getf g_Mo_69 dMo_log_15 rfl rfl ?_
  refine zr_iload_n dMo_log_18 rfl ?_
  refine zr_iast dMo_log_19 rfl (hch) (by decide) ?_
  refine zr_aload_n dMo_log_20 rfl rfl ?_
  refine zr_getf g_Mo_35 dMo_log_21 rfl rfl ?_
  refine zr_aload_n dMo_log_24 rfl rfl ?_
  refine zr_getf g_Mo_69 dMo_log_25 rfl rfl ?_
  refine zr_iload_n dMo_log_28 rfl ?_
  refine zr_iast dMo_log_29 rfl (hch) (by decide) ?_
  refine zr_aload_n dMo_log_30 rfl rfl ?_
  refine zr_getf g_Mo_38 dMo_log_31 rfl rfl ?_
  refine zr_aload_n dMo_log_34 rfl rfl ?_
  refine zr_getf g_Mo_69 dMo_log_35 rfl rfl ?_
  refine zr_iload dMo_log_38 rfl ?_
  refine zr_iast dMo_log_40 rfl (hch) (by decide) ?_
  refine zr_iconst (v := nI 0) dMo_log_41 (by decide) ?_
  refine zr_istore dMo_log_42 (by decide) ?_
  refine zr_wld (w2 := (c0 :: c1 :: c2 :: c3 :: c4 :: c5 :: c6 :: c7 :: c8 :: c9 :: c10 :: c11 :: c12 :: c13 :: c14 :: c15 :: c16 :: c17 :: c18 :: c19 :: c20 :: c21 :: c22 :: c23 :: c24 :: zk_Mo n ty wo ch :: zk_I 40 tx :: zk_L 20 cu :: zk_I 160 le :: zk_I 64 la :: zk_I 64 sz :: zk_L 1280 co :: zk_I 24 (upd wh ch (nI id)) :: zk_I 24 (upd wt ch (nI lw)) :: zk_I 24 (upd ma ch (nI nn)) :: zk_I 24 (upd bk ch (nI room)) :: zk_L 480 (va_cpy cu wr 0 (20 * ch) 0) :: zk_I 50 lf :: zk_I 50 rt :: r)) (by rw [mo_cpy0]; rfl) ?_
  exact key 0 (Nat.zero_le nn)
set_option maxHeartbeats 4000000 in
set_option maxRecDepth 100000 in
theorem c_Mo_apply {G : zw_G} {c0 c1 c2 c3 c4 c5 c6 c7 c8 c9 c10 c11 c12 c13 c14 c15 c16 c17 c18 c19 c20 c21 c22 c23 c24 : zw_C} {n ty wo ch : Nat} {tx le la sz wh wt ma bk lf rt : Nat → Int32} {cu co wr : Nat → Int64} {r : zw_W} {c li ln : Nat} (hc : c < 24) (hwh : wh c = nI li) (hma : ma c = nI ln) (hli : li < 32) (hln : ln ≤ 20) : zw_Met G Y_Mo_apply 0 0 0 [.ref 26, .int (nI c)] (c0 :: c1 :: c2 :: c3 :: c4 :: c5 :: c6 :: c7 :: c8 :: c9 :: c10 :: c11 :: c12 :: c13 :: c14 :: c15 :: c16 :: c17 :: c18 :: c19 :: c20 :: c21 :: c22 :: c23 :: c24 :: zk_Mo n ty wo ch :: zk_I 40 tx :: zk_L 20 cu :: zk_I 160 le :: zk_I 64 la :: zk_I 64 sz :: zk_L 1280 co :: zk_I 24 wh :: zk_I 24 wt :: zk_I 24 ma :: zk_I 24 bk :: zk_L 480 wr :: zk_I 50 lf :: zk_I 50 rt :: r) (zw_is none (c0 :: c1 :: c2 :: c3 :: c4 :: c5 :: c6 :: c7 :: c8 :: c9 :: c10 :: c11 :: c12 :: c13 :: c14 :: c15 :: c16 :: c17 :: c18 :: c19 :: c20 :: c21 :: c22 :: c23 :: c24 :: zk_Mo n ty wo ch :: zk_I 40 tx :: zk_L 20 cu :: zk_I 160 le :: zk_I 64 (upd la li (wt c)) :: zk_I 64 (upd sz li (ma c)) :: zk_L 1280 (va_cpy wr co (20 * c) (20 * li) ln) :: zk_I 24 wh :: zk_I 24 wt :: zk_I 24 ma :: zk_I 24 bk :: zk_L 480 wr :: zk_I 50 lf :: zk_I 50 rt :: r)) := by
  have key : ∀ k, k ≤ ln → zw_Z G Y_Mo_apply (zw_R 0 0 0) (fun _ => True) (zw_Q G 0 0 (zw_is none (c0 :: c1 :: c2 :: c3 :: c4 :: c5 :: c6 :: c7 :: c8 :: c9 :: c10 :: c11 :: c12 :: c13 :: c14 :: c15 :: c16 :: c17 :: c18 :: c19 :: c20 :: c21 :: c22 :: c23 :: c24 :: zk_Mo n ty wo ch :: zk_I 40 tx :: zk_L 20 cu :: zk_I 160 le :: zk_I 64 (upd la li (wt c)) :: zk_I 64 (upd sz li (ma c)) :: zk_L 1280 (va_cpy wr co (20 * c) (20 * li) ln) :: zk_I 24 wh :: zk_I 24 wt :: zk_I 24 ma :: zk_I 24 bk :: zk_L 480 wr :: zk_I 50 lf :: zk_I 50 rt :: r))) 0 0 33 [some (.ref 26), some (.int (nI c)), some (.int (nI li)), some (.int (nI k))] [] (c0 :: c1 :: c2 :: c3 :: c4 :: c5 :: c6 :: c7 :: c8 :: c9 :: c10 :: c11 :: c12 :: c13 :: c14 :: c15 :: c16 :: c17 :: c18 :: c19 :: c20 :: c21 :: c22 :: c23 :: c24 :: zk_Mo n ty wo ch :: zk_I 40 tx :: zk_L 20 cu :: zk_I 160 le :: zk_I 64 (upd la li (wt c)) :: zk_I 64 (upd sz li (ma c)) :: zk_L 1280 (va_cpy wr co (20 * c) (20 * li) k) :: zk_I 24 wh :: zk_I 24 wt :: zk_I 24 ma :: zk_I 24 bk :: zk_L 480 wr :: zk_I 50 lf :: zk_I 50 rt :: r) := by
    refine wz_up ln (fun k hk ih => ?_) ?_
    · refine zr_iload_n dMo_apply_33 rfl ?_
      refine zr_aload_n dMo_apply_34 rfl rfl ?_
      refine zr_getf g_Mo_35 dMo_apply_35 rfl rfl ?_
      refine zr_iload_n dMo_apply_38 rfl ?_
      refine zr_iald dMo_apply_39 rfl (by omega) (by decide) ?_
      refine zr_topI hma ?_
      refine zr_icmp_geN (tgt := 71) (by omega) (by omega) dMo_apply_40 (by decide) (fun h40 => ?_) (fun h40 => ?_)
      · exfalso; omega
      · refine zr_aload_n dMo_apply_43 rfl rfl ?_
        refine zr_getf g_Mo_26 dMo_apply_44 rfl rfl ?_
        refine zr_bipush (v := nI 20) dMo_apply_47 (by decide) ?_
        refine zr_iload_n dMo_apply_49 rfl ?_
        refine zr_imulN dMo_apply_50 ?_
        refine zr_iload_n dMo_apply_51 rfl ?_
        refine zr_iaddN dMo_apply_52 ?_
        refine zr_aload_n dMo_apply_53 rfl rfl ?_
        refine zr_getf g_Mo_41 dMo_apply_54 rfl rfl ?_
        refine zr_bipush (v := nI 20) dMo_apply_57 (by decide) ?_
        refine zr_iload_n dMo_apply_59 rfl ?_
        refine zr_imulN dMo_apply_60 ?_
        refine zr_iload_n dMo_apply_61 rfl ?_
        refine zr_iaddN dMo_apply_62 ?_
        refine zr_lald dMo_apply_63 rfl (by omega) (by decide) ?_
        refine zr_last dMo_apply_64 rfl (by omega) (by decide) ?_
        refine zr_wld (w2 := (c0 :: c1 :: c2 :: c3 :: c4 :: c5 :: c6 :: c7 :: c8 :: c9 :: c10 :: c11 :: c12 :: c13 :: c14 :: c15 :: c16 :: c17 :: c18 :: c19 :: c20 :: c21 :: c22 :: c23 :: c24 :: zk_Mo n ty wo ch :: zk_I 40 tx :: zk_L 20 cu :: zk_I 160 le :: zk_I 64 (upd la li (wt c)) :: zk_I 64 (upd sz li (ma c)) :: zk_L 1280 (va_cpy wr co (20 * c) (20 * li) (k + 1)) :: zk_I 24 wh :: zk_I 24 wt :: zk_I 24 ma :: zk_I 24 bk :: zk_L 480 wr :: zk_I 50 lf :: zk_I 50 rt :: r)) (by rw [← mo_cpyL]; rfl) ?_
        refine zr_iinc (v := nI (k + 1)) dMo_apply_65 rfl (nI_1 _) (by decide) ?_
        refine zr_goto (tgt := 33) dMo_apply_68 (by decide) ?_
        exact ih
    · refine zr_iload_n dMo_apply_33 rfl ?_
      refine zr_aload_n dMo_apply_34 rfl rfl ?_
      refine zr_getf g_Mo_35 dMo_apply_35 rfl rfl ?_
      refine zr_iload_n dMo_apply_38 rfl ?_
      refine zr_iald dMo_apply_39 rfl (by omega) (by decide) ?_
      refine zr_topI hma ?_
      refine zr_icmp_geN (tgt := 71) (by omega) (by omega) dMo_apply_40 (by decide) (fun h40 => ?_) (fun h40 => ?_)
      · exact zr_return dMo_apply_71 rfl (⟨rfl, rfl⟩)
      · exfalso; omega
  show zw_Z G Y_Mo_apply _ _ _ 0 0 0 [some (.ref 26), some (.int (nI c)), none, none] [] _
  refine zr_aload_n dMo_apply_0 rfl rfl ?_
  refine zr_getf g_Mo_29 dMo_apply_1 rfl rfl ?_
  refine zr_iload_n dMo_apply_4 rfl ?_
  refine zr_iald dMo_apply_5 rfl (by omega) (by decide) ?_
  refine zr_topI hwh ?_
  refine zr_istore_n dMo_apply_6 (by decide) ?_
  refine zr_aload_n dMo_apply_7 rfl rfl ?_
  refine zr_getf g_Mo_20 dMo_apply_8 rfl rfl ?_
  refine zr_iload_n dMo_apply_11 rfl ?_
  refine zr_aload_n dMo_apply_12 rfl rfl ?_
  refine zr_getf g_Mo_32 dMo_apply_13 rfl rfl ?_
  refine zr_iload_n dMo_apply_16 rfl ?_
  refine zr_iald dMo_apply_17 rfl (by omega) (by decide) ?_
  refine zr_iast dMo_apply_18 rfl (by omega) (by decide) ?_
  refine zr_aload_n dMo_apply_19 rfl rfl ?_
  refine zr_getf g_Mo_23 dMo_apply_20 rfl rfl ?_
  refine zr_iload_n dMo_apply_23 rfl ?_
  refine zr_aload_n dMo_apply_24 rfl rfl ?_
  refine zr_getf g_Mo_35 dMo_apply_25 rfl rfl ?_
  refine zr_iload_n dMo_apply_28 rfl ?_
  refine zr_iald dMo_apply_29 rfl (by omega) (by decide) ?_
  refine zr_iast dMo_apply_30 rfl (by omega) (by decide) ?_
  refine zr_iconst (v := nI 0) dMo_apply_31 (by decide) ?_
  refine zr_istore_n dMo_apply_32 (by decide) ?_
  refine zr_wld (w2 := (c0 :: c1 :: c2 :: c3 :: c4 :: c5 :: c6 :: c7 :: c8 :: c9 :: c10 :: c11 :: c12 :: c13 :: c14 :: c15 :: c16 :: c17 :: c18 :: c19 :: c20 :: c21 :: c22 :: c23 :: c24 :: zk_Mo n ty wo ch :: zk_I 40 tx :: zk_L 20 cu :: zk_I 160 le :: zk_I 64 (upd la li (wt c)) :: zk_I 64 (upd sz li (ma c)) :: zk_L 1280 (va_cpy wr co (20 * c) (20 * li) 0) :: zk_I 24 wh :: zk_I 24 wt :: zk_I 24 ma :: zk_I 24 bk :: zk_L 480 wr :: zk_I 50 lf :: zk_I 50 rt :: r)) (by rw [mo_cpy0]; rfl) ?_
  exact key 0 (Nat.zero_le ln)
set_option maxHeartbeats 4000000 in
set_option maxRecDepth 100000 in
theorem c_Mo_copy {G : zw_G} {c0 c1 c2 c3 c4 c5 c6 c7 c8 c9 c10 c11 c12 c13 c14 c15 c16 c17 c18 c19 c20 c21 c22 c23 c24 : zw_C} {n ty wo ch : Nat} {tx le la sz wh wt ma bk lf rt : Nat → Int32} {cu co wr : Nat → Int64} {r : zw_W} {fr to : Nat} (hft : fr = 0 ∧ to = 32 ∨ fr = 32 ∧ to = 0) : zw_Met G Y_Mo_copy 0 0 0 [.ref 26, .int (nI fr), .int (nI to)] (c0 :: c1 :: c2 :: c3 :: c4 :: c5 :: c6 :: c7 :: c8 :: c9 :: c10 :: c11 :: c12 :: c13 :: c14 :: c15 :: c16 :: c17 :: c18 :: c19 :: c20 :: c21 :: c22 :: c23 :: c24 :: zk_Mo n ty wo ch :: zk_I 40 tx :: zk_L 20 cu :: zk_I 160 le :: zk_I 64 la :: zk_I 64 sz :: zk_L 1280 co :: zk_I 24 wh :: zk_I 24 wt :: zk_I 24 ma :: zk_I 24 bk :: zk_L 480 wr :: zk_I 50 lf :: zk_I 50 rt :: r) (zw_is none (c0 :: c1 :: c2 :: c3 :: c4 :: c5 :: c6 :: c7 :: c8 :: c9 :: c10 :: c11 :: c12 :: c13 :: c14 :: c15 :: c16 :: c17 :: c18 :: c19 :: c20 :: c21 :: c22 :: c23 :: c24 :: zk_Mo n ty wo ch :: zk_I 40 tx :: zk_L 20 cu :: zk_I 160 le :: zk_I 64 (va_cpy la la fr to 32) :: zk_I 64 (va_cpy sz sz fr to 32) :: zk_L 1280 (va_cpy co co (20 * fr) (20 * to) 640) :: zk_I 24 wh :: zk_I 24 wt :: zk_I 24 ma :: zk_I 24 bk :: zk_L 480 wr :: zk_I 50 lf :: zk_I 50 rt :: r)) := by
  have key2 : ∀ k, k ≤ 640 → zw_Z G Y_Mo_copy (zw_R 0 0 0) (fun _ => True) (zw_Q G 0 0 (zw_is none (c0 :: c1 :: c2 :: c3 :: c4 :: c5 :: c6 :: c7 :: c8 :: c9 :: c10 :: c11 :: c12 :: c13 :: c14 :: c15 :: c16 :: c17 :: c18 :: c19 :: c20 :: c21 :: c22 :: c23 :: c24 :: zk_Mo n ty wo ch :: zk_I 40 tx :: zk_L 20 cu :: zk_I 160 le :: zk_I 64 (va_cpy la la fr to 32) :: zk_I 64 (va_cpy sz sz fr to 32) :: zk_L 1280 (va_cpy co co (20 * fr) (20 * to) 640) :: zk_I 24 wh :: zk_I 24 wt :: zk_I 24 ma :: zk_I 24 bk :: zk_L 480 wr :: zk_I 50 lf :: zk_I 50 rt :: r))) 0 0 48 [some (.ref 26), some (.int (nI fr)), some (.int (nI to)), some (.int (nI k))] [] (c0 :: c1 :: c2 :: c3 :: c4 :: c5 :: c6 :: c7 :: c8 :: c9 :: c10 :: c11 :: c12 :: c13 :: c14 :: c15 :: c16 :: c17 :: c18 :: c19 :: c20 :: c21 :: c22 :: c23 :: c24 :: zk_Mo n ty wo ch :: zk_I 40 tx :: zk_L 20 cu :: zk_I 160 le :: zk_I 64 (va_cpy la la fr to 32) :: zk_I 64 (va_cpy sz sz fr to 32) :: zk_L 1280 (va_cpy co co (20 * fr) (20 * to) k) :: zk_I 24 wh :: zk_I 24 wt :: zk_I 24 ma :: zk_I 24 bk :: zk_L 480 wr :: zk_I 50 lf :: zk_I 50 rt :: r) := by
    refine wz_up 640 (fun k hk ih => ?_) ?_
    · refine zr_iload_n dMo_copy_48 rfl ?_
      refine zr_sipush (v := nI 640) dMo_copy_49 (by decide) ?_
      refine zr_icmp_geN (tgt := 83) (by omega) (by omega) dMo_copy_52 (by decide) (fun h52 => ?_) (fun h52 => ?_)
      · exfalso; omega
      · refine zr_aload_n dMo_copy_55 rfl rfl ?_
        refine zr_getf g_Mo_26 dMo_copy_56 rfl rfl ?_
        refine zr_bipush (v := nI 20) dMo_copy_59 (by decide) ?_
        refine zr_iload_n dMo_copy_61 rfl ?_
        refine zr_imulN dMo_copy_62 ?_
        refine zr_iload_n dMo_copy_63 rfl ?_
        refine zr_iaddN dMo_copy_64 ?_
        refine zr_aload_n dMo_copy_65 rfl rfl ?_
        refine zr_getf g_Mo_26 dMo_copy_66 rfl rfl ?_
        refine zr_bipush (v := nI 20) dMo_copy_69 (by decide) ?_
        refine zr_iload_n dMo_copy_71 rfl ?_
        refine zr_imulN dMo_copy_72 ?_
        refine zr_iload_n dMo_copy_73 rfl ?_
        refine zr_iaddN dMo_copy_74 ?_
        refine zr_lald dMo_copy_75 rfl (by omega) (by decide) ?_
        refine zr_topL (show va_cpy co co (20 * fr) (20 * to) k (20 * fr + k) = co (20 * fr + k) from pk_cpy_out (by omega)) ?_
        refine zr_last dMo_copy_76 rfl (by omega) (by decide) ?_
        refine zr_wld (w2 := (c0 :: c1 :: c2 :: c3 :: c4 :: c5 :: c6 :: c7 :: c8 :: c9 :: c10 :: c11 :: c12 :: c13 :: c14 :: c15 :: c16 :: c17 :: c18 :: c19 :: c20 :: c21 :: c22 :: c23 :: c24 :: zk_Mo n ty wo ch :: zk_I 40 tx :: zk_L 20 cu :: zk_I 160 le :: zk_I 64 (va_cpy la la fr to 32) :: zk_I 64 (va_cpy sz sz fr to 32) :: zk_L 1280 (va_cpy co co (20 * fr) (20 * to) (k + 1)) :: zk_I 24 wh :: zk_I 24 wt :: zk_I 24 ma :: zk_I 24 bk :: zk_L 480 wr :: zk_I 50 lf :: zk_I 50 rt :: r)) (by rw [← mo_cpyL]; rfl) ?_
        refine zr_iinc (v := nI (k + 1)) dMo_copy_77 rfl (nI_1 _) (by decide) ?_
        refine zr_goto (tgt := 48) dMo_copy_80 (by decide) ?_
        exact ih
    · refine zr_iload_n dMo_copy_48 rfl ?_
      refine zr_sipush (v := nI 640) dMo_copy_49 (by decide) ?_
      refine zr_icmp_geN (tgt := 83) (by omega) (by omega) dMo_copy_52 (by decide) (fun h52 => ?_) (fun h52 => ?_)
      · exact zr_return dMo_copy_83 rfl (⟨rfl, rfl⟩)
      · exfalso; omega
  have key1 : ∀ k, k ≤ 32 → zw_Z G Y_Mo_copy (zw_R 0 0 0) (fun _ => True) (zw_Q G 0 0 (zw_is none (c0 :: c1 :: c2 :: c3 :: c4 :: c5 :: c6 :: c7 :: c8 :: c9 :: c10 :: c11 :: c12 :: c13 :: c14 :: c15 :: c16 :: c17 :: c18 :: c19 :: c20 :: c21 :: c22 :: c23 :: c24 :: zk_Mo n ty wo ch :: zk_I 40 tx :: zk_L 20 cu :: zk_I 160 le :: zk_I 64 (va_cpy la la fr to 32) :: zk_I 64 (va_cpy sz sz fr to 32) :: zk_L 1280 (va_cpy co co (20 * fr) (20 * to) 640) :: zk_I 24 wh :: zk_I 24 wt :: zk_I 24 ma :: zk_I 24 bk :: zk_L 480 wr :: zk_I 50 lf :: zk_I 50 rt :: r))) 0 0 2 [some (.ref 26), some (.int (nI fr)), some (.int (nI to)), some (.int (nI k))] [] (c0 :: c1 :: c2 :: c3 :: c4 :: c5 :: c6 :: c7 :: c8 :: c9 :: c10 :: c11 :: c12 :: c13 :: c14 :: c15 :: c16 :: c17 :: c18 :: c19 :: c20 :: c21 :: c22 :: c23 :: c24 :: zk_Mo n ty wo ch :: zk_I 40 tx :: zk_L 20 cu :: zk_I 160 le :: zk_I 64 (va_cpy la la fr to k) :: zk_I 64 (va_cpy sz sz fr to k) :: zk_L 1280 (va_cpy co co (20 * fr) (20 * to) 0) :: zk_I 24 wh :: zk_I 24 wt :: zk_I 24 ma :: zk_I 24 bk :: zk_L 480 wr :: zk_I 50 lf :: zk_I 50 rt :: r) := by
    refine wz_up 32 (fun k hk ih => ?_) ?_
    · refine zr_iload_n dMo_copy_2 rfl ?_
      refine zr_bipush (v := nI 32) dMo_copy_3 (by decide) ?_
      refine zr_icmp_geN (tgt := 46) (by omega) (by omega) dMo_copy_5 (by decide) (fun h5 => ?_) (fun h5 => ?_)
      · exfalso; omega
      · refine zr_aload_n dMo_copy_8 rfl rfl ?_
        refine zr_getf g_Mo_20 dMo_copy_9 rfl rfl ?_
        refine zr_iload_n dMo_copy_12 rfl ?_
        refine zr_iload_n dMo_copy_13 rfl ?_
        refine zr_iaddN dMo_copy_14 ?_
        refine zr_aload_n dMo_copy_15 rfl rfl ?_
        refine zr_getf g_Mo_20 dMo_copy_16 rfl rfl ?_
        refine zr_iload_n dMo_copy_19 rfl ?_
        refine zr_iload_n dMo_copy_20 rfl ?_
        refine zr_iaddN dMo_copy_21 ?_
        refine zr_iald dMo_copy_22 rfl (by omega) (by decide) ?_
        refine zr_topI (show va_cpy la la fr to k (fr + k) = la (fr + k) from pk_cpy_out (by omega)) ?_
        refine zr_iast dMo_copy_23 rfl (by omega) (by decide) ?_
        refine zr_aload_n dMo_copy_24 rfl rfl ?_
        refine zr_getf g_Mo_23 dMo_copy_25 rfl rfl ?_
        refine zr_iload_n dMo_copy_28 rfl ?_
        refine zr_iload_n dMo_copy_29 rfl ?_
        refine zr_iaddN dMo_copy_30 ?_
        refine zr_aload_n dMo_copy_31 rfl rfl ?_
        refine zr_getf g_Mo_23 dMo_copy_32 rfl rfl ?_
        refine zr_iload_n dMo_copy_35 rfl ?_
        refine zr_iload_n dMo_copy_36 rfl ?_
        refine zr_iaddN dMo_copy_37 ?_
        refine zr_iald dMo_copy_38 rfl (by omega) (by decide) ?_
        refine zr_topI (show va_cpy sz sz fr to k (fr + k) = sz (fr + k) from pk_cpy_out (by omega)) ?_
        refine zr_iast dMo_copy_39 rfl (by omega) (by decide) ?_
        refine zr_wld (w2 := (c0 :: c1 :: c2 :: c3 :: c4 :: c5 :: c6 :: c7 :: c8 :: c9 :: c10 :: c11 :: c12 :: c13 :: c14 :: c15 :: c16 :: c17 :: c18 :: c19 :: c20 :: c21 :: c22 :: c23 :: c24 :: zk_Mo n ty wo ch :: zk_I 40 tx :: zk_L 20 cu :: zk_I 160 le :: zk_I 64 (va_cpy la la fr to (k + 1)) :: zk_I 64 (va_cpy sz sz fr to (k + 1)) :: zk_L 1280 (va_cpy co co (20 * fr) (20 * to) 0) :: zk_I 24 wh :: zk_I 24 wt :: zk_I 24 ma :: zk_I 24 bk :: zk_L 480 wr :: zk_I 50 lf :: zk_I 50 rt :: r)) (by rw [← mo_cpyI, ← mo_cpyI]; rfl) ?_
        refine zr_iinc (v := nI (k + 1)) dMo_copy_40 rfl (nI_1 _) (by decide) ?_
        refine zr_goto (tgt := 2) dMo_copy_43 (by decide) ?_
        exact ih
    · refine zr_iload_n dMo_copy_2 rfl ?_
      refine zr_bipush (v := nI 32) dMo_copy_3 (by decide) ?_
      refine zr_icmp_geN (tgt := 46) (by omega) (by omega) dMo_copy_5 (by decide) (fun h5 => ?_) (fun h5 => ?_)
      · refine zr_iconst (v := nI 0) dMo_copy_46 (by decide) ?_
        refine zr_istore_n dMo_copy_47 (by decide) ?_
        exact key2 0 (Nat.zero_le 640)
      · exfalso; omega
  show zw_Z G Y_Mo_copy _ _ _ 0 0 0 [some (.ref 26), some (.int (nI fr)), some (.int (nI to)), none] [] _
  refine zr_iconst (v := nI 0) dMo_copy_0 (by decide) ?_
  refine zr_istore_n dMo_copy_1 (by decide) ?_
  refine zr_wld (w2 := (c0 :: c1 :: c2 :: c3 :: c4 :: c5 :: c6 :: c7 :: c8 :: c9 :: c10 :: c11 :: c12 :: c13 :: c14 :: c15 :: c16 :: c17 :: c18 :: c19 :: c20 :: c21 :: c22 :: c23 :: c24 :: zk_Mo n ty wo ch :: zk_I 40 tx :: zk_L 20 cu :: zk_I 160 le :: zk_I 64 (va_cpy la la fr to 0) :: zk_I 64 (va_cpy sz sz fr to 0) :: zk_L 1280 (va_cpy co co (20 * fr) (20 * to) 0) :: zk_I 24 wh :: zk_I 24 wt :: zk_I 24 ma :: zk_I 24 bk :: zk_L 480 wr :: zk_I 50 lf :: zk_I 50 rt :: r)) (by rw [mo_cpy0, mo_cpy0, mo_cpy0]) ?_
  exact key1 0 (Nat.zero_le 32)
def mo_label (L : Nat → Nat) (id : Int32) : Int32 := if ¬ id < 0 ∧ id < nI 32 then nI (L id.toNatClampNeg) - nI 1 else -1
set_option maxHeartbeats 4000000 in
set_option maxRecDepth 100000 in
theorem c_Mo_label {G : zw_G} {c0 c1 c2 c3 c4 c5 c6 c7 c8 c9 c10 c11 c12 c13 c14 c15 c16 c17 c18 c19 c20 c21 c22 c23 c24 : zw_C} {n ty wo ch : Nat} {tx le la sz wh wt ma bk lf rt : Nat → Int32} {cu co wr : Nat → Int64} {r : zw_W} {L : Nat → Nat} (hla : ∀ i, i < 64 → la i = nI (L i) ∧ L i < 1000) {id : Int32} : zw_Met G Y_Mo_label 1 0 0 [.ref 26, .int id] ((c0 :: c1 :: c2 :: c3 :: c4 :: c5 :: c6 :: c7 :: c8 :: c9 :: c10 :: c11 :: c12 :: c13 :: c14 :: c15 :: c16 :: c17 :: c18 :: c19 :: c20 :: c21 :: c22 :: c23 :: c24 :: zk_Mo n ty wo ch :: zk_I 40 tx :: zk_L 20 cu :: zk_I 160 le :: zk_I 64 la :: zk_I 64 sz :: zk_L 1280 co :: zk_I 24 wh :: zk_I 24 wt :: zk_I 24 ma :: zk_I 24 bk :: zk_L 480 wr :: zk_I 50 lf :: zk_I 50 rt :: r)) (zw_is (some (.int (mo_label L id))) (c0 :: c1 :: c2 :: c3 :: c4 :: c5 :: c6 :: c7 :: c8 :: c9 :: c10 :: c11 :: c12 :: c13 :: c14 :: c15 :: c16 :: c17 :: c18 :: c19 :: c20 :: c21 :: c22 :: c23 :: c24 :: zk_Mo n ty wo ch :: zk_I 40 tx :: zk_L 20 cu :: zk_I 160 le :: zk_I 64 la :: zk_I 64 sz :: zk_L 1280 co :: zk_I 24 wh :: zk_I 24 wt :: zk_I 24 ma :: zk_I 24 bk :: zk_L 480 wr :: zk_I 50 lf :: zk_I 50 rt :: r)) := by
  show zw_Z G Y_Mo_label _ _ _ 0 0 0 [some (.ref 26), some (.int id)] [] _
  refine zr_iload_n dMo_label_0 rfl ?_
  refine zr_invS c_Mo_isId m_Mo_isId k_Mo_72 (s_Mo_isId) dMo_label_1 rfl (Nat.le_of_ble_eq_true rfl) (by decide) (Nat.le_of_ble_eq_true rfl) rfl (fun v w2 hp => ?_)
  obtain ⟨rfl, rfl⟩ := hp
  refine ⟨rfl, ?_⟩
  refine zr_if_eqB (tgt := 18) dMo_label_4 (by decide) (fun h4 => ?_) (fun h4 => ?_)
  · have hv : mo_label L id = -1 := if_neg h4
    refine zr_iconst (v := (-1)) dMo_label_18 (by decide) ?_
    exact zr_ireturn dMo_label_19 rfl rfl (⟨congrArg (fun x => some (Value.int x)) hv.symm, rfl⟩)
  · obtain ⟨j, hj, rfl⟩ := zf_rng (by decide) h4.1 h4.2
    have hv : mo_label L (nI j) = nI (L j) - nI 1 := (if_pos h4).trans (by rw [nI_clamp (by omega)])
    refine zr_aload_n dMo_label_7 rfl rfl ?_
    refine zr_getf g_Mo_20 dMo_label_8 rfl rfl ?_
    refine zr_iload_n dMo_label_11 rfl ?_
    refine zr_iald dMo_label_12 rfl (by omega) (by decide) ?_
    refine zr_topI (hla j (by omega)).1 ?_
    refine zr_iconst (v := nI 1) dMo_label_13 (by decide) ?_
    refine zr_isub dMo_label_14 ?_
    refine zr_goto (tgt := 19) dMo_label_15 (by decide) ?_
    exact zr_ireturn dMo_label_19 rfl rfl (⟨congrArg (fun x => some (Value.int x)) hv.symm, rfl⟩)
def mo_docs (n : Nat) (L : Nat → Nat) (c : Int32) : Int32 := if c < -1 ∨ ¬ c < nI n then -1 else if c < 0 then nI (mo_size L 32) else nI (mo_sum L c.toNatClampNeg (fun _ => 1) 32)
set_option maxHeartbeats 4000000 in
set_option maxRecDepth 100000 in
theorem c_Mo_docs_all {G : zw_G} {c0 c1 c2 c3 c4 c5 c6 c7 c8 c9 c10 c11 c12 c13 c14 c15 c16 c17 c18 c19 c20 c21 c22 c23 c24 : zw_C} {n ty wo ch : Nat} {tx le la sz wh wt ma bk lf rt : Nat → Int32} {cu co wr : Nat → Int64} {r : zw_W} {L : Nat → Nat} (hla : ∀ i, i < 64 → la i = nI (L i) ∧ L i < 1000) (hn : n ≤ 4) : zw_Met G Y_Mo_documents 0 0 0 [.ref 26, .int (-1)] (c0 :: c1 :: c2 :: c3 :: c4 :: c5 :: c6 :: c7 :: c8 :: c9 :: c10 :: c11 :: c12 :: c13 :: c14 :: c15 :: c16 :: c17 :: c18 :: c19 :: c20 :: c21 :: c22 :: c23 :: c24 :: zk_Mo n ty wo ch :: zk_I 40 tx :: zk_L 20 cu :: zk_I 160 le :: zk_I 64 la :: zk_I 64 sz :: zk_L 1280 co :: zk_I 24 wh :: zk_I 24 wt :: zk_I 24 ma :: zk_I 24 bk :: zk_L 480 wr :: zk_I 50 lf :: zk_I 50 rt :: r) (zw_is (some (.int (nI (mo_size L 32)))) (c0 :: c1 :: c2 :: c3 :: c4 :: c5 :: c6 :: c7 :: c8 :: c9 :: c10 :: c11 :: c12 :: c13 :: c14 :: c15 :: c16 :: c17 :: c18 :: c19 :: c20 :: c21 :: c22 :: c23 :: c24 :: zk_Mo n ty wo ch :: zk_I 40 tx :: zk_L 20 cu :: zk_I 160 le :: zk_I 64 la :: zk_I 64 sz :: zk_L 1280 co :: zk_I 24 wh :: zk_I 24 wt :: zk_I 24 ma :: zk_I 24 bk :: zk_L 480 wr :: zk_I 50 lf :: zk_I 50 rt :: r)) := by
  have key : ∀ k, k ≤ 32 → zw_Z G Y_Mo_documents (zw_R 0 0 0) (fun _ => True) (zw_Q G 0 0 (zw_is (some (.int (nI (mo_size L 32)))) (c0 :: c1 :: c2 :: c3 :: c4 :: c5 :: c6 :: c7 :: c8 :: c9 :: c10 :: c11 :: c12 :: c13 :: c14 :: c15 :: c16 :: c17 :: c18 :: c19 :: c20 :: c21 :: c22 :: c23 :: c24 :: zk_Mo n ty wo ch :: zk_I 40 tx :: zk_L 20 cu :: zk_I 160 le :: zk_I 64 la :: zk_I 64 sz :: zk_L 1280 co :: zk_I 24 wh :: zk_I 24 wt :: zk_I 24 ma :: zk_I 24 bk :: zk_L 480 wr :: zk_I 50 lf :: zk_I 50 rt :: r))) 0 0 19 [some (.ref 26), some (.int (-1)), some (.int (nI (mo_size L k))), some (.int (nI k))] [] (c0 :: c1 :: c2 :: c3 :: c4 :: c5 :: c6 :: c7 :: c8 :: c9 :: c10 :: c11 :: c12 :: c13 :: c14 :: c15 :: c16 :: c17 :: c18 :: c19 :: c20 :: c21 :: c22 :: c23 :: c24 :: zk_Mo n ty wo ch :: zk_I 40 tx :: zk_L 20 cu :: zk_I 160 le :: zk_I 64 la :: zk_I 64 sz :: zk_L 1280 co :: zk_I 24 wh :: zk_I 24 wt :: zk_I 24 ma :: zk_I 24 bk :: zk_L 480 wr :: zk_I 50 lf :: zk_I 50 rt :: r) := by
    refine wz_up 32 (fun k hk ih => ?_) ?_
    · refine zr_iload_n dMo_documents_19 rfl ?_
      refine zr_bipush (v := nI 32) dMo_documents_20 (by decide) ?_
      refine zr_icmp_geN (tgt := 64) (by omega) (by omega) dMo_documents_22 (by decide) (fun h22 => ?_) (fun h22 => ?_)
      · exfalso; omega
      · refine zr_aload_n dMo_documents_25 rfl rfl ?_
        refine zr_getf g_Mo_20 dMo_documents_26 rfl rfl ?_
        refine zr_iload_n dMo_documents_29 rfl ?_
        refine zr_iald dMo_documents_30 rfl (by omega) (by decide) ?_
        refine zr_topI (hla k (by omega)).1 ?_
        refine zr_if_leN (tgt := 56) (by have := (hla k (by omega)).2; omega) dMo_documents_31 (by decide) (fun h31 => ?_) (fun h31 => ?_)
        · rw [mo_size_0 h31] at ih
          refine zr_iload_n dMo_documents_56 rfl ?_
          refine zr_istore_n dMo_documents_57 (by decide) ?_
          refine zr_iinc (v := nI (k + 1)) dMo_documents_58 rfl (nI_1 _) (by decide) ?_
          refine zr_goto (tgt := 19) dMo_documents_61 (by decide) ?_
          exact ih
        · rw [mo_size_1 (k := k) (by omega)] at ih
          refine zr_iload_n dMo_documents_34 rfl ?_
          refine zr_if_lt (tgt := 50) dMo_documents_35 (by decide) (fun h35 => ?_) (fun h35 => ?_)
          · refine zr_iload_n dMo_documents_50 rfl ?_
            refine zr_iconst (v := nI 1) dMo_documents_51 (by decide) ?_
            refine zr_iaddN dMo_documents_52 ?_
            refine zr_goto (tgt := 57) dMo_documents_53 (by decide) ?_
            refine zr_istore_n dMo_documents_57 (by decide) ?_
            refine zr_iinc (v := nI (k + 1)) dMo_documents_58 rfl (nI_1 _) (by decide) ?_
            refine zr_goto (tgt := 19) dMo_documents_61 (by decide) ?_
            exact ih
          · exact absurd (by decide) h35
    · refine zr_iload_n dMo_documents_19 rfl ?_
      refine zr_bipush (v := nI 32) dMo_documents_20 (by decide) ?_
      refine zr_icmp_geN (tgt := 64) (by omega) (by omega) dMo_documents_22 (by decide) (fun h22 => ?_) (fun h22 => ?_)
      · refine zr_iload_n dMo_documents_64 rfl ?_
        exact zr_ireturn dMo_documents_65 rfl rfl (⟨rfl, rfl⟩)
      · exfalso; omega
  show zw_Z G Y_Mo_documents _ _ _ 0 0 0 [some (.ref 26), some (.int (-1)), none, none] [] _
  refine zr_iload_n dMo_documents_0 rfl ?_
  refine zr_iconst (v := (-1)) dMo_documents_1 (by decide) ?_
  refine zr_icmp_lt (tgt := 13) dMo_documents_2 (by decide) (fun h2 => ?_) (fun h2 => ?_)
  · exact absurd h2 (by decide)
  · refine zr_iload_n dMo_documents_5 rfl ?_
    refine zr_aload_n dMo_documents_6 rfl rfl ?_
    refine zr_getf g_Mo_50 dMo_documents_7 rfl rfl ?_
    refine zr_icmp_lt (tgt := 15) dMo_documents_10 (by decide) (fun h10 => ?_) (fun h10 => ?_)
    · refine zr_iconst (v := nI 0) dMo_documents_15 (by decide) ?_
      refine zr_istore_n dMo_documents_16 (by decide) ?_
      refine zr_iconst (v := nI 0) dMo_documents_17 (by decide) ?_
      refine zr_istore_n dMo_documents_18 (by decide) ?_
      exact key 0 (Nat.zero_le 32)
    · exact absurd (Int32.lt_of_lt_of_le (by decide) (nI_pos' (by omega))) h10
set_option maxHeartbeats 4000000 in
set_option maxRecDepth 100000 in
theorem c_Mo_docs_of {G : zw_G} {c0 c1 c2 c3 c4 c5 c6 c7 c8 c9 c10 c11 c12 c13 c14 c15 c16 c17 c18 c19 c20 c21 c22 c23 c24 : zw_C} {n ty wo ch : Nat} {tx le la sz wh wt ma bk lf rt : Nat → Int32} {cu co wr : Nat → Int64} {r : zw_W} {L : Nat → Nat} (hla : ∀ i, i < 64 → la i = nI (L i) ∧ L i < 1000) {c : Nat} (hn : n ≤ 4) (hc : c < n) : zw_Met G Y_Mo_documents 0 0 0 [.ref 26, .int (nI c)] (c0 :: c1 :: c2 :: c3 :: c4 :: c5 :: c6 :: c7 :: c8 :: c9 :: c10 :: c11 :: c12 :: c13 :: c14 :: c15 :: c16 :: c17 :: c18 :: c19 :: c20 :: c21 :: c22 :: c23 :: c24 :: zk_Mo n ty wo ch :: zk_I 40 tx :: zk_L 20 cu :: zk_I 160 le :: zk_I 64 la :: zk_I 64 sz :: zk_L 1280 co :: zk_I 24 wh :: zk_I 24 wt :: zk_I 24 ma :: zk_I 24 bk :: zk_L 480 wr :: zk_I 50 lf :: zk_I 50 rt :: r) (zw_is (some (.int (nI (mo_sum L c (fun _ => 1) 32)))) (c0 :: c1 :: c2 :: c3 :: c4 :: c5 :: c6 :: c7 :: c8 :: c9 :: c10 :: c11 :: c12 :: c13 :: c14 :: c15 :: c16 :: c17 :: c18 :: c19 :: c20 :: c21 :: c22 :: c23 :: c24 :: zk_Mo n ty wo ch :: zk_I 40 tx :: zk_L 20 cu :: zk_I 160 le :: zk_I 64 la :: zk_I 64 sz :: zk_L 1280 co :: zk_I 24 wh :: zk_I 24 wt :: zk_I 24 ma :: zk_I 24 bk :: zk_L 480 wr :: zk_I 50 lf :: zk_I 50 rt :: r)) := by
  have key : ∀ k, k ≤ 32 → zw_Z G Y_Mo_documents (zw_R 0 0 0) (fun _ => True) (zw_Q G 0 0 (zw_is (some (.int (nI (mo_sum L c (fun _ => 1) 32)))) (c0 :: c1 :: c2 :: c3 :: c4 :: c5 :: c6 :: c7 :: c8 :: c9 :: c10 :: c11 :: c12 :: c13 :: c14 :: c15 :: c16 :: c17 :: c18 :: c19 :: c20 :: c21 :: c22 :: c23 :: c24 :: zk_Mo n ty wo ch :: zk_I 40 tx :: zk_L 20 cu :: zk_I 160 le :: zk_I 64 la :: zk_I 64 sz :: zk_L 1280 co :: zk_I 24 wh :: zk_I 24 wt :: zk_I 24 ma :: zk_I 24 bk :: zk_L 480 wr :: zk_I 50 lf :: zk_I 50 rt :: r))) 0 0 19 [some (.ref 26), some (.int (nI c)), some (.int (nI (mo_sum L c (fun _ => 1) k))), some (.int (nI k))] [] (c0 :: c1 :: c2 :: c3 :: c4 :: c5 :: c6 :: c7 :: c8 :: c9 :: c10 :: c11 :: c12 :: c13 :: c14 :: c15 :: c16 :: c17 :: c18 :: c19 :: c20 :: c21 :: c22 :: c23 :: c24 :: zk_Mo n ty wo ch :: zk_I 40 tx :: zk_L 20 cu :: zk_I 160 le :: zk_I 64 la :: zk_I 64 sz :: zk_L 1280 co :: zk_I 24 wh :: zk_I 24 wt :: zk_I 24 ma :: zk_I 24 bk :: zk_L 480 wr :: zk_I 50 lf :: zk_I 50 rt :: r) := by
    refine wz_up 32 (fun k hk ih => ?_) ?_
    · refine zr_iload_n dMo_documents_19 rfl ?_
      refine zr_bipush (v := nI 32) dMo_documents_20 (by decide) ?_
      refine zr_icmp_geN (tgt := 64) (by omega) (by omega) dMo_documents_22 (by decide) (fun h22 => ?_) (fun h22 => ?_)
      · exfalso; omega
      · refine zr_aload_n dMo_documents_25 rfl rfl ?_
        refine zr_getf g_Mo_20 dMo_documents_26 rfl rfl ?_
        refine zr_iload_n dMo_documents_29 rfl ?_
        refine zr_iald dMo_documents_30 rfl (by omega) (by decide) ?_
        refine zr_topI (hla k (by omega)).1 ?_
        refine zr_if_leN (tgt := 56) (by have := (hla k (by omega)).2; omega) dMo_documents_31 (by decide) (fun h31 => ?_) (fun h31 => ?_)
        · rw [mo_sum_0 (k := k) (by omega)] at ih
          refine zr_iload_n dMo_documents_56 rfl ?_
          refine zr_istore_n dMo_documents_57 (by decide) ?_
          refine zr_iinc (v := nI (k + 1)) dMo_documents_58 rfl (nI_1 _) (by decide) ?_
          refine zr_goto (tgt := 19) dMo_documents_61 (by decide) ?_
          exact ih
        · refine zr_iload_n dMo_documents_34 rfl ?_
          refine zr_if_ltN (tgt := 50) (by omega) dMo_documents_35 (by decide) (fun h35 => ?_) (fun h35 => ?_)
          · exact h35.elim
          · refine zr_aload_n dMo_documents_38 rfl rfl ?_
            refine zr_getf g_Mo_20 dMo_documents_39 rfl rfl ?_
            refine zr_iload_n dMo_documents_42 rfl ?_
            refine zr_iald dMo_documents_43 rfl (by omega) (by decide) ?_
            refine zr_topI (hla k (by omega)).1 ?_
            refine zr_iload_n dMo_documents_44 rfl ?_
            refine zr_iconst (v := nI 1) dMo_documents_45 (by decide) ?_
            refine zr_iaddN dMo_documents_46 ?_
            refine zr_icmp_neN (tgt := 56) (by have := (hla k (by omega)).2; omega) (by omega) dMo_documents_47 (by decide) (fun h47 => ?_) (fun h47 => ?_)
            · rw [mo_sum_0 h47] at ih
              refine zr_iload_n dMo_documents_56 rfl ?_
              refine zr_istore_n dMo_documents_57 (by decide) ?_
              refine zr_iinc (v := nI (k + 1)) dMo_documents_58 rfl (nI_1 _) (by decide) ?_
              refine zr_goto (tgt := 19) dMo_documents_61 (by decide) ?_
              exact ih
            · rw [mo_sum_1 h47] at ih
              refine zr_iload_n dMo_documents_50 rfl ?_
              refine zr_iconst (v := nI 1) dMo_documents_51 (by decide) ?_
              refine zr_iaddN dMo_documents_52 ?_
              refine zr_goto (tgt := 57) dMo_documents_53 (by decide) ?_
              refine zr_istore_n dMo_documents_57 (by decide) ?_
              refine zr_iinc (v := nI (k + 1)) dMo_documents_58 rfl (nI_1 _) (by decide) ?_
              refine zr_goto (tgt := 19) dMo_documents_61 (by decide) ?_
              exact ih
    · refine zr_iload_n dMo_documents_19 rfl ?_
      refine zr_bipush (v := nI 32) dMo_documents_20 (by decide) ?_
      refine zr_icmp_geN (tgt := 64) (by omega) (by omega) dMo_documents_22 (by decide) (fun h22 => ?_) (fun h22 => ?_)
      · refine zr_iload_n dMo_documents_64 rfl ?_
        exact zr_ireturn dMo_documents_65 rfl rfl (⟨rfl, rfl⟩)
      · exfalso; omega
  show zw_Z G Y_Mo_documents _ _ _ 0 0 0 [some (.ref 26), some (.int (nI c)), none, none] [] _
  refine zr_iload_n dMo_documents_0 rfl ?_
  refine zr_iconst (v := (-1)) dMo_documents_1 (by decide) ?_
  refine zr_icmp_lt (tgt := 13) dMo_documents_2 (by decide) (fun h2 => ?_) (fun h2 => ?_)
  · exact absurd (Int32.lt_trans h2 (by decide)) (nI_pos (by omega))
  · refine zr_iload_n dMo_documents_5 rfl ?_
    refine zr_aload_n dMo_documents_6 rfl rfl ?_
    refine zr_getf g_Mo_50 dMo_documents_7 rfl rfl ?_
    refine zr_icmp_ltN (tgt := 15) (by omega) (by omega) dMo_documents_10 (by decide) (fun h10 => ?_) (fun h10 => ?_)
    · refine zr_iconst (v := nI 0) dMo_documents_15 (by decide) ?_
      refine zr_istore_n dMo_documents_16 (by decide) ?_
      refine zr_iconst (v := nI 0) dMo_documents_17 (by decide) ?_
      refine zr_istore_n dMo_documents_18 (by decide) ?_
      exact key 0 (Nat.zero_le 32)
    · exfalso; omega
set_option maxHeartbeats 4000000 in
set_option maxRecDepth 100000 in
theorem c_Mo_docs_no {G : zw_G} {c0 c1 c2 c3 c4 c5 c6 c7 c8 c9 c10 c11 c12 c13 c14 c15 c16 c17 c18 c19 c20 c21 c22 c23 c24 : zw_C} {n ty wo ch : Nat} {tx le la sz wh wt ma bk lf rt : Nat → Int32} {cu co wr : Nat → Int64} {r : zw_W} {c : Int32} (hc : c < -1 ∨ ¬ c < nI n) : zw_Met G Y_Mo_documents 0 0 0 [.ref 26, .int c] ((c0 :: c1 :: c2 :: c3 :: c4 :: c5 :: c6 :: c7 :: c8 :: c9 :: c10 :: c11 :: c12 :: c13 :: c14 :: c15 :: c16 :: c17 :: c18 :: c19 :: c20 :: c21 :: c22 :: c23 :: c24 :: zk_Mo n ty wo ch :: zk_I 40 tx :: zk_L 20 cu :: zk_I 160 le :: zk_I 64 la :: zk_I 64 sz :: zk_L 1280 co :: zk_I 24 wh :: zk_I 24 wt :: zk_I 24 ma :: zk_I 24 bk :: zk_L 480 wr :: zk_I 50 lf :: zk_I 50 rt :: r)) (zw_is (some (.int (-1))) (c0 :: c1 :: c2 :: c3 :: c4 :: c5 :: c6 :: c7 :: c8 :: c9 :: c10 :: c11 :: c12 :: c13 :: c14 :: c15 :: c16 :: c17 :: c18 :: c19 :: c20 :: c21 :: c22 :: c23 :: c24 :: zk_Mo n ty wo ch :: zk_I 40 tx :: zk_L 20 cu :: zk_I 160 le :: zk_I 64 la :: zk_I 64 sz :: zk_L 1280 co :: zk_I 24 wh :: zk_I 24 wt :: zk_I 24 ma :: zk_I 24 bk :: zk_L 480 wr :: zk_I 50 lf :: zk_I 50 rt :: r)) := by
  show zw_Z G Y_Mo_documents _ _ _ 0 0 0 [some (.ref 26), some (.int c), none, none] [] _
  refine zr_iload_n dMo_documents_0 rfl ?_
  refine zr_iconst (v := (-1)) dMo_documents_1 (by decide) ?_
  refine zr_icmp_lt (tgt := 13) dMo_documents_2 (by decide) (fun h2 => ?_) (fun h2 => ?_)
  · refine zr_iconst (v := (-1)) dMo_documents_13 (by decide) ?_
    exact zr_ireturn dMo_documents_14 rfl rfl (⟨rfl, rfl⟩)
  · refine zr_iload_n dMo_documents_5 rfl ?_
    refine zr_aload_n dMo_documents_6 rfl rfl ?_
    refine zr_getf g_Mo_50 dMo_documents_7 rfl rfl ?_
    refine zr_icmp_lt (tgt := 15) dMo_documents_10 (by decide) (fun h10 => ?_) (fun h10 => ?_)
    · exact absurd hc (fun q => q.elim h2 (fun z => z h10))
    · refine zr_iconst (v := (-1)) dMo_documents_13 (by decide) ?_
      exact zr_ireturn dMo_documents_14 rfl rfl (⟨rfl, rfl⟩)
def mo_total (n : Nat) (L Z : Nat → Nat) (c : Int32) : Int32 := if ¬ c < 0 ∧ c < nI n then nI (mo_sum L c.toNatClampNeg Z 32) else -1
set_option maxHeartbeats 4000000 in
set_option maxRecDepth 100000 in
theorem c_Mo_total_of {G : zw_G} {c0 c1 c2 c3 c4 c5 c6 c7 c8 c9 c10 c11 c12 c13 c14 c15 c16 c17 c18 c19 c20 c21 c22 c23 c24 : zw_C} {n ty wo ch : Nat} {tx le la sz wh wt ma bk lf rt : Nat → Int32} {cu co wr : Nat → Int64} {r : zw_W} {L : Nat → Nat} (hla : ∀ i, i < 64 → la i = nI (L i) ∧ L i < 1000) {Z : Nat → Nat} (hsz : ∀ i, i < 64 → sz i = nI (Z i) ∧ Z i ≤ 20) {c : Nat} (hn : n ≤ 4) (hc : c < n) : zw_Met G Y_Mo_total 1 0 0 [.ref 26, .int (nI c)] (c0 :: c1 :: c2 :: c3 :: c4 :: c5 :: c6 :: c7 :: c8 :: c9 :: c10 :: c11 :: c12 :: c13 :: c14 :: c15 :: c16 :: c17 :: c18 :: c19 :: c20 :: c21 :: c22 :: c23 :: c24 :: zk_Mo n ty wo ch :: zk_I 40 tx :: zk_L 20 cu :: zk_I 160 le :: zk_I 64 la :: zk_I 64 sz :: zk_L 1280 co :: zk_I 24 wh :: zk_I 24 wt :: zk_I 24 ma :: zk_I 24 bk :: zk_L 480 wr :: zk_I 50 lf :: zk_I 50 rt :: r) (zw_is (some (.int (nI (mo_sum L c Z 32)))) (c0 :: c1 :: c2 :: c3 :: c4 :: c5 :: c6 :: c7 :: c8 :: c9 :: c10 :: c11 :: c12 :: c13 :: c14 :: c15 :: c16 :: c17 :: c18 :: c19 :: c20 :: c21 :: c22 :: c23 :: c24 :: zk_Mo n ty wo ch :: zk_I 40 tx :: zk_L 20 cu :: zk_I 160 le :: zk_I 64 la :: zk_I 64 sz :: zk_L 1280 co :: zk_I 24 wh :: zk_I 24 wt :: zk_I 24 ma :: zk_I 24 bk :: zk_L 480 wr :: zk_I 50 lf :: zk_I 50 rt :: r)) := by
  have key : ∀ k, k ≤ 32 → zw_Z G Y_Mo_total (zw_R 1 0 0) (fun _ => True) (zw_Q G 0 0 (zw_is (some (.int (nI (mo_sum L c Z 32)))) (c0 :: c1 :: c2 :: c3 :: c4 :: c5 :: c6 :: c7 :: c8 :: c9 :: c10 :: c11 :: c12 :: c13 :: c14 :: c15 :: c16 :: c17 :: c18 :: c19 :: c20 :: c21 :: c22 :: c23 :: c24 :: zk_Mo n ty wo ch :: zk_I 40 tx :: zk_L 20 cu :: zk_I 160 le :: zk_I 64 la :: zk_I 64 sz :: zk_L 1280 co :: zk_I 24 wh :: zk_I 24 wt :: zk_I 24 ma :: zk_I 24 bk :: zk_L 480 wr :: zk_I 50 lf :: zk_I 50 rt :: r))) 0 0 14 [some (.ref 26), some (.int (nI c)), some (.int (nI (mo_sum L c Z k))), some (.int (nI k))] [] (c0 :: c1 :: c2 :: c3 :: c4 :: c5 :: c6 :: c7 :: c8 :: c9 :: c10 :: c11 :: c12 :: c13 :: c14 :: c15 :: c16 :: c17 :: c18 :: c19 :: c20 :: c21 :: c22 :: c23 :: c24 :: zk_Mo n ty wo ch :: zk_I 40 tx :: zk_L 20 cu :: zk_I 160 le :: zk_I 64 la :: zk_I 64 sz :: zk_L 1280 co :: zk_I 24 wh :: zk_I 24 wt :: zk_I 24 ma :: zk_I 24 bk :: zk_L 480 wr :: zk_I 50 lf :: zk_I 50 rt :: r) := by
    refine wz_up 32 (fun k hk ih => ?_) ?_
    · refine zr_iload_n dMo_total_14 rfl ?_
      refine zr_bipush (v := nI 32) dMo_total_15 (by decide) ?_
      refine zr_icmp_geN (tgt := 51) (by omega) (by omega) dMo_total_17 (by decide) (fun h17 => ?_) (fun h17 => ?_)
      · exfalso; omega
      · refine zr_aload_n dMo_total_20 rfl rfl ?_
        refine zr_getf g_Mo_20 dMo_total_21 rfl rfl ?_
        refine zr_iload_n dMo_total_24 rfl ?_
        refine zr_iald dMo_total_25 rfl (by omega) (by decide) ?_
        refine zr_topI (hla k (by omega)).1 ?_
        refine zr_iload_n dMo_total_26 rfl ?_
        refine zr_iconst (v := nI 1) dMo_total_27 (by decide) ?_
        refine zr_iaddN dMo_total_28 ?_
        refine zr_icmp_neN (tgt := 43) (by have := (hla k (by omega)).2; omega) (by omega) dMo_total_29 (by decide) (fun h29 => ?_) (fun h29 => ?_)
        · rw [mo_sum_0 h29] at ih
          refine zr_iload_n dMo_total_43 rfl ?_
          refine zr_istore_n dMo_total_44 (by decide) ?_
          refine zr_iinc (v := nI (k + 1)) dMo_total_45 rfl (nI_1 _) (by decide) ?_
          refine zr_goto (tgt := 14) dMo_total_48 (by decide) ?_
          exact ih
        · rw [mo_sum_1 h29] at ih
          refine zr_iload_n dMo_total_32 rfl ?_
          refine zr_aload_n dMo_total_33 rfl rfl ?_
          refine zr_getf g_Mo_23 dMo_total_34 rfl rfl ?_
          refine zr_iload_n dMo_total_37 rfl ?_
          refine zr_iald dMo_total_38 rfl (by omega) (by decide) ?_
          refine zr_topI (hsz k (by omega)).1 ?_
          refine zr_iaddN dMo_total_39 ?_
          refine zr_goto (tgt := 44) dMo_total_40 (by decide) ?_
          refine zr_istore_n dMo_total_44 (by decide) ?_
          refine zr_iinc (v := nI (k + 1)) dMo_total_45 rfl (nI_1 _) (by decide) ?_
          refine zr_goto (tgt := 14) dMo_total_48 (by decide) ?_
          exact ih
    · refine zr_iload_n dMo_total_14 rfl ?_
      refine zr_bipush (v := nI 32) dMo_total_15 (by decide) ?_
      refine zr_icmp_geN (tgt := 51) (by omega) (by omega) dMo_total_17 (by decide) (fun h17 => ?_) (fun h17 => ?_)
      · refine zr_iload_n dMo_total_51 rfl ?_
        exact zr_ireturn dMo_total_52 rfl rfl (⟨rfl, rfl⟩)
      · exfalso; omega
  show zw_Z G Y_Mo_total _ _ _ 0 0 0 [some (.ref 26), some (.int (nI c)), none, none] [] _
  refine zr_aload_n dMo_total_0 rfl rfl ?_
  refine zr_iload_n dMo_total_1 rfl ?_
  refine zr_invV (c_Mo_isClass (i := 25) rfl) m_Mo_isClass k_Mo_95 v_Mo_isClass rfl rfl dMo_total_2 rfl (Nat.le_of_ble_eq_true rfl) (by decide) (Nat.le_of_ble_eq_true rfl) rfl (fun v w2 hp => ?_)
  obtain ⟨rfl, rfl⟩ := hp
  refine ⟨rfl, ?_⟩
  refine zr_if_neB (tgt := 10) dMo_total_5 (by decide) (fun h5 => ?_) (fun h5 => ?_)
  · refine zr_iconst (v := nI 0) dMo_total_10 (by decide) ?_
    refine zr_istore_n dMo_total_11 (by decide) ?_
    refine zr_iconst (v := nI 0) dMo_total_12 (by decide) ?_
    refine zr_istore_n dMo_total_13 (by decide) ?_
    exact key 0 (Nat.zero_le 32)
  · exact absurd ⟨nI_pos (by omega), nI_lt hc (by omega)⟩ h5
set_option maxHeartbeats 4000000 in
set_option maxRecDepth 100000 in
theorem c_Mo_total {G : zw_G} {c0 c1 c2 c3 c4 c5 c6 c7 c8 c9 c10 c11 c12 c13 c14 c15 c16 c17 c18 c19 c20 c21 c22 c23 c24 : zw_C} {n ty wo ch : Nat} {tx le la sz wh wt ma bk lf rt : Nat → Int32} {cu co wr : Nat → Int64} {r : zw_W} {L : Nat → Nat} (hla : ∀ i, i < 64 → la i = nI (L i) ∧ L i < 1000) {Z : Nat → Nat} (hsz : ∀ i, i < 64 → sz i = nI (Z i) ∧ Z i ≤ 20) {c : Int32} (hn : n ≤ 4) : zw_Met G Y_Mo_total 1 0 0 [.ref 26, .int c] (c0 :: c1 :: c2 :: c3 :: c4 :: c5 :: c6 :: c7 :: c8 :: c9 :: c10 :: c11 :: c12 :: c13 :: c14 :: c15 :: c16 :: c17 :: c18 :: c19 :: c20 :: c21 :: c22 :: c23 :: c24 :: zk_Mo n ty wo ch :: zk_I 40 tx :: zk_L 20 cu :: zk_I 160 le :: zk_I 64 la :: zk_I 64 sz :: zk_L 1280 co :: zk_I 24 wh :: zk_I 24 wt :: zk_I 24 ma :: zk_I 24 bk :: zk_L 480 wr :: zk_I 50 lf :: zk_I 50 rt :: r) (zw_is (some (.int (mo_total n L Z c))) (c0 :: c1 :: c2 :: c3 :: c4 :: c5 :: c6 :: c7 :: c8 :: c9 :: c10 :: c11 :: c12 :: c13 :: c14 :: c15 :: c16 :: c17 :: c18 :: c19 :: c20 :: c21 :: c22 :: c23 :: c24 :: zk_Mo n ty wo ch :: zk_I 40 tx :: zk_L 20 cu :: zk_I 160 le :: zk_I 64 la :: zk_I 64 sz :: zk_L 1280 co :: zk_I 24 wh :: zk_I 24 wt :: zk_I 24 ma :: zk_I 24 bk :: zk_L 480 wr :: zk_I 50 lf :: zk_I 50 rt :: r)) := by
  by_cases h : ¬ c < 0 ∧ c < nI n
  · obtain ⟨j, hj, rfl⟩ := zf_rng (by omega) h.1 h.2
    have hv : mo_total n L Z (nI j) = nI (mo_sum L j Z 32) := (if_pos h).trans (by rw [nI_clamp (by omega)])
    rw [hv]
    exact c_Mo_total_of hla hsz hn hj
  · have hv : mo_total n L Z c = -1 := if_neg h
    rw [hv]
    show zw_Z G Y_Mo_total _ _ _ 0 0 0 [some (.ref 26), some (.int c), none, none] [] _
    refine zr_aload_n dMo_total_0 rfl rfl ?_
    refine zr_iload_n dMo_total_1 rfl ?_
    refine zr_invV (c_Mo_isClass (i := 25) rfl) m_Mo_isClass k_Mo_95 v_Mo_isClass rfl rfl dMo_total_2 rfl (Nat.le_of_ble_eq_true rfl) (by decide) (Nat.le_of_ble_eq_true rfl) rfl (fun v w2 hp => ?_)
    obtain ⟨rfl, rfl⟩ := hp
    refine ⟨rfl, ?_⟩
    refine zr_if_neB (tgt := 10) dMo_total_5 (by decide) (fun h5 => ?_) (fun h5 => ?_)
    · exact absurd h5 h
    · refine zr_iconst (v := (-1)) dMo_total_8 (by decide) ?_
      exact zr_ireturn dMo_total_9 rfl rfl (⟨rfl, rfl⟩)
def mo_often (L Z : Nat → Nat) (co : Nat → Int64) (c : Nat) (x : Int64) : Nat := mo_sum L c (fun id => wn_sum (fun j => if co (20 * id + j) = x then 1 else 0) (Z id)) 32
set_option maxHeartbeats 4000000 in
set_option maxRecDepth 100000 in
theorem c_Mo_howOften {G : zw_G} {c0 c1 c2 c3 c4 c5 c6 c7 c8 c9 c10 c11 c12 c13 c14 c15 c16 c17 c18 c19 c20 c21 c22 c23 c24 : zw_C} {n ty wo ch : Nat} {tx le la sz wh wt ma bk lf rt : Nat → Int32} {cu co wr : Nat → Int64} {r : zw_W} {L : Nat → Nat} (hla : ∀ i, i < 64 → la i = nI (L i) ∧ L i < 1000) {Z : Nat → Nat} (hsz : ∀ i, i < 64 → sz i = nI (Z i) ∧ Z i ≤ 20) {c : Nat} {x : Int64} (hc : c < 4) : zw_Met G Y_Mo_howOften 0 0 0 [.ref 26, .int (nI c), .long x] (c0 :: c1 :: c2 :: c3 :: c4 :: c5 :: c6 :: c7 :: c8 :: c9 :: c10 :: c11 :: c12 :: c13 :: c14 :: c15 :: c16 :: c17 :: c18 :: c19 :: c20 :: c21 :: c22 :: c23 :: c24 :: zk_Mo n ty wo ch :: zk_I 40 tx :: zk_L 20 cu :: zk_I 160 le :: zk_I 64 la :: zk_I 64 sz :: zk_L 1280 co :: zk_I 24 wh :: zk_I 24 wt :: zk_I 24 ma :: zk_I 24 bk :: zk_L 480 wr :: zk_I 50 lf :: zk_I 50 rt :: r) (zw_is (some (.int (nI (mo_often L Z co c x)))) (c0 :: c1 :: c2 :: c3 :: c4 :: c5 :: c6 :: c7 :: c8 :: c9 :: c10 :: c11 :: c12 :: c13 :: c14 :: c15 :: c16 :: c17 :: c18 :: c19 :: c20 :: c21 :: c22 :: c23 :: c24 :: zk_Mo n ty wo ch :: zk_I 40 tx :: zk_L 20 cu :: zk_I 160 le :: zk_I 64 la :: zk_I 64 sz :: zk_L 1280 co :: zk_I 24 wh :: zk_I 24 wt :: zk_I 24 ma :: zk_I 24 bk :: zk_L 480 wr :: zk_I 50 lf :: zk_I 50 rt :: r)) := by
  have keyo : ∀ k, k ≤ 32 → zw_Z G Y_Mo_howOften (zw_R 0 0 0) (fun _ => True) (zw_Q G 0 0 (zw_is (some (.int (nI (mo_often L Z co c x)))) (c0 :: c1 :: c2 :: c3 :: c4 :: c5 :: c6 :: c7 :: c8 :: c9 :: c10 :: c11 :: c12 :: c13 :: c14 :: c15 :: c16 :: c17 :: c18 :: c19 :: c20 :: c21 :: c22 :: c23 :: c24 :: zk_Mo n ty wo ch :: zk_I 40 tx :: zk_L 20 cu :: zk_I 160 le :: zk_I 64 la :: zk_I 64 sz :: zk_L 1280 co :: zk_I 24 wh :: zk_I 24 wt :: zk_I 24 ma :: zk_I 24 bk :: zk_L 480 wr :: zk_I 50 lf :: zk_I 50 rt :: r))) 0 0 6 [some (.ref 26), some (.int (nI c)), some (.long x), none, some (.int (nI (mo_sum L c (fun id => wn_sum (fun j => if co (20 * id + j) = x then 1 else 0) (Z id)) k))), some (.int (nI k)), none] [] (c0 :: c1 :: c2 :: c3 :: c4 :: c5 :: c6 :: c7 :: c8 :: c9 :: c10 :: c11 :: c12 :: c13 :: c14 :: c15 :: c16 :: c17 :: c18 :: c19 :: c20 :: c21 :: c22 :: c23 :: c24 :: zk_Mo n ty wo ch :: zk_I 40 tx :: zk_L 20 cu :: zk_I 160 le :: zk_I 64 la :: zk_I 64 sz :: zk_L 1280 co :: zk_I 24 wh :: zk_I 24 wt :: zk_I 24 ma :: zk_I 24 bk :: zk_L 480 wr :: zk_I 50 lf :: zk_I 50 rt :: r) := by
    refine wz_up 32 (fun k hk ih => ?_) ?_
    · refine zr_iload dMo_howOften_6 rfl ?_
      refine zr_bipush (v := nI 32) dMo_howOften_8 (by decide) ?_
      refine zr_icmp_geN (tgt := 82) (by omega) (by omega) dMo_howOften_10 (by decide) (fun h10 => ?_) (fun h10 => ?_)
      · exfalso; omega
      · refine zr_iconst (v := nI 0) dMo_howOften_13 (by decide) ?_
        refine zr_istore dMo_howOften_14 (by decide) ?_
        have hzk := (hsz k (by omega)).2
        by_cases hLc : L k = c + 1
        · have key : ∀ j, j ≤ (Z k) → zw_Z G Y_Mo_howOften (zw_R 0 0 0) (fun _ => True) (zw_Q G 0 0 (zw_is (some (.int (nI (mo_often L Z co c x)))) (c0 :: c1 :: c2 :: c3 :: c4 :: c5 :: c6 :: c7 :: c8 :: c9 :: c10 :: c11 :: c12 :: c13 :: c14 :: c15 :: c16 :: c17 :: c18 :: c19 :: c20 :: c21 :: c22 :: c23 :: c24 :: zk_Mo n ty wo ch :: zk_I 40 tx :: zk_L 20 cu :: zk_I 160 le :: zk_I 64 la :: zk_I 64 sz :: zk_L 1280 co :: zk_I 24 wh :: zk_I 24 wt :: zk_I 24 ma :: zk_I 24 bk :: zk_L 480 wr :: zk_I 50 lf :: zk_I 50 rt :: r))) 0 0 16 [some (.ref 26), some (.int (nI c)), some (.long x), none, some (.int (nI (mo_sum L c (fun id => wn_sum (fun j => if co (20 * id + j) = x then 1 else 0) (Z id)) k + wn_sum (fun j => if co (20 * k + j) = x then 1 else 0) j))), some (.int (nI k)), some (.int (nI j))] [] (c0 :: c1 :: c2 :: c3 :: c4 :: c5 :: c6 :: c7 :: c8 :: c9 :: c10 :: c11 :: c12 :: c13 :: c14 :: c15 :: c16 :: c17 :: c18 :: c19 :: c20 :: c21 :: c22 :: c23 :: c24 :: zk_Mo n ty wo ch :: zk_I 40 tx :: zk_L 20 cu :: zk_I 160 le :: zk_I 64 la :: zk_I 64 sz :: zk_L 1280 co :: zk_I 24 wh :: zk_I 24 wt :: zk_I 24 ma :: zk_I 24 bk :: zk_L 480 wr :: zk_I 50 lf :: zk_I 50 rt :: r) := by
            refine wz_up (Z k) (fun j hkj ihj => ?_) ?_
            · refine zr_iload dMo_howOften_16 rfl ?_
              refine zr_aload_n dMo_howOften_18 rfl rfl ?_
              refine zr_getf g_Mo_23 dMo_howOften_19 rfl rfl ?_
              refine zr_iload dMo_howOften_22 rfl ?_
              refine zr_iald dMo_howOften_24 rfl (by omega) (by decide) ?_
              refine zr_topI (hsz k (by omega)).1 ?_
              refine zr_icmp_geN (tgt := 76) (by omega) (by omega) dMo_howOften_25 (by decide) (fun h25 => ?_) (fun h25 => ?_)
              · exfalso; omega
              · refine zr_aload_n dMo_howOften_28 rfl rfl ?_
                refine zr_getf g_Mo_20 dMo_howOften_29 rfl rfl ?_
                refine zr_iload dMo_howOften_32 rfl ?_
                refine zr_iald dMo_howOften_34 rfl (by omega) (by decide) ?_
                refine zr_topI (hla k (by omega)).1 ?_
                refine zr_iload_n dMo_howOften_35 rfl ?_
                refine zr_iconst (v := nI 1) dMo_howOften_36 (by decide) ?_
                refine zr_iaddN dMo_howOften_37 ?_
                refine zr_icmp_neN (tgt := 66) (by have := (hla k (by omega)).2; omega) (by omega) dMo_howOften_38 (by decide) (fun h38 => ?_) (fun h38 => ?_)
                · exact absurd hLc h38
                · refine zr_aload_n dMo_howOften_41 rfl rfl ?_
                  refine zr_getf g_Mo_26 dMo_howOften_42 rfl rfl ?_
                  refine zr_bipush (v := nI 20) dMo_howOften_45 (by decide) ?_
                  refine zr_iload dMo_howOften_47 rfl ?_
                  refine zr_imulN dMo_howOften_49 ?_
                  refine zr_iload dMo_howOften_50 rfl ?_
                  refine zr_iaddN dMo_howOften_52 ?_
                  refine zr_lald dMo_howOften_53 rfl (by omega) (by decide) ?_
                  refine zr_lload_n dMo_howOften_54 rfl ?_
                  refine zr_lcmp_ne (tgt := 66) dMo_howOften_55 dMo_howOften_56 (by decide) (fun h55 => ?_) (fun h55 => ?_)
                  · rw [wn_sum, if_neg h55, Nat.add_zero] at ihj
                    refine zr_iload dMo_howOften_66 rfl ?_
                    refine zr_istore dMo_howOften_68 (by decide) ?_
                    refine zr_iinc (v := nI (j + 1)) dMo_howOften_70 rfl (nI_1 _) (by decide) ?_
                    refine zr_goto (tgt := 16) dMo_howOften_73 (by decide) ?_
                    exact ihj
                  · rw [wn_sum, if_pos h55, ← Nat.add_assoc] at ihj
                    refine zr_iload dMo_howOften_59 rfl ?_
                    refine zr_iconst (v := nI 1) dMo_howOften_61 (by decide) ?_
                    refine zr_iaddN dMo_howOften_62 ?_
                    refine zr_goto (tgt := 68) dMo_howOften_63 (by decide) ?_
                    refine zr_istore dMo_howOften_68 (by decide) ?_
                    refine zr_iinc (v := nI (j + 1)) dMo_howOften_70 rfl (nI_1 _) (by decide) ?_
                    refine zr_goto (tgt := 16) dMo_howOften_73 (by decide) ?_
                    exact ihj
            · refine zr_iload dMo_howOften_16 rfl ?_
              refine zr_aload_n dMo_howOften_18 rfl rfl ?_
              refine zr_getf g_Mo_23 dMo_howOften_19 rfl rfl ?_
              refine zr_iload dMo_howOften_22 rfl ?_
              refine zr_iald dMo_howOften_24 rfl (by omega) (by decide) ?_
              refine zr_topI (hsz k (by omega)).1 ?_
              refine zr_icmp_geN (tgt := 76) (by omega) (by omega) dMo_howOften_25 (by decide) (fun h25 => ?_) (fun h25 => ?_)
              · refine zr_iinc (v := nI (k + 1)) dMo_howOften_76 rfl (nI_1 _) (by decide) ?_
                refine zr_goto (tgt := 6) dMo_howOften_79 (by decide) ?_
                rw [mo_sum_1 hLc] at ih
                exact zr_mask [true, true, true, true, true, true, false] ih
              · exfalso; omega
          exact key 0 (Nat.zero_le _)
        · have key : ∀ j, j ≤ (Z k) → zw_Z G Y_Mo_howOften (zw_R 0 0 0) (fun _ => True) (zw_Q G 0 0 (zw_is (some (.int (nI (mo_often L Z co c x)))) (c0 :: c1 :: c2 :: c3 :: c4 :: c5 :: c6 :: c7 :: c8 :: c9 :: c10 :: c11 :: c12 :: c13 :: c14 :: c15 :: c16 :: c17 :: c18 :: c19 :: c20 :: c21 :: c22 :: c23 :: c24 :: zk_Mo n ty wo ch :: zk_I 40 tx :: zk_L 20 cu :: zk_I 160 le :: zk_I 64 la :: zk_I 64 sz :: zk_L 1280 co :: zk_I 24 wh :: zk_I 24 wt :: zk_I 24 ma :: zk_I 24 bk :: zk_L 480 wr :: zk_I 50 lf :: zk_I 50 rt :: r))) 0 0 16 [some (.ref 26), some (.int (nI c)), some (.long x), none, some (.int (nI (mo_sum L c (fun id => wn_sum (fun j => if co (20 * id + j) = x then 1 else 0) (Z id)) k + 0))), some (.int (nI k)), some (.int (nI j))] [] (c0 :: c1 :: c2 :: c3 :: c4 :: c5 :: c6 :: c7 :: c8 :: c9 :: c10 :: c11 :: c12 :: c13 :: c14 :: c15 :: c16 :: c17 :: c18 :: c19 :: c20 :: c21 :: c22 :: c23 :: c24 :: zk_Mo n ty wo ch :: zk_I 40 tx :: zk_L 20 cu :: zk_I 160 le :: zk_I 64 la :: zk_I 64 sz :: zk_L 1280 co :: zk_I 24 wh :: zk_I 24 wt :: zk_I 24 ma :: zk_I 24 bk :: zk_L 480 wr :: zk_I 50 lf :: zk_I 50 rt :: r) := by
            refine wz_up (Z k) (fun j hkj ihj => ?_) ?_
            · refine zr_iload dMo_howOften_16 rfl ?_
              refine zr_aload_n dMo_howOften_18 rfl rfl ?_
              refine zr_getf g_Mo_23 dMo_howOften_19 rfl rfl ?_
              refine zr_iload dMo_howOften_22 rfl ?_
              refine zr_iald dMo_howOften_24 rfl (by omega) (by decide) ?_
              refine zr_topI (hsz k (by omega)).1 ?_
              refine zr_icmp_geN (tgt := 76) (by omega) (by omega) dMo_howOften_25 (by decide) (fun h25 => ?_) (fun h25 => ?_)
              · exfalso; omega
              · refine zr_aload_n dMo_howOften_28 rfl rfl ?_
                refine zr_getf g_Mo_20 dMo_howOften_29 rfl rfl ?_
                refine zr_iload dMo_howOften_32 rfl ?_
                refine zr_iald dMo_howOften_34 rfl (by omega) (by decide) ?_
                refine zr_topI (hla k (by omega)).1 ?_
                refine zr_iload_n dMo_howOften_35 rfl ?_
                refine zr_iconst (v := nI 1) dMo_howOften_36 (by decide) ?_
                refine zr_iaddN dMo_howOften_37 ?_
                refine zr_icmp_neN (tgt := 66) (by have := (hla k (by omega)).2; omega) (by omega) dMo_howOften_38 (by decide) (fun h38 => ?_) (fun h38 => ?_)
                · refine zr_iload dMo_howOften_66 rfl ?_
                  refine zr_istore dMo_howOften_68 (by decide) ?_
                  refine zr_iinc (v := nI (j + 1)) dMo_howOften_70 rfl (nI_1 _) (by decide) ?_
                  refine zr_goto (tgt := 16) dMo_howOften_73 (by decide) ?_
                  exact ihj
                · exact absurd h38 hLc
            · refine zr_iload dMo_howOften_16 rfl ?_
              refine zr_aload_n dMo_howOften_18 rfl rfl ?_
              refine zr_getf g_Mo_23 dMo_howOften_19 rfl rfl ?_
              refine zr_iload dMo_howOften_22 rfl ?_
              refine zr_iald dMo_howOften_24 rfl (by omega) (by decide) ?_
              refine zr_topI (hsz k (by omega)).1 ?_
              refine zr_icmp_geN (tgt := 76) (by omega) (by omega) dMo_howOften_25 (by decide) (fun h25 => ?_) (fun h25 => ?_)
              · refine zr_iinc (v := nI (k + 1)) dMo_howOften_76 rfl (nI_1 _) (by decide) ?_
                refine zr_goto (tgt := 6) dMo_howOften_79 (by decide) ?_
                rw [mo_sum_0 hLc] at ih
                exact zr_mask [true, true, true, true, true, true, false] ih
              · exfalso; omega
          exact key 0 (Nat.zero_le _)
    · refine zr_iload dMo_howOften_6 rfl ?_
      refine zr_bipush (v := nI 32) dMo_howOften_8 (by decide) ?_
      refine zr_icmp_geN (tgt := 82) (by omega) (by omega) dMo_howOften_10 (by decide) (fun h10 => ?_) (fun h10 => ?_)
      · refine zr_iload dMo_howOften_82 rfl ?_
        exact zr_ireturn dMo_howOften_84 rfl rfl (⟨rfl, rfl⟩)
      · exfalso; omega
  show zw_Z G Y_Mo_howOften _ _ _ 0 0 0 [some (.ref 26), some (.int (nI c)), some (.long x), none, none, none, none] [] _
  refine zr_iconst (v := nI 0) dMo_howOften_0 (by decide) ?_
  refine zr_istore dMo_howOften_1 (by decide) ?_
  refine zr_iconst (v := nI 0) dMo_howOften_3 (by decide) ?_
  refine zr_istore dMo_howOften_4 (by decide) ?_
  exact keyo 0 (Nat.zero_le 32)
def mo_count (n : Nat) (L Z : Nat → Nat) (co : Nat → Int64) (s : wt_S) (c k : Int32) : Int32 := if (¬ c < 0 ∧ c < nI n) ∧ (¬ k < 0 ∧ k < nI s.1) then nI (mo_often L Z co c.toNatClampNeg (lN (we_b (s.2.1 k.toNatClampNeg)))) else -1
set_option maxHeartbeats 4000000 in
set_option maxRecDepth 100000 in
theorem c_Mo_count {G : zw_G} {c0 c1 c2 c3 c4 c5 c6 c7 c8 c9 c10 c11 c12 c13 c14 c15 c16 c17 c18 c19 c20 c21 c22 c23 c24 : zw_C} {n ty wo ch : Nat} {tx le la sz wh wt ma bk lf rt : Nat → Int32} {cu co wr : Nat → Int64} {r : zw_W} {L : Nat → Nat} (hla : ∀ i, i < 64 → la i = nI (L i) ∧ L i < 1000) {Z : Nat → Nat} (hsz : ∀ i, i < 64 → sz i = nI (Z i) ∧ Z i ≤ 20) {x : Nat → Nat} (hty : ty ≤ 40) (hx : ∀ i, i < ty → tx i = nI (x i)) (hx16 : ∀ i, i < ty → x i < 65536) {c k : Int32} (hn : n ≤ 4) : zw_Met G Y_Mo_count 2 0 0 [.ref 26, .int c, .int k] (c0 :: c1 :: c2 :: c3 :: c4 :: c5 :: c6 :: c7 :: c8 :: c9 :: c10 :: c11 :: c12 :: c13 :: c14 :: c15 :: c16 :: c17 :: c18 :: c19 :: c20 :: c21 :: c22 :: c23 :: c24 :: zk_Mo n ty wo ch :: zk_I 40 tx :: zk_L 20 cu :: zk_I 160 le :: zk_I 64 la :: zk_I 64 sz :: zk_L 1280 co :: zk_I 24 wh :: zk_I 24 wt :: zk_I 24 ma :: zk_I 24 bk :: zk_L 480 wr :: zk_I 50 lf :: zk_I 50 rt :: r) (fun v w2 => v = some (.int (mo_count n L Z co (wt_of x ty) c k)) ∧ ∃ wo2 cu2 le2, w2 = (c0 :: c1 :: c2 :: c3 :: c4 :: c5 :: c6 :: c7 :: c8 :: c9 :: c10 :: c11 :: c12 :: c13 :: c14 :: c15 :: c16 :: c17 :: c18 :: c19 :: c20 :: c21 :: c22 :: c23 :: c24 :: zk_Mo n ty wo2 ch :: zk_I 40 tx :: zk_L 20 cu2 :: zk_I 160 le2 :: zk_I 64 la :: zk_I 64 sz :: zk_L 1280 co :: zk_I 24 wh :: zk_I 24 wt :: zk_I 24 ma :: zk_I 24 bk :: zk_L 480 wr :: zk_I 50 lf :: zk_I 50 rt :: r)) := by
  show zw_Z G Y_Mo_count _ _ _ 0 0 0 [some (.ref 26), some (.int c), some (.int k)] [] _
  refine zr_aload_n dMo_count_0 rfl rfl ?_
  refine zr_invV (c_Mo_read hty hx hx16) m_Mo_read k_Mo_66 v_Mo_read rfl rfl dMo_count_1 rfl (Nat.le_of_ble_eq_true rfl) (by decide) (Nat.le_of_ble_eq_true rfl) rfl (fun v w2 hp => ?_)
  obtain ⟨rfl, cu2, le2, rfl, hmr⟩ := hp
  refine ⟨rfl, ?_⟩
  refine zr_aload_n dMo_count_4 rfl rfl ?_
  refine zr_iload_n dMo_count_5 rfl ?_
  refine zr_invV (c_Mo_isClass (i := 25) rfl) m_Mo_isClass k_Mo_95 v_Mo_isClass rfl rfl dMo_count_6 rfl (Nat.le_of_ble_eq_true rfl) (by decide) (Nat.le_of_ble_eq_true rfl) rfl (fun v w2 hp => ?_)
  obtain ⟨rfl, rfl⟩ := hp
  refine ⟨rfl, ?_⟩
  refine zr_if_eqB (tgt := 24) dMo_count_9 (by decide) (fun h9 => ?_) (fun h9 => ?_)
  · have hv : mo_count n L Z co (wt_of x ty) c k = -1 := if_neg (fun q => h9 q.1)
    refine zr_iconst (v := (-1)) dMo_count_24 (by decide) ?_
    refine zr_goto (tgt := 39) dMo_count_25 (by decide) ?_
    exact zr_ireturn dMo_count_39 rfl rfl (⟨congrArg (fun x => some (Value.int x)) hv.symm, _, cu2, le2, rfl⟩)
  · obtain ⟨jc, hjc, rfl⟩ := zf_rng (by omega) h9.1 h9.2
    refine zr_iload_n dMo_count_12 rfl ?_
    refine zr_if_lt (tgt := 24) dMo_count_13 (by decide) (fun h13 => ?_) (fun h13 => ?_)
    · have hv : mo_count n L Z co (wt_of x ty) (nI jc) k = -1 := if_neg (fun q => q.2.1 h13)
      refine zr_iconst (v := (-1)) dMo_count_24 (by decide) ?_
      refine zr_goto (tgt := 39) dMo_count_25 (by decide) ?_
      exact zr_ireturn dMo_count_39 rfl rfl (⟨congrArg (fun x => some (Value.int x)) hv.symm, _, cu2, le2, rfl⟩)
    · refine zr_iload_n dMo_count_16 rfl ?_
      refine zr_aload_n dMo_count_17 rfl rfl ?_
      refine zr_getf g_Mo_57 dMo_count_18 rfl rfl ?_
      refine zr_icmp_lt (tgt := 28) dMo_count_21 (by decide) (fun h21 => ?_) (fun h21 => ?_)
      · have hw20 := wt_of_le x hty
        obtain ⟨jk, hjk, rfl⟩ := zf_rng (by omega) h13 h21
        have hv : mo_count n L Z co (wt_of x ty) (nI jc) (nI jk) = nI (mo_often L Z co jc (lN (we_b ((wt_of x ty).2.1 jk)))) := (if_pos ⟨h9, h13, h21⟩).trans (by rw [nI_clamp (by omega), nI_clamp (by omega)])
        refine zr_aload_n dMo_count_28 rfl rfl ?_
        refine zr_iload_n dMo_count_29 rfl ?_
        refine zr_aload_n dMo_count_30 rfl rfl ?_
        refine zr_getf g_Mo_13 dMo_count_31 rfl rfl ?_
        refine zr_iload_n dMo_count_34 rfl ?_
        refine zr_lald dMo_count_35 rfl (by omega) (by decide) ?_
        refine zr_topL (hmr.1 jk hjk) ?_
        refine zr_invV (c_Mo_howOften hla hsz (by omega)) m_Mo_howOften k_Mo_98 v_Mo_howOften rfl rfl dMo_count_36 rfl (Nat.le_of_ble_eq_true rfl) (by decide) (Nat.le_of_ble_eq_true rfl) rfl (fun v w2 hp => ?_)
        obtain ⟨rfl, rfl⟩ := hp
        refine ⟨rfl, ?_⟩
        exact zr_ireturn dMo_count_39 rfl rfl (⟨congrArg (fun x => some (Value.int x)) hv.symm, _, cu2, le2, rfl⟩)
      · have hv : mo_count n L Z co (wt_of x ty) (nI jc) k = -1 := if_neg (fun q => h21 q.2.2)
        refine zr_iconst (v := (-1)) dMo_count_24 (by decide) ?_
        refine zr_goto (tgt := 39) dMo_count_25 (by decide) ?_
        exact zr_ireturn dMo_count_39 rfl rfl (⟨congrArg (fun x => some (Value.int x)) hv.symm, _, cu2, le2, rfl⟩)
