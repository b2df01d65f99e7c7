/-! WordEvidence: its world's first 25 cells, written out -/
abbrev zk_WE (n : Nat) : zw_C := .inr (0, [.int (nI n), .ref 2, .ref 4, .ref 7, .ref 10, .ref 14])
def zf_cls (x : Int32) : Nat := if x < nI 2 then 2 else if nI 4 < x then 4 else x.toNatClampNeg
theorem zf_cls_in (x : Int32) : 2 ≤ zf_cls x ∧ zf_cls x ≤ 4 ∧ (¬ x < nI 2 → ¬ nI 4 < x → x = nI (zf_cls x)) := by
  unfold zf_cls
  by_cases h1 : x < nI 2
  · rw [if_pos h1]; exact ⟨by omega, by omega, fun q => absurd h1 q⟩
  · rw [if_neg h1]
    by_cases h2 : nI 4 < x
    · rw [if_pos h2]; exact ⟨by omega, by omega, fun _ q => absurd h2 q⟩
    · rw [if_neg h2]
      have h3 : ¬ x < 0 := fun q => h1 (Int32.lt_trans q (by decide))
      obtain ⟨j, hj, rfl⟩ := nI_of h3
      rw [nI_ltI hj (by decide)] at h1
      rw [nI_ltI (by decide) hj] at h2
      rw [nI_clamp hj]
      exact ⟨by omega, by omega, fun _ _ => rfl⟩
theorem zf_cls_mm (x : Int32) : (if nI 2 < (if x < nI 4 then x else nI 4) then (if x < nI 4 then x else nI 4) else nI 2) = nI (zf_cls x) := by
  obtain ⟨h1, h2, h3⟩ := zf_cls_in x
  by_cases ha : x < nI 2
  · have hb : x < nI 4 := Int32.lt_trans ha (by decide)
    rw [if_pos hb, if_neg (fun q => Int32.lt_irrefl (Int32.lt_trans ha q))]
    unfold zf_cls
    rw [if_pos ha]
  · by_cases hb : nI 4 < x
    · rw [if_neg (fun q => Int32.lt_irrefl (Int32.lt_trans hb q)), if_pos (by decide)]
      unfold zf_cls
      rw [if_neg ha, if_pos hb]
    · have e := h3 ha hb
      generalize zf_cls x = k at *
      subst e
      rcases (show k = 2 ∨ k = 3 ∨ k = 4 by omega) with rfl | rfl | rfl <;> decide
set_option maxHeartbeats 4000000 in
set_option maxRecDepth 100000 in
theorem c_Chances_init {G : zw_G} {c0 c1 c2 c3 c4 c5 c6 c7 c8 c9 c10 c11 c12 : zw_C} : zw_Met G Y_Chances_init 2 11 118 [.ref 14] ([c0, c1, c2, c3, c4, c5, c6, c7, c8, c9, c10, c11, c12, .inr (4, [.null, .null, .null, .null, .null, .int 0, .int 0])]) (zw_is none [c0, c1, c2, c3, c4, c5, c6, c7, c8, c9, c10, c11, c12, zk_Ch 0 0, zk_I 4 (fun _ => 0), zk_A 4 zk_ga, zk_I 20 (fun _ => 0), zk_I 20 (fun _ => 0), zk_I 20 (fun _ => 0), zk_I 20 (fun _ => 0), zk_I 4 (fun _ => 0), zk_P 21, zk_L 12 (fun _ => 0), zk_P 23, zk_L 12 (fun _ => 0)]) := by
  show zw_Z G Y_Chances_init _ _ _ 0 0 0 [some (.ref 14)] [] _
  refine zr_aload_n dChances_init_0 rfl rfl ?_
  refine zr_objInit o_Chances_3 t_oi t_oc dChances_init_1 (by decide) ?_
  refine zr_aload_n dChances_init_4 rfl rfl ?_
  refine zr_iconst (v := nI 4) dChances_init_5 (by decide) ?_
  refine zr_newI t_arrI dChances_init_6 (by decide) (by decide) ?_
  refine zr_putF f_Chances_9 rfl dChances_init_8 rfl (Nat.le_of_ble_eq_true rfl) (fun _ => rfl) (fun _ => rfl) ?_
  refine zr_aload_n dChances_init_11 rfl rfl ?_
  refine zr_iconst (v := nI 4) dChances_init_12 (by decide) ?_
  refine zr_bipush (v := nI 20) dChances_init_13 (by decide) ?_
  refine zr_multi c_Chances_15 t_aoA t_arrI dChances_init_15 (by decide) ?_
  refine zr_putF f_Chances_17 rfl dChances_init_19 rfl (Nat.le_of_ble_eq_true rfl) (fun _ => rfl) (fun _ => rfl) ?_
  refine zr_aload_n dChances_init_22 rfl rfl ?_
  refine zr_iconst (v := nI 4) dChances_init_23 (by decide) ?_
  refine zr_newI t_arrI dChances_init_24 (by decide) (by decide) ?_
  refine zr_putF f_Chances_20 rfl dChances_init_26 rfl (Nat.le_of_ble_eq_true rfl) (fun _ => rfl) (fun _ => rfl) ?_
  refine zr_aload_n dChances_init_29 rfl rfl ?_
  refine zr_new nw_Chances_23 dChances_init_30 (by decide) ?_
  refine zr_dup dChances_init_33 rfl ?_
  refine zr_invI c_Product_init1 m_Product_init k_Chances_25 i_Product_init rfl dChances_init_34 rfl (Nat.le_of_ble_eq_true rfl) (by decide) (Nat.le_of_ble_eq_true rfl) rfl (fun v w2 hp => ?_)
  obtain ⟨rfl, rfl⟩ := hp
  refine ⟨rfl, ?_⟩
  refine zr_putF f_Chances_26 rfl dChances_init_37 rfl (Nat.le_of_ble_eq_true rfl) (fun _ => rfl) (fun _ => rfl) ?_
  refine zr_aload_n dChances_init_40 rfl rfl ?_
  refine zr_new nw_Chances_23 dChances_init_41 (by decide) ?_
  refine zr_dup dChances_init_44 rfl ?_
  refine zr_invI c_Product_init2 m_Product_init k_Chances_25 i_Product_init rfl dChances_init_45 rfl (Nat.le_of_ble_eq_true rfl) (by decide) (Nat.le_of_ble_eq_true rfl) rfl (fun v w2 hp => ?_)
  obtain ⟨rfl, rfl⟩ := hp
  refine ⟨rfl, ?_⟩
  refine zr_putF f_Chances_30 rfl dChances_init_48 rfl (Nat.le_of_ble_eq_true rfl) (fun _ => rfl) (fun _ => rfl) ?_
  refine zr_aload_n dChances_init_51 rfl rfl ?_
  refine zr_iconst (v := nI 0) dChances_init_52 (by decide) ?_
  refine zr_putf f_Chances_33 dChances_init_53 rfl (Nat.le_of_ble_eq_true rfl) (fun _ => rfl) (fun _ => rfl) ?_
  refine zr_aload_n dChances_init_56 rfl rfl ?_
  refine zr_iconst (v := nI 0) dChances_init_57 (by decide) ?_
  refine zr_putf f_Chances_37 dChances_init_58 rfl (Nat.le_of_ble_eq_true rfl) (fun _ => rfl) (fun _ => rfl) ?_
  exact zr_return dChances_init_61 rfl (⟨rfl, rfl⟩)
set_option maxHeartbeats 4000000 in
set_option maxRecDepth 100000 in
theorem c_WE_init {G : zw_G} {x : Int32} : zw_Met G Y_WE_init 3 24 694 [.ref 1, .int x] ([.inr (0, [.int 0, .null, .null, .null, .null, .null])]) (zw_is none [zk_WE (zf_cls x), zk_Text 0 0 0, zk_L 20 (fun _ => 0), zk_Sh 3, zk_D 32 (fun _ => none), zk_L 200 (fun _ => 0), zk_Sh 6, zk_D 32 (fun _ => none), zk_L 200 (fun _ => 0), zk_Log 0 0, zk_I 24 (fun _ => 0), zk_I 24 (fun _ => 0), zk_D 24 (fun _ => none), zk_Ch 0 0, zk_I 4 (fun _ => 0), zk_A 4 zk_ga, zk_I 20 ((fun _ _ => 0) 0), zk_I 20 ((fun _ _ => 0) 1), zk_I 20 ((fun _ _ => 0) 2), zk_I 20 ((fun _ _ => 0) 3), zk_I 4 (fun _ => 0), zk_P 21, zk_L 12 (fun _ => 0), zk_P 23, zk_L 12 (fun _ => 0)]) := by
  show zw_Z G Y_WE_init _ _ _ 0 0 0 [some (.ref 1), some (.int x)] [] _
  refine zr_aload_n dWE_init_0 rfl rfl ?_
  refine zr_objInit o_WE_1 t_oi t_oc dWE_init_1 (by decide) ?_
  refine zr_aload_n dWE_init_4 rfl rfl ?_
  refine zr_new nw_WE_7 dWE_init_5 (by decide) ?_
  refine zr_dup dWE_init_8 rfl ?_
  refine zr_invI c_Text_init m_Text_init k_WE_9 i_Text_init rfl dWE_init_9 rfl (Nat.le_of_ble_eq_true rfl) (by decide) (Nat.le_of_ble_eq_true rfl) rfl (fun v w2 hp => ?_)
  obtain ⟨rfl, rfl⟩ := hp
  refine ⟨rfl, ?_⟩
  refine zr_putF f_WE_10 rfl dWE_init_12 rfl (Nat.le_of_ble_eq_true rfl) (fun _ => rfl) (fun _ => rfl) ?_
  refine zr_aload_n dWE_init_15 rfl rfl ?_
  refine zr_new nw_WE_16 dWE_init_16 (by decide) ?_
  refine zr_dup dWE_init_19 rfl ?_
  refine zr_invI c_Shelf_init1 m_Shelf_init k_WE_18 i_Shelf_init rfl dWE_init_20 rfl (Nat.le_of_ble_eq_true rfl) (by decide) (Nat.le_of_ble_eq_true rfl) rfl (fun v w2 hp => ?_)
  obtain ⟨rfl, rfl⟩ := hp
  refine ⟨rfl, ?_⟩
  refine zr_putF f_WE_19 rfl dWE_init_23 rfl (Nat.le_of_ble_eq_true rfl) (fun _ => rfl) (fun _ => rfl) ?_
  refine zr_aload_n dWE_init_26 rfl rfl ?_
  refine zr_new nw_WE_16 dWE_init_27 (by decide) ?_
  refine zr_dup dWE_init_30 rfl ?_
  refine zr_invI c_Shelf_init2 m_Shelf_init k_WE_18 i_Shelf_init rfl dWE_init_31 rfl (Nat.le_of_ble_eq_true rfl) (by decide) (Nat.le_of_ble_eq_true rfl) rfl (fun v w2 hp => ?_)
  obtain ⟨rfl, rfl⟩ := hp
  refine ⟨rfl, ?_⟩
  refine zr_putF f_WE_23 rfl dWE_init_34 rfl (Nat.le_of_ble_eq_true rfl) (fun _ => rfl) (fun _ => rfl) ?_
  refine zr_aload_n dWE_init_37 rfl rfl ?_
  refine zr_new nw_WE_26 dWE_init_38 (by decide) ?_
  refine zr_dup dWE_init_41 rfl ?_
  refine zr_invI c_Log_init m_Log_init k_WE_28 i_Log_init rfl dWE_init_42 rfl (Nat.le_of_ble_eq_true rfl) (by decide) (Nat.le_of_ble_eq_true rfl) rfl (fun v w2 hp => ?_)
  obtain ⟨rfl, rfl⟩ := hp
  refine ⟨rfl, ?_⟩
  refine zr_putF f_WE_29 rfl dWE_init_45 rfl (Nat.le_of_ble_eq_true rfl) (fun _ => rfl) (fun _ => rfl) ?_
  refine zr_aload_n dWE_init_48 rfl rfl ?_
  refine zr_new nw_WE_33 dWE_init_49 (by decide) ?_
  refine zr_dup dWE_init_52 rfl ?_
  refine zr_invI c_Chances_init m_Chances_init k_WE_35 i_Chances_init rfl dWE_init_53 rfl (Nat.le_of_ble_eq_true rfl) (by decide) (Nat.le_of_ble_eq_true rfl) rfl (fun v w2 hp => ?_)
  obtain ⟨rfl, rfl⟩ := hp
  refine ⟨rfl, ?_⟩
  refine zr_putF f_WE_36 rfl dWE_init_56 rfl (Nat.le_of_ble_eq_true rfl) (fun _ => rfl) (fun _ => rfl) ?_
  refine zr_aload_n dWE_init_59 rfl rfl ?_
  refine zr_iconst (v := nI 2) dWE_init_60 (by decide) ?_
  refine zr_iconst (v := nI 4) dWE_init_61 (by decide) ?_
  refine zr_iload_n dWE_init_62 rfl ?_
  refine zr_mmin l_WE_40 t_mmin_s t_mI t_mmin_c dWE_init_63 (by decide) ?_
  refine zr_mmax l_WE_46 t_mmax_s t_mI t_mmax_c dWE_init_66 (by decide) ?_
  refine zr_topI (zf_cls_mm x) ?_
  refine zr_putF f_WE_49 rfl dWE_init_69 rfl (Nat.le_of_ble_eq_true rfl) (fun _ => rfl) (fun _ => rfl) ?_
  exact zr_return dWE_init_72 rfl (⟨rfl, rfl⟩)
set_option maxHeartbeats 4000000 in
set_option maxRecDepth 100000 in
theorem c_WE_words {G : zw_G} {n wc len run m pb cn cw : Nat} {tw s1 s2 l1 l2 : Nat → Int64} {g1 g2 pl : Nat → Option Nat} {ids bl fd fe : Nat → Int32} {fr : Nat → Nat → Int32} {r : zw_W} : zw_Met G Y_WE_words 0 0 0 [.ref 1] ((zk_WE n :: zk_Text wc len run :: zk_L 20 tw :: zk_Sh 3 :: zk_D 32 g1 :: zk_L 200 s1 :: zk_Sh 6 :: zk_D 32 g2 :: zk_L 200 s2 :: zk_Log m pb :: zk_I 24 ids :: zk_I 24 bl :: zk_D 24 pl :: zk_Ch cn cw :: zk_I 4 fd :: zk_A 4 zk_ga :: zk_I 20 (fr 0) :: zk_I 20 (fr 1) :: zk_I 20 (fr 2) :: zk_I 20 (fr 3) :: zk_I 4 fe :: zk_P 21 :: zk_L 12 l1 :: zk_P 23 :: zk_L 12 l2 :: r)) (zw_is (some (.int (nI wc))) (zk_WE n :: zk_Text wc len run :: zk_L 20 tw :: zk_Sh 3 :: zk_D 32 g1 :: zk_L 200 s1 :: zk_Sh 6 :: zk_D 32 g2 :: zk_L 200 s2 :: zk_Log m pb :: zk_I 24 ids :: zk_I 24 bl :: zk_D 24 pl :: zk_Ch cn cw :: zk_I 4 fd :: zk_A 4 zk_ga :: zk_I 20 (fr 0) :: zk_I 20 (fr 1) :: zk_I 20 (fr 2) :: zk_I 20 (fr 3) :: zk_I 4 fe :: zk_P 21 :: zk_L 12 l1 :: zk_P 23 :: zk_L 12 l2 :: r)) := by
  show zw_Z G Y_WE_words _ _ _ 0 0 0 [some (.ref 1)] [] _
  refine zr_aload_n dWE_words_0 rfl rfl ?_
  refine zr_getf g_WE_10 dWE_words_1 rfl rfl ?_
  refine zr_getf g_WE_61 dWE_words_4 rfl rfl ?_
  exact zr_ireturn dWE_words_7 rfl rfl (⟨rfl, rfl⟩)
set_option maxHeartbeats 4000000 in
set_option maxRecDepth 100000 in
theorem c_WE_pending {G : zw_G} {n wc len run m pb cn cw : Nat} {tw s1 s2 l1 l2 : Nat → Int64} {g1 g2 pl : Nat → Option Nat} {ids bl fd fe : Nat → Int32} {fr : Nat → Nat → Int32} {r : zw_W} : zw_Met G Y_WE_pending 0 0 0 [.ref 1] ((zk_WE n :: zk_Text wc len run :: zk_L 20 tw :: zk_Sh 3 :: zk_D 32 g1 :: zk_L 200 s1 :: zk_Sh 6 :: zk_D 32 g2 :: zk_L 200 s2 :: zk_Log m pb :: zk_I 24 ids :: zk_I 24 bl :: zk_D 24 pl :: zk_Ch cn cw :: zk_I 4 fd :: zk_A 4 zk_ga :: zk_I 20 (fr 0) :: zk_I 20 (fr 1) :: zk_I 20 (fr 2) :: zk_I 20 (fr 3) :: zk_I 4 fe :: zk_P 21 :: zk_L 12 l1 :: zk_P 23 :: zk_L 12 l2 :: r)) (zw_is (some (.int (nI pb))) (zk_WE n :: zk_Text wc len run :: zk_L 20 tw :: zk_Sh 3 :: zk_D 32 g1 :: zk_L 200 s1 :: zk_Sh 6 :: zk_D 32 g2 :: zk_L 200 s2 :: zk_Log m pb :: zk_I 24 ids :: zk_I 24 bl :: zk_D 24 pl :: zk_Ch cn cw :: zk_I 4 fd :: zk_A 4 zk_ga :: zk_I 20 (fr 0) :: zk_I 20 (fr 1) :: zk_I 20 (fr 2) :: zk_I 20 (fr 3) :: zk_I 4 fe :: zk_P 21 :: zk_L 12 l1 :: zk_P 23 :: zk_L 12 l2 :: r)) := by
  show zw_Z G Y_WE_pending _ _ _ 0 0 0 [some (.ref 1)] [] _
  refine zr_aload_n dWE_pending_0 rfl rfl ?_
  refine zr_getf g_WE_29 dWE_pending_1 rfl rfl ?_
  refine zr_getf g_WE_123 dWE_pending_4 rfl rfl ?_
  exact zr_ireturn dWE_pending_7 rfl rfl (⟨rfl, rfl⟩)
set_option maxHeartbeats 4000000 in
set_option maxRecDepth 100000 in
theorem c_WE_clear {G : zw_G} {n wc len run m pb cn cw : Nat} {tw s1 s2 l1 l2 : Nat → Int64} {g1 g2 pl : Nat → Option Nat} {ids bl fd fe : Nat → Int32} {fr : Nat → Nat → Int32} {r : zw_W} : zw_Met G Y_WE_clear 1 0 0 [.ref 1] ((zk_WE n :: zk_Text wc len run :: zk_L 20 tw :: zk_Sh 3 :: zk_D 32 g1 :: zk_L 200 s1 :: zk_Sh 6 :: zk_D 32 g2 :: zk_L 200 s2 :: zk_Log m pb :: zk_I 24 ids :: zk_I 24 bl :: zk_D 24 pl :: zk_Ch cn cw :: zk_I 4 fd :: zk_A 4 zk_ga :: zk_I 20 (fr 0) :: zk_I 20 (fr 1) :: zk_I 20 (fr 2) :: zk_I 20 (fr 3) :: zk_I 4 fe :: zk_P 21 :: zk_L 12 l1 :: zk_P 23 :: zk_L 12 l2 :: r)) (zw_is (some (.int (nI len))) (zk_WE n :: zk_Text 0 0 0 :: zk_L 20 tw :: zk_Sh 3 :: zk_D 32 g1 :: zk_L 200 s1 :: zk_Sh 6 :: zk_D 32 g2 :: zk_L 200 s2 :: zk_Log m pb :: zk_I 24 ids :: zk_I 24 bl :: zk_D 24 pl :: zk_Ch cn cw :: zk_I 4 fd :: zk_A 4 zk_ga :: zk_I 20 (fr 0) :: zk_I 20 (fr 1) :: zk_I 20 (fr 2) :: zk_I 20 (fr 3) :: zk_I 4 fe :: zk_P 21 :: zk_L 12 l1 :: zk_P 23 :: zk_L 12 l2 :: r)) := by
  show zw_Z G Y_WE_clear _ _ _ 0 0 0 [some (.ref 1)] [] _
  refine zr_aload_n dWE_clear_0 rfl rfl ?_
  refine zr_getf g_WE_10 dWE_clear_1 rfl rfl ?_
  refine zr_invV c_Text_empty m_Text_empty k_WE_57 v_Text_empty rfl rfl dWE_clear_4 rfl (Nat.le_of_ble_eq_true rfl) (by decide) (Nat.le_of_ble_eq_true rfl) rfl (fun v w2 hp => ?_)
  obtain ⟨rfl, rfl⟩ := hp
  refine ⟨rfl, ?_⟩
  exact zr_ireturn dWE_clear_7 rfl rfl (⟨rfl, rfl⟩)
set_option maxHeartbeats 4000000 in
set_option maxRecDepth 100000 in
theorem c_WE_key {G : zw_G} {n len m pb cn cw : Nat} {tw s1 s2 l1 l2 : Nat → Int64} {g1 g2 pl : Nat → Option Nat} {ids bl fd fe : Nat → Int32} {fr : Nat → Nat → Int32} {r : zw_W} {c : Nat} {s : wt_S} (hc : c < 65536) (hlen : len ≤ 40) (hok : wt_ok len s) (hr : s.2.2 < 1000) (htw : ∀ i, i < s.1 → tw i = lN (we_a (s.2.1 i))) :
    zw_Met G Y_WE_key 4 0 0 [.ref 1, .int (nI c)] (zk_WE n :: zk_Text s.1 len s.2.2 :: zk_L 20 tw :: zk_Sh 3 :: zk_D 32 g1 :: zk_L 200 s1 :: zk_Sh 6 :: zk_D 32 g2 :: zk_L 200 s2 :: zk_Log m pb :: zk_I 24 ids :: zk_I 24 bl :: zk_D 24 pl :: zk_Ch cn cw :: zk_I 4 fd :: zk_A 4 zk_ga :: zk_I 20 (fr 0) :: zk_I 20 (fr 1) :: zk_I 20 (fr 2) :: zk_I 20 (fr 3) :: zk_I 4 fe :: zk_P 21 :: zk_L 12 l1 :: zk_P 23 :: zk_L 12 l2 :: r) (fun v w2 => v = some (.int (zw_b (32 ≤ c ∧ c ≤ 126 ∧ len < 40))) ∧ ∃ tw2, w2 = (zk_WE n :: zk_Text (zf_key len s c).2.1 (zf_key len s c).1 (zf_key len s c).2.2.2 :: zk_L 20 tw2 :: zk_Sh 3 :: zk_D 32 g1 :: zk_L 200 s1 :: zk_Sh 6 :: zk_D 32 g2 :: zk_L 200 s2 :: zk_Log m pb :: zk_I 24 ids :: zk_I 24 bl :: zk_D 24 pl :: zk_Ch cn cw :: zk_I 4 fd :: zk_A 4 zk_ga :: zk_I 20 (fr 0) :: zk_I 20 (fr 1) :: zk_I 20 (fr 2) :: zk_I 20 (fr 3) :: zk_I 4 fe :: zk_P 21 :: zk_L 12 l1 :: zk_P 23 :: zk_L 12 l2 :: r) ∧ ∀ i, i < (zf_key len s c).2.1 → tw2 i = lN (we_a ((zf_key len s c).2.2.1 i))) := by
  show zw_Z G Y_WE_key _ _ _ 0 0 0 [some (.ref 1), some (.int (nI c))] [] _
  refine zr_aload_n dWE_key_0 rfl rfl ?_
  refine zr_getf g_WE_10 dWE_key_1 rfl rfl ?_
  refine zr_iload_n dWE_key_4 rfl ?_
  refine zr_invV (c_Text_append hc hlen hok hr htw) m_Text_append k_WE_53 v_Text_append rfl rfl dWE_key_5 rfl (Nat.le_of_ble_eq_true rfl) (by decide) (Nat.le_of_ble_eq_true rfl) rfl (fun v w2 hp => ?_)
  obtain ⟨rfl, tw2, rfl, ht2⟩ := hp
  refine ⟨rfl, ?_⟩
  exact zr_ireturn dWE_key_8 rfl zw_b_nar (⟨rfl, tw2, rfl, ht2⟩)
def zf_letter (wc : Nat) (X : Nat → Nat) (k i : Int32) : Int32 := if ¬ k < 0 ∧ k < nI wc then zf_at (X k.toNatClampNeg) i else -1
set_option maxHeartbeats 4000000 in
set_option maxRecDepth 100000 in
theorem c_WE_letter {G : zw_G} {n wc len run m pb cn cw : Nat} {tw s1 s2 l1 l2 : Nat → Int64} {g1 g2 pl : Nat → Option Nat} {ids bl fd fe : Nat → Int32} {fr : Nat → Nat → Int32} {r : zw_W} {X : Nat → Nat} {k i : Int32} (hwc : wc ≤ 20) (hX : ∀ j, j < wc → tw j = lN (X j) ∧ X j < 2 ^ 63) : zw_Met G Y_WE_letter 2 0 0 [.ref 1, .int k, .int i] ((zk_WE n :: zk_Text wc len run :: zk_L 20 tw :: zk_Sh 3 :: zk_D 32 g1 :: zk_L 200 s1 :: zk_Sh 6 :: zk_D 32 g2 :: zk_L 200 s2 :: zk_Log m pb :: zk_I 24 ids :: zk_I 24 bl :: zk_D 24 pl :: zk_Ch cn cw :: zk_I 4 fd :: zk_A 4 zk_ga :: zk_I 20 (fr 0) :: zk_I 20 (fr 1) :: zk_I 20 (fr 2) :: zk_I 20 (fr 3) :: zk_I 4 fe :: zk_P 21 :: zk_L 12 l1 :: zk_P 23 :: zk_L 12 l2 :: r)) (zw_is (some (.int (zf_letter wc X k i))) (zk_WE n :: zk_Text wc len run :: zk_L 20 tw :: zk_Sh 3 :: zk_D 32 g1 :: zk_L 200 s1 :: zk_Sh 6 :: zk_D 32 g2 :: zk_L 200 s2 :: zk_Log m pb :: zk_I 24 ids :: zk_I 24 bl :: zk_D 24 pl :: zk_Ch cn cw :: zk_I 4 fd :: zk_A 4 zk_ga :: zk_I 20 (fr 0) :: zk_I 20 (fr 1) :: zk_I 20 (fr 2) :: zk_I 20 (fr 3) :: zk_I 4 fe :: zk_P 21 :: zk_L 12 l1 :: zk_P 23 :: zk_L 12 l2 :: r)) := by
  show zw_Z G Y_WE_letter _ _ _ 0 0 0 [some (.ref 1), some (.int k), some (.int i)] [] _
  refine zr_aload_n dWE_letter_0 rfl rfl ?_
  refine zr_getf g_WE_10 dWE_letter_1 rfl rfl ?_
  refine zr_iload_n dWE_letter_4 rfl ?_
  refine zr_invV c_Text_hasWord m_Text_hasWord k_WE_64 v_Text_hasWord rfl rfl dWE_letter_5 rfl (Nat.le_of_ble_eq_true rfl) (by decide) (Nat.le_of_ble_eq_true rfl) rfl (fun v w2 hp => ?_)
  obtain ⟨rfl, rfl⟩ := hp
  refine ⟨rfl, ?_⟩
  refine zr_if_neB (tgt := 13) dWE_letter_8 (by decide) (fun h8 => ?_) (fun h8 => ?_)
  · obtain ⟨j, hj, rfl⟩ := zf_rng (by omega) h8.1 h8.2
    refine zr_aload_n dWE_letter_13 rfl rfl ?_
    refine zr_getf g_WE_10 dWE_letter_14 rfl rfl ?_
    refine zr_getf g_WE_68 dWE_letter_17 rfl rfl ?_
    refine zr_iload_n dWE_letter_20 rfl ?_
    refine zr_lald dWE_letter_21 rfl (by omega) (by decide) ?_
    refine zr_topL (hX j hj).1 ?_
    refine zr_iload_n dWE_letter_22 rfl ?_
    refine zr_invS (c_Letters_at (hX j hj).2) m_Letters_at k_WE_72 (s_Letters_at) dWE_letter_23 rfl (Nat.le_of_ble_eq_true rfl) (by decide) (Nat.le_of_ble_eq_true rfl) rfl (fun v w2 hp => ?_)
    obtain ⟨rfl, rfl⟩ := hp
    refine ⟨rfl, ?_⟩
    exact zr_ireturn dWE_letter_26 rfl rfl (⟨congrArg (fun x => some (Value.int x)) (by unfold zf_letter; rw [if_pos h8, nI_clamp (by omega)]), rfl⟩)
  · refine zr_iconst (v := (-1)) dWE_letter_11 (by decide) ?_
    exact zr_ireturn dWE_letter_12 rfl rfl (⟨congrArg (fun x => some (Value.int x)) (if_neg h8).symm, rfl⟩)
set_option maxHeartbeats 4000000 in
set_option maxRecDepth 100000 in
theorem c_WE_blocks {G : zw_G} {w : zw_W} {a : Nat} (ha : a < 1000) : zw_Met G Y_WE_blocksToTrain 0 0 0 [.int (nI a)] (w) (zw_is (some (.int (nI (1 + (a + 4 - 1) / 4)))) w) := by
  show zw_Z G Y_WE_blocksToTrain _ _ _ 0 0 0 [some (.int (nI a))] [] _
  refine zr_iconst (v := nI 1) dWE_blocksToTrain_0 (by decide) ?_
  refine zr_iload_n dWE_blocksToTrain_1 rfl ?_
  refine zr_iconst (v := nI 4) dWE_blocksToTrain_2 (by decide) ?_
  refine zr_iaddN dWE_blocksToTrain_3 ?_
  refine zr_iconst (v := nI 1) dWE_blocksToTrain_4 (by decide) ?_
  refine zr_isubN (by omega) dWE_blocksToTrain_5 ?_
  refine zr_iconst (v := nI 4) dWE_blocksToTrain_6 (by decide) ?_
  refine zr_idivN (by omega) (by decide) (by decide) dWE_blocksToTrain_7 ?_
  refine zr_iaddN dWE_blocksToTrain_8 ?_
  exact zr_ireturn dWE_blocksToTrain_9 rfl rfl (⟨rfl, rfl⟩)
set_option maxHeartbeats 4000000 in
set_option maxRecDepth 100000 in
theorem c_WE_change_some {G : zw_G} {n wc len run m pb cn cw : Nat} {tw s1 s2 l1 l2 : Nat → Int64} {g1 g2 pl : Nat → Option Nat} {ids bl fd fe : Nat → Int32} {fr : Nat → Nat → Int32} {r : zw_W} {id a : Nat} (hm : m < 24) (hid : id < 32) {k : Nat} {vs : List Value} (hq : r[k + 14]? = some (.inr (6, vs))) : zw_Met G Y_WE_change 2 0 0 [.ref 1, .int (nI id), .ref (k + 40), .int (nI a)] ((zk_WE n :: zk_Text wc len run :: zk_L 20 tw :: zk_Sh 3 :: zk_D 32 g1 :: zk_L 200 s1 :: zk_Sh 6 :: zk_D 32 g2 :: zk_L 200 s2 :: zk_Log m pb :: zk_I 24 ids :: zk_I 24 bl :: zk_D 24 pl :: zk_Ch cn cw :: zk_I 4 fd :: zk_A 4 zk_ga :: zk_I 20 (fr 0) :: zk_I 20 (fr 1) :: zk_I 20 (fr 2) :: zk_I 20 (fr 3) :: zk_I 4 fe :: zk_P 21 :: zk_L 12 l1 :: zk_P 23 :: zk_L 12 l2 :: r)) (zw_is none (zk_WE n :: zk_Text wc len run :: zk_L 20 tw :: zk_Sh 3 :: zk_D 32 (va_up g1 id (some (k + 40))) :: zk_L 200 s1 :: zk_Sh 6 :: zk_D 32 g2 :: zk_L 200 s2 :: zk_Log (m + 1) (pb + a) :: zk_I 24 (upd ids m (nI id)) :: zk_I 24 (upd bl m (nI a)) :: zk_D 24 (va_up pl m (some (k + 40))) :: zk_Ch cn cw :: zk_I 4 fd :: zk_A 4 zk_ga :: zk_I 20 (fr 0) :: zk_I 20 (fr 1) :: zk_I 20 (fr 2) :: zk_I 20 (fr 3) :: zk_I 4 fe :: zk_P 21 :: zk_L 12 l1 :: zk_P 23 :: zk_L 12 l2 :: r)) := by
  show zw_Z G Y_WE_change _ _ _ 0 0 0 [some (.ref 1), some (.int (nI id)), some (.ref (k + 40)), some (.int (nI a))] [] _
  refine zr_aload_n dWE_change_0 rfl rfl ?_
  refine zr_getf g_WE_29 dWE_change_1 rfl rfl ?_
  refine zr_iload_n dWE_change_4 rfl ?_
  refine zr_aload_n dWE_change_5 rfl rfl ?_
  refine zr_iload_n dWE_change_6 rfl ?_
  refine zr_invV (c_Log_write_some hm (k := k) (vs := vs) hq) m_Log_write k_WE_152 v_Log_write rfl rfl dWE_change_7 rfl (Nat.le_of_ble_eq_true rfl) (by decide) (Nat.le_of_ble_eq_true rfl) rfl (fun v w2 hp => ?_)
  obtain ⟨rfl, rfl⟩ := hp
  refine ⟨rfl, ?_⟩
  refine zr_aload_n dWE_change_10 rfl rfl ?_
  refine zr_getf g_WE_19 dWE_change_11 rfl rfl ?_
  refine zr_iload_n dWE_change_14 rfl ?_
  refine zr_aload_n dWE_change_15 rfl rfl ?_
  refine zr_invV (c_Shelf_put_some (i := 3) rfl rfl hid (q := k + 39) hq) m_Shelf_put k_WE_155 v_Shelf_put rfl rfl dWE_change_16 rfl (Nat.le_of_ble_eq_true rfl) (by decide) (Nat.le_of_ble_eq_true rfl) rfl (fun v w2 hp => ?_)
  obtain ⟨rfl, rfl⟩ := hp
  refine ⟨rfl, ?_⟩
  exact zr_return dWE_change_19 rfl (⟨rfl, rfl⟩)
set_option maxHeartbeats 4000000 in
set_option maxRecDepth 100000 in
theorem c_WE_change_none {G : zw_G} {n wc len run m pb cn cw : Nat} {tw s1 s2 l1 l2 : Nat → Int64} {g1 g2 pl : Nat → Option Nat} {ids bl fd fe : Nat → Int32} {fr : Nat → Nat → Int32} {r : zw_W} {id a : Nat} (hm : m < 24) (hid : id < 32) : zw_Met G Y_WE_change 2 0 0 [.ref 1, .int (nI id), .null, .int (nI a)] ((zk_WE n :: zk_Text wc len run :: zk_L 20 tw :: zk_Sh 3 :: zk_D 32 g1 :: zk_L 200 s1 :: zk_Sh 6 :: zk_D 32 g2 :: zk_L 200 s2 :: zk_Log m pb :: zk_I 24 ids :: zk_I 24 bl :: zk_D 24 pl :: zk_Ch cn cw :: zk_I 4 fd :: zk_A 4 zk_ga :: zk_I 20 (fr 0) :: zk_I 20 (fr 1) :: zk_I 20 (fr 2) :: zk_I 20 (fr 3) :: zk_I 4 fe :: zk_P 21 :: zk_L 12 l1 :: zk_P 23 :: zk_L 12 l2 :: r)) (zw_is none (zk_WE n :: zk_Text wc len run :: zk_L 20 tw :: zk_Sh 3 :: zk_D 32 (va_up g1 id none) :: zk_L 200 s1 :: zk_Sh 6 :: zk_D 32 g2 :: zk_L 200 s2 :: zk_Log (m + 1) (pb + a) :: zk_I 24 (upd ids m (nI id)) :: zk_I 24 (upd bl m (nI a)) :: zk_D 24 (va_up pl m none) :: zk_Ch cn cw :: zk_I 4 fd :: zk_A 4 zk_ga :: zk_I 20 (fr 0) :: zk_I 20 (fr 1) :: zk_I 20 (fr 2) :: zk_I 20 (fr 3) :: zk_I 4 fe :: zk_P 21 :: zk_L 12 l1 :: zk_P 23 :: zk_L 12 l2 :: r)) := by
  show zw_Z G Y_WE_change _ _ _ 0 0 0 [some (.ref 1), some (.int (nI id)), some (.null), some (.int (nI a))] [] _
  refine zr_aload_n dWE_change_0 rfl rfl ?_
  refine zr_getf g_WE_29 dWE_change_1 rfl rfl ?_
  refine zr_iload_n dWE_change_4 rfl ?_
  refine zr_aload_n dWE_change_5 rfl rfl ?_
  refine zr_iload_n dWE_change_6 rfl ?_
  refine zr_invV (c_Log_write_none hm) m_Log_write k_WE_152 v_Log_write rfl rfl dWE_change_7 rfl (Nat.le_of_ble_eq_true rfl) (by decide) (Nat.le_of_ble_eq_true rfl) rfl (fun v w2 hp => ?_)
  obtain ⟨rfl, rfl⟩ := hp
  refine ⟨rfl, ?_⟩
  refine zr_aload_n dWE_change_10 rfl rfl ?_
  refine zr_getf g_WE_19 dWE_change_11 rfl rfl ?_
  refine zr_iload_n dWE_change_14 rfl ?_
  refine zr_aload_n dWE_change_15 rfl rfl ?_
  refine zr_invV (c_Shelf_put_none (i := 3) rfl rfl hid) m_Shelf_put k_WE_155 v_Shelf_put rfl rfl dWE_change_16 rfl (Nat.le_of_ble_eq_true rfl) (by decide) (Nat.le_of_ble_eq_true rfl) rfl (fun v w2 hp => ?_)
  obtain ⟨rfl, rfl⟩ := hp
  refine ⟨rfl, ?_⟩
  exact zr_return dWE_change_19 rfl (⟨rfl, rfl⟩)
