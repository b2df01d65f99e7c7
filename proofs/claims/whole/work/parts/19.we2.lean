set_option maxHeartbeats 4000000 in
set_option maxRecDepth 100000 in
theorem c_WE_sync {G : zw_G} {n wc len run m pb cn cw : Nat} {tw s1 s2 l1 l2 : Nat → Int64} {g1 g2 pl : Nat → Option Nat} {ids bl fd fe : Nat → Int32} {fr : Nat → Nat → Int32} {r : zw_W} (hd : ∀ id, id < 32 → ∀ x, g1 id = some x → ∃ q vs, x = q + 40 ∧ r[q + 14]? = some (.inr (6, vs))) : zw_Met G Y_WE_sync 1 0 0 [.ref 1] ((zk_WE n :: zk_Text wc len run :: zk_L 20 tw :: zk_Sh 3 :: zk_D 32 g1 :: zk_L 200 s1 :: zk_Sh 6 :: zk_D 32 g2 :: zk_L 200 s2 :: zk_Log m pb :: zk_I 24 ids :: zk_I 24 bl :: zk_D 24 pl :: zk_Ch cn cw :: zk_I 4 fd :: zk_A 4 zk_ga :: zk_I 20 (fr 0) :: zk_I 20 (fr 1) :: zk_I 20 (fr 2) :: zk_I 20 (fr 3) :: zk_I 4 fe :: zk_P 21 :: zk_L 12 l1 :: zk_P 23 :: zk_L 12 l2 :: r)) (zw_is (some (.int (nI pb))) (zk_WE n :: zk_Text wc len run :: zk_L 20 tw :: zk_Sh 3 :: zk_D 32 g1 :: zk_L 200 s1 :: zk_Sh 6 :: zk_D 32 (fun j => if j < 32 then g1 j else g2 j) :: zk_L 200 s2 :: zk_Log 0 0 :: zk_I 24 ids :: zk_I 24 bl :: zk_D 24 pl :: zk_Ch cn cw :: zk_I 4 fd :: zk_A 4 zk_ga :: zk_I 20 (fr 0) :: zk_I 20 (fr 1) :: zk_I 20 (fr 2) :: zk_I 20 (fr 3) :: zk_I 4 fe :: zk_P 21 :: zk_L 12 l1 :: zk_P 23 :: zk_L 12 l2 :: r)) := by
  show zw_Z G Y_WE_sync _ _ _ 0 0 0 [some (.ref 1)] [] _
  refine zr_aload_n dWE_sync_0 rfl rfl ?_
  refine zr_getf g_WE_23 dWE_sync_1 rfl rfl ?_
  refine zr_aload_n dWE_sync_4 rfl rfl ?_
  refine zr_getf g_WE_19 dWE_sync_5 rfl rfl ?_
  refine zr_invV (c_Shelf_copyFrom (i := 6) (i2 := 3) rfl rfl rfl rfl (by decide) (by decide) (fun id hid x hx => by obtain ⟨q, vs, h1, h2⟩ := hd id hid x hx; exact ⟨q + 39, vs, h1, by omega, h2⟩)) m_Shelf_copyFrom k_WE_114 v_Shelf_copyFrom rfl rfl dWE_sync_8 rfl (Nat.le_of_ble_eq_true rfl) (by decide) (Nat.le_of_ble_eq_true rfl) rfl (fun v w2 hp => ?_)
  obtain ⟨rfl, rfl⟩ := hp
  refine ⟨rfl, ?_⟩
  refine zr_aload_n dWE_sync_11 rfl rfl ?_
  refine zr_getf g_WE_29 dWE_sync_12 rfl rfl ?_
  refine zr_invV c_Log_empty m_Log_empty k_WE_118 v_Log_empty rfl rfl dWE_sync_15 rfl (Nat.le_of_ble_eq_true rfl) (by decide) (Nat.le_of_ble_eq_true rfl) rfl (fun v w2 hp => ?_)
  obtain ⟨rfl, rfl⟩ := hp
  refine ⟨rfl, ?_⟩
  exact zr_ireturn dWE_sync_18 rfl rfl (⟨rfl, rfl⟩)
theorem zl_app_doc {li : Nat → Nat} {pl g : Nat → Option Nat} {P : Nat → Prop} {m : Nat} (hg : ∀ id, id < 32 → ∀ x, g id = some x → P x) (hp : ∀ j, j < m → ∀ x, pl j = some x → P x) : ∀ k, k ≤ m → ∀ id, id < 32 → ∀ x, zl_app li pl g k id = some x → P x := by
  intro k
  induction k with
  | zero => intro _; exact hg
  | succ k ih =>
    intro hk id hid x hx
    rw [zl_app] at hx
    unfold va_up at hx
    split at hx
    · exact hp k (by omega) x hx
    · exact ih (by omega) id hid x hx
set_option maxHeartbeats 4000000 in
set_option maxRecDepth 100000 in
theorem c_WE_fail {G : zw_G} {n wc len run m pb cn cw : Nat} {tw s1 s2 l1 l2 : Nat → Int64} {g1 g2 pl : Nat → Option Nat} {ids bl fd fe : Nat → Int32} {fr : Nat → Nat → Int32} {r : zw_W} {li lb : Nat → Nat} {x : Int32} (hm : m ≤ 24) (hids : ∀ j, j < m → ids j = nI (li j)) (hbl : ∀ j, j < m → bl j = nI (lb j)) (h32 : ∀ j, j < m → li j < 32) (hsum : wn_sum lb m ≤ 24) (hd : ∀ j, j < m → ∀ q, pl j = some q → ∃ k vs, q = k + 40 ∧ r[k + 14]? = some (.inr (6, vs))) (hd2 : ∀ id, id < 32 → ∀ x, g2 id = some x → ∃ q vs, x = q + 40 ∧ r[q + 14]? = some (.inr (6, vs))) : zw_Met G Y_WE_fail 3 0 0 [.ref 1, .int x] (zk_WE n :: zk_Text wc len run :: zk_L 20 tw :: zk_Sh 3 :: zk_D 32 g1 :: zk_L 200 s1 :: zk_Sh 6 :: zk_D 32 g2 :: zk_L 200 s2 :: zk_Log m pb :: zk_I 24 ids :: zk_I 24 bl :: zk_D 24 pl :: zk_Ch cn cw :: zk_I 4 fd :: zk_A 4 zk_ga :: zk_I 20 (fr 0) :: zk_I 20 (fr 1) :: zk_I 20 (fr 2) :: zk_I 20 (fr 3) :: zk_I 4 fe :: zk_P 21 :: zk_L 12 l1 :: zk_P 23 :: zk_L 12 l2 :: r) (fun v w2 => ∃ k, zl_done m lb x k ∧ v = some (.int (nI (m - k))) ∧ w2 = (zk_WE n :: zk_Text wc len run :: zk_L 20 tw :: zk_Sh 3 :: zk_D 32 (fun j => if j < 32 then (zl_app li pl g2 k) j else g1 j) :: zk_L 200 s1 :: zk_Sh 6 :: zk_D 32 (zl_app li pl g2 k) :: zk_L 200 s2 :: zk_Log 0 0 :: zk_I 24 ids :: zk_I 24 bl :: zk_D 24 pl :: zk_Ch cn cw :: zk_I 4 fd :: zk_A 4 zk_ga :: zk_I 20 (fr 0) :: zk_I 20 (fr 1) :: zk_I 20 (fr 2) :: zk_I 20 (fr 3) :: zk_I 4 fe :: zk_P 21 :: zk_L 12 l1 :: zk_P 23 :: zk_L 12 l2 :: r)) := by
  show zw_Z G Y_WE_fail _ _ _ 0 0 0 [some (.ref 1), some (.int x), none] [] _
  refine zr_aload_n dWE_fail_0 rfl rfl ?_
  refine zr_getf g_WE_29 dWE_fail_1 rfl rfl ?_
  refine zr_aload_n dWE_fail_4 rfl rfl ?_
  refine zr_getf g_WE_23 dWE_fail_5 rfl rfl ?_
  refine zr_iload_n dWE_fail_8 rfl ?_
  refine zr_invV (c_Log_replayOn hm hids hbl h32 hsum hd) m_Log_replayOn k_WE_119 v_Log_replayOn rfl rfl dWE_fail_9 rfl (Nat.le_of_ble_eq_true rfl) (by decide) (Nat.le_of_ble_eq_true rfl) rfl (fun v w2 hp => ?_)
  obtain ⟨k, hk, rfl, rfl⟩ := hp
  have hd3 := zl_app_doc (li := li) hd2 hd k hk.1
  refine ⟨rfl, ?_⟩
  refine zr_istore_n dWE_fail_12 (by decide) ?_
  refine zr_aload_n dWE_fail_13 rfl rfl ?_
  refine zr_getf g_WE_19 dWE_fail_14 rfl rfl ?_
  refine zr_aload_n dWE_fail_17 rfl rfl ?_
  refine zr_getf g_WE_23 dWE_fail_18 rfl rfl ?_
  refine zr_invV (c_Shelf_copyFrom (i := 3) (i2 := 6) rfl rfl rfl rfl (by decide) (by decide) (fun id hid x hx => by obtain ⟨q, vs, h1, h2⟩ := hd3 id hid x hx; exact ⟨q + 39, vs, h1, by omega, h2⟩)) m_Shelf_copyFrom k_WE_114 v_Shelf_copyFrom rfl rfl dWE_fail_21 rfl (Nat.le_of_ble_eq_true rfl) (by decide) (Nat.le_of_ble_eq_true rfl) rfl (fun v w2 hp => ?_)
  obtain ⟨rfl, rfl⟩ := hp
  refine ⟨rfl, ?_⟩
  refine zr_aload_n dWE_fail_24 rfl rfl ?_
  refine zr_getf g_WE_29 dWE_fail_25 rfl rfl ?_
  refine zr_invV c_Log_empty m_Log_empty k_WE_118 v_Log_empty rfl rfl dWE_fail_28 rfl (Nat.le_of_ble_eq_true rfl) (by decide) (Nat.le_of_ble_eq_true rfl) rfl (fun v w2 hp => ?_)
  obtain ⟨rfl, rfl⟩ := hp
  refine ⟨rfl, ?_⟩
  refine zr_pop dWE_fail_31 rfl ?_
  refine zr_iload_n dWE_fail_32 rfl ?_
  exact zr_ireturn dWE_fail_33 rfl rfl (⟨k, hk, rfl, rfl⟩)
def zf_docs (n : Nat) (g : Nat → Option Nat) (dc : Nat → Nat) (c : Int32) : Int32 := if c = -1 then nI (zs_size g 32) else if ¬ c < 0 ∧ c < nI n then nI (zc_D g dc c.toNatClampNeg) else -1
def zf_total (n : Nat) (g : Nat → Option Nat) (dc dn : Nat → Nat) (c : Int32) : Int32 := if ¬ c < 0 ∧ c < nI n then nI (zs_sum g dc c.toNatClampNeg dn 32) else -1
def zf_count (n wc : Nat) (g : Nat → Option Nat) (dc dn : Nat → Nat) (df : Nat → Nat → Int64) (tw : Nat → Int64) (c k : Int32) : Int32 := if (¬ c < 0 ∧ c < nI n) ∧ (¬ k < 0 ∧ k < nI wc) then nI (zc_T g dc dn df c.toNatClampNeg (tw k.toNatClampNeg)) else -1
def zf_label (g : Nat → Option Nat) (dc : Nat → Nat) (id : Int32) : Int32 := if (¬ id < 0 ∧ id < nI 32) ∧ g id.toNatClampNeg ≠ none then nI (dc id.toNatClampNeg) else -1
set_option maxHeartbeats 4000000 in
set_option maxRecDepth 100000 in
theorem c_WE_documents {G : zw_G} {n wc len run m pb cn cw : Nat} {tw s1 s2 l1 l2 : Nat → Int64} {g1 g2 pl : Nat → Option Nat} {ids bl fd fe : Nat → Int32} {fr : Nat → Nat → Int32} {r : zw_W} {c : Int32} (hn4 : n ≤ 4) {dc dn : Nat → Nat} {df : Nat → Nat → Int64} (hok : zs_okR 14 r g1 dc dn df) : zw_Met G Y_WE_documents 1 0 0 [.ref 1, .int c] ((zk_WE n :: zk_Text wc len run :: zk_L 20 tw :: zk_Sh 3 :: zk_D 32 g1 :: zk_L 200 s1 :: zk_Sh 6 :: zk_D 32 g2 :: zk_L 200 s2 :: zk_Log m pb :: zk_I 24 ids :: zk_I 24 bl :: zk_D 24 pl :: zk_Ch cn cw :: zk_I 4 fd :: zk_A 4 zk_ga :: zk_I 20 (fr 0) :: zk_I 20 (fr 1) :: zk_I 20 (fr 2) :: zk_I 20 (fr 3) :: zk_I 4 fe :: zk_P 21 :: zk_L 12 l1 :: zk_P 23 :: zk_L 12 l2 :: r)) (zw_is (some (.int (zf_docs n g1 dc c))) (zk_WE n :: zk_Text wc len run :: zk_L 20 tw :: zk_Sh 3 :: zk_D 32 g1 :: zk_L 200 s1 :: zk_Sh 6 :: zk_D 32 g2 :: zk_L 200 s2 :: zk_Log m pb :: zk_I 24 ids :: zk_I 24 bl :: zk_D 24 pl :: zk_Ch cn cw :: zk_I 4 fd :: zk_A 4 zk_ga :: zk_I 20 (fr 0) :: zk_I 20 (fr 1) :: zk_I 20 (fr 2) :: zk_I 20 (fr 3) :: zk_I 4 fe :: zk_P 21 :: zk_L 12 l1 :: zk_P 23 :: zk_L 12 l2 :: r)) := by
  show zw_Z G Y_WE_documents _ _ _ 0 0 0 [some (.ref 1), some (.int c)] [] _
  refine zr_iload_n dWE_documents_0 rfl ?_
  refine zr_iconst (v := (-1)) dWE_documents_1 (by decide) ?_
  refine zr_icmp_ne (tgt := 13) dWE_documents_2 (by decide) (fun h2 => ?_) (fun h2 => ?_)
  · refine zr_aload_n dWE_documents_13 rfl rfl ?_
    refine zr_iload_n dWE_documents_14 rfl ?_
    refine zr_invV (c_WE_isClass (i := 0) rfl) m_WE_isClass k_WE_81 v_WE_isClass rfl rfl dWE_documents_15 rfl (Nat.le_of_ble_eq_true rfl) (by decide) (Nat.le_of_ble_eq_true rfl) rfl (fun v w2 hp => ?_)
    obtain ⟨rfl, rfl⟩ := hp
    refine ⟨rfl, ?_⟩
    refine zr_if_eqB (tgt := 32) dWE_documents_18 (by decide) (fun h18 => ?_) (fun h18 => ?_)
    · refine zr_iconst (v := (-1)) dWE_documents_32 (by decide) ?_
      exact zr_ireturn dWE_documents_33 rfl rfl (⟨congrArg (fun x => some (Value.int x)) (by unfold zf_docs; rw [if_neg h2]; first | rw [if_neg h18] | (rw [if_pos h18, nI_clamp (by omega)]; rfl)), rfl⟩)
    · obtain ⟨j, hj, rfl⟩ := zf_rng (by omega) h18.1 h18.2
      refine zr_aload_n dWE_documents_21 rfl rfl ?_
      refine zr_getf g_WE_19 dWE_documents_22 rfl rfl ?_
      refine zr_iload_n dWE_documents_25 rfl ?_
      refine zr_invV (c_Shelf_documentsOf (i := 3) rfl rfl (hok.ok (front := [_, _, _, _, _, _, _, _, _, _, _, _, _, _, _, _, _, _, _, _, _, _, _, _, _]) rfl) (by omega)) m_Shelf_documentsOf k_WE_126 v_Shelf_documentsOf rfl rfl dWE_documents_26 rfl (Nat.le_of_ble_eq_true rfl) (by decide) (Nat.le_of_ble_eq_true rfl) rfl (fun v w2 hp => ?_)
      obtain ⟨rfl, rfl⟩ := hp
      refine ⟨rfl, ?_⟩
      refine zr_goto (tgt := 33) dWE_documents_29 (by decide) ?_
      exact zr_ireturn dWE_documents_33 rfl rfl (⟨congrArg (fun x => some (Value.int x)) (by unfold zf_docs; rw [if_neg h2]; first | rw [if_neg h18] | (rw [if_pos h18, nI_clamp (by omega)]; rfl)), rfl⟩)
  · refine zr_aload_n dWE_documents_5 rfl rfl ?_
    refine zr_getf g_WE_19 dWE_documents_6 rfl rfl ?_
    refine zr_invV (c_Shelf_size (i := 3) rfl rfl) m_Shelf_size k_WE_88 v_Shelf_size rfl rfl dWE_documents_9 rfl (Nat.le_of_ble_eq_true rfl) (by decide) (Nat.le_of_ble_eq_true rfl) rfl (fun v w2 hp => ?_)
    obtain ⟨rfl, rfl⟩ := hp
    refine ⟨rfl, ?_⟩
    exact zr_ireturn dWE_documents_12 rfl rfl (⟨congrArg (fun x => some (Value.int x)) (by unfold zf_docs; rw [if_pos h2]), rfl⟩)
set_option maxHeartbeats 4000000 in
set_option maxRecDepth 100000 in
theorem c_WE_total {G : zw_G} {n wc len run m pb cn cw : Nat} {tw s1 s2 l1 l2 : Nat → Int64} {g1 g2 pl : Nat → Option Nat} {ids bl fd fe : Nat → Int32} {fr : Nat → Nat → Int32} {r : zw_W} {c : Int32} (hn4 : n ≤ 4) {dc dn : Nat → Nat} {df : Nat → Nat → Int64} (hok : zs_okR 14 r g1 dc dn df) : zw_Met G Y_WE_total 1 0 0 [.ref 1, .int c] ((zk_WE n :: zk_Text wc len run :: zk_L 20 tw :: zk_Sh 3 :: zk_D 32 g1 :: zk_L 200 s1 :: zk_Sh 6 :: zk_D 32 g2 :: zk_L 200 s2 :: zk_Log m pb :: zk_I 24 ids :: zk_I 24 bl :: zk_D 24 pl :: zk_Ch cn cw :: zk_I 4 fd :: zk_A 4 zk_ga :: zk_I 20 (fr 0) :: zk_I 20 (fr 1) :: zk_I 20 (fr 2) :: zk_I 20 (fr 3) :: zk_I 4 fe :: zk_P 21 :: zk_L 12 l1 :: zk_P 23 :: zk_L 12 l2 :: r)) (zw_is (some (.int (zf_total n g1 dc dn c))) (zk_WE n :: zk_Text wc len run :: zk_L 20 tw :: zk_Sh 3 :: zk_D 32 g1 :: zk_L 200 s1 :: zk_Sh 6 :: zk_D 32 g2 :: zk_L 200 s2 :: zk_Log m pb :: zk_I 24 ids :: zk_I 24 bl :: zk_D 24 pl :: zk_Ch cn cw :: zk_I 4 fd :: zk_A 4 zk_ga :: zk_I 20 (fr 0) :: zk_I 20 (fr 1) :: zk_I 20 (fr 2) :: zk_I 20 (fr 3) :: zk_I 4 fe :: zk_P 21 :: zk_L 12 l1 :: zk_P 23 :: zk_L 12 l2 :: r)) := by
  show zw_Z G Y_WE_total _ _ _ 0 0 0 [some (.ref 1), some (.int c)] [] _
  refine zr_aload_n dWE_total_0 rfl rfl ?_
  refine zr_iload_n dWE_total_1 rfl ?_
  refine zr_invV (c_WE_isClass (i := 0) rfl) m_WE_isClass k_WE_81 v_WE_isClass rfl rfl dWE_total_2 rfl (Nat.le_of_ble_eq_true rfl) (by decide) (Nat.le_of_ble_eq_true rfl) rfl (fun v w2 hp => ?_)
  obtain ⟨rfl, rfl⟩ := hp
  refine ⟨rfl, ?_⟩
  refine zr_if_eqB (tgt := 19) dWE_total_5 (by decide) (fun h5 => ?_) (fun h5 => ?_)
  · refine zr_iconst (v := (-1)) dWE_total_19 (by decide) ?_
    exact zr_ireturn dWE_total_20 rfl rfl (⟨congrArg (fun x => some (Value.int x)) (by unfold zf_total; first | rw [if_neg h5] | rw [if_pos h5, nI_clamp (by omega)]), rfl⟩)
  · obtain ⟨j, hj, rfl⟩ := zf_rng (by omega) h5.1 h5.2
    refine zr_aload_n dWE_total_8 rfl rfl ?_
    refine zr_getf g_WE_19 dWE_total_9 rfl rfl ?_
    refine zr_iload_n dWE_total_12 rfl ?_
    refine zr_invV (c_Shelf_wordsOf (i := 3) rfl rfl (hok.ok (front := [_, _, _, _, _, _, _, _, _, _, _, _, _, _, _, _, _, _, _, _, _, _, _, _, _]) rfl) (by omega)) m_Shelf_wordsOf k_WE_129 v_Shelf_wordsOf rfl rfl dWE_total_13 rfl (Nat.le_of_ble_eq_true rfl) (by decide) (Nat.le_of_ble_eq_true rfl) rfl (fun v w2 hp => ?_)
    obtain ⟨rfl, rfl⟩ := hp
    refine ⟨rfl, ?_⟩
    refine zr_goto (tgt := 20) dWE_total_16 (by decide) ?_
    exact zr_ireturn dWE_total_20 rfl rfl (⟨congrArg (fun x => some (Value.int x)) (by unfold zf_total; first | rw [if_neg h5] | rw [if_pos h5, nI_clamp (by omega)]), rfl⟩)
set_option maxHeartbeats 4000000 in
set_option maxRecDepth 100000 in
theorem c_WE_count {G : zw_G} {n wc len run m pb cn cw : Nat} {tw s1 s2 l1 l2 : Nat → Int64} {g1 g2 pl : Nat → Option Nat} {ids bl fd fe : Nat → Int32} {fr : Nat → Nat → Int32} {r : zw_W} {c k : Int32} (hn4 : n ≤ 4) (hwc : wc ≤ 20) {dc dn : Nat → Nat} {df : Nat → Nat → Int64} (hok : zs_okR 14 r g1 dc dn df) : zw_Met G Y_WE_count 2 0 0 [.ref 1, .int c, .int k] ((zk_WE n :: zk_Text wc len run :: zk_L 20 tw :: zk_Sh 3 :: zk_D 32 g1 :: zk_L 200 s1 :: zk_Sh 6 :: zk_D 32 g2 :: zk_L 200 s2 :: zk_Log m pb :: zk_I 24 ids :: zk_I 24 bl :: zk_D 24 pl :: zk_Ch cn cw :: zk_I 4 fd :: zk_A 4 zk_ga :: zk_I 20 (fr 0) :: zk_I 20 (fr 1) :: zk_I 20 (fr 2) :: zk_I 20 (fr 3) :: zk_I 4 fe :: zk_P 21 :: zk_L 12 l1 :: zk_P 23 :: zk_L 12 l2 :: r)) (zw_is (some (.int (zf_count n wc g1 dc dn df tw c k))) (zk_WE n :: zk_Text wc len run :: zk_L 20 tw :: zk_Sh 3 :: zk_D 32 g1 :: zk_L 200 s1 :: zk_Sh 6 :: zk_D 32 g2 :: zk_L 200 s2 :: zk_Log m pb :: zk_I 24 ids :: zk_I 24 bl :: zk_D 24 pl :: zk_Ch cn cw :: zk_I 4 fd :: zk_A 4 zk_ga :: zk_I 20 (fr 0) :: zk_I 20 (fr 1) :: zk_I 20 (fr 2) :: zk_I 20 (fr 3) :: zk_I 4 fe :: zk_P 21 :: zk_L 12 l1 :: zk_P 23 :: zk_L 12 l2 :: r)) := by
  show zw_Z G Y_WE_count _ _ _ 0 0 0 [some (.ref 1), some (.int c), some (.int k)] [] _
  refine zr_aload_n dWE_count_0 rfl rfl ?_
  refine zr_iload_n dWE_count_1 rfl ?_
  refine zr_invV (c_WE_isClass (i := 0) rfl) m_WE_isClass k_WE_81 v_WE_isClass rfl rfl dWE_count_2 rfl (Nat.le_of_ble_eq_true rfl) (by decide) (Nat.le_of_ble_eq_true rfl) rfl (fun v w2 hp => ?_)
  obtain ⟨rfl, rfl⟩ := hp
  refine ⟨rfl, ?_⟩
  refine zr_if_eqB (tgt := 19) dWE_count_5 (by decide) (fun h5 => ?_) (fun h5 => ?_)
  · refine zr_iconst (v := (-1)) dWE_count_19 (by decide) ?_
    exact zr_ireturn dWE_count_20 rfl rfl (⟨congrArg (fun x => some (Value.int x)) (by unfold zf_count; first | rw [if_neg (fun q => h5 q.1)] | rw [if_neg (fun q => h16 q.2)]), rfl⟩)
  · obtain ⟨j, hj, rfl⟩ := zf_rng (by omega) h5.1 h5.2
    refine zr_aload_n dWE_count_8 rfl rfl ?_
    refine zr_getf g_WE_10 dWE_count_9 rfl rfl ?_
    refine zr_iload_n dWE_count_12 rfl ?_
    refine zr_invV c_Text_hasWord m_Text_hasWord k_WE_64 v_Text_hasWord rfl rfl dWE_count_13 rfl (Nat.le_of_ble_eq_true rfl) (by decide) (Nat.le_of_ble_eq_true rfl) rfl (fun v w2 hp => ?_)
    obtain ⟨rfl, rfl⟩ := hp
    refine ⟨rfl, ?_⟩
    refine zr_if_neB (tgt := 21) dWE_count_16 (by decide) (fun h16 => ?_) (fun h16 => ?_)
    · obtain ⟨jk, hjk, rfl⟩ := zf_rng (by omega) h16.1 h16.2
      refine zr_aload_n dWE_count_21 rfl rfl ?_
      refine zr_getf g_WE_19 dWE_count_22 rfl rfl ?_
      refine zr_iload_n dWE_count_25 rfl ?_
      refine zr_aload_n dWE_count_26 rfl rfl ?_
      refine zr_getf g_WE_10 dWE_count_27 rfl rfl ?_
      refine zr_getf g_WE_68 dWE_count_30 rfl rfl ?_
      refine zr_iload_n dWE_count_33 rfl ?_
      refine zr_lald dWE_count_34 rfl (by omega) (by decide) ?_
      refine zr_invV (c_Shelf_timesOf (i := 3) rfl rfl (hok.ok (front := [_, _, _, _, _, _, _, _, _, _, _, _, _, _, _, _, _, _, _, _, _, _, _, _, _]) rfl) (by omega)) m_Shelf_timesOf k_WE_132 v_Shelf_timesOf rfl rfl dWE_count_35 rfl (Nat.le_of_ble_eq_true rfl) (by decide) (Nat.le_of_ble_eq_true rfl) rfl (fun v w2 hp => ?_)
      obtain ⟨rfl, rfl⟩ := hp
      refine ⟨rfl, ?_⟩
      exact zr_ireturn dWE_count_38 rfl rfl (⟨congrArg (fun x => some (Value.int x)) (by unfold zf_count; rw [if_pos ⟨h5, h16⟩, nI_clamp (by omega), nI_clamp (by omega)]; rfl), rfl⟩)
    · refine zr_iconst (v := (-1)) dWE_count_19 (by decide) ?_
      exact zr_ireturn dWE_count_20 rfl rfl (⟨congrArg (fun x => some (Value.int x)) (by unfold zf_count; first | rw [if_neg (fun q => h5 q.1)] | rw [if_neg (fun q => h16 q.2)]), rfl⟩)
set_option maxHeartbeats 4000000 in
set_option maxRecDepth 100000 in
theorem c_WE_vocabulary {G : zw_G} {n wc len run m pb cn cw : Nat} {tw s1 s2 l1 l2 : Nat → Int64} {g1 g2 pl : Nat → Option Nat} {ids bl fd fe : Nat → Int32} {fr : Nat → Nat → Int32} {r : zw_W} {dc dn : Nat → Nat} {df : Nat → Nat → Int64} (hok : zs_okR 14 r g1 dc dn df) (ht : zv_tot g1 dn 32 ≤ 200) : zw_Met G Y_WE_vocabulary 3 0 0 [.ref 1] (zk_WE n :: zk_Text wc len run :: zk_L 20 tw :: zk_Sh 3 :: zk_D 32 g1 :: zk_L 200 s1 :: zk_Sh 6 :: zk_D 32 g2 :: zk_L 200 s2 :: zk_Log m pb :: zk_I 24 ids :: zk_I 24 bl :: zk_D 24 pl :: zk_Ch cn cw :: zk_I 4 fd :: zk_A 4 zk_ga :: zk_I 20 (fr 0) :: zk_I 20 (fr 1) :: zk_I 20 (fr 2) :: zk_I 20 (fr 3) :: zk_I 4 fe :: zk_P 21 :: zk_L 12 l1 :: zk_P 23 :: zk_L 12 l2 :: r) (fun v w2 => v = some (.int (nI (zv_cnt (fun d => g1 d ≠ none) dn df 32 0))) ∧ ∃ s3, w2 = (zk_WE n :: zk_Text wc len run :: zk_L 20 tw :: zk_Sh 3 :: zk_D 32 g1 :: zk_L 200 s3 :: zk_Sh 6 :: zk_D 32 g2 :: zk_L 200 s2 :: zk_Log m pb :: zk_I 24 ids :: zk_I 24 bl :: zk_D 24 pl :: zk_Ch cn cw :: zk_I 4 fd :: zk_A 4 zk_ga :: zk_I 20 (fr 0) :: zk_I 20 (fr 1) :: zk_I 20 (fr 2) :: zk_I 20 (fr 3) :: zk_I 4 fe :: zk_P 21 :: zk_L 12 l1 :: zk_P 23 :: zk_L 12 l2 :: r)) := by
  show zw_Z G Y_WE_vocabulary _ _ _ 0 0 0 [some (.ref 1)] [] _
  refine zr_aload_n dWE_vocabulary_0 rfl rfl ?_
  refine zr_getf g_WE_19 dWE_vocabulary_1 rfl rfl ?_
  refine zr_invV (c_Shelf_differentWords (i := 3) (g := g1) rfl rfl rfl (hok.ok (front := [_, _, _, _, _, _, _, _, _, _, _, _, _, _, _, _, _, _, _, _, _, _, _, _, _]) rfl) (by decide) ht) m_Shelf_differentWords k_WE_136 v_Shelf_differentWords rfl rfl dWE_vocabulary_4 rfl (Nat.le_of_ble_eq_true rfl) (by decide) (Nat.le_of_ble_eq_true rfl) rfl (fun v w2 hp => ?_)
  obtain ⟨s3, rfl, rfl⟩ := hp
  refine ⟨by rfl, ?_⟩
  exact zr_ireturn dWE_vocabulary_7 rfl rfl (⟨rfl, s3, rfl⟩)
set_option maxHeartbeats 4000000 in
set_option maxRecDepth 100000 in
theorem c_WE_label {G : zw_G} {n wc len run m pb cn cw : Nat} {tw s1 s2 l1 l2 : Nat → Int64} {g1 g2 pl : Nat → Option Nat} {ids bl fd fe : Nat → Int32} {fr : Nat → Nat → Int32} {r : zw_W} {id : Int32} {dc dn : Nat → Nat} {df : Nat → Nat → Int64} (hok : zs_okR 14 r g1 dc dn df) : zw_Met G Y_WE_label 2 0 0 [.ref 1, .int id] ((zk_WE n :: zk_Text wc len run :: zk_L 20 tw :: zk_Sh 3 :: zk_D 32 g1 :: zk_L 200 s1 :: zk_Sh 6 :: zk_D 32 g2 :: zk_L 200 s2 :: zk_Log m pb :: zk_I 24 ids :: zk_I 24 bl :: zk_D 24 pl :: zk_Ch cn cw :: zk_I 4 fd :: zk_A 4 zk_ga :: zk_I 20 (fr 0) :: zk_I 20 (fr 1) :: zk_I 20 (fr 2) :: zk_I 20 (fr 3) :: zk_I 4 fe :: zk_P 21 :: zk_L 12 l1 :: zk_P 23 :: zk_L 12 l2 :: r)) (zw_is (some (.int (zf_label g1 dc id))) (zk_WE n :: zk_Text wc len run :: zk_L 20 tw :: zk_Sh 3 :: zk_D 32 g1 :: zk_L 200 s1 :: zk_Sh 6 :: zk_D 32 g2 :: zk_L 200 s2 :: zk_Log m pb :: zk_I 24 ids :: zk_I 24 bl :: zk_D 24 pl :: zk_Ch cn cw :: zk_I 4 fd :: zk_A 4 zk_ga :: zk_I 20 (fr 0) :: zk_I 20 (fr 1) :: zk_I 20 (fr 2) :: zk_I 20 (fr 3) :: zk_I 4 fe :: zk_P 21 :: zk_L 12 l1 :: zk_P 23 :: zk_L 12 l2 :: r)) := by
  show zw_Z G Y_WE_label _ _ _ 0 0 0 [some (.ref 1), some (.int id), none] [] _
  refine zr_aload_n dWE_label_0 rfl rfl ?_
  refine zr_getf g_WE_19 dWE_label_1 rfl rfl ?_
  refine zr_iload_n dWE_label_4 rfl ?_
  refine zr_invV (c_Shelf_find (i := 3) rfl rfl) m_Shelf_find k_WE_84 v_Shelf_find rfl rfl dWE_label_5 rfl (Nat.le_of_ble_eq_true rfl) (by decide) (Nat.le_of_ble_eq_true rfl) rfl (fun v w2 hp => ?_)
  obtain ⟨rfl, rfl⟩ := hp
  refine ⟨rfl, ?_⟩
  rcases ho5 : zf_find g1 id with _ | r5
  · refine zr_astore_n dWE_label_8 (by decide) rfl ?_
    refine zr_aload_n dWE_label_9 rfl rfl ?_
    refine zr_ifnonnullN dWE_label_10 ?_
    refine zr_iconst (v := (-1)) dWE_label_13 (by decide) ?_
    refine zr_goto (tgt := 21) dWE_label_14 (by decide) ?_
    exact zr_ireturn dWE_label_21 rfl rfl (⟨congrArg (fun x => some (Value.int x)) (by unfold zf_label; first | (rw [if_neg (fun q => by obtain ⟨q1, q2⟩ := q; obtain ⟨j, hj, rfl⟩ := zf_rng (by decide) q1.1 q1.2; rw [zf_find_in hj] at ho5; rw [nI_clamp (by omega)] at q2; exact q2 ho5)]; done) | (rw [if_pos ⟨hin, by rw [nI_clamp (by omega), ho5]; exact fun z => by cases z⟩, nI_clamp (by omega)]; done)), rfl⟩)
  · have hin : ¬ id < 0 ∧ id < nI 32 := by
      by_cases q : ¬ id < 0 ∧ id < nI 32
      · exact q
      · rw [zf_find_out q] at ho5; cases ho5
    obtain ⟨j, hj, rfl⟩ := zf_rng (by decide) hin.1 hin.2
    rw [zf_find_in hj] at ho5
    obtain ⟨⟨q, rfl, hq1, hq2⟩, hq3⟩ := hok j hj r5 ho5
    refine zr_astore_n dWE_label_8 (by decide) rfl ?_
    refine zr_aload_n dWE_label_9 rfl rfl ?_
    refine zr_ifnonnull (tgt := 17) dWE_label_10 (by decide) ?_
    refine zr_aload_n dWE_label_17 rfl rfl ?_
    refine zr_getf g_WE_111 dWE_label_18 hq1 rfl ?_
    exact zr_ireturn dWE_label_21 rfl rfl (⟨congrArg (fun x => some (Value.int x)) (by unfold zf_label; first | (rw [if_neg (fun q => by obtain ⟨q1, q2⟩ := q; obtain ⟨j, hj, rfl⟩ := zf_rng (by decide) q1.1 q1.2; rw [zf_find_in hj] at ho5; rw [nI_clamp (by omega)] at q2; exact q2 ho5)]; done) | (rw [if_pos ⟨hin, by rw [nI_clamp (by omega), ho5]; exact fun z => by cases z⟩, nI_clamp (by omega)]; done)), rfl⟩)
/-- the sign of class a against class b, over the documents in force and the words of the text -/
noncomputable def zf_sg (g : Nat → Option Nat) (dc dn : Nat → Nat) (df : Nat → Nat → Int64) (tw : Nat → Int64) (wc : Nat) : Nat → Nat → Int32 := zc_sgn (zc_D g dc) (zc_E g dc dn df) (fun c k => zc_T g dc dn df c (tw k) + 1) wc
theorem zs_sum_size {g : Nat → Option Nat} {dc v : Nat → Nat} {c b n : Nat} (h : ∀ i, i < n → g i ≠ none → v i ≤ b) : zs_sum g dc c v n ≤ b * zs_size g n := by
  induction n with
  | zero => exact Nat.zero_le _
  | succ n ih =>
    have h1 := ih (fun i hi => h i (by omega))
    cases hg : g n with
    | none => rw [zs_sum_n hg, zs_size_n hg]; exact h1
    | some x =>
      have h2 := h n (by omega) (by rw [hg]; exact fun z => by cases z)
      rw [zs_size_s hg, Nat.mul_succ]
      by_cases hc : dc n = c
      · rw [zs_sum_s hg hc]; omega
      · rw [zs_sum_o hg hc]; omega
theorem zv_tot_size {g : Nat → Option Nat} {dn : Nat → Nat} {n : Nat} (h : ∀ i, i < n → g i ≠ none → dn i ≤ 20) : zv_tot g dn n ≤ 20 * zs_size g n := by
  induction n with
  | zero => exact Nat.zero_le _
  | succ n ih =>
    have h1 := ih (fun i hi => h i (by omega))
    unfold zv_tot at h1 ⊢
    rw [wn_sum]
    cases hg : g n with
    | none => rw [zs_size_n hg]; simpa using h1
    | some x =>
      have h2 := h n (by omega) (by rw [hg]; exact fun z => by cases z)
      rw [zs_size_s hg, Nat.mul_succ]
      simp
      omega
theorem zf_bounds {g : Nat → Option Nat} {dc dn : Nat → Nat} {df : Nat → Nat → Int64} (hs : zs_size g 32 ≤ 10) (h : ∀ i, i < 32 → g i ≠ none → dn i ≤ 20) : zv_tot g dn 32 ≤ 200 ∧ ∀ c, zc_D g dc c ≤ 10 ∧ zc_E g dc dn df c ≤ 401 ∧ ∀ x, zc_T g dc dn df c x + 1 ≤ 201 := by
  have h0 := zv_tot_size h
  refine ⟨by omega, fun c => ⟨?_, ?_, fun x => ?_⟩⟩
  · have := zs_sum_size (g := g) (dc := dc) (v := fun _ => 1) (c := c) (b := 1) (n := 32) (fun _ _ _ => Nat.le_refl 1)
    unfold zc_D
    omega
  · have h1 := zs_sum_size (g := g) (dc := dc) (v := dn) (c := c) (b := 20) (n := 32) h
    have h2 := zv_cnt_le (g := g) (dn := dn) (df := df) (id := 32) (k := 0)
    unfold zc_E
    omega
  · have h1 := zs_sum_size (g := g) (dc := dc) (v := fun id => wn_sum (fun j => if df id j = x then 1 else 0) (dn id)) (c := c) (b := 20) (n := 32) (fun i hi hg => by
      have h3 := h i hi hg
      have h4 := wn_sum_le (h := fun j => if df i j = x then 1 else 0) (b := 1) (n := dn i) (fun j _ => by split <;> omega)
      omega)
    unfold zc_T
    omega
set_option maxHeartbeats 4000000 in
set_option maxRecDepth 100000 in
theorem c_WE_order {G : zw_G} {n wc len run m pb cn cw : Nat} {tw s1 s2 l1 l2 : Nat → Int64} {g1 g2 pl : Nat → Option Nat} {ids bl fd fe : Nat → Int32} {fr : Nat → Nat → Int32} {r : zw_W} (hn4 : n ≤ 4) (hwc : wc ≤ 20) {dc dn : Nat → Nat} {df : Nat → Nat → Int64} (hok : zs_okR 14 r g1 dc dn df) (hs10 : zs_size g1 32 ≤ 10) {x : Int32} : zw_Met G Y_WE_order 6 0 0 [.ref 1, .int x] (zk_WE n :: zk_Text wc len run :: zk_L 20 tw :: zk_Sh 3 :: zk_D 32 g1 :: zk_L 200 s1 :: zk_Sh 6 :: zk_D 32 g2 :: zk_L 200 s2 :: zk_Log m pb :: zk_I 24 ids :: zk_I 24 bl :: zk_D 24 pl :: zk_Ch cn cw :: zk_I 4 fd :: zk_A 4 zk_ga :: zk_I 20 (fr 0) :: zk_I 20 (fr 1) :: zk_I 20 (fr 2) :: zk_I 20 (fr 3) :: zk_I 4 fe :: zk_P 21 :: zk_L 12 l1 :: zk_P 23 :: zk_L 12 l2 :: r) (fun v w2 => (∃ y, v = some (.int y) ∧ ((¬ x < 0 ∧ x < nI n) → zc_at (zf_sg g1 dc dn df tw wc) n x y) ∧ (¬ (¬ x < 0 ∧ x < nI n) → y = -1)) ∧ ∃ (s3 : Nat → Int64) (cn3 cw3 : Nat) (fd3 fe3 : Nat → Int32) (fr3 : Nat → Nat → Int32) (m1 m2 : Nat → Int64), w2 = (zk_WE n :: zk_Text wc len run :: zk_L 20 tw :: zk_Sh 3 :: zk_D 32 g1 :: zk_L 200 s3 :: zk_Sh 6 :: zk_D 32 g2 :: zk_L 200 s2 :: zk_Log m pb :: zk_I 24 ids :: zk_I 24 bl :: zk_D 24 pl :: zk_Ch cn3 cw3 :: zk_I 4 fd3 :: zk_A 4 zk_ga :: zk_I 20 (fr3 0) :: zk_I 20 (fr3 1) :: zk_I 20 (fr3 2) :: zk_I 20 (fr3 3) :: zk_I 4 fe3 :: zk_P 21 :: zk_L 12 m1 :: zk_P 23 :: zk_L 12 m2 :: r)) := by
  have hdn : ∀ i, i < 32 → g1 i ≠ none → dn i ≤ 20 := fun i hi hg => by
    cases hx : g1 i with
    | none => exact absurd hx hg
    | some x => exact (hok i hi x hx).2.1
  obtain ⟨ht, hbd⟩ := zf_bounds (dc := dc) (df := df) hs10 hdn
  show zw_Z G Y_WE_order _ _ _ 0 0 0 [some (.ref 1), some (.int x)] [] _
  refine zr_aload_n dWE_order_0 rfl rfl ?_
  refine zr_iload_n dWE_order_1 rfl ?_
  refine zr_invV (c_WE_isClass (i := 0) rfl) m_WE_isClass k_WE_81 v_WE_isClass rfl rfl dWE_order_2 rfl (Nat.le_of_ble_eq_true rfl) (by decide) (Nat.le_of_ble_eq_true rfl) rfl (fun v w2 hp => ?_)
  obtain ⟨rfl, rfl⟩ := hp
  refine ⟨rfl, ?_⟩
  refine zr_if_neB (tgt := 10) dWE_order_5 (by decide) (fun h5 => ?_) (fun h5 => ?_)
  · refine zr_aload_n dWE_order_10 rfl rfl ?_
    refine zr_getf g_WE_36 dWE_order_11 rfl rfl ?_
    refine zr_aload_n dWE_order_14 rfl rfl ?_
    refine zr_getf g_WE_19 dWE_order_15 rfl rfl ?_
    refine zr_aload_n dWE_order_18 rfl rfl ?_
    refine zr_getf g_WE_10 dWE_order_19 rfl rfl ?_
    refine zr_aload_n dWE_order_22 rfl rfl ?_
    refine zr_getf g_WE_49 dWE_order_23 rfl rfl ?_
    refine zr_invV (c_Chances_weigh (n := n) hn4 hwc (zs_okR.cons (zs_okR.cons (zs_okR.cons (zs_okR.cons hok)))) ht) m_Chances_weigh k_WE_142 v_Chances_weigh rfl rfl dWE_order_26 rfl (Nat.le_of_ble_eq_true rfl) (by decide) (Nat.le_of_ble_eq_true rfl) rfl (fun v w2 hp => ?_)
    obtain ⟨rfl, s3, fd3, fr3, fe3, rfl, hp1, hp2, hp3⟩ := hp
    refine ⟨by rfl, ?_⟩
    refine zr_aload_n dWE_order_29 rfl rfl ?_
    refine zr_getf g_WE_36 dWE_order_30 rfl rfl ?_
    refine zr_iload_n dWE_order_33 rfl ?_
    refine zr_invV (c_Chances_classAt (dv := zc_D g1 dc) (de := zc_E g1 dc dn df) (nu := fun c k => zc_T g1 dc dn df c (tw k) + 1) hn4 hwc hp1 hp2 hp3 (fun c _ => (hbd c).1) (fun c _ => (hbd c).2.1) (fun c _ k _ => (hbd c).2.2 (tw k))) m_Chances_classAt k_WE_146 v_Chances_classAt rfl rfl dWE_order_34 rfl (Nat.le_of_ble_eq_true rfl) (by decide) (Nat.le_of_ble_eq_true rfl) rfl (fun v w2 hp => ?_)
    obtain ⟨⟨y, rfl, hy⟩, m1, m2, rfl⟩ := hp
    refine ⟨by rfl, ?_⟩
    exact zr_ireturn dWE_order_37 rfl rfl (⟨⟨y, rfl, fun _ => hy, fun q => absurd h5 q⟩, s3, n, wc, fd3, fe3, fr3, m1, m2, rfl⟩)
  · refine zr_iconst (v := (-1)) dWE_order_8 (by decide) ?_
    exact zr_ireturn dWE_order_9 rfl rfl (⟨⟨_, rfl, fun q => absurd q h5, fun _ => rfl⟩, ⟨s1, cn, cw, fd, fe, fr, l1, l2, rfl⟩⟩)
def zf_cmp (n : Nat) (sg : Nat → Nat → Int32) (a b : Int32) : Int32 := if (¬ a < 0 ∧ a < nI n) ∧ (¬ b < 0 ∧ b < nI n) then sg a.toNatClampNeg b.toNatClampNeg else -2
set_option maxHeartbeats 4000000 in
set_option maxRecDepth 100000 in
theorem c_WE_compare {G : zw_G} {n wc len run m pb cn cw : Nat} {tw s1 s2 l1 l2 : Nat → Int64} {g1 g2 pl : Nat → Option Nat} {ids bl fd fe : Nat → Int32} {fr : Nat → Nat → Int32} {r : zw_W} (hn4 : n ≤ 4) (hwc : wc ≤ 20) {dc dn : Nat → Nat} {df : Nat → Nat → Int64} (hok : zs_okR 14 r g1 dc dn df) (hs10 : zs_size g1 32 ≤ 10) {a b : Int32} : zw_Met G Y_WE_compare 4 0 0 [.ref 1, .int a, .int b] (zk_WE n :: zk_Text wc len run :: zk_L 20 tw :: zk_Sh 3 :: zk_D 32 g1 :: zk_L 200 s1 :: zk_Sh 6 :: zk_D 32 g2 :: zk_L 200 s2 :: zk_Log m pb :: zk_I 24 ids :: zk_I 24 bl :: zk_D 24 pl :: zk_Ch cn cw :: zk_I 4 fd :: zk_A 4 zk_ga :: zk_I 20 (fr 0) :: zk_I 20 (fr 1) :: zk_I 20 (fr 2) :: zk_I 20 (fr 3) :: zk_I 4 fe :: zk_P 21 :: zk_L 12 l1 :: zk_P 23 :: zk_L 12 l2 :: r) (fun v w2 => v = some (.int (zf_cmp n (zf_sg g1 dc dn df tw wc) a b)) ∧ ∃ (s3 : Nat → Int64) (cn3 cw3 : Nat) (fd3 fe3 : Nat → Int32) (fr3 : Nat → Nat → Int32) (m1 m2 : Nat → Int64), w2 = (zk_WE n :: zk_Text wc len run :: zk_L 20 tw :: zk_Sh 3 :: zk_D 32 g1 :: zk_L 200 s3 :: zk_Sh 6 :: zk_D 32 g2 :: zk_L 200 s2 :: zk_Log m pb :: zk_I 24 ids :: zk_I 24 bl :: zk_D 24 pl :: zk_Ch cn3 cw3 :: zk_I 4 fd3 :: zk_A 4 zk_ga :: zk_I 20 (fr3 0) :: zk_I 20 (fr3 1) :: zk_I 20 (fr3 2) :: zk_I 20 (fr3 3) :: zk_I 4 fe3 :: zk_P 21 :: zk_L 12 m1 :: zk_P 23 :: zk_L 12 m2 :: r)) := by
  have hdn : ∀ i, i < 32 → g1 i ≠ none → dn i ≤ 20 := fun i hi hg => by
    cases hx : g1 i with
    | none => exact absurd hx hg
    | some x => exact (hok i hi x hx).2.1
  obtain ⟨ht, hbd⟩ := zf_bounds (dc := dc) (df := df) hs10 hdn
  show zw_Z G Y_WE_compare _ _ _ 0 0 0 [some (.ref 1), some (.int a), some (.int b)] [] _
  refine zr_aload_n dWE_compare_0 rfl rfl ?_
  refine zr_iload_n dWE_compare_1 rfl ?_
  refine zr_invV (c_WE_isClass (i := 0) rfl) m_WE_isClass k_WE_81 v_WE_isClass rfl rfl dWE_compare_2 rfl (Nat.le_of_ble_eq_true rfl) (by decide) (Nat.le_of_ble_eq_true rfl) rfl (fun v w2 hp => ?_)
  obtain ⟨rfl, rfl⟩ := hp
  refine ⟨rfl, ?_⟩
  refine zr_if_eqB (tgt := 16) dWE_compare_5 (by decide) (fun h5 => ?_) (fun h5 => ?_)
  · refine zr_bipush (v := (-2)) dWE_compare_16 (by decide) ?_
    exact zr_ireturn dWE_compare_18 rfl rfl (⟨congrArg (fun x => some (Value.int x)) (by unfold zf_cmp; first | rw [if_neg (fun q => h5 q.1)] | rw [if_neg (fun q => h13 q.2)]), ⟨s1, cn, cw, fd, fe, fr, l1, l2, rfl⟩⟩)
  · obtain ⟨ja, hja, rfl⟩ := zf_rng (by omega) h5.1 h5.2
    refine zr_aload_n dWE_compare_8 rfl rfl ?_
    refine zr_iload_n dWE_compare_9 rfl ?_
    refine zr_invV (c_WE_isClass (i := 0) rfl) m_WE_isClass k_WE_81 v_WE_isClass rfl rfl dWE_compare_10 rfl (Nat.le_of_ble_eq_true rfl) (by decide) (Nat.le_of_ble_eq_true rfl) rfl (fun v w2 hp => ?_)
    obtain ⟨rfl, rfl⟩ := hp
    refine ⟨rfl, ?_⟩
    refine zr_if_neB (tgt := 19) dWE_compare_13 (by decide) (fun h13 => ?_) (fun h13 => ?_)
    · obtain ⟨jb, hjb, rfl⟩ := zf_rng (by omega) h13.1 h13.2
      refine zr_aload_n dWE_compare_19 rfl rfl ?_
      refine zr_getf g_WE_36 dWE_compare_20 rfl rfl ?_
      refine zr_aload_n dWE_compare_23 rfl rfl ?_
      refine zr_getf g_WE_19 dWE_compare_24 rfl rfl ?_
      refine zr_aload_n dWE_compare_27 rfl rfl ?_
      refine zr_getf g_WE_10 dWE_compare_28 rfl rfl ?_
      refine zr_aload_n dWE_compare_31 rfl rfl ?_
      refine zr_getf g_WE_49 dWE_compare_32 rfl rfl ?_
      refine zr_invV (c_Chances_weigh (n := n) hn4 hwc (zs_okR.cons (zs_okR.cons (zs_okR.cons (zs_okR.cons hok)))) ht) m_Chances_weigh k_WE_142 v_Chances_weigh rfl rfl dWE_compare_35 rfl (Nat.le_of_ble_eq_true rfl) (by decide) (Nat.le_of_ble_eq_true rfl) rfl (fun v w2 hp => ?_)
      obtain ⟨rfl, s3, fd3, fr3, fe3, rfl, hp1, hp2, hp3⟩ := hp
      refine ⟨by rfl, ?_⟩
      refine zr_aload_n dWE_compare_38 rfl rfl ?_
      refine zr_getf g_WE_36 dWE_compare_39 rfl rfl ?_
      refine zr_iload_n dWE_compare_42 rfl ?_
      refine zr_iload_n dWE_compare_43 rfl ?_
      refine zr_invV (c_Chances_signOf (dv := zc_D g1 dc) (de := zc_E g1 dc dn df) (nu := fun c k => zc_T g1 dc dn df c (tw k) + 1) hn4 hwc hp1 hp2 hp3 (fun c _ => (hbd c).1) (fun c _ => (hbd c).2.1) (fun c _ k _ => (hbd c).2.2 (tw k)) hja hjb) m_Chances_signOf k_WE_149 v_Chances_signOf rfl rfl dWE_compare_44 rfl (Nat.le_of_ble_eq_true rfl) (by decide) (Nat.le_of_ble_eq_true rfl) rfl (fun v w2 hp => ?_)
      obtain ⟨rfl, m1, m2, rfl⟩ := hp
      refine ⟨by rfl, ?_⟩
      exact zr_ireturn dWE_compare_47 rfl rfl (⟨congrArg (fun x => some (Value.int x)) (by unfold zf_cmp; rw [if_pos ⟨h5, h13⟩, nI_clamp (by omega), nI_clamp (by omega)]; rfl), s3, n, wc, fd3, fe3, fr3, m1, m2, rfl⟩)
    · refine zr_bipush (v := (-2)) dWE_compare_16 (by decide) ?_
      exact zr_ireturn dWE_compare_18 rfl rfl (⟨congrArg (fun x => some (Value.int x)) (by unfold zf_cmp; first | rw [if_neg (fun q => h5 q.1)] | rw [if_neg (fun q => h13 q.2)]), ⟨s1, cn, cw, fd, fe, fr, l1, l2, rfl⟩⟩)
set_option maxHeartbeats 4000000 in
set_option maxRecDepth 100000 in
theorem c_WE_classify {G : zw_G} {n wc len run m pb cn cw : Nat} {tw s1 s2 l1 l2 : Nat → Int64} {g1 g2 pl : Nat → Option Nat} {ids bl fd fe : Nat → Int32} {fr : Nat → Nat → Int32} {r : zw_W} (hn4 : n ≤ 4) (hwc : wc ≤ 20) {dc dn : Nat → Nat} {df : Nat → Nat → Int64} (hok : zs_okR 14 r g1 dc dn df) (hs10 : zs_size g1 32 ≤ 10) (hn2 : 2 ≤ n) : zw_Met G Y_WE_classify 7 0 0 [.ref 1] (zk_WE n :: zk_Text wc len run :: zk_L 20 tw :: zk_Sh 3 :: zk_D 32 g1 :: zk_L 200 s1 :: zk_Sh 6 :: zk_D 32 g2 :: zk_L 200 s2 :: zk_Log m pb :: zk_I 24 ids :: zk_I 24 bl :: zk_D 24 pl :: zk_Ch cn cw :: zk_I 4 fd :: zk_A 4 zk_ga :: zk_I 20 (fr 0) :: zk_I 20 (fr 1) :: zk_I 20 (fr 2) :: zk_I 20 (fr 3) :: zk_I 4 fe :: zk_P 21 :: zk_L 12 l1 :: zk_P 23 :: zk_L 12 l2 :: r) (fun v w2 => (∃ y, v = some (.int y) ∧ (zs_size g1 32 = 0 → y = -1) ∧ (zs_size g1 32 ≠ 0 → zc_at (zf_sg g1 dc dn df tw wc) n (nI 0) y)) ∧ ∃ (s3 : Nat → Int64) (cn3 cw3 : Nat) (fd3 fe3 : Nat → Int32) (fr3 : Nat → Nat → Int32) (m1 m2 : Nat → Int64), w2 = (zk_WE n :: zk_Text wc len run :: zk_L 20 tw :: zk_Sh 3 :: zk_D 32 g1 :: zk_L 200 s3 :: zk_Sh 6 :: zk_D 32 g2 :: zk_L 200 s2 :: zk_Log m pb :: zk_I 24 ids :: zk_I 24 bl :: zk_D 24 pl :: zk_Ch cn3 cw3 :: zk_I 4 fd3 :: zk_A 4 zk_ga :: zk_I 20 (fr3 0) :: zk_I 20 (fr3 1) :: zk_I 20 (fr3 2) :: zk_I 20 (fr3 3) :: zk_I 4 fe3 :: zk_P 21 :: zk_L 12 m1 :: zk_P 23 :: zk_L 12 m2 :: r)) := by
  show zw_Z G Y_WE_classify _ _ _ 0 0 0 [some (.ref 1)] [] _
  refine zr_aload_n dWE_classify_0 rfl rfl ?_
  refine zr_getf g_WE_19 dWE_classify_1 rfl rfl ?_
  refine zr_invV (c_Shelf_size (i := 3) rfl rfl) m_Shelf_size k_WE_88 v_Shelf_size rfl rfl dWE_classify_4 rfl (Nat.le_of_ble_eq_true rfl) (by decide) (Nat.le_of_ble_eq_true rfl) rfl (fun v w2 hp => ?_)
  obtain ⟨rfl, rfl⟩ := hp
  refine ⟨rfl, ?_⟩
  refine zr_if_neN (tgt := 14) (by omega) dWE_classify_7 (by decide) (fun h7 => ?_) (fun h7 => ?_)
  · refine zr_aload_n dWE_classify_14 rfl rfl ?_
    refine zr_iconst (v := nI 0) dWE_classify_15 (by decide) ?_
    refine zr_invV (c_WE_order hn4 hwc hok hs10) m_WE_order k_WE_139 v_WE_order rfl rfl dWE_classify_16 rfl (Nat.le_of_ble_eq_true rfl) (by decide) (Nat.le_of_ble_eq_true rfl) rfl (fun v w2 hp => ?_)
    obtain ⟨⟨y, rfl, hy1, hy2⟩, s3, cn3, cw3, fd3, fe3, fr3, m1, m2, rfl⟩ := hp
    have hy := hy1 ⟨by decide, nI_lt (by omega) (by omega)⟩
    refine ⟨by rfl, ?_⟩
    exact zr_ireturn dWE_classify_19 rfl rfl (by first | exact ⟨⟨_, rfl, fun _ => rfl, fun q => absurd h7 q⟩, ⟨s1, cn, cw, fd, fe, fr, l1, l2, rfl⟩⟩ | exact ⟨⟨y, rfl, fun q => absurd q h7, fun _ => hy⟩, s3, cn3, cw3, fd3, fe3, fr3, m1, m2, rfl⟩)
  · refine zr_iconst (v := (-1)) dWE_classify_10 (by decide) ?_
    refine zr_goto (tgt := 19) dWE_classify_11 (by decide) ?_
    exact zr_ireturn dWE_classify_19 rfl rfl (by first | exact ⟨⟨_, rfl, fun _ => rfl, fun q => absurd h7 q⟩, ⟨s1, cn, cw, fd, fe, fr, l1, l2, rfl⟩⟩ | exact ⟨⟨y, rfl, fun q => absurd q h7, fun _ => hy⟩, s3, cn3, cw3, fd3, fe3, fr3, m1, m2, rfl⟩)
