/-! Log: cells 9 to 12 -/
abbrev zk_Log (m pb : Nat) : zw_C := .inr (3, [.ref 11, .ref 12, .ref 13, .int (nI m), .int (nI pb)])
/-- the changes 0 .. k - 1, done to a shelf -/
def zl_app {α : Type} (li : Nat → Nat) (pl : Nat → α) (g : Nat → α) : Nat → Nat → α
  | 0 => g
  | k + 1 => va_up (zl_app li pl g k) (li k) (pl k)
theorem zl_sub0 (x : Int32) : x - nI 0 = x := by
  rw [nI_0]
  exact Int32.sub_zero x
theorem zl_sub (x : Int32) (a b : Nat) : x - nI a - nI b = x - nI (a + b) := by
  rw [← nI_add, Int32.sub_sub]
theorem zl_toInt {x : Int32} {a : Nat} (ha : a < 1000) (h : a = 0 ∨ (a : Int) ≤ x.toInt) : (x - nI a).toInt = x.toInt - a := by
  rcases h with h | h
  · subst h
    rw [zl_sub0]
    simp
  · have h1 : (nI a).toInt = a := nI_toInt (by omega)
    have h2 := x.toInt_lt
    have h3 := x.le_toInt
    rw [Int32.toInt_sub, h1]
    apply Int.bmod_eq_of_le
    · simp at *; omega
    · simp at *; omega
/-- how many changes have reached the disk -/
def zl_done (m : Nat) (lb : Nat → Nat) (x : Int32) (k : Nat) : Prop := k ≤ m ∧ (∀ j, j < k → (wn_sum lb (j + 1) : Int) ≤ x.toInt) ∧ (k = m ∨ x.toInt < wn_sum lb (k + 1))
theorem zl_done_one {m : Nat} {lb : Nat → Nat} {x : Int32} {k k2 : Nat} (h : zl_done m lb x k) (h2 : zl_done m lb x k2) : k = k2 := by
  obtain ⟨a1, a2, a3⟩ := h
  obtain ⟨b1, b2, b3⟩ := h2
  rcases Nat.lt_trichotomy k k2 with q | q | q
  · have := b2 k q
    rcases a3 with a3 | a3 <;> omega
  · exact q
  · have := a2 k2 q
    rcases b3 with b3 | b3 <;> omega
set_option maxHeartbeats 4000000 in
set_option maxRecDepth 100000 in
theorem c_Log_init {G : zw_G} {c0 c1 c2 c3 c4 c5 c6 c7 c8 : zw_C} : zw_Met G Y_Log_init 1 3 72 [.ref 10] ([c0, c1, c2, c3, c4, c5, c6, c7, c8, .inr (3, [.null, .null, .null, .int 0, .int 0])]) (zw_is none [c0, c1, c2, c3, c4, c5, c6, c7, c8, zk_Log 0 0, zk_I 24 (fun _ => 0), zk_I 24 (fun _ => 0), zk_D 24 (fun _ => none)]) := by
  show zw_Z G Y_Log_init _ _ _ 0 0 0 [some (.ref 10)] [] _
  refine zr_aload_n dLog_init_0 rfl rfl ?_
  refine zr_objInit o_Log_3 t_oi t_oc dLog_init_1 (by decide) ?_
  refine zr_aload_n dLog_init_4 rfl rfl ?_
  refine zr_bipush (v := nI 24) dLog_init_5 (by decide) ?_
  refine zr_newI t_arrI dLog_init_7 (by decide) (by decide) ?_
  refine zr_putF f_Log_9 rfl dLog_init_9 rfl (Nat.le_of_ble_eq_true rfl) (fun _ => rfl) (fun _ => rfl) ?_
  refine zr_aload_n dLog_init_12 rfl rfl ?_
  refine zr_bipush (v := nI 24) dLog_init_13 (by decide) ?_
  refine zr_newI t_arrI dLog_init_15 (by decide) (by decide) ?_
  refine zr_putF f_Log_15 rfl dLog_init_17 rfl (Nat.le_of_ble_eq_true rfl) (fun _ => rfl) (fun _ => rfl) ?_
  refine zr_aload_n dLog_init_20 rfl rfl ?_
  refine zr_bipush (v := nI 24) dLog_init_21 (by decide) ?_
  refine zr_newD c_Log_18 t_aoD dLog_init_23 (by decide) (by decide) ?_
  refine zr_putF f_Log_20 rfl dLog_init_26 rfl (Nat.le_of_ble_eq_true rfl) (fun _ => rfl) (fun _ => rfl) ?_
  refine zr_aload_n dLog_init_29 rfl rfl ?_
  refine zr_iconst (v := nI 0) dLog_init_30 (by decide) ?_
  refine zr_putf f_Log_24 dLog_init_31 rfl (Nat.le_of_ble_eq_true rfl) (fun _ => rfl) (fun _ => rfl) ?_
  refine zr_aload_n dLog_init_34 rfl rfl ?_
  refine zr_iconst (v := nI 0) dLog_init_35 (by decide) ?_
  refine zr_putf f_Log_28 dLog_init_36 rfl (Nat.le_of_ble_eq_true rfl) (fun _ => rfl) (fun _ => rfl) ?_
  exact zr_return dLog_init_39 rfl (⟨rfl, rfl⟩)
set_option maxHeartbeats 4000000 in
set_option maxRecDepth 100000 in
theorem c_Shelf_init1 {G : zw_G} {c0 c1 c2 : zw_C} : zw_Met G Y_Shelf_init 1 2 232 [.ref 4] ([c0, c1, c2, .inr (2, [.null, .null])]) (zw_is none [c0, c1, c2, zk_Sh 3, zk_D 32 (fun _ => none), zk_L 200 (fun _ => 0)]) := by
  show zw_Z G Y_Shelf_init _ _ _ 0 0 0 [some (.ref 4)] [] _
  refine zr_aload_n dShelf_init_0 rfl rfl ?_
  refine zr_objInit o_Shelf_3 t_oi t_oc dShelf_init_1 (by decide) ?_
  refine zr_aload_n dShelf_init_4 rfl rfl ?_
  refine zr_bipush (v := nI 32) dShelf_init_5 (by decide) ?_
  refine zr_newD c_Shelf_9 t_aoD dShelf_init_7 (by decide) (by decide) ?_
  refine zr_putF f_Shelf_11 rfl dShelf_init_10 rfl (Nat.le_of_ble_eq_true rfl) (fun _ => rfl) (fun _ => rfl) ?_
  refine zr_aload_n dShelf_init_13 rfl rfl ?_
  refine zr_sipush (v := nI 200) dShelf_init_14 (by decide) ?_
  refine zr_newL t_arrL dShelf_init_17 (by decide) (by decide) ?_
  refine zr_putF f_Shelf_17 rfl dShelf_init_19 rfl (Nat.le_of_ble_eq_true rfl) (fun _ => rfl) (fun _ => rfl) ?_
  exact zr_return dShelf_init_22 rfl (⟨rfl, rfl⟩)
set_option maxHeartbeats 4000000 in
set_option maxRecDepth 100000 in
theorem c_Shelf_init2 {G : zw_G} {c0 c1 c2 c3 c4 c5 : zw_C} : zw_Met G Y_Shelf_init 1 2 232 [.ref 7] ([c0, c1, c2, c3, c4, c5, .inr (2, [.null, .null])]) (zw_is none [c0, c1, c2, c3, c4, c5, zk_Sh 6, zk_D 32 (fun _ => none), zk_L 200 (fun _ => 0)]) := by
  show zw_Z G Y_Shelf_init _ _ _ 0 0 0 [some (.ref 7)] [] _
  refine zr_aload_n dShelf_init_0 rfl rfl ?_
  refine zr_objInit o_Shelf_3 t_oi t_oc dShelf_init_1 (by decide) ?_
  refine zr_aload_n dShelf_init_4 rfl rfl ?_
  refine zr_bipush (v := nI 32) dShelf_init_5 (by decide) ?_
  refine zr_newD c_Shelf_9 t_aoD dShelf_init_7 (by decide) (by decide) ?_
  refine zr_putF f_Shelf_11 rfl dShelf_init_10 rfl (Nat.le_of_ble_eq_true rfl) (fun _ => rfl) (fun _ => rfl) ?_
  refine zr_aload_n dShelf_init_13 rfl rfl ?_
  refine zr_sipush (v := nI 200) dShelf_init_14 (by decide) ?_
  refine zr_newL t_arrL dShelf_init_17 (by decide) (by decide) ?_
  refine zr_putF f_Shelf_17 rfl dShelf_init_19 rfl (Nat.le_of_ble_eq_true rfl) (fun _ => rfl) (fun _ => rfl) ?_
  exact zr_return dShelf_init_22 rfl (⟨rfl, rfl⟩)
set_option maxHeartbeats 4000000 in
set_option maxRecDepth 100000 in
theorem c_Log_hasRoomFor {G : zw_G} {c0 c1 c2 c3 c4 c5 c6 c7 c8 : zw_C} {r : zw_W} {m pb : Nat} {ids bl : Nat → Int32} {pl : Nat → Option Nat} {a : Nat} (hp : pb < 1000) (ha : a < 1000) : zw_Met G Y_Log_hasRoomFor 0 0 0 [.ref 10, .int (nI a)] ((c0 :: c1 :: c2 :: c3 :: c4 :: c5 :: c6 :: c7 :: c8 :: zk_Log m pb :: zk_I 24 ids :: zk_I 24 bl :: zk_D 24 pl :: r)) (zw_is (some (.int (zw_b (pb + a ≤ 24)))) (c0 :: c1 :: c2 :: c3 :: c4 :: c5 :: c6 :: c7 :: c8 :: zk_Log m pb :: zk_I 24 ids :: zk_I 24 bl :: zk_D 24 pl :: r)) := by
  show zw_Z G Y_Log_hasRoomFor _ _ _ 0 0 0 [some (.ref 10), some (.int (nI a))] [] _
  refine zr_aload_n dLog_hasRoomFor_0 rfl rfl ?_
  refine zr_getf g_Log_28 dLog_hasRoomFor_1 rfl rfl ?_
  refine zr_iload_n dLog_hasRoomFor_4 rfl ?_
  refine zr_iaddN dLog_hasRoomFor_5 ?_
  refine zr_bipush (v := nI 24) dLog_hasRoomFor_6 (by decide) ?_
  refine zr_icmp_gtN (tgt := 15) (by omega) (by omega) dLog_hasRoomFor_8 (by decide) (fun h8 => ?_) (fun h8 => ?_)
  · have hb : zw_b (pb + a ≤ 24) = 0 := zw_b0 (by omega)
    refine zr_iconst (v := nI 0) dLog_hasRoomFor_15 (by decide) ?_
    exact zr_ireturn dLog_hasRoomFor_16 rfl rfl (⟨congrArg (fun x => some (Value.int x)) hb.symm, rfl⟩)
  · have hb : zw_b (pb + a ≤ 24) = 1 := zw_b1 (by omega)
    refine zr_iconst (v := nI 1) dLog_hasRoomFor_11 (by decide) ?_
    refine zr_goto (tgt := 16) dLog_hasRoomFor_12 (by decide) ?_
    exact zr_ireturn dLog_hasRoomFor_16 rfl rfl (⟨congrArg (fun x => some (Value.int x)) hb.symm, rfl⟩)
set_option maxHeartbeats 4000000 in
set_option maxRecDepth 100000 in
theorem c_Log_empty {G : zw_G} {c0 c1 c2 c3 c4 c5 c6 c7 c8 : zw_C} {r : zw_W} {m pb : Nat} {ids bl : Nat → Int32} {pl : Nat → Option Nat} : zw_Met G Y_Log_empty 0 0 0 [.ref 10] ((c0 :: c1 :: c2 :: c3 :: c4 :: c5 :: c6 :: c7 :: c8 :: zk_Log m pb :: zk_I 24 ids :: zk_I 24 bl :: zk_D 24 pl :: r)) (zw_is (some (.int (nI pb))) (c0 :: c1 :: c2 :: c3 :: c4 :: c5 :: c6 :: c7 :: c8 :: zk_Log 0 0 :: zk_I 24 ids :: zk_I 24 bl :: zk_D 24 pl :: r)) := by
  show zw_Z G Y_Log_empty _ _ _ 0 0 0 [some (.ref 10), none] [] _
  refine zr_aload_n dLog_empty_0 rfl rfl ?_
  refine zr_getf g_Log_28 dLog_empty_1 rfl rfl ?_
  refine zr_istore_n dLog_empty_4 (by decide) ?_
  refine zr_aload_n dLog_empty_5 rfl rfl ?_
  refine zr_iconst (v := nI 0) dLog_empty_6 (by decide) ?_
  refine zr_putf f_Log_24 dLog_empty_7 rfl (Nat.le_of_ble_eq_true rfl) (fun _ => rfl) (fun _ => rfl) ?_
  refine zr_aload_n dLog_empty_10 rfl rfl ?_
  refine zr_iconst (v := nI 0) dLog_empty_11 (by decide) ?_
  refine zr_putf f_Log_28 dLog_empty_12 rfl (Nat.le_of_ble_eq_true rfl) (fun _ => rfl) (fun _ => rfl) ?_
  refine zr_iload_n dLog_empty_15 rfl ?_
  exact zr_ireturn dLog_empty_16 rfl rfl (⟨rfl, rfl⟩)
set_option maxHeartbeats 4000000 in
set_option maxRecDepth 100000 in
theorem c_Log_write_some {G : zw_G} {c0 c1 c2 c3 c4 c5 c6 c7 c8 : zw_C} {r : zw_W} {m pb : Nat} {ids bl : Nat → Int32} {pl : Nat → Option Nat} {id a : Nat} (hm : m < 24) {k : Nat} {vs : List Value} (hq : r[k + 26]? = some (.inr (6, vs))) : zw_Met G Y_Log_write 0 0 0 [.ref 10, .int (nI id), .ref (k + 40), .int (nI a)] ((c0 :: c1 :: c2 :: c3 :: c4 :: c5 :: c6 :: c7 :: c8 :: zk_Log m pb :: zk_I 24 ids :: zk_I 24 bl :: zk_D 24 pl :: r)) (zw_is none (c0 :: c1 :: c2 :: c3 :: c4 :: c5 :: c6 :: c7 :: c8 :: zk_Log (m + 1) (pb + a) :: zk_I 24 (upd ids m (nI id)) :: zk_I 24 (upd bl m (nI a)) :: zk_D 24 (va_up pl m (some (k + 40))) :: r)) := by
  show zw_Z G Y_Log_write _ _ _ 0 0 0 [some (.ref 10), some (.int (nI id)), some (.ref (k + 40)), some (.int (nI a))] [] _
  refine zr_aload_n dLog_write_0 rfl rfl ?_
  refine zr_getf g_Log_24 dLog_write_1 rfl rfl ?_
  refine zr_bipush (v := nI 24) dLog_write_4 (by decide) ?_
  refine zr_icmp_geN (tgt := 59) (by omega) (by omega) dLog_write_6 (by decide) (fun h6 => ?_) (fun h6 => ?_)
  · exfalso; omega
  · refine zr_aload_n dLog_write_9 rfl rfl ?_
    refine zr_getf g_Log_9 dLog_write_10 rfl rfl ?_
    refine zr_aload_n dLog_write_13 rfl rfl ?_
    refine zr_getf g_Log_24 dLog_write_14 rfl rfl ?_
    refine zr_iload_n dLog_write_17 rfl ?_
    refine zr_iast dLog_write_18 rfl (hm) (by decide) ?_
    refine zr_aload_n dLog_write_19 rfl rfl ?_
    refine zr_getf g_Log_20 dLog_write_20 rfl rfl ?_
    refine zr_aload_n dLog_write_23 rfl rfl ?_
    refine zr_getf g_Log_24 dLog_write_24 rfl rfl ?_
    refine zr_aload_n dLog_write_27 rfl rfl ?_
    refine zr_aast dLog_write_28 rfl (hm) (by decide) hq rfl ?_
    refine zr_aload_n dLog_write_29 rfl rfl ?_
    refine zr_getf g_Log_15 dLog_write_30 rfl rfl ?_
    refine zr_aload_n dLog_write_33 rfl rfl ?_
    refine zr_getf g_Log_24 dLog_write_34 rfl rfl ?_
    refine zr_iload_n dLog_write_37 rfl ?_
    refine zr_iast dLog_write_38 rfl (hm) (by decide) ?_
    refine zr_aload_n dLog_write_39 rfl rfl ?_
    refine zr_dup dLog_write_40 rfl ?_
    refine zr_getf g_Log_24 dLog_write_41 rfl rfl ?_
    refine zr_iconst (v := nI 1) dLog_write_44 (by decide) ?_
    refine zr_iaddN dLog_write_45 ?_
    refine zr_putf f_Log_24 dLog_write_46 rfl (Nat.le_of_ble_eq_true rfl) (fun _ => rfl) (fun _ => rfl) ?_
    refine zr_aload_n dLog_write_49 rfl rfl ?_
    refine zr_dup dLog_write_50 rfl ?_
    refine zr_getf g_Log_28 dLog_write_51 rfl rfl ?_
    refine zr_iload_n dLog_write_54 rfl ?_
    refine zr_iaddN dLog_write_55 ?_
    refine zr_putf f_Log_28 dLog_write_56 rfl (Nat.le_of_ble_eq_true rfl) (fun _ => rfl) (fun _ => rfl) ?_
    exact zr_return dLog_write_59 rfl (⟨rfl, rfl⟩)
set_option maxHeartbeats 4000000 in
set_option maxRecDepth 100000 in
theorem c_Log_write_none {G : zw_G} {c0 c1 c2 c3 c4 c5 c6 c7 c8 : zw_C} {r : zw_W} {m pb : Nat} {ids bl : Nat → Int32} {pl : Nat → Option Nat} {id a : Nat} (hm : m < 24) : zw_Met G Y_Log_write 0 0 0 [.ref 10, .int (nI id), .null, .int (nI a)] ((c0 :: c1 :: c2 :: c3 :: c4 :: c5 :: c6 :: c7 :: c8 :: zk_Log m pb :: zk_I 24 ids :: zk_I 24 bl :: zk_D 24 pl :: r)) (zw_is none (c0 :: c1 :: c2 :: c3 :: c4 :: c5 :: c6 :: c7 :: c8 :: zk_Log (m + 1) (pb + a) :: zk_I 24 (upd ids m (nI id)) :: zk_I 24 (upd bl m (nI a)) :: zk_D 24 (va_up pl m none) :: r)) := by
  show zw_Z G Y_Log_write _ _ _ 0 0 0 [some (.ref 10), some (.int (nI id)), some (.null), some (.int (nI a))] [] _
  refine zr_aload_n dLog_write_0 rfl rfl ?_
  refine zr_getf g_Log_24 dLog_write_1 rfl rfl ?_
  refine zr_bipush (v := nI 24) dLog_write_4 (by decide) ?_
  refine zr_icmp_geN (tgt := 59) (by omega) (by omega) dLog_write_6 (by decide) (fun h6 => ?_) (fun h6 => ?_)
  · exfalso; omega
  · refine zr_aload_n dLog_write_9 rfl rfl ?_
    refine zr_getf g_Log_9 dLog_write_10 rfl rfl ?_
    refine zr_aload_n dLog_write_13 rfl rfl ?_
    refine zr_getf g_Log_24 dLog_write_14 rfl rfl ?_
    refine zr_iload_n dLog_write_17 rfl ?_
    refine zr_iast dLog_write_18 rfl (hm) (by decide) ?_
    refine zr_aload_n dLog_write_19 rfl rfl ?_
    refine zr_getf g_Log_20 dLog_write_20 rfl rfl ?_
    refine zr_aload_n dLog_write_23 rfl rfl ?_
    refine zr_getf g_Log_24 dLog_write_24 rfl rfl ?_
    refine zr_aload_n dLog_write_27 rfl rfl ?_
    refine zr_aastN dLog_write_28 rfl (hm) (by decide) ?_
    refine zr_aload_n dLog_write_29 rfl rfl ?_
    refine zr_getf g_Log_15 dLog_write_30 rfl rfl ?_
    refine zr_aload_n dLog_write_33 rfl rfl ?_
    refine zr_getf g_Log_24 dLog_write_34 rfl rfl ?_
    refine zr_iload_n dLog_write_37 rfl ?_
    refine zr_iast dLog_write_38 rfl (hm) (by decide) ?_
    refine zr_aload_n dLog_write_39 rfl rfl ?_
    refine zr_dup dLog_write_40 rfl ?_
    refine zr_getf g_Log_24 dLog_write_41 rfl rfl ?_
    refine zr_iconst (v := nI 1) dLog_write_44 (by decide) ?_
    refine zr_iaddN dLog_write_45 ?_
    refine zr_putf f_Log_24 dLog_write_46 rfl (Nat.le_of_ble_eq_true rfl) (fun _ => rfl) (fun _ => rfl) ?_
    refine zr_aload_n dLog_write_49 rfl rfl ?_
    refine zr_dup dLog_write_50 rfl ?_
    refine zr_getf g_Log_28 dLog_write_51 rfl rfl ?_
    refine zr_iload_n dLog_write_54 rfl ?_
    refine zr_iaddN dLog_write_55 ?_
    refine zr_putf f_Log_28 dLog_write_56 rfl (Nat.le_of_ble_eq_true rfl) (fun _ => rfl) (fun _ => rfl) ?_
    exact zr_return dLog_write_59 rfl (⟨rfl, rfl⟩)
theorem zl_exit {lb : Nat → Nat} {x : Int32} {k : Nat} (hs : wn_sum lb (k + 1) ≤ 24) (hall : ∀ j, j < k → (wn_sum lb (j + 1) : Int) ≤ x.toInt) (hS : wn_sum lb k = 0 ∨ (wn_sum lb k : Int) ≤ x.toInt) (h : x - nI (wn_sum lb k) < nI (lb k)) : x.toInt < wn_sum lb (k + 1) := by
  have e : wn_sum lb (k + 1) = wn_sum lb k + lb k := rfl
  have h1 := Int32.lt_iff_toInt_lt.mp h
  rw [zl_toInt (by omega) hS, nI_toInt (by omega)] at h1
  omega
theorem zl_goes {lb : Nat → Nat} {x : Int32} {k : Nat} (hs : wn_sum lb (k + 1) ≤ 24) (hS : wn_sum lb k = 0 ∨ (wn_sum lb k : Int) ≤ x.toInt) (h : ¬ x - nI (wn_sum lb k) < nI (lb k)) : (wn_sum lb (k + 1) : Int) ≤ x.toInt := by
  have e : wn_sum lb (k + 1) = wn_sum lb k + lb k := rfl
  have h1 := Int32.le_iff_toInt_le.mp (Int32.not_lt.mp h)
  rw [zl_toInt (by omega) hS, nI_toInt (by omega)] at h1
  omega
set_option maxHeartbeats 4000000 in
set_option maxRecDepth 100000 in
theorem c_Log_replayOn {G : zw_G} {c0 c1 c2 c3 c4 c5 c8 : zw_C} {r : zw_W} {m pb : Nat} {ids bl : Nat → Int32} {pl : Nat → Option Nat} {g : Nat → Option Nat} {li lb : Nat → Nat} {x : Int32} (hm : m ≤ 24) (hids : ∀ j, j < m → ids j = nI (li j)) (hbl : ∀ j, j < m → bl j = nI (lb j)) (h32 : ∀ j, j < m → li j < 32) (hsum : wn_sum lb m ≤ 24) (hd : ∀ j, j < m → ∀ q, pl j = some q → ∃ k vs, q = k + 40 ∧ r[k + 26]? = some (.inr (6, vs))) : zw_Met G Y_Log_replayOn 2 0 0 [.ref 10, .ref 7, .int x] (c0 :: c1 :: c2 :: c3 :: c4 :: c5 :: zk_Sh 6 :: zk_D 32 g :: c8 :: zk_Log m pb :: zk_I 24 ids :: zk_I 24 bl :: zk_D 24 pl :: r) (fun v w2 => ∃ k, zl_done m lb x k ∧ v = some (.int (nI (m - k))) ∧ w2 = (c0 :: c1 :: c2 :: c3 :: c4 :: c5 :: zk_Sh 6 :: zk_D 32 (zl_app li pl g k) :: c8 :: zk_Log m pb :: zk_I 24 ids :: zk_I 24 bl :: zk_D 24 pl :: r)) := by
  have key : ∀ k, k ≤ m → k ≤ m → (∀ j, j < k → (wn_sum lb (j + 1) : Int) ≤ x.toInt) → zw_Z G Y_Log_replayOn (zw_R 2 0 0) (fun _ => True) (zw_Q G 0 0 (fun v w2 => ∃ k, zl_done m lb x k ∧ v = some (.int (nI (m - k))) ∧ w2 = (c0 :: c1 :: c2 :: c3 :: c4 :: c5 :: zk_Sh 6 :: zk_D 32 (zl_app li pl g k) :: c8 :: zk_Log m pb :: zk_I 24 ids :: zk_I 24 bl :: zk_D 24 pl :: r))) 0 0 5 [some (.ref 10), some (.ref 7), some (.int x), some (.int (x - nI (wn_sum lb k))), some (.int (nI k))] [] (c0 :: c1 :: c2 :: c3 :: c4 :: c5 :: zk_Sh 6 :: zk_D 32 (zl_app li pl g k) :: c8 :: zk_Log m pb :: zk_I 24 ids :: zk_I 24 bl :: zk_D 24 pl :: r) := by
    refine wz_up m (fun k hk ih => ?_) ?_
    · intro hk2 hall
      have hsk : wn_sum lb (k + 1) ≤ 24 := Nat.le_trans (wn_sum_mono hk) hsum
      have hS : wn_sum lb k = 0 ∨ (wn_sum lb k : Int) ≤ x.toInt := by
        cases k with
        | zero => exact Or.inl rfl
        | succ k => exact Or.inr (hall k (by omega))
      refine zr_iload dLog_replayOn_5 rfl ?_
      refine zr_aload_n dLog_replayOn_7 rfl rfl ?_
      refine zr_getf g_Log_24 dLog_replayOn_8 rfl rfl ?_
      refine zr_icmp_geN (tgt := 59) (by omega) (by omega) dLog_replayOn_11 (by decide) (fun h11 => ?_) (fun h11 => ?_)
      · exfalso; omega
      · refine zr_aload_n dLog_replayOn_14 rfl rfl ?_
        refine zr_getf g_Log_15 dLog_replayOn_15 rfl rfl ?_
        refine zr_iload dLog_replayOn_18 rfl ?_
        refine zr_iald dLog_replayOn_20 rfl (by omega) (by decide) ?_
        refine zr_topI (hbl k hk) ?_
        refine zr_iload_n dLog_replayOn_21 rfl ?_
        refine zr_icmp_gt (tgt := 59) dLog_replayOn_22 (by decide) (fun h22 => ?_) (fun h22 => ?_)
        · refine zr_aload_n dLog_replayOn_59 rfl rfl ?_
          refine zr_getf g_Log_24 dLog_replayOn_60 rfl rfl ?_
          refine zr_iload dLog_replayOn_63 rfl ?_
          refine zr_isubN (by omega) dLog_replayOn_65 ?_
          exact zr_ireturn dLog_replayOn_66 rfl rfl (⟨k, ⟨by omega, hall, Or.inr (zl_exit hsk hall hS h22)⟩, rfl, rfl⟩)
        · have hgo := zl_goes hsk hS h22
          have hall2 : ∀ j, j < k + 1 → (wn_sum lb (j + 1) : Int) ≤ x.toInt := fun j hj => by
            by_cases e : j = k
            · rw [e]; exact hgo
            · exact hall j (by omega)
          refine zr_aload_n dLog_replayOn_25 rfl rfl ?_
          refine zr_aload_n dLog_replayOn_26 rfl rfl ?_
          refine zr_getf g_Log_9 dLog_replayOn_27 rfl rfl ?_
          refine zr_iload dLog_replayOn_30 rfl ?_
          refine zr_iald dLog_replayOn_32 rfl (by omega) (by decide) ?_
          refine zr_topI (hids k hk) ?_
          refine zr_aload_n dLog_replayOn_33 rfl rfl ?_
          refine zr_getf g_Log_20 dLog_replayOn_34 rfl rfl ?_
          refine zr_iload dLog_replayOn_37 rfl ?_
          refine zr_aald dLog_replayOn_39 rfl (by omega) (by decide) ?_
          rcases ho39 : pl k with _ | r39
          · refine zr_invV (c_Shelf_put_none (i := 6) rfl rfl (h32 k hk)) m_Shelf_put k_Log_31 v_Shelf_put rfl rfl dLog_replayOn_40 rfl (Nat.le_of_ble_eq_true rfl) (by decide) (Nat.le_of_ble_eq_true rfl) rfl (fun v w2 hp => ?_)
            obtain ⟨rfl, rfl⟩ := hp
            refine ⟨rfl, ?_⟩
            refine zr_wld (w2 := (c0 :: c1 :: c2 :: c3 :: c4 :: c5 :: zk_Sh 6 :: zk_D 32 (zl_app li pl g (k + 1)) :: c8 :: zk_Log m pb :: zk_I 24 ids :: zk_I 24 bl :: zk_D 24 pl :: r)) (by rw [show zl_app li pl g (k + 1) = va_up (zl_app li pl g k) (li k) none from by rw [zl_app, ho39]]; rfl) ?_
            refine zr_iload_n dLog_replayOn_43 rfl ?_
            refine zr_aload_n dLog_replayOn_44 rfl rfl ?_
            refine zr_getf g_Log_15 dLog_replayOn_45 rfl rfl ?_
            refine zr_iload dLog_replayOn_48 rfl ?_
            refine zr_iald dLog_replayOn_50 rfl (by omega) (by decide) ?_
            refine zr_topI (hbl k hk) ?_
            refine zr_isub dLog_replayOn_51 ?_
            refine zr_topI (zl_sub x _ _) ?_
            refine zr_istore_n dLog_replayOn_52 (by decide) ?_
            refine zr_iinc (v := nI (k + 1)) dLog_replayOn_53 rfl (nI_1 _) (by decide) ?_
            refine zr_goto (tgt := 5) dLog_replayOn_56 (by decide) ?_
            exact ih (by omega) hall2
          · obtain ⟨q, vs, rfl, hq⟩ := hd k hk r39 ho39
            refine zr_invV (c_Shelf_put_some (i := 6) rfl rfl (h32 k hk) (q := q + 39) hq) m_Shelf_put k_Log_31 v_Shelf_put rfl rfl dLog_replayOn_40 rfl (Nat.le_of_ble_eq_true rfl) (by decide) (Nat.le_of_ble_eq_true rfl) rfl (fun v w2 hp => ?_)
            obtain ⟨rfl, rfl⟩ := hp
            refine ⟨rfl, ?_⟩
            refine zr_wld (w2 := (c0 :: c1 :: c2 :: c3 :: c4 :: c5 :: zk_Sh 6 :: zk_D 32 (zl_app li pl g (k + 1)) :: c8 :: zk_Log m pb :: zk_I 24 ids :: zk_I 24 bl :: zk_D 24 pl :: r)) (by rw [show zl_app li pl g (k + 1) = va_up (zl_app li pl g k) (li k) (some (q + 40)) from by rw [zl_app, ho39]]; rfl) ?_
            refine zr_iload_n dLog_replayOn_43 rfl ?_
            refine zr_aload_n dLog_replayOn_44 rfl rfl ?_
            refine zr_getf g_Log_15 dLog_replayOn_45 rfl rfl ?_
            refine zr_iload dLog_replayOn_48 rfl ?_
            refine zr_iald dLog_replayOn_50 rfl (by omega) (by decide) ?_
            refine zr_topI (hbl k hk) ?_
            refine zr_isub dLog_replayOn_51 ?_
            refine zr_topI (zl_sub x _ _) ?_
            refine zr_istore_n dLog_replayOn_52 (by decide) ?_
            refine zr_iinc (v := nI (k + 1)) dLog_replayOn_53 rfl (nI_1 _) (by decide) ?_
            refine zr_goto (tgt := 5) dLog_replayOn_56 (by decide) ?_
            exact ih (by omega) hall2
    · intro _ hall
      refine zr_iload dLog_replayOn_5 rfl ?_
      refine zr_aload_n dLog_replayOn_7 rfl rfl ?_
      refine zr_getf g_Log_24 dLog_replayOn_8 rfl rfl ?_
      refine zr_icmp_geN (tgt := 59) (by omega) (by omega) dLog_replayOn_11 (by decide) (fun h11 => ?_) (fun h11 => ?_)
      · refine zr_aload_n dLog_replayOn_59 rfl rfl ?_
        refine zr_getf g_Log_24 dLog_replayOn_60 rfl rfl ?_
        refine zr_iload dLog_replayOn_63 rfl ?_
        refine zr_isubN (by omega) dLog_replayOn_65 ?_
        exact zr_ireturn dLog_replayOn_66 rfl rfl (⟨m, ⟨Nat.le_refl m, hall, Or.inl rfl⟩, rfl, rfl⟩)
      · exfalso; omega
  show zw_Z G Y_Log_replayOn _ _ _ 0 0 0 [some (.ref 10), some (.ref 7), some (.int x), none, none] [] _
  refine zr_iload_n dLog_replayOn_0 rfl ?_
  refine zr_topI (zl_sub0 x).symm ?_
  refine zr_istore_n dLog_replayOn_1 (by decide) ?_
  refine zr_iconst (v := nI 0) dLog_replayOn_2 (by decide) ?_
  refine zr_istore dLog_replayOn_3 (by decide) ?_
  exact key 0 (Nat.zero_le m) (Nat.zero_le m) (fun j hj => absurd hj (Nat.not_lt_zero j))
