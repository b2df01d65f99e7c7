/-! Arrays.copyOf (a clone where the length stays), Text.copyOfWords -/
theorem zf_app_set {w : zw_W} {x y : zw_C} : (w ++ [x]).set w.length y = w ++ [y] := by
  rw [List.set_append_right _ _ (Nat.le_refl _), Nat.sub_self]
  rfl
theorem zf_app_at {w : zw_W} {x : zw_C} : (w ++ [x])[w.length]? = some x := by
  rw [List.getElem?_append_right (Nat.le_refl _), Nat.sub_self]
  rfl
theorem zf_app_lt {w v : zw_W} {i : Nat} {x : zw_C} (h : w[i]? = some x) : (w ++ v)[i]? = some x := by
  rw [List.getElem?_append_left (List.getElem?_eq_some_iff.mp h).1]
  exact h
set_option maxHeartbeats 4000000 in
set_option maxRecDepth 100000 in
theorem c_Arrays_copyOf {G : zw_G} {w : zw_W} {i n m : Nat} {f : Nat → Int64} (hn : n < 1000) (hm : m ≤ n) (hi : w[i]? = some (zk_L n f)) : zw_Met G Y_Arrays_copyOf 1 1 m [.ref (i + 1), .int (nI m)] w (fun v w2 => v = some (.ref (w.length + 1)) ∧ ∃ f2, w2 = w ++ [zk_L m f2] ∧ ∀ j, j < m → f2 j = f j) := by
  show zw_Z G Y_Arrays_copyOf _ _ _ 0 0 0 [some (.ref (i + 1)), some (.int (nI m)), none] [] _
  refine zr_iload_n dArrays_copyOf_0 rfl ?_
  refine zr_aload_n dArrays_copyOf_1 rfl rfl ?_
  refine zr_alen dArrays_copyOf_2 hi (by decide) rfl ?_
  refine zr_icmp_neN (tgt := 14) (by omega) (by omega) dArrays_copyOf_3 (by decide) (fun h3 => ?_) (fun h3 => ?_)
  · refine zr_iload_n dArrays_copyOf_14 rfl ?_
    refine zr_newL t_arrL dArrays_copyOf_15 (by omega) ⟨Nat.le_of_ble_eq_true rfl, by show 0 + m ≤ m; omega⟩ ?_
    refine zr_astore_n dArrays_copyOf_17 (by decide) rfl ?_
    refine zr_aload_n dArrays_copyOf_18 rfl rfl ?_
    refine zr_iconst (v := nI 0) dArrays_copyOf_19 (by decide) ?_
    refine zr_aload_n dArrays_copyOf_20 rfl rfl ?_
    refine zr_iconst (v := nI 0) dArrays_copyOf_21 (by decide) ?_
    refine zr_aload_n dArrays_copyOf_22 rfl rfl ?_
    refine zr_alen dArrays_copyOf_23 (zf_app_lt hi) (by decide) rfl ?_
    refine zr_iload_n dArrays_copyOf_24 rfl ?_
    refine zr_mmin l_Arrays_304 t_mmin_s t_mI t_mmin_c dArrays_copyOf_25 ⟨Nat.le_of_ble_eq_true rfl, Nat.le_of_ble_eq_true rfl, by show 0 + 1 ≤ 1; omega, by show 0 + m ≤ m; omega⟩ ?_
    refine zr_topI (y := nI m) (if_pos (nI_lt (by omega) (by omega))) ?_
    refine zr_copyl l_Arrays_150 t_ac_n t_ac_s t_sI dArrays_copyOf_28 (zf_app_lt hi) zf_app_at (by omega) (by omega) ⟨by omega, by omega⟩ ⟨Nat.le_of_ble_eq_true rfl, Nat.le_of_ble_eq_true rfl⟩ ?_
    rw [zf_app_set, Nat.zero_add, Nat.zero_add]
    refine zr_aload_n dArrays_copyOf_31 rfl rfl ?_
    exact zr_areturn dArrays_copyOf_32 rfl (Or.inr ⟨_, rfl⟩) rfl (⟨rfl, _, rfl, fun j hj => by rw [pk_cpy_in (Nat.zero_le j) (by omega)]; congr 1; omega⟩)
  · subst h3
    refine zr_aload_n dArrays_copyOf_6 rfl rfl ?_
    refine zr_clone t_cl1 t_cl2 t_cl3 t_cl4 t_cl5 t_cl6 dArrays_copyOf_7 hi ⟨Nat.le_of_ble_eq_true rfl, Nat.le_of_ble_eq_true rfl, Nat.le_of_ble_eq_true rfl, by show 0 + m ≤ m; omega⟩ ?_
    refine zr_castJ c_Arrays_320 dArrays_copyOf_10 zf_app_at ?_
    rw [Nat.zero_add, Nat.zero_add]
    exact zr_areturn dArrays_copyOf_13 rfl (Or.inr ⟨_, rfl⟩) rfl ⟨rfl, f, rfl, fun j hj => rfl⟩
set_option maxHeartbeats 4000000 in
set_option maxRecDepth 100000 in
theorem c_Text_copyOfWords {G : zw_G} {c0 : zw_C} {r : zw_W} {wc len run : Nat} {tw : Nat → Int64} (hw : wc ≤ 20) : zw_Met G Y_Text_copyOfWords 2 1 wc [.ref 2] (c0 :: zk_Text wc len run :: zk_L 20 tw :: r) (fun v w2 => v = some (.ref (r.length + 4)) ∧ ∃ f2, w2 = c0 :: zk_Text wc len run :: zk_L 20 tw :: (r ++ [zk_L wc f2]) ∧ ∀ j, j < wc → f2 j = tw j) := by
  show zw_Z G Y_Text_copyOfWords _ _ _ 0 0 0 [some (.ref 2)] [] _
  refine zr_aload_n dText_copyOfWords_0 rfl rfl ?_
  refine zr_getf g_Text_9 dText_copyOfWords_1 rfl rfl ?_
  refine zr_aload_n dText_copyOfWords_4 rfl rfl ?_
  refine zr_getf g_Text_15 dText_copyOfWords_5 rfl rfl ?_
  refine zr_invS (c_Arrays_copyOf (i := 2) (by decide) hw rfl) m_Arrays_copyOf k_Text_39 (s_Arrays_copyOf) dText_copyOfWords_8 rfl (Nat.le_of_ble_eq_true rfl) ⟨Nat.le_of_ble_eq_true rfl, Nat.le_of_ble_eq_true rfl, Nat.le_of_ble_eq_true rfl, by show 0 + wc ≤ wc; omega⟩ (Nat.le_of_ble_eq_true rfl) rfl (fun v w2 hp => ?_)
  obtain ⟨rfl, f2, rfl, hf2⟩ := hp
  refine ⟨by simp, ?_⟩
  rw [Nat.zero_add, Nat.zero_add]
  exact zr_areturn dText_copyOfWords_11 rfl (Or.inr ⟨_, rfl⟩) rfl (⟨rfl, f2, rfl, hf2⟩)
