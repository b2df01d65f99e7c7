/-- what refuses train: -1 the id or the class, -2 a document there, -4 ten documents, -5 no room; 0 nothing -/
def zf_train (n : Nat) (g : Nat → Option Nat) (pb wc : Nat) (id c : Int32) : Int32 :=
  if ¬ ((¬ id < 0 ∧ id < nI 32) ∧ (¬ c < 0 ∧ c < nI n)) then -1
  else if g id.toNatClampNeg ≠ none then -2
  else if 10 ≤ zs_size g 32 then -4
  else if 24 < pb + (1 + (wc + 4 - 1) / 4) then -5 else 0
theorem zf_find_none {g : Nat → Option Nat} {j : Nat} (h : j < 32) (hz : zf_find g (nI j) = none) : g j = none := by rw [zf_find_in h] at hz; exact hz
theorem zf_find_some {g : Nat → Option Nat} {j x : Nat} (h : j < 32) (hz : zf_find g (nI j) = some x) : g j = some x := by rw [zf_find_in h] at hz; exact hz
theorem zf_tr1 {n : Nat} {g : Nat → Option Nat} {pb wc : Nat} {id c : Int32} (h : ¬ ((¬ id < 0 ∧ id < nI 32) ∧ (¬ c < 0 ∧ c < nI n))) : zf_train n g pb wc id c = -1 := if_pos h
theorem zf_tr2 {n : Nat} {g : Nat → Option Nat} {pb wc j : Nat} {c : Int32} (hj : j < 32) (h : (¬ nI j < 0 ∧ nI j < nI 32) ∧ (¬ c < 0 ∧ c < nI n)) : zf_train n g pb wc (nI j) c = if g j ≠ none then -2 else if 10 ≤ zs_size g 32 then -4 else if 24 < pb + (1 + (wc + 4 - 1) / 4) then -5 else 0 := by
  unfold zf_train
  rw [if_neg (fun q => q h), nI_clamp (by omega)]
set_option maxHeartbeats 4000000 in
set_option maxRecDepth 100000 in
theorem c_WE_train_no {G : zw_G} {n wc len run m pb cn cw : Nat} {tw s1 s2 l1 l2 : Nat → Int64} {g1 g2 pl : Nat → Option Nat} {ids bl fd fe : Nat → Int32} {fr : Nat → Nat → Int32} {r : zw_W} {id c : Int32} (hwc : wc ≤ 20) (hpb : pb ≤ 24) (hno : zf_train n g1 pb wc id c ≠ 0) : zw_Met G Y_WE_train 3 0 0 [.ref 1, .int id, .int c] ((zk_WE n :: zk_Text wc len run :: zk_L 20 tw :: zk_Sh 3 :: zk_D 32 g1 :: zk_L 200 s1 :: zk_Sh 6 :: zk_D 32 g2 :: zk_L 200 s2 :: zk_Log m pb :: zk_I 24 ids :: zk_I 24 bl :: zk_D 24 pl :: zk_Ch cn cw :: zk_I 4 fd :: zk_A 4 zk_ga :: zk_I 20 (fr 0) :: zk_I 20 (fr 1) :: zk_I 20 (fr 2) :: zk_I 20 (fr 3) :: zk_I 4 fe :: zk_P 21 :: zk_L 12 l1 :: zk_P 23 :: zk_L 12 l2 :: r)) (zw_is (some (.int (zf_train n g1 pb wc id c))) (zk_WE n :: zk_Text wc len run :: zk_L 20 tw :: zk_Sh 3 :: zk_D 32 g1 :: zk_L 200 s1 :: zk_Sh 6 :: zk_D 32 g2 :: zk_L 200 s2 :: zk_Log m pb :: zk_I 24 ids :: zk_I 24 bl :: zk_D 24 pl :: zk_Ch cn cw :: zk_I 4 fd :: zk_A 4 zk_ga :: zk_I 20 (fr 0) :: zk_I 20 (fr 1) :: zk_I 20 (fr 2) :: zk_I 20 (fr 3) :: zk_I 4 fe :: zk_P 21 :: zk_L 12 l1 :: zk_P 23 :: zk_L 12 l2 :: r)) := by
  show zw_Z G Y_WE_train _ _ _ 0 0 0 [some (.ref 1), some (.int id), some (.int c), none] [] _
  refine zr_iload_n dWE_train_0 rfl ?_
  refine zr_invS c_WE_isId m_WE_isId k_WE_78 (s_WE_isId) dWE_train_1 rfl (Nat.le_of_ble_eq_true rfl) (by decide) (Nat.le_of_ble_eq_true rfl) rfl (fun v w2 hp => ?_)
  obtain ⟨rfl, rfl⟩ := hp
  refine ⟨rfl, ?_⟩
  refine zr_if_eqB (tgt := 15) dWE_train_4 (by decide) (fun h4 => ?_) (fun h4 => ?_)
  · refine zr_iconst (v := (-1)) dWE_train_15 (by decide) ?_
    exact zr_ireturn dWE_train_16 rfl rfl (⟨congrArg (fun x => some (Value.int x)) (by first | exact (zf_tr1 (fun q => h4 q.1)).symm | exact (zf_tr1 (fun q => h12 q.2)).symm), rfl⟩)
  · refine zr_aload_n dWE_train_7 rfl rfl ?_
    refine zr_iload_n dWE_train_8 rfl ?_
    refine zr_invV (c_WE_isClass (i := 0) rfl) m_WE_isClass k_WE_81 v_WE_isClass rfl rfl dWE_train_9 rfl (Nat.le_of_ble_eq_true rfl) (by decide) (Nat.le_of_ble_eq_true rfl) rfl (fun v w2 hp => ?_)
    obtain ⟨rfl, rfl⟩ := hp
    refine ⟨rfl, ?_⟩
    refine zr_if_neB (tgt := 17) dWE_train_12 (by decide) (fun h12 => ?_) (fun h12 => ?_)
    · obtain ⟨j, hj, rfl⟩ := zf_rng (by decide) h4.1 h4.2
      refine zr_aload_n dWE_train_17 rfl rfl ?_
      refine zr_getf g_WE_19 dWE_train_18 rfl rfl ?_
      refine zr_iload_n dWE_train_21 rfl ?_
      refine zr_invV (c_Shelf_find (i := 3) rfl rfl) m_Shelf_find k_WE_84 v_Shelf_find rfl rfl dWE_train_22 rfl (Nat.le_of_ble_eq_true rfl) (by decide) (Nat.le_of_ble_eq_true rfl) rfl (fun v w2 hp => ?_)
      obtain ⟨rfl, rfl⟩ := hp
      refine ⟨rfl, ?_⟩
      rcases ho22 : zf_find g1 (nI j) with _ | r22
      · refine zr_ifnullN (tgt := 31) dWE_train_25 (by decide) ?_
        refine zr_aload_n dWE_train_31 rfl rfl ?_
        refine zr_getf g_WE_19 dWE_train_32 rfl rfl ?_
        refine zr_invV (c_Shelf_size (i := 3) rfl rfl) m_Shelf_size k_WE_88 v_Shelf_size rfl rfl dWE_train_35 rfl (Nat.le_of_ble_eq_true rfl) (by decide) (Nat.le_of_ble_eq_true rfl) rfl (fun v w2 hp => ?_)
        obtain ⟨rfl, rfl⟩ := hp
        refine ⟨rfl, ?_⟩
        refine zr_bipush (v := nI 10) dWE_train_38 (by decide) ?_
        refine zr_icmp_ltN (tgt := 46) (by have := @zs_size_le g1 32; omega) (by omega) dWE_train_40 (by decide) (fun h40 => ?_) (fun h40 => ?_)
        · refine zr_aload_n dWE_train_46 rfl rfl ?_
          refine zr_getf g_WE_10 dWE_train_47 rfl rfl ?_
          refine zr_getf g_WE_61 dWE_train_50 rfl rfl ?_
          refine zr_invS (c_WE_blocks (by omega)) m_WE_blocksToTrain k_WE_91 (s_WE_blocksToTrain) dWE_train_53 rfl (Nat.le_of_ble_eq_true rfl) (by decide) (Nat.le_of_ble_eq_true rfl) rfl (fun v w2 hp => ?_)
          obtain ⟨rfl, rfl⟩ := hp
          refine ⟨rfl, ?_⟩
          refine zr_istore_n dWE_train_56 (by decide) ?_
          refine zr_aload_n dWE_train_57 rfl rfl ?_
          refine zr_getf g_WE_29 dWE_train_58 rfl rfl ?_
          refine zr_iload_n dWE_train_61 rfl ?_
          refine zr_invV (c_Log_hasRoomFor (by omega) (by omega)) m_Log_hasRoomFor k_WE_95 v_Log_hasRoomFor rfl rfl dWE_train_62 rfl (Nat.le_of_ble_eq_true rfl) (by decide) (Nat.le_of_ble_eq_true rfl) rfl (fun v w2 hp => ?_)
          obtain ⟨rfl, rfl⟩ := hp
          refine ⟨rfl, ?_⟩
          refine zr_if_neB (tgt := 71) dWE_train_65 (by decide) (fun h65 => ?_) (fun h65 => ?_)
          · exact absurd (by rw [zf_tr2 hj ⟨h4, h12⟩, if_neg (by rw [zf_find_none hj ho22]; exact fun q => q rfl), if_neg (by omega), if_neg (by omega)]) hno
          · refine zr_bipush (v := (-5)) dWE_train_68 (by decide) ?_
            exact zr_ireturn dWE_train_70 rfl rfl (⟨congrArg (fun x => some (Value.int x)) (by rw [zf_tr2 hj ⟨h4, h12⟩, if_neg (by rw [zf_find_none hj ho22]; exact fun q => q rfl), if_neg (by omega), if_pos (by omega)]), rfl⟩)
        · refine zr_bipush (v := (-4)) dWE_train_43 (by decide) ?_
          exact zr_ireturn dWE_train_45 rfl rfl (⟨congrArg (fun x => some (Value.int x)) (by rw [zf_tr2 hj ⟨h4, h12⟩, if_neg (by rw [zf_find_none hj ho22]; exact fun q => q rfl), if_pos (by omega)]), rfl⟩)
      · refine zr_ifnull dWE_train_25 ?_
        refine zr_bipush (v := (-2)) dWE_train_28 (by decide) ?_
        exact zr_ireturn dWE_train_30 rfl rfl (⟨congrArg (fun x => some (Value.int x)) (by rw [zf_tr2 hj ⟨h4, h12⟩, if_pos (by rw [zf_find_some hj ho22]; exact fun q => by cases q)]), rfl⟩)
    · refine zr_iconst (v := (-1)) dWE_train_15 (by decide) ?_
      exact zr_ireturn dWE_train_16 rfl rfl (⟨congrArg (fun x => some (Value.int x)) (by first | exact (zf_tr1 (fun q => h4 q.1)).symm | exact (zf_tr1 (fun q => h12 q.2)).symm), rfl⟩)
theorem zf_ap1 {r : zw_W} {a b : zw_C} {n : Nat} (h : r.length = n) : ((r ++ [a]) ++ [b])[n]? = some a := by
  subst h
  exact zf_app_lt zf_app_at
theorem zf_ap2 {r : zw_W} {a b x : zw_C} {n : Nat} (h : r.length = n) : ((r ++ [a]) ++ [b]).set n x = (r ++ [x]) ++ [b] := by
  subst h
  rw [List.set_append_left _ _ (by simp), zf_app_set]
set_option maxHeartbeats 4000000 in
set_option maxRecDepth 100000 in
theorem c_WE_train_ok {G : zw_G} {n wc len run m pb cn cw : Nat} {tw s1 s2 l1 l2 : Nat → Int64} {g1 g2 pl : Nat → Option Nat} {ids bl fd fe : Nat → Int32} {fr : Nat → Nat → Int32} {r : zw_W} {j c k : Nat} (hwc : wc ≤ 20) (hpb : pb ≤ 24) (hj : j < 32) (hc : c < n) (hn4 : n ≤ 4) (hg : g1 j = none) (hs : zs_size g1 32 < 10) (hfit : pb + (1 + (wc + 4 - 1) / 4) ≤ 24) (hm : m < 24) (hr : r.length = k + 14) : zw_Met G Y_WE_train 3 2 (2 + wc) [.ref 1, .int (nI j), .int (nI c)] (zk_WE n :: zk_Text wc len run :: zk_L 20 tw :: zk_Sh 3 :: zk_D 32 g1 :: zk_L 200 s1 :: zk_Sh 6 :: zk_D 32 g2 :: zk_L 200 s2 :: zk_Log m pb :: zk_I 24 ids :: zk_I 24 bl :: zk_D 24 pl :: zk_Ch cn cw :: zk_I 4 fd :: zk_A 4 zk_ga :: zk_I 20 (fr 0) :: zk_I 20 (fr 1) :: zk_I 20 (fr 2) :: zk_I 20 (fr 3) :: zk_I 4 fe :: zk_P 21 :: zk_L 12 l1 :: zk_P 23 :: zk_L 12 l2 :: r) (fun v w2 => v = some (.int (nI (1 + (wc + 4 - 1) / 4))) ∧ ∃ f2, w2 = (zk_WE n :: zk_Text wc len run :: zk_L 20 tw :: zk_Sh 3 :: zk_D 32 (va_up g1 j (some (k + 40))) :: zk_L 200 s1 :: zk_Sh 6 :: zk_D 32 g2 :: zk_L 200 s2 :: zk_Log (m + 1) (pb + (1 + (wc + 4 - 1) / 4)) :: zk_I 24 (upd ids m (nI j)) :: zk_I 24 (upd bl m (nI (1 + (wc + 4 - 1) / 4))) :: zk_D 24 (va_up pl m (some (k + 40))) :: zk_Ch cn cw :: zk_I 4 fd :: zk_A 4 zk_ga :: zk_I 20 (fr 0) :: zk_I 20 (fr 1) :: zk_I 20 (fr 2) :: zk_I 20 (fr 3) :: zk_I 4 fe :: zk_P 21 :: zk_L 12 l1 :: zk_P 23 :: zk_L 12 l2 :: ((r ++ [.inr (6, [.int (nI c), .ref (k + 41)])]) ++ [zk_L wc f2])) ∧ ∀ i, i < wc → f2 i = tw i) := by
  show zw_Z G Y_WE_train _ _ _ 0 0 0 [some (.ref 1), some (.int (nI j)), some (.int (nI c)), none] [] _
  refine zr_iload_n dWE_train_0 rfl ?_
  refine zr_invS c_WE_isId m_WE_isId k_WE_78 (s_WE_isId) dWE_train_1 rfl (Nat.le_of_ble_eq_true rfl) ⟨Nat.le_of_ble_eq_true rfl, Nat.le_of_ble_eq_true rfl, Nat.le_of_ble_eq_true rfl, by show 0 + 0 ≤ 2 + wc; omega⟩ (Nat.le_of_ble_eq_true rfl) rfl (fun v w2 hp => ?_)
  obtain ⟨rfl, rfl⟩ := hp
  refine ⟨rfl, ?_⟩
  refine zr_if_eqB (tgt := 15) dWE_train_4 (by decide) (fun h4 => ?_) (fun h4 => ?_)
  · exact absurd ⟨nI_pos (by omega), nI_lt hj (by decide)⟩ h4
  · refine zr_aload_n dWE_train_7 rfl rfl ?_
    refine zr_iload_n dWE_train_8 rfl ?_
    refine zr_invV (c_WE_isClass (i := 0) rfl) m_WE_isClass k_WE_81 v_WE_isClass rfl rfl dWE_train_9 rfl (Nat.le_of_ble_eq_true rfl) ⟨Nat.le_of_ble_eq_true rfl, Nat.le_of_ble_eq_true rfl, Nat.le_of_ble_eq_true rfl, by show 0 + 0 ≤ 2 + wc; omega⟩ (Nat.le_of_ble_eq_true rfl) rfl (fun v w2 hp => ?_)
    obtain ⟨rfl, rfl⟩ := hp
    refine ⟨rfl, ?_⟩
    refine zr_if_neB (tgt := 17) dWE_train_12 (by decide) (fun h12 => ?_) (fun h12 => ?_)
    · refine zr_aload_n dWE_train_17 rfl rfl ?_
      refine zr_getf g_WE_19 dWE_train_18 rfl rfl ?_
      refine zr_iload_n dWE_train_21 rfl ?_
      refine zr_invV (c_Shelf_find (i := 3) rfl rfl) m_Shelf_find k_WE_84 v_Shelf_find rfl rfl dWE_train_22 rfl (Nat.le_of_ble_eq_true rfl) (⟨Nat.le_of_ble_eq_true rfl, Nat.le_of_ble_eq_true rfl, Nat.le_of_ble_eq_true rfl, by show 0 + 0 ≤ 2 + wc; omega⟩) (Nat.le_of_ble_eq_true rfl) rfl (fun v w2 hp => ?_)
      obtain ⟨rfl, rfl⟩ := hp
      refine ⟨rfl, ?_⟩
      rw [zf_find_in hj, hg]
      refine zr_ifnullN (tgt := 31) dWE_train_25 (by decide) ?_
      refine zr_aload_n dWE_train_31 rfl rfl ?_
      refine zr_getf g_WE_19 dWE_train_32 rfl rfl ?_
      refine zr_invV (c_Shelf_size (i := 3) rfl rfl) m_Shelf_size k_WE_88 v_Shelf_size rfl rfl dWE_train_35 rfl (Nat.le_of_ble_eq_true rfl) ⟨Nat.le_of_ble_eq_true rfl, Nat.le_of_ble_eq_true rfl, Nat.le_of_ble_eq_true rfl, by show 0 + 0 ≤ 2 + wc; omega⟩ (Nat.le_of_ble_eq_true rfl) rfl (fun v w2 hp => ?_)
      obtain ⟨rfl, rfl⟩ := hp
      refine ⟨rfl, ?_⟩
      refine zr_bipush (v := nI 10) dWE_train_38 (by decide) ?_
      refine zr_icmp_ltN (tgt := 46) (by omega) (by omega) dWE_train_40 (by decide) (fun h40 => ?_) (fun h40 => ?_)
      · refine zr_aload_n dWE_train_46 rfl rfl ?_
        refine zr_getf g_WE_10 dWE_train_47 rfl rfl ?_
        refine zr_getf g_WE_61 dWE_train_50 rfl rfl ?_
        refine zr_invS (c_WE_blocks (by omega)) m_WE_blocksToTrain k_WE_91 (s_WE_blocksToTrain) dWE_train_53 rfl (Nat.le_of_ble_eq_true rfl) ⟨Nat.le_of_ble_eq_true rfl, Nat.le_of_ble_eq_true rfl, Nat.le_of_ble_eq_true rfl, by show 0 + 0 ≤ 2 + wc; omega⟩ (Nat.le_of_ble_eq_true rfl) rfl (fun v w2 hp => ?_)
        obtain ⟨rfl, rfl⟩ := hp
        refine ⟨rfl, ?_⟩
        refine zr_istore_n dWE_train_56 (by decide) ?_
        refine zr_aload_n dWE_train_57 rfl rfl ?_
        refine zr_getf g_WE_29 dWE_train_58 rfl rfl ?_
        refine zr_iload_n dWE_train_61 rfl ?_
        refine zr_invV (c_Log_hasRoomFor (by omega) (by omega)) m_Log_hasRoomFor k_WE_95 v_Log_hasRoomFor rfl rfl dWE_train_62 rfl (Nat.le_of_ble_eq_true rfl) ⟨Nat.le_of_ble_eq_true rfl, Nat.le_of_ble_eq_true rfl, Nat.le_of_ble_eq_true rfl, by show 0 + 0 ≤ 2 + wc; omega⟩ (Nat.le_of_ble_eq_true rfl) rfl (fun v w2 hp => ?_)
        obtain ⟨rfl, rfl⟩ := hp
        refine ⟨rfl, ?_⟩
        refine zr_if_neB (tgt := 71) dWE_train_65 (by decide) (fun h65 => ?_) (fun h65 => ?_)
        · refine zr_aload_n dWE_train_71 rfl rfl ?_
          refine zr_iload_n dWE_train_72 rfl ?_
          refine zr_new nw_WE_98 dWE_train_73 ⟨Nat.le_of_ble_eq_true rfl, by show 0 + 2 ≤ 2 + wc; omega⟩ ?_
          refine zr_top (v2 := .ref (k + 40)) (by rw [show List.length (zk_WE n :: zk_Text wc len run :: zk_L 20 tw :: zk_Sh 3 :: zk_D 32 g1 :: zk_L 200 s1 :: zk_Sh 6 :: zk_D 32 g2 :: zk_L 200 s2 :: zk_Log m pb :: zk_I 24 ids :: zk_I 24 bl :: zk_D 24 pl :: zk_Ch cn cw :: zk_I 4 fd :: zk_A 4 zk_ga :: zk_I 20 (fr 0) :: zk_I 20 (fr 1) :: zk_I 20 (fr 2) :: zk_I 20 (fr 3) :: zk_I 4 fe :: zk_P 21 :: zk_L 12 l1 :: zk_P 23 :: zk_L 12 l2 :: r) = k + 39 from by simp only [List.length_cons]; omega]) ?_
          refine zr_wld (w2 := (zk_WE n :: zk_Text wc len run :: zk_L 20 tw :: zk_Sh 3 :: zk_D 32 g1 :: zk_L 200 s1 :: zk_Sh 6 :: zk_D 32 g2 :: zk_L 200 s2 :: zk_Log m pb :: zk_I 24 ids :: zk_I 24 bl :: zk_D 24 pl :: zk_Ch cn cw :: zk_I 4 fd :: zk_A 4 zk_ga :: zk_I 20 (fr 0) :: zk_I 20 (fr 1) :: zk_I 20 (fr 2) :: zk_I 20 (fr 3) :: zk_I 4 fe :: zk_P 21 :: zk_L 12 l1 :: zk_P 23 :: zk_L 12 l2 :: (r ++ [.inr (6, [.int 0, .null])]))) rfl ?_
          refine zr_dup dWE_train_76 rfl ?_
          refine zr_iload_n dWE_train_77 rfl ?_
          refine zr_aload_n dWE_train_78 rfl rfl ?_
          refine zr_getf g_WE_10 dWE_train_79 rfl rfl ?_
          refine zr_invV (c_Text_copyOfWords hwc) m_Text_copyOfWords k_WE_100 v_Text_copyOfWords rfl rfl dWE_train_82 rfl (Nat.le_of_ble_eq_true rfl) ⟨Nat.le_of_ble_eq_true rfl, Nat.le_of_ble_eq_true rfl, Nat.le_of_ble_eq_true rfl, by show 0 + 2 + wc ≤ 2 + wc; omega⟩ (Nat.le_of_ble_eq_true rfl) rfl (fun v w2 hp => ?_)
          obtain ⟨rfl, f2, rfl, hf2⟩ := hp
          refine ⟨by simp, ?_⟩
          refine zr_top (v2 := .ref (k + 41)) (by simp only [List.length_cons, List.length_append, List.length_nil]; rw [hr]) ?_
          refine zr_wld (w2 := (zk_WE n :: zk_Text wc len run :: zk_L 20 tw :: zk_Sh 3 :: zk_D 32 g1 :: zk_L 200 s1 :: zk_Sh 6 :: zk_D 32 g2 :: zk_L 200 s2 :: zk_Log m pb :: zk_I 24 ids :: zk_I 24 bl :: zk_D 24 pl :: zk_Ch cn cw :: zk_I 4 fd :: zk_A 4 zk_ga :: zk_I 20 (fr 0) :: zk_I 20 (fr 1) :: zk_I 20 (fr 2) :: zk_I 20 (fr 3) :: zk_I 4 fe :: zk_P 21 :: zk_L 12 l1 :: zk_P 23 :: zk_L 12 l2 :: ((r ++ [.inr (6, [.int 0, .null])]) ++ [zk_L wc f2]))) rfl ?_
          refine zr_invI (c_Document_init (q := k + 39) (zf_ap1 hr)) m_Document_init k_WE_104 i_Document_init rfl dWE_train_85 rfl (Nat.le_of_ble_eq_true rfl) ⟨Nat.le_of_ble_eq_true rfl, Nat.le_of_ble_eq_true rfl, Nat.le_of_ble_eq_true rfl, by show 0 + 2 + wc + 0 ≤ 2 + wc; omega⟩ (Nat.le_of_ble_eq_true rfl) rfl (fun v w2 hp => ?_)
          obtain ⟨rfl, rfl⟩ := hp
          refine ⟨by rw [List.length_set]; rfl, ?_⟩
          refine zr_wld (w2 := (zk_WE n :: zk_Text wc len run :: zk_L 20 tw :: zk_Sh 3 :: zk_D 32 g1 :: zk_L 200 s1 :: zk_Sh 6 :: zk_D 32 g2 :: zk_L 200 s2 :: zk_Log m pb :: zk_I 24 ids :: zk_I 24 bl :: zk_D 24 pl :: zk_Ch cn cw :: zk_I 4 fd :: zk_A 4 zk_ga :: zk_I 20 (fr 0) :: zk_I 20 (fr 1) :: zk_I 20 (fr 2) :: zk_I 20 (fr 3) :: zk_I 4 fe :: zk_P 21 :: zk_L 12 l1 :: zk_P 23 :: zk_L 12 l2 :: ((r ++ [.inr (6, [.int (nI c), .ref (k + 41)])]) ++ [zk_L wc f2]))) (congrArg (fun z => (zk_WE n :: zk_Text wc len run :: zk_L 20 tw :: zk_Sh 3 :: zk_D 32 g1 :: zk_L 200 s1 :: zk_Sh 6 :: zk_D 32 g2 :: zk_L 200 s2 :: zk_Log m pb :: zk_I 24 ids :: zk_I 24 bl :: zk_D 24 pl :: zk_Ch cn cw :: zk_I 4 fd :: zk_A 4 zk_ga :: zk_I 20 (fr 0) :: zk_I 20 (fr 1) :: zk_I 20 (fr 2) :: zk_I 20 (fr 3) :: zk_I 4 fe :: zk_P 21 :: zk_L 12 l1 :: zk_P 23 :: zk_L 12 l2 :: z)) (zf_ap2 (b := zk_L wc f2) hr)) ?_
          refine zr_iload_n dWE_train_88 rfl ?_
          refine zr_invV (c_WE_change_some (k := k) hm hj (zf_ap1 hr)) m_WE_change k_WE_107 v_WE_change rfl rfl dWE_train_89 rfl (Nat.le_of_ble_eq_true rfl) ⟨Nat.le_of_ble_eq_true rfl, Nat.le_of_ble_eq_true rfl, Nat.le_of_ble_eq_true rfl, by show 0 + 2 + wc + 0 + 0 ≤ 2 + wc; omega⟩ (Nat.le_of_ble_eq_true rfl) rfl (fun v w2 hp => ?_)
          obtain ⟨rfl, rfl⟩ := hp
          refine ⟨by rfl, ?_⟩
          refine zr_iload_n dWE_train_92 rfl ?_
          exact zr_ireturn dWE_train_93 rfl rfl ⟨rfl, f2, rfl, hf2⟩
        · exact absurd hfit h65
      · exfalso; omega
    · exact absurd ⟨nI_pos (by omega), nI_lt hc (by omega)⟩ h12
def zf_untrain (g : Nat → Option Nat) (pb : Nat) (id : Int32) : Int32 :=
  if ¬ (¬ id < 0 ∧ id < nI 32) then -1 else if g id.toNatClampNeg = none then -3 else if 24 < pb + 1 then -5 else 0
theorem zf_ut {g : Nat → Option Nat} {pb j : Nat} (hj : j < 32) : zf_untrain g pb (nI j) = if g j = none then -3 else if 24 < pb + 1 then -5 else 0 := by
  unfold zf_untrain
  rw [if_neg (fun q => q ⟨nI_pos (by omega), nI_lt hj (by decide)⟩), nI_clamp (by omega)]
set_option maxHeartbeats 4000000 in
set_option maxRecDepth 100000 in
theorem c_WE_untrain_no {G : zw_G} {n wc len run m pb cn cw : Nat} {tw s1 s2 l1 l2 : Nat → Int64} {g1 g2 pl : Nat → Option Nat} {ids bl fd fe : Nat → Int32} {fr : Nat → Nat → Int32} {r : zw_W} {id : Int32} (hpb : pb ≤ 24) (hno : zf_untrain g1 pb id ≠ 0) : zw_Met G Y_WE_untrain 3 0 0 [.ref 1, .int id] ((zk_WE n :: zk_Text wc len run :: zk_L 20 tw :: zk_Sh 3 :: zk_D 32 g1 :: zk_L 200 s1 :: zk_Sh 6 :: zk_D 32 g2 :: zk_L 200 s2 :: zk_Log m pb :: zk_I 24 ids :: zk_I 24 bl :: zk_D 24 pl :: zk_Ch cn cw :: zk_I 4 fd :: zk_A 4 zk_ga :: zk_I 20 (fr 0) :: zk_I 20 (fr 1) :: zk_I 20 (fr 2) :: zk_I 20 (fr 3) :: zk_I 4 fe :: zk_P 21 :: zk_L 12 l1 :: zk_P 23 :: zk_L 12 l2 :: r)) (zw_is (some (.int (zf_untrain g1 pb id))) (zk_WE n :: zk_Text wc len run :: zk_L 20 tw :: zk_Sh 3 :: zk_D 32 g1 :: zk_L 200 s1 :: zk_Sh 6 :: zk_D 32 g2 :: zk_L 200 s2 :: zk_Log m pb :: zk_I 24 ids :: zk_I 24 bl :: zk_D 24 pl :: zk_Ch cn cw :: zk_I 4 fd :: zk_A 4 zk_ga :: zk_I 20 (fr 0) :: zk_I 20 (fr 1) :: zk_I 20 (fr 2) :: zk_I 20 (fr 3) :: zk_I 4 fe :: zk_P 21 :: zk_L 12 l1 :: zk_P 23 :: zk_L 12 l2 :: r)) := by
  show zw_Z G Y_WE_untrain _ _ _ 0 0 0 [some (.ref 1), some (.int id), none] [] _
  refine zr_iload_n dWE_untrain_0 rfl ?_
  refine zr_invS c_WE_isId m_WE_isId k_WE_78 (s_WE_isId) dWE_untrain_1 rfl (Nat.le_of_ble_eq_true rfl) (by decide) (Nat.le_of_ble_eq_true rfl) rfl (fun v w2 hp => ?_)
  obtain ⟨rfl, rfl⟩ := hp
  refine ⟨rfl, ?_⟩
  refine zr_if_neB (tgt := 9) dWE_untrain_4 (by decide) (fun h4 => ?_) (fun h4 => ?_)
  · obtain ⟨j, hj, rfl⟩ := zf_rng (by decide) h4.1 h4.2
    refine zr_aload_n dWE_untrain_9 rfl rfl ?_
    refine zr_getf g_WE_19 dWE_untrain_10 rfl rfl ?_
    refine zr_iload_n dWE_untrain_13 rfl ?_
    refine zr_invV (c_Shelf_find (i := 3) rfl rfl) m_Shelf_find k_WE_84 v_Shelf_find rfl rfl dWE_untrain_14 rfl (Nat.le_of_ble_eq_true rfl) (by decide) (Nat.le_of_ble_eq_true rfl) rfl (fun v w2 hp => ?_)
    obtain ⟨rfl, rfl⟩ := hp
    refine ⟨rfl, ?_⟩
    rcases ho14 : zf_find g1 (nI j) with _ | r14
    · refine zr_astore_n dWE_untrain_17 (by decide) rfl ?_
      refine zr_aload_n dWE_untrain_18 rfl rfl ?_
      refine zr_ifnonnullN dWE_untrain_19 ?_
      refine zr_bipush (v := (-3)) dWE_untrain_22 (by decide) ?_
      exact zr_ireturn dWE_untrain_24 rfl rfl (⟨congrArg (fun x => some (Value.int x)) (by rw [zf_ut hj, if_pos (zf_find_none hj ho14)]), rfl⟩)
    · refine zr_astore_n dWE_untrain_17 (by decide) rfl ?_
      refine zr_aload_n dWE_untrain_18 rfl rfl ?_
      refine zr_ifnonnull (tgt := 25) dWE_untrain_19 (by decide) ?_
      refine zr_aload_n dWE_untrain_25 rfl rfl ?_
      refine zr_getf g_WE_29 dWE_untrain_26 rfl rfl ?_
      refine zr_iconst (v := nI 1) dWE_untrain_29 (by decide) ?_
      refine zr_invV (c_Log_hasRoomFor (by omega) (by decide)) m_Log_hasRoomFor k_WE_95 v_Log_hasRoomFor rfl rfl dWE_untrain_30 rfl (Nat.le_of_ble_eq_true rfl) (by decide) (Nat.le_of_ble_eq_true rfl) rfl (fun v w2 hp => ?_)
      obtain ⟨rfl, rfl⟩ := hp
      refine ⟨rfl, ?_⟩
      refine zr_if_neB (tgt := 39) dWE_untrain_33 (by decide) (fun h33 => ?_) (fun h33 => ?_)
      · exact absurd (by rw [zf_ut hj, if_neg (by rw [zf_find_some hj ho14]; exact fun q => by cases q), if_neg (by omega)]) hno
      · refine zr_bipush (v := (-5)) dWE_untrain_36 (by decide) ?_
        exact zr_ireturn dWE_untrain_38 rfl rfl (⟨congrArg (fun x => some (Value.int x)) (by rw [zf_ut hj, if_neg (by rw [zf_find_some hj ho14]; exact fun q => by cases q), if_pos (by omega)]), rfl⟩)
  · refine zr_iconst (v := (-1)) dWE_untrain_7 (by decide) ?_
    exact zr_ireturn dWE_untrain_8 rfl rfl (⟨congrArg (fun x => some (Value.int x)) (if_pos h4).symm, rfl⟩)
set_option maxHeartbeats 4000000 in
set_option maxRecDepth 100000 in
theorem c_WE_untrain_ok {G : zw_G} {n wc len run m pb cn cw : Nat} {tw s1 s2 l1 l2 : Nat → Int64} {g1 g2 pl : Nat → Option Nat} {ids bl fd fe : Nat → Int32} {fr : Nat → Nat → Int32} {r : zw_W} {j c k : Nat} (hpb : pb ≤ 24) (hj : j < 32) (hg : g1 j = some (k + 40)) (hq : r[k + 14]? = some (.inr (6, [.int (nI c), .ref (k + 41)]))) (hfit : pb + 1 ≤ 24) (hm : m < 24) : zw_Met G Y_WE_untrain 3 0 0 [.ref 1, .int (nI j)] ((zk_WE n :: zk_Text wc len run :: zk_L 20 tw :: zk_Sh 3 :: zk_D 32 g1 :: zk_L 200 s1 :: zk_Sh 6 :: zk_D 32 g2 :: zk_L 200 s2 :: zk_Log m pb :: zk_I 24 ids :: zk_I 24 bl :: zk_D 24 pl :: zk_Ch cn cw :: zk_I 4 fd :: zk_A 4 zk_ga :: zk_I 20 (fr 0) :: zk_I 20 (fr 1) :: zk_I 20 (fr 2) :: zk_I 20 (fr 3) :: zk_I 4 fe :: zk_P 21 :: zk_L 12 l1 :: zk_P 23 :: zk_L 12 l2 :: r)) (zw_is (some (.int (nI c))) (zk_WE n :: zk_Text wc len run :: zk_L 20 tw :: zk_Sh 3 :: zk_D 32 (va_up g1 j none) :: zk_L 200 s1 :: zk_Sh 6 :: zk_D 32 g2 :: zk_L 200 s2 :: zk_Log (m + 1) (pb + 1) :: zk_I 24 (upd ids m (nI j)) :: zk_I 24 (upd bl m (nI 1)) :: zk_D 24 (va_up pl m none) :: zk_Ch cn cw :: zk_I 4 fd :: zk_A 4 zk_ga :: zk_I 20 (fr 0) :: zk_I 20 (fr 1) :: zk_I 20 (fr 2) :: zk_I 20 (fr 3) :: zk_I 4 fe :: zk_P 21 :: zk_L 12 l1 :: zk_P 23 :: zk_L 12 l2 :: r)) := by
  show zw_Z G Y_WE_untrain _ _ _ 0 0 0 [some (.ref 1), some (.int (nI j)), none] [] _
  refine zr_iload_n dWE_untrain_0 rfl ?_
  refine zr_invS c_WE_isId m_WE_isId k_WE_78 (s_WE_isId) dWE_untrain_1 rfl (Nat.le_of_ble_eq_true rfl) (by decide) (Nat.le_of_ble_eq_true rfl) rfl (fun v w2 hp => ?_)
  obtain ⟨rfl, rfl⟩ := hp
  refine ⟨rfl, ?_⟩
  refine zr_if_neB (tgt := 9) dWE_untrain_4 (by decide) (fun h4 => ?_) (fun h4 => ?_)
  · refine zr_aload_n dWE_untrain_9 rfl rfl ?_
    refine zr_getf g_WE_19 dWE_untrain_10 rfl rfl ?_
    refine zr_iload_n dWE_untrain_13 rfl ?_
    refine zr_invV (c_Shelf_find (i := 3) rfl rfl) m_Shelf_find k_WE_84 v_Shelf_find rfl rfl dWE_untrain_14 rfl (Nat.le_of_ble_eq_true rfl) (by decide) (Nat.le_of_ble_eq_true rfl) rfl (fun v w2 hp => ?_)
    obtain ⟨rfl, rfl⟩ := hp
    refine ⟨rfl, ?_⟩
    rw [zf_find_in hj, hg]
    refine zr_astore_n dWE_untrain_17 (by decide) rfl ?_
    refine zr_aload_n dWE_untrain_18 rfl rfl ?_
    refine zr_ifnonnull (tgt := 25) dWE_untrain_19 (by decide) ?_
    refine zr_aload_n dWE_untrain_25 rfl rfl ?_
    refine zr_getf g_WE_29 dWE_untrain_26 rfl rfl ?_
    refine zr_iconst (v := nI 1) dWE_untrain_29 (by decide) ?_
    refine zr_invV (c_Log_hasRoomFor (by omega) (by decide)) m_Log_hasRoomFor k_WE_95 v_Log_hasRoomFor rfl rfl dWE_untrain_30 rfl (Nat.le_of_ble_eq_true rfl) (by decide) (Nat.le_of_ble_eq_true rfl) rfl (fun v w2 hp => ?_)
    obtain ⟨rfl, rfl⟩ := hp
    refine ⟨rfl, ?_⟩
    refine zr_if_neB (tgt := 39) dWE_untrain_33 (by decide) (fun h33 => ?_) (fun h33 => ?_)
    · refine zr_aload_n dWE_untrain_39 rfl rfl ?_
      refine zr_iload_n dWE_untrain_40 rfl ?_
      refine zr_null dWE_untrain_41 ?_
      refine zr_iconst (v := nI 1) dWE_untrain_42 (by decide) ?_
      refine zr_invV (c_WE_change_none hm hj) m_WE_change k_WE_107 v_WE_change rfl rfl dWE_untrain_43 rfl (Nat.le_of_ble_eq_true rfl) (by decide) (Nat.le_of_ble_eq_true rfl) rfl (fun v w2 hp => ?_)
      obtain ⟨rfl, rfl⟩ := hp
      refine ⟨rfl, ?_⟩
      refine zr_aload_n dWE_untrain_46 rfl rfl ?_
      refine zr_getf g_WE_111 dWE_untrain_47 hq rfl ?_
      exact zr_ireturn dWE_untrain_50 rfl rfl (⟨rfl, rfl⟩)
    · exact absurd hfit h33
  · exact absurd ⟨nI_pos (by omega), nI_lt hj (by decide)⟩ h4
