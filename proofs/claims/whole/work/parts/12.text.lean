/-! Text: cells 1 and 2 of the world -/
abbrev zk_Text (wc len run : Nat) : zw_C := .inr (1, [.ref 3, .int (nI wc), .int (nI len), .int (nI run)])
theorem zf_upL {f : Nat → Int64} {k : Nat} {x : Int64} : vp_updL f k x k = x := if_pos rfl
theorem zf_upLn {f : Nat → Int64} {k j : Nat} {x : Int64} (h : j ≠ k) : vp_updL f k x j = f j := if_neg h
theorem zf_pow (i : Nat) : 256 ^ i = 2 ^ (8 * i) := by
  rw [Nat.pow_mul]
set_option maxHeartbeats 4000000 in
set_option maxRecDepth 100000 in
theorem c_Text_init {G : zw_G} {c0 : zw_C} : zw_Met G Y_Text_init 1 1 20 [.ref 2] ([c0, .inr (1, [.null, .int 0, .int 0, .int 0])]) (zw_is none [c0, zk_Text 0 0 0, zk_L 20 (fun _ => 0)]) := by
  show zw_Z G Y_Text_init _ _ _ 0 0 0 [some (.ref 2)] [] _
  refine zr_aload_n dText_init_0 rfl rfl ?_
  refine zr_objInit o_Text_3 t_oi t_oc dText_init_1 (by decide) ?_
  refine zr_aload_n dText_init_4 rfl rfl ?_
  refine zr_bipush (v := nI 20) dText_init_5 (by decide) ?_
  refine zr_newL t_arrL dText_init_7 (by decide) (by decide) ?_
  refine zr_putF f_Text_9 rfl dText_init_9 rfl (Nat.le_of_ble_eq_true rfl) (fun _ => rfl) (fun _ => rfl) ?_
  refine zr_aload_n dText_init_12 rfl rfl ?_
  refine zr_iconst (v := nI 0) dText_init_13 (by decide) ?_
  refine zr_putf f_Text_15 dText_init_14 rfl (Nat.le_of_ble_eq_true rfl) (fun _ => rfl) (fun _ => rfl) ?_
  refine zr_aload_n dText_init_17 rfl rfl ?_
  refine zr_iconst (v := nI 0) dText_init_18 (by decide) ?_
  refine zr_putf f_Text_19 dText_init_19 rfl (Nat.le_of_ble_eq_true rfl) (fun _ => rfl) (fun _ => rfl) ?_
  refine zr_aload_n dText_init_22 rfl rfl ?_
  refine zr_iconst (v := nI 0) dText_init_23 (by decide) ?_
  refine zr_putf f_Text_22 dText_init_24 rfl (Nat.le_of_ble_eq_true rfl) (fun _ => rfl) (fun _ => rfl) ?_
  exact zr_return dText_init_27 rfl (⟨rfl, rfl⟩)
set_option maxHeartbeats 4000000 in
set_option maxRecDepth 100000 in
theorem c_Text_empty {G : zw_G} {c0 : zw_C} {r : zw_W} {wc len run : Nat} {tw : Nat → Int64} : zw_Met G Y_Text_empty 0 0 0 [.ref 2] ((c0 :: zk_Text wc len run :: zk_L 20 tw :: r)) (zw_is (some (.int (nI len))) (c0 :: zk_Text 0 0 0 :: zk_L 20 tw :: r)) := by
  show zw_Z G Y_Text_empty _ _ _ 0 0 0 [some (.ref 2), none] [] _
  refine zr_aload_n dText_empty_0 rfl rfl ?_
  refine zr_getf g_Text_19 dText_empty_1 rfl rfl ?_
  refine zr_istore_n dText_empty_4 (by decide) ?_
  refine zr_aload_n dText_empty_5 rfl rfl ?_
  refine zr_iconst (v := nI 0) dText_empty_6 (by decide) ?_
  refine zr_putf f_Text_19 dText_empty_7 rfl (Nat.le_of_ble_eq_true rfl) (fun _ => rfl) (fun _ => rfl) ?_
  refine zr_aload_n dText_empty_10 rfl rfl ?_
  refine zr_iconst (v := nI 0) dText_empty_11 (by decide) ?_
  refine zr_putf f_Text_22 dText_empty_12 rfl (Nat.le_of_ble_eq_true rfl) (fun _ => rfl) (fun _ => rfl) ?_
  refine zr_aload_n dText_empty_15 rfl rfl ?_
  refine zr_iconst (v := nI 0) dText_empty_16 (by decide) ?_
  refine zr_putf f_Text_15 dText_empty_17 rfl (Nat.le_of_ble_eq_true rfl) (fun _ => rfl) (fun _ => rfl) ?_
  refine zr_iload_n dText_empty_20 rfl ?_
  exact zr_ireturn dText_empty_21 rfl rfl (⟨rfl, rfl⟩)
set_option maxHeartbeats 4000000 in
set_option maxRecDepth 100000 in
theorem c_Text_hasWord {G : zw_G} {c0 : zw_C} {r : zw_W} {wc len run : Nat} {tw : Nat → Int64} {k : Int32} : zw_Met G Y_Text_hasWord 0 0 0 [.ref 2, .int k] ((c0 :: zk_Text wc len run :: zk_L 20 tw :: r)) (zw_is (some (.int (zw_b (¬ k < 0 ∧ k < nI wc)))) (c0 :: zk_Text wc len run :: zk_L 20 tw :: r)) := by
  show zw_Z G Y_Text_hasWord _ _ _ 0 0 0 [some (.ref 2), some (.int k)] [] _
  refine zr_iload_n dText_hasWord_0 rfl ?_
  refine zr_if_lt (tgt := 16) dText_hasWord_1 (by decide) (fun h1 => ?_) (fun h1 => ?_)
  · have hb : zw_b (¬ k < 0 ∧ k < nI wc) = 0 := zw_b0 (fun q => q.1 h1)
    refine zr_iconst (v := nI 0) dText_hasWord_16 (by decide) ?_
    exact zr_ireturn dText_hasWord_17 rfl rfl (⟨congrArg (fun x => some (Value.int x)) hb.symm, rfl⟩)
  · refine zr_iload_n dText_hasWord_4 rfl ?_
    refine zr_aload_n dText_hasWord_5 rfl rfl ?_
    refine zr_getf g_Text_15 dText_hasWord_6 rfl rfl ?_
    refine zr_icmp_ge (tgt := 16) dText_hasWord_9 (by decide) (fun h9 => ?_) (fun h9 => ?_)
    · have hb : zw_b (¬ k < 0 ∧ k < nI wc) = 0 := zw_b0 (fun q => Int32.not_le.mpr q.2 h9)
      refine zr_iconst (v := nI 0) dText_hasWord_16 (by decide) ?_
      exact zr_ireturn dText_hasWord_17 rfl rfl (⟨congrArg (fun x => some (Value.int x)) hb.symm, rfl⟩)
    · have hb : zw_b (¬ k < 0 ∧ k < nI wc) = 1 := zw_b1 ⟨h1, Int32.not_le.mp h9⟩
      refine zr_iconst (v := nI 1) dText_hasWord_12 (by decide) ?_
      refine zr_goto (tgt := 17) dText_hasWord_13 (by decide) ?_
      exact zr_ireturn dText_hasWord_17 rfl rfl (⟨congrArg (fun x => some (Value.int x)) hb.symm, rfl⟩)
set_option maxHeartbeats 4000000 in
set_option maxRecDepth 100000 in
theorem c_Text_run0 {G : zw_G} {c0 : zw_C} {r : zw_W} {len k wc : Nat} {tw : Nat → Int64} (hk : k < 128) (hwc : wc < 20) : zw_Met G Y_Text_lengthenRun 2 0 0 [.ref 2, .int (nI k)] ((c0 :: zk_Text wc len 0 :: zk_L 20 tw :: r)) (zw_is none (c0 :: zk_Text (wc + 1) len (0 + 1) :: zk_L 20 (vp_updL (vp_updL tw wc 0) wc (lN (0 + k * 2 ^ (8 * 0)))) :: r)) := by
  show zw_Z G Y_Text_lengthenRun _ _ _ 0 0 0 [some (.ref 2), some (.int (nI k)), none] [] _
  refine zr_aload_n dText_lengthenRun_0 rfl rfl ?_
  refine zr_getf g_Text_22 dText_lengthenRun_1 rfl rfl ?_
  refine zr_if_neN (tgt := 36) (by omega) dText_lengthenRun_4 (by decide) (fun h4 => ?_) (fun h4 => ?_)
  · exact absurd rfl h4
  · refine zr_aload_n dText_lengthenRun_7 rfl rfl ?_
    refine zr_getf g_Text_15 dText_lengthenRun_8 rfl rfl ?_
    refine zr_bipush (v := nI 20) dText_lengthenRun_11 (by decide) ?_
    refine zr_icmp_geN (tgt := 36) (by omega) (by omega) dText_lengthenRun_13 (by decide) (fun h13 => ?_) (fun h13 => ?_)
    · exfalso; omega
    · refine zr_aload_n dText_lengthenRun_16 rfl rfl ?_
      refine zr_getf g_Text_9 dText_lengthenRun_17 rfl rfl ?_
      refine zr_aload_n dText_lengthenRun_20 rfl rfl ?_
      refine zr_getf g_Text_15 dText_lengthenRun_21 rfl rfl ?_
      refine zr_lconst (v := 0) dText_lengthenRun_24 (by decide) ?_
      refine zr_last dText_lengthenRun_25 rfl (hwc) (by decide) ?_
      refine zr_aload_n dText_lengthenRun_26 rfl rfl ?_
      refine zr_dup dText_lengthenRun_27 rfl ?_
      refine zr_getf g_Text_15 dText_lengthenRun_28 rfl rfl ?_
      refine zr_iconst (v := nI 1) dText_lengthenRun_31 (by decide) ?_
      refine zr_iaddN dText_lengthenRun_32 ?_
      refine zr_putf f_Text_15 dText_lengthenRun_33 rfl (Nat.le_of_ble_eq_true rfl) (fun _ => rfl) (fun _ => rfl) ?_
      refine zr_aload_n dText_lengthenRun_36 rfl rfl ?_
      refine zr_getf g_Text_22 dText_lengthenRun_37 rfl rfl ?_
      refine zr_bipush (v := nI 8) dText_lengthenRun_40 (by decide) ?_
      refine zr_icmp_geN (tgt := 79) (by omega) (by omega) dText_lengthenRun_42 (by decide) (fun h42 => ?_) (fun h42 => ?_)
      · exfalso; omega
      · refine zr_aload_n dText_lengthenRun_45 rfl rfl ?_
        refine zr_getf g_Text_15 dText_lengthenRun_46 rfl rfl ?_
        refine zr_if_leN (tgt := 79) (by omega) dText_lengthenRun_49 (by decide) (fun h49 => ?_) (fun h49 => ?_)
        · exfalso; omega
        · refine zr_aload_n dText_lengthenRun_52 rfl rfl ?_
          refine zr_getf g_Text_15 dText_lengthenRun_53 rfl rfl ?_
          refine zr_iconst (v := nI 1) dText_lengthenRun_56 (by decide) ?_
          refine zr_isubN (by omega) dText_lengthenRun_57 ?_
          refine zr_istore_n dText_lengthenRun_58 (by decide) ?_
          refine zr_aload_n dText_lengthenRun_59 rfl rfl ?_
          refine zr_getf g_Text_9 dText_lengthenRun_60 rfl rfl ?_
          refine zr_iload_n dText_lengthenRun_63 rfl ?_
          refine zr_aload_n dText_lengthenRun_64 rfl rfl ?_
          refine zr_getf g_Text_9 dText_lengthenRun_65 rfl rfl ?_
          refine zr_iload_n dText_lengthenRun_68 rfl ?_
          refine zr_lald dText_lengthenRun_69 rfl (by omega) (by decide) ?_
          refine zr_topL (show vp_updL tw wc 0 (wc + 1 - 1) = lN 0 from by rw [Nat.add_sub_cancel]; exact zf_upL) ?_
          refine zr_aload_n dText_lengthenRun_70 rfl rfl ?_
          refine zr_getf g_Text_22 dText_lengthenRun_71 rfl rfl ?_
          refine zr_iload_n dText_lengthenRun_74 rfl ?_
          refine zr_invS (c_Letters_with (x := 0) (i := 0) (k := k) (by omega) hk (by decide) (by omega)) m_Letters_with k_Text_35 (s_Letters_with) dText_lengthenRun_75 rfl (Nat.le_of_ble_eq_true rfl) (by decide) (Nat.le_of_ble_eq_true rfl) rfl (fun v w2 hp => ?_)
          obtain ⟨rfl, rfl⟩ := hp
          refine ⟨rfl, ?_⟩
          refine zr_last dText_lengthenRun_78 rfl (by omega) (by decide) ?_
          rw [Nat.add_sub_cancel]
          refine zr_aload_n dText_lengthenRun_79 rfl rfl ?_
          refine zr_dup dText_lengthenRun_80 rfl ?_
          refine zr_getf g_Text_22 dText_lengthenRun_81 rfl rfl ?_
          refine zr_iconst (v := nI 1) dText_lengthenRun_84 (by decide) ?_
          refine zr_iaddN dText_lengthenRun_85 ?_
          refine zr_putf f_Text_22 dText_lengthenRun_86 rfl (Nat.le_of_ble_eq_true rfl) (fun _ => rfl) (fun _ => rfl) ?_
          exact zr_return dText_lengthenRun_89 rfl (⟨rfl, rfl⟩)
set_option maxHeartbeats 4000000 in
set_option maxRecDepth 100000 in
theorem c_Text_run1 {G : zw_G} {c0 : zw_C} {r : zw_W} {len k wc : Nat} {tw : Nat → Int64} {x run : Nat} (hk : k < 128) (hr0 : 0 < run) (hr : run < 8) (hwc0 : 0 < wc) (hwc : wc ≤ 20) (hx : x < 2 ^ (8 * run)) (hb : x + k * 2 ^ (8 * run) < 2 ^ 64) (htw : tw (wc - 1) = lN x) : zw_Met G Y_Text_lengthenRun 2 0 0 [.ref 2, .int (nI k)] ((c0 :: zk_Text wc len run :: zk_L 20 tw :: r)) (zw_is none (c0 :: zk_Text wc len (run + 1) :: zk_L 20 (vp_updL tw (wc - 1) (lN (x + k * 2 ^ (8 * run)))) :: r)) := by
  show zw_Z G Y_Text_lengthenRun _ _ _ 0 0 0 [some (.ref 2), some (.int (nI k)), none] [] _
  refine zr_aload_n dText_lengthenRun_0 rfl rfl ?_
  refine zr_getf g_Text_22 dText_lengthenRun_1 rfl rfl ?_
  refine zr_if_neN (tgt := 36) (by omega) dText_lengthenRun_4 (by decide) (fun h4 => ?_) (fun h4 => ?_)
  · refine zr_aload_n dText_lengthenRun_36 rfl rfl ?_
    refine zr_getf g_Text_22 dText_lengthenRun_37 rfl rfl ?_
    refine zr_bipush (v := nI 8) dText_lengthenRun_40 (by decide) ?_
    refine zr_icmp_geN (tgt := 79) (by omega) (by omega) dText_lengthenRun_42 (by decide) (fun h42 => ?_) (fun h42 => ?_)
    · exfalso; omega
    · refine zr_aload_n dText_lengthenRun_45 rfl rfl ?_
      refine zr_getf g_Text_15 dText_lengthenRun_46 rfl rfl ?_
      refine zr_if_leN (tgt := 79) (by omega) dText_lengthenRun_49 (by decide) (fun h49 => ?_) (fun h49 => ?_)
      · exfalso; omega
      · refine zr_aload_n dText_lengthenRun_52 rfl rfl ?_
        refine zr_getf g_Text_15 dText_lengthenRun_53 rfl rfl ?_
        refine zr_iconst (v := nI 1) dText_lengthenRun_56 (by decide) ?_
        refine zr_isubN (by omega) dText_lengthenRun_57 ?_
        refine zr_istore_n dText_lengthenRun_58 (by decide) ?_
        refine zr_aload_n dText_lengthenRun_59 rfl rfl ?_
        refine zr_getf g_Text_9 dText_lengthenRun_60 rfl rfl ?_
        refine zr_iload_n dText_lengthenRun_63 rfl ?_
        refine zr_aload_n dText_lengthenRun_64 rfl rfl ?_
        refine zr_getf g_Text_9 dText_lengthenRun_65 rfl rfl ?_
        refine zr_iload_n dText_lengthenRun_68 rfl ?_
        refine zr_lald dText_lengthenRun_69 rfl (by omega) (by decide) ?_
        refine zr_topL htw ?_
        refine zr_aload_n dText_lengthenRun_70 rfl rfl ?_
        refine zr_getf g_Text_22 dText_lengthenRun_71 rfl rfl ?_
        refine zr_iload_n dText_lengthenRun_74 rfl ?_
        refine zr_invS (c_Letters_with (x := x) (i := run) (k := k) (by omega) hk hx hb) m_Letters_with k_Text_35 (s_Letters_with) dText_lengthenRun_75 rfl (Nat.le_of_ble_eq_true rfl) (by decide) (Nat.le_of_ble_eq_true rfl) rfl (fun v w2 hp => ?_)
        obtain ⟨rfl, rfl⟩ := hp
        refine ⟨rfl, ?_⟩
        refine zr_last dText_lengthenRun_78 rfl (by omega) (by decide) ?_
        refine zr_aload_n dText_lengthenRun_79 rfl rfl ?_
        refine zr_dup dText_lengthenRun_80 rfl ?_
        refine zr_getf g_Text_22 dText_lengthenRun_81 rfl rfl ?_
        refine zr_iconst (v := nI 1) dText_lengthenRun_84 (by decide) ?_
        refine zr_iaddN dText_lengthenRun_85 ?_
        refine zr_putf f_Text_22 dText_lengthenRun_86 rfl (Nat.le_of_ble_eq_true rfl) (fun _ => rfl) (fun _ => rfl) ?_
        exact zr_return dText_lengthenRun_89 rfl (⟨rfl, rfl⟩)
  · exfalso; omega
set_option maxHeartbeats 4000000 in
set_option maxRecDepth 100000 in
theorem c_Text_run8 {G : zw_G} {c0 : zw_C} {r : zw_W} {len k wc : Nat} {tw : Nat → Int64} {run : Nat} (hr : 8 ≤ run) (hr2 : run < 1000) : zw_Met G Y_Text_lengthenRun 2 0 0 [.ref 2, .int (nI k)] ((c0 :: zk_Text wc len run :: zk_L 20 tw :: r)) (zw_is none (c0 :: zk_Text wc len (run + 1) :: zk_L 20 tw :: r)) := by
  show zw_Z G Y_Text_lengthenRun _ _ _ 0 0 0 [some (.ref 2), some (.int (nI k)), none] [] _
  refine zr_aload_n dText_lengthenRun_0 rfl rfl ?_
  refine zr_getf g_Text_22 dText_lengthenRun_1 rfl rfl ?_
  refine zr_if_neN (tgt := 36) (by omega) dText_lengthenRun_4 (by decide) (fun h4 => ?_) (fun h4 => ?_)
  · refine zr_aload_n dText_lengthenRun_36 rfl rfl ?_
    refine zr_getf g_Text_22 dText_lengthenRun_37 rfl rfl ?_
    refine zr_bipush (v := nI 8) dText_lengthenRun_40 (by decide) ?_
    refine zr_icmp_geN (tgt := 79) (by omega) (by omega) dText_lengthenRun_42 (by decide) (fun h42 => ?_) (fun h42 => ?_)
    · refine zr_aload_n dText_lengthenRun_79 rfl rfl ?_
      refine zr_dup dText_lengthenRun_80 rfl ?_
      refine zr_getf g_Text_22 dText_lengthenRun_81 rfl rfl ?_
      refine zr_iconst (v := nI 1) dText_lengthenRun_84 (by decide) ?_
      refine zr_iaddN dText_lengthenRun_85 ?_
      refine zr_putf f_Text_22 dText_lengthenRun_86 rfl (Nat.le_of_ble_eq_true rfl) (fun _ => rfl) (fun _ => rfl) ?_
      exact zr_return dText_lengthenRun_89 rfl (⟨rfl, rfl⟩)
    · exfalso; omega
  · exfalso; omega
set_option maxHeartbeats 4000000 in
set_option maxRecDepth 100000 in
/-- lengthenRun: the words' next state -/
theorem c_Text_lengthenRun {G : zw_G} {c0 : zw_C} {r : zw_W} {len k m : Nat} {s : wt_S} {tw : Nat → Int64} (hk : 0 < k ∧ k < 128) (hok : wt_ok m s) (hm : m < 40) (hr : s.2.2 < 1000) (htw : ∀ i, i < s.1 → tw i = lN (we_a (s.2.1 i))) :
    zw_Met G Y_Text_lengthenRun 2 0 0 [.ref 2, .int (nI k)] (c0 :: zk_Text s.1 len s.2.2 :: zk_L 20 tw :: r) (fun v w2 => v = none ∧ ∃ tw2, w2 = c0 :: zk_Text (wt_step s k).1 len (wt_step s k).2.2 :: zk_L 20 tw2 :: r ∧ ∀ i, i < (wt_step s k).1 → tw2 i = lN (we_a ((wt_step s k).2.1 i))) := by
  obtain ⟨wc, Wd, run⟩ := s
  obtain ⟨h1, h2, h3⟩ := hok
  simp only at h1 h2 h3 hr htw ⊢
  have hk0 : ¬ k = 0 := by omega
  by_cases hr0 : run = 0
  · subst hr0
    rw [if_pos rfl] at h1
    have e : wt_step (wc, Wd, 0) k = (wc + 1, va_up Wd wc [k], 1) := by simp [wt_step, hk0]
    rw [e]
    refine zw_Met.post (c_Text_run0 hk.2 (by omega)) (fun v w2 hp => ?_)
    obtain ⟨rfl, rfl⟩ := hp
    refine ⟨rfl, _, rfl, fun i hi => ?_⟩
    simp only at hi ⊢
    by_cases hi2 : i = wc
    · subst hi2
      rw [zf_upL]
      simp [va_up, we_a]
    · rw [zf_upLn hi2, zf_upLn hi2, htw i (by omega)]
      simp [va_up, hi2]
  · rw [if_neg hr0] at h1
    obtain ⟨g1, g2⟩ := h3 (by omega)
    by_cases h8 : run < 8
    · rw [if_pos h8] at g2
      have e : wt_step (wc, Wd, run) k = (wc, va_up Wd (wc - 1) (Wd (wc - 1) ++ [k]), run + 1) := by simp [wt_step, hk0, hr0, h8]
      rw [e]
      have hw := h2 (wc - 1) (by omega)
      have hx : we_a (Wd (wc - 1)) < 2 ^ (8 * run) := by
        have := we_a_lt (Wd (wc - 1)) (fun q hq => (hw.2.2 q hq).2)
        rw [g2, zf_pow] at this
        exact this
      have hsn : we_a (Wd (wc - 1) ++ [k]) = we_a (Wd (wc - 1)) + k * 2 ^ (8 * run) := by rw [we_a_snoc, g2, zf_pow]
      have hb : we_a (Wd (wc - 1)) + k * 2 ^ (8 * run) < 2 ^ 64 := by
        rw [← hsn]
        have := we_a_lt2 (Wd (wc - 1) ++ [k]) (fun q hq => by
          rcases List.mem_append.mp hq with h6 | h6
          · exact (hw.2.2 q h6).2
          · rw [List.mem_singleton] at h6; omega) (by simp; omega)
        omega
      refine zw_Met.post (c_Text_run1 hk.2 (by omega) h8 g1 (by omega) hx hb (htw _ (by omega))) (fun v w2 hp => ?_)
      obtain ⟨rfl, rfl⟩ := hp
      refine ⟨rfl, _, rfl, fun i hi => ?_⟩
      simp only at hi ⊢
      by_cases hi2 : i = wc - 1
      · subst hi2
        rw [zf_upL, ← hsn]
        simp [va_up]
      · rw [zf_upLn hi2, htw i (by omega)]
        simp [va_up, hi2]
    · have e : wt_step (wc, Wd, run) k = (wc, Wd, run + 1) := by simp [wt_step, hk0, hr0, h8]
      rw [e]
      refine zw_Met.post (c_Text_run8 (by omega) hr) (fun v w2 hp => ?_)
      obtain ⟨rfl, rfl⟩ := hp
      exact ⟨rfl, _, rfl, htw⟩
/-- what a character leaves of a text: len characters, the words s -/
def zf_key (len : Nat) (s : wt_S) (c : Nat) : Nat × wt_S := if 32 ≤ c ∧ c ≤ 126 ∧ len < 40 then (len + 1, wt_step s (wf_fold c)) else (len, s)
theorem zf_ne1 {a : Nat} (h : a < 2 ^ 31) : ¬ nI a = -1 := fun e => by
  have h1 := nI_pos h
  rw [e] at h1
  exact h1 (by decide)
set_option maxHeartbeats 4000000 in
set_option maxRecDepth 100000 in
theorem c_Text_append {G : zw_G} {c0 : zw_C} {r : zw_W} {len c : Nat} {s : wt_S} {tw : Nat → Int64} (hc : c < 65536) (hlen : len ≤ 40) (hok : wt_ok len s) (hr : s.2.2 < 1000) (htw : ∀ i, i < s.1 → tw i = lN (we_a (s.2.1 i))) :
    zw_Met G Y_Text_append 3 0 0 [.ref 2, .int (nI c)] (c0 :: zk_Text s.1 len s.2.2 :: zk_L 20 tw :: r) (fun v w2 => v = some (.int (zw_b (32 ≤ c ∧ c ≤ 126 ∧ len < 40))) ∧ ∃ tw2, w2 = c0 :: zk_Text (zf_key len s c).2.1 (zf_key len s c).1 (zf_key len s c).2.2.2 :: zk_L 20 tw2 :: r ∧ ∀ i, i < (zf_key len s c).2.1 → tw2 i = lN (we_a ((zf_key len s c).2.2.1 i))) := by
  show zw_Z G Y_Text_append _ _ _ 0 0 0 [some (.ref 2), some (.int (nI c)), none] [] _
  refine zr_iload_n dText_append_0 rfl ?_
  refine zr_bipush (v := nI 32) dText_append_1 (by decide) ?_
  refine zr_icmp_ltN (tgt := 21) (by omega) (by omega) dText_append_3 (by decide) (fun h3 => ?_) (fun h3 => ?_)
  · refine zr_iconst (v := nI 0) dText_append_21 (by decide) ?_
    exact zr_ireturn dText_append_22 rfl rfl (⟨congrArg (fun x => some (Value.int x)) (zw_b0 (fun q => by omega)).symm, tw, by rw [show zf_key len s c = (len, s) from if_neg (fun q => by omega)], by rw [show zf_key len s c = (len, s) from if_neg (fun q => by omega)]; exact htw⟩)
  · refine zr_iload_n dText_append_6 rfl ?_
    refine zr_bipush (v := nI 126) dText_append_7 (by decide) ?_
    refine zr_icmp_gtN (tgt := 21) (by omega) (by omega) dText_append_9 (by decide) (fun h9 => ?_) (fun h9 => ?_)
    · refine zr_iconst (v := nI 0) dText_append_21 (by decide) ?_
      exact zr_ireturn dText_append_22 rfl rfl (⟨congrArg (fun x => some (Value.int x)) (zw_b0 (fun q => by omega)).symm, tw, by rw [show zf_key len s c = (len, s) from if_neg (fun q => by omega)], by rw [show zf_key len s c = (len, s) from if_neg (fun q => by omega)]; exact htw⟩)
    · refine zr_aload_n dText_append_12 rfl rfl ?_
      refine zr_getf g_Text_19 dText_append_13 rfl rfl ?_
      refine zr_bipush (v := nI 40) dText_append_16 (by decide) ?_
      refine zr_icmp_ltN (tgt := 23) (by omega) (by omega) dText_append_18 (by decide) (fun h18 => ?_) (fun h18 => ?_)
      · have hin : 32 ≤ c ∧ c ≤ 126 ∧ len < 40 := ⟨by omega, by omega, by omega⟩
        have ez : zf_key len s c = (len + 1, wt_step s (wf_fold c)) := if_pos hin
        rw [ez]
        refine zr_aload_n dText_append_23 rfl rfl ?_
        refine zr_dup dText_append_24 rfl ?_
        refine zr_getf g_Text_19 dText_append_25 rfl rfl ?_
        refine zr_iconst (v := nI 1) dText_append_28 (by decide) ?_
        refine zr_iaddN dText_append_29 ?_
        refine zr_putf f_Text_19 dText_append_30 rfl (Nat.le_of_ble_eq_true rfl) (fun _ => rfl) (fun _ => rfl) ?_
        refine zr_iload_n dText_append_33 rfl ?_
        refine zr_invS (c_Letters_fold hc) m_Letters_fold k_Text_25 (s_Letters_fold) dText_append_34 rfl (Nat.le_of_ble_eq_true rfl) (by decide) (Nat.le_of_ble_eq_true rfl) rfl (fun v w2 hp => ?_)
        obtain ⟨rfl, rfl⟩ := hp
        refine ⟨rfl, ?_⟩
        by_cases hz : wf_fold c = 0
        · rw [show zf_code (wf_fold c) = -1 from if_pos hz]
          refine zr_istore_n dText_append_37 (by decide) ?_
          refine zr_iload_n dText_append_38 rfl ?_
          refine zr_iconst (v := (-1)) dText_append_39 (by decide) ?_
          refine zr_icmp_ne (tgt := 51) dText_append_40 (by decide) (fun h40 => ?_) (fun h40 => ?_)
          · exact absurd rfl h40
          · refine zr_aload_n dText_append_43 rfl rfl ?_
            refine zr_iconst (v := nI 0) dText_append_44 (by decide) ?_
            refine zr_putf f_Text_22 dText_append_45 rfl (Nat.le_of_ble_eq_true rfl) (fun _ => rfl) (fun _ => rfl) ?_
            refine zr_goto (tgt := 56) dText_append_48 (by decide) ?_
            refine zr_iconst (v := (1)) dText_append_56 (by decide) ?_
            exact zr_ireturn dText_append_57 rfl rfl (⟨congrArg (fun x => some (Value.int x)) (zw_b1 hin).symm, tw, by rw [hz]; rfl, by rw [hz]; exact htw⟩)
        · rw [show zf_code (wf_fold c) = nI (wf_fold c) from if_neg hz]
          refine zr_istore_n dText_append_37 (by decide) ?_
          refine zr_iload_n dText_append_38 rfl ?_
          refine zr_iconst (v := (-1)) dText_append_39 (by decide) ?_
          refine zr_icmp_ne (tgt := 51) dText_append_40 (by decide) (fun h40 => ?_) (fun h40 => ?_)
          · refine zr_aload_n dText_append_51 rfl rfl ?_
            refine zr_iload_n dText_append_52 rfl ?_
            refine zr_invV (c_Text_lengthenRun (m := len) ⟨by omega, wf_fold_lt c⟩ hok (by omega) hr htw) m_Text_lengthenRun k_Text_31 v_Text_lengthenRun rfl rfl dText_append_53 rfl (Nat.le_of_ble_eq_true rfl) (by decide) (Nat.le_of_ble_eq_true rfl) rfl (fun v w2 hp => ?_)
            obtain ⟨rfl, tw2, rfl, ht2⟩ := hp
            refine ⟨rfl, ?_⟩
            refine zr_iconst (v := (1)) dText_append_56 (by decide) ?_
            exact zr_ireturn dText_append_57 rfl rfl (⟨congrArg (fun x => some (Value.int x)) (zw_b1 hin).symm, tw2, rfl, ht2⟩)
          · exact absurd h40 (zf_ne1 (by have := wf_fold_lt c; omega))
      · refine zr_iconst (v := nI 0) dText_append_21 (by decide) ?_
        exact zr_ireturn dText_append_22 rfl rfl (⟨congrArg (fun x => some (Value.int x)) (zw_b0 (fun q => by omega)).symm, tw, by rw [show zf_key len s c = (len, s) from if_neg (fun q => by omega)], by rw [show zf_key len s c = (len, s) from if_neg (fun q => by omega)]; exact htw⟩)
