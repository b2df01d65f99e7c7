/-! the reference: its object at cell 25, its rows at 26 to 38 -/
abbrev zk_Mo (n ty wo ch : Nat) : zw_C := .inr (7, [.int (nI n), .ref 27, .int (nI ty), .ref 28, .ref 29, .int (nI wo), .ref 30, .ref 31, .ref 32, .int (nI ch), .ref 33, .ref 34, .ref 35, .ref 36, .ref 37, .ref 38, .ref 39])
def mr_ok (s : wt_S) (cu : Nat → Int64) (le : Nat → Int32) : Prop := (∀ i, i < s.1 → cu i = lN (we_b (s.2.1 i))) ∧ (∀ i, i < s.1 → ∀ j, j < 8 → le (8 * i + j) = nI ((s.2.1 i).getD j 0)) ∧ ∀ q, 8 * s.1 ≤ q → q < 160 → le q = 0
theorem wt_next0 {x : Nat → Nat} {k wo ln : Nat} {Wd : Nat → List Nat} (hs : wt_of x k = (wo, Wd, ln)) (h : wf_fold (x k) = 0) : wt_of x (k + 1) = (wo, Wd, 0) := by rw [wt_of, hs, wt_step, if_pos h]
theorem wt_next1 {x : Nat → Nat} {k wo ln : Nat} {Wd : Nat → List Nat} (hs : wt_of x k = (wo, Wd, ln)) (h : wf_fold (x k) ≠ 0) (hl : ln = 0) : wt_of x (k + 1) = (wo + 1, va_up Wd wo [wf_fold (x k)], 1) := by rw [wt_of, hs, wt_step, if_neg h]; exact if_pos hl
theorem wt_next2 {x : Nat → Nat} {k wo ln : Nat} {Wd : Nat → List Nat} (hs : wt_of x k = (wo, Wd, ln)) (h : wf_fold (x k) ≠ 0) (hl : ln ≠ 0) (h8 : ln < 8) : wt_of x (k + 1) = (wo, va_up Wd (wo - 1) (Wd (wo - 1) ++ [wf_fold (x k)]), ln + 1) := by rw [wt_of, hs, wt_step, if_neg h]; exact (if_neg hl).trans (if_pos h8)
theorem wt_next3 {x : Nat → Nat} {k wo ln : Nat} {Wd : Nat → List Nat} (hs : wt_of x k = (wo, Wd, ln)) (h : wf_fold (x k) ≠ 0) (h8 : 8 ≤ ln) : wt_of x (k + 1) = (wo, Wd, ln + 1) := by rw [wt_of, hs, wt_step, if_neg h]; exact (if_neg (show ¬ ln = 0 by omega)).trans (if_neg (show ¬ ln < 8 by omega))
theorem mr_128 (a : Nat) : (128 : Int64) * lN a = lN (128 * a) := lN_mul 128 a
theorem mr_new {wo ln c : Nat} {Wd : Nat → List Nat} {cu : Nat → Int64} {le : Nat → Int32} (h : mr_ok (wo, Wd, ln) cu le) (hw : wo < 20) : mr_ok (wo + 1, va_up Wd wo [c], 1) (vp_updL (vp_updL cu wo 0) wo (lN (128 * 0 + c))) (upd le (8 * wo + 0) (nI c)) := by
  obtain ⟨h1, h2, h3⟩ := h
  simp only at h1 h2 h3
  refine ⟨fun i hi => ?_, fun i hi j hj => ?_, fun q hq1 hq2 => ?_⟩
  · simp only at hi ⊢
    by_cases e : i = wo
    · subst e; rw [zf_upL]; simp [va_up, we_b]
    · rw [zf_upLn e, zf_upLn e, h1 i (by omega)]; simp [va_up, e]
  · simp only at hi ⊢
    by_cases e : i = wo
    · subst e
      by_cases e2 : j = 0
      · subst e2; rw [pk_us]; simp [va_up]
      · rw [pk_un (by omega), h3 _ (by omega) (by omega)]
        simp only [va_up, if_true]
        rw [show ([c] : List Nat).getD j 0 = 0 from by cases j with | zero => exact absurd rfl e2 | succ j => rfl]
        rfl
    · rw [pk_un (by omega), h2 i (by omega) j hj]; simp [va_up, e]
  · simp only at hq1
    rw [pk_un (by omega)]; exact h3 q (by omega) hq2
theorem mr_ext {wo ln c : Nat} {Wd : Nat → List Nat} {cu : Nat → Int64} {le : Nat → Int32} (h : mr_ok (wo, Wd, ln) cu le) (hw : 0 < wo) (hw2 : wo ≤ 20) (hl : ln < 8) (hlen : (Wd (wo - 1)).length = ln) : mr_ok (wo, va_up Wd (wo - 1) (Wd (wo - 1) ++ [c]), ln + 1) (vp_updL cu (wo - 1) (lN (128 * we_b (Wd (wo - 1)) + c))) (upd le (8 * (wo - 1) + ln) (nI c)) := by
  obtain ⟨h1, h2, h3⟩ := h
  simp only at h1 h2 h3
  refine ⟨fun i hi => ?_, fun i hi j hj => ?_, fun q hq1 hq2 => ?_⟩
  · simp only at hi ⊢
    by_cases e : i = wo - 1
    · subst e; rw [zf_upL, ← we_b_snoc]; simp [va_up]
    · rw [zf_upLn e, h1 i hi]; simp [va_up, e]
  · simp only at hi ⊢
    by_cases e : i = wo - 1
    · subst e
      simp only [va_up, if_true]
      by_cases e2 : j = ln
      · subst e2
        rw [pk_us]
        congr 1
        rw [List.getD_eq_getElem?_getD, List.getElem?_append_right (by omega), hlen, Nat.sub_self]
        rfl
      · rw [pk_un (by omega), h2 _ hi j hj]
        congr 1
        rw [List.getD_eq_getElem?_getD, List.getD_eq_getElem?_getD]
        by_cases e3 : j < ln
        · rw [List.getElem?_append_left (by omega)]
        · rw [List.getElem?_append_right (by omega), List.getElem?_eq_none (by omega), List.getElem?_eq_none (by simp; omega)]
    · rw [pk_un (by omega), h2 i hi j hj]; simp [va_up, e]
  · simp only at hq1
    rw [pk_un (by omega)]; exact h3 q (by omega) hq2
set_option maxHeartbeats 4000000 in
set_option maxRecDepth 100000 in
theorem c_Mo_init {G : zw_G} {c0 c1 c2 c3 c4 c5 c6 c7 c8 c9 c10 c11 c12 c13 c14 c15 c16 c17 c18 c19 c20 c21 c22 c23 c24 : zw_C} {x : Int32} : zw_Met G Y_Mo_init 1 13 2304 [.ref 26, .int x] ([c0, c1, c2, c3, c4, c5, c6, c7, c8, c9, c10, c11, c12, c13, c14, c15, c16, c17, c18, c19, c20, c21, c22, c23, c24, .inr (7, [.int 0, .null, .int 0, .null, .null, .int 0, .null, .null, .null, .int 0, .null, .null, .null, .null, .null, .null, .null])]) (zw_is none [c0, c1, c2, c3, c4, c5, c6, c7, c8, c9, c10, c11, c12, c13, c14, c15, c16, c17, c18, c19, c20, c21, c22, c23, c24, zk_Mo (zf_cls x) 0 0 0, zk_I 40 (fun _ => 0), zk_L 20 (fun _ => 0), zk_I 160 (fun _ => 0), zk_I 64 (fun _ => 0), zk_I 64 (fun _ => 0), zk_L 1280 (fun _ => 0), zk_I 24 (fun _ => 0), zk_I 24 (fun _ => 0), zk_I 24 (fun _ => 0), zk_I 24 (fun _ => 0), zk_L 480 (fun _ => 0), zk_I 50 (fun _ => 0), zk_I 50 (fun _ => 0)]) := by
  show zw_Z G Y_Mo_init _ _ _ 0 0 0 [some (.ref 26), some (.int x)] [] _
  refine zr_aload_n dMo_init_0 rfl rfl ?_
  refine zr_objInit o_Mo_1 t_oi t_oc dMo_init_1 (by decide) ?_
  refine zr_aload_n dMo_init_4 rfl rfl ?_
  refine zr_bipush (v := nI 40) dMo_init_5 (by decide) ?_
  refine zr_newI t_arrI dMo_init_7 (by decide) (by decide) ?_
  refine zr_top (v2 := .ref 27) rfl ?_
  refine zr_putF f_Mo_7 rfl dMo_init_9 rfl (Nat.le_of_ble_eq_true rfl) (fun _ => rfl) (fun _ => rfl) ?_
  refine zr_wld (w2 := [c0, c1, c2, c3, c4, c5, c6, c7, c8, c9, c10, c11, c12, c13, c14, c15, c16, c17, c18, c19, c20, c21, c22, c23, c24, .inr (7, [.int 0, .ref 27, .int 0, .null, .null, .int 0, .null, .null, .null, .int 0, .null, .null, .null, .null, .null, .null, .null]), zk_I 40 (fun _ => 0)]) rfl ?_
  refine zr_aload_n dMo_init_12 rfl rfl ?_
  refine zr_bipush (v := nI 20) dMo_init_13 (by decide) ?_
  refine zr_newL t_arrL dMo_init_15 (by decide) (by decide) ?_
  refine zr_top (v2 := .ref 28) rfl ?_
  refine zr_putF f_Mo_13 rfl dMo_init_17 rfl (Nat.le_of_ble_eq_true rfl) (fun _ => rfl) (fun _ => rfl) ?_
  refine zr_wld (w2 := [c0, c1, c2, c3, c4, c5, c6, c7, c8, c9, c10, c11, c12, c13, c14, c15, c16, c17, c18, c19, c20, c21, c22, c23, c24, .inr (7, [.int 0, .ref 27, .int 0, .ref 28, .null, .int 0, .null, .null, .null, .int 0, .null, .null, .null, .null, .null, .null, .null]), zk_I 40 (fun _ => 0), zk_L 20 (fun _ => 0)]) rfl ?_
  refine zr_aload_n dMo_init_20 rfl rfl ?_
  refine zr_sipush (v := nI 160) dMo_init_21 (by decide) ?_
  refine zr_newI t_arrI dMo_init_24 (by decide) (by decide) ?_
  refine zr_top (v2 := .ref 29) rfl ?_
  refine zr_putF f_Mo_17 rfl dMo_init_26 rfl (Nat.le_of_ble_eq_true rfl) (fun _ => rfl) (fun _ => rfl) ?_
  refine zr_wld (w2 := [c0, c1, c2, c3, c4, c5, c6, c7, c8, c9, c10, c11, c12, c13, c14, c15, c16, c17, c18, c19, c20, c21, c22, c23, c24, .inr (7, [.int 0, .ref 27, .int 0, .ref 28, .ref 29, .int 0, .null, .null, .null, .int 0, .null, .null, .null, .null, .null, .null, .null]), zk_I 40 (fun _ => 0), zk_L 20 (fun _ => 0), zk_I 160 (fun _ => 0)]) rfl ?_
  refine zr_aload_n dMo_init_29 rfl rfl ?_
  refine zr_bipush (v := nI 64) dMo_init_30 (by decide) ?_
  refine zr_newI t_arrI dMo_init_32 (by decide) (by decide) ?_
  refine zr_top (v2 := .ref 30) rfl ?_
  refine zr_putF f_Mo_20 rfl dMo_init_34 rfl (Nat.le_of_ble_eq_true rfl) (fun _ => rfl) (fun _ => rfl) ?_
  refine zr_wld (w2 := [c0, c1, c2, c3, c4, c5, c6, c7, c8, c9, c10, c11, c12, c13, c14, c15, c16, c17, c18, c19, c20, c21, c22, c23, c24, .inr (7, [.int 0, .ref 27, .int 0, .ref 28, .ref 29, .int 0, .ref 30, .null, .null, .int 0, .null, .null, .null, .null, .null, .null, .null]), zk_I 40 (fun _ => 0), zk_L 20 (fun _ => 0), zk_I 160 (fun _ => 0), zk_I 64 (fun _ => 0)]) rfl ?_
  refine zr_aload_n dMo_init_37 rfl rfl ?_
  refine zr_bipush (v := nI 64) dMo_init_38 (by decide) ?_
  refine zr_newI t_arrI dMo_init_40 (by decide) (by decide) ?_
  refine zr_top (v2 := .ref 31) rfl ?_
  refine zr_putF f_Mo_23 rfl dMo_init_42 rfl (Nat.le_of_ble_eq_true rfl) (fun _ => rfl) (fun _ => rfl) ?_
  refine zr_wld (w2 := [c0, c1, c2, c3, c4, c5, c6, c7, c8, c9, c10, c11, c12, c13, c14, c15, c16, c17, c18, c19, c20, c21, c22, c23, c24, .inr (7, [.int 0, .ref 27, .int 0, .ref 28, .ref 29, .int 0, .ref 30, .ref 31, .null, .int 0, .null, .null, .null, .null, .null, .null, .null]), zk_I 40 (fun _ => 0), zk_L 20 (fun _ => 0), zk_I 160 (fun _ => 0), zk_I 64 (fun _ => 0), zk_I 64 (fun _ => 0)]) rfl ?_
  refine zr_aload_n dMo_init_45 rfl rfl ?_
  refine zr_sipush (v := nI 1280) dMo_init_46 (by decide) ?_
  refine zr_newL t_arrL dMo_init_49 (by decide) (by decide) ?_
  refine zr_top (v2 := .ref 32) rfl ?_
  refine zr_putF f_Mo_26 rfl dMo_init_51 rfl (Nat.le_of_ble_eq_true rfl) (fun _ => rfl) (fun _ => rfl) ?_
  refine zr_wld (w2 := [c0, c1, c2, c3, c4, c5, c6, c7, c8, c9, c10, c11, c12, c13, c14, c15, c16, c17, c18, c19, c20, c21, c22, c23, c24, .inr (7, [.int 0, .ref 27, .int 0, .ref 28, .ref 29, .int 0, .ref 30, .ref 31, .ref 32, .int 0, .null, .null, .null, .null, .null, .null, .null]), zk_I 40 (fun _ => 0), zk_L 20 (fun _ => 0), zk_I 160 (fun _ => 0), zk_I 64 (fun _ => 0), zk_I 64 (fun _ => 0), zk_L 1280 (fun _ => 0)]) rfl ?_
  refine zr_aload_n dMo_init_54 rfl rfl ?_
  refine zr_bipush (v := nI 24) dMo_init_55 (by decide) ?_
  refine zr_newI t_arrI dMo_init_57 (by decide) (by decide) ?_
  refine zr_top (v2 := .ref 33) rfl ?_
  refine zr_putF f_Mo_29 rfl dMo_init_59 rfl (Nat.le_of_ble_eq_true rfl) (fun _ => rfl) (fun _ => rfl) ?_
  refine zr_wld (w2 := [c0, c1, c2, c3, c4, c5, c6, c7, c8, c9, c10, c11, c12, c13, c14, c15, c16, c17, c18, c19, c20, c21, c22, c23, c24, .inr (7, [.int 0, .ref 27, .int 0, .ref 28, .ref 29, .int 0, .ref 30, .ref 31, .ref 32, .int 0, .ref 33, .null, .null, .null, .null, .null, .null]), zk_I 40 (fun _ => 0), zk_L 20 (fun _ => 0), zk_I 160 (fun _ => 0), zk_I 64 (fun _ => 0), zk_I 64 (fun _ => 0), zk_L 1280 (fun _ => 0), zk_I 24 (fun _ => 0)]) rfl ?_
  refine zr_aload_n dMo_init_62 rfl rfl ?_
  refine zr_bipush (v := nI 24) dMo_init_63 (by decide) ?_
  refine zr_newI t_arrI dMo_init_65 (by decide) (by decide) ?_
  refine zr_top (v2 := .ref 34) rfl ?_
  refine zr_putF f_Mo_32 rfl dMo_init_67 rfl (Nat.le_of_ble_eq_true rfl) (fun _ => rfl) (fun _ => rfl) ?_
  refine zr_wld (w2 := [c0, c1, c2, c3, c4, c5, c6, c7, c8, c9, c10, c11, c12, c13, c14, c15, c16, c17, c18, c19, c20, c21, c22, c23, c24, .inr (7, [.int 0, .ref 27, .int 0, .ref 28, .ref 29, .int 0, .ref 30, .ref 31, .ref 32, .int 0, .ref 33, .ref 34, .null, .null, .null, .null, .null]), zk_I 40 (fun _ => 0), zk_L 20 (fun _ => 0), zk_I 160 (fun _ => 0), zk_I 64 (fun _ => 0), zk_I 64 (fun _ => 0), zk_L 1280 (fun _ => 0), zk_I 24 (fun _ => 0), zk_I 24 (fun _ => 0)]) rfl ?_
  refine zr_aload_n dMo_init_70 rfl rfl ?_
  refine zr_bipush (v := nI 24) dMo_init_71 (by decide) ?_
  refine zr_newI t_arrI dMo_init_73 (by decide) (by decide) ?_
  refine zr_top (v2 := .ref 35) rfl ?_
  refine zr_putF f_Mo_35 rfl dMo_init_75 rfl (Nat.le_of_ble_eq_true rfl) (fun _ => rfl) (fun _ => rfl) ?_
  refine zr_wld (w2 := [c0, c1, c2, c3, c4, c5, c6, c7, c8, c9, c10, c11, c12, c13, c14, c15, c16, c17, c18, c19, c20, c21, c22, c23, c24, .inr (7, [.int 0, .ref 27, .int 0, .ref 28, .ref 29, .int 0, .ref 30, .ref 31, .ref 32, .int 0, .ref 33, .ref 34, .ref 35, .null, .null, .null, .null]), zk_I 40 (fun _ => 0), zk_L 20 (fun _ => 0), zk_I 160 (fun _ => 0), zk_I 64 (fun _ => 0), zk_I 64 (fun _ => 0), zk_L 1280 (fun _ => 0), zk_I 24 (fun _ => 0), zk_I 24 (fun _ => 0), zk_I 24 (fun _ => 0)]) rfl ?_
  refine zr_aload_n dMo_init_78 rfl rfl ?_
  refine zr_bipush (v := nI 24) dMo_init_79 (by decide) ?_
  refine zr_newI t_arrI dMo_init_81 (by decide) (by decide) ?_
  refine zr_top (v2 := .ref 36) rfl ?_
  refine zr_putF f_Mo_38 rfl dMo_init_83 rfl (Nat.le_of_ble_eq_true rfl) (fun _ => rfl) (fun _ => rfl) ?_
  refine zr_wld (w2 := [c0, c1, c2, c3, c4, c5, c6, c7, c8, c9, c10, c11, c12, c13, c14, c15, c16, c17, c18, c19, c20, c21, c22, c23, c24, .inr (7, [.int 0, .ref 27, .int 0, .ref 28, .ref 29, .int 0, .ref 30, .ref 31, .ref 32, .int 0, .ref 33, .ref 34, .ref 35, .ref 36, .null, .null, .null]), zk_I 40 (fun _ => 0), zk_L 20 (fun _ => 0), zk_I 160 (fun _ => 0), zk_I 64 (fun _ => 0), zk_I 64 (fun _ => 0), zk_L 1280 (fun _ => 0), zk_I 24 (fun _ => 0), zk_I 24 (fun _ => 0), zk_I 24 (fun _ => 0), zk_I 24 (fun _ => 0)]) rfl ?_
  refine zr_aload_n dMo_init_86 rfl rfl ?_
  refine zr_sipush (v := nI 480) dMo_init_87 (by decide) ?_
  refine zr_newL t_arrL dMo_init_90 (by decide) (by decide) ?_
  refine zr_top (v2 := .ref 37) rfl ?_
  refine zr_putF f_Mo_41 rfl dMo_init_92 rfl (Nat.le_of_ble_eq_true rfl) (fun _ => rfl) (fun _ => rfl) ?_
  refine zr_wld (w2 := [c0, c1, c2, c3, c4, c5, c6, c7, c8, c9, c10, c11, c12, c13, c14, c15, c16, c17, c18, c19, c20, c21, c22, c23, c24, .inr (7, [.int 0, .ref 27, .int 0, .ref 28, .ref 29, .int 0, .ref 30, .ref 31, .ref 32, .int 0, .ref 33, .ref 34, .ref 35, .ref 36, .ref 37, .null, .null]), zk_I 40 (fun _ => 0), zk_L 20 (fun _ => 0), zk_I 160 (fun _ => 0), zk_I 64 (fun _ => 0), zk_I 64 (fun _ => 0), zk_L 1280 (fun _ => 0), zk_I 24 (fun _ => 0), zk_I 24 (fun _ => 0), zk_I 24 (fun _ => 0), zk_I 24 (fun _ => 0), zk_L 480 (fun _ => 0)]) rfl ?_
  refine zr_aload_n dMo_init_95 rfl rfl ?_
  refine zr_bipush (v := nI 50) dMo_init_96 (by decide) ?_
  refine zr_newI t_arrI dMo_init_98 (by decide) (by decide) ?_
  refine zr_top (v2 := .ref 38) rfl ?_
  refine zr_putF f_Mo_44 rfl dMo_init_100 rfl (Nat.le_of_ble_eq_true rfl) (fun _ => rfl) (fun _ => rfl) ?_
  refine zr_wld (w2 := [c0, c1, c2, c3, c4, c5, c6, c7, c8, c9, c10, c11, c12, c13, c14, c15, c16, c17, c18, c19, c20, c21, c22, c23, c24, .inr (7, [.int 0, .ref 27, .int 0, .ref 28, .ref 29, .int 0, .ref 30, .ref 31, .ref 32, .int 0, .ref 33, .ref 34, .ref 35, .ref 36, .ref 37, .ref 38, .null]), zk_I 40 (fun _ => 0), zk_L 20 (fun _ => 0), zk_I 160 (fun _ => 0), zk_I 64 (fun _ => 0), zk_I 64 (fun _ => 0), zk_L 1280 (fun _ => 0), zk_I 24 (fun _ => 0), zk_I 24 (fun _ => 0), zk_I 24 (fun _ => 0), zk_I 24 (fun _ => 0), zk_L 480 (fun _ => 0), zk_I 50 (fun _ => 0)]) rfl ?_
  refine zr_aload_n dMo_init_103 rfl rfl ?_
  refine zr_bipush (v := nI 50) dMo_init_104 (by decide) ?_
  refine zr_newI t_arrI dMo_init_106 (by decide) (by decide) ?_
  refine zr_top (v2 := .ref 39) rfl ?_
  refine zr_putF f_Mo_47 rfl dMo_init_108 rfl (Nat.le_of_ble_eq_true rfl) (fun _ => rfl) (fun _ => rfl) ?_
  refine zr_wld (w2 := [c0, c1, c2, c3, c4, c5, c6, c7, c8, c9, c10, c11, c12, c13, c14, c15, c16, c17, c18, c19, c20, c21, c22, c23, c24, .inr (7, [.int 0, .ref 27, .int 0, .ref 28, .ref 29, .int 0, .ref 30, .ref 31, .ref 32, .int 0, .ref 33, .ref 34, .ref 35, .ref 36, .ref 37, .ref 38, .ref 39]), zk_I 40 (fun _ => 0), zk_L 20 (fun _ => 0), zk_I 160 (fun _ => 0), zk_I 64 (fun _ => 0), zk_I 64 (fun _ => 0), zk_L 1280 (fun _ => 0), zk_I 24 (fun _ => 0), zk_I 24 (fun _ => 0), zk_I 24 (fun _ => 0), zk_I 24 (fun _ => 0), zk_L 480 (fun _ => 0), zk_I 50 (fun _ => 0), zk_I 50 (fun _ => 0)]) rfl ?_
  refine zr_aload_n dMo_init_111 rfl rfl ?_
  refine zr_iload_n dMo_init_112 rfl ?_
  refine zr_iconst (v := nI 2) dMo_init_113 (by decide) ?_
  refine zr_icmp_ge (tgt := 121) dMo_init_114 (by decide) (fun h114 => ?_) (fun h114 => ?_)
  · refine zr_iload_n dMo_init_121 rfl ?_
    refine zr_iconst (v := nI 4) dMo_init_122 (by decide) ?_
    refine zr_icmp_le (tgt := 130) dMo_init_123 (by decide) (fun h123 => ?_) (fun h123 => ?_)
    · refine zr_iload_n dMo_init_130 rfl ?_
      refine zr_topI (y := nI (zf_cls x)) (by first | (unfold zf_cls; rw [if_pos (Int32.not_le.mp h114)]; done) | (unfold zf_cls; rw [if_neg (Int32.not_lt.mpr h114), if_pos (Int32.not_le.mp h123)]; done) | (exact ((zf_cls_in x).2.2 (Int32.not_lt.mpr h114) (Int32.not_lt.mpr h123)))) ?_
      refine zr_putf f_Mo_50 dMo_init_131 rfl (Nat.le_of_ble_eq_true rfl) (fun _ => rfl) (fun _ => rfl) ?_
      exact zr_return dMo_init_134 rfl (⟨rfl, rfl⟩)
    · refine zr_iconst (v := nI 4) dMo_init_126 (by decide) ?_
      refine zr_goto (tgt := 131) dMo_init_127 (by decide) ?_
      refine zr_topI (y := nI (zf_cls x)) (by first | (unfold zf_cls; rw [if_pos (Int32.not_le.mp h114)]; done) | (unfold zf_cls; rw [if_neg (Int32.not_lt.mpr h114), if_pos (Int32.not_le.mp h123)]; done) | (exact ((zf_cls_in x).2.2 (Int32.not_lt.mpr h114) (Int32.not_lt.mpr h123)))) ?_
      refine zr_putf f_Mo_50 dMo_init_131 rfl (Nat.le_of_ble_eq_true rfl) (fun _ => rfl) (fun _ => rfl) ?_
      exact zr_return dMo_init_134 rfl (⟨rfl, rfl⟩)
  · refine zr_iconst (v := nI 2) dMo_init_117 (by decide) ?_
    refine zr_goto (tgt := 131) dMo_init_118 (by decide) ?_
    refine zr_topI (y := nI (zf_cls x)) (by first | (unfold zf_cls; rw [if_pos (Int32.not_le.mp h114)]; done) | (unfold zf_cls; rw [if_neg (Int32.not_lt.mpr h114), if_pos (Int32.not_le.mp h123)]; done) | (exact ((zf_cls_in x).2.2 (Int32.not_lt.mpr h114) (Int32.not_lt.mpr h123)))) ?_
    refine zr_putf f_Mo_50 dMo_init_131 rfl (Nat.le_of_ble_eq_true rfl) (fun _ => rfl) (fun _ => rfl) ?_
    exact zr_return dMo_init_134 rfl (⟨rfl, rfl⟩)
set_option maxHeartbeats 4000000 in
set_option maxRecDepth 100000 in
theorem c_Mo_key {G : zw_G} {c0 c1 c2 c3 c4 c5 c6 c7 c8 c9 c10 c11 c12 c13 c14 c15 c16 c17 c18 c19 c20 c21 c22 c23 c24 : zw_C} {n ty wo ch : Nat} {tx le la sz wh wt ma bk lf rt : Nat → Int32} {cu co wr : Nat → Int64} {r : zw_W} {c : Nat} (hc : c < 65536) (hty : ty ≤ 40) : zw_Met G Y_Mo_key 0 0 0 [.ref 26, .int (nI c)] ((c0 :: c1 :: c2 :: c3 :: c4 :: c5 :: c6 :: c7 :: c8 :: c9 :: c10 :: c11 :: c12 :: c13 :: c14 :: c15 :: c16 :: c17 :: c18 :: c19 :: c20 :: c21 :: c22 :: c23 :: c24 :: zk_Mo n ty wo ch :: zk_I 40 tx :: zk_L 20 cu :: zk_I 160 le :: zk_I 64 la :: zk_I 64 sz :: zk_L 1280 co :: zk_I 24 wh :: zk_I 24 wt :: zk_I 24 ma :: zk_I 24 bk :: zk_L 480 wr :: zk_I 50 lf :: zk_I 50 rt :: r)) (zw_is (some (.int (zw_b (32 ≤ c ∧ c ≤ 126 ∧ ty < 40)))) (if 32 ≤ c ∧ c ≤ 126 ∧ ty < 40 then (c0 :: c1 :: c2 :: c3 :: c4 :: c5 :: c6 :: c7 :: c8 :: c9 :: c10 :: c11 :: c12 :: c13 :: c14 :: c15 :: c16 :: c17 :: c18 :: c19 :: c20 :: c21 :: c22 :: c23 :: c24 :: zk_Mo n (ty + 1) wo ch :: zk_I 40 (upd tx ty (nI c)) :: zk_L 20 cu :: zk_I 160 le :: zk_I 64 la :: zk_I 64 sz :: zk_L 1280 co :: zk_I 24 wh :: zk_I 24 wt :: zk_I 24 ma :: zk_I 24 bk :: zk_L 480 wr :: zk_I 50 lf :: zk_I 50 rt :: r) else (c0 :: c1 :: c2 :: c3 :: c4 :: c5 :: c6 :: c7 :: c8 :: c9 :: c10 :: c11 :: c12 :: c13 :: c14 :: c15 :: c16 :: c17 :: c18 :: c19 :: c20 :: c21 :: c22 :: c23 :: c24 :: zk_Mo n ty wo ch :: zk_I 40 tx :: zk_L 20 cu :: zk_I 160 le :: zk_I 64 la :: zk_I 64 sz :: zk_L 1280 co :: zk_I 24 wh :: zk_I 24 wt :: zk_I 24 ma :: zk_I 24 bk :: zk_L 480 wr :: zk_I 50 lf :: zk_I 50 rt :: r))) := by
  show zw_Z G Y_Mo_key _ _ _ 0 0 0 [some (.ref 26), some (.int (nI c))] [] _
  refine zr_iload_n dMo_key_0 rfl ?_
  refine zr_bipush (v := nI 32) dMo_key_1 (by decide) ?_
  refine zr_icmp_ltN (tgt := 21) (by omega) (by omega) dMo_key_3 (by decide) (fun h3 => ?_) (fun h3 => ?_)
  · refine zr_iconst (v := nI 0) dMo_key_21 (by decide) ?_
    exact zr_ireturn dMo_key_22 rfl rfl (⟨congrArg (fun x => some (Value.int x)) (zw_b0 (by omega)).symm, (if_neg (by omega)).symm⟩)
  · refine zr_iload_n dMo_key_6 rfl ?_
    refine zr_bipush (v := nI 126) dMo_key_7 (by decide) ?_
    refine zr_icmp_gtN (tgt := 21) (by omega) (by omega) dMo_key_9 (by decide) (fun h9 => ?_) (fun h9 => ?_)
    · refine zr_iconst (v := nI 0) dMo_key_21 (by decide) ?_
      exact zr_ireturn dMo_key_22 rfl rfl (⟨congrArg (fun x => some (Value.int x)) (zw_b0 (by omega)).symm, (if_neg (by omega)).symm⟩)
    · refine zr_aload_n dMo_key_12 rfl rfl ?_
      refine zr_getf g_Mo_54 dMo_key_13 rfl rfl ?_
      refine zr_bipush (v := nI 40) dMo_key_16 (by decide) ?_
      refine zr_icmp_neN (tgt := 23) (by omega) (by omega) dMo_key_18 (by decide) (fun h18 => ?_) (fun h18 => ?_)
      · refine zr_aload_n dMo_key_23 rfl rfl ?_
        refine zr_getf g_Mo_7 dMo_key_24 rfl rfl ?_
        refine zr_aload_n dMo_key_27 rfl rfl ?_
        refine zr_getf g_Mo_54 dMo_key_28 rfl rfl ?_
        refine zr_iload_n dMo_key_31 rfl ?_
        refine zr_iast dMo_key_32 rfl (by omega) (by decide) ?_
        refine zr_aload_n dMo_key_33 rfl rfl ?_
        refine zr_dup dMo_key_34 rfl ?_
        refine zr_getf g_Mo_54 dMo_key_35 rfl rfl ?_
        refine zr_iconst (v := nI 1) dMo_key_38 (by decide) ?_
        refine zr_iaddN dMo_key_39 ?_
        refine zr_putf f_Mo_54 dMo_key_40 rfl (Nat.le_of_ble_eq_true rfl) (fun _ => rfl) (fun _ => rfl) ?_
        refine zr_iconst (v := nI 1) dMo_key_43 (by decide) ?_
        exact zr_ireturn dMo_key_44 rfl rfl (⟨congrArg (fun x => some (Value.int x)) (zw_b1 (by omega)).symm, (if_pos (by omega)).symm⟩)
      · refine zr_iconst (v := nI 0) dMo_key_21 (by decide) ?_
        exact zr_ireturn dMo_key_22 rfl rfl (⟨congrArg (fun x => some (Value.int x)) (zw_b0 (by omega)).symm, (if_neg (by omega)).symm⟩)
set_option maxHeartbeats 4000000 in
set_option maxRecDepth 100000 in
theorem c_Mo_clear {G : zw_G} {c0 c1 c2 c3 c4 c5 c6 c7 c8 c9 c10 c11 c12 c13 c14 c15 c16 c17 c18 c19 c20 c21 c22 c23 c24 : zw_C} {n ty wo ch : Nat} {tx le la sz wh wt ma bk lf rt : Nat → Int32} {cu co wr : Nat → Int64} {r : zw_W} : zw_Met G Y_Mo_clear 0 0 0 [.ref 26] ((c0 :: c1 :: c2 :: c3 :: c4 :: c5 :: c6 :: c7 :: c8 :: c9 :: c10 :: c11 :: c12 :: c13 :: c14 :: c15 :: c16 :: c17 :: c18 :: c19 :: c20 :: c21 :: c22 :: c23 :: c24 :: zk_Mo n ty wo ch :: zk_I 40 tx :: zk_L 20 cu :: zk_I 160 le :: zk_I 64 la :: zk_I 64 sz :: zk_L 1280 co :: zk_I 24 wh :: zk_I 24 wt :: zk_I 24 ma :: zk_I 24 bk :: zk_L 480 wr :: zk_I 50 lf :: zk_I 50 rt :: r)) (zw_is (some (.int (nI ty))) (c0 :: c1 :: c2 :: c3 :: c4 :: c5 :: c6 :: c7 :: c8 :: c9 :: c10 :: c11 :: c12 :: c13 :: c14 :: c15 :: c16 :: c17 :: c18 :: c19 :: c20 :: c21 :: c22 :: c23 :: c24 :: zk_Mo n 0 wo ch :: zk_I 40 tx :: zk_L 20 cu :: zk_I 160 le :: zk_I 64 la :: zk_I 64 sz :: zk_L 1280 co :: zk_I 24 wh :: zk_I 24 wt :: zk_I 24 ma :: zk_I 24 bk :: zk_L 480 wr :: zk_I 50 lf :: zk_I 50 rt :: r)) := by
  show zw_Z G Y_Mo_clear _ _ _ 0 0 0 [some (.ref 26), none] [] _
  refine zr_aload_n dMo_clear_0 rfl rfl ?_
  refine zr_getf g_Mo_54 dMo_clear_1 rfl rfl ?_
  refine zr_istore_n dMo_clear_4 (by decide) ?_
  refine zr_aload_n dMo_clear_5 rfl rfl ?_
  refine zr_iconst (v := nI 0) dMo_clear_6 (by decide) ?_
  refine zr_putf f_Mo_54 dMo_clear_7 rfl (Nat.le_of_ble_eq_true rfl) (fun _ => rfl) (fun _ => rfl) ?_
  refine zr_iload_n dMo_clear_10 rfl ?_
  exact zr_ireturn dMo_clear_11 rfl rfl (⟨rfl, rfl⟩)
set_option maxHeartbeats 4000000 in
set_option maxRecDepth 100000 in
theorem c_Mo_plain {G : zw_G} {w : zw_W} {c : Nat} (hc : c < 65536) : zw_Met G Y_Mo_plain 0 0 0 [.int (nI c)] (w) (zw_is (some (.int (nI (wf_fold c)))) w) := by
  show zw_Z G Y_Mo_plain _ _ _ 0 0 0 [some (.int (nI c))] [] _
  refine zr_iload_n dMo_plain_0 rfl ?_
  refine zr_bipush (v := nI 65) dMo_plain_1 (by decide) ?_
  refine zr_icmp_ltN (tgt := 19) (by omega) (by omega) dMo_plain_3 (by decide) (fun h3 => ?_) (fun h3 => ?_)
  · refine zr_iload_n dMo_plain_19 rfl ?_
    refine zr_bipush (v := nI 97) dMo_plain_20 (by decide) ?_
    refine zr_icmp_ltN (tgt := 31) (by omega) (by omega) dMo_plain_22 (by decide) (fun h22 => ?_) (fun h22 => ?_)
    · refine zr_iload_n dMo_plain_31 rfl ?_
      refine zr_bipush (v := nI 48) dMo_plain_32 (by decide) ?_
      refine zr_icmp_ltN (tgt := 47) (by omega) (by omega) dMo_plain_34 (by decide) (fun h34 => ?_) (fun h34 => ?_)
      · refine zr_iconst (v := nI 0) dMo_plain_47 (by decide) ?_
        exact zr_ireturn dMo_plain_48 rfl rfl (⟨congrArg (fun x => some (Value.int x)) (by unfold wf_fold; (repeat' split) <;> first | rfl | (exfalso; omega) | (congr 1; omega) | omega), rfl⟩)
      · refine zr_iload_n dMo_plain_37 rfl ?_
        refine zr_bipush (v := nI 57) dMo_plain_38 (by decide) ?_
        refine zr_icmp_gtN (tgt := 47) (by omega) (by omega) dMo_plain_40 (by decide) (fun h40 => ?_) (fun h40 => ?_)
        · refine zr_iconst (v := nI 0) dMo_plain_47 (by decide) ?_
          exact zr_ireturn dMo_plain_48 rfl rfl (⟨congrArg (fun x => some (Value.int x)) (by unfold wf_fold; (repeat' split) <;> first | rfl | (exfalso; omega) | (congr 1; omega) | omega), rfl⟩)
        · refine zr_iload_n dMo_plain_43 rfl ?_
          refine zr_goto (tgt := 48) dMo_plain_44 (by decide) ?_
          exact zr_ireturn dMo_plain_48 rfl rfl (⟨congrArg (fun x => some (Value.int x)) (by unfold wf_fold; (repeat' split) <;> first | rfl | (exfalso; omega) | (congr 1; omega) | omega), rfl⟩)
    · refine zr_iload_n dMo_plain_25 rfl ?_
      refine zr_bipush (v := nI 122) dMo_plain_26 (by decide) ?_
      refine zr_icmp_leN (tgt := 43) (by omega) (by omega) dMo_plain_28 (by decide) (fun h28 => ?_) (fun h28 => ?_)
      · refine zr_iload_n dMo_plain_43 rfl ?_
        refine zr_goto (tgt := 48) dMo_plain_44 (by decide) ?_
        exact zr_ireturn dMo_plain_48 rfl rfl (⟨congrArg (fun x => some (Value.int x)) (by unfold wf_fold; (repeat' split) <;> first | rfl | (exfalso; omega) | (congr 1; omega) | omega), rfl⟩)
      · refine zr_iload_n dMo_plain_31 rfl ?_
        refine zr_bipush (v := nI 48) dMo_plain_32 (by decide) ?_
        refine zr_icmp_ltN (tgt := 47) (by omega) (by omega) dMo_plain_34 (by decide) (fun h34 => ?_) (fun h34 => ?_)
        · refine zr_iconst (v := nI 0) dMo_plain_47 (by decide) ?_
          exact zr_ireturn dMo_plain_48 rfl rfl (⟨congrArg (fun x => some (Value.int x)) (by unfold wf_fold; (repeat' split) <;> first | rfl | (exfalso; omega) | (congr 1; omega) | omega), rfl⟩)
        · refine zr_iload_n dMo_plain_37 rfl ?_
          refine zr_bipush (v := nI 57) dMo_plain_38 (by decide) ?_
          refine zr_icmp_gtN (tgt := 47) (by omega) (by omega) dMo_plain_40 (by decide) (fun h40 => ?_) (fun h40 => ?_)
          · refine zr_iconst (v := nI 0) dMo_plain_47 (by decide) ?_
            exact zr_ireturn dMo_plain_48 rfl rfl (⟨congrArg (fun x => some (Value.int x)) (by unfold wf_fold; (repeat' split) <;> first | rfl | (exfalso; omega) | (congr 1; omega) | omega), rfl⟩)
          · refine zr_iload_n dMo_plain_43 rfl ?_
            refine zr_goto (tgt := 48) dMo_plain_44 (by decide) ?_
            exact zr_ireturn dMo_plain_48 rfl rfl (⟨congrArg (fun x => some (Value.int x)) (by unfold wf_fold; (repeat' split) <;> first | rfl | (exfalso; omega) | (congr 1; omega) | omega), rfl⟩)
  · refine zr_iload_n dMo_plain_6 rfl ?_
    refine zr_bipush (v := nI 90) dMo_plain_7 (by decide) ?_
    refine zr_icmp_gtN (tgt := 19) (by omega) (by omega) dMo_plain_9 (by decide) (fun h9 => ?_) (fun h9 => ?_)
    · refine zr_iload_n dMo_plain_19 rfl ?_
      refine zr_bipush (v := nI 97) dMo_plain_20 (by decide) ?_
      refine zr_icmp_ltN (tgt := 31) (by omega) (by omega) dMo_plain_22 (by decide) (fun h22 => ?_) (fun h22 => ?_)
      · refine zr_iload_n dMo_plain_31 rfl ?_
        refine zr_bipush (v := nI 48) dMo_plain_32 (by decide) ?_
        refine zr_icmp_ltN (tgt := 47) (by omega) (by omega) dMo_plain_34 (by decide) (fun h34 => ?_) (fun h34 => ?_)
        · refine zr_iconst (v := nI 0) dMo_plain_47 (by decide) ?_
          exact zr_ireturn dMo_plain_48 rfl rfl (⟨congrArg (fun x => some (Value.int x)) (by unfold wf_fold; (repeat' split) <;> first | rfl | (exfalso; omega) | (congr 1; omega) | omega), rfl⟩)
        · refine zr_iload_n dMo_plain_37 rfl ?_
          refine zr_bipush (v := nI 57) dMo_plain_38 (by decide) ?_
          refine zr_icmp_gtN (tgt := 47) (by omega) (by omega) dMo_plain_40 (by decide) (fun h40 => ?_) (fun h40 => ?_)
          · refine zr_iconst (v := nI 0) dMo_plain_47 (by decide) ?_
            exact zr_ireturn dMo_plain_48 rfl rfl (⟨congrArg (fun x => some (Value.int x)) (by unfold wf_fold; (repeat' split) <;> first | rfl | (exfalso; omega) | (congr 1; omega) | omega), rfl⟩)
          · refine zr_iload_n dMo_plain_43 rfl ?_
            refine zr_goto (tgt := 48) dMo_plain_44 (by decide) ?_
            exact zr_ireturn dMo_plain_48 rfl rfl (⟨congrArg (fun x => some (Value.int x)) (by unfold wf_fold; (repeat' split) <;> first | rfl | (exfalso; omega) | (congr 1; omega) | omega), rfl⟩)
      · refine zr_iload_n dMo_plain_25 rfl ?_
        refine zr_bipush (v := nI 122) dMo_plain_26 (by decide) ?_
        refine zr_icmp_leN (tgt := 43) (by omega) (by omega) dMo_plain_28 (by decide) (fun h28 => ?_) (fun h28 => ?_)
        · refine zr_iload_n dMo_plain_43 rfl ?_
          refine zr_goto (tgt := 48) dMo_plain_44 (by decide) ?_
          exact zr_ireturn dMo_plain_48 rfl rfl (⟨congrArg (fun x => some (Value.int x)) (by unfold wf_fold; (repeat' split) <;> first | rfl | (exfalso; omega) | (congr 1; omega) | omega), rfl⟩)
        · refine zr_iload_n dMo_plain_31 rfl ?_
          refine zr_bipush (v := nI 48) dMo_plain_32 (by decide) ?_
          refine zr_icmp_ltN (tgt := 47) (by omega) (by omega) dMo_plain_34 (by decide) (fun h34 => ?_) (fun h34 => ?_)
          · refine zr_iconst (v := nI 0) dMo_plain_47 (by decide) ?_
            exact zr_ireturn dMo_plain_48 rfl rfl (⟨congrArg (fun x => some (Value.int x)) (by unfold wf_fold; (repeat' split) <;> first | rfl | (exfalso; omega) | (congr 1; omega) | omega), rfl⟩)
          · refine zr_iload_n dMo_plain_37 rfl ?_
            refine zr_bipush (v := nI 57) dMo_plain_38 (by decide) ?_
            refine zr_icmp_gtN (tgt := 47) (by omega) (by omega) dMo_plain_40 (by decide) (fun h40 => ?_) (fun h40 => ?_)
            · refine zr_iconst (v := nI 0) dMo_plain_47 (by decide) ?_
              exact zr_ireturn dMo_plain_48 rfl rfl (⟨congrArg (fun x => some (Value.int x)) (by unfold wf_fold; (repeat' split) <;> first | rfl | (exfalso; omega) | (congr 1; omega) | omega), rfl⟩)
            · refine zr_iload_n dMo_plain_43 rfl ?_
              refine zr_goto (tgt := 48) dMo_plain_44 (by decide) ?_
              exact zr_ireturn dMo_plain_48 rfl rfl (⟨congrArg (fun x => some (Value.int x)) (by unfold wf_fold; (repeat' split) <;> first | rfl | (exfalso; omega) | (congr 1; omega) | omega), rfl⟩)
    · refine zr_iload_n dMo_plain_12 rfl ?_
      refine zr_bipush (v := nI 32) dMo_plain_13 (by decide) ?_
      refine zr_iaddN dMo_plain_15 ?_
      refine zr_goto (tgt := 48) dMo_plain_16 (by decide) ?_
      exact zr_ireturn dMo_plain_48 rfl rfl (⟨congrArg (fun x => some (Value.int x)) (by unfold wf_fold; (repeat' split) <;> first | rfl | (exfalso; omega) | (congr 1; omega) | omega), rfl⟩)
theorem wt_run_le (x : Nat → Nat) (k : Nat) : (wt_of x k).2.2 ≤ k := by
  induction k with
  | zero => exact Nat.le_refl _
  | succ k ih =>
    rw [wt_of]
    unfold wt_step
    split
    · exact Nat.zero_le _
    · split
      · simp
      · split <;> (simp only; omega)
set_option maxHeartbeats 4000000 in
set_option maxRecDepth 100000 in
theorem c_Mo_read {G : zw_G} {c0 c1 c2 c3 c4 c5 c6 c7 c8 c9 c10 c11 c12 c13 c14 c15 c16 c17 c18 c19 c20 c21 c22 c23 c24 : zw_C} {n ty wo ch : Nat} {tx le la sz wh wt ma bk lf rt : Nat → Int32} {cu co wr : Nat → Int64} {r : zw_W} {x : Nat → Nat} (hty : ty ≤ 40) (hx : ∀ i, i < ty → tx i = nI (x i)) (hx16 : ∀ i, i < ty → x i < 65536) : zw_Met G Y_Mo_read 1 0 0 [.ref 26] (c0 :: c1 :: c2 :: c3 :: c4 :: c5 :: c6 :: c7 :: c8 :: c9 :: c10 :: c11 :: c12 :: c13 :: c14 :: c15 :: c16 :: c17 :: c18 :: c19 :: c20 :: c21 :: c22 :: c23 :: c24 :: zk_Mo n ty wo ch :: zk_I 40 tx :: zk_L 20 cu :: zk_I 160 le :: zk_I 64 la :: zk_I 64 sz :: zk_L 1280 co :: zk_I 24 wh :: zk_I 24 wt :: zk_I 24 ma :: zk_I 24 bk :: zk_L 480 wr :: zk_I 50 lf :: zk_I 50 rt :: r) (fun v w2 => v = none ∧ ∃ cu2 le2, w2 = (c0 :: c1 :: c2 :: c3 :: c4 :: c5 :: c6 :: c7 :: c8 :: c9 :: c10 :: c11 :: c12 :: c13 :: c14 :: c15 :: c16 :: c17 :: c18 :: c19 :: c20 :: c21 :: c22 :: c23 :: c24 :: zk_Mo n ty (wt_of x ty).1 ch :: zk_I 40 tx :: zk_L 20 cu2 :: zk_I 160 le2 :: zk_I 64 la :: zk_I 64 sz :: zk_L 1280 co :: zk_I 24 wh :: zk_I 24 wt :: zk_I 24 ma :: zk_I 24 bk :: zk_L 480 wr :: zk_I 50 lf :: zk_I 50 rt :: r) ∧ mr_ok (wt_of x ty) cu2 le2) := by
  have key2 : ∀ k, k ≤ ty → ∀ cu1 le1, mr_ok (wt_of x k) cu1 le1 → zw_Z G Y_Mo_read (zw_R 1 0 0) (fun _ => True) (zw_Q G 0 0 (fun v w2 => v = none ∧ ∃ cu2 le2, w2 = (c0 :: c1 :: c2 :: c3 :: c4 :: c5 :: c6 :: c7 :: c8 :: c9 :: c10 :: c11 :: c12 :: c13 :: c14 :: c15 :: c16 :: c17 :: c18 :: c19 :: c20 :: c21 :: c22 :: c23 :: c24 :: zk_Mo n ty (wt_of x ty).1 ch :: zk_I 40 tx :: zk_L 20 cu2 :: zk_I 160 le2 :: zk_I 64 la :: zk_I 64 sz :: zk_L 1280 co :: zk_I 24 wh :: zk_I 24 wt :: zk_I 24 ma :: zk_I 24 bk :: zk_L 480 wr :: zk_I 50 lf :: zk_I 50 rt :: r) ∧ mr_ok (wt_of x ty) cu2 le2)) 0 0 31 [some (.ref 26), some (.int (nI (wt_of x k).2.2)), some (.int (nI k)), none] [] (c0 :: c1 :: c2 :: c3 :: c4 :: c5 :: c6 :: c7 :: c8 :: c9 :: c10 :: c11 :: c12 :: c13 :: c14 :: c15 :: c16 :: c17 :: c18 :: c19 :: c20 :: c21 :: c22 :: c23 :: c24 :: zk_Mo n ty (wt_of x k).1 ch :: zk_I 40 tx :: zk_L 20 cu1 :: zk_I 160 le1 :: zk_I 64 la :: zk_I 64 sz :: zk_L 1280 co :: zk_I 24 wh :: zk_I 24 wt :: zk_I 24 ma :: zk_I 24 bk :: zk_L 480 wr :: zk_I 50 lf :: zk_I 50 rt :: r) := by
    refine wz_up ty (fun k hk ih => ?_) ?_
    · intro cu1 le1 hmr
      rcases hs : wt_of x k with ⟨wo1, Wd, ln⟩
      have hwk := wt_of_ok x k
      rw [hs] at hmr hwk
      obtain ⟨w1, w2, w3⟩ := hwk
      simp only at w1 w2 w3 ⊢
      have hln : ln ≤ k := by have := wt_run_le x k; rw [hs] at this; exact this
      have hf := wf_fold_lt (x k)
      refine zr_iload_n dMo_read_31 rfl ?_
      refine zr_aload_n dMo_read_32 rfl rfl ?_
      refine zr_getf g_Mo_54 dMo_read_33 rfl rfl ?_
      refine zr_icmp_geN (tgt := 143) (by omega) (by omega) dMo_read_36 (by decide) (fun h36 => ?_) (fun h36 => ?_)
      · exfalso; omega
      · refine zr_aload_n dMo_read_39 rfl rfl ?_
        refine zr_getf g_Mo_7 dMo_read_40 rfl rfl ?_
        refine zr_iload_n dMo_read_43 rfl ?_
        refine zr_iald dMo_read_44 rfl (by omega) (by decide) ?_
        refine zr_topI (hx k hk) ?_
        refine zr_invS (c_Mo_plain (hx16 k hk)) m_Mo_plain k_Mo_60 (s_Mo_plain) dMo_read_45 rfl (Nat.le_of_ble_eq_true rfl) (by decide) (Nat.le_of_ble_eq_true rfl) rfl (fun v w2 hp => ?_)
        obtain ⟨rfl, rfl⟩ := hp
        refine ⟨rfl, ?_⟩
        refine zr_istore_n dMo_read_48 (by decide) ?_
        refine zr_iload_n dMo_read_49 rfl ?_
        refine zr_if_neN (tgt := 58) (by omega) dMo_read_50 (by decide) (fun h50 => ?_) (fun h50 => ?_)
        · refine zr_iload_n dMo_read_58 rfl ?_
          refine zr_if_neN (tgt := 82) (by omega) dMo_read_59 (by decide) (fun h59 => ?_) (fun h59 => ?_)
          · rw [if_neg h59] at w1
            obtain ⟨w4, w5⟩ := w3 (by omega)
            refine zr_iload_n dMo_read_82 rfl ?_
            refine zr_bipush (v := nI 8) dMo_read_83 (by decide) ?_
            refine zr_icmp_geN (tgt := 134) (by omega) (by omega) dMo_read_85 (by decide) (fun h85 => ?_) (fun h85 => ?_)
            · rw [wt_next3 hs h50 h85] at ih
              refine zr_iinc (v := nI (ln + 1)) dMo_read_134 rfl (nI_1 _) (by decide) ?_
              refine zr_iinc (v := nI (k + 1)) dMo_read_137 rfl (nI_1 _) (by decide) ?_
              refine zr_goto (tgt := 31) dMo_read_140 (by decide) ?_
              first | exact zr_mask [true, true, true, false] (ih _ _ ⟨hmr.1, hmr.2.1, hmr.2.2⟩) | exact zr_mask [true, true, true, false] (ih _ _ (mr_ext hmr w4 (by omega) h85 w5))
            · rw [wt_next2 hs h50 h59 h85] at ih
              rw [if_pos h85] at w5
              refine zr_aload_n dMo_read_88 rfl rfl ?_
              refine zr_getf g_Mo_17 dMo_read_89 rfl rfl ?_
              refine zr_bipush (v := nI 8) dMo_read_92 (by decide) ?_
              refine zr_aload_n dMo_read_94 rfl rfl ?_
              refine zr_getf g_Mo_57 dMo_read_95 rfl rfl ?_
              refine zr_iconst (v := nI 1) dMo_read_98 (by decide) ?_
              refine zr_isubN (by omega) dMo_read_99 ?_
              refine zr_imulN dMo_read_100 ?_
              refine zr_iload_n dMo_read_101 rfl ?_
              refine zr_iaddN dMo_read_102 ?_
              refine zr_iload_n dMo_read_103 rfl ?_
              refine zr_iast dMo_read_104 rfl (by omega) (by decide) ?_
              refine zr_aload_n dMo_read_105 rfl rfl ?_
              refine zr_getf g_Mo_13 dMo_read_106 rfl rfl ?_
              refine zr_aload_n dMo_read_109 rfl rfl ?_
              refine zr_getf g_Mo_57 dMo_read_110 rfl rfl ?_
              refine zr_iconst (v := nI 1) dMo_read_113 (by decide) ?_
              refine zr_isubN (by omega) dMo_read_114 ?_
              refine zr_ldc2 n_Mo_64 dMo_read_115 ?_
              refine zr_aload_n dMo_read_118 rfl rfl ?_
              refine zr_getf g_Mo_13 dMo_read_119 rfl rfl ?_
              refine zr_aload_n dMo_read_122 rfl rfl ?_
              refine zr_getf g_Mo_57 dMo_read_123 rfl rfl ?_
              refine zr_iconst (v := nI 1) dMo_read_126 (by decide) ?_
              refine zr_isubN (by omega) dMo_read_127 ?_
              refine zr_lald dMo_read_128 rfl (by omega) (by decide) ?_
              refine zr_topL (hmr.1 (wo1 - 1) (by simp only; omega)) ?_
              refine zr_lmul dMo_read_129 ?_
              refine zr_topL (mr_128 _) ?_
              refine zr_iload_n dMo_read_130 rfl ?_
              refine zr_i2l dMo_read_131 (nI_l (by omega)) ?_
              refine zr_ladd dMo_read_132 ?_
              refine zr_topL (lN_add _ _) ?_
              refine zr_last dMo_read_133 rfl (by omega) (by decide) ?_
              refine zr_iinc (v := nI (ln + 1)) dMo_read_134 rfl (nI_1 _) (by decide) ?_
              refine zr_iinc (v := nI (k + 1)) dMo_read_137 rfl (nI_1 _) (by decide) ?_
              refine zr_goto (tgt := 31) dMo_read_140 (by decide) ?_
              first | exact zr_mask [true, true, true, false] (ih _ _ ⟨hmr.1, hmr.2.1, hmr.2.2⟩) | exact zr_mask [true, true, true, false] (ih _ _ (mr_ext hmr w4 (by omega) h85 w5))
          · rw [wt_next1 hs h50 h59] at ih
            subst h59
            rw [if_pos rfl] at w1
            refine zr_aload_n dMo_read_62 rfl rfl ?_
            refine zr_getf g_Mo_13 dMo_read_63 rfl rfl ?_
            refine zr_aload_n dMo_read_66 rfl rfl ?_
            refine zr_getf g_Mo_57 dMo_read_67 rfl rfl ?_
            refine zr_lconst (v := 0) dMo_read_70 (by decide) ?_
            refine zr_last dMo_read_71 rfl (by omega) (by decide) ?_
            refine zr_aload_n dMo_read_72 rfl rfl ?_
            refine zr_dup dMo_read_73 rfl ?_
            refine zr_getf g_Mo_57 dMo_read_74 rfl rfl ?_
            refine zr_iconst (v := nI 1) dMo_read_77 (by decide) ?_
            refine zr_iaddN dMo_read_78 ?_
            refine zr_putf f_Mo_57 dMo_read_79 rfl (Nat.le_of_ble_eq_true rfl) (fun _ => rfl) (fun _ => rfl) ?_
            refine zr_iload_n dMo_read_82 rfl ?_
            refine zr_bipush (v := nI 8) dMo_read_83 (by decide) ?_
            refine zr_icmp_geN (tgt := 134) (by omega) (by omega) dMo_read_85 (by decide) (fun h85 => ?_) (fun h85 => ?_)
            · exfalso; omega
            · refine zr_aload_n dMo_read_88 rfl rfl ?_
              refine zr_getf g_Mo_17 dMo_read_89 rfl rfl ?_
              refine zr_bipush (v := nI 8) dMo_read_92 (by decide) ?_
              refine zr_aload_n dMo_read_94 rfl rfl ?_
              refine zr_getf g_Mo_57 dMo_read_95 rfl rfl ?_
              refine zr_iconst (v := nI 1) dMo_read_98 (by decide) ?_
              refine zr_isubN (by omega) dMo_read_99 ?_
              refine zr_imulN dMo_read_100 ?_
              refine zr_iload_n dMo_read_101 rfl ?_
              refine zr_iaddN dMo_read_102 ?_
              refine zr_iload_n dMo_read_103 rfl ?_
              rw [Nat.add_sub_cancel]
              refine zr_iast dMo_read_104 rfl (by omega) (by decide) ?_
              refine zr_aload_n dMo_read_105 rfl rfl ?_
              refine zr_getf g_Mo_13 dMo_read_106 rfl rfl ?_
              refine zr_aload_n dMo_read_109 rfl rfl ?_
              refine zr_getf g_Mo_57 dMo_read_110 rfl rfl ?_
              refine zr_iconst (v := nI 1) dMo_read_113 (by decide) ?_
              refine zr_isubN (by omega) dMo_read_114 ?_
              refine zr_ldc2 n_Mo_64 dMo_read_115 ?_
              refine zr_aload_n dMo_read_118 rfl rfl ?_
              refine zr_getf g_Mo_13 dMo_read_119 rfl rfl ?_
              refine zr_aload_n dMo_read_122 rfl rfl ?_
              refine zr_getf g_Mo_57 dMo_read_123 rfl rfl ?_
              refine zr_iconst (v := nI 1) dMo_read_126 (by decide) ?_
              refine zr_isubN (by omega) dMo_read_127 ?_
              refine zr_lald dMo_read_128 rfl (by omega) (by decide) ?_
              refine zr_topL (show vp_updL cu1 wo1 0 (wo1 + 1 - 1) = lN 0 from by rw [Nat.add_sub_cancel]; exact zf_upL) ?_
              refine zr_lmul dMo_read_129 ?_
              refine zr_topL (mr_128 _) ?_
              refine zr_iload_n dMo_read_130 rfl ?_
              refine zr_i2l dMo_read_131 (nI_l (by omega)) ?_
              refine zr_ladd dMo_read_132 ?_
              refine zr_topL (lN_add _ _) ?_
              rw [Nat.add_sub_cancel]
              refine zr_last dMo_read_133 rfl (by omega) (by decide) ?_
              refine zr_iinc (v := nI 1) dMo_read_134 rfl (by decide) (by decide) ?_
              refine zr_iinc (v := nI (k + 1)) dMo_read_137 rfl (nI_1 _) (by decide) ?_
              refine zr_goto (tgt := 31) dMo_read_140 (by decide) ?_
              exact zr_mask [true, true, true, false] (ih _ _ (mr_new hmr (by omega)))
        · rw [wt_next0 hs h50] at ih
          refine zr_iconst (v := nI 0) dMo_read_53 (by decide) ?_
          refine zr_istore_n dMo_read_54 (by decide) ?_
          refine zr_goto (tgt := 137) dMo_read_55 (by decide) ?_
          refine zr_iinc (v := nI (_ + 1)) dMo_read_137 rfl (nI_1 _) (by decide) ?_
          refine zr_goto (tgt := 31) dMo_read_140 (by decide) ?_
          exact zr_mask [true, true, true, false] (ih _ _ ⟨hmr.1, hmr.2.1, hmr.2.2⟩)
    · intro cu1 le1 hmr
      refine zr_iload_n dMo_read_31 rfl ?_
      refine zr_aload_n dMo_read_32 rfl rfl ?_
      refine zr_getf g_Mo_54 dMo_read_33 rfl rfl ?_
      refine zr_icmp_geN (tgt := 143) (by omega) (by omega) dMo_read_36 (by decide) (fun h36 => ?_) (fun h36 => ?_)
      · exact zr_return dMo_read_143 rfl (⟨rfl, cu1, le1, rfl, hmr⟩)
      · exfalso; omega
  have key1 : ∀ k, k ≤ 160 → zw_Z G Y_Mo_read (zw_R 1 0 0) (fun _ => True) (zw_Q G 0 0 (fun v w2 => v = none ∧ ∃ cu2 le2, w2 = (c0 :: c1 :: c2 :: c3 :: c4 :: c5 :: c6 :: c7 :: c8 :: c9 :: c10 :: c11 :: c12 :: c13 :: c14 :: c15 :: c16 :: c17 :: c18 :: c19 :: c20 :: c21 :: c22 :: c23 :: c24 :: zk_Mo n ty (wt_of x ty).1 ch :: zk_I 40 tx :: zk_L 20 cu2 :: zk_I 160 le2 :: zk_I 64 la :: zk_I 64 sz :: zk_L 1280 co :: zk_I 24 wh :: zk_I 24 wt :: zk_I 24 ma :: zk_I 24 bk :: zk_L 480 wr :: zk_I 50 lf :: zk_I 50 rt :: r) ∧ mr_ok (wt_of x ty) cu2 le2)) 0 0 9 [some (.ref 26), some (.int (nI 0)), some (.int (nI k)), none] [] (c0 :: c1 :: c2 :: c3 :: c4 :: c5 :: c6 :: c7 :: c8 :: c9 :: c10 :: c11 :: c12 :: c13 :: c14 :: c15 :: c16 :: c17 :: c18 :: c19 :: c20 :: c21 :: c22 :: c23 :: c24 :: zk_Mo n ty 0 ch :: zk_I 40 tx :: zk_L 20 cu :: zk_I 160 (fun j => if j < k then nI 0 else le j) :: zk_I 64 la :: zk_I 64 sz :: zk_L 1280 co :: zk_I 24 wh :: zk_I 24 wt :: zk_I 24 ma :: zk_I 24 bk :: zk_L 480 wr :: zk_I 50 lf :: zk_I 50 rt :: r) := by
    refine wz_up 160 (fun k hk ih => ?_) ?_
    · refine zr_iload_n dMo_read_9 rfl ?_
      refine zr_sipush (v := nI 160) dMo_read_10 (by decide) ?_
      refine zr_icmp_geN (tgt := 29) (by omega) (by omega) dMo_read_13 (by decide) (fun h13 => ?_) (fun h13 => ?_)
      · exfalso; omega
      · refine zr_aload_n dMo_read_16 rfl rfl ?_
        refine zr_getf g_Mo_17 dMo_read_17 rfl rfl ?_
        refine zr_iload_n dMo_read_20 rfl ?_
        refine zr_iconst (v := nI 0) dMo_read_21 (by decide) ?_
        refine zr_iast dMo_read_22 rfl (hk) (by decide) ?_
        refine zr_wld (w2 := (c0 :: c1 :: c2 :: c3 :: c4 :: c5 :: c6 :: c7 :: c8 :: c9 :: c10 :: c11 :: c12 :: c13 :: c14 :: c15 :: c16 :: c17 :: c18 :: c19 :: c20 :: c21 :: c22 :: c23 :: c24 :: zk_Mo n ty 0 ch :: zk_I 40 tx :: zk_L 20 cu :: zk_I 160 (fun j => if j < k + 1 then nI 0 else le j) :: zk_I 64 la :: zk_I 64 sz :: zk_L 1280 co :: zk_I 24 wh :: zk_I 24 wt :: zk_I 24 ma :: zk_I 24 bk :: zk_L 480 wr :: zk_I 50 lf :: zk_I 50 rt :: r)) (by rw [← zf_upI (d := fun _ => nI 0)]; rfl) ?_
        refine zr_iinc (v := nI (k + 1)) dMo_read_23 rfl (nI_1 _) (by decide) ?_
        refine zr_goto (tgt := 9) dMo_read_26 (by decide) ?_
        exact ih
    · refine zr_iload_n dMo_read_9 rfl ?_
      refine zr_sipush (v := nI 160) dMo_read_10 (by decide) ?_
      refine zr_icmp_geN (tgt := 29) (by omega) (by omega) dMo_read_13 (by decide) (fun h13 => ?_) (fun h13 => ?_)
      · refine zr_iconst (v := nI 0) dMo_read_29 (by decide) ?_
        refine zr_istore_n dMo_read_30 (by decide) ?_
        exact key2 0 (Nat.zero_le ty) _ _ ⟨fun i hi => absurd hi (Nat.not_lt_zero i), fun i hi => absurd hi (Nat.not_lt_zero i), fun q _ hq => if_pos hq⟩
      · exfalso; omega
  show zw_Z G Y_Mo_read _ _ _ 0 0 0 [some (.ref 26), none, none, none] [] _
  refine zr_aload_n dMo_read_0 rfl rfl ?_
  refine zr_iconst (v := nI 0) dMo_read_1 (by decide) ?_
  refine zr_putf f_Mo_57 dMo_read_2 rfl (Nat.le_of_ble_eq_true rfl) (fun _ => rfl) (fun _ => rfl) ?_
  refine zr_iconst (v := nI 0) dMo_read_5 (by decide) ?_
  refine zr_istore_n dMo_read_6 (by decide) ?_
  refine zr_iconst (v := nI 0) dMo_read_7 (by decide) ?_
  refine zr_istore_n dMo_read_8 (by decide) ?_
  refine zr_wld (w2 := (c0 :: c1 :: c2 :: c3 :: c4 :: c5 :: c6 :: c7 :: c8 :: c9 :: c10 :: c11 :: c12 :: c13 :: c14 :: c15 :: c16 :: c17 :: c18 :: c19 :: c20 :: c21 :: c22 :: c23 :: c24 :: zk_Mo n ty 0 ch :: zk_I 40 tx :: zk_L 20 cu :: zk_I 160 (fun j => if j < 0 then nI 0 else le j) :: zk_I 64 la :: zk_I 64 sz :: zk_L 1280 co :: zk_I 24 wh :: zk_I 24 wt :: zk_I 24 ma :: zk_I 24 bk :: zk_L 480 wr :: zk_I 50 lf :: zk_I 50 rt :: r)) (by rw [zf_if0 (d := fun _ => nI 0)]; rfl) ?_
  exact key1 0 (Nat.zero_le 160)
set_option maxHeartbeats 4000000 in
set_option maxRecDepth 100000 in
theorem c_Mo_words {G : zw_G} {c0 c1 c2 c3 c4 c5 c6 c7 c8 c9 c10 c11 c12 c13 c14 c15 c16 c17 c18 c19 c20 c21 c22 c23 c24 : zw_C} {n ty wo ch : Nat} {tx le la sz wh wt ma bk lf rt : Nat → Int32} {cu co wr : Nat → Int64} {r : zw_W} {x : Nat → Nat} (hty : ty ≤ 40) (hx : ∀ i, i < ty → tx i = nI (x i)) (hx16 : ∀ i, i < ty → x i < 65536) : zw_Met G Y_Mo_words 2 0 0 [.ref 26] (c0 :: c1 :: c2 :: c3 :: c4 :: c5 :: c6 :: c7 :: c8 :: c9 :: c10 :: c11 :: c12 :: c13 :: c14 :: c15 :: c16 :: c17 :: c18 :: c19 :: c20 :: c21 :: c22 :: c23 :: c24 :: zk_Mo n ty wo ch :: zk_I 40 tx :: zk_L 20 cu :: zk_I 160 le :: zk_I 64 la :: zk_I 64 sz :: zk_L 1280 co :: zk_I 24 wh :: zk_I 24 wt :: zk_I 24 ma :: zk_I 24 bk :: zk_L 480 wr :: zk_I 50 lf :: zk_I 50 rt :: r) (fun v w2 => v = some (.int (nI (wt_of x ty).1)) ∧ ∃ wo2 cu2 le2, w2 = (c0 :: c1 :: c2 :: c3 :: c4 :: c5 :: c6 :: c7 :: c8 :: c9 :: c10 :: c11 :: c12 :: c13 :: c14 :: c15 :: c16 :: c17 :: c18 :: c19 :: c20 :: c21 :: c22 :: c23 :: c24 :: zk_Mo n ty wo2 ch :: zk_I 40 tx :: zk_L 20 cu2 :: zk_I 160 le2 :: zk_I 64 la :: zk_I 64 sz :: zk_L 1280 co :: zk_I 24 wh :: zk_I 24 wt :: zk_I 24 ma :: zk_I 24 bk :: zk_L 480 wr :: zk_I 50 lf :: zk_I 50 rt :: r)) := by
  show zw_Z G Y_Mo_words _ _ _ 0 0 0 [some (.ref 26)] [] _
  refine zr_aload_n dMo_words_0 rfl rfl ?_
  refine zr_invV (c_Mo_read hty hx hx16) m_Mo_read k_Mo_66 v_Mo_read rfl rfl dMo_words_1 rfl (Nat.le_of_ble_eq_true rfl) (by decide) (Nat.le_of_ble_eq_true rfl) rfl (fun v w2 hp => ?_)
  obtain ⟨rfl, cu2, le2, rfl, hmr⟩ := hp
  refine ⟨rfl, ?_⟩
  refine zr_aload_n dMo_words_4 rfl rfl ?_
  refine zr_getf g_Mo_57 dMo_words_5 rfl rfl ?_
  exact zr_ireturn dMo_words_8 rfl rfl (⟨rfl, _, cu2, le2, rfl⟩)
def mo_letter (s : wt_S) (k i : Int32) : Int32 := if (¬ k < 0 ∧ k < nI s.1) ∧ (¬ i < 0 ∧ i < nI 8) then zf_code ((s.2.1 k.toNatClampNeg).getD i.toNatClampNeg 0) else -1
theorem zf_le7 {i : Int32} (h : ¬ nI 7 < i) : i < nI 8 := by
  have h1 := Int32.le_iff_toInt_le.mp (Int32.not_lt.mp h)
  rw [nI_toInt (by decide)] at h1
  apply Int32.lt_iff_toInt_lt.mpr
  rw [nI_toInt (by decide)]
  omega
theorem zf_gt7 {i : Int32} (h : nI 7 < i) : ¬ i < nI 8 := fun q => by
  have h1 := Int32.lt_iff_toInt_lt.mp h
  have h2 := Int32.lt_iff_toInt_lt.mp q
  rw [nI_toInt (by decide)] at h1 h2
  omega
theorem mo_getD {l : List Nat} (h : ∀ k ∈ l, 0 < k ∧ k < 128) (j : Nat) : l.getD j 0 < 128 := by
  rw [List.getD_eq_getElem?_getD]
  cases e : l[j]? with
  | none => simp
  | some v => exact (h v (List.mem_of_getElem? e)).2
set_option maxHeartbeats 4000000 in
set_option maxRecDepth 100000 in
theorem c_Mo_letter {G : zw_G} {c0 c1 c2 c3 c4 c5 c6 c7 c8 c9 c10 c11 c12 c13 c14 c15 c16 c17 c18 c19 c20 c21 c22 c23 c24 : zw_C} {n ty wo ch : Nat} {tx le la sz wh wt ma bk lf rt : Nat → Int32} {cu co wr : Nat → Int64} {r : zw_W} {x : Nat → Nat} (hty : ty ≤ 40) (hx : ∀ i, i < ty → tx i = nI (x i)) (hx16 : ∀ i, i < ty → x i < 65536) {k i : Int32} : zw_Met G Y_Mo_letter 2 0 0 [.ref 26, .int k, .int i] (c0 :: c1 :: c2 :: c3 :: c4 :: c5 :: c6 :: c7 :: c8 :: c9 :: c10 :: c11 :: c12 :: c13 :: c14 :: c15 :: c16 :: c17 :: c18 :: c19 :: c20 :: c21 :: c22 :: c23 :: c24 :: zk_Mo n ty wo ch :: zk_I 40 tx :: zk_L 20 cu :: zk_I 160 le :: zk_I 64 la :: zk_I 64 sz :: zk_L 1280 co :: zk_I 24 wh :: zk_I 24 wt :: zk_I 24 ma :: zk_I 24 bk :: zk_L 480 wr :: zk_I 50 lf :: zk_I 50 rt :: r) (fun v w2 => v = some (.int (mo_letter (wt_of x ty) k i)) ∧ ∃ wo2 cu2 le2, w2 = (c0 :: c1 :: c2 :: c3 :: c4 :: c5 :: c6 :: c7 :: c8 :: c9 :: c10 :: c11 :: c12 :: c13 :: c14 :: c15 :: c16 :: c17 :: c18 :: c19 :: c20 :: c21 :: c22 :: c23 :: c24 :: zk_Mo n ty wo2 ch :: zk_I 40 tx :: zk_L 20 cu2 :: zk_I 160 le2 :: zk_I 64 la :: zk_I 64 sz :: zk_L 1280 co :: zk_I 24 wh :: zk_I 24 wt :: zk_I 24 ma :: zk_I 24 bk :: zk_L 480 wr :: zk_I 50 lf :: zk_I 50 rt :: r)) := by
  show zw_Z G Y_Mo_letter _ _ _ 0 0 0 [some (.ref 26), some (.int k), some (.int i)] [] _
  refine zr_aload_n dMo_letter_0 rfl rfl ?_
  refine zr_invV (c_Mo_read hty hx hx16) m_Mo_read k_Mo_66 v_Mo_read rfl rfl dMo_letter_1 rfl (Nat.le_of_ble_eq_true rfl) (by decide) (Nat.le_of_ble_eq_true rfl) rfl (fun v w2 hp => ?_)
  obtain ⟨rfl, cu2, le2, rfl, hmr⟩ := hp
  refine ⟨rfl, ?_⟩
  refine zr_iload_n dMo_letter_4 rfl ?_
  refine zr_if_lt (tgt := 40) dMo_letter_5 (by decide) (fun h5 => ?_) (fun h5 => ?_)
  · have hv : mo_letter (wt_of x ty) k i = -1 := if_neg (fun q => q.1.1 h5)
    refine zr_iconst (v := (-1)) dMo_letter_40 (by decide) ?_
    exact zr_ireturn dMo_letter_41 rfl rfl (⟨congrArg (fun x => some (Value.int x)) hv.symm, _, cu2, le2, rfl⟩)
  · refine zr_iload_n dMo_letter_8 rfl ?_
    refine zr_aload_n dMo_letter_9 rfl rfl ?_
    refine zr_getf g_Mo_57 dMo_letter_10 rfl rfl ?_
    refine zr_icmp_ge (tgt := 40) dMo_letter_13 (by decide) (fun h13 => ?_) (fun h13 => ?_)
    · have hv : mo_letter (wt_of x ty) k i = -1 := if_neg (fun q => Int32.not_le.mpr q.1.2 h13)
      refine zr_iconst (v := (-1)) dMo_letter_40 (by decide) ?_
      exact zr_ireturn dMo_letter_41 rfl rfl (⟨congrArg (fun x => some (Value.int x)) hv.symm, _, cu2, le2, rfl⟩)
    · obtain ⟨jk, hjk, rfl⟩ := zf_rng (by have := wt_of_le x hty; omega) h5 (Int32.not_le.mp h13)
      refine zr_iload_n dMo_letter_16 rfl ?_
      refine zr_if_lt (tgt := 40) dMo_letter_17 (by decide) (fun h17 => ?_) (fun h17 => ?_)
      · have hv : mo_letter (wt_of x ty) (nI jk) i = -1 := if_neg (fun q => q.2.1 h17)
        refine zr_iconst (v := (-1)) dMo_letter_40 (by decide) ?_
        exact zr_ireturn dMo_letter_41 rfl rfl (⟨congrArg (fun x => some (Value.int x)) hv.symm, _, cu2, le2, rfl⟩)
      · refine zr_iload_n dMo_letter_20 rfl ?_
        refine zr_bipush (v := nI 7) dMo_letter_21 (by decide) ?_
        refine zr_icmp_gt (tgt := 40) dMo_letter_23 (by decide) (fun h23 => ?_) (fun h23 => ?_)
        · have hv : mo_letter (wt_of x ty) (nI jk) i = -1 := if_neg (fun q => zf_gt7 h23 q.2.2)
          refine zr_iconst (v := (-1)) dMo_letter_40 (by decide) ?_
          exact zr_ireturn dMo_letter_41 rfl rfl (⟨congrArg (fun x => some (Value.int x)) hv.symm, _, cu2, le2, rfl⟩)
        · have h8 : i < nI 8 := zf_le7 h23
          obtain ⟨ji, hji, rfl⟩ := zf_rng (by decide) h17 h8
          have hw20 := wt_of_le x hty
          have hv0 : mo_letter (wt_of x ty) (nI jk) (nI ji) = zf_code (((wt_of x ty).2.1 jk).getD ji 0) := (if_pos ⟨⟨h5, Int32.not_le.mp h13⟩, h17, h8⟩).trans (by rw [nI_clamp (by omega), nI_clamp (by omega)])
          refine zr_aload_n dMo_letter_26 rfl rfl ?_
          refine zr_getf g_Mo_17 dMo_letter_27 rfl rfl ?_
          refine zr_bipush (v := nI 8) dMo_letter_30 (by decide) ?_
          refine zr_iload_n dMo_letter_32 rfl ?_
          refine zr_imulN dMo_letter_33 ?_
          refine zr_iload_n dMo_letter_34 rfl ?_
          refine zr_iaddN dMo_letter_35 ?_
          refine zr_iald dMo_letter_36 rfl (by omega) (by decide) ?_
          refine zr_topI (hmr.2.1 jk hjk ji (by omega)) ?_
          refine zr_if_neN (tgt := 42) (by have := mo_getD (fun q hq => ((wt_of_ok x ty).2.1 jk hjk).2.2 q hq) ji; omega) dMo_letter_37 (by decide) (fun h37 => ?_) (fun h37 => ?_)
          · have hv : mo_letter (wt_of x ty) (nI jk) (nI ji) = nI _ := hv0.trans (if_neg h37)
            refine zr_aload_n dMo_letter_42 rfl rfl ?_
            refine zr_getf g_Mo_17 dMo_letter_43 rfl rfl ?_
            refine zr_bipush (v := nI 8) dMo_letter_46 (by decide) ?_
            refine zr_iload_n dMo_letter_48 rfl ?_
            refine zr_imulN dMo_letter_49 ?_
            refine zr_iload_n dMo_letter_50 rfl ?_
            refine zr_iaddN dMo_letter_51 ?_
            refine zr_iald dMo_letter_52 rfl (by omega) (by decide) ?_
            refine zr_topI (hmr.2.1 jk hjk ji (by omega)) ?_
            exact zr_ireturn dMo_letter_53 rfl rfl (⟨congrArg (fun x => some (Value.int x)) hv.symm, _, cu2, le2, rfl⟩)
          · have hv : mo_letter (wt_of x ty) (nI jk) (nI ji) = -1 := hv0.trans (if_pos h37)
            refine zr_iconst (v := (-1)) dMo_letter_40 (by decide) ?_
            exact zr_ireturn dMo_letter_41 rfl rfl (⟨congrArg (fun x => some (Value.int x)) hv.symm, _, cu2, le2, rfl⟩)
