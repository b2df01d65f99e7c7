/-! the reference: the vocabulary, the chances -/
def mo_df (co : Nat → Int64) : Nat → Nat → Int64 := fun d j => co (20 * d + j)
noncomputable def mo_voc (L Z : Nat → Nat) (co : Nat → Int64) (id k : Nat) : Nat := zv_cnt (fun d => 0 < L d) Z (mo_df co) id k
set_option maxHeartbeats 4000000 in
set_option maxRecDepth 100000 in
theorem c_Mo_isNew {G : zw_G} {c0 c1 c2 c3 c4 c5 c6 c7 c8 c9 c10 c11 c12 c13 c14 c15 c16 c17 c18 c19 c20 c21 c22 c23 c24 : zw_C} {n ty wo ch : Nat} {tx le la sz wh wt ma bk lf rt : Nat → Int32} {cu co wr : Nat → Int64} {r : zw_W} {L : Nat → Nat} (hla : ∀ i, i < 64 → la i = nI (L i) ∧ L i < 1000) {Z : Nat → Nat} (hsz : ∀ i, i < 64 → sz i = nI (Z i) ∧ Z i ≤ 20) {id k : Nat} (hid : id < 32) (hk : k < 20) : zw_Met G Y_Mo_isNew 0 0 0 [.ref 26, .int (nI id), .int (nI k)] (c0 :: c1 :: c2 :: c3 :: c4 :: c5 :: c6 :: c7 :: c8 :: c9 :: c10 :: c11 :: c12 :: c13 :: c14 :: c15 :: c16 :: c17 :: c18 :: c19 :: c20 :: c21 :: c22 :: c23 :: c24 :: zk_Mo n ty wo ch :: zk_I 40 tx :: zk_L 20 cu :: zk_I 160 le :: zk_I 64 la :: zk_I 64 sz :: zk_L 1280 co :: zk_I 24 wh :: zk_I 24 wt :: zk_I 24 ma :: zk_I 24 bk :: zk_L 480 wr :: zk_I 50 lf :: zk_I 50 rt :: r) (zw_is (some (.int (nI (zv_n (fun d => 0 < L d) Z (mo_df co) id k)))) (c0 :: c1 :: c2 :: c3 :: c4 :: c5 :: c6 :: c7 :: c8 :: c9 :: c10 :: c11 :: c12 :: c13 :: c14 :: c15 :: c16 :: c17 :: c18 :: c19 :: c20 :: c21 :: c22 :: c23 :: c24 :: zk_Mo n ty wo ch :: zk_I 40 tx :: zk_L 20 cu :: zk_I 160 le :: zk_I 64 la :: zk_I 64 sz :: zk_L 1280 co :: zk_I 24 wh :: zk_I 24 wt :: zk_I 24 ma :: zk_I 24 bk :: zk_L 480 wr :: zk_I 50 lf :: zk_I 50 rt :: r)) := by
  have keyo : ∀ d, d ≤ (id + 1) → (∀ d2, d2 < d → 0 < L d2 → ∀ j, j < (if d2 = id then k else Z d2) → co (20 * d2 + j) ≠ co (20 * id + k)) → zw_Z G Y_Mo_isNew (zw_R 0 0 0) (fun _ => True) (zw_Q G 0 0 (zw_is (some (.int (nI (zv_n (fun d => 0 < L d) Z (mo_df co) id k)))) (c0 :: c1 :: c2 :: c3 :: c4 :: c5 :: c6 :: c7 :: c8 :: c9 :: c10 :: c11 :: c12 :: c13 :: c14 :: c15 :: c16 :: c17 :: c18 :: c19 :: c20 :: c21 :: c22 :: c23 :: c24 :: zk_Mo n ty wo ch :: zk_I 40 tx :: zk_L 20 cu :: zk_I 160 le :: zk_I 64 la :: zk_I 64 sz :: zk_L 1280 co :: zk_I 24 wh :: zk_I 24 wt :: zk_I 24 ma :: zk_I 24 bk :: zk_L 480 wr :: zk_I 50 lf :: zk_I 50 rt :: r))) 0 0 15 [some (.ref 26), some (.int (nI id)), some (.int (nI k)), some (.long (co (20 * id + k))), none, some (.int (nI d)), none] [] (c0 :: c1 :: c2 :: c3 :: c4 :: c5 :: c6 :: c7 :: c8 :: c9 :: c10 :: c11 :: c12 :: c13 :: c14 :: c15 :: c16 :: c17 :: c18 :: c19 :: c20 :: c21 :: c22 :: c23 :: c24 :: zk_Mo n ty wo ch :: zk_I 40 tx :: zk_L 20 cu :: zk_I 160 le :: zk_I 64 la :: zk_I 64 sz :: zk_L 1280 co :: zk_I 24 wh :: zk_I 24 wt :: zk_I 24 ma :: zk_I 24 bk :: zk_L 480 wr :: zk_I 50 lf :: zk_I 50 rt :: r) := by
    refine wz_up (id + 1) (fun d hkd ih => ?_) ?_
    · intro hno
      refine zr_iload dMo_isNew_15 rfl ?_
      refine zr_iload_n dMo_isNew_17 rfl ?_
      refine zr_icmp_gtN (tgt := 88) (by omega) (by omega) dMo_isNew_18 (by decide) (fun h18 => ?_) (fun h18 => ?_)
      · exfalso; omega
      · refine zr_iconst (v := nI 0) dMo_isNew_21 (by decide) ?_
        refine zr_istore dMo_isNew_22 (by decide) ?_
        by_cases hLd : 0 < L d
        · obtain ⟨B, hBd⟩ : ∃ B, B = if d = id then k else Z d := ⟨_, rfl⟩
          have hB20 : B ≤ 20 := by
            rw [hBd]
            split
            · omega
            · exact (hsz d (by omega)).2
          have key : ∀ j, j ≤ B → (∀ j2, j2 < j → co (20 * d + j2) ≠ co (20 * id + k)) → zw_Z G Y_Mo_isNew (zw_R 0 0 0) (fun _ => True) (zw_Q G 0 0 (zw_is (some (.int (nI (zv_n (fun d => 0 < L d) Z (mo_df co) id k)))) (c0 :: c1 :: c2 :: c3 :: c4 :: c5 :: c6 :: c7 :: c8 :: c9 :: c10 :: c11 :: c12 :: c13 :: c14 :: c15 :: c16 :: c17 :: c18 :: c19 :: c20 :: c21 :: c22 :: c23 :: c24 :: zk_Mo n ty wo ch :: zk_I 40 tx :: zk_L 20 cu :: zk_I 160 le :: zk_I 64 la :: zk_I 64 sz :: zk_L 1280 co :: zk_I 24 wh :: zk_I 24 wt :: zk_I 24 ma :: zk_I 24 bk :: zk_L 480 wr :: zk_I 50 lf :: zk_I 50 rt :: r))) 0 0 24 [some (.ref 26), some (.int (nI id)), some (.int (nI k)), some (.long (co (20 * id + k))), none, some (.int (nI d)), some (.int (nI j))] [] (c0 :: c1 :: c2 :: c3 :: c4 :: c5 :: c6 :: c7 :: c8 :: c9 :: c10 :: c11 :: c12 :: c13 :: c14 :: c15 :: c16 :: c17 :: c18 :: c19 :: c20 :: c21 :: c22 :: c23 :: c24 :: zk_Mo n ty wo ch :: zk_I 40 tx :: zk_L 20 cu :: zk_I 160 le :: zk_I 64 la :: zk_I 64 sz :: zk_L 1280 co :: zk_I 24 wh :: zk_I 24 wt :: zk_I 24 ma :: zk_I 24 bk :: zk_L 480 wr :: zk_I 50 lf :: zk_I 50 rt :: r) := by
            refine wz_up B (fun j hkj ihj => ?_) ?_
            · intro hnj
              refine zr_aload_n dMo_isNew_24 rfl rfl ?_
              refine zr_getf g_Mo_20 dMo_isNew_25 rfl rfl ?_
              refine zr_iload dMo_isNew_28 rfl ?_
              refine zr_iald dMo_isNew_30 rfl (by omega) (by decide) ?_
              refine zr_topI (hla d (by omega)).1 ?_
              refine zr_if_leN (tgt := 82) (by have := (hla d (by omega)).2; omega) dMo_isNew_31 (by decide) (fun h31 => ?_) (fun h31 => ?_)
              · exact absurd h31 (by omega)
              · refine zr_iload dMo_isNew_34 rfl ?_
                refine zr_iload dMo_isNew_36 rfl ?_
                refine zr_iload_n dMo_isNew_38 rfl ?_
                refine zr_icmp_neN (tgt := 46) (by omega) (by omega) dMo_isNew_39 (by decide) (fun h39 => ?_) (fun h39 => ?_)
                · have hB : B = Z d := hBd.trans (if_neg h39)
                  refine zr_aload_n dMo_isNew_46 rfl rfl ?_
                  refine zr_getf g_Mo_23 dMo_isNew_47 rfl rfl ?_
                  refine zr_iload dMo_isNew_50 rfl ?_
                  refine zr_iald dMo_isNew_52 rfl (by omega) (by decide) ?_
                  refine zr_topI (hsz d (by omega)).1 ?_
                  refine zr_icmp_geN (tgt := 82) (by omega) (by omega) dMo_isNew_53 (by decide) (fun h53 => ?_) (fun h53 => ?_)
                  · exfalso; omega
                  · refine zr_aload_n dMo_isNew_56 rfl rfl ?_
                    refine zr_getf g_Mo_26 dMo_isNew_57 rfl rfl ?_
                    refine zr_bipush (v := nI 20) dMo_isNew_60 (by decide) ?_
                    refine zr_iload dMo_isNew_62 rfl ?_
                    refine zr_imulN dMo_isNew_64 ?_
                    refine zr_iload dMo_isNew_65 rfl ?_
                    refine zr_iaddN dMo_isNew_67 ?_
                    refine zr_lald dMo_isNew_68 rfl (by omega) (by decide) ?_
                    refine zr_lload_n dMo_isNew_69 rfl ?_
                    refine zr_lcmp_ne (tgt := 76) dMo_isNew_70 dMo_isNew_71 (by decide) (fun h70 => ?_) (fun h70 => ?_)
                    · refine zr_iinc (v := nI (j + 1)) dMo_isNew_76 rfl (nI_1 _) (by decide) ?_
                      refine zr_goto (tgt := 24) dMo_isNew_79 (by decide) ?_
                      refine ihj (fun j2 hj2 => ?_)
                      by_cases e : j2 = j
                      · rw [e]; exact h70
                      · exact hnj j2 (by omega)
                    · refine zr_iconst (v := nI 0) dMo_isNew_74 (by decide) ?_
                      exact zr_ireturn dMo_isNew_75 rfl rfl (⟨congrArg (fun x => some (Value.int x)) <| congrArg nI (zv_n_0 ⟨d, j, hLd, by first | exact Or.inr ⟨h39, by omega⟩ | exact Or.inl ⟨by omega, by omega⟩, h70⟩).symm, rfl⟩)
                · have hB : B = k := hBd.trans (if_pos h39)
                  refine zr_iload_n dMo_isNew_42 rfl ?_
                  refine zr_goto (tgt := 53) dMo_isNew_43 (by decide) ?_
                  refine zr_icmp_geN (tgt := 82) (by omega) (by omega) dMo_isNew_53 (by decide) (fun h53 => ?_) (fun h53 => ?_)
                  · exfalso; omega
                  · refine zr_aload_n dMo_isNew_56 rfl rfl ?_
                    refine zr_getf g_Mo_26 dMo_isNew_57 rfl rfl ?_
                    refine zr_bipush (v := nI 20) dMo_isNew_60 (by decide) ?_
                    refine zr_iload dMo_isNew_62 rfl ?_
                    refine zr_imulN dMo_isNew_64 ?_
                    refine zr_iload dMo_isNew_65 rfl ?_
                    refine zr_iaddN dMo_isNew_67 ?_
                    refine zr_lald dMo_isNew_68 rfl (by omega) (by decide) ?_
                    refine zr_lload_n dMo_isNew_69 rfl ?_
                    refine zr_lcmp_ne (tgt := 76) dMo_isNew_70 dMo_isNew_71 (by decide) (fun h70 => ?_) (fun h70 => ?_)
                    · refine zr_iinc (v := nI (j + 1)) dMo_isNew_76 rfl (nI_1 _) (by decide) ?_
                      refine zr_goto (tgt := 24) dMo_isNew_79 (by decide) ?_
                      refine ihj (fun j2 hj2 => ?_)
                      by_cases e : j2 = j
                      · rw [e]; exact h70
                      · exact hnj j2 (by omega)
                    · refine zr_iconst (v := nI 0) dMo_isNew_74 (by decide) ?_
                      exact zr_ireturn dMo_isNew_75 rfl rfl (⟨congrArg (fun x => some (Value.int x)) <| congrArg nI (zv_n_0 ⟨d, j, hLd, by first | exact Or.inr ⟨h39, by omega⟩ | exact Or.inl ⟨by omega, by omega⟩, h70⟩).symm, rfl⟩)
            · intro hnj
              refine zr_aload_n dMo_isNew_24 rfl rfl ?_
              refine zr_getf g_Mo_20 dMo_isNew_25 rfl rfl ?_
              refine zr_iload dMo_isNew_28 rfl ?_
              refine zr_iald dMo_isNew_30 rfl (by omega) (by decide) ?_
              refine zr_topI (hla d (by omega)).1 ?_
              refine zr_if_leN (tgt := 82) (by have := (hla d (by omega)).2; omega) dMo_isNew_31 (by decide) (fun h31 => ?_) (fun h31 => ?_)
              · exact absurd h31 (by omega)
              · refine zr_iload dMo_isNew_34 rfl ?_
                refine zr_iload dMo_isNew_36 rfl ?_
                refine zr_iload_n dMo_isNew_38 rfl ?_
                refine zr_icmp_neN (tgt := 46) (by omega) (by omega) dMo_isNew_39 (by decide) (fun h39 => ?_) (fun h39 => ?_)
                · have hB : B = Z d := hBd.trans (if_neg h39)
                  refine zr_aload_n dMo_isNew_46 rfl rfl ?_
                  refine zr_getf g_Mo_23 dMo_isNew_47 rfl rfl ?_
                  refine zr_iload dMo_isNew_50 rfl ?_
                  refine zr_iald dMo_isNew_52 rfl (by omega) (by decide) ?_
                  refine zr_topI (hsz d (by omega)).1 ?_
                  refine zr_icmp_geN (tgt := 82) (by omega) (by omega) dMo_isNew_53 (by decide) (fun h53 => ?_) (fun h53 => ?_)
                  · refine zr_iinc (v := nI (d + 1)) dMo_isNew_82 rfl (nI_1 _) (by decide) ?_
                    refine zr_goto (tgt := 15) dMo_isNew_85 (by decide) ?_
                    refine zr_mask [true, true, true, true, true, true, false] (ih (fun d2 hd2 hL2 j2 hj2 => ?_))
                    by_cases e : d2 = d
                    · subst e; rw [← hBd] at hj2; exact hnj j2 hj2
                    · exact hno d2 (by omega) hL2 j2 hj2
                  · exfalso; omega
                · have hB : B = k := hBd.trans (if_pos h39)
                  refine zr_iload_n dMo_isNew_42 rfl ?_
                  refine zr_goto (tgt := 53) dMo_isNew_43 (by decide) ?_
                  refine zr_icmp_geN (tgt := 82) (by omega) (by omega) dMo_isNew_53 (by decide) (fun h53 => ?_) (fun h53 => ?_)
                  · refine zr_iinc (v := nI (d + 1)) dMo_isNew_82 rfl (nI_1 _) (by decide) ?_
                    refine zr_goto (tgt := 15) dMo_isNew_85 (by decide) ?_
                    refine zr_mask [true, true, true, true, true, true, false] (ih (fun d2 hd2 hL2 j2 hj2 => ?_))
                    by_cases e : d2 = d
                    · subst e; rw [← hBd] at hj2; exact hnj j2 hj2
                    · exact hno d2 (by omega) hL2 j2 hj2
                  · exfalso; omega
          exact key 0 (Nat.zero_le B) (fun j2 h => absurd h (Nat.not_lt_zero j2))
        · refine zr_aload_n dMo_isNew_24 rfl rfl ?_
          refine zr_getf g_Mo_20 dMo_isNew_25 rfl rfl ?_
          refine zr_iload dMo_isNew_28 rfl ?_
          refine zr_iald dMo_isNew_30 rfl (by omega) (by decide) ?_
          refine zr_topI (hla d (by omega)).1 ?_
          refine zr_if_leN (tgt := 82) (by have := (hla d (by omega)).2; omega) dMo_isNew_31 (by decide) (fun h31 => ?_) (fun h31 => ?_)
          · refine zr_iinc (v := nI (d + 1)) dMo_isNew_82 rfl (nI_1 _) (by decide) ?_
            refine zr_goto (tgt := 15) dMo_isNew_85 (by decide) ?_
            refine zr_mask [true, true, true, true, true, true, false] (ih (fun d2 hd2 hL2 j2 hj2 => ?_))
            by_cases e : d2 = d
            · subst e; exact absurd hL2 hLd
            · exact hno d2 (by omega) hL2 j2 hj2
          · exact absurd h31 hLd
    · intro hno
      refine zr_iload dMo_isNew_15 rfl ?_
      refine zr_iload_n dMo_isNew_17 rfl ?_
      refine zr_icmp_gtN (tgt := 88) (by omega) (by omega) dMo_isNew_18 (by decide) (fun h18 => ?_) (fun h18 => ?_)
      · refine zr_iconst (v := nI 1) dMo_isNew_88 (by decide) ?_
        exact zr_ireturn dMo_isNew_89 rfl rfl (⟨congrArg (fun x => some (Value.int x)) (congrArg nI (zv_n_1 (fun q => by
          obtain ⟨d, j, q1, q2, q3⟩ := q
          rcases q2 with ⟨q4, q5⟩ | ⟨q4, q5⟩
          · exact hno d (by omega) q1 j (by rw [if_neg (by omega)]; exact q5) q3
          · exact hno d (by omega) q1 j (by rw [if_pos q4]; exact q5) q3))).symm, rfl⟩)
      · exfalso; omega
  show zw_Z G Y_Mo_isNew _ _ _ 0 0 0 [some (.ref 26), some (.int (nI id)), some (.int (nI k)), none, none, none, none] [] _
  refine zr_aload_n dMo_isNew_0 rfl rfl ?_
  refine zr_getf g_Mo_26 dMo_isNew_1 rfl rfl ?_
  refine zr_bipush (v := nI 20) dMo_isNew_4 (by decide) ?_
  refine zr_iload_n dMo_isNew_6 rfl ?_
  refine zr_imulN dMo_isNew_7 ?_
  refine zr_iload_n dMo_isNew_8 rfl ?_
  refine zr_iaddN dMo_isNew_9 ?_
  refine zr_lald dMo_isNew_10 rfl (by omega) (by decide) ?_
  refine zr_lstore_n dMo_isNew_11 (by decide) ?_
  refine zr_iconst (v := nI 0) dMo_isNew_12 (by decide) ?_
  refine zr_istore dMo_isNew_13 (by decide) ?_
  exact keyo 0 (Nat.zero_le _) (fun d2 h => absurd h (Nat.not_lt_zero d2))
set_option maxHeartbeats 4000000 in
set_option maxRecDepth 100000 in
theorem c_Mo_vocabulary {G : zw_G} {c0 c1 c2 c3 c4 c5 c6 c7 c8 c9 c10 c11 c12 c13 c14 c15 c16 c17 c18 c19 c20 c21 c22 c23 c24 : zw_C} {n ty wo ch : Nat} {tx le la sz wh wt ma bk lf rt : Nat → Int32} {cu co wr : Nat → Int64} {r : zw_W} {L : Nat → Nat} (hla : ∀ i, i < 64 → la i = nI (L i) ∧ L i < 1000) {Z : Nat → Nat} (hsz : ∀ i, i < 64 → sz i = nI (Z i) ∧ Z i ≤ 20) : zw_Met G Y_Mo_vocabulary 1 0 0 [.ref 26] (c0 :: c1 :: c2 :: c3 :: c4 :: c5 :: c6 :: c7 :: c8 :: c9 :: c10 :: c11 :: c12 :: c13 :: c14 :: c15 :: c16 :: c17 :: c18 :: c19 :: c20 :: c21 :: c22 :: c23 :: c24 :: zk_Mo n ty wo ch :: zk_I 40 tx :: zk_L 20 cu :: zk_I 160 le :: zk_I 64 la :: zk_I 64 sz :: zk_L 1280 co :: zk_I 24 wh :: zk_I 24 wt :: zk_I 24 ma :: zk_I 24 bk :: zk_L 480 wr :: zk_I 50 lf :: zk_I 50 rt :: r) (zw_is (some (.int (nI (mo_voc L Z co 32 0)))) (c0 :: c1 :: c2 :: c3 :: c4 :: c5 :: c6 :: c7 :: c8 :: c9 :: c10 :: c11 :: c12 :: c13 :: c14 :: c15 :: c16 :: c17 :: c18 :: c19 :: c20 :: c21 :: c22 :: c23 :: c24 :: zk_Mo n ty wo ch :: zk_I 40 tx :: zk_L 20 cu :: zk_I 160 le :: zk_I 64 la :: zk_I 64 sz :: zk_L 1280 co :: zk_I 24 wh :: zk_I 24 wt :: zk_I 24 ma :: zk_I 24 bk :: zk_L 480 wr :: zk_I 50 lf :: zk_I 50 rt :: r)) := by
  have keyo : ∀ k, k ≤ 32 → zw_Z G Y_Mo_vocabulary (zw_R 1 0 0) (fun _ => True) (zw_Q G 0 0 (zw_is (some (.int (nI (mo_voc L Z co 32 0)))) (c0 :: c1 :: c2 :: c3 :: c4 :: c5 :: c6 :: c7 :: c8 :: c9 :: c10 :: c11 :: c12 :: c13 :: c14 :: c15 :: c16 :: c17 :: c18 :: c19 :: c20 :: c21 :: c22 :: c23 :: c24 :: zk_Mo n ty wo ch :: zk_I 40 tx :: zk_L 20 cu :: zk_I 160 le :: zk_I 64 la :: zk_I 64 sz :: zk_L 1280 co :: zk_I 24 wh :: zk_I 24 wt :: zk_I 24 ma :: zk_I 24 bk :: zk_L 480 wr :: zk_I 50 lf :: zk_I 50 rt :: r))) 0 0 4 [some (.ref 26), some (.int (nI (mo_voc L Z co k 0))), some (.int (nI k)), none] [] (c0 :: c1 :: c2 :: c3 :: c4 :: c5 :: c6 :: c7 :: c8 :: c9 :: c10 :: c11 :: c12 :: c13 :: c14 :: c15 :: c16 :: c17 :: c18 :: c19 :: c20 :: c21 :: c22 :: c23 :: c24 :: zk_Mo n ty wo ch :: zk_I 40 tx :: zk_L 20 cu :: zk_I 160 le :: zk_I 64 la :: zk_I 64 sz :: zk_L 1280 co :: zk_I 24 wh :: zk_I 24 wt :: zk_I 24 ma :: zk_I 24 bk :: zk_L 480 wr :: zk_I 50 lf :: zk_I 50 rt :: r) := by
    refine wz_up 32 (fun k hk ih => ?_) ?_
    · refine zr_iload_n dMo_vocabulary_4 rfl ?_
      refine zr_bipush (v := nI 32) dMo_vocabulary_5 (by decide) ?_
      refine zr_icmp_geN (tgt := 60) (by omega) (by omega) dMo_vocabulary_7 (by decide) (fun h7 => ?_) (fun h7 => ?_)
      · exfalso; omega
      · refine zr_iconst (v := nI 0) dMo_vocabulary_10 (by decide) ?_
        refine zr_istore_n dMo_vocabulary_11 (by decide) ?_
        have hzk := (hsz k (by omega)).2
        by_cases hLk : 0 < L k
        · have key : ∀ j, j ≤ (Z k) → zw_Z G Y_Mo_vocabulary (zw_R 1 0 0) (fun _ => True) (zw_Q G 0 0 (zw_is (some (.int (nI (mo_voc L Z co 32 0)))) (c0 :: c1 :: c2 :: c3 :: c4 :: c5 :: c6 :: c7 :: c8 :: c9 :: c10 :: c11 :: c12 :: c13 :: c14 :: c15 :: c16 :: c17 :: c18 :: c19 :: c20 :: c21 :: c22 :: c23 :: c24 :: zk_Mo n ty wo ch :: zk_I 40 tx :: zk_L 20 cu :: zk_I 160 le :: zk_I 64 la :: zk_I 64 sz :: zk_L 1280 co :: zk_I 24 wh :: zk_I 24 wt :: zk_I 24 ma :: zk_I 24 bk :: zk_L 480 wr :: zk_I 50 lf :: zk_I 50 rt :: r))) 0 0 12 [some (.ref 26), some (.int (nI (mo_voc L Z co k j))), some (.int (nI k)), some (.int (nI j))] [] (c0 :: c1 :: c2 :: c3 :: c4 :: c5 :: c6 :: c7 :: c8 :: c9 :: c10 :: c11 :: c12 :: c13 :: c14 :: c15 :: c16 :: c17 :: c18 :: c19 :: c20 :: c21 :: c22 :: c23 :: c24 :: zk_Mo n ty wo ch :: zk_I 40 tx :: zk_L 20 cu :: zk_I 160 le :: zk_I 64 la :: zk_I 64 sz :: zk_L 1280 co :: zk_I 24 wh :: zk_I 24 wt :: zk_I 24 ma :: zk_I 24 bk :: zk_L 480 wr :: zk_I 50 lf :: zk_I 50 rt :: r) := by
            refine wz_up (Z k) (fun j hkj ihj => ?_) ?_
            · refine zr_aload_n dMo_vocabulary_12 rfl rfl ?_
              refine zr_getf g_Mo_20 dMo_vocabulary_13 rfl rfl ?_
              refine zr_iload_n dMo_vocabulary_16 rfl ?_
              refine zr_iald dMo_vocabulary_17 rfl (by omega) (by decide) ?_
              refine zr_topI (hla k (by omega)).1 ?_
              refine zr_if_leN (tgt := 54) (by have := (hla k (by omega)).2; omega) dMo_vocabulary_18 (by decide) (fun h18 => ?_) (fun h18 => ?_)
              · exact absurd h18 (by omega)
              · refine zr_iload_n dMo_vocabulary_21 rfl ?_
                refine zr_aload_n dMo_vocabulary_22 rfl rfl ?_
                refine zr_getf g_Mo_23 dMo_vocabulary_23 rfl rfl ?_
                refine zr_iload_n dMo_vocabulary_26 rfl ?_
                refine zr_iald dMo_vocabulary_27 rfl (by omega) (by decide) ?_
                refine zr_topI (hsz k (by omega)).1 ?_
                refine zr_icmp_geN (tgt := 54) (by omega) (by omega) dMo_vocabulary_28 (by decide) (fun h28 => ?_) (fun h28 => ?_)
                · exfalso; omega
                · refine zr_aload_n dMo_vocabulary_31 rfl rfl ?_
                  refine zr_iload_n dMo_vocabulary_32 rfl ?_
                  refine zr_iload_n dMo_vocabulary_33 rfl ?_
                  refine zr_invV (c_Mo_isNew hla hsz hk (by omega)) m_Mo_isNew k_Mo_102 v_Mo_isNew rfl rfl dMo_vocabulary_34 rfl (Nat.le_of_ble_eq_true rfl) (by decide) (Nat.le_of_ble_eq_true rfl) rfl (fun v w2 hp => ?_)
                  obtain ⟨rfl, rfl⟩ := hp
                  have hn1 := @zv_n_le Int64 (fun d => 0 < L d) Z (mo_df co) k j
                  have hcn : mo_voc L Z co k (j + 1) = mo_voc L Z co k j + zv_n (fun d => 0 < L d) Z (mo_df co) k j := zv_cnt_k
                  refine ⟨rfl, ?_⟩
                  refine zr_if_eqN (tgt := 46) (by omega) dMo_vocabulary_37 (by decide) (fun h37 => ?_) (fun h37 => ?_)
                  · rw [hcn, h37, Nat.add_zero] at ihj
                    refine zr_iload_n dMo_vocabulary_46 rfl ?_
                    refine zr_istore_n dMo_vocabulary_47 (by decide) ?_
                    refine zr_iinc (v := nI (j + 1)) dMo_vocabulary_48 rfl (nI_1 _) (by decide) ?_
                    refine zr_goto (tgt := 12) dMo_vocabulary_51 (by decide) ?_
                    exact ihj
                  · rw [hcn, show zv_n (fun d => 0 < L d) Z (mo_df co) k j = 1 by omega] at ihj
                    refine zr_iload_n dMo_vocabulary_40 rfl ?_
                    refine zr_iconst (v := nI 1) dMo_vocabulary_41 (by decide) ?_
                    refine zr_iaddN dMo_vocabulary_42 ?_
                    refine zr_goto (tgt := 47) dMo_vocabulary_43 (by decide) ?_
                    refine zr_istore_n dMo_vocabulary_47 (by decide) ?_
                    refine zr_iinc (v := nI (j + 1)) dMo_vocabulary_48 rfl (nI_1 _) (by decide) ?_
                    refine zr_goto (tgt := 12) dMo_vocabulary_51 (by decide) ?_
                    exact ihj
            · refine zr_aload_n dMo_vocabulary_12 rfl rfl ?_
              refine zr_getf g_Mo_20 dMo_vocabulary_13 rfl rfl ?_
              refine zr_iload_n dMo_vocabulary_16 rfl ?_
              refine zr_iald dMo_vocabulary_17 rfl (by omega) (by decide) ?_
              refine zr_topI (hla k (by omega)).1 ?_
              refine zr_if_leN (tgt := 54) (by have := (hla k (by omega)).2; omega) dMo_vocabulary_18 (by decide) (fun h18 => ?_) (fun h18 => ?_)
              · exact absurd h18 (by omega)
              · refine zr_iload_n dMo_vocabulary_21 rfl ?_
                refine zr_aload_n dMo_vocabulary_22 rfl rfl ?_
                refine zr_getf g_Mo_23 dMo_vocabulary_23 rfl rfl ?_
                refine zr_iload_n dMo_vocabulary_26 rfl ?_
                refine zr_iald dMo_vocabulary_27 rfl (by omega) (by decide) ?_
                refine zr_topI (hsz k (by omega)).1 ?_
                refine zr_icmp_geN (tgt := 54) (by omega) (by omega) dMo_vocabulary_28 (by decide) (fun h28 => ?_) (fun h28 => ?_)
                · refine zr_iinc (v := nI (k + 1)) dMo_vocabulary_54 rfl (nI_1 _) (by decide) ?_
                  refine zr_goto (tgt := 4) dMo_vocabulary_57 (by decide) ?_
                  have hci : mo_voc L Z co (k + 1) 0 = mo_voc L Z co k (Z k) := zv_cnt_id hLk
                  rw [hci] at ih
                  exact zr_mask [true, true, true, false] ih
                · exfalso; omega
          exact key 0 (Nat.zero_le _)
        · refine zr_aload_n dMo_vocabulary_12 rfl rfl ?_
          refine zr_getf g_Mo_20 dMo_vocabulary_13 rfl rfl ?_
          refine zr_iload_n dMo_vocabulary_16 rfl ?_
          refine zr_iald dMo_vocabulary_17 rfl (by omega) (by decide) ?_
          refine zr_topI (hla k (by omega)).1 ?_
          refine zr_if_leN (tgt := 54) (by have := (hla k (by omega)).2; omega) dMo_vocabulary_18 (by decide) (fun h18 => ?_) (fun h18 => ?_)
          · refine zr_iinc (v := nI (k + 1)) dMo_vocabulary_54 rfl (nI_1 _) (by decide) ?_
            refine zr_goto (tgt := 4) dMo_vocabulary_57 (by decide) ?_
            have hci : mo_voc L Z co (k + 1) 0 = mo_voc L Z co k 0 := zv_cnt_id0 hLk
            rw [hci] at ih
            exact zr_mask [true, true, true, false] ih
          · exact absurd h18 hLk
    · refine zr_iload_n dMo_vocabulary_4 rfl ?_
      refine zr_bipush (v := nI 32) dMo_vocabulary_5 (by decide) ?_
      refine zr_icmp_geN (tgt := 60) (by omega) (by omega) dMo_vocabulary_7 (by decide) (fun h7 => ?_) (fun h7 => ?_)
      · refine zr_iload_n dMo_vocabulary_60 rfl ?_
        exact zr_ireturn dMo_vocabulary_61 rfl rfl (⟨rfl, rfl⟩)
      · exfalso; omega
  show zw_Z G Y_Mo_vocabulary _ _ _ 0 0 0 [some (.ref 26), none, none, none] [] _
  refine zr_iconst (v := nI 0) dMo_vocabulary_0 (by decide) ?_
  refine zr_istore_n dMo_vocabulary_1 (by decide) ?_
  refine zr_iconst (v := nI 0) dMo_vocabulary_2 (by decide) ?_
  refine zr_istore_n dMo_vocabulary_3 (by decide) ?_
  exact keyo 0 (Nat.zero_le 32)
def mo_is (f : Nat → Int32) (v : Nat) : Prop := ∃ F : Nat → Nat, (∀ j, j < 50 → F j < 1000) ∧ (∀ j, j < 50 → f j = nI (F j)) ∧ wv 1000 F 50 = v
set_option maxHeartbeats 4000000 in
set_option maxRecDepth 100000 in
theorem c_Mo_timesL0 {G : zw_G} {c0 c1 c2 c3 c4 c5 c6 c7 c8 c9 c10 c11 c12 c13 c14 c15 c16 c17 c18 c19 c20 c21 c22 c23 c24 : zw_C} {n ty wo ch : Nat} {tx le la sz wh wt ma bk lf rt : Nat → Int32} {cu co wr : Nat → Int64} {r : zw_W} {q : Nat} {F : Nat → Nat} (hq : q ≤ 1000) (hF : ∀ j, j < 50 → F j < 1000) (hf : ∀ j, j < 50 → lf j = nI (F j)) : zw_Met G Y_Mo_times 0 0 0 [.ref 26, .int (nI 1), .int (nI q)] (c0 :: c1 :: c2 :: c3 :: c4 :: c5 :: c6 :: c7 :: c8 :: c9 :: c10 :: c11 :: c12 :: c13 :: c14 :: c15 :: c16 :: c17 :: c18 :: c19 :: c20 :: c21 :: c22 :: c23 :: c24 :: zk_Mo n ty wo ch :: zk_I 40 tx :: zk_L 20 cu :: zk_I 160 le :: zk_I 64 la :: zk_I 64 sz :: zk_L 1280 co :: zk_I 24 wh :: zk_I 24 wt :: zk_I 24 ma :: zk_I 24 bk :: zk_L 480 wr :: zk_I 50 lf :: zk_I 50 rt :: r) (zw_is none (c0 :: c1 :: c2 :: c3 :: c4 :: c5 :: c6 :: c7 :: c8 :: c9 :: c10 :: c11 :: c12 :: c13 :: c14 :: c15 :: c16 :: c17 :: c18 :: c19 :: c20 :: c21 :: c22 :: c23 :: c24 :: zk_Mo n ty wo ch :: zk_I 40 tx :: zk_L 20 cu :: zk_I 160 le :: zk_I 64 la :: zk_I 64 sz :: zk_L 1280 co :: zk_I 24 wh :: zk_I 24 wt :: zk_I 24 ma :: zk_I 24 bk :: zk_L 480 wr :: zk_I 50 (fun j => if j < 50 then nI ((F j * q + wv_c 1000 q F j) % 1000) else lf j) :: zk_I 50 rt :: r)) := by
  have key : ∀ k, k ≤ 50 → zw_Z G Y_Mo_times (zw_R 0 0 0) (fun _ => True) (zw_Q G 0 0 (zw_is none (c0 :: c1 :: c2 :: c3 :: c4 :: c5 :: c6 :: c7 :: c8 :: c9 :: c10 :: c11 :: c12 :: c13 :: c14 :: c15 :: c16 :: c17 :: c18 :: c19 :: c20 :: c21 :: c22 :: c23 :: c24 :: zk_Mo n ty wo ch :: zk_I 40 tx :: zk_L 20 cu :: zk_I 160 le :: zk_I 64 la :: zk_I 64 sz :: zk_L 1280 co :: zk_I 24 wh :: zk_I 24 wt :: zk_I 24 ma :: zk_I 24 bk :: zk_L 480 wr :: zk_I 50 (fun j => if j < 50 then nI ((F j * q + wv_c 1000 q F j) % 1000) else lf j) :: zk_I 50 rt :: r))) 0 0 5 [some (.ref 26), some (.int (nI 1)), some (.int (nI q)), some (.int (nI (wv_c 1000 q F k))), some (.int (nI k)), none] [] (c0 :: c1 :: c2 :: c3 :: c4 :: c5 :: c6 :: c7 :: c8 :: c9 :: c10 :: c11 :: c12 :: c13 :: c14 :: c15 :: c16 :: c17 :: c18 :: c19 :: c20 :: c21 :: c22 :: c23 :: c24 :: zk_Mo n ty wo ch :: zk_I 40 tx :: zk_L 20 cu :: zk_I 160 le :: zk_I 64 la :: zk_I 64 sz :: zk_L 1280 co :: zk_I 24 wh :: zk_I 24 wt :: zk_I 24 ma :: zk_I 24 bk :: zk_L 480 wr :: zk_I 50 (fun j => if j < k then nI ((F j * q + wv_c 1000 q F j) % 1000) else lf j) :: zk_I 50 rt :: r) := by
    refine wz_up 50 (fun k hk ih => ?_) ?_
    · have hs : F k * q + wv_c 1000 q F k < 2 ^ 31 := by
        have h1 := wv_c_le (q := q) (n := 50) (by decide) hF k (by omega)
        have h2 : F k * q ≤ 999 * q := Nat.mul_le_mul_right q (by have := hF k hk; omega)
        omega
      refine zr_iload dMo_times_5 rfl ?_
      refine zr_bipush (v := nI 50) dMo_times_7 (by decide) ?_
      refine zr_icmp_geN (tgt := 85) (by omega) (by omega) dMo_times_9 (by decide) (fun h9 => ?_) (fun h9 => ?_)
      · exfalso; omega
      · refine zr_iload_n dMo_times_12 rfl ?_
        refine zr_if_eqN (tgt := 26) (by omega) dMo_times_13 (by decide) (fun h13 => ?_) (fun h13 => ?_)
        · exact absurd h13 (by decide)
        · refine zr_aload_n dMo_times_16 rfl rfl ?_
          refine zr_getf g_Mo_44 dMo_times_17 rfl rfl ?_
          refine zr_iload dMo_times_20 rfl ?_
          refine zr_iald dMo_times_22 rfl (hk) (by decide) ?_
          refine zr_topI ((if_neg (Nat.lt_irrefl k)).trans (hf k hk)) ?_
          refine zr_goto (tgt := 33) dMo_times_23 (by decide) ?_
          refine zr_iload_n dMo_times_33 rfl ?_
          refine zr_imulN dMo_times_34 ?_
          refine zr_iload_n dMo_times_35 rfl ?_
          refine zr_iaddN dMo_times_36 ?_
          refine zr_istore dMo_times_37 (by decide) ?_
          refine zr_iload dMo_times_39 rfl ?_
          refine zr_sipush (v := nI 1000) dMo_times_41 (by decide) ?_
          refine zr_idivN (hs) (by decide) (by decide) dMo_times_44 ?_
          refine zr_istore_n dMo_times_45 (by decide) ?_
          refine zr_iload_n dMo_times_46 rfl ?_
          refine zr_if_eqN (tgt := 66) (by omega) dMo_times_47 (by decide) (fun h47 => ?_) (fun h47 => ?_)
          · exact absurd h47 (by decide)
          · refine zr_aload_n dMo_times_50 rfl rfl ?_
            refine zr_getf g_Mo_44 dMo_times_51 rfl rfl ?_
            refine zr_iload dMo_times_54 rfl ?_
            refine zr_iload dMo_times_56 rfl ?_
            refine zr_sipush (v := nI 1000) dMo_times_58 (by decide) ?_
            refine zr_iremN (hs) (by decide) (by decide) dMo_times_61 ?_
            refine zr_iast dMo_times_62 rfl (hk) (by decide) ?_
            refine zr_wld (w2 := (c0 :: c1 :: c2 :: c3 :: c4 :: c5 :: c6 :: c7 :: c8 :: c9 :: c10 :: c11 :: c12 :: c13 :: c14 :: c15 :: c16 :: c17 :: c18 :: c19 :: c20 :: c21 :: c22 :: c23 :: c24 :: zk_Mo n ty wo ch :: zk_I 40 tx :: zk_L 20 cu :: zk_I 160 le :: zk_I 64 la :: zk_I 64 sz :: zk_L 1280 co :: zk_I 24 wh :: zk_I 24 wt :: zk_I 24 ma :: zk_I 24 bk :: zk_L 480 wr :: zk_I 50 (fun j => if j < (k + 1) then nI ((F j * q + wv_c 1000 q F j) % 1000) else lf j) :: zk_I 50 rt :: r)) (by rw [← zf_upI (d := fun j => nI ((F j * q + wv_c 1000 q F j) % 1000))]; rfl) ?_
            refine zr_goto (tgt := 79) dMo_times_63 (by decide) ?_
            refine zr_iinc (v := nI (k + 1)) dMo_times_79 rfl (nI_1 _) (by decide) ?_
            refine zr_goto (tgt := 5) dMo_times_82 (by decide) ?_
            exact zr_mask [true, true, true, true, true, false] ih
    · refine zr_iload dMo_times_5 rfl ?_
      refine zr_bipush (v := nI 50) dMo_times_7 (by decide) ?_
      refine zr_icmp_geN (tgt := 85) (by omega) (by omega) dMo_times_9 (by decide) (fun h9 => ?_) (fun h9 => ?_)
      · exact zr_return dMo_times_85 rfl (⟨rfl, rfl⟩)
      · exfalso; omega
  show zw_Z G Y_Mo_times _ _ _ 0 0 0 [some (.ref 26), some (.int (nI 1)), some (.int (nI q)), none, none, none] [] _
  refine zr_iconst (v := nI 0) dMo_times_0 (by decide) ?_
  refine zr_istore_n dMo_times_1 (by decide) ?_
  refine zr_iconst (v := nI 0) dMo_times_2 (by decide) ?_
  refine zr_istore dMo_times_3 (by decide) ?_
  refine zr_wld (w2 := (c0 :: c1 :: c2 :: c3 :: c4 :: c5 :: c6 :: c7 :: c8 :: c9 :: c10 :: c11 :: c12 :: c13 :: c14 :: c15 :: c16 :: c17 :: c18 :: c19 :: c20 :: c21 :: c22 :: c23 :: c24 :: zk_Mo n ty wo ch :: zk_I 40 tx :: zk_L 20 cu :: zk_I 160 le :: zk_I 64 la :: zk_I 64 sz :: zk_L 1280 co :: zk_I 24 wh :: zk_I 24 wt :: zk_I 24 ma :: zk_I 24 bk :: zk_L 480 wr :: zk_I 50 (fun j => if j < 0 then nI ((F j * q + wv_c 1000 q F j) % 1000) else lf j) :: zk_I 50 rt :: r)) (by rw [zf_if0 (d := fun j => nI ((F j * q + wv_c 1000 q F j) % 1000))]) ?_
  exact key 0 (Nat.zero_le 50)
theorem c_Mo_timesL {G : zw_G} {c0 c1 c2 c3 c4 c5 c6 c7 c8 c9 c10 c11 c12 c13 c14 c15 c16 c17 c18 c19 c20 c21 c22 c23 c24 : zw_C} {n ty wo ch : Nat} {tx le la sz wh wt ma bk lf rt : Nat → Int32} {cu co wr : Nat → Int64} {r : zw_W} {q v : Nat} (hq : q ≤ 1000) (hv : mo_is lf v) (hb : v * q < 1000 ^ 50) : zw_Met G Y_Mo_times 0 0 0 [.ref 26, .int (nI 1), .int (nI q)] (c0 :: c1 :: c2 :: c3 :: c4 :: c5 :: c6 :: c7 :: c8 :: c9 :: c10 :: c11 :: c12 :: c13 :: c14 :: c15 :: c16 :: c17 :: c18 :: c19 :: c20 :: c21 :: c22 :: c23 :: c24 :: zk_Mo n ty wo ch :: zk_I 40 tx :: zk_L 20 cu :: zk_I 160 le :: zk_I 64 la :: zk_I 64 sz :: zk_L 1280 co :: zk_I 24 wh :: zk_I 24 wt :: zk_I 24 ma :: zk_I 24 bk :: zk_L 480 wr :: zk_I 50 lf :: zk_I 50 rt :: r) (fun r2 w2 => r2 = none ∧ ∃ f2, w2 = (c0 :: c1 :: c2 :: c3 :: c4 :: c5 :: c6 :: c7 :: c8 :: c9 :: c10 :: c11 :: c12 :: c13 :: c14 :: c15 :: c16 :: c17 :: c18 :: c19 :: c20 :: c21 :: c22 :: c23 :: c24 :: zk_Mo n ty wo ch :: zk_I 40 tx :: zk_L 20 cu :: zk_I 160 le :: zk_I 64 la :: zk_I 64 sz :: zk_L 1280 co :: zk_I 24 wh :: zk_I 24 wt :: zk_I 24 ma :: zk_I 24 bk :: zk_L 480 wr :: zk_I 50 f2 :: zk_I 50 rt :: r) ∧ mo_is f2 (v * q)) := by
  obtain ⟨F, hF, hf, hw⟩ := hv
  refine zw_Met.post (c_Mo_timesL0 hq hF hf) (fun r2 w2 hp => ?_)
  obtain ⟨rfl, rfl⟩ := hp
  refine ⟨rfl, _, rfl, fun j => (F j * q + wv_c 1000 q F j) % 1000, fun j _ => Nat.mod_lt _ (by decide), fun j hj => if_pos hj, ?_⟩
  rw [wv_prod (by decide) (by rw [hw]; exact hb), hw]
set_option maxHeartbeats 4000000 in
set_option maxRecDepth 100000 in
theorem c_Mo_timesR0 {G : zw_G} {c0 c1 c2 c3 c4 c5 c6 c7 c8 c9 c10 c11 c12 c13 c14 c15 c16 c17 c18 c19 c20 c21 c22 c23 c24 : zw_C} {n ty wo ch : Nat} {tx le la sz wh wt ma bk lf rt : Nat → Int32} {cu co wr : Nat → Int64} {r : zw_W} {q : Nat} {F : Nat → Nat} (hq : q ≤ 1000) (hF : ∀ j, j < 50 → F j < 1000) (hf : ∀ j, j < 50 → rt j = nI (F j)) : zw_Met G Y_Mo_times 0 0 0 [.ref 26, .int (nI 0), .int (nI q)] (c0 :: c1 :: c2 :: c3 :: c4 :: c5 :: c6 :: c7 :: c8 :: c9 :: c10 :: c11 :: c12 :: c13 :: c14 :: c15 :: c16 :: c17 :: c18 :: c19 :: c20 :: c21 :: c22 :: c23 :: c24 :: zk_Mo n ty wo ch :: zk_I 40 tx :: zk_L 20 cu :: zk_I 160 le :: zk_I 64 la :: zk_I 64 sz :: zk_L 1280 co :: zk_I 24 wh :: zk_I 24 wt :: zk_I 24 ma :: zk_I 24 bk :: zk_L 480 wr :: zk_I 50 lf :: zk_I 50 rt :: r) (zw_is none (c0 :: c1 :: c2 :: c3 :: c4 :: c5 :: c6 :: c7 :: c8 :: c9 :: c10 :: c11 :: c12 :: c13 :: c14 :: c15 :: c16 :: c17 :: c18 :: c19 :: c20 :: c21 :: c22 :: c23 :: c24 :: zk_Mo n ty wo ch :: zk_I 40 tx :: zk_L 20 cu :: zk_I 160 le :: zk_I 64 la :: zk_I 64 sz :: zk_L 1280 co :: zk_I 24 wh :: zk_I 24 wt :: zk_I 24 ma :: zk_I 24 bk :: zk_L 480 wr :: zk_I 50 lf :: zk_I 50 (fun j => if j < 50 then nI ((F j * q + wv_c 1000 q F j) % 1000) else rt j) :: r)) := by
  have key : ∀ k, k ≤ 50 → zw_Z G Y_Mo_times (zw_R 0 0 0) (fun _ => True) (zw_Q G 0 0 (zw_is none (c0 :: c1 :: c2 :: c3 :: c4 :: c5 :: c6 :: c7 :: c8 :: c9 :: c10 :: c11 :: c12 :: c13 :: c14 :: c15 :: c16 :: c17 :: c18 :: c19 :: c20 :: c21 :: c22 :: c23 :: c24 :: zk_Mo n ty wo ch :: zk_I 40 tx :: zk_L 20 cu :: zk_I 160 le :: zk_I 64 la :: zk_I 64 sz :: zk_L 1280 co :: zk_I 24 wh :: zk_I 24 wt :: zk_I 24 ma :: zk_I 24 bk :: zk_L 480 wr :: zk_I 50 lf :: zk_I 50 (fun j => if j < 50 then nI ((F j * q + wv_c 1000 q F j) % 1000) else rt j) :: r))) 0 0 5 [some (.ref 26), some (.int (nI 0)), some (.int (nI q)), some (.int (nI (wv_c 1000 q F k))), some (.int (nI k)), none] [] (c0 :: c1 :: c2 :: c3 :: c4 :: c5 :: c6 :: c7 :: c8 :: c9 :: c10 :: c11 :: c12 :: c13 :: c14 :: c15 :: c16 :: c17 :: c18 :: c19 :: c20 :: c21 :: c22 :: c23 :: c24 :: zk_Mo n ty wo ch :: zk_I 40 tx :: zk_L 20 cu :: zk_I 160 le :: zk_I 64 la :: zk_I 64 sz :: zk_L 1280 co :: zk_I 24 wh :: zk_I 24 wt :: zk_I 24 ma :: zk_I 24 bk :: zk_L 480 wr :: zk_I 50 lf :: zk_I 50 (fun j => if j < k then nI ((F j * q + wv_c 1000 q F j) % 1000) else rt j) :: r) := by
    refine wz_up 50 (fun k hk ih => ?_) ?_
    · have hs : F k * q + wv_c 1000 q F k < 2 ^ 31 := by
        have h1 := wv_c_le (q := q) (n := 50) (by decide) hF k (by omega)
        have h2 : F k * q ≤ 999 * q := Nat.mul_le_mul_right q (by have := hF k hk; omega)
        omega
      refine zr_iload dMo_times_5 rfl ?_
      refine zr_bipush (v := nI 50) dMo_times_7 (by decide) ?_
      refine zr_icmp_geN (tgt := 85) (by omega) (by omega) dMo_times_9 (by decide) (fun h9 => ?_) (fun h9 => ?_)
      · exfalso; omega
      · refine zr_iload_n dMo_times_12 rfl ?_
        refine zr_if_eqN (tgt := 26) (by omega) dMo_times_13 (by decide) (fun h13 => ?_) (fun h13 => ?_)
        · refine zr_aload_n dMo_times_26 rfl rfl ?_
          refine zr_getf g_Mo_47 dMo_times_27 rfl rfl ?_
          refine zr_iload dMo_times_30 rfl ?_
          refine zr_iald dMo_times_32 rfl (hk) (by decide) ?_
          refine zr_topI ((if_neg (Nat.lt_irrefl k)).trans (hf k hk)) ?_
          refine zr_iload_n dMo_times_33 rfl ?_
          refine zr_imulN dMo_times_34 ?_
          refine zr_iload_n dMo_times_35 rfl ?_
          refine zr_iaddN dMo_times_36 ?_
          refine zr_istore dMo_times_37 (by decide) ?_
          refine zr_iload dMo_times_39 rfl ?_
          refine zr_sipush (v := nI 1000) dMo_times_41 (by decide) ?_
          refine zr_idivN (hs) (by decide) (by decide) dMo_times_44 ?_
          refine zr_istore_n dMo_times_45 (by decide) ?_
          refine zr_iload_n dMo_times_46 rfl ?_
          refine zr_if_eqN (tgt := 66) (by omega) dMo_times_47 (by decide) (fun h47 => ?_) (fun h47 => ?_)
          · refine zr_aload_n dMo_times_66 rfl rfl ?_
            refine zr_getf g_Mo_47 dMo_times_67 rfl rfl ?_
            refine zr_iload dMo_times_70 rfl ?_
            refine zr_iload dMo_times_72 rfl ?_
            refine zr_sipush (v := nI 1000) dMo_times_74 (by decide) ?_
            refine zr_iremN (hs) (by decide) (by decide) dMo_times_77 ?_
            refine zr_iast dMo_times_78 rfl (hk) (by decide) ?_
            refine zr_wld (w2 := (c0 :: c1 :: c2 :: c3 :: c4 :: c5 :: c6 :: c7 :: c8 :: c9 :: c10 :: c11 :: c12 :: c13 :: c14 :: c15 :: c16 :: c17 :: c18 :: c19 :: c20 :: c21 :: c22 :: c23 :: c24 :: zk_Mo n ty wo ch :: zk_I 40 tx :: zk_L 20 cu :: zk_I 160 le :: zk_I 64 la :: zk_I 64 sz :: zk_L 1280 co :: zk_I 24 wh :: zk_I 24 wt :: zk_I 24 ma :: zk_I 24 bk :: zk_L 480 wr :: zk_I 50 lf :: zk_I 50 (fun j => if j < (k + 1) then nI ((F j * q + wv_c 1000 q F j) % 1000) else rt j) :: r)) (by rw [← zf_upI (d := fun j => nI ((F j * q + wv_c 1000 q F j) % 1000))]; rfl) ?_
            refine zr_iinc (v := nI (k + 1)) dMo_times_79 rfl (nI_1 _) (by decide) ?_
            refine zr_goto (tgt := 5) dMo_times_82 (by decide) ?_
            exact zr_mask [true, true, true, true, true, false] ih
          · exact absurd h47 (by decide)
        · exact absurd h13 (by decide)
    · refine zr_iload dMo_times_5 rfl ?_
      refine zr_bipush (v := nI 50) dMo_times_7 (by decide) ?_
      refine zr_icmp_geN (tgt := 85) (by omega) (by omega) dMo_times_9 (by decide) (fun h9 => ?_) (fun h9 => ?_)
      · exact zr_return dMo_times_85 rfl (⟨rfl, rfl⟩)
      · exfalso; omega
  show zw_Z G Y_Mo_times _ _ _ 0 0 0 [some (.ref 26), some (.int (nI 0)), some (.int (nI q)), none, none, none] [] _
  refine zr_iconst (v := nI 0) dMo_times_0 (by decide) ?_
  refine zr_istore_n dMo_times_1 (by decide) ?_
  refine zr_iconst (v := nI 0) dMo_times_2 (by decide) ?_
  refine zr_istore dMo_times_3 (by decide) ?_
  refine zr_wld (w2 := (c0 :: c1 :: c2 :: c3 :: c4 :: c5 :: c6 :: c7 :: c8 :: c9 :: c10 :: c11 :: c12 :: c13 :: c14 :: c15 :: c16 :: c17 :: c18 :: c19 :: c20 :: c21 :: c22 :: c23 :: c24 :: zk_Mo n ty wo ch :: zk_I 40 tx :: zk_L 20 cu :: zk_I 160 le :: zk_I 64 la :: zk_I 64 sz :: zk_L 1280 co :: zk_I 24 wh :: zk_I 24 wt :: zk_I 24 ma :: zk_I 24 bk :: zk_L 480 wr :: zk_I 50 lf :: zk_I 50 (fun j => if j < 0 then nI ((F j * q + wv_c 1000 q F j) % 1000) else rt j) :: r)) (by rw [zf_if0 (d := fun j => nI ((F j * q + wv_c 1000 q F j) % 1000))]) ?_
  exact key 0 (Nat.zero_le 50)
theorem c_Mo_timesR {G : zw_G} {c0 c1 c2 c3 c4 c5 c6 c7 c8 c9 c10 c11 c12 c13 c14 c15 c16 c17 c18 c19 c20 c21 c22 c23 c24 : zw_C} {n ty wo ch : Nat} {tx le la sz wh wt ma bk lf rt : Nat → Int32} {cu co wr : Nat → Int64} {r : zw_W} {q v : Nat} (hq : q ≤ 1000) (hv : mo_is rt v) (hb : v * q < 1000 ^ 50) : zw_Met G Y_Mo_times 0 0 0 [.ref 26, .int (nI 0), .int (nI q)] (c0 :: c1 :: c2 :: c3 :: c4 :: c5 :: c6 :: c7 :: c8 :: c9 :: c10 :: c11 :: c12 :: c13 :: c14 :: c15 :: c16 :: c17 :: c18 :: c19 :: c20 :: c21 :: c22 :: c23 :: c24 :: zk_Mo n ty wo ch :: zk_I 40 tx :: zk_L 20 cu :: zk_I 160 le :: zk_I 64 la :: zk_I 64 sz :: zk_L 1280 co :: zk_I 24 wh :: zk_I 24 wt :: zk_I 24 ma :: zk_I 24 bk :: zk_L 480 wr :: zk_I 50 lf :: zk_I 50 rt :: r) (fun r2 w2 => r2 = none ∧ ∃ f2, w2 = (c0 :: c1 :: c2 :: c3 :: c4 :: c5 :: c6 :: c7 :: c8 :: c9 :: c10 :: c11 :: c12 :: c13 :: c14 :: c15 :: c16 :: c17 :: c18 :: c19 :: c20 :: c21 :: c22 :: c23 :: c24 :: zk_Mo n ty wo ch :: zk_I 40 tx :: zk_L 20 cu :: zk_I 160 le :: zk_I 64 la :: zk_I 64 sz :: zk_L 1280 co :: zk_I 24 wh :: zk_I 24 wt :: zk_I 24 ma :: zk_I 24 bk :: zk_L 480 wr :: zk_I 50 lf :: zk_I 50 f2 :: r) ∧ mo_is f2 (v * q)) := by
  obtain ⟨F, hF, hf, hw⟩ := hv
  refine zw_Met.post (c_Mo_timesR0 hq hF hf) (fun r2 w2 hp => ?_)
  obtain ⟨rfl, rfl⟩ := hp
  refine ⟨rfl, _, rfl, fun j => (F j * q + wv_c 1000 q F j) % 1000, fun j _ => Nat.mod_lt _ (by decide), fun j hj => if_pos hj, ?_⟩
  rw [wv_prod (by decide) (by rw [hw]; exact hb), hw]
def mo_D (L : Nat → Nat) (c : Nat) : Nat := mo_sum L c (fun _ => 1) 32
noncomputable def mo_E (L Z : Nat → Nat) (co : Nat → Int64) (c : Nat) : Nat := mo_sum L c Z 32 + (mo_voc L Z co 32 0 + 1)
def mo_N (L Z : Nat → Nat) (co : Nat → Int64) (s : wt_S) (c k : Nat) : Nat := mo_often L Z co c (lN (we_b (s.2.1 k))) + 1
noncomputable def mo_sg (L Z : Nat → Nat) (co : Nat → Int64) (s : wt_S) : Nat → Nat → Int32 := zc_sgn (mo_D L) (mo_E L Z co) (mo_N L Z co s) s.1
theorem mo_fit : 10 * 80601 ^ 20 < 1000 ^ 50 ∧ 10 * 80601 ^ 19 * 201 < 1000 ^ 50 := by decide +kernel
theorem mo_11 : (11 : Nat) < 1000 ^ 50 := by decide +kernel
theorem mo_fit1 {d de k : Nat} {nu : Nat → Nat} (hd : d ≤ 10) (hn : ∀ j, j < k + 1 → nu j ≤ 201) (he : de ≤ 401) (hk : k < 20) : zc_prod d nu de k * nu k < 1000 ^ 50 := by
  have h1 := zc_prod_le hd (fun j hj => hn j (by omega)) he (k := k)
  have h2 : 80601 ^ k ≤ 80601 ^ 19 := Nat.pow_le_pow_right (by decide) (by omega)
  have h3 : zc_prod d nu de k * nu k ≤ 10 * 80601 ^ k * 201 := Nat.mul_le_mul h1 (hn k (by omega))
  have h4 := mo_fit.2
  have h5 : 10 * 80601 ^ k * 201 ≤ 10 * 80601 ^ 19 * 201 := Nat.mul_le_mul_right _ (Nat.mul_le_mul_left _ h2)
  omega
theorem mo_fit2 {d de k : Nat} {nu : Nat → Nat} (hd : d ≤ 10) (hn : ∀ j, j < k → nu j ≤ 201) (he : de ≤ 401) (hk : k ≤ 20) : zc_prod d nu de k < 1000 ^ 50 := by
  have h1 := zc_prod_le hd hn he
  have h2 := zc_pow hk
  have h3 := mo_fit.1
  omega
set_option maxHeartbeats 4000000 in
set_option maxRecDepth 100000 in
theorem c_Mo_against {G : zw_G} {c0 c1 c2 c3 c4 c5 c6 c7 c8 c9 c10 c11 c12 c13 c14 c15 c16 c17 c18 c19 c20 c21 c22 c23 c24 : zw_C} {n ty wo ch : Nat} {tx le la sz wh wt ma bk lf rt : Nat → Int32} {cu co wr : Nat → Int64} {r : zw_W} {L : Nat → Nat} (hla : ∀ i, i < 64 → la i = nI (L i) ∧ L i < 1000) {Z : Nat → Nat} (hsz : ∀ i, i < 64 → sz i = nI (Z i) ∧ Z i ≤ 20) {x : Nat → Nat} (hty : ty ≤ 40) (hx : ∀ i, i < ty → tx i = nI (x i)) (hx16 : ∀ i, i < ty → x i < 65536) (hn4 : n ≤ 4) (hD : ∀ c, c < n → mo_D L c ≤ 10) (hE : ∀ c, c < n → mo_E L Z co c ≤ 401) (hN : ∀ c, c < n → ∀ k, k < (wt_of x ty).1 → mo_N L Z co (wt_of x ty) c k ≤ 201) {a b : Nat} (ha : a < n) (hb : b < n) : zw_Met G Y_Mo_against 2 0 0 [.ref 26, .int (nI a), .int (nI b)] (c0 :: c1 :: c2 :: c3 :: c4 :: c5 :: c6 :: c7 :: c8 :: c9 :: c10 :: c11 :: c12 :: c13 :: c14 :: c15 :: c16 :: c17 :: c18 :: c19 :: c20 :: c21 :: c22 :: c23 :: c24 :: zk_Mo n ty wo ch :: zk_I 40 tx :: zk_L 20 cu :: zk_I 160 le :: zk_I 64 la :: zk_I 64 sz :: zk_L 1280 co :: zk_I 24 wh :: zk_I 24 wt :: zk_I 24 ma :: zk_I 24 bk :: zk_L 480 wr :: zk_I 50 lf :: zk_I 50 rt :: r) (fun v w2 => v = some (.int (mo_sg L Z co (wt_of x ty) a b)) ∧ ∃ (wo2 : Nat) (cu2 : Nat → Int64) (le2 lf2 rt2 : Nat → Int32), w2 = (c0 :: c1 :: c2 :: c3 :: c4 :: c5 :: c6 :: c7 :: c8 :: c9 :: c10 :: c11 :: c12 :: c13 :: c14 :: c15 :: c16 :: c17 :: c18 :: c19 :: c20 :: c21 :: c22 :: c23 :: c24 :: zk_Mo n ty wo2 ch :: zk_I 40 tx :: zk_L 20 cu2 :: zk_I 160 le2 :: zk_I 64 la :: zk_I 64 sz :: zk_L 1280 co :: zk_I 24 wh :: zk_I 24 wt :: zk_I 24 ma :: zk_I 24 bk :: zk_L 480 wr :: zk_I 50 lf2 :: zk_I 50 rt2 :: r)) := by
  have key3 : ∀ (cu2 : Nat → Int64) (le2 lf3 rt3 : Nat → Int32), mo_is lf3 (zc_side (mo_D L) (mo_E L Z co) (mo_N L Z co (wt_of x ty)) (wt_of x ty).1 a b) → mo_is rt3 (zc_side (mo_D L) (mo_E L Z co) (mo_N L Z co (wt_of x ty)) (wt_of x ty).1 b a) → zw_Z G Y_Mo_against (zw_R 2 0 0) (fun _ => True) (zw_Q G 0 0 (fun v w2 => v = some (.int (mo_sg L Z co (wt_of x ty) a b)) ∧ ∃ (wo2 : Nat) (cu2 : Nat → Int64) (le2 lf2 rt2 : Nat → Int32), w2 = (c0 :: c1 :: c2 :: c3 :: c4 :: c5 :: c6 :: c7 :: c8 :: c9 :: c10 :: c11 :: c12 :: c13 :: c14 :: c15 :: c16 :: c17 :: c18 :: c19 :: c20 :: c21 :: c22 :: c23 :: c24 :: zk_Mo n ty wo2 ch :: zk_I 40 tx :: zk_L 20 cu2 :: zk_I 160 le2 :: zk_I 64 la :: zk_I 64 sz :: zk_L 1280 co :: zk_I 24 wh :: zk_I 24 wt :: zk_I 24 ma :: zk_I 24 bk :: zk_L 480 wr :: zk_I 50 lf2 :: zk_I 50 rt2 :: r))) 0 0 167 [some (.ref 26), some (.int (nI a)), some (.int (nI b)), some (.int (nI (mo_voc L Z co 32 0 + 1))), some (.int (nI (mo_E L Z co a))), some (.int (nI (mo_E L Z co b))), some (.int (zf_dn 50))] [] (c0 :: c1 :: c2 :: c3 :: c4 :: c5 :: c6 :: c7 :: c8 :: c9 :: c10 :: c11 :: c12 :: c13 :: c14 :: c15 :: c16 :: c17 :: c18 :: c19 :: c20 :: c21 :: c22 :: c23 :: c24 :: zk_Mo n ty (wt_of x ty).1 ch :: zk_I 40 tx :: zk_L 20 cu2 :: zk_I 160 le2 :: zk_I 64 la :: zk_I 64 sz :: zk_L 1280 co :: zk_I 24 wh :: zk_I 24 wt :: zk_I 24 ma :: zk_I 24 bk :: zk_L 480 wr :: zk_I 50 lf3 :: zk_I 50 rt3 :: r) := by
    intro cu2 le2 lf3 rt3 hl3 hr3
    obtain ⟨F1, d1, f1, v1⟩ := hl3
    obtain ⟨F2, d2, f2, v2⟩ := hr3
    have key : ∀ k, k ≤ 50 → (∀ j, k ≤ j → j < 50 → F1 j = F2 j) → zw_Z G Y_Mo_against (zw_R 2 0 0) (fun _ => True) (zw_Q G 0 0 (fun v w2 => v = some (.int (mo_sg L Z co (wt_of x ty) a b)) ∧ ∃ (wo2 : Nat) (cu2 : Nat → Int64) (le2 lf2 rt2 : Nat → Int32), w2 = (c0 :: c1 :: c2 :: c3 :: c4 :: c5 :: c6 :: c7 :: c8 :: c9 :: c10 :: c11 :: c12 :: c13 :: c14 :: c15 :: c16 :: c17 :: c18 :: c19 :: c20 :: c21 :: c22 :: c23 :: c24 :: zk_Mo n ty wo2 ch :: zk_I 40 tx :: zk_L 20 cu2 :: zk_I 160 le2 :: zk_I 64 la :: zk_I 64 sz :: zk_L 1280 co :: zk_I 24 wh :: zk_I 24 wt :: zk_I 24 ma :: zk_I 24 bk :: zk_L 480 wr :: zk_I 50 lf2 :: zk_I 50 rt2 :: r))) 0 0 167 [some (.ref 26), some (.int (nI a)), some (.int (nI b)), some (.int (nI (mo_voc L Z co 32 0 + 1))), some (.int (nI (mo_E L Z co a))), some (.int (nI (mo_E L Z co b))), some (.int (zf_dn k))] [] (c0 :: c1 :: c2 :: c3 :: c4 :: c5 :: c6 :: c7 :: c8 :: c9 :: c10 :: c11 :: c12 :: c13 :: c14 :: c15 :: c16 :: c17 :: c18 :: c19 :: c20 :: c21 :: c22 :: c23 :: c24 :: zk_Mo n ty (wt_of x ty).1 ch :: zk_I 40 tx :: zk_L 20 cu2 :: zk_I 160 le2 :: zk_I 64 la :: zk_I 64 sz :: zk_L 1280 co :: zk_I 24 wh :: zk_I 24 wt :: zk_I 24 ma :: zk_I 24 bk :: zk_L 480 wr :: zk_I 50 lf3 :: zk_I 50 rt3 :: r) := by
      intro k
      induction k with
      | zero =>
        intro _ hab
        refine zr_iload dMo_against_167 rfl ?_
        refine zr_if_lt (tgt := 218) dMo_against_169 (by decide) (fun h169 => ?_) (fun h169 => ?_)
        · refine zr_iconst (v := nI 0) dMo_against_218 (by decide) ?_
          exact zr_ireturn dMo_against_219 rfl rfl (⟨congrArg (fun x => some (Value.int x)) (show mo_sg L Z co (wt_of x ty) a b = 0 from if_pos (by rw [← v1, ← v2]; exact wv_congr fun j hj => hab j (Nat.zero_le _) hj)).symm, _, cu2, le2, lf3, rt3, rfl⟩)
        · exact absurd (show (-1 : Int32) < 0 by decide) h169
      | succ k ih =>
        intro hk hab
        refine zr_iload dMo_against_167 rfl ?_
        refine zr_if_ltN (tgt := 218) (by omega) dMo_against_169 (by decide) (fun h169 => ?_) (fun h169 => ?_)
        · exact h169.elim
        · refine zr_aload_n dMo_against_172 rfl rfl ?_
          refine zr_getf g_Mo_44 dMo_against_173 rfl rfl ?_
          refine zr_iload dMo_against_176 rfl ?_
          refine zr_iald dMo_against_178 rfl (by omega) (by decide) ?_
          refine zr_topI (f1 k (by omega)) ?_
          refine zr_aload_n dMo_against_179 rfl rfl ?_
          refine zr_getf g_Mo_47 dMo_against_180 rfl rfl ?_
          refine zr_iload dMo_against_183 rfl ?_
          refine zr_iald dMo_against_185 rfl (by omega) (by decide) ?_
          refine zr_topI (f2 k (by omega)) ?_
          refine zr_icmp_eqN (tgt := 212) (by have := d1 k (by omega); omega) (by have := d2 k (by omega); omega) dMo_against_186 (by decide) (fun h186 => ?_) (fun h186 => ?_)
          · refine zr_iinc (v := zf_dn k) dMo_against_212 rfl (zf_dn_step k) (by decide) ?_
            refine zr_goto (tgt := 167) dMo_against_215 (by decide) ?_
            refine ih (by omega) (fun j h1 h2 => ?_)
            by_cases e : j = k
            · rw [e]; exact h186
            · exact hab j (by omega) h2
          · refine zr_aload_n dMo_against_189 rfl rfl ?_
            refine zr_getf g_Mo_44 dMo_against_190 rfl rfl ?_
            refine zr_iload dMo_against_193 rfl ?_
            refine zr_iald dMo_against_195 rfl (by omega) (by decide) ?_
            refine zr_topI (f1 k (by omega)) ?_
            refine zr_aload_n dMo_against_196 rfl rfl ?_
            refine zr_getf g_Mo_47 dMo_against_197 rfl rfl ?_
            refine zr_iload dMo_against_200 rfl ?_
            refine zr_iald dMo_against_202 rfl (by omega) (by decide) ?_
            refine zr_topI (f2 k (by omega)) ?_
            refine zr_icmp_leN (tgt := 210) (by have := d1 k (by omega); omega) (by have := d2 k (by omega); omega) dMo_against_203 (by decide) (fun h203 => ?_) (fun h203 => ?_)
            · have hw := wv_cmp d1 (by omega) (fun j h1 h2 => hab j (by omega) h2) (show F1 k < F2 k by omega)
              rw [v1, v2] at hw
              have hv : mo_sg L Z co (wt_of x ty) a b = -1 := (if_neg (by omega)).trans (if_neg (by omega))
              refine zr_iconst (v := (-1)) dMo_against_210 (by decide) ?_
              exact zr_ireturn dMo_against_211 rfl rfl (⟨congrArg (fun x => some (Value.int x)) hv.symm, _, cu2, le2, lf3, rt3, rfl⟩)
            · have hw := wv_cmp d2 (by omega) (fun j h1 h2 => (hab j (by omega) h2).symm) h203
              rw [v1, v2] at hw
              have hv : mo_sg L Z co (wt_of x ty) a b = 1 := (if_neg (by omega)).trans (if_pos hw)
              refine zr_iconst (v := nI 1) dMo_against_206 (by decide) ?_
              refine zr_goto (tgt := 211) dMo_against_207 (by decide) ?_
              exact zr_ireturn dMo_against_211 rfl rfl (⟨congrArg (fun x => some (Value.int x)) hv.symm, _, cu2, le2, lf3, rt3, rfl⟩)
    exact key 50 (Nat.le_refl 50) (fun j h1 h2 => by omega)
  have key2 : ∀ (cu2 : Nat → Int64) (le2 : Nat → Int32), mr_ok (wt_of x ty) cu2 le2 → ∀ (lf3 rt3 : Nat → Int32), mo_is lf3 (mo_D L a) → mo_is rt3 (mo_D L b) → zw_Z G Y_Mo_against (zw_R 2 0 0) (fun _ => True) (zw_Q G 0 0 (fun v w2 => v = some (.int (mo_sg L Z co (wt_of x ty) a b)) ∧ ∃ (wo2 : Nat) (cu2 : Nat → Int64) (le2 lf2 rt2 : Nat → Int32), w2 = (c0 :: c1 :: c2 :: c3 :: c4 :: c5 :: c6 :: c7 :: c8 :: c9 :: c10 :: c11 :: c12 :: c13 :: c14 :: c15 :: c16 :: c17 :: c18 :: c19 :: c20 :: c21 :: c22 :: c23 :: c24 :: zk_Mo n ty wo2 ch :: zk_I 40 tx :: zk_L 20 cu2 :: zk_I 160 le2 :: zk_I 64 la :: zk_I 64 sz :: zk_L 1280 co :: zk_I 24 wh :: zk_I 24 wt :: zk_I 24 ma :: zk_I 24 bk :: zk_L 480 wr :: zk_I 50 lf2 :: zk_I 50 rt2 :: r))) 0 0 96 [some (.ref 26), some (.int (nI a)), some (.int (nI b)), some (.int (nI (mo_voc L Z co 32 0 + 1))), some (.int (nI (mo_E L Z co a))), some (.int (nI (mo_E L Z co b))), some (.int (nI 0))] [] (c0 :: c1 :: c2 :: c3 :: c4 :: c5 :: c6 :: c7 :: c8 :: c9 :: c10 :: c11 :: c12 :: c13 :: c14 :: c15 :: c16 :: c17 :: c18 :: c19 :: c20 :: c21 :: c22 :: c23 :: c24 :: zk_Mo n ty (wt_of x ty).1 ch :: zk_I 40 tx :: zk_L 20 cu2 :: zk_I 160 le2 :: zk_I 64 la :: zk_I 64 sz :: zk_L 1280 co :: zk_I 24 wh :: zk_I 24 wt :: zk_I 24 ma :: zk_I 24 bk :: zk_L 480 wr :: zk_I 50 lf3 :: zk_I 50 rt3 :: r) := by
    intro cu2 le2 hmr
    have key : ∀ k, k ≤ (wt_of x ty).1 → ∀ (lf3 rt3 : Nat → Int32), mo_is lf3 (zc_prod (mo_D L a) (mo_N L Z co (wt_of x ty) a) (mo_E L Z co b) k) → mo_is rt3 (zc_prod (mo_D L b) (mo_N L Z co (wt_of x ty) b) (mo_E L Z co a) k) → zw_Z G Y_Mo_against (zw_R 2 0 0) (fun _ => True) (zw_Q G 0 0 (fun v w2 => v = some (.int (mo_sg L Z co (wt_of x ty) a b)) ∧ ∃ (wo2 : Nat) (cu2 : Nat → Int64) (le2 lf2 rt2 : Nat → Int32), w2 = (c0 :: c1 :: c2 :: c3 :: c4 :: c5 :: c6 :: c7 :: c8 :: c9 :: c10 :: c11 :: c12 :: c13 :: c14 :: c15 :: c16 :: c17 :: c18 :: c19 :: c20 :: c21 :: c22 :: c23 :: c24 :: zk_Mo n ty wo2 ch :: zk_I 40 tx :: zk_L 20 cu2 :: zk_I 160 le2 :: zk_I 64 la :: zk_I 64 sz :: zk_L 1280 co :: zk_I 24 wh :: zk_I 24 wt :: zk_I 24 ma :: zk_I 24 bk :: zk_L 480 wr :: zk_I 50 lf2 :: zk_I 50 rt2 :: r))) 0 0 96 [some (.ref 26), some (.int (nI a)), some (.int (nI b)), some (.int (nI (mo_voc L Z co 32 0 + 1))), some (.int (nI (mo_E L Z co a))), some (.int (nI (mo_E L Z co b))), some (.int (nI k))] [] (c0 :: c1 :: c2 :: c3 :: c4 :: c5 :: c6 :: c7 :: c8 :: c9 :: c10 :: c11 :: c12 :: c13 :: c14 :: c15 :: c16 :: c17 :: c18 :: c19 :: c20 :: c21 :: c22 :: c23 :: c24 :: zk_Mo n ty (wt_of x ty).1 ch :: zk_I 40 tx :: zk_L 20 cu2 :: zk_I 160 le2 :: zk_I 64 la :: zk_I 64 sz :: zk_L 1280 co :: zk_I 24 wh :: zk_I 24 wt :: zk_I 24 ma :: zk_I 24 bk :: zk_L 480 wr :: zk_I 50 lf3 :: zk_I 50 rt3 :: r) := by
      refine wz_up (wt_of x ty).1 (fun k hk ih => ?_) ?_
      · intro lf3 rt3 hl3 hr3
        have hw20 := wt_of_le x hty
        have a1 := mo_fit1 (hD a ha) (fun j hj => hN a ha j (by omega)) (hE b hb) (k := k) (by omega)
        have a2 := mo_fit2 (hD a ha) (fun j hj => hN a ha j (by omega)) (hE b hb) (k := k + 1) (by omega)
        have b1 := mo_fit1 (hD b hb) (fun j hj => hN b hb j (by omega)) (hE a ha) (k := k) (by omega)
        have b2 := mo_fit2 (hD b hb) (fun j hj => hN b hb j (by omega)) (hE a ha) (k := k + 1) (by omega)
        have na := hN a ha k hk
        have nb := hN b hb k hk
        have ea := hE a ha
        have eb := hE b hb
        refine zr_iload dMo_against_96 rfl ?_
        refine zr_aload_n dMo_against_98 rfl rfl ?_
        refine zr_getf g_Mo_57 dMo_against_99 rfl rfl ?_
        refine zr_icmp_geN (tgt := 163) (by omega) (by omega) dMo_against_102 (by decide) (fun h102 => ?_) (fun h102 => ?_)
        · exfalso; omega
        · refine zr_aload_n dMo_against_105 rfl rfl ?_
          refine zr_iconst (v := nI 1) dMo_against_106 (by decide) ?_
          refine zr_aload_n dMo_against_107 rfl rfl ?_
          refine zr_iload_n dMo_against_108 rfl ?_
          refine zr_aload_n dMo_against_109 rfl rfl ?_
          refine zr_getf g_Mo_13 dMo_against_110 rfl rfl ?_
          refine zr_iload dMo_against_113 rfl ?_
          refine zr_lald dMo_against_115 rfl (by have := wt_of_le x hty; omega) (by decide) ?_
          refine zr_topL (hmr.1 k hk) ?_
          refine zr_invV (c_Mo_howOften hla hsz (by omega)) m_Mo_howOften k_Mo_98 v_Mo_howOften rfl rfl dMo_against_116 rfl (Nat.le_of_ble_eq_true rfl) (by decide) (Nat.le_of_ble_eq_true rfl) rfl (fun v w2 hp => ?_)
          obtain ⟨rfl, rfl⟩ := hp
          refine ⟨rfl, ?_⟩
          refine zr_iconst (v := nI 1) dMo_against_119 (by decide) ?_
          refine zr_iaddN dMo_against_120 ?_
          refine zr_invV (c_Mo_timesL (by show mo_N L Z co (wt_of x ty) a k ≤ 1000; omega) hl3 a1) m_Mo_times k_Mo_115 v_Mo_times rfl rfl dMo_against_121 rfl (Nat.le_of_ble_eq_true rfl) (by decide) (Nat.le_of_ble_eq_true rfl) rfl (fun v w2 hp => ?_)
          obtain ⟨rfl, lf4, rfl, hl4⟩ := hp
          refine ⟨rfl, ?_⟩
          refine zr_aload_n dMo_against_124 rfl rfl ?_
          refine zr_iconst (v := nI 1) dMo_against_125 (by decide) ?_
          refine zr_iload dMo_against_126 rfl ?_
          refine zr_invV (c_Mo_timesL (by omega) hl4 a2) m_Mo_times k_Mo_115 v_Mo_times rfl rfl dMo_against_128 rfl (Nat.le_of_ble_eq_true rfl) (by decide) (Nat.le_of_ble_eq_true rfl) rfl (fun v w2 hp => ?_)
          obtain ⟨rfl, lf5, rfl, hl5⟩ := hp
          refine ⟨rfl, ?_⟩
          refine zr_aload_n dMo_against_131 rfl rfl ?_
          refine zr_iconst (v := nI 0) dMo_against_132 (by decide) ?_
          refine zr_aload_n dMo_against_133 rfl rfl ?_
          refine zr_iload_n dMo_against_134 rfl ?_
          refine zr_aload_n dMo_against_135 rfl rfl ?_
          refine zr_getf g_Mo_13 dMo_against_136 rfl rfl ?_
          refine zr_iload dMo_against_139 rfl ?_
          refine zr_lald dMo_against_141 rfl (by have := wt_of_le x hty; omega) (by decide) ?_
          refine zr_topL (hmr.1 k hk) ?_
          refine zr_invV (c_Mo_howOften hla hsz (by omega)) m_Mo_howOften k_Mo_98 v_Mo_howOften rfl rfl dMo_against_142 rfl (Nat.le_of_ble_eq_true rfl) (by decide) (Nat.le_of_ble_eq_true rfl) rfl (fun v w2 hp => ?_)
          obtain ⟨rfl, rfl⟩ := hp
          refine ⟨rfl, ?_⟩
          refine zr_iconst (v := nI 1) dMo_against_145 (by decide) ?_
          refine zr_iaddN dMo_against_146 ?_
          refine zr_invV (c_Mo_timesR (by show mo_N L Z co (wt_of x ty) b k ≤ 1000; omega) hr3 b1) m_Mo_times k_Mo_115 v_Mo_times rfl rfl dMo_against_147 rfl (Nat.le_of_ble_eq_true rfl) (by decide) (Nat.le_of_ble_eq_true rfl) rfl (fun v w2 hp => ?_)
          obtain ⟨rfl, rt4, rfl, hr4⟩ := hp
          refine ⟨rfl, ?_⟩
          refine zr_aload_n dMo_against_150 rfl rfl ?_
          refine zr_iconst (v := nI 0) dMo_against_151 (by decide) ?_
          refine zr_iload dMo_against_152 rfl ?_
          refine zr_invV (c_Mo_timesR (by omega) hr4 b2) m_Mo_times k_Mo_115 v_Mo_times rfl rfl dMo_against_154 rfl (Nat.le_of_ble_eq_true rfl) (by decide) (Nat.le_of_ble_eq_true rfl) rfl (fun v w2 hp => ?_)
          obtain ⟨rfl, rt5, rfl, hr5⟩ := hp
          refine ⟨rfl, ?_⟩
          refine zr_iinc (v := nI (k + 1)) dMo_against_157 rfl (nI_1 _) (by decide) ?_
          refine zr_goto (tgt := 96) dMo_against_160 (by decide) ?_
          exact ih _ _ hl5 hr5
      · intro lf3 rt3 hl3 hr3
        have hw20 := wt_of_le x hty
        refine zr_iload dMo_against_96 rfl ?_
        refine zr_aload_n dMo_against_98 rfl rfl ?_
        refine zr_getf g_Mo_57 dMo_against_99 rfl rfl ?_
        refine zr_icmp_geN (tgt := 163) (by omega) (by omega) dMo_against_102 (by decide) (fun h102 => ?_) (fun h102 => ?_)
        · refine zr_bipush (v := nI 49) dMo_against_163 (by decide) ?_
          refine zr_istore dMo_against_165 (by decide) ?_
          exact key3 cu2 le2 lf3 rt3 hl3 hr3
        · exfalso; omega
    exact key 0 (Nat.zero_le _)
  have key1 : ∀ k, k ≤ 50 → zw_Z G Y_Mo_against (zw_R 2 0 0) (fun _ => True) (zw_Q G 0 0 (fun v w2 => v = some (.int (mo_sg L Z co (wt_of x ty) a b)) ∧ ∃ (wo2 : Nat) (cu2 : Nat → Int64) (le2 lf2 rt2 : Nat → Int32), w2 = (c0 :: c1 :: c2 :: c3 :: c4 :: c5 :: c6 :: c7 :: c8 :: c9 :: c10 :: c11 :: c12 :: c13 :: c14 :: c15 :: c16 :: c17 :: c18 :: c19 :: c20 :: c21 :: c22 :: c23 :: c24 :: zk_Mo n ty wo2 ch :: zk_I 40 tx :: zk_L 20 cu2 :: zk_I 160 le2 :: zk_I 64 la :: zk_I 64 sz :: zk_L 1280 co :: zk_I 24 wh :: zk_I 24 wt :: zk_I 24 ma :: zk_I 24 bk :: zk_L 480 wr :: zk_I 50 lf2 :: zk_I 50 rt2 :: r))) 0 0 2 [some (.ref 26), some (.int (nI a)), some (.int (nI b)), some (.int (nI k)), none, none, none] [] (c0 :: c1 :: c2 :: c3 :: c4 :: c5 :: c6 :: c7 :: c8 :: c9 :: c10 :: c11 :: c12 :: c13 :: c14 :: c15 :: c16 :: c17 :: c18 :: c19 :: c20 :: c21 :: c22 :: c23 :: c24 :: zk_Mo n ty wo ch :: zk_I 40 tx :: zk_L 20 cu :: zk_I 160 le :: zk_I 64 la :: zk_I 64 sz :: zk_L 1280 co :: zk_I 24 wh :: zk_I 24 wt :: zk_I 24 ma :: zk_I 24 bk :: zk_L 480 wr :: zk_I 50 (fun j => if j < k then nI (if j = 0 then 1 else 0) else lf j) :: zk_I 50 (fun j => if j < k then nI (if j = 0 then 1 else 0) else rt j) :: r) := by
    refine wz_up 50 (fun k hk ih => ?_) ?_
    · refine zr_iload_n dMo_against_2 rfl ?_
      refine zr_bipush (v := nI 50) dMo_against_3 (by decide) ?_
      refine zr_icmp_geN (tgt := 44) (by omega) (by omega) dMo_against_5 (by decide) (fun h5 => ?_) (fun h5 => ?_)
      · exfalso; omega
      · refine zr_aload_n dMo_against_8 rfl rfl ?_
        refine zr_getf g_Mo_44 dMo_against_9 rfl rfl ?_
        refine zr_iload_n dMo_against_12 rfl ?_
        refine zr_iload_n dMo_against_13 rfl ?_
        refine zr_if_neN (tgt := 21) (by omega) dMo_against_14 (by decide) (fun h14 => ?_) (fun h14 => ?_)
        · refine zr_iconst (v := nI 0) dMo_against_21 (by decide) ?_
          refine zr_iast dMo_against_22 rfl (hk) (by decide) ?_
          refine zr_aload_n dMo_against_23 rfl rfl ?_
          refine zr_getf g_Mo_47 dMo_against_24 rfl rfl ?_
          refine zr_iload_n dMo_against_27 rfl ?_
          refine zr_iload_n dMo_against_28 rfl ?_
          refine zr_if_neN (tgt := 36) (by omega) dMo_against_29 (by decide) (fun h29 => ?_) (fun h29 => ?_)
          · refine zr_iconst (v := nI 0) dMo_against_36 (by decide) ?_
            refine zr_iast dMo_against_37 rfl (hk) (by decide) ?_
            refine zr_wld (w2 := (c0 :: c1 :: c2 :: c3 :: c4 :: c5 :: c6 :: c7 :: c8 :: c9 :: c10 :: c11 :: c12 :: c13 :: c14 :: c15 :: c16 :: c17 :: c18 :: c19 :: c20 :: c21 :: c22 :: c23 :: c24 :: zk_Mo n ty wo ch :: zk_I 40 tx :: zk_L 20 cu :: zk_I 160 le :: zk_I 64 la :: zk_I 64 sz :: zk_L 1280 co :: zk_I 24 wh :: zk_I 24 wt :: zk_I 24 ma :: zk_I 24 bk :: zk_L 480 wr :: zk_I 50 (fun j => if j < (k + 1) then nI (if j = 0 then 1 else 0) else lf j) :: zk_I 50 (fun j => if j < (k + 1) then nI (if j = 0 then 1 else 0) else rt j) :: r)) (by rw [← zf_upI (d := fun j => nI (if j = 0 then 1 else 0)), ← zf_upI (d := fun j => nI (if j = 0 then 1 else 0)), if_neg h14]; rfl) ?_
            refine zr_iinc (v := nI (k + 1)) dMo_against_38 rfl (nI_1 _) (by decide) ?_
            refine zr_goto (tgt := 2) dMo_against_41 (by decide) ?_
            exact ih
          · refine zr_iconst (v := nI 1) dMo_against_32 (by decide) ?_
            refine zr_goto (tgt := 37) dMo_against_33 (by decide) ?_
            refine zr_iast dMo_against_37 rfl (hk) (by decide) ?_
            exact absurd h29 h14
        · refine zr_iconst (v := nI 1) dMo_against_17 (by decide) ?_
          refine zr_goto (tgt := 22) dMo_against_18 (by decide) ?_
          refine zr_iast dMo_against_22 rfl (hk) (by decide) ?_
          refine zr_aload_n dMo_against_23 rfl rfl ?_
          refine zr_getf g_Mo_47 dMo_against_24 rfl rfl ?_
          refine zr_iload_n dMo_against_27 rfl ?_
          refine zr_iload_n dMo_against_28 rfl ?_
          refine zr_if_neN (tgt := 36) (by omega) dMo_against_29 (by decide) (fun h29 => ?_) (fun h29 => ?_)
          · refine zr_iconst (v := nI 0) dMo_against_36 (by decide) ?_
            refine zr_iast dMo_against_37 rfl (hk) (by decide) ?_
            exact absurd h14 h29
          · refine zr_iconst (v := nI 1) dMo_against_32 (by decide) ?_
            refine zr_goto (tgt := 37) dMo_against_33 (by decide) ?_
            refine zr_iast dMo_against_37 rfl (hk) (by decide) ?_
            refine zr_wld (w2 := (c0 :: c1 :: c2 :: c3 :: c4 :: c5 :: c6 :: c7 :: c8 :: c9 :: c10 :: c11 :: c12 :: c13 :: c14 :: c15 :: c16 :: c17 :: c18 :: c19 :: c20 :: c21 :: c22 :: c23 :: c24 :: zk_Mo n ty wo ch :: zk_I 40 tx :: zk_L 20 cu :: zk_I 160 le :: zk_I 64 la :: zk_I 64 sz :: zk_L 1280 co :: zk_I 24 wh :: zk_I 24 wt :: zk_I 24 ma :: zk_I 24 bk :: zk_L 480 wr :: zk_I 50 (fun j => if j < (k + 1) then nI (if j = 0 then 1 else 0) else lf j) :: zk_I 50 (fun j => if j < (k + 1) then nI (if j = 0 then 1 else 0) else rt j) :: r)) (by rw [← zf_upI (d := fun j => nI (if j = 0 then 1 else 0)), ← zf_upI (d := fun j => nI (if j = 0 then 1 else 0)), if_pos h14]; rfl) ?_
            refine zr_iinc (v := nI (k + 1)) dMo_against_38 rfl (nI_1 _) (by decide) ?_
            refine zr_goto (tgt := 2) dMo_against_41 (by decide) ?_
            exact ih
    · refine zr_iload_n dMo_against_2 rfl ?_
      refine zr_bipush (v := nI 50) dMo_against_3 (by decide) ?_
      refine zr_icmp_geN (tgt := 44) (by omega) (by omega) dMo_against_5 (by decide) (fun h5 => ?_) (fun h5 => ?_)
      · refine zr_aload_n dMo_against_44 rfl rfl ?_
        refine zr_invV (c_Mo_vocabulary hla hsz) m_Mo_vocabulary k_Mo_106 v_Mo_vocabulary rfl rfl dMo_against_45 rfl (Nat.le_of_ble_eq_true rfl) (by decide) (Nat.le_of_ble_eq_true rfl) rfl (fun v w2 hp => ?_)
        obtain ⟨rfl, rfl⟩ := hp
        refine ⟨rfl, ?_⟩
        refine zr_iconst (v := nI 1) dMo_against_48 (by decide) ?_
        refine zr_iaddN dMo_against_49 ?_
        refine zr_istore_n dMo_against_50 (by decide) ?_
        refine zr_aload_n dMo_against_51 rfl rfl ?_
        refine zr_iload_n dMo_against_52 rfl ?_
        refine zr_invV (c_Mo_total_of hla hsz hn4 ha) m_Mo_total k_Mo_109 v_Mo_total rfl rfl dMo_against_53 rfl (Nat.le_of_ble_eq_true rfl) (by decide) (Nat.le_of_ble_eq_true rfl) rfl (fun v w2 hp => ?_)
        obtain ⟨rfl, rfl⟩ := hp
        refine ⟨rfl, ?_⟩
        refine zr_iload_n dMo_against_56 rfl ?_
        refine zr_iaddN dMo_against_57 ?_
        refine zr_istore dMo_against_58 (by decide) ?_
        refine zr_aload_n dMo_against_60 rfl rfl ?_
        refine zr_iload_n dMo_against_61 rfl ?_
        refine zr_invV (c_Mo_total_of hla hsz hn4 hb) m_Mo_total k_Mo_109 v_Mo_total rfl rfl dMo_against_62 rfl (Nat.le_of_ble_eq_true rfl) (by decide) (Nat.le_of_ble_eq_true rfl) rfl (fun v w2 hp => ?_)
        obtain ⟨rfl, rfl⟩ := hp
        refine ⟨rfl, ?_⟩
        refine zr_iload_n dMo_against_65 rfl ?_
        refine zr_iaddN dMo_against_66 ?_
        refine zr_istore dMo_against_67 (by decide) ?_
        refine zr_aload_n dMo_against_69 rfl rfl ?_
        refine zr_iconst (v := nI 1) dMo_against_70 (by decide) ?_
        refine zr_aload_n dMo_against_71 rfl rfl ?_
        refine zr_iload_n dMo_against_72 rfl ?_
        refine zr_invV (c_Mo_docs_of hla hn4 ha) m_Mo_documents k_Mo_112 v_Mo_documents rfl rfl dMo_against_73 rfl (Nat.le_of_ble_eq_true rfl) (by decide) (Nat.le_of_ble_eq_true rfl) rfl (fun v w2 hp => ?_)
        obtain ⟨rfl, rfl⟩ := hp
        refine ⟨rfl, ?_⟩
        refine zr_invV (c_Mo_timesL (by have := hD a ha; show mo_D L a ≤ 1000; omega) (show mo_is _ 1 from ⟨fun j => if j = 0 then 1 else 0, fun j _ => by show (if j = 0 then 1 else 0) < 1000; split <;> omega, fun j hj => if_pos hj, by simp [wv]⟩) (by have := hD a ha; have h9 := mo_11; show 1 * mo_D L a < 1000 ^ 50; omega)) m_Mo_times k_Mo_115 v_Mo_times rfl rfl dMo_against_76 rfl (Nat.le_of_ble_eq_true rfl) (by decide) (Nat.le_of_ble_eq_true rfl) rfl (fun v w2 hp => ?_)
        obtain ⟨rfl, lf4, rfl, hl4⟩ := hp
        refine ⟨rfl, ?_⟩
        refine zr_aload_n dMo_against_79 rfl rfl ?_
        refine zr_iconst (v := nI 0) dMo_against_80 (by decide) ?_
        refine zr_aload_n dMo_against_81 rfl rfl ?_
        refine zr_iload_n dMo_against_82 rfl ?_
        refine zr_invV (c_Mo_docs_of hla hn4 hb) m_Mo_documents k_Mo_112 v_Mo_documents rfl rfl dMo_against_83 rfl (Nat.le_of_ble_eq_true rfl) (by decide) (Nat.le_of_ble_eq_true rfl) rfl (fun v w2 hp => ?_)
        obtain ⟨rfl, rfl⟩ := hp
        refine ⟨rfl, ?_⟩
        refine zr_invV (c_Mo_timesR (by have := hD b hb; show mo_D L b ≤ 1000; omega) (show mo_is _ 1 from ⟨fun j => if j = 0 then 1 else 0, fun j _ => by show (if j = 0 then 1 else 0) < 1000; split <;> omega, fun j hj => if_pos hj, by simp [wv]⟩) (by have := hD b hb; have h9 := mo_11; show 1 * mo_D L b < 1000 ^ 50; omega)) m_Mo_times k_Mo_115 v_Mo_times rfl rfl dMo_against_86 rfl (Nat.le_of_ble_eq_true rfl) (by decide) (Nat.le_of_ble_eq_true rfl) rfl (fun v w2 hp => ?_)
        obtain ⟨rfl, rt4, rfl, hr4⟩ := hp
        refine ⟨rfl, ?_⟩
        refine zr_aload_n dMo_against_89 rfl rfl ?_
        refine zr_invV (c_Mo_read hty hx hx16) m_Mo_read k_Mo_66 v_Mo_read rfl rfl dMo_against_90 rfl (Nat.le_of_ble_eq_true rfl) (by decide) (Nat.le_of_ble_eq_true rfl) rfl (fun v w2 hp => ?_)
        obtain ⟨rfl, cu2, le2, rfl, hmr⟩ := hp
        refine ⟨rfl, ?_⟩
        refine zr_iconst (v := nI 0) dMo_against_93 (by decide) ?_
        refine zr_istore dMo_against_94 (by decide) ?_
        rw [Nat.one_mul] at hl4 hr4
        exact key2 cu2 le2 hmr lf4 rt4 hl4 hr4
      · exfalso; omega
  show zw_Z G Y_Mo_against _ _ _ 0 0 0 [some (.ref 26), some (.int (nI a)), some (.int (nI b)), none, none, none, none] [] _
  refine zr_iconst (v := nI 0) dMo_against_0 (by decide) ?_
  refine zr_istore_n dMo_against_1 (by decide) ?_
  refine zr_wld (w2 := (c0 :: c1 :: c2 :: c3 :: c4 :: c5 :: c6 :: c7 :: c8 :: c9 :: c10 :: c11 :: c12 :: c13 :: c14 :: c15 :: c16 :: c17 :: c18 :: c19 :: c20 :: c21 :: c22 :: c23 :: c24 :: zk_Mo n ty wo ch :: zk_I 40 tx :: zk_L 20 cu :: zk_I 160 le :: zk_I 64 la :: zk_I 64 sz :: zk_L 1280 co :: zk_I 24 wh :: zk_I 24 wt :: zk_I 24 ma :: zk_I 24 bk :: zk_L 480 wr :: zk_I 50 (fun j => if j < 0 then nI (if j = 0 then 1 else 0) else lf j) :: zk_I 50 (fun j => if j < 0 then nI (if j = 0 then 1 else 0) else rt j) :: r)) (by rw [zf_if0 (d := fun j => nI (if j = 0 then 1 else 0)), zf_if0 (d := fun j => nI (if j = 0 then 1 else 0))]) ?_
  exact key1 0 (Nat.zero_le 50)
