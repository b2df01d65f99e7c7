/-! Letters -/
def zf_code (k : Nat) : Int32 := if k = 0 then -1 else nI k
def zf_at (x : Nat) (i : Int32) : Int32 := if i < 0 ∨ ¬ i < nI 8 then -1 else zf_code (x / 2 ^ (8 * i.toNatClampNeg) % 256)
theorem zf_rng {x : Int32} {n : Nat} (hn : n < 2 ^ 31) (h0 : ¬ x < 0) (h1 : x < nI n) : ∃ j : Nat, j < n ∧ x = nI j := by
  rcases pk_ix x hn with h | h | h
  · exact absurd h h0
  · exact absurd h (Int32.not_le.mpr h1)
  · exact h
theorem zf_and255 (n : Nat) : nI n &&& nI 255 = nI (n % 256) := by
  rw [pk_and (nI n) (m := nI 255) 8 (by decide)]
  have h : (nI n).toBitVec.toNat = n % 2 ^ 32 := by
    show (BitVec.ofNat 32 n).toNat = _
    rw [BitVec.toNat_ofNat]
  rw [h]
  congr 1
  omega
abbrev zk_L (n : Nat) (f : Nat → Int64) : zw_C := .inl (1, n, .inr (.inl f))
abbrev zk_I (n : Nat) (f : Nat → Int32) : zw_C := .inl (0, n, .inl f)
abbrev zk_D (n : Nat) (g : Nat → Option Nat) : zw_C := .inl (2, n, .inr (.inr (.inr (.inr g))))
abbrev zk_A (n : Nat) (g : Nat → Option Nat) : zw_C := .inl (3, n, .inr (.inr (.inr (.inr g))))
set_option maxHeartbeats 4000000 in
set_option maxRecDepth 100000 in
theorem c_Letters_fold {G : zw_G} {w : zw_W} {c : Nat} (hc : c < 65536) : zw_Met G Y_Letters_fold 1 0 0 [.int (nI c)] (w) (zw_is (some (.int (zf_code (wf_fold c)))) w) := by
  show zw_Z G Y_Letters_fold _ _ _ 0 0 0 [some (.int (nI c)), none] [] _
  refine zr_iload_n dLetters_fold_0 rfl ?_
  refine zr_bipush (v := nI 65) dLetters_fold_1 (by decide) ?_
  refine zr_icmp_ltN (tgt := 20) (by omega) (by omega) dLetters_fold_3 (by decide) (fun h3 => ?_) (fun h3 => ?_)
  · refine zr_iload_n dLetters_fold_20 rfl ?_
    refine zr_bipush (v := nI 97) dLetters_fold_21 (by decide) ?_
    refine zr_icmp_ltN (tgt := 32) (by omega) (by omega) dLetters_fold_23 (by decide) (fun h23 => ?_) (fun h23 => ?_)
    · refine zr_iload_n dLetters_fold_32 rfl ?_
      refine zr_bipush (v := nI 48) dLetters_fold_33 (by decide) ?_
      refine zr_icmp_ltN (tgt := 48) (by omega) (by omega) dLetters_fold_35 (by decide) (fun h35 => ?_) (fun h35 => ?_)
      · refine zr_iconst (v := nI 0) dLetters_fold_48 (by decide) ?_
        refine zr_istore_n dLetters_fold_49 (by decide) ?_
        refine zr_iload_n dLetters_fold_50 rfl ?_
        refine zr_if_eqN (tgt := 58) (by omega) dLetters_fold_51 (by decide) (fun h51 => ?_) (fun h51 => ?_)
        · refine zr_iconst (v := (-1)) dLetters_fold_58 (by decide) ?_
          exact zr_ireturn dLetters_fold_59 rfl rfl (⟨congrArg (fun x => some (Value.int x)) (by unfold zf_code wf_fold; (repeat' split) <;> first | rfl | (exfalso; omega) | (congr 1; omega) | omega), rfl⟩)
        · exact absurd h51 (by decide)
      · refine zr_iload_n dLetters_fold_38 rfl ?_
        refine zr_bipush (v := nI 57) dLetters_fold_39 (by decide) ?_
        refine zr_icmp_gtN (tgt := 48) (by omega) (by omega) dLetters_fold_41 (by decide) (fun h41 => ?_) (fun h41 => ?_)
        · refine zr_iconst (v := nI 0) dLetters_fold_48 (by decide) ?_
          refine zr_istore_n dLetters_fold_49 (by decide) ?_
          refine zr_iload_n dLetters_fold_50 rfl ?_
          refine zr_if_eqN (tgt := 58) (by omega) dLetters_fold_51 (by decide) (fun h51 => ?_) (fun h51 => ?_)
          · refine zr_iconst (v := (-1)) dLetters_fold_58 (by decide) ?_
            exact zr_ireturn dLetters_fold_59 rfl rfl (⟨congrArg (fun x => some (Value.int x)) (by unfold zf_code wf_fold; (repeat' split) <;> first | rfl | (exfalso; omega) | (congr 1; omega) | omega), rfl⟩)
          · exact absurd h51 (by decide)
        · refine zr_iconst (v := nI 1) dLetters_fold_44 (by decide) ?_
          refine zr_goto (tgt := 49) dLetters_fold_45 (by decide) ?_
          refine zr_istore_n dLetters_fold_49 (by decide) ?_
          refine zr_iload_n dLetters_fold_50 rfl ?_
          refine zr_if_eqN (tgt := 58) (by omega) dLetters_fold_51 (by decide) (fun h51 => ?_) (fun h51 => ?_)
          · exact absurd h51 (by decide)
          · refine zr_iload_n dLetters_fold_54 rfl ?_
            refine zr_goto (tgt := 59) dLetters_fold_55 (by decide) ?_
            exact zr_ireturn dLetters_fold_59 rfl rfl (⟨congrArg (fun x => some (Value.int x)) (by unfold zf_code wf_fold; (repeat' split) <;> first | rfl | (exfalso; omega) | (congr 1; omega) | omega), rfl⟩)
    · refine zr_iload_n dLetters_fold_26 rfl ?_
      refine zr_bipush (v := nI 122) dLetters_fold_27 (by decide) ?_
      refine zr_icmp_leN (tgt := 44) (by omega) (by omega) dLetters_fold_29 (by decide) (fun h29 => ?_) (fun h29 => ?_)
      · refine zr_iconst (v := nI 1) dLetters_fold_44 (by decide) ?_
        refine zr_goto (tgt := 49) dLetters_fold_45 (by decide) ?_
        refine zr_istore_n dLetters_fold_49 (by decide) ?_
        refine zr_iload_n dLetters_fold_50 rfl ?_
        refine zr_if_eqN (tgt := 58) (by omega) dLetters_fold_51 (by decide) (fun h51 => ?_) (fun h51 => ?_)
        · exact absurd h51 (by decide)
        · refine zr_iload_n dLetters_fold_54 rfl ?_
          refine zr_goto (tgt := 59) dLetters_fold_55 (by decide) ?_
          exact zr_ireturn dLetters_fold_59 rfl rfl (⟨congrArg (fun x => some (Value.int x)) (by unfold zf_code wf_fold; (repeat' split) <;> first | rfl | (exfalso; omega) | (congr 1; omega) | omega), rfl⟩)
      · refine zr_iload_n dLetters_fold_32 rfl ?_
        refine zr_bipush (v := nI 48) dLetters_fold_33 (by decide) ?_
        refine zr_icmp_ltN (tgt := 48) (by omega) (by omega) dLetters_fold_35 (by decide) (fun h35 => ?_) (fun h35 => ?_)
        · refine zr_iconst (v := nI 0) dLetters_fold_48 (by decide) ?_
          refine zr_istore_n dLetters_fold_49 (by decide) ?_
          refine zr_iload_n dLetters_fold_50 rfl ?_
          refine zr_if_eqN (tgt := 58) (by omega) dLetters_fold_51 (by decide) (fun h51 => ?_) (fun h51 => ?_)
          · refine zr_iconst (v := (-1)) dLetters_fold_58 (by decide) ?_
            exact zr_ireturn dLetters_fold_59 rfl rfl (⟨congrArg (fun x => some (Value.int x)) (by unfold zf_code wf_fold; (repeat' split) <;> first | rfl | (exfalso; omega) | (congr 1; omega) | omega), rfl⟩)
          · exact absurd h51 (by decide)
        · refine zr_iload_n dLetters_fold_38 rfl ?_
          refine zr_bipush (v := nI 57) dLetters_fold_39 (by decide) ?_
          refine zr_icmp_gtN (tgt := 48) (by omega) (by omega) dLetters_fold_41 (by decide) (fun h41 => ?_) (fun h41 => ?_)
          · refine zr_iconst (v := nI 0) dLetters_fold_48 (by decide) ?_
            refine zr_istore_n dLetters_fold_49 (by decide) ?_
            refine zr_iload_n dLetters_fold_50 rfl ?_
            refine zr_if_eqN (tgt := 58) (by omega) dLetters_fold_51 (by decide) (fun h51 => ?_) (fun h51 => ?_)
            · refine zr_iconst (v := (-1)) dLetters_fold_58 (by decide) ?_
              exact zr_ireturn dLetters_fold_59 rfl rfl (⟨congrArg (fun x => some (Value.int x)) (by unfold zf_code wf_fold; (repeat' split) <;> first | rfl | (exfalso; omega) | (congr 1; omega) | omega), rfl⟩)
            · exact absurd h51 (by decide)
          · refine zr_iconst (v := nI 1) dLetters_fold_44 (by decide) ?_
            refine zr_goto (tgt := 49) dLetters_fold_45 (by decide) ?_
            refine zr_istore_n dLetters_fold_49 (by decide) ?_
            refine zr_iload_n dLetters_fold_50 rfl ?_
            refine zr_if_eqN (tgt := 58) (by omega) dLetters_fold_51 (by decide) (fun h51 => ?_) (fun h51 => ?_)
            · exact absurd h51 (by decide)
            · refine zr_iload_n dLetters_fold_54 rfl ?_
              refine zr_goto (tgt := 59) dLetters_fold_55 (by decide) ?_
              exact zr_ireturn dLetters_fold_59 rfl rfl (⟨congrArg (fun x => some (Value.int x)) (by unfold zf_code wf_fold; (repeat' split) <;> first | rfl | (exfalso; omega) | (congr 1; omega) | omega), rfl⟩)
  · refine zr_iload_n dLetters_fold_6 rfl ?_
    refine zr_bipush (v := nI 90) dLetters_fold_7 (by decide) ?_
    refine zr_icmp_gtN (tgt := 20) (by omega) (by omega) dLetters_fold_9 (by decide) (fun h9 => ?_) (fun h9 => ?_)
    · refine zr_iload_n dLetters_fold_20 rfl ?_
      refine zr_bipush (v := nI 97) dLetters_fold_21 (by decide) ?_
      refine zr_icmp_ltN (tgt := 32) (by omega) (by omega) dLetters_fold_23 (by decide) (fun h23 => ?_) (fun h23 => ?_)
      · refine zr_iload_n dLetters_fold_32 rfl ?_
        refine zr_bipush (v := nI 48) dLetters_fold_33 (by decide) ?_
        refine zr_icmp_ltN (tgt := 48) (by omega) (by omega) dLetters_fold_35 (by decide) (fun h35 => ?_) (fun h35 => ?_)
        · refine zr_iconst (v := nI 0) dLetters_fold_48 (by decide) ?_
          refine zr_istore_n dLetters_fold_49 (by decide) ?_
          refine zr_iload_n dLetters_fold_50 rfl ?_
          refine zr_if_eqN (tgt := 58) (by omega) dLetters_fold_51 (by decide) (fun h51 => ?_) (fun h51 => ?_)
          · refine zr_iconst (v := (-1)) dLetters_fold_58 (by decide) ?_
            exact zr_ireturn dLetters_fold_59 rfl rfl (⟨congrArg (fun x => some (Value.int x)) (by unfold zf_code wf_fold; (repeat' split) <;> first | rfl | (exfalso; omega) | (congr 1; omega) | omega), rfl⟩)
          · exact absurd h51 (by decide)
        · refine zr_iload_n dLetters_fold_38 rfl ?_
          refine zr_bipush (v := nI 57) dLetters_fold_39 (by decide) ?_
          refine zr_icmp_gtN (tgt := 48) (by omega) (by omega) dLetters_fold_41 (by decide) (fun h41 => ?_) (fun h41 => ?_)
          · refine zr_iconst (v := nI 0) dLetters_fold_48 (by decide) ?_
            refine zr_istore_n dLetters_fold_49 (by decide) ?_
            refine zr_iload_n dLetters_fold_50 rfl ?_
            refine zr_if_eqN (tgt := 58) (by omega) dLetters_fold_51 (by decide) (fun h51 => ?_) (fun h51 => ?_)
            · refine zr_iconst (v := (-1)) dLetters_fold_58 (by decide) ?_
              exact zr_ireturn dLetters_fold_59 rfl rfl (⟨congrArg (fun x => some (Value.int x)) (by unfold zf_code wf_fold; (repeat' split) <;> first | rfl | (exfalso; omega) | (congr 1; omega) | omega), rfl⟩)
            · exact absurd h51 (by decide)
          · refine zr_iconst (v := nI 1) dLetters_fold_44 (by decide) ?_
            refine zr_goto (tgt := 49) dLetters_fold_45 (by decide) ?_
            refine zr_istore_n dLetters_fold_49 (by decide) ?_
            refine zr_iload_n dLetters_fold_50 rfl ?_
            refine zr_if_eqN (tgt := 58) (by omega) dLetters_fold_51 (by decide) (fun h51 => ?_) (fun h51 => ?_)
            · exact absurd h51 (by decide)
            · refine zr_iload_n dLetters_fold_54 rfl ?_
              refine zr_goto (tgt := 59) dLetters_fold_55 (by decide) ?_
              exact zr_ireturn dLetters_fold_59 rfl rfl (⟨congrArg (fun x => some (Value.int x)) (by unfold zf_code wf_fold; (repeat' split) <;> first | rfl | (exfalso; omega) | (congr 1; omega) | omega), rfl⟩)
      · refine zr_iload_n dLetters_fold_26 rfl ?_
        refine zr_bipush (v := nI 122) dLetters_fold_27 (by decide) ?_
        refine zr_icmp_leN (tgt := 44) (by omega) (by omega) dLetters_fold_29 (by decide) (fun h29 => ?_) (fun h29 => ?_)
        · refine zr_iconst (v := nI 1) dLetters_fold_44 (by decide) ?_
          refine zr_goto (tgt := 49) dLetters_fold_45 (by decide) ?_
          refine zr_istore_n dLetters_fold_49 (by decide) ?_
          refine zr_iload_n dLetters_fold_50 rfl ?_
          refine zr_if_eqN (tgt := 58) (by omega) dLetters_fold_51 (by decide) (fun h51 => ?_) (fun h51 => ?_)
          · exact absurd h51 (by decide)
          · refine zr_iload_n dLetters_fold_54 rfl ?_
            refine zr_goto (tgt := 59) dLetters_fold_55 (by decide) ?_
            exact zr_ireturn dLetters_fold_59 rfl rfl (⟨congrArg (fun x => some (Value.int x)) (by unfold zf_code wf_fold; (repeat' split) <;> first | rfl | (exfalso; omega) | (congr 1; omega) | omega), rfl⟩)
        · refine zr_iload_n dLetters_fold_32 rfl ?_
          refine zr_bipush (v := nI 48) dLetters_fold_33 (by decide) ?_
          refine zr_icmp_ltN (tgt := 48) (by omega) (by omega) dLetters_fold_35 (by decide) (fun h35 => ?_) (fun h35 => ?_)
          · refine zr_iconst (v := nI 0) dLetters_fold_48 (by decide) ?_
            refine zr_istore_n dLetters_fold_49 (by decide) ?_
            refine zr_iload_n dLetters_fold_50 rfl ?_
            refine zr_if_eqN (tgt := 58) (by omega) dLetters_fold_51 (by decide) (fun h51 => ?_) (fun h51 => ?_)
            · refine zr_iconst (v := (-1)) dLetters_fold_58 (by decide) ?_
              exact zr_ireturn dLetters_fold_59 rfl rfl (⟨congrArg (fun x => some (Value.int x)) (by unfold zf_code wf_fold; (repeat' split) <;> first | rfl | (exfalso; omega) | (congr 1; omega) | omega), rfl⟩)
            · exact absurd h51 (by decide)
          · refine zr_iload_n dLetters_fold_38 rfl ?_
            refine zr_bipush (v := nI 57) dLetters_fold_39 (by decide) ?_
            refine zr_icmp_gtN (tgt := 48) (by omega) (by omega) dLetters_fold_41 (by decide) (fun h41 => ?_) (fun h41 => ?_)
            · refine zr_iconst (v := nI 0) dLetters_fold_48 (by decide) ?_
              refine zr_istore_n dLetters_fold_49 (by decide) ?_
              refine zr_iload_n dLetters_fold_50 rfl ?_
              refine zr_if_eqN (tgt := 58) (by omega) dLetters_fold_51 (by decide) (fun h51 => ?_) (fun h51 => ?_)
              · refine zr_iconst (v := (-1)) dLetters_fold_58 (by decide) ?_
                exact zr_ireturn dLetters_fold_59 rfl rfl (⟨congrArg (fun x => some (Value.int x)) (by unfold zf_code wf_fold; (repeat' split) <;> first | rfl | (exfalso; omega) | (congr 1; omega) | omega), rfl⟩)
              · exact absurd h51 (by decide)
            · refine zr_iconst (v := nI 1) dLetters_fold_44 (by decide) ?_
              refine zr_goto (tgt := 49) dLetters_fold_45 (by decide) ?_
              refine zr_istore_n dLetters_fold_49 (by decide) ?_
              refine zr_iload_n dLetters_fold_50 rfl ?_
              refine zr_if_eqN (tgt := 58) (by omega) dLetters_fold_51 (by decide) (fun h51 => ?_) (fun h51 => ?_)
              · exact absurd h51 (by decide)
              · refine zr_iload_n dLetters_fold_54 rfl ?_
                refine zr_goto (tgt := 59) dLetters_fold_55 (by decide) ?_
                exact zr_ireturn dLetters_fold_59 rfl rfl (⟨congrArg (fun x => some (Value.int x)) (by unfold zf_code wf_fold; (repeat' split) <;> first | rfl | (exfalso; omega) | (congr 1; omega) | omega), rfl⟩)
    · refine zr_iload_n dLetters_fold_12 rfl ?_
      refine zr_bipush (v := nI 65) dLetters_fold_13 (by decide) ?_
      refine zr_isubN (by omega) dLetters_fold_15 ?_
      refine zr_bipush (v := nI 97) dLetters_fold_16 (by decide) ?_
      refine zr_iaddN dLetters_fold_18 ?_
      exact zr_ireturn dLetters_fold_19 rfl rfl (⟨congrArg (fun x => some (Value.int x)) (by unfold zf_code wf_fold; (repeat' split) <;> first | rfl | (exfalso; omega) | (congr 1; omega) | omega), rfl⟩)
set_option maxHeartbeats 4000000 in
set_option maxRecDepth 100000 in
theorem c_Letters_with {G : zw_G} {w : zw_W} {x i k : Nat} (hi : i < 8) (hk : k < 128) (hx : x < 2 ^ (8 * i)) (hb : x + k * 2 ^ (8 * i) < 2 ^ 64) : zw_Met G Y_Letters_with 1 0 0 [.long (lN x), .int (nI i), .int (nI k)] (w) (zw_is (some (.long (lN (x + k * 2 ^ (8 * i))))) w) := by
  show zw_Z G Y_Letters_with _ _ _ 0 0 0 [some (.long (lN x)), none, some (.int (nI i)), some (.int (nI k))] [] _
  refine zr_lload_n dLetters_with_0 rfl ?_
  refine zr_iload_n dLetters_with_1 rfl ?_
  refine zr_i2l dLetters_with_2 (nI_l (by omega)) ?_
  refine zr_bipush (v := nI 8) dLetters_with_3 (by decide) ?_
  refine zr_iload_n dLetters_with_5 rfl ?_
  refine zr_imulN dLetters_with_6 ?_
  refine zr_lshl dLetters_with_7 (wb_shl _ (by omega)) ?_
  refine zr_lor dLetters_with_8 ?_
  refine zr_topL (g_or' (k := 8 * i) rfl hx hb) ?_
  exact zr_lreturn dLetters_with_9 rfl (⟨rfl, rfl⟩)
set_option maxHeartbeats 4000000 in
set_option maxRecDepth 100000 in
theorem c_Letters_at {G : zw_G} {w : zw_W} {x : Nat} {i : Int32} (hx : x < 2 ^ 63) : zw_Met G Y_Letters_at 1 0 0 [.long (lN x), .int i] (w) (zw_is (some (.int (zf_at x i))) w) := by
  show zw_Z G Y_Letters_at _ _ _ 0 0 0 [some (.long (lN x)), none, some (.int i), none] [] _
  refine zr_iload_n dLetters_at_0 rfl ?_
  refine zr_if_lt (tgt := 10) dLetters_at_1 (by decide) (fun h1 => ?_) (fun h1 => ?_)
  · refine zr_iconst (v := (-1)) dLetters_at_10 (by decide) ?_
    exact zr_ireturn dLetters_at_11 rfl rfl (⟨congrArg (fun x => some (Value.int x)) (by unfold zf_at; rw [if_pos (by first | exact Or.inl h1 | exact Or.inr h7)]), rfl⟩)
  · refine zr_iload_n dLetters_at_4 rfl ?_
    refine zr_bipush (v := nI 8) dLetters_at_5 (by decide) ?_
    refine zr_icmp_lt (tgt := 12) dLetters_at_7 (by decide) (fun h7 => ?_) (fun h7 => ?_)
    · obtain ⟨j, hj, rfl⟩ := zf_rng (by decide) h1 h7
      refine zr_lload_n dLetters_at_12 rfl ?_
      refine zr_bipush (v := nI 8) dLetters_at_13 (by decide) ?_
      refine zr_iload_n dLetters_at_15 rfl ?_
      refine zr_imulN dLetters_at_16 ?_
      refine zr_lushr dLetters_at_17 (wb_shr (by omega) (by omega)) ?_
      refine zr_l2i dLetters_at_18 (lN_i _) ?_
      refine zr_sipush (v := nI 255) dLetters_at_19 (by decide) ?_
      refine zr_iand dLetters_at_22 ?_
      refine zr_topI (zf_and255 _) ?_
      refine zr_istore_n dLetters_at_23 (by decide) ?_
      refine zr_iload_n dLetters_at_24 rfl ?_
      refine zr_if_neN (tgt := 32) (by omega) dLetters_at_25 (by decide) (fun h25 => ?_) (fun h25 => ?_)
      · refine zr_iload_n dLetters_at_32 rfl ?_
        exact zr_ireturn dLetters_at_33 rfl rfl (⟨congrArg (fun x => some (Value.int x)) (by unfold zf_at; rw [if_neg (fun q => q.elim h1 (fun z => z h7)), nI_clamp (by omega)]; unfold zf_code; (repeat' split) <;> first | rfl | (exfalso; omega) | (congr 1; omega) | omega), rfl⟩)
      · refine zr_iconst (v := (-1)) dLetters_at_28 (by decide) ?_
        refine zr_goto (tgt := 33) dLetters_at_29 (by decide) ?_
        exact zr_ireturn dLetters_at_33 rfl rfl (⟨congrArg (fun x => some (Value.int x)) (by unfold zf_at; rw [if_neg (fun q => q.elim h1 (fun z => z h7)), nI_clamp (by omega)]; unfold zf_code; (repeat' split) <;> first | rfl | (exfalso; omega) | (congr 1; omega) | omega), rfl⟩)
    · refine zr_iconst (v := (-1)) dLetters_at_10 (by decide) ?_
      exact zr_ireturn dLetters_at_11 rfl rfl (⟨congrArg (fun x => some (Value.int x)) (by unfold zf_at; rw [if_pos (by first | exact Or.inl h1 | exact Or.inr h7)]), rfl⟩)
