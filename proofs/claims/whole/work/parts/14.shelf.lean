/-! isId, isClass; Shelf: a document lies at q, its words at q + 1; a shelf at i, its rows at i + 1 and i + 2 -/
def zf_find (g : Nat → Option Nat) (id : Int32) : Option Nat := if ¬ id < 0 ∧ id < nI 32 then g id.toNatClampNeg else none
theorem zf_find_in {g : Nat → Option Nat} {j : Nat} (h : j < 32) : zf_find g (nI j) = g j := by
  unfold zf_find
  rw [if_pos ⟨nI_pos (by omega), nI_lt h (by decide)⟩, nI_clamp (by omega)]
theorem zf_find_out {g : Nat → Option Nat} {id : Int32} (h : ¬ (¬ id < 0 ∧ id < nI 32)) : zf_find g id = none := if_neg h
def zs_doc (w : zw_W) (r c n : Nat) (f : Nat → Int64) : Prop := ∃ q, r = q + 1 ∧ 39 ≤ q ∧ w[q]? = some (.inr (6, [.int (nI c), .ref (q + 2)])) ∧ w[q + 1]? = some (zk_L n f)
def zs_ok (w : zw_W) (g : Nat → Option Nat) (dc dn : Nat → Nat) (df : Nat → Nat → Int64) : Prop := ∀ id, id < 32 → ∀ r, g id = some r → zs_doc w r (dc id) (dn id) (df id) ∧ dn id ≤ 20 ∧ dc id < 4
abbrev zk_Sh (i : Nat) : zw_C := .inr (2, [.ref (i + 2), .ref (i + 3)])
theorem zs_doc.keep {w w2 : zw_W} {r c n : Nat} {f : Nat → Int64} (h : zs_doc w r c n f) (hw : ∀ j x, 39 ≤ j → w[j]? = some x → w2[j]? = some x) : zs_doc w2 r c n f := by
  obtain ⟨q, h1, h2, h3, h4⟩ := h
  exact ⟨q, h1, h2, hw _ _ h2 h3, hw _ _ (by omega) h4⟩
theorem zs_ok.keep {w w2 : zw_W} {g : Nat → Option Nat} {dc dn : Nat → Nat} {df : Nat → Nat → Int64} (h : zs_ok w g dc dn df) (hw : ∀ j x, 39 ≤ j → w[j]? = some x → w2[j]? = some x) : zs_ok w2 g dc dn df := fun id hid r hr => ⟨(h id hid r hr).1.keep hw, (h id hid r hr).2⟩
theorem zf_set39 {w : zw_W} {i : Nat} {x : zw_C} (h : i < 39) : ∀ j y, 39 ≤ j → w[j]? = some y → (w.set i x)[j]? = some y := fun j y hj hy => by rw [List.getElem?_set_ne (by omega)]; exact hy
theorem zf_upq {g1 g2 : Nat → Option Nat} {k : Nat} {x : Option Nat} (h : g2 k = x) : va_up (fun j => if j < k then g2 j else g1 j) k x = fun j => if j < k + 1 then g2 j else g1 j := by
  funext j
  show (if j = k then x else if j < k then g2 j else g1 j) = if j < k + 1 then g2 j else g1 j
  by_cases e : j = k
  · rw [if_pos e, if_pos (by omega), e, h]
  · rw [if_neg e]
    by_cases h2 : j < k
    · rw [if_pos h2, if_pos (by omega)]
    · rw [if_neg h2, if_neg (by omega)]
/-- a sum over the documents of a class -/
def zs_sum (g : Nat → Option Nat) (dc : Nat → Nat) (c : Nat) (v : Nat → Nat) (n : Nat) : Nat := wn_sum (fun id => if g id = none then 0 else if dc id = c then v id else 0) n
def zs_size (g : Nat → Option Nat) (n : Nat) : Nat := wn_sum (fun id => if g id = none then 0 else 1) n
theorem zs_size_n {g : Nat → Option Nat} {k : Nat} (h : g k = none) : zs_size g (k + 1) = zs_size g k := by unfold zs_size; rw [wn_sum, if_pos h, Nat.add_zero]
theorem zs_size_s {g : Nat → Option Nat} {k r : Nat} (h : g k = some r) : zs_size g (k + 1) = zs_size g k + 1 := by unfold zs_size; rw [wn_sum, if_neg (by rw [h]; exact fun q => by cases q)]
theorem zs_size_le {g : Nat → Option Nat} {n : Nat} : zs_size g n ≤ n := by
  have := wn_sum_le (h := fun id => if g id = none then 0 else 1) (b := 1) (n := n) (fun i _ => by split <;> omega)
  unfold zs_size
  omega
theorem zs_sum_n {g : Nat → Option Nat} {dc v : Nat → Nat} {c k : Nat} (h : g k = none) : zs_sum g dc c v (k + 1) = zs_sum g dc c v k := by unfold zs_sum; rw [wn_sum, if_pos h, Nat.add_zero]
theorem zs_sum_s {g : Nat → Option Nat} {dc v : Nat → Nat} {c k r : Nat} (h : g k = some r) (hc : dc k = c) : zs_sum g dc c v (k + 1) = zs_sum g dc c v k + v k := by unfold zs_sum; rw [wn_sum, if_neg (by rw [h]; exact fun q => by cases q), if_pos hc]
theorem zs_sum_o {g : Nat → Option Nat} {dc v : Nat → Nat} {c k r : Nat} (h : g k = some r) (hc : dc k ≠ c) : zs_sum g dc c v (k + 1) = zs_sum g dc c v k := by unfold zs_sum; rw [wn_sum, if_neg (by rw [h]; exact fun q => by cases q), if_neg hc, Nat.add_zero]
theorem zs_sum_le {g : Nat → Option Nat} {dc v : Nat → Nat} {c n b : Nat} (h : ∀ i, i < n → g i ≠ none → v i ≤ b) : zs_sum g dc c v n ≤ b * n := wn_sum_le (fun i hi => by
  split
  · exact Nat.zero_le _
  · rename_i hg
    split
    · exact h i hi hg
    · exact Nat.zero_le _)
set_option maxHeartbeats 4000000 in
set_option maxRecDepth 100000 in
theorem c_WE_isId {G : zw_G} {w : zw_W} {x : Int32} : zw_Met G Y_WE_isId 0 0 0 [.int x] (w) (zw_is (some (.int (zw_b (¬ x < 0 ∧ x < nI 32)))) w) := by
  show zw_Z G Y_WE_isId _ _ _ 0 0 0 [some (.int x)] [] _
  refine zr_iload_n dWE_isId_0 rfl ?_
  refine zr_if_lt (tgt := 14) dWE_isId_1 (by decide) (fun h1 => ?_) (fun h1 => ?_)
  · have hb : zw_b (¬ x < 0 ∧ x < nI 32) = 0 := zw_b0 (fun q => q.1 h1)
    refine zr_iconst (v := nI 0) dWE_isId_14 (by decide) ?_
    exact zr_ireturn dWE_isId_15 rfl rfl (⟨congrArg (fun x => some (Value.int x)) hb.symm, rfl⟩)
  · refine zr_iload_n dWE_isId_4 rfl ?_
    refine zr_bipush (v := nI 32) dWE_isId_5 (by decide) ?_
    refine zr_icmp_ge (tgt := 14) dWE_isId_7 (by decide) (fun h7 => ?_) (fun h7 => ?_)
    · have hb : zw_b (¬ x < 0 ∧ x < nI 32) = 0 := zw_b0 (fun q => Int32.not_le.mpr q.2 h7)
      refine zr_iconst (v := nI 0) dWE_isId_14 (by decide) ?_
      exact zr_ireturn dWE_isId_15 rfl rfl (⟨congrArg (fun x => some (Value.int x)) hb.symm, rfl⟩)
    · have hb : zw_b (¬ x < 0 ∧ x < nI 32) = 1 := zw_b1 ⟨h1, Int32.not_le.mp h7⟩
      refine zr_iconst (v := nI 1) dWE_isId_10 (by decide) ?_
      refine zr_goto (tgt := 15) dWE_isId_11 (by decide) ?_
      exact zr_ireturn dWE_isId_15 rfl rfl (⟨congrArg (fun x => some (Value.int x)) hb.symm, rfl⟩)
set_option maxHeartbeats 4000000 in
set_option maxRecDepth 100000 in
theorem c_WE_isClass {G : zw_G} {w : zw_W} {x : Int32} {i n : Nat} {fs : List Value} (hi : w[i]? = some (.inr (0, .int (nI n) :: fs))) : zw_Met G Y_WE_isClass 0 0 0 [.ref (i + 1), .int x] (w) (zw_is (some (.int (zw_b (¬ x < 0 ∧ x < nI n)))) w) := by
  show zw_Z G Y_WE_isClass _ _ _ 0 0 0 [some (.ref (i + 1)), some (.int x)] [] _
  refine zr_iload_n dWE_isClass_0 rfl ?_
  refine zr_if_lt (tgt := 16) dWE_isClass_1 (by decide) (fun h1 => ?_) (fun h1 => ?_)
  · have hb : zw_b (¬ x < 0 ∧ x < nI n) = 0 := zw_b0 (fun q => q.1 h1)
    refine zr_iconst (v := nI 0) dWE_isClass_16 (by decide) ?_
    exact zr_ireturn dWE_isClass_17 rfl rfl (⟨congrArg (fun x => some (Value.int x)) hb.symm, rfl⟩)
  · refine zr_iload_n dWE_isClass_4 rfl ?_
    refine zr_aload_n dWE_isClass_5 rfl rfl ?_
    refine zr_getf g_WE_49 dWE_isClass_6 hi rfl ?_
    refine zr_icmp_ge (tgt := 16) dWE_isClass_9 (by decide) (fun h9 => ?_) (fun h9 => ?_)
    · have hb : zw_b (¬ x < 0 ∧ x < nI n) = 0 := zw_b0 (fun q => Int32.not_le.mpr q.2 h9)
      refine zr_iconst (v := nI 0) dWE_isClass_16 (by decide) ?_
      exact zr_ireturn dWE_isClass_17 rfl rfl (⟨congrArg (fun x => some (Value.int x)) hb.symm, rfl⟩)
    · have hb : zw_b (¬ x < 0 ∧ x < nI n) = 1 := zw_b1 ⟨h1, Int32.not_le.mp h9⟩
      refine zr_iconst (v := nI 1) dWE_isClass_12 (by decide) ?_
      refine zr_goto (tgt := 17) dWE_isClass_13 (by decide) ?_
      exact zr_ireturn dWE_isClass_17 rfl rfl (⟨congrArg (fun x => some (Value.int x)) hb.symm, rfl⟩)
set_option maxHeartbeats 4000000 in
set_option maxRecDepth 100000 in
theorem c_Shelf_find {G : zw_G} {w : zw_W} {i : Nat} {g : Nat → Option Nat} (hs : w[i]? = some (zk_Sh i)) (hb : w[i + 1]? = some (zk_D 32 g)) {id : Int32} : zw_Met G Y_Shelf_find 1 0 0 [.ref (i + 1), .int id] (w) (zw_is (some (va_rf (zf_find g id))) w) := by
  show zw_Z G Y_Shelf_find _ _ _ 0 0 0 [some (.ref (i + 1)), some (.int id)] [] _
  refine zr_iload_n dShelf_find_0 rfl ?_
  refine zr_invS c_WE_isId m_WE_isId k_Shelf_21 (s_WE_isId) dShelf_find_1 rfl (Nat.le_of_ble_eq_true rfl) (by decide) (Nat.le_of_ble_eq_true rfl) rfl (fun v w2 hp => ?_)
  obtain ⟨rfl, rfl⟩ := hp
  refine ⟨rfl, ?_⟩
  refine zr_if_eqB (tgt := 16) dShelf_find_4 (by decide) (fun h4 => ?_) (fun h4 => ?_)
  · rw [zf_find_out h4]
    refine zr_null dShelf_find_16 ?_
    exact zr_areturn dShelf_find_17 rfl (Or.inl ⟨_, rfl⟩) rfl (⟨rfl, rfl⟩)
  · obtain ⟨j, hj, rfl⟩ := zf_rng (by decide) h4.1 h4.2
    rw [zf_find_in hj]
    refine zr_aload_n dShelf_find_7 rfl rfl ?_
    refine zr_getf g_Shelf_11 dShelf_find_8 hs rfl ?_
    refine zr_iload_n dShelf_find_11 rfl ?_
    refine zr_aald dShelf_find_12 hb (hj) (by decide) ?_
    rcases ho12 : g j with _ | r12
    · refine zr_goto (tgt := 17) dShelf_find_13 (by decide) ?_
      exact zr_areturn dShelf_find_17 rfl (Or.inl ⟨_, rfl⟩) rfl (⟨rfl, rfl⟩)
    · refine zr_goto (tgt := 17) dShelf_find_13 (by decide) ?_
      exact zr_areturn dShelf_find_17 rfl (Or.inl ⟨_, rfl⟩) rfl (⟨rfl, rfl⟩)
set_option maxHeartbeats 4000000 in
set_option maxRecDepth 100000 in
theorem c_Shelf_put_some {G : zw_G} {w : zw_W} {i : Nat} {g : Nat → Option Nat} (hs : w[i]? = some (zk_Sh i)) (hb : w[i + 1]? = some (zk_D 32 g)) {j : Nat} (hj : j < 32) {q : Nat} {vs : List Value} (hq : w[q]? = some (.inr (6, vs))) : zw_Met G Y_Shelf_put 1 0 0 [.ref (i + 1), .int (nI j), .ref (q + 1)] (w) (zw_is none (w.set (i + 1) (zk_D 32 (va_up g j (some (q + 1)))))) := by
  show zw_Z G Y_Shelf_put _ _ _ 0 0 0 [some (.ref (i + 1)), some (.int (nI j)), some (.ref (q + 1))] [] _
  refine zr_iload_n dShelf_put_0 rfl ?_
  refine zr_invS c_WE_isId m_WE_isId k_Shelf_21 (s_WE_isId) dShelf_put_1 rfl (Nat.le_of_ble_eq_true rfl) (by decide) (Nat.le_of_ble_eq_true rfl) rfl (fun v w2 hp => ?_)
  obtain ⟨rfl, rfl⟩ := hp
  refine ⟨rfl, ?_⟩
  refine zr_if_eqB (tgt := 14) dShelf_put_4 (by decide) (fun h4 => ?_) (fun h4 => ?_)
  · exact absurd ⟨nI_pos (by omega), nI_lt hj (by decide)⟩ h4
  · refine zr_aload_n dShelf_put_7 rfl rfl ?_
    refine zr_getf g_Shelf_11 dShelf_put_8 hs rfl ?_
    refine zr_iload_n dShelf_put_11 rfl ?_
    refine zr_aload_n dShelf_put_12 rfl rfl ?_
    refine zr_aast dShelf_put_13 hb (hj) (by decide) hq rfl ?_
    exact zr_return dShelf_put_14 rfl (⟨rfl, rfl⟩)
set_option maxHeartbeats 4000000 in
set_option maxRecDepth 100000 in
theorem c_Shelf_put_none {G : zw_G} {w : zw_W} {i : Nat} {g : Nat → Option Nat} (hs : w[i]? = some (zk_Sh i)) (hb : w[i + 1]? = some (zk_D 32 g)) {j : Nat} (hj : j < 32) : zw_Met G Y_Shelf_put 1 0 0 [.ref (i + 1), .int (nI j), .null] (w) (zw_is none (w.set (i + 1) (zk_D 32 (va_up g j (none))))) := by
  show zw_Z G Y_Shelf_put _ _ _ 0 0 0 [some (.ref (i + 1)), some (.int (nI j)), some (.null)] [] _
  refine zr_iload_n dShelf_put_0 rfl ?_
  refine zr_invS c_WE_isId m_WE_isId k_Shelf_21 (s_WE_isId) dShelf_put_1 rfl (Nat.le_of_ble_eq_true rfl) (by decide) (Nat.le_of_ble_eq_true rfl) rfl (fun v w2 hp => ?_)
  obtain ⟨rfl, rfl⟩ := hp
  refine ⟨rfl, ?_⟩
  refine zr_if_eqB (tgt := 14) dShelf_put_4 (by decide) (fun h4 => ?_) (fun h4 => ?_)
  · exact absurd ⟨nI_pos (by omega), nI_lt hj (by decide)⟩ h4
  · refine zr_aload_n dShelf_put_7 rfl rfl ?_
    refine zr_getf g_Shelf_11 dShelf_put_8 hs rfl ?_
    refine zr_iload_n dShelf_put_11 rfl ?_
    refine zr_aload_n dShelf_put_12 rfl rfl ?_
    refine zr_aastN dShelf_put_13 hb (hj) (by decide) ?_
    exact zr_return dShelf_put_14 rfl (⟨rfl, rfl⟩)
set_option maxHeartbeats 4000000 in
set_option maxRecDepth 100000 in
theorem c_Shelf_copyFrom {G : zw_G} {w : zw_W} {i : Nat} {g : Nat → Option Nat} (hs : w[i]? = some (zk_Sh i)) (hb : w[i + 1]? = some (zk_D 32 g)) {i2 : Nat} {g2 : Nat → Option Nat} (hs2 : w[i2]? = some (zk_Sh i2)) (hb2 : w[i2 + 1]? = some (zk_D 32 g2)) (hne : i + 1 < i2 ∨ i2 + 1 < i) (hi : i + 1 < 39) (hd : ∀ id, id < 32 → ∀ r, g2 id = some r → ∃ q vs, r = q + 1 ∧ 39 ≤ q ∧ w[q]? = some (.inr (6, vs))) : zw_Met G Y_Shelf_copyFrom 0 0 0 [.ref (i + 1), .ref (i2 + 1)] w (zw_is none (w.set (i + 1) (zk_D 32 (fun j => if j < 32 then g2 j else g j)))) := by
  have hl : i + 1 < w.length := (List.getElem?_eq_some_iff.mp hb).1
  have key : ∀ k, k ≤ 32 → zw_Z G Y_Shelf_copyFrom (zw_R 0 0 0) (fun _ => True) (zw_Q G 0 0 (zw_is none (w.set (i + 1) (zk_D 32 (fun j => if j < 32 then g2 j else g j))))) 0 0 2 [some (.ref (i + 1)), some (.ref (i2 + 1)), some (.int (nI k))] [] (w.set (i + 1) (zk_D 32 (fun j => if j < k then g2 j else g j))) := by
    refine wz_up 32 (fun k hk ih => ?_) ?_
    · refine zr_iload_n dShelf_copyFrom_2 rfl ?_
      refine zr_bipush (v := nI 32) dShelf_copyFrom_3 (by decide) ?_
      refine zr_icmp_geN (tgt := 26) (by omega) (by omega) dShelf_copyFrom_5 (by decide) (fun h5 => ?_) (fun h5 => ?_)
      · exfalso; omega
      · refine zr_aload_n dShelf_copyFrom_8 rfl rfl ?_
        refine zr_getf g_Shelf_11 dShelf_copyFrom_9 (by rw [List.getElem?_set_ne (by omega)]; exact hs) rfl ?_
        refine zr_iload_n dShelf_copyFrom_12 rfl ?_
        refine zr_aload_n dShelf_copyFrom_13 rfl rfl ?_
        refine zr_getf g_Shelf_11 dShelf_copyFrom_14 (by rw [List.getElem?_set_ne (by omega)]; exact hs2) rfl ?_
        refine zr_iload_n dShelf_copyFrom_17 rfl ?_
        refine zr_aald dShelf_copyFrom_18 (by rw [List.getElem?_set_ne (by omega)]; exact hb2) (hk) (by decide) ?_
        rcases ho18 : g2 k with _ | r18
        · refine zr_aastN dShelf_copyFrom_19 (List.getElem?_set_self hl) (hk) (by decide) ?_
          rw [List.set_set, zf_upq ho18]
          refine zr_iinc (v := nI (_ + 1)) dShelf_copyFrom_20 rfl (nI_1 _) (by decide) ?_
          refine zr_goto (tgt := 2) dShelf_copyFrom_23 (by decide) ?_
          exact ih
        · obtain ⟨q, vs, rfl, hq1, hq2⟩ := hd k hk r18 ho18
          refine zr_aast dShelf_copyFrom_19 (List.getElem?_set_self hl) (hk) (by decide) (by rw [List.getElem?_set_ne (by omega)]; exact hq2) rfl ?_
          rw [List.set_set, zf_upq ho18]
          refine zr_iinc (v := nI (_ + 1)) dShelf_copyFrom_20 rfl (nI_1 _) (by decide) ?_
          refine zr_goto (tgt := 2) dShelf_copyFrom_23 (by decide) ?_
          exact ih
    · refine zr_iload_n dShelf_copyFrom_2 rfl ?_
      refine zr_bipush (v := nI 32) dShelf_copyFrom_3 (by decide) ?_
      refine zr_icmp_geN (tgt := 26) (by omega) (by omega) dShelf_copyFrom_5 (by decide) (fun h5 => ?_) (fun h5 => ?_)
      · exact zr_return dShelf_copyFrom_26 rfl (⟨rfl, rfl⟩)
      · exfalso; omega
  show zw_Z G Y_Shelf_copyFrom _ _ _ 0 0 0 [some (.ref (i + 1)), some (.ref (i2 + 1)), none] [] _
  refine zr_iconst (v := nI 0) dShelf_copyFrom_0 (by decide) ?_
  refine zr_istore_n dShelf_copyFrom_1 (by decide) ?_
  have e : w = w.set (i + 1) (zk_D 32 (fun j => if j < 0 then g2 j else g j)) := by
    rw [show (fun j => if j < 0 then g2 j else g j) = g from funext fun j => if_neg (Nat.not_lt_zero j)]
    exact zf_setself hb
  refine zr_wld e ?_
  exact key 0 (Nat.zero_le 32)
set_option maxHeartbeats 4000000 in
set_option maxRecDepth 100000 in
theorem c_Shelf_size {G : zw_G} {w : zw_W} {i : Nat} {g : Nat → Option Nat} (hs : w[i]? = some (zk_Sh i)) (hb : w[i + 1]? = some (zk_D 32 g)) : zw_Met G Y_Shelf_size 0 0 0 [.ref (i + 1)] w (zw_is (some (.int (nI (zs_size g 32)))) w) := by
  have key : ∀ k, k ≤ 32 → zw_Z G Y_Shelf_size (zw_R 0 0 0) (fun _ => True) (zw_Q G 0 0 (zw_is (some (.int (nI (zs_size g 32)))) w)) 0 0 13 [some (.ref (i + 1)), some (.int (nI (zs_size g k))), some (.ref (i + 2)), some (.int (nI 32)), some (.int (nI k)), none] [] w := by
    refine wz_up 32 (fun k hk ih => ?_) ?_
    · refine zr_iload dShelf_size_13 rfl ?_
      refine zr_iload_n dShelf_size_15 rfl ?_
      refine zr_icmp_geN (tgt := 39) (by omega) (by omega) dShelf_size_16 (by decide) (fun h16 => ?_) (fun h16 => ?_)
      · exfalso; omega
      · refine zr_aload_n dShelf_size_19 rfl rfl ?_
        refine zr_iload dShelf_size_20 rfl ?_
        refine zr_aald dShelf_size_22 hb (hk) (by decide) ?_
        rcases ho22 : g k with _ | r22
        · rw [zs_size_n ho22] at ih
          refine zr_astore dShelf_size_23 (by decide) rfl ?_
          refine zr_aload dShelf_size_25 rfl rfl ?_
          refine zr_ifnullN (tgt := 33) dShelf_size_27 (by decide) ?_
          refine zr_iinc (v := nI (k + 1)) dShelf_size_33 rfl (nI_1 _) (by decide) ?_
          refine zr_goto (tgt := 13) dShelf_size_36 (by decide) ?_
          exact zr_mask [true, true, true, true, true, false] ih
        · rw [zs_size_s ho22] at ih
          refine zr_astore dShelf_size_23 (by decide) rfl ?_
          refine zr_aload dShelf_size_25 rfl rfl ?_
          refine zr_ifnull dShelf_size_27 ?_
          refine zr_iinc (v := nI (zs_size g k + 1)) dShelf_size_30 rfl (nI_1 _) (by decide) ?_
          refine zr_iinc (v := nI (k + 1)) dShelf_size_33 rfl (nI_1 _) (by decide) ?_
          refine zr_goto (tgt := 13) dShelf_size_36 (by decide) ?_
          exact zr_mask [true, true, true, true, true, false] ih
    · refine zr_iload dShelf_size_13 rfl ?_
      refine zr_iload_n dShelf_size_15 rfl ?_
      refine zr_icmp_geN (tgt := 39) (by omega) (by omega) dShelf_size_16 (by decide) (fun h16 => ?_) (fun h16 => ?_)
      · refine zr_iload_n dShelf_size_39 rfl ?_
        exact zr_ireturn dShelf_size_40 rfl rfl (⟨rfl, rfl⟩)
      · exfalso; omega
  show zw_Z G Y_Shelf_size _ _ _ 0 0 0 [some (.ref (i + 1)), none, none, none, none, none] [] _
  refine zr_iconst (v := nI 0) dShelf_size_0 (by decide) ?_
  refine zr_istore_n dShelf_size_1 (by decide) ?_
  refine zr_aload_n dShelf_size_2 rfl rfl ?_
  refine zr_getf g_Shelf_11 dShelf_size_3 hs rfl ?_
  refine zr_astore_n dShelf_size_6 (by decide) rfl ?_
  refine zr_aload_n dShelf_size_7 rfl rfl ?_
  refine zr_alen dShelf_size_8 hb (by decide) rfl ?_
  refine zr_istore_n dShelf_size_9 (by decide) ?_
  refine zr_iconst (v := nI 0) dShelf_size_10 (by decide) ?_
  refine zr_istore dShelf_size_11 (by decide) ?_
  exact key 0 (Nat.zero_le 32)
set_option maxHeartbeats 4000000 in
set_option maxRecDepth 100000 in
theorem c_Shelf_documentsOf {G : zw_G} {w : zw_W} {i : Nat} {g : Nat → Option Nat} (hs : w[i]? = some (zk_Sh i)) (hb : w[i + 1]? = some (zk_D 32 g)) {dc dn : Nat → Nat} {df : Nat → Nat → Int64} {c : Nat} (hok : zs_ok w g dc dn df) (hc : c < 4) : zw_Met G Y_Shelf_documentsOf 0 0 0 [.ref (i + 1), .int (nI c)] w (zw_is (some (.int (nI (zs_sum g dc c (fun _ => 1) 32)))) w) := by
  have key : ∀ k, k ≤ 32 → zw_Z G Y_Shelf_documentsOf (zw_R 0 0 0) (fun _ => True) (zw_Q G 0 0 (zw_is (some (.int (nI (zs_sum g dc c (fun _ => 1) 32)))) w)) 0 0 14 [some (.ref (i + 1)), some (.int (nI c)), some (.int (nI (zs_sum g dc c (fun _ => 1) k))), some (.ref (i + 2)), some (.int (nI 32)), some (.int (nI k)), none] [] w := by
    refine wz_up 32 (fun k hk ih => ?_) ?_
    · refine zr_iload dShelf_documentsOf_14 rfl ?_
      refine zr_iload dShelf_documentsOf_16 rfl ?_
      refine zr_icmp_geN (tgt := 50) (by omega) (by omega) dShelf_documentsOf_18 (by decide) (fun h18 => ?_) (fun h18 => ?_)
      · exfalso; omega
      · refine zr_aload_n dShelf_documentsOf_21 rfl rfl ?_
        refine zr_iload dShelf_documentsOf_22 rfl ?_
        refine zr_aald dShelf_documentsOf_24 hb (hk) (by decide) ?_
        rcases ho24 : g k with _ | r24
        · rw [zs_sum_n ho24] at ih
          refine zr_astore dShelf_documentsOf_25 (by decide) rfl ?_
          refine zr_aload dShelf_documentsOf_27 rfl rfl ?_
          refine zr_ifnullN (tgt := 44) dShelf_documentsOf_29 (by decide) ?_
          refine zr_iinc (v := nI (k + 1)) dShelf_documentsOf_44 rfl (nI_1 _) (by decide) ?_
          refine zr_goto (tgt := 14) dShelf_documentsOf_47 (by decide) ?_
          exact zr_mask [true, true, true, true, true, true, false] ih
        · obtain ⟨⟨q, rfl, hq0, hq1, hq2⟩, hq3, hq4⟩ := hok k hk r24 ho24
          refine zr_astore dShelf_documentsOf_25 (by decide) rfl ?_
          refine zr_aload dShelf_documentsOf_27 rfl rfl ?_
          refine zr_ifnull dShelf_documentsOf_29 ?_
          refine zr_aload dShelf_documentsOf_32 rfl rfl ?_
          refine zr_getf g_Shelf_25 dShelf_documentsOf_34 hq1 rfl ?_
          refine zr_iload_n dShelf_documentsOf_37 rfl ?_
          refine zr_icmp_neN (tgt := 44) (by omega) (by omega) dShelf_documentsOf_38 (by decide) (fun h38 => ?_) (fun h38 => ?_)
          · rw [zs_sum_o ho24 h38] at ih
            refine zr_iinc (v := nI (k + 1)) dShelf_documentsOf_44 rfl (nI_1 _) (by decide) ?_
            refine zr_goto (tgt := 14) dShelf_documentsOf_47 (by decide) ?_
            exact zr_mask [true, true, true, true, true, true, false] ih
          · rw [zs_sum_s ho24 h38] at ih
            refine zr_iinc (v := nI (zs_sum g dc c (fun _ => 1) k + 1)) dShelf_documentsOf_41 rfl (nI_1 _) (by decide) ?_
            refine zr_iinc (v := nI (k + 1)) dShelf_documentsOf_44 rfl (nI_1 _) (by decide) ?_
            refine zr_goto (tgt := 14) dShelf_documentsOf_47 (by decide) ?_
            exact zr_mask [true, true, true, true, true, true, false] ih
    · refine zr_iload dShelf_documentsOf_14 rfl ?_
      refine zr_iload dShelf_documentsOf_16 rfl ?_
      refine zr_icmp_geN (tgt := 50) (by omega) (by omega) dShelf_documentsOf_18 (by decide) (fun h18 => ?_) (fun h18 => ?_)
      · refine zr_iload_n dShelf_documentsOf_50 rfl ?_
        exact zr_ireturn dShelf_documentsOf_51 rfl rfl (⟨rfl, rfl⟩)
      · exfalso; omega
  show zw_Z G Y_Shelf_documentsOf _ _ _ 0 0 0 [some (.ref (i + 1)), some (.int (nI c)), none, none, none, none, none] [] _
  refine zr_iconst (v := nI 0) dShelf_documentsOf_0 (by decide) ?_
  refine zr_istore_n dShelf_documentsOf_1 (by decide) ?_
  refine zr_aload_n dShelf_documentsOf_2 rfl rfl ?_
  refine zr_getf g_Shelf_11 dShelf_documentsOf_3 hs rfl ?_
  refine zr_astore_n dShelf_documentsOf_6 (by decide) rfl ?_
  refine zr_aload_n dShelf_documentsOf_7 rfl rfl ?_
  refine zr_alen dShelf_documentsOf_8 hb (by decide) rfl ?_
  refine zr_istore dShelf_documentsOf_9 (by decide) ?_
  refine zr_iconst (v := nI 0) dShelf_documentsOf_11 (by decide) ?_
  refine zr_istore dShelf_documentsOf_12 (by decide) ?_
  exact key 0 (Nat.zero_le 32)
set_option maxHeartbeats 4000000 in
set_option maxRecDepth 100000 in
theorem c_Shelf_wordsOf {G : zw_G} {w : zw_W} {i : Nat} {g : Nat → Option Nat} (hs : w[i]? = some (zk_Sh i)) (hb : w[i + 1]? = some (zk_D 32 g)) {dc dn : Nat → Nat} {df : Nat → Nat → Int64} {c : Nat} (hok : zs_ok w g dc dn df) (hc : c < 4) : zw_Met G Y_Shelf_wordsOf 0 0 0 [.ref (i + 1), .int (nI c)] w (zw_is (some (.int (nI (zs_sum g dc c dn 32)))) w) := by
  have key : ∀ k, k ≤ 32 → zw_Z G Y_Shelf_wordsOf (zw_R 0 0 0) (fun _ => True) (zw_Q G 0 0 (zw_is (some (.int (nI (zs_sum g dc c dn 32)))) w)) 0 0 14 [some (.ref (i + 1)), some (.int (nI c)), some (.int (nI (zs_sum g dc c dn k))), some (.ref (i + 2)), some (.int (nI 32)), some (.int (nI k)), none] [] w := by
    refine wz_up 32 (fun k hk ih => ?_) ?_
    · refine zr_iload dShelf_wordsOf_14 rfl ?_
      refine zr_iload dShelf_wordsOf_16 rfl ?_
      refine zr_icmp_geN (tgt := 56) (by omega) (by omega) dShelf_wordsOf_18 (by decide) (fun h18 => ?_) (fun h18 => ?_)
      · exfalso; omega
      · refine zr_aload_n dShelf_wordsOf_21 rfl rfl ?_
        refine zr_iload dShelf_wordsOf_22 rfl ?_
        refine zr_aald dShelf_wordsOf_24 hb (hk) (by decide) ?_
        rcases ho24 : g k with _ | r24
        · rw [zs_sum_n ho24] at ih
          refine zr_astore dShelf_wordsOf_25 (by decide) rfl ?_
          refine zr_aload dShelf_wordsOf_27 rfl rfl ?_
          refine zr_ifnullN (tgt := 50) dShelf_wordsOf_29 (by decide) ?_
          refine zr_iinc (v := nI (k + 1)) dShelf_wordsOf_50 rfl (nI_1 _) (by decide) ?_
          refine zr_goto (tgt := 14) dShelf_wordsOf_53 (by decide) ?_
          exact zr_mask [true, true, true, true, true, true, false] ih
        · obtain ⟨⟨q, rfl, hq0, hq1, hq2⟩, hq3, hq4⟩ := hok k hk r24 ho24
          refine zr_astore dShelf_wordsOf_25 (by decide) rfl ?_
          refine zr_aload dShelf_wordsOf_27 rfl rfl ?_
          refine zr_ifnull dShelf_wordsOf_29 ?_
          refine zr_aload dShelf_wordsOf_32 rfl rfl ?_
          refine zr_getf g_Shelf_25 dShelf_wordsOf_34 hq1 rfl ?_
          refine zr_iload_n dShelf_wordsOf_37 rfl ?_
          refine zr_icmp_neN (tgt := 50) (by omega) (by omega) dShelf_wordsOf_38 (by decide) (fun h38 => ?_) (fun h38 => ?_)
          · rw [zs_sum_o ho24 h38] at ih
            refine zr_iinc (v := nI (k + 1)) dShelf_wordsOf_50 rfl (nI_1 _) (by decide) ?_
            refine zr_goto (tgt := 14) dShelf_wordsOf_53 (by decide) ?_
            exact zr_mask [true, true, true, true, true, true, false] ih
          · rw [zs_sum_s ho24 h38] at ih
            refine zr_iload_n dShelf_wordsOf_41 rfl ?_
            refine zr_aload dShelf_wordsOf_42 rfl rfl ?_
            refine zr_getf g_Shelf_29 dShelf_wordsOf_44 hq1 rfl ?_
            refine zr_alen dShelf_wordsOf_47 hq2 (by decide) rfl ?_
            refine zr_iaddN dShelf_wordsOf_48 ?_
            refine zr_istore_n dShelf_wordsOf_49 (by decide) ?_
            refine zr_iinc (v := nI (k + 1)) dShelf_wordsOf_50 rfl (nI_1 _) (by decide) ?_
            refine zr_goto (tgt := 14) dShelf_wordsOf_53 (by decide) ?_
            exact zr_mask [true, true, true, true, true, true, false] ih
    · refine zr_iload dShelf_wordsOf_14 rfl ?_
      refine zr_iload dShelf_wordsOf_16 rfl ?_
      refine zr_icmp_geN (tgt := 56) (by omega) (by omega) dShelf_wordsOf_18 (by decide) (fun h18 => ?_) (fun h18 => ?_)
      · refine zr_iload_n dShelf_wordsOf_56 rfl ?_
        exact zr_ireturn dShelf_wordsOf_57 rfl rfl (⟨rfl, rfl⟩)
      · exfalso; omega
  show zw_Z G Y_Shelf_wordsOf _ _ _ 0 0 0 [some (.ref (i + 1)), some (.int (nI c)), none, none, none, none, none] [] _
  refine zr_iconst (v := nI 0) dShelf_wordsOf_0 (by decide) ?_
  refine zr_istore_n dShelf_wordsOf_1 (by decide) ?_
  refine zr_aload_n dShelf_wordsOf_2 rfl rfl ?_
  refine zr_getf g_Shelf_11 dShelf_wordsOf_3 hs rfl ?_
  refine zr_astore_n dShelf_wordsOf_6 (by decide) rfl ?_
  refine zr_aload_n dShelf_wordsOf_7 rfl rfl ?_
  refine zr_alen dShelf_wordsOf_8 hb (by decide) rfl ?_
  refine zr_istore dShelf_wordsOf_9 (by decide) ?_
  refine zr_iconst (v := nI 0) dShelf_wordsOf_11 (by decide) ?_
  refine zr_istore dShelf_wordsOf_12 (by decide) ?_
  exact key 0 (Nat.zero_le 32)
set_option maxHeartbeats 4000000 in
set_option maxRecDepth 100000 in
theorem c_Shelf_timesOf {G : zw_G} {w : zw_W} {i : Nat} {g : Nat → Option Nat} (hs : w[i]? = some (zk_Sh i)) (hb : w[i + 1]? = some (zk_D 32 g)) {dc dn : Nat → Nat} {df : Nat → Nat → Int64} {c : Nat} (hok : zs_ok w g dc dn df) (hc : c < 4) {x : Int64} : zw_Met G Y_Shelf_timesOf 1 0 0 [.ref (i + 1), .int (nI c), .long x] w (zw_is (some (.int (nI (zs_sum g dc c (fun id => wn_sum (fun j => if df id j = x then 1 else 0) (dn id)) 32)))) w) := by
  have key : ∀ k, k ≤ 32 → zw_Z G Y_Shelf_timesOf (zw_R 1 0 0) (fun _ => True) (zw_Q G 0 0 (zw_is (some (.int (nI (zs_sum g dc c (fun id => wn_sum (fun j => if df id j = x then 1 else 0) (dn id)) 32)))) w)) 0 0 17 [some (.ref (i + 1)), some (.int (nI c)), some (.long x), none, some (.int (nI (zs_sum g dc c (fun id => wn_sum (fun j => if df id j = x then 1 else 0) (dn id)) k))), some (.ref (i + 2)), some (.int (nI 32)), some (.int (nI k)), none] [] w := by
    refine wz_up 32 (fun k hk ih => ?_) ?_
    · refine zr_iload dShelf_timesOf_17 rfl ?_
      refine zr_iload dShelf_timesOf_19 rfl ?_
      refine zr_icmp_geN (tgt := 62) (by omega) (by omega) dShelf_timesOf_21 (by decide) (fun h21 => ?_) (fun h21 => ?_)
      · exfalso; omega
      · refine zr_aload dShelf_timesOf_24 rfl rfl ?_
        refine zr_iload dShelf_timesOf_26 rfl ?_
        refine zr_aald dShelf_timesOf_28 hb (hk) (by decide) ?_
        rcases ho28 : g k with _ | r28
        · rw [zs_sum_n ho28] at ih
          refine zr_astore dShelf_timesOf_29 (by decide) rfl ?_
          refine zr_aload dShelf_timesOf_31 rfl rfl ?_
          refine zr_ifnullN (tgt := 56) dShelf_timesOf_33 (by decide) ?_
          refine zr_iinc (v := nI (k + 1)) dShelf_timesOf_56 rfl (nI_1 _) (by decide) ?_
          refine zr_goto (tgt := 17) dShelf_timesOf_59 (by decide) ?_
          exact zr_mask [true, true, true, true, true, true, true, true, false] ih
        · obtain ⟨⟨q, rfl, hq0, hq1, hq2⟩, hq3, hq4⟩ := hok k hk r28 ho28
          refine zr_astore dShelf_timesOf_29 (by decide) rfl ?_
          refine zr_aload dShelf_timesOf_31 rfl rfl ?_
          refine zr_ifnull dShelf_timesOf_33 ?_
          refine zr_aload dShelf_timesOf_36 rfl rfl ?_
          refine zr_getf g_Shelf_25 dShelf_timesOf_38 hq1 rfl ?_
          refine zr_iload_n dShelf_timesOf_41 rfl ?_
          refine zr_icmp_neN (tgt := 56) (by omega) (by omega) dShelf_timesOf_42 (by decide) (fun h42 => ?_) (fun h42 => ?_)
          · rw [zs_sum_o ho28 h42] at ih
            refine zr_iinc (v := nI (k + 1)) dShelf_timesOf_56 rfl (nI_1 _) (by decide) ?_
            refine zr_goto (tgt := 17) dShelf_timesOf_59 (by decide) ?_
            exact zr_mask [true, true, true, true, true, true, true, true, false] ih
          · rw [zs_sum_s ho28 h42] at ih
            refine zr_iload dShelf_timesOf_45 rfl ?_
            refine zr_aload dShelf_timesOf_47 rfl rfl ?_
            refine zr_lload_n dShelf_timesOf_49 rfl ?_
            refine zr_invV (c_Document_timesOf (by omega) hq1 hq2) m_Document_timesOf k_Shelf_32 v_Document_timesOf rfl hq1 dShelf_timesOf_50 rfl (Nat.le_of_ble_eq_true rfl) (by decide) (Nat.le_of_ble_eq_true rfl) rfl (fun v w2 hp => ?_)
            obtain ⟨rfl, rfl⟩ := hp
            refine ⟨rfl, ?_⟩
            refine zr_iaddN dShelf_timesOf_53 ?_
            refine zr_istore dShelf_timesOf_54 (by decide) ?_
            refine zr_iinc (v := nI (k + 1)) dShelf_timesOf_56 rfl (nI_1 _) (by decide) ?_
            refine zr_goto (tgt := 17) dShelf_timesOf_59 (by decide) ?_
            exact zr_mask [true, true, true, true, true, true, true, true, false] ih
    · refine zr_iload dShelf_timesOf_17 rfl ?_
      refine zr_iload dShelf_timesOf_19 rfl ?_
      refine zr_icmp_geN (tgt := 62) (by omega) (by omega) dShelf_timesOf_21 (by decide) (fun h21 => ?_) (fun h21 => ?_)
      · refine zr_iload dShelf_timesOf_62 rfl ?_
        exact zr_ireturn dShelf_timesOf_64 rfl rfl (⟨rfl, rfl⟩)
      · exfalso; omega
  show zw_Z G Y_Shelf_timesOf _ _ _ 0 0 0 [some (.ref (i + 1)), some (.int (nI c)), some (.long x), none, none, none, none, none, none] [] _
  refine zr_iconst (v := nI 0) dShelf_timesOf_0 (by decide) ?_
  refine zr_istore dShelf_timesOf_1 (by decide) ?_
  refine zr_aload_n dShelf_timesOf_3 rfl rfl ?_
  refine zr_getf g_Shelf_11 dShelf_timesOf_4 hs rfl ?_
  refine zr_astore dShelf_timesOf_7 (by decide) rfl ?_
  refine zr_aload dShelf_timesOf_9 rfl rfl ?_
  refine zr_alen dShelf_timesOf_11 hb (by decide) rfl ?_
  refine zr_istore dShelf_timesOf_12 (by decide) ?_
  refine zr_iconst (v := nI 0) dShelf_timesOf_14 (by decide) ?_
  refine zr_istore dShelf_timesOf_15 (by decide) ?_
  exact key 0 (Nat.zero_le 32)
