/-! Arrays.fill, Document, Product -/
theorem zf_upk {f d : Nat → Int64} {k : Nat} : vp_updL (fun j => if j < k then d j else f j) k (d k) = fun j => if j < k + 1 then d j else f j := by
  funext j
  show (if j = k then d k else if j < k then d j else f j) = if j < k + 1 then d j else f j
  by_cases h : j = k
  · rw [if_pos h, if_pos (by omega), h]
  · rw [if_neg h]
    by_cases h2 : j < k
    · rw [if_pos h2, if_pos (by omega)]
    · rw [if_neg h2, if_neg (by omega)]
theorem zf_fill {f : Nat → Int64} {x : Int64} {i : Nat} : vp_updL (fun j => if j < i then x else f j) i x = fun j => if j < i + 1 then x else f j := zf_upk (d := fun _ => x)
theorem zf_setself {w : zw_W} {i : Nat} {x : zw_C} (h : w[i]? = some x) : w = w.set i x := by
  apply List.ext_getElem?
  intro j
  rw [List.getElem?_set]
  by_cases e : i = j
  · subst e
    rw [if_pos rfl, if_pos (List.getElem?_eq_some_iff.mp h).1]
    exact h
  · rw [if_neg e]
theorem zf_len {w w2 : zw_W} {i : Nat} {x : zw_C} (h : w2 = w.set i x) : w2.length = w.length + 0 := by rw [h, List.length_set]; rfl
set_option maxHeartbeats 4000000 in
set_option maxRecDepth 100000 in
theorem c_Arrays_fill {G : zw_G} {w : zw_W} {i n : Nat} {f : Nat → Int64} {x : Int64} (hn : n < 1000) (hi : w[i]? = some (zk_L n f)) : zw_Met G Y_Arrays_fill 0 0 0 [.ref (i + 1), .long x] w (zw_is none (w.set i (zk_L n (fun j => if j < n then x else f j)))) := by
  have hl : i < w.length := (List.getElem?_eq_some_iff.mp hi).1
  have key : ∀ k, k ≤ n → zw_Z G Y_Arrays_fill (zw_R 0 0 0) (fun _ => True) (zw_Q G 0 0 (zw_is none (w.set i (zk_L n (fun j => if j < n then x else f j))))) 0 0 6 [some (.ref (i + 1)), some (.long x), none, some (.int (nI k)), some (.int (nI n))] [] (w.set i (zk_L n (fun j => if j < k then x else f j))) := by
    refine wz_up n (fun k hk ih => ?_) ?_
    · refine zr_iload_n dArrays_fill_6 rfl ?_
      refine zr_iload dArrays_fill_7 rfl ?_
      refine zr_icmp_geN (tgt := 22) (by omega) (by omega) dArrays_fill_9 (by decide) (fun h9 => ?_) (fun h9 => ?_)
      · exfalso; omega
      · refine zr_aload_n dArrays_fill_12 rfl rfl ?_
        refine zr_iload_n dArrays_fill_13 rfl ?_
        refine zr_lload_n dArrays_fill_14 rfl ?_
        refine zr_last dArrays_fill_15 (List.getElem?_set_self hl) (hk) (by omega) ?_
        rw [List.set_set, zf_fill]
        refine zr_iinc (v := nI (_ + 1)) dArrays_fill_16 rfl (nI_1 _) (by decide) ?_
        refine zr_goto (tgt := 6) dArrays_fill_19 (by decide) ?_
        exact ih
    · refine zr_iload_n dArrays_fill_6 rfl ?_
      refine zr_iload dArrays_fill_7 rfl ?_
      refine zr_icmp_geN (tgt := 22) (by omega) (by omega) dArrays_fill_9 (by decide) (fun h9 => ?_) (fun h9 => ?_)
      · exact zr_return dArrays_fill_22 rfl (⟨rfl, rfl⟩)
      · exfalso; omega
  show zw_Z G Y_Arrays_fill _ _ _ 0 0 0 [some (.ref (i + 1)), some (.long x), none, none, none] [] _
  refine zr_iconst (v := nI 0) dArrays_fill_0 (by decide) ?_
  refine zr_istore_n dArrays_fill_1 (by decide) ?_
  refine zr_aload_n dArrays_fill_2 rfl rfl ?_
  refine zr_alen dArrays_fill_3 hi (by decide) rfl ?_
  refine zr_istore dArrays_fill_4 (by decide) ?_
  have e : w = w.set i (zk_L n (fun j => if j < 0 then x else f j)) := by
    rw [show (fun j => if j < 0 then x else f j) = f from funext fun j => if_neg (Nat.not_lt_zero j)]
    exact zf_setself hi
  refine zr_wld e ?_
  exact key 0 (Nat.zero_le n)
set_option maxHeartbeats 4000000 in
set_option maxRecDepth 100000 in
theorem c_Document_timesOf {G : zw_G} {w : zw_W} {q n : Nat} {f : Nat → Int64} {x : Int64} {c : Int32} (hn : n < 1000) (hq : w[q]? = some (.inr (6, [.int c, .ref (q + 2)]))) (hf : w[q + 1]? = some (zk_L n f)) : zw_Met G Y_Document_timesOf 0 0 0 [.ref (q + 1), .long x] w (zw_is (some (.int (nI (wn_sum (fun j => if f j = x then 1 else 0) n)))) w) := by
  have key : ∀ k, k ≤ n → zw_Z G Y_Document_timesOf (zw_R 0 0 0) (fun _ => True) (zw_Q G 0 0 (zw_is (some (.int (nI (wn_sum (fun j => if f j = x then 1 else 0) n)))) w)) 0 0 16 [some (.ref (q + 1)), some (.long x), none, some (.int (nI (wn_sum (fun j => if f j = x then 1 else 0) k))), some (.ref (q + 2)), some (.int (nI n)), some (.int (nI k)), none, none] [] w := by
    refine wz_up n (fun k hk ih => ?_) ?_
    · refine zr_iload dDocument_timesOf_16 rfl ?_
      refine zr_iload dDocument_timesOf_18 rfl ?_
      refine zr_icmp_geN (tgt := 46) (by omega) (by omega) dDocument_timesOf_20 (by decide) (fun h20 => ?_) (fun h20 => ?_)
      · exfalso; omega
      · refine zr_aload dDocument_timesOf_23 rfl rfl ?_
        refine zr_iload dDocument_timesOf_25 rfl ?_
        refine zr_lald dDocument_timesOf_27 hf (hk) (by omega) ?_
        refine zr_lstore dDocument_timesOf_28 (by decide) ?_
        refine zr_lload dDocument_timesOf_30 rfl ?_
        refine zr_lload_n dDocument_timesOf_32 rfl ?_
        refine zr_lcmp_ne (tgt := 40) dDocument_timesOf_33 dDocument_timesOf_34 (by decide) (fun h33 => ?_) (fun h33 => ?_)
        · rw [wn_sum, if_neg h33, Nat.add_zero] at ih
          refine zr_iinc (v := nI (k + 1)) dDocument_timesOf_40 rfl (nI_1 _) (by decide) ?_
          refine zr_goto (tgt := 16) dDocument_timesOf_43 (by decide) ?_
          exact zr_mask [true, true, true, true, true, true, true, false, false] ih
        · refine zr_iinc (v := nI (wn_sum (fun j => if f j = x then 1 else 0) (k + 1))) dDocument_timesOf_37 rfl (by rw [wn_sum, if_pos h33]; exact nI_1 _) (by decide) ?_
          refine zr_iinc (v := nI (k + 1)) dDocument_timesOf_40 rfl (nI_1 _) (by decide) ?_
          refine zr_goto (tgt := 16) dDocument_timesOf_43 (by decide) ?_
          exact zr_mask [true, true, true, true, true, true, true, false, false] ih
    · refine zr_iload dDocument_timesOf_16 rfl ?_
      refine zr_iload dDocument_timesOf_18 rfl ?_
      refine zr_icmp_geN (tgt := 46) (by omega) (by omega) dDocument_timesOf_20 (by decide) (fun h20 => ?_) (fun h20 => ?_)
      · refine zr_iload_n dDocument_timesOf_46 rfl ?_
        exact zr_ireturn dDocument_timesOf_47 rfl rfl (⟨by rfl, rfl⟩)
      · exfalso; omega
  show zw_Z G Y_Document_timesOf _ _ _ 0 0 0 [some (.ref (q + 1)), some (.long x), none, none, none, none, none, none, none] [] _
  refine zr_iconst (v := nI 0) dDocument_timesOf_0 (by decide) ?_
  refine zr_istore_n dDocument_timesOf_1 (by decide) ?_
  refine zr_aload_n dDocument_timesOf_2 rfl rfl ?_
  refine zr_getf g_Document_13 dDocument_timesOf_3 hq rfl ?_
  refine zr_astore dDocument_timesOf_6 (by decide) rfl ?_
  refine zr_aload dDocument_timesOf_8 rfl rfl ?_
  refine zr_alen dDocument_timesOf_10 hf (by decide) rfl ?_
  refine zr_istore dDocument_timesOf_11 (by decide) ?_
  refine zr_iconst (v := nI 0) dDocument_timesOf_13 (by decide) ?_
  refine zr_istore dDocument_timesOf_14 (by decide) ?_
  exact key 0 (Nat.zero_le n)
set_option maxHeartbeats 4000000 in
set_option maxRecDepth 100000 in
theorem c_Document_init {G : zw_G} {w : zw_W} {q : Nat} {c : Int32} {a : Nat} (hq : w[q]? = some (.inr (6, [.int 0, .null]))) : zw_Met G Y_Document_init 1 0 0 [.ref (q + 1), .int c, .ref a] w (zw_is none (w.set q (.inr (6, [.int c, .ref a])))) := by
  have hl : q < w.length := (List.getElem?_eq_some_iff.mp hq).1
  show zw_Z G Y_Document_init _ _ _ 0 0 0 [some (.ref (q + 1)), some (.int c), some (.ref a)] [] _
  refine zr_aload_n dDocument_init_0 rfl rfl ?_
  refine zr_objInit o_Document_1 t_oi t_oc dDocument_init_1 (by decide) ?_
  refine zr_aload_n dDocument_init_4 rfl rfl ?_
  refine zr_iload_n dDocument_init_5 rfl ?_
  refine zr_putF f_Document_7 rfl dDocument_init_6 hq (Nat.le_of_ble_eq_true rfl) (fun _ => rfl) (fun _ => rfl) ?_
  refine zr_aload_n dDocument_init_9 rfl rfl ?_
  refine zr_aload_n dDocument_init_10 rfl rfl ?_
  refine zr_putF f_Document_13 rfl dDocument_init_11 (List.getElem?_set_self hl) (Nat.le_of_ble_eq_true rfl) (fun _ => rfl) (fun _ => rfl) ?_
  rw [List.set_set]
  exact zr_return dDocument_init_14 rfl (⟨rfl, rfl⟩)
theorem zf_mask32 {a : Nat} (h : a < 2 ^ 64) : lN a &&& 4294967295 = lN (a % 4294967296) := g_mask (s := 32) (p := 4294967296) (by decide) (by decide) h
theorem zf_shr32 {a : Nat} (h : a < 2 ^ 64) : ((lN a).toUInt64 >>> ((nI 32).toInt64.toUInt64 &&& Int64.toUInt64 63)).toInt64 = lN (a / 4294967296) := wb_shr (k := 32) h (by decide)
def zf_dn (k : Nat) : Int32 := match k with
  | 0 => -1
  | j + 1 => nI j
theorem zf_dn_step (k : Nat) : nI k + Int32.ofInt (-1) = zf_dn k := by
  cases k with
  | zero => decide
  | succ k => exact pk_m1 k
def zf_sgn (x y : Nat) : Int32 := if x = y then 0 else if y < x then 1 else -1
set_option maxHeartbeats 4000000 in
set_option maxRecDepth 100000 in
theorem c_Product_start {G : zw_G} {w : zw_W} {i v : Nat} {f : Nat → Int64} (hv : v < 2 ^ 31) (hi : w[i]? = some (.inr (5, [.ref (i + 2)]))) (hj : w[i + 1]? = some (zk_L 12 f)) : zw_Met G Y_Product_start 1 0 0 [.ref (i + 1), .int (nI v)] w (fun r w2 => r = none ∧ ∃ f2, w2 = w.set (i + 1) (zk_L 12 f2) ∧ ∀ j, j < 12 → f2 j = lN (if j = 0 then v else 0)) := by
  have hl : i + 1 < w.length := (List.getElem?_eq_some_iff.mp hj).1
  show zw_Z G Y_Product_start _ _ _ 0 0 0 [some (.ref (i + 1)), some (.int (nI v))] [] _
  refine zr_aload_n dProduct_start_0 rfl rfl ?_
  refine zr_getf g_Product_9 dProduct_start_1 hi rfl ?_
  refine zr_lconst (v := 0) dProduct_start_4 (by decide) ?_
  refine zr_invS (c_Arrays_fill (by omega) hj) m_Arrays_fill k_Product_13 (s_Arrays_fill) dProduct_start_5 rfl (Nat.le_of_ble_eq_true rfl) (by decide) (Nat.le_of_ble_eq_true rfl) rfl (fun v w2 hp => ?_)
  obtain ⟨rfl, rfl⟩ := hp
  refine ⟨by rw [List.length_set]; rfl, ?_⟩
  refine zr_aload_n dProduct_start_8 rfl rfl ?_
  refine zr_getf g_Product_9 dProduct_start_9 (by rw [List.getElem?_set_ne (by omega)]; exact hi) rfl ?_
  refine zr_iconst (v := nI 0) dProduct_start_12 (by decide) ?_
  refine zr_iload_n dProduct_start_13 rfl ?_
  refine zr_i2l dProduct_start_14 (nI_l hv) ?_
  refine zr_last dProduct_start_15 (List.getElem?_set_self hl) (by omega) (by decide) ?_
  rw [List.set_set]
  exact zr_return dProduct_start_16 rfl (⟨rfl, _, rfl, fun j hj2 => by
    show (if j = 0 then lN v else if j < 12 then 0 else f j) = _
    by_cases h : j = 0
    · rw [if_pos h, if_pos h]
    · rw [if_neg h, if_neg h, if_pos hj2]; rfl⟩)
set_option maxHeartbeats 4000000 in
set_option maxRecDepth 100000 in
theorem c_Product_times {G : zw_G} {w : zw_W} {i q : Nat} {f : Nat → Int64} {F : Nat → Nat} (hq : q < 2 ^ 31) (hF : ∀ j, j < 12 → F j < 4294967296) (hf : ∀ j, j < 12 → f j = lN (F j)) (hi : w[i]? = some (.inr (5, [.ref (i + 2)]))) (hj : w[i + 1]? = some (zk_L 12 f)) : zw_Met G Y_Product_times 0 0 0 [.ref (i + 1), .int (nI q)] w (zw_is none (w.set (i + 1) (zk_L 12 (fun j => if j < 12 then lN ((F j * q + wv_c 4294967296 q F j) % 4294967296) else f j)))) := by
  have hl : i + 1 < w.length := (List.getElem?_eq_some_iff.mp hj).1
  have key : ∀ k, k ≤ 12 → zw_Z G Y_Product_times (zw_R 0 0 0) (fun _ => True) (zw_Q G 0 0 (zw_is none (w.set (i + 1) (zk_L 12 (fun j => if j < 12 then lN ((F j * q + wv_c 4294967296 q F j) % 4294967296) else f j))))) 0 0 5 [some (.ref (i + 1)), some (.int (nI q)), some (.long (lN (wv_c 4294967296 q F k))), none, some (.int (nI k)), none, none] [] (w.set (i + 1) (zk_L 12 (fun j => if j < k then lN ((F j * q + wv_c 4294967296 q F j) % 4294967296) else f j))) := by
    refine wz_up 12 (fun k hk ih => ?_) ?_
    · have hs : F k * q + wv_c 4294967296 q F k < 2 ^ 64 := by
        have h1 := wv_c_le (q := q) (n := 12) (by decide) hF k (by omega)
        have h2 : F k * q ≤ 4294967295 * q := Nat.mul_le_mul_right q (by have := hF k hk; omega)
        omega
      refine zr_iload dProduct_times_5 rfl ?_
      refine zr_bipush (v := nI 12) dProduct_times_7 (by decide) ?_
      refine zr_icmp_geN (tgt := 51) (by omega) (by omega) dProduct_times_9 (by decide) (fun h9 => ?_) (fun h9 => ?_)
      · exfalso; omega
      · refine zr_aload_n dProduct_times_12 rfl rfl ?_
        refine zr_getf g_Product_9 dProduct_times_13 (by rw [List.getElem?_set_ne (by omega)]; exact hi) rfl ?_
        refine zr_iload dProduct_times_16 rfl ?_
        refine zr_lald dProduct_times_18 (List.getElem?_set_self hl) (hk) (by decide) ?_
        refine zr_topL ((if_neg (Nat.lt_irrefl k)).trans (hf k hk)) ?_
        refine zr_iload_n dProduct_times_19 rfl ?_
        refine zr_i2l dProduct_times_20 (nI_l hq) ?_
        refine zr_lmul dProduct_times_21 ?_
        refine zr_topL (lN_mul _ _) ?_
        refine zr_lload_n dProduct_times_22 rfl ?_
        refine zr_ladd dProduct_times_23 ?_
        refine zr_topL (lN_add _ _) ?_
        refine zr_lstore dProduct_times_24 (by decide) ?_
        refine zr_aload_n dProduct_times_26 rfl rfl ?_
        refine zr_getf g_Product_9 dProduct_times_27 (by rw [List.getElem?_set_ne (by omega)]; exact hi) rfl ?_
        refine zr_iload dProduct_times_30 rfl ?_
        refine zr_lload dProduct_times_32 rfl ?_
        refine zr_ldc2 n_Product_19 dProduct_times_34 ?_
        refine zr_land dProduct_times_37 ?_
        refine zr_topL (zf_mask32 hs) ?_
        refine zr_last dProduct_times_38 (List.getElem?_set_self hl) (hk) (by decide) ?_
        rw [List.set_set, zf_upk (d := fun j => lN ((F j * q + wv_c 4294967296 q F j) % 4294967296))]
        refine zr_lload dProduct_times_39 rfl ?_
        refine zr_bipush (v := nI 32) dProduct_times_41 (by decide) ?_
        refine zr_lushr dProduct_times_43 (zf_shr32 hs) ?_
        refine zr_lstore_n dProduct_times_44 (by decide) ?_
        refine zr_iinc (v := nI (k + 1)) dProduct_times_45 rfl (nI_1 _) (by decide) ?_
        refine zr_goto (tgt := 5) dProduct_times_48 (by decide) ?_
        exact zr_mask [true, true, true, false, true, false, false] ih
    · refine zr_iload dProduct_times_5 rfl ?_
      refine zr_bipush (v := nI 12) dProduct_times_7 (by decide) ?_
      refine zr_icmp_geN (tgt := 51) (by omega) (by omega) dProduct_times_9 (by decide) (fun h9 => ?_) (fun h9 => ?_)
      · exact zr_return dProduct_times_51 rfl (⟨rfl, rfl⟩)
      · exfalso; omega
  show zw_Z G Y_Product_times _ _ _ 0 0 0 [some (.ref (i + 1)), some (.int (nI q)), none, none, none, none, none] [] _
  refine zr_lconst (v := 0) dProduct_times_0 (by decide) ?_
  refine zr_lstore_n dProduct_times_1 (by decide) ?_
  refine zr_iconst (v := nI 0) dProduct_times_2 (by decide) ?_
  refine zr_istore dProduct_times_3 (by decide) ?_
  have e : w = w.set (i + 1) (zk_L 12 (fun j => if j < 0 then lN ((F j * q + wv_c 4294967296 q F j) % 4294967296) else f j)) := by
    rw [show (fun j => if j < 0 then lN ((F j * q + wv_c 4294967296 q F j) % 4294967296) else f j) = f from funext fun j => if_neg (Nat.not_lt_zero j)]
    exact zf_setself hj
  refine zr_wld e ?_
  exact key 0 (Nat.zero_le 12)
set_option maxHeartbeats 4000000 in
set_option maxRecDepth 100000 in
theorem c_Product_signAgainst {G : zw_G} {w : zw_W} {i i2 : Nat} {f g : Nat → Int64} {F H : Nat → Nat} (hF : ∀ j, j < 12 → F j < 4294967296) (hH : ∀ j, j < 12 → H j < 4294967296) (hf : ∀ j, j < 12 → f j = lN (F j)) (hg : ∀ j, j < 12 → g j = lN (H j)) (hi : w[i]? = some (.inr (5, [.ref (i + 2)]))) (hj : w[i + 1]? = some (zk_L 12 f)) (hi2 : w[i2]? = some (.inr (5, [.ref (i2 + 2)]))) (hj2 : w[i2 + 1]? = some (zk_L 12 g)) : zw_Met G Y_Product_signAgainst 0 0 0 [.ref (i + 1), .ref (i2 + 1)] w (zw_is (some (.int (zf_sgn (wv 4294967296 F 12) (wv 4294967296 H 12)))) w) := by
  have key : ∀ k, k ≤ 12 → (∀ j, k ≤ j → j < 12 → F j = H j) → zw_Z G Y_Product_signAgainst (zw_R 0 0 0) (fun _ => True) (zw_Q G 0 0 (zw_is (some (.int (zf_sgn (wv 4294967296 F 12) (wv 4294967296 H 12)))) w)) 0 0 3 [some (.ref (i + 1)), some (.ref (i2 + 1)), some (.int (zf_dn k))] [] w := by
    intro k
    induction k with
    | zero =>
      intro _ hab
      refine zr_iload_n dProduct_signAgainst_3 rfl ?_
      refine zr_if_lt (tgt := 51) dProduct_signAgainst_4 (by decide) (fun h4 => ?_) (fun h4 => ?_)
      · refine zr_iconst (v := nI 0) dProduct_signAgainst_51 (by decide) ?_
        exact zr_ireturn dProduct_signAgainst_52 rfl rfl (⟨congrArg (fun x => some (Value.int x)) (by unfold zf_sgn; rw [if_pos (wv_congr fun j hj => hab j (Nat.zero_le _) hj)]; rfl), rfl⟩)
      · exact absurd (show (-1 : Int32) < 0 by decide) h4
    | succ k ih =>
      intro hk hab
      refine zr_iload_n dProduct_signAgainst_3 rfl ?_
      refine zr_if_ltN (tgt := 51) (by omega) dProduct_signAgainst_4 (by decide) (fun h4 => ?_) (fun h4 => ?_)
      · exact h4.elim
      · refine zr_aload_n dProduct_signAgainst_7 rfl rfl ?_
        refine zr_getf g_Product_9 dProduct_signAgainst_8 hi rfl ?_
        refine zr_iload_n dProduct_signAgainst_11 rfl ?_
        refine zr_lald dProduct_signAgainst_12 hj (by omega) (by decide) ?_
        refine zr_topL (hf k (by omega)) ?_
        refine zr_aload_n dProduct_signAgainst_13 rfl rfl ?_
        refine zr_getf g_Product_9 dProduct_signAgainst_14 hi2 rfl ?_
        refine zr_iload_n dProduct_signAgainst_17 rfl ?_
        refine zr_lald dProduct_signAgainst_18 hj2 (by omega) (by decide) ?_
        refine zr_topL (hg k (by omega)) ?_
        refine zr_lcmp_eq (tgt := 45) dProduct_signAgainst_19 dProduct_signAgainst_20 (by decide) (fun h19 => ?_) (fun h19 => ?_)
        · refine zr_iinc (v := zf_dn k) dProduct_signAgainst_45 rfl (zf_dn_step k) (by decide) ?_
          refine zr_goto (tgt := 3) dProduct_signAgainst_48 (by decide) ?_
          refine ih (by omega) (fun j h1 h2 => ?_)
          by_cases e : j = k
          · rw [e]; exact (pk_lEQ (by have := hF k (by omega); omega) (by have := hH k (by omega); omega)).mp h19
          · exact hab j (by omega) h2
        · have hne : F k ≠ H k := fun u => h19 (by rw [u])
          refine zr_aload_n dProduct_signAgainst_23 rfl rfl ?_
          refine zr_getf g_Product_9 dProduct_signAgainst_24 hi rfl ?_
          refine zr_iload_n dProduct_signAgainst_27 rfl ?_
          refine zr_lald dProduct_signAgainst_28 hj (by omega) (by decide) ?_
          refine zr_topL (hf k (by omega)) ?_
          refine zr_aload_n dProduct_signAgainst_29 rfl rfl ?_
          refine zr_getf g_Product_9 dProduct_signAgainst_30 hi2 rfl ?_
          refine zr_iload_n dProduct_signAgainst_33 rfl ?_
          refine zr_lald dProduct_signAgainst_34 hj2 (by omega) (by decide) ?_
          refine zr_topL (hg k (by omega)) ?_
          refine zr_lcmp_le (tgt := 43) dProduct_signAgainst_35 dProduct_signAgainst_36 (by decide) (fun h35 => ?_) (fun h35 => ?_)
          · have hlt : F k < H k := by
              have h1 : ¬ H k < F k := fun u => h35 ((pk_lLT (by have := hH k (by omega); omega) (by have := hF k (by omega); omega)).mpr u)
              omega
            have hw := wv_cmp hF (by omega) (fun j h1 h2 => hab j (by omega) h2) hlt
            refine zr_iconst (v := (-1)) dProduct_signAgainst_43 (by decide) ?_
            exact zr_ireturn dProduct_signAgainst_44 rfl rfl (⟨congrArg (fun x => some (Value.int x)) (by unfold zf_sgn; rw [if_neg (by omega)]; first | (rw [if_pos (by omega)]; rfl) | (rw [if_neg (by omega)]; done)), rfl⟩)
          · have hlt : H k < F k := (pk_lLT (by have := hH k (by omega); omega) (by have := hF k (by omega); omega)).mp h35
            have hw := wv_cmp hH (by omega) (fun j h1 h2 => (hab j (by omega) h2).symm) hlt
            refine zr_iconst (v := nI 1) dProduct_signAgainst_39 (by decide) ?_
            refine zr_goto (tgt := 44) dProduct_signAgainst_40 (by decide) ?_
            exact zr_ireturn dProduct_signAgainst_44 rfl rfl (⟨congrArg (fun x => some (Value.int x)) (by unfold zf_sgn; rw [if_neg (by omega)]; first | (rw [if_pos (by omega)]; rfl) | (rw [if_neg (by omega)]; done)), rfl⟩)
  show zw_Z G Y_Product_signAgainst _ _ _ 0 0 0 [some (.ref (i + 1)), some (.ref (i2 + 1)), none] [] _
  refine zr_bipush (v := nI 11) dProduct_signAgainst_0 (by decide) ?_
  refine zr_istore_n dProduct_signAgainst_2 (by decide) ?_
  exact key 12 (Nat.le_refl 12) (fun j h1 h2 => by omega)
