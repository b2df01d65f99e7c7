/-! THE LAW'S INVARIANT: the world is the class's 25 cells, the reference's 14, and the documents; both sides stand for the same text, documents and log -/
def lq_I (w : zw_W) : Prop := ∃ (n len m cn cw wo : Nat) (x lb li lc ln dc1 dn1 dc2 dn2 : Nat → Nat) (tw s1 s2 l1 l2 cu co wr : Nat → Int64) (g1 g2 pl : Nat → Option Nat) (ids bl fd fe tx le la sz wh wt ma bk lf rt : Nat → Int32) (fr : Nat → Nat → Int32) (df1 df2 lff : Nat → Nat → Int64) (D1 D2 LW : Nat → Nat → List Nat) (r : zw_W), w = (zk_WE n :: zk_Text (wt_of x len).1 len (wt_of x len).2.2 :: zk_L 20 tw :: zk_Sh 3 :: zk_D 32 g1 :: zk_L 200 s1 :: zk_Sh 6 :: zk_D 32 g2 :: zk_L 200 s2 :: zk_Log m (wn_sum lb m) :: zk_I 24 ids :: zk_I 24 bl :: zk_D 24 pl :: zk_Ch cn cw :: zk_I 4 fd :: zk_A 4 zk_ga :: zk_I 20 (fr 0) :: zk_I 20 (fr 1) :: zk_I 20 (fr 2) :: zk_I 20 (fr 3) :: zk_I 4 fe :: zk_P 21 :: zk_L 12 l1 :: zk_P 23 :: zk_L 12 l2 :: zk_Mo n len wo m :: zk_I 40 tx :: zk_L 20 cu :: zk_I 160 le :: zk_I 64 la :: zk_I 64 sz :: zk_L 1280 co :: zk_I 24 wh :: zk_I 24 wt :: zk_I 24 ma :: zk_I 24 bk :: zk_L 480 wr :: zk_I 50 lf :: zk_I 50 rt :: r) ∧ (2 ≤ n) ∧ (n ≤ 4) ∧ (len ≤ 40) ∧ (∀ i, i < len → tx i = nI (x i)) ∧ (∀ i, i < len → x i < 65536) ∧ (∀ i, i < (wt_of x len).1 → tw i = lN (we_a ((wt_of x len).2.1 i))) ∧ (le_ok 32 0 r g1 dc1 dn1 df1 D1 la sz co) ∧ (le_ok 32 32 r g2 dc2 dn2 df2 D2 la sz co) ∧ (m ≤ 24) ∧ (wn_sum lb m ≤ 24) ∧ (∀ j, j < m → 1 ≤ lb j) ∧ (∀ j, j < m → li j < 32) ∧ (∀ j, j < m → ids j = nI (li j)) ∧ (∀ j, j < m → bl j = nI (lb j)) ∧ (∀ j, j < m → wh j = nI (li j)) ∧ (∀ j, j < m → bk j = nI (lb j)) ∧ (le_ok m 0 r pl lc ln lff LW wt ma wr) ∧ (∀ k, k ≤ m → zs_size (zl_app li pl g2 k) 32 ≤ 10) ∧ (∀ id, id < 32 → (g1 id = none ↔ zl_app li pl g2 m id = none))
abbrev lq_at (G : zw_G) (nm : String) (L : Nat) (xs : Nat → Int32) (κ σ pc i : Nat) (w : zw_W) : Prop := lq_Z G nm L xs κ σ pc [some (.ref 0), some (.ref 1), some (.ref 26), some (.int (nI i))] [] w
theorem lq_key {x : Nat → Nat} {len c : Nat} : wt_of (va_up x len c) (len + 1) = wt_step (wt_of x len) (wf_fold c) := by
  have e1 : wt_of (va_up x len c) len = wt_of x len := wt_of_congr (fun i hi => if_neg (by omega))
  have e2 : va_up x len c len = c := if_pos rfl
  rw [wt_of, e1, e2]
theorem lq_sum {f : Nat → Nat} {m v : Nat} : wn_sum (va_up f m v) (m + 1) = wn_sum f m + v := by
  have e1 : wn_sum (va_up f m v) m = wn_sum f m := wn_sum_congr (fun i hi => if_neg (by omega))
  have e2 : va_up f m v m = v := if_pos rfl
  rw [wn_sum, e1, e2]
theorem lq_apps {α : Type} {li li2 : Nat → Nat} {pl pl2 g : Nat → α} {k : Nat} (h : ∀ j, j < k → li2 j = li j ∧ pl2 j = pl j) : zl_app li2 pl2 g k = zl_app li pl g k := by
  induction k with
  | zero => rfl
  | succ k ih => rw [zl_app, zl_app, ih (fun j hj => h j (by omega)), (h k (by omega)).1, (h k (by omega)).2]
theorem lq_m {lb : Nat → Nat} {m : Nat} (h : ∀ j, j < m → 1 ≤ lb j) : m ≤ wn_sum lb m := by
  induction m with
  | zero => exact Nat.zero_le _
  | succ m ih =>
    have h1 := ih (fun j hj => h j (by omega))
    have h2 := h m (by omega)
    rw [wn_sum]
    omega
theorem lq_digit (w : List Nat) (hw : ∀ k ∈ w, k < 128) : ∀ j, we_a w / 256 ^ j % 256 = w.getD j 0 := by
  induction w with
  | nil => intro j; simp [we_a]
  | cons u w ih =>
    intro j
    have hu := hw u List.mem_cons_self
    cases j with
    | zero => simp [we_a]; omega
    | succ j =>
      rw [we_a, Nat.pow_succ, Nat.mul_comm (256 ^ j) 256, ← Nat.div_div_eq_div_mul, show (u + 256 * we_a w) / 256 = we_a w by omega]
      exact ih (fun k hk => hw k (List.mem_cons_of_mem _ hk)) j
theorem lq_letter {s : wt_S} {k i : Int32} (h20 : s.1 ≤ 20) (hs : ∀ j, j < s.1 → wd_ok (s.2.1 j)) : zf_letter s.1 (fun j => we_a (s.2.1 j)) k i = mo_letter s k i := by
  unfold zf_letter mo_letter
  by_cases h : ¬ k < 0 ∧ k < nI s.1
  · rw [if_pos h]
    obtain ⟨j, hj, rfl⟩ := zf_rng (by omega) h.1 h.2
    rw [nI_clamp (by omega)]
    unfold zf_at
    by_cases h2 : ¬ i < 0 ∧ i < nI 8
    · rw [if_neg (fun q => q.elim h2.1 (fun z => z h2.2)), if_pos ⟨h, h2⟩]
      obtain ⟨a, ha, rfl⟩ := zf_rng (by decide) h2.1 h2.2
      rw [nI_clamp (by omega), ← zf_pow, lq_digit _ (fun q hq => ((hs j hj).2.2 q hq).2)]
    · have h4 : i < 0 ∨ ¬ i < nI 8 := by
        by_cases h3 : i < 0
        · exact Or.inl h3
        · exact Or.inr (fun z => h2 ⟨h3, z⟩)
      rw [if_pos h4]
      exact (if_neg (fun q => h2 q.2)).symm
  · rw [if_neg h, if_neg (fun q => h q.1)]
theorem lq_lt1 {c : Int32} (h : c < 0) (h1 : ¬ c = -1) : c < -1 := by
  apply Int32.lt_iff_toInt_lt.mpr
  have h2 := Int32.lt_iff_toInt_lt.mp h
  have h3 : c.toInt ≠ -1 := fun e => h1 (Int32.toInt_inj.mp e)
  have h4 : (-1 : Int32).toInt = -1 := by decide
  have h5 : (0 : Int32).toInt = 0 := by decide
  rw [h4]
  rw [h5] at h2
  omega
theorem zf_sg0 {g : Nat → Option Nat} {dc dn : Nat → Nat} {df : Nat → Nat → Int64} {tw : Nat → Int64} {wc : Nat} (c : Nat) : zf_sg g dc dn df tw wc c c = 0 := if_pos rfl
