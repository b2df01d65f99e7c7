/-! the vocabulary: g which ids have a document, dn how many words, df the words as numbers -/
/-- x stands ahead of the place (id, k) -/
def zv_occ {α : Type} (g : Nat → Prop) (dn : Nat → Nat) (df : Nat → Nat → α) (id k : Nat) (x : α) : Prop := ∃ d j, g d ∧ ((d < id ∧ j < dn d) ∨ (d = id ∧ j < k)) ∧ df d j = x
noncomputable def zv_n {α : Type} (g : Nat → Prop) (dn : Nat → Nat) (df : Nat → Nat → α) (id k : Nat) : Nat := @ite Nat (zv_occ g dn df id k (df id k)) (Classical.propDecidable _) 0 1
noncomputable def zv_row {α : Type} (g : Nat → Prop) (dn : Nat → Nat) (df : Nat → Nat → α) (id : Nat) : Nat := @ite Nat (g id) (Classical.propDecidable _) (wn_sum (fun j => zv_n g dn df id j) (dn id)) 0
noncomputable def zv_cnt {α : Type} (g : Nat → Prop) (dn : Nat → Nat) (df : Nat → Nat → α) (id k : Nat) : Nat := wn_sum (fun d => zv_row g dn df d) id + wn_sum (fun j => zv_n g dn df id j) k
theorem zv_n_0 {α : Type} {g : Nat → Prop} {dn : Nat → Nat} {df : Nat → Nat → α} {id k : Nat} (h : zv_occ g dn df id k (df id k)) : zv_n g dn df id k = 0 := by unfold zv_n; exact if_pos h
theorem zv_n_1 {α : Type} {g : Nat → Prop} {dn : Nat → Nat} {df : Nat → Nat → α} {id k : Nat} (h : ¬ zv_occ g dn df id k (df id k)) : zv_n g dn df id k = 1 := by unfold zv_n; exact if_neg h
theorem zv_n_le {α : Type} {g : Nat → Prop} {dn : Nat → Nat} {df : Nat → Nat → α} {id k : Nat} : zv_n g dn df id k ≤ 1 := by
  by_cases h : zv_occ g dn df id k (df id k)
  · rw [zv_n_0 h]; omega
  · rw [zv_n_1 h]; omega
theorem zv_row_0 {α : Type} {g : Nat → Prop} {dn : Nat → Nat} {df : Nat → Nat → α} {id : Nat} (h : ¬ g id) : zv_row g dn df id = 0 := by unfold zv_row; exact if_neg h
theorem zv_row_1 {α : Type} {g : Nat → Prop} {dn : Nat → Nat} {df : Nat → Nat → α} {id : Nat} (h : g id) : zv_row g dn df id = wn_sum (fun j => zv_n g dn df id j) (dn id) := by unfold zv_row; exact if_pos h
theorem zv_cnt_k {α : Type} {g : Nat → Prop} {dn : Nat → Nat} {df : Nat → Nat → α} {id k : Nat} : zv_cnt g dn df id (k + 1) = zv_cnt g dn df id k + zv_n g dn df id k := by
  unfold zv_cnt
  rw [wn_sum]
  omega
theorem zv_cnt_id {α : Type} {g : Nat → Prop} {dn : Nat → Nat} {df : Nat → Nat → α} {id : Nat} (h : g id) : zv_cnt g dn df (id + 1) 0 = zv_cnt g dn df id (dn id) := by
  unfold zv_cnt
  show wn_sum (fun d => zv_row g dn df d) id + zv_row g dn df id + 0 = _
  rw [zv_row_1 h]
  rfl
theorem zv_cnt_id0 {α : Type} {g : Nat → Prop} {dn : Nat → Nat} {df : Nat → Nat → α} {id : Nat} (h : ¬ g id) : zv_cnt g dn df (id + 1) 0 = zv_cnt g dn df id 0 := by
  unfold zv_cnt
  show wn_sum (fun d => zv_row g dn df d) id + zv_row g dn df id + 0 = _
  rw [zv_row_0 h]
  rfl
/-- how many words in all, ahead of id -/
def zv_tot (g : Nat → Option Nat) (dn : Nat → Nat) (n : Nat) : Nat := wn_sum (fun d => if g d = none then 0 else dn d) n
theorem zv_cnt_le {α : Type} {g : Nat → Option Nat} {dn : Nat → Nat} {df : Nat → Nat → α} {id k : Nat} : zv_cnt (fun d => g d ≠ none) dn df id k ≤ zv_tot g dn id + k := by
  unfold zv_cnt zv_tot
  have h1 : wn_sum (fun j => zv_n (fun d => g d ≠ none) dn df id j) k ≤ 1 * k := wn_sum_le (fun i _ => zv_n_le)
  have h2 : wn_sum (fun d => zv_row (fun d => g d ≠ none) dn df d) id ≤ wn_sum (fun d => if g d = none then 0 else dn d) id := wn_sum_leS (fun i _ => by
    by_cases h : g i = none
    · rw [zv_row_0 (fun q => q h), if_pos h]
      exact Nat.le_refl _
    · rw [zv_row_1 h, if_neg h]
      have := wn_sum_le (h := fun j => zv_n (fun d => g d ≠ none) dn df i j) (b := 1) (n := dn i) (fun j _ => zv_n_le)
      omega)
  omega
/-- the class's picture: m words seen, in sn, ahead of (id, k) -/
def zv_inv (g : Nat → Option Nat) (dn : Nat → Nat) (df : Nat → Nat → Int64) (id k m : Nat) (sn : Nat → Int64) : Prop := m = zv_cnt (fun d => g d ≠ none) dn df id k ∧ ∀ x, (∃ i, i < m ∧ sn i = x) ↔ zv_occ (fun d => g d ≠ none) dn df id k x
theorem zv_occ_k {α : Type} {g : Nat → Prop} {dn : Nat → Nat} {df : Nat → Nat → α} {id k : Nat} {x : α} (hg : g id) : zv_occ g dn df id (k + 1) x ↔ zv_occ g dn df id k x ∨ df id k = x := by
  constructor
  · rintro ⟨d, j, h1, h2, h3⟩
    rcases h2 with h2 | ⟨h2, h4⟩
    · exact Or.inl ⟨d, j, h1, Or.inl h2, h3⟩
    · by_cases e : j = k
      · subst h2; subst e; exact Or.inr h3
      · exact Or.inl ⟨d, j, h1, Or.inr ⟨h2, by omega⟩, h3⟩
  · rintro (⟨d, j, h1, h2, h3⟩ | h)
    · refine ⟨d, j, h1, ?_, h3⟩
      rcases h2 with h2 | ⟨h2, h4⟩
      · exact Or.inl h2
      · exact Or.inr ⟨h2, by omega⟩
    · exact ⟨id, k, hg, Or.inr ⟨rfl, by omega⟩, h⟩
theorem zv_occ_id {α : Type} {g : Nat → Prop} {dn : Nat → Nat} {df : Nat → Nat → α} {id : Nat} {x : α} : zv_occ g dn df (id + 1) 0 x ↔ zv_occ g dn df id (dn id) x ∨ False := by
  rw [or_false]
  constructor
  · rintro ⟨d, j, h1, h2, h3⟩
    rcases h2 with ⟨h2, h4⟩ | ⟨h2, h4⟩
    · by_cases e : d = id
      · exact ⟨d, j, h1, Or.inr ⟨e, by rw [e] at h4; exact h4⟩, h3⟩
      · exact ⟨d, j, h1, Or.inl ⟨by omega, h4⟩, h3⟩
    · omega
  · rintro ⟨d, j, h1, h2, h3⟩
    refine ⟨d, j, h1, Or.inl ?_, h3⟩
    rcases h2 with ⟨h2, h4⟩ | ⟨h2, h4⟩
    · exact ⟨by omega, h4⟩
    · rw [h2]; exact ⟨by omega, h4⟩
theorem zv_occ_id0 {α : Type} {g : Nat → Prop} {dn : Nat → Nat} {df : Nat → Nat → α} {id : Nat} {x : α} (hg : ¬ g id) : zv_occ g dn df (id + 1) 0 x ↔ zv_occ g dn df id 0 x := by
  constructor
  · rintro ⟨d, j, h1, h2, h3⟩
    rcases h2 with ⟨h2, h4⟩ | ⟨h2, h4⟩
    · by_cases e : d = id
      · rw [e] at h1; exact absurd h1 hg
      · exact ⟨d, j, h1, Or.inl ⟨by omega, h4⟩, h3⟩
    · omega
  · rintro ⟨d, j, h1, h2, h3⟩
    refine ⟨d, j, h1, Or.inl ?_, h3⟩
    rcases h2 with ⟨h2, h4⟩ | ⟨h2, h4⟩
    · exact ⟨by omega, h4⟩
    · omega
theorem zv_inv_0 {g : Nat → Option Nat} {dn : Nat → Nat} {df : Nat → Nat → Int64} {sn : Nat → Int64} : zv_inv g dn df 0 0 0 sn := by
  refine ⟨rfl, fun x => ⟨fun h => ?_, fun h => ?_⟩⟩
  · obtain ⟨i, hi, -⟩ := h; omega
  · obtain ⟨d, j, -, h2, -⟩ := h; omega
theorem zv_inv_old {g : Nat → Option Nat} {dn : Nat → Nat} {df : Nat → Nat → Int64} {id k m : Nat} {sn : Nat → Int64} (hg : g id ≠ none) (h : zv_inv g dn df id k m sn) (hs : ∃ i, i < m ∧ sn i = df id k) : zv_inv g dn df id (k + 1) m sn := by
  have hoc := (h.2 _).mp hs
  refine ⟨by rw [zv_cnt_k, zv_n_0 hoc]; exact h.1, fun x => ?_⟩
  rw [h.2, zv_occ_k (g := fun d => g d ≠ none) hg]
  exact ⟨fun q => Or.inl q, fun q => q.elim (fun z => z) (fun z => z ▸ hoc)⟩
theorem zv_inv_new {g : Nat → Option Nat} {dn : Nat → Nat} {df : Nat → Nat → Int64} {id k m : Nat} {sn : Nat → Int64} (hg : g id ≠ none) (h : zv_inv g dn df id k m sn) (hs : ∀ i, i < m → sn i ≠ df id k) : zv_inv g dn df id (k + 1) (m + 1) (vp_updL sn m (df id k)) := by
  have hoc : ¬ zv_occ (fun d => g d ≠ none) dn df id k (df id k) := fun q => by
    obtain ⟨i, h1, h2⟩ := (h.2 _).mpr q
    exact hs i h1 h2
  refine ⟨by rw [zv_cnt_k, zv_n_1 hoc, h.1], fun x => ?_⟩
  rw [zv_occ_k (g := fun d => g d ≠ none) hg, ← h.2]
  constructor
  · rintro ⟨i, h1, h2⟩
    by_cases e : i = m
    · rw [e, zf_upL] at h2; exact Or.inr h2
    · rw [zf_upLn e] at h2; exact Or.inl ⟨i, by omega, h2⟩
  · rintro (⟨i, h1, h2⟩ | h2)
    · exact ⟨i, by omega, by rw [zf_upLn (by omega)]; exact h2⟩
    · exact ⟨m, by omega, by rw [zf_upL]; exact h2⟩
theorem zv_tot_le {g : Nat → Option Nat} {dn : Nat → Nat} {id : Nat} (hid : id < 32) (hg : g id ≠ none) (ht : zv_tot g dn 32 ≤ 200) : zv_tot g dn id + dn id ≤ 200 := by
  have h1 : zv_tot g dn (id + 1) = zv_tot g dn id + dn id := by unfold zv_tot; rw [wn_sum, if_neg hg]
  have h2 : zv_tot g dn (id + 1) ≤ zv_tot g dn 32 := wn_sum_mono (by omega)
  omega
set_option maxHeartbeats 4000000 in
set_option maxRecDepth 100000 in
theorem c_Shelf_isSeen {G : zw_G} {w : zw_W} {i : Nat} {sn : Nat → Int64} (hs : w[i]? = some (zk_Sh i)) (hn : w[i + 2]? = some (zk_L 200 sn)) {x : Int64} {m : Nat} (hm : m ≤ 200) : zw_Met G Y_Shelf_isSeen 0 0 0 [.ref (i + 1), .long x, .int (nI m)] w (fun v w2 => (v = some (.int 1) ∧ (∃ j, j < m ∧ sn j = x) ∨ v = some (.int 0) ∧ ∀ j, j < m → sn j ≠ x) ∧ w2 = w) := by
  have key : ∀ k, k ≤ m → (∀ j, j < k → sn j ≠ x) → zw_Z G Y_Shelf_isSeen (zw_R 0 0 0) (fun _ => True) (zw_Q G 0 0 (fun v w2 => (v = some (.int 1) ∧ (∃ j, j < m ∧ sn j = x) ∨ v = some (.int 0) ∧ ∀ j, j < m → sn j ≠ x) ∧ w2 = w)) 0 0 3 [some (.ref (i + 1)), some (.long x), none, some (.int (nI m)), some (.int (nI k))] [] w := by
    refine wz_up m (fun k hk ih => ?_) ?_
    · intro hno
      refine zr_iload dShelf_isSeen_3 rfl ?_
      refine zr_iload_n dShelf_isSeen_5 rfl ?_
      refine zr_icmp_geN (tgt := 29) (by omega) (by omega) dShelf_isSeen_6 (by decide) (fun h6 => ?_) (fun h6 => ?_)
      · exfalso; omega
      · refine zr_aload_n dShelf_isSeen_9 rfl rfl ?_
        refine zr_getf g_Shelf_17 dShelf_isSeen_10 hs rfl ?_
        refine zr_iload dShelf_isSeen_13 rfl ?_
        refine zr_lald dShelf_isSeen_15 hn (by omega) (by decide) ?_
        refine zr_lload_n dShelf_isSeen_16 rfl ?_
        refine zr_lcmp_ne (tgt := 23) dShelf_isSeen_17 dShelf_isSeen_18 (by decide) (fun h17 => ?_) (fun h17 => ?_)
        · refine zr_iinc (v := nI (k + 1)) dShelf_isSeen_23 rfl (nI_1 _) (by decide) ?_
          refine zr_goto (tgt := 3) dShelf_isSeen_26 (by decide) ?_
          refine ih (fun j hj => ?_)
          by_cases e : j = k
          · rw [e]; exact h17
          · exact hno j (by omega)
        · refine zr_iconst (v := nI 1) dShelf_isSeen_21 (by decide) ?_
          exact zr_ireturn dShelf_isSeen_22 rfl rfl (⟨Or.inl ⟨rfl, k, hk, h17⟩, rfl⟩)
    · intro hno
      refine zr_iload dShelf_isSeen_3 rfl ?_
      refine zr_iload_n dShelf_isSeen_5 rfl ?_
      refine zr_icmp_geN (tgt := 29) (by omega) (by omega) dShelf_isSeen_6 (by decide) (fun h6 => ?_) (fun h6 => ?_)
      · refine zr_iconst (v := nI 0) dShelf_isSeen_29 (by decide) ?_
        exact zr_ireturn dShelf_isSeen_30 rfl rfl (⟨Or.inr ⟨rfl, hno⟩, rfl⟩)
      · exfalso; omega
  show zw_Z G Y_Shelf_isSeen _ _ _ 0 0 0 [some (.ref (i + 1)), some (.long x), none, some (.int (nI m)), none] [] _
  refine zr_iconst (v := nI 0) dShelf_isSeen_0 (by decide) ?_
  refine zr_istore dShelf_isSeen_1 (by decide) ?_
  exact key 0 (Nat.zero_le m) (fun j hj => absurd hj (Nat.not_lt_zero j))
set_option maxHeartbeats 4000000 in
set_option maxRecDepth 100000 in
theorem c_Shelf_noteNewWords {G : zw_G} {w : zw_W} {i : Nat} {sn : Nat → Int64} (hs : w[i]? = some (zk_Sh i)) (hn : w[i + 2]? = some (zk_L 200 sn)) {g : Nat → Option Nat} {dn : Nat → Nat} {df : Nat → Nat → Int64} {id q m : Nat} {c : Int32} (hi : i + 2 < 39) (hid : id < 32) (hg : g id ≠ none) (hdn : dn id ≤ 20) (ht : zv_tot g dn 32 ≤ 200) (hq0 : 39 ≤ q) (hq1 : w[q]? = some (.inr (6, [.int c, .ref (q + 2)]))) (hq2 : w[q + 1]? = some (zk_L (dn id) (df id))) (hinv0 : zv_inv g dn df id 0 m sn) : zw_Met G Y_Shelf_noteNewWords 1 0 0 [.ref (i + 1), .ref (q + 1), .int (nI m)] w (fun v w2 => ∃ m2 sn2, v = some (.int (nI m2)) ∧ w2 = (w.set (i + 2) (zk_L 200 sn2)) ∧ zv_inv g dn df id (dn id) m2 sn2) := by
  have hl : i + 2 < w.length := (List.getElem?_eq_some_iff.mp hn).1
  have htl := zv_tot_le hid hg ht
  have key : ∀ k, k ≤ (dn id) → ∀ m1 sn1, zv_inv g dn df id k m1 sn1 → zw_Z G Y_Shelf_noteNewWords (zw_R 1 0 0) (fun _ => True) (zw_Q G 0 0 (fun v w2 => ∃ m2 sn2, v = some (.int (nI m2)) ∧ w2 = (w.set (i + 2) (zk_L 200 sn2)) ∧ zv_inv g dn df id (dn id) m2 sn2)) 0 0 16 [some (.ref (i + 1)), some (.ref (q + 1)), some (.int (nI m)), some (.int (nI m1)), some (.ref (q + 2)), some (.int (nI (dn id))), some (.int (nI k)), none, none] [] (w.set (i + 2) (zk_L 200 sn1)) := by
    refine wz_up (dn id) (fun k hk ih => ?_) ?_
    · intro m1 sn1 hinv
      have hm1 : m1 < 200 := by
        have h1 := zv_cnt_le (g := g) (dn := dn) (df := df) (id := id) (k := k)
        rw [← hinv.1] at h1
        omega
      refine zr_iload dShelf_noteNewWords_16 rfl ?_
      refine zr_iload dShelf_noteNewWords_18 rfl ?_
      refine zr_icmp_geN (tgt := 66) (by omega) (by omega) dShelf_noteNewWords_20 (by decide) (fun h20 => ?_) (fun h20 => ?_)
      · exfalso; omega
      · refine zr_aload dShelf_noteNewWords_23 rfl rfl ?_
        refine zr_iload dShelf_noteNewWords_25 rfl ?_
        refine zr_lald dShelf_noteNewWords_27 (by rw [List.getElem?_set_ne (by omega)]; exact hq2) (hk) (by omega) ?_
        refine zr_lstore dShelf_noteNewWords_28 (by decide) ?_
        refine zr_iload_n dShelf_noteNewWords_30 rfl ?_
        refine zr_aload_n dShelf_noteNewWords_31 rfl rfl ?_
        refine zr_getf g_Shelf_17 dShelf_noteNewWords_32 (by rw [List.getElem?_set_ne (by omega)]; exact hs) rfl ?_
        refine zr_alen dShelf_noteNewWords_35 (List.getElem?_set_self hl) (by decide) rfl ?_
        refine zr_icmp_geN (tgt := 60) (by omega) (by omega) dShelf_noteNewWords_36 (by decide) (fun h36 => ?_) (fun h36 => ?_)
        · exfalso; omega
        · refine zr_aload_n dShelf_noteNewWords_39 rfl rfl ?_
          refine zr_lload dShelf_noteNewWords_40 rfl ?_
          refine zr_iload_n dShelf_noteNewWords_42 rfl ?_
          refine zr_invV (c_Shelf_isSeen (sn := sn1) (by rw [List.getElem?_set_ne (by omega)]; exact hs) (List.getElem?_set_self hl) (by omega)) m_Shelf_isSeen k_Shelf_40 v_Shelf_isSeen rfl (by rw [List.getElem?_set_ne (by omega)]; exact hs) dShelf_noteNewWords_43 rfl (Nat.le_of_ble_eq_true rfl) (by decide) (Nat.le_of_ble_eq_true rfl) rfl (fun v w2 hp => ?_)
          obtain ⟨hp, rfl⟩ := hp
          refine ⟨by rfl, ?_⟩
          rcases hp with ⟨rfl, hp⟩ | ⟨rfl, hp⟩
          · refine zr_if_ne (tgt := 60) dShelf_noteNewWords_46 (by decide) (fun h46 => ?_) (fun h46 => ?_)
            · refine zr_iinc (v := nI (k + 1)) dShelf_noteNewWords_60 rfl (nI_1 _) (by decide) ?_
              refine zr_goto (tgt := 16) dShelf_noteNewWords_63 (by decide) ?_
              exact zr_mask [true, true, true, true, true, true, true, false, false] (ih _ _ (zv_inv_old hg hinv hp))
            · exact absurd h46 (by decide)
          · refine zr_if_ne (tgt := 60) dShelf_noteNewWords_46 (by decide) (fun h46 => ?_) (fun h46 => ?_)
            · exact absurd rfl h46
            · refine zr_aload_n dShelf_noteNewWords_49 rfl rfl ?_
              refine zr_getf g_Shelf_17 dShelf_noteNewWords_50 (by rw [List.getElem?_set_ne (by omega)]; exact hs) rfl ?_
              refine zr_iload_n dShelf_noteNewWords_53 rfl ?_
              refine zr_lload dShelf_noteNewWords_54 rfl ?_
              refine zr_last dShelf_noteNewWords_56 (List.getElem?_set_self hl) (by omega) (by decide) ?_
              rw [List.set_set]
              refine zr_iinc (v := nI (m1 + 1)) dShelf_noteNewWords_57 rfl (nI_1 _) (by decide) ?_
              refine zr_iinc (v := nI (k + 1)) dShelf_noteNewWords_60 rfl (nI_1 _) (by decide) ?_
              refine zr_goto (tgt := 16) dShelf_noteNewWords_63 (by decide) ?_
              exact zr_mask [true, true, true, true, true, true, true, false, false] (ih _ _ (zv_inv_new hg hinv hp))
    · intro m1 sn1 hinv
      refine zr_iload dShelf_noteNewWords_16 rfl ?_
      refine zr_iload dShelf_noteNewWords_18 rfl ?_
      refine zr_icmp_geN (tgt := 66) (by omega) (by omega) dShelf_noteNewWords_20 (by decide) (fun h20 => ?_) (fun h20 => ?_)
      · refine zr_iload_n dShelf_noteNewWords_66 rfl ?_
        exact zr_ireturn dShelf_noteNewWords_67 rfl rfl (⟨_, _, rfl, rfl, hinv⟩)
      · exfalso; omega
  show zw_Z G Y_Shelf_noteNewWords _ _ _ 0 0 0 [some (.ref (i + 1)), some (.ref (q + 1)), some (.int (nI m)), none, none, none, none, none, none] [] _
  refine zr_iload_n dShelf_noteNewWords_0 rfl ?_
  refine zr_istore_n dShelf_noteNewWords_1 (by decide) ?_
  refine zr_aload_n dShelf_noteNewWords_2 rfl rfl ?_
  refine zr_getf g_Shelf_29 dShelf_noteNewWords_3 hq1 rfl ?_
  refine zr_astore dShelf_noteNewWords_6 (by decide) rfl ?_
  refine zr_aload dShelf_noteNewWords_8 rfl rfl ?_
  refine zr_alen dShelf_noteNewWords_10 hq2 (by decide) rfl ?_
  refine zr_istore dShelf_noteNewWords_11 (by decide) ?_
  refine zr_iconst (v := nI 0) dShelf_noteNewWords_13 (by decide) ?_
  refine zr_istore dShelf_noteNewWords_14 (by decide) ?_
  refine zr_wld (zf_setself hn) ?_
  exact key 0 (Nat.zero_le _) _ _ hinv0
set_option maxHeartbeats 4000000 in
set_option maxRecDepth 100000 in
theorem c_Shelf_differentWords {G : zw_G} {w : zw_W} {i : Nat} {sn : Nat → Int64} (hs : w[i]? = some (zk_Sh i)) (hn : w[i + 2]? = some (zk_L 200 sn)) {g : Nat → Option Nat} (hb : w[i + 1]? = some (zk_D 32 g)) {dc dn : Nat → Nat} {df : Nat → Nat → Int64} (hok : zs_ok w g dc dn df) (hi : i + 2 < 39) (ht : zv_tot g dn 32 ≤ 200) : zw_Met G Y_Shelf_differentWords 2 0 0 [.ref (i + 1)] w (fun v w2 => ∃ sn2, v = some (.int (nI (zv_cnt (fun d => g d ≠ none) dn df 32 0))) ∧ w2 = (w.set (i + 2) (zk_L 200 sn2))) := by
  have hl : i + 2 < w.length := (List.getElem?_eq_some_iff.mp hn).1
  have key : ∀ k, k ≤ 32 → ∀ m1 sn1, zv_inv g dn df k 0 m1 sn1 → zw_Z G Y_Shelf_differentWords (zw_R 2 0 0) (fun _ => True) (zw_Q G 0 0 (fun v w2 => ∃ sn2, v = some (.int (nI (zv_cnt (fun d => g d ≠ none) dn df 32 0))) ∧ w2 = (w.set (i + 2) (zk_L 200 sn2)))) 0 0 13 [some (.ref (i + 1)), some (.int (nI m1)), some (.ref (i + 2)), some (.int (nI 32)), some (.int (nI k)), none] [] (w.set (i + 2) (zk_L 200 sn1)) := by
    refine wz_up 32 (fun k hk ih => ?_) ?_
    · intro m1 sn1 hinv
      refine zr_iload dShelf_differentWords_13 rfl ?_
      refine zr_iload_n dShelf_differentWords_15 rfl ?_
      refine zr_icmp_geN (tgt := 44) (by omega) (by omega) dShelf_differentWords_16 (by decide) (fun h16 => ?_) (fun h16 => ?_)
      · exfalso; omega
      · refine zr_aload_n dShelf_differentWords_19 rfl rfl ?_
        refine zr_iload dShelf_differentWords_20 rfl ?_
        refine zr_aald dShelf_differentWords_22 (by rw [List.getElem?_set_ne (by omega)]; exact hb) (hk) (by decide) ?_
        rcases ho22 : g k with _ | r22
        · have hinv2 : zv_inv g dn df (k + 1) 0 m1 sn1 := ⟨by rw [zv_cnt_id0 (g := fun d => g d ≠ none) (fun q => q ho22)]; exact hinv.1, fun x => by rw [hinv.2, zv_occ_id0 (g := fun d => g d ≠ none) (fun q => q ho22)]⟩
          refine zr_astore dShelf_differentWords_23 (by decide) rfl ?_
          refine zr_aload dShelf_differentWords_25 rfl rfl ?_
          refine zr_ifnullN (tgt := 38) dShelf_differentWords_27 (by decide) ?_
          refine zr_iinc (v := nI (k + 1)) dShelf_differentWords_38 rfl (nI_1 _) (by decide) ?_
          refine zr_goto (tgt := 13) dShelf_differentWords_41 (by decide) ?_
          exact zr_mask [true, true, true, true, true, false] (ih _ _ hinv2)
        · obtain ⟨⟨q, rfl, hq0, hq1, hq2⟩, hq3, hq4⟩ := hok k hk r22 ho22
          have hg : g k ≠ none := by rw [ho22]; exact fun z => by cases z
          refine zr_astore dShelf_differentWords_23 (by decide) rfl ?_
          refine zr_aload dShelf_differentWords_25 rfl rfl ?_
          refine zr_ifnull dShelf_differentWords_27 ?_
          refine zr_aload_n dShelf_differentWords_30 rfl rfl ?_
          refine zr_aload dShelf_differentWords_31 rfl rfl ?_
          refine zr_iload_n dShelf_differentWords_33 rfl ?_
          refine zr_invV (c_Shelf_noteNewWords (w := w.set (i + 2) (zk_L 200 sn1)) (by rw [List.getElem?_set_ne (by omega)]; exact hs) (List.getElem?_set_self hl) hi hk hg hq3 ht hq0 (by rw [List.getElem?_set_ne (by omega)]; exact hq1) (by rw [List.getElem?_set_ne (by omega)]; exact hq2) hinv) m_Shelf_noteNewWords k_Shelf_36 v_Shelf_noteNewWords rfl (by rw [List.getElem?_set_ne (by omega)]; exact hs) dShelf_differentWords_34 rfl (Nat.le_of_ble_eq_true rfl) (by decide) (Nat.le_of_ble_eq_true rfl) rfl (fun v w2 hp => ?_)
          obtain ⟨m2, sn2, rfl, rfl, hinv3⟩ := hp
          refine ⟨by rw [List.length_set, List.length_set]; rfl, ?_⟩
          rw [List.set_set]
          have hinv2 : zv_inv g dn df (k + 1) 0 m2 sn2 := ⟨by rw [zv_cnt_id (g := fun d => g d ≠ none) hg]; exact hinv3.1, fun x => by rw [hinv3.2, zv_occ_id, or_false]⟩
          refine zr_istore_n dShelf_differentWords_37 (by decide) ?_
          refine zr_iinc (v := nI (k + 1)) dShelf_differentWords_38 rfl (nI_1 _) (by decide) ?_
          refine zr_goto (tgt := 13) dShelf_differentWords_41 (by decide) ?_
          exact zr_mask [true, true, true, true, true, false] (ih _ _ hinv2)
    · intro m1 sn1 hinv
      refine zr_iload dShelf_differentWords_13 rfl ?_
      refine zr_iload_n dShelf_differentWords_15 rfl ?_
      refine zr_icmp_geN (tgt := 44) (by omega) (by omega) dShelf_differentWords_16 (by decide) (fun h16 => ?_) (fun h16 => ?_)
      · refine zr_iload_n dShelf_differentWords_44 rfl ?_
        exact zr_ireturn dShelf_differentWords_45 rfl rfl (⟨sn1, by rw [hinv.1], rfl⟩)
      · exfalso; omega
  show zw_Z G Y_Shelf_differentWords _ _ _ 0 0 0 [some (.ref (i + 1)), none, none, none, none, none] [] _
  refine zr_iconst (v := nI 0) dShelf_differentWords_0 (by decide) ?_
  refine zr_istore_n dShelf_differentWords_1 (by decide) ?_
  refine zr_aload_n dShelf_differentWords_2 rfl rfl ?_
  refine zr_getf g_Shelf_11 dShelf_differentWords_3 hs rfl ?_
  refine zr_astore_n dShelf_differentWords_6 (by decide) rfl ?_
  refine zr_aload_n dShelf_differentWords_7 rfl rfl ?_
  refine zr_alen dShelf_differentWords_8 hb (by decide) rfl ?_
  refine zr_istore_n dShelf_differentWords_9 (by decide) ?_
  refine zr_iconst (v := nI 0) dShelf_differentWords_10 (by decide) ?_
  refine zr_istore dShelf_differentWords_11 (by decide) ?_
  refine zr_wld (zf_setself hn) ?_
  exact key 0 (Nat.zero_le _) _ _ zv_inv_0
