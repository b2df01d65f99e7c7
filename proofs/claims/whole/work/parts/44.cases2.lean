theorem zf_ap3 {r : zw_W} {a b : zw_C} : ((r ++ [a]) ++ [b])[r.length + 1]? = some b := by
  have h : (r ++ [a]).length = r.length + 1 := by simp
  rw [← h]
  exact zf_app_at
theorem lq_push_g {li : Nat → Nat} {pl g1 g2 : Nat → Option Nat} {m j : Nat} {x : Option Nat} (h : ∀ id, id < 32 → (g1 id = none ↔ zl_app li pl g2 m id = none)) : ∀ id, id < 32 → (va_up g1 j x id = none ↔ zl_app (va_up li m j) (va_up pl m x) g2 (m + 1) id = none) := by
  intro id hid
  have e1 : zl_app (va_up li m j) (va_up pl m x) g2 m = zl_app li pl g2 m := lq_apps (fun k hk => ⟨if_neg (by omega), if_neg (by omega)⟩)
  have e2 : va_up li m j m = j := if_pos rfl
  have e3 : va_up pl m x m = x := if_pos rfl
  rw [zl_app, e1, e2, e3]
  unfold va_up
  by_cases e : id = j
  · rw [if_pos e, if_pos e]
  · rw [if_neg e, if_neg e]
    exact h id hid
theorem lq_push_10 {li : Nat → Nat} {pl g2 : Nat → Option Nat} {m j : Nat} {x : Option Nat} (h : ∀ k, k ≤ m → zs_size (zl_app li pl g2 k) 32 ≤ 10) (hx : zs_size (va_up (zl_app li pl g2 m) j x) 32 ≤ 10) : ∀ k, k ≤ m + 1 → zs_size (zl_app (va_up li m j) (va_up pl m x) g2 k) 32 ≤ 10 := by
  intro k hk
  by_cases e : k = m + 1
  · subst e
    have e1 : zl_app (va_up li m j) (va_up pl m x) g2 m = zl_app li pl g2 m := lq_apps (fun k hk => ⟨if_neg (by omega), if_neg (by omega)⟩)
    have e2 : va_up li m j m = j := if_pos rfl
    have e3 : va_up pl m x m = x := if_pos rfl
    rw [zl_app, e1, e2, e3]
    exact hx
  · rw [lq_apps (li := li) (li2 := va_up li m j) (pl := pl) (pl2 := va_up pl m x) (g := g2) (k := k) (fun j hj => ⟨if_neg (by omega), if_neg (by omega)⟩)]
    exact h k (by omega)
theorem lq_upn {f : Nat → Nat} {a : Nat → Int32} {m v : Nat} {u : Int32} (h : ∀ j, j < m → a j = nI (f j)) (hu : u = nI v) : ∀ j, j < m + 1 → upd a m u j = nI (va_up f m v j) := by
  intro j hj
  by_cases e : j = m
  · subst e; rw [pk_us, show va_up f j v j = v from if_pos rfl]; exact hu
  · rw [pk_un e, show va_up f m v j = f j from if_neg e]; exact h j (by omega)
theorem lq_upp {f : Nat → Nat} {P : Nat → Prop} {m v : Nat} (h : ∀ j, j < m → P (f j)) (hv : P v) : ∀ j, j < m + 1 → P (va_up f m v j) := by
  intro j hj
  by_cases e : j = m
  · subst e; rw [show va_up f j v j = v from if_pos rfl]; exact hv
  · rw [show va_up f m v j = f j from if_neg e]; exact h j (by omega)
theorem lq_L0 {g1 g2 : Nat → Option Nat} {dc1 dc2 : Nat → Nat} {j : Nat} (hj : j < 32) : le_2 (le_L g1 dc1) (le_L g2 dc2) j = 0 ↔ g1 j = none := by
  rw [le_2_lo hj]
  unfold le_L
  by_cases h : g1 j = none
  · simp [h]
  · simp [h]
theorem lq_untrain {g1 g2 : Nat → Option Nat} {dc1 dc2 : Nat → Nat} {pb : Nat} {id : Int32} (hpb : pb ≤ 24) : zf_untrain g1 pb id = mo_untrain (le_2 (le_L g1 dc1) (le_L g2 dc2)) pb id := by
  by_cases h : ¬ id < 0 ∧ id < nI 32
  · obtain ⟨j, hj, rfl⟩ := zf_rng (by decide) h.1 h.2
    rw [zf_ut hj, mo_ut hj]
    by_cases hg : g1 j = none
    · rw [if_pos hg, if_pos ((lq_L0 hj).mpr hg)]
    · rw [if_neg hg, if_neg (fun z => hg ((lq_L0 hj).mp z))]
      by_cases h24 : pb = 24
      · rw [if_pos (by omega), if_pos h24]
      · rw [if_neg (by omega), if_neg h24]
  · unfold zf_untrain mo_untrain
    rw [if_pos h, if_pos h]
theorem lq_ut0 {g1 : Nat → Option Nat} {pb : Nat} {id : Int32} (h : zf_untrain g1 pb id = 0) : ∃ j, j < 32 ∧ id = nI j ∧ g1 j ≠ none ∧ pb + 1 ≤ 24 := by
  by_cases hi : ¬ id < 0 ∧ id < nI 32
  · obtain ⟨j, hj, rfl⟩ := zf_rng (by decide) hi.1 hi.2
    rw [zf_ut hj] at h
    by_cases hg : g1 j = none
    · rw [if_pos hg] at h; exact absurd h (by decide)
    · rw [if_neg hg] at h
      by_cases h24 : 24 < pb + 1
      · rw [if_pos h24] at h; exact absurd h (by decide)
      · exact ⟨j, hj, rfl, hg, by omega⟩
  · unfold zf_untrain at h
    rw [if_pos hi] at h
    exact absurd h (by decide)
theorem lq_train {g1 g2 : Nat → Option Nat} {dc1 dc2 : Nat → Nat} {n pb wc : Nat} {id c : Int32} (hs : zs_size g1 32 ≤ 10) : zf_train n g1 pb wc id c = mo_train n (le_2 (le_L g1 dc1) (le_L g2 dc2)) pb wc id c := by
  by_cases h : (¬ id < 0 ∧ id < nI 32) ∧ (¬ c < 0 ∧ c < nI n)
  · obtain ⟨j, hj, rfl⟩ := zf_rng (by decide) h.1.1 h.1.2
    rw [zf_tr2 hj h, mo_tr2 hj h, le_size]
    have e4 : (wc + 4 - 1) / 4 = (wc + 3) / 4 := rfl
    by_cases hg : g1 j = none
    · have q1 : ¬ ¬ g1 j = none := fun z => z hg
      have q2 : ¬ ¬ le_2 (le_L g1 dc1) (le_L g2 dc2) j = 0 := fun z => z ((lq_L0 hj).mpr hg)
      rw [if_neg q1, if_neg q2, e4]
      by_cases h10 : 10 ≤ zs_size g1 32
      · have q3 : zs_size g1 32 = 10 := Nat.le_antisymm hs h10
        rw [if_pos h10, if_pos q3]
      · have q3 : ¬ zs_size g1 32 = 10 := fun e => h10 (by rw [e]; exact Nat.le_refl 10)
        rw [if_neg h10, if_neg q3]
    · have q2 : ¬ le_2 (le_L g1 dc1) (le_L g2 dc2) j = 0 := fun z => hg ((lq_L0 hj).mp z)
      rw [if_pos hg, if_pos q2]
  · unfold zf_train mo_train
    rw [if_pos h, if_pos h]
theorem lq_tr0 {g1 : Nat → Option Nat} {n pb wc : Nat} {id c : Int32} (hn : n ≤ 4) (h : zf_train n g1 pb wc id c = 0) : ∃ j k, j < 32 ∧ k < n ∧ id = nI j ∧ c = nI k ∧ g1 j = none ∧ zs_size g1 32 < 10 ∧ pb + (1 + (wc + 4 - 1) / 4) ≤ 24 := by
  by_cases hi : (¬ id < 0 ∧ id < nI 32) ∧ (¬ c < 0 ∧ c < nI n)
  · obtain ⟨j, hj, rfl⟩ := zf_rng (by decide) hi.1.1 hi.1.2
    obtain ⟨k, hk, rfl⟩ := zf_rng (by omega) hi.2.1 hi.2.2
    rw [zf_tr2 hj hi] at h
    by_cases hg : g1 j = none
    · rw [if_neg (fun z => z hg)] at h
      by_cases h10 : 10 ≤ zs_size g1 32
      · rw [if_pos h10] at h; exact absurd h (by decide)
      · rw [if_neg h10] at h
        by_cases h24 : 24 < pb + (1 + (wc + 4 - 1) / 4)
        · rw [if_pos h24] at h; exact absurd h (by decide)
        · exact ⟨j, k, hj, hk, rfl, rfl, hg, by omega, by omega⟩
    · rw [if_pos hg] at h; exact absurd h (by decide)
  · unfold zf_train at h
    rw [if_pos hi] at h
    exact absurd h (by decide)
