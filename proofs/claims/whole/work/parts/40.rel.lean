/-! THE TWO SIDES, TIED: a shelf (or the log) of the class and the reference's rows -/
def le_ok (N o : Nat) (r : zw_W) (g : Nat → Option Nat) (dc dn : Nat → Nat) (df : Nat → Nat → Int64) (D : Nat → Nat → List Nat) (la sz : Nat → Int32) (co : Nat → Int64) : Prop :=
  ∀ id, id < N → sz (o + id) = nI (dn id) ∧ dn id ≤ 20 ∧ (g id = none → la (o + id) = nI 0 ∧ dn id = 0) ∧ ∀ q, g id = some q → la (o + id) = nI (dc id + 1) ∧ dc id < 4 ∧ (∃ k, q = k + 40 ∧ r[k]? = some (.inr (6, [.int (nI (dc id)), .ref (k + 41)])) ∧ r[k + 1]? = some (zk_L (dn id) (df id))) ∧ ∀ j, j < dn id → wd_ok (D id j) ∧ df id j = lN (we_a (D id j)) ∧ co (20 * (o + id) + j) = lN (we_b (D id j))
def le_L (g : Nat → Option Nat) (dc : Nat → Nat) (id : Nat) : Nat := if g id = none then 0 else dc id + 1
def le_2 (f h : Nat → Nat) (i : Nat) : Nat := if i < 32 then f i else h (i - 32)
theorem le_2_lo {f h : Nat → Nat} {i : Nat} (hi : i < 32) : le_2 f h i = f i := if_pos hi
theorem le_2_hi {f h : Nat → Nat} {i : Nat} (hi : i < 32) : le_2 f h (32 + i) = h i := by
  unfold le_2
  rw [if_neg (by omega), Nat.add_sub_cancel_left]
section LE
variable {N o : Nat} {r : zw_W} {g g1 g2 pl : Nat → Option Nat} {dc dn dc1 dn1 dc2 dn2 lc ln : Nat → Nat} {df df1 df2 lff : Nat → Nat → Int64} {D D1 D2 LW : Nat → Nat → List Nat} {la sz wt ma : Nat → Int32} {co wr cu : Nat → Int64}
theorem le_la (h : le_ok N o r g dc dn df D la sz co) {id : Nat} (hid : id < N) : la (o + id) = nI (le_L g dc id) ∧ le_L g dc id < 1000 := by
  obtain ⟨-, -, h3, h4⟩ := h id hid
  unfold le_L
  cases hg : g id with
  | none => rw [if_pos rfl]; exact ⟨(h3 hg).1, by omega⟩
  | some q =>
    rw [if_neg (fun z => by cases z)]
    exact ⟨(h4 q hg).1, by have := (h4 q hg).2.1; omega⟩
theorem le_hla (h1 : le_ok 32 0 r g1 dc1 dn1 df1 D1 la sz co) (h2 : le_ok 32 32 r g2 dc2 dn2 df2 D2 la sz co) : ∀ i, i < 64 → la i = nI (le_2 (le_L g1 dc1) (le_L g2 dc2) i) ∧ le_2 (le_L g1 dc1) (le_L g2 dc2) i < 1000 := by
  intro i hi
  by_cases h : i < 32
  · rw [le_2_lo h]
    have := le_la h1 h
    rw [Nat.zero_add] at this
    exact this
  · obtain ⟨k, rfl⟩ : ∃ k, i = 32 + k := ⟨i - 32, by omega⟩
    rw [le_2_hi (by omega)]
    exact le_la h2 (by omega)
theorem le_hsz (h1 : le_ok 32 0 r g1 dc1 dn1 df1 D1 la sz co) (h2 : le_ok 32 32 r g2 dc2 dn2 df2 D2 la sz co) : ∀ i, i < 64 → sz i = nI (le_2 dn1 dn2 i) ∧ le_2 dn1 dn2 i ≤ 20 := by
  intro i hi
  by_cases h : i < 32
  · rw [le_2_lo h]
    have := h1 i h
    rw [Nat.zero_add] at this
    exact ⟨this.1, this.2.1⟩
  · obtain ⟨k, rfl⟩ : ∃ k, i = 32 + k := ⟨i - 32, by omega⟩
    rw [le_2_hi (by omega)]
    exact ⟨(h2 k (by omega)).1, (h2 k (by omega)).2.1⟩
theorem le_okR (h : le_ok 32 o r g dc dn df D la sz co) : zs_okR 0 r g dc dn df := fun id hid q hq => by
  obtain ⟨-, h2, -, h4⟩ := h id hid
  obtain ⟨-, a2, ⟨k, a3, a4, a5⟩, -⟩ := h4 q hq
  exact ⟨⟨k, a3, a4, a5⟩, h2, a2⟩
theorem le_okR14 {m0 m1 m2 m3 m4 m5 m6 m7 m8 m9 m10 m11 m12 m13 : zw_C} (h : le_ok 32 o r g dc dn df D la sz co) : zs_okR 14 (m0 :: m1 :: m2 :: m3 :: m4 :: m5 :: m6 :: m7 :: m8 :: m9 :: m10 :: m11 :: m12 :: m13 :: r) g dc dn df := le_okR h
theorem le_size : mo_size (le_2 (le_L g1 dc1) (le_L g2 dc2)) 32 = zs_size g1 32 := by
  unfold mo_size zs_size
  apply wn_sum_congr
  intro id hid
  rw [le_2_lo hid]
  unfold le_L
  by_cases hg : g1 id = none
  · rw [if_pos hg, if_pos rfl, if_pos hg]
  · rw [if_neg hg, if_neg (by omega), if_neg hg]
theorem le_sum {v v2 : Nat → Nat} {c : Nat} (hv : ∀ id, id < 32 → g1 id ≠ none → v id = v2 id) : mo_sum (le_2 (le_L g1 dc1) (le_L g2 dc2)) c v 32 = zs_sum g1 dc1 c v2 32 := by
  unfold mo_sum zs_sum
  apply wn_sum_congr
  intro id hid
  rw [le_2_lo hid]
  unfold le_L
  by_cases hg : g1 id = none
  · rw [if_pos hg, if_neg (by omega), if_pos hg]
  · rw [if_neg hg, if_neg hg]
    by_cases hc : dc1 id = c
    · rw [if_pos (by omega), if_pos hc]; exact hv id hid hg
    · rw [if_neg (by omega), if_neg hc]
theorem le_eq {u w : List Nat} (hu : wd_ok u) (hw : wd_ok w) : (lN (we_b u) = lN (we_b w) ↔ u = w) ∧ (lN (we_a u) = lN (we_a w) ↔ u = w) := by
  have a1 := we_b_lt2 u (fun k hk => (hu.2.2 k hk).2) hu.2.1
  have a2 := we_b_lt2 w (fun k hk => (hw.2.2 k hk).2) hw.2.1
  have b1 := we_a_lt2 u (fun k hk => (hu.2.2 k hk).2) hu.2.1
  have b2 := we_a_lt2 w (fun k hk => (hw.2.2 k hk).2) hw.2.1
  obtain ⟨e1, e2⟩ := we_ab hu hw
  exact ⟨(pk_lEQ (by omega) (by omega)).trans e2, (pk_lEQ (by omega) (by omega)).trans e1⟩
theorem le_words (h1 : le_ok 32 0 r g1 dc1 dn1 df1 D1 la sz co) {id j : Nat} (hid : id < 32) (hg : g1 id ≠ none) (hj : j < dn1 id) : wd_ok (D1 id j) ∧ df1 id j = lN (we_a (D1 id j)) ∧ co (20 * id + j) = lN (we_b (D1 id j)) := by
  cases hq : g1 id with
  | none => exact absurd hq hg
  | some q =>
    have := ((h1 id hid).2.2.2 q hq).2.2.2 j hj
    rw [Nat.zero_add] at this
    exact this
theorem le_often (h1 : le_ok 32 0 r g1 dc1 dn1 df1 D1 la sz co) {c : Nat} {w : List Nat} (hw : wd_ok w) : mo_often (le_2 (le_L g1 dc1) (le_L g2 dc2)) (le_2 dn1 dn2) co c (lN (we_b w)) = zc_T g1 dc1 dn1 df1 c (lN (we_a w)) := by
  unfold mo_often zc_T
  apply le_sum
  intro id hid hg
  rw [le_2_lo hid]
  apply wn_sum_congr
  intro j hj
  obtain ⟨a1, a2, a3⟩ := le_words h1 hid hg hj
  rw [a2, a3]
  obtain ⟨e1, e2⟩ := le_eq a1 hw
  by_cases e : D1 id j = w
  · rw [if_pos (e1.mpr e), if_pos (e2.mpr e)]
  · rw [if_neg (fun q => e (e1.mp q)), if_neg (fun q => e (e2.mp q))]
theorem zv_cnt_congr {α β : Type} {p q : Nat → Prop} {a b : Nat → Nat} {u : Nat → Nat → α} {v : Nat → Nat → β} (hg : ∀ d, d < 32 → (p d ↔ q d)) (hn : ∀ d, d < 32 → p d → a d = b d) (he : ∀ d, d < 32 → ∀ e, e < 32 → p d → p e → ∀ j, j < a d → ∀ k, k < a e → (u d j = u e k ↔ v d j = v e k)) : zv_cnt p a u 32 0 = zv_cnt q b v 32 0 := by
  unfold zv_cnt
  congr 1
  apply wn_sum_congr
  intro id hid
  by_cases hp : p id
  · rw [zv_row_1 hp, zv_row_1 ((hg id hid).mp hp), ← hn id hid hp]
    apply wn_sum_congr
    intro k hk
    have ho : zv_occ p a u id k (u id k) ↔ zv_occ q b v id k (v id k) := by
      constructor
      · rintro ⟨d, j, h1, h2, h3⟩
        rcases h2 with ⟨h4, h5⟩ | ⟨h4, h5⟩
        · exact ⟨d, j, (hg d (by omega)).mp h1, Or.inl ⟨h4, by rw [← hn d (by omega) h1]; exact h5⟩, (he d (by omega) id hid h1 hp j h5 k hk).mp h3⟩
        · subst h4
          exact ⟨d, j, (hg d hid).mp h1, Or.inr ⟨rfl, h5⟩, (he d hid d hid h1 hp j (by omega) k hk).mp h3⟩
      · rintro ⟨d, j, h1, h2, h3⟩
        rcases h2 with ⟨h4, h5⟩ | ⟨h4, h5⟩
        · have h6 := (hg d (by omega)).mpr h1
          rw [← hn d (by omega) h6] at h5
          exact ⟨d, j, h6, Or.inl ⟨h4, h5⟩, (he d (by omega) id hid h6 hp j h5 k hk).mpr h3⟩
        · subst h4
          exact ⟨d, j, hp, Or.inr ⟨rfl, h5⟩, (he d hid d hid hp hp j (by omega) k hk).mpr h3⟩
    by_cases hx : zv_occ p a u id k (u id k)
    · rw [zv_n_0 hx, zv_n_0 (ho.mp hx)]
    · rw [zv_n_1 hx, zv_n_1 (fun z => hx (ho.mpr z))]
  · rw [zv_row_0 hp, zv_row_0 (fun z => hp ((hg id hid).mpr z))]
theorem le_voc (h1 : le_ok 32 0 r g1 dc1 dn1 df1 D1 la sz co) : mo_voc (le_2 (le_L g1 dc1) (le_L g2 dc2)) (le_2 dn1 dn2) co 32 0 = zv_cnt (fun d => g1 d ≠ none) dn1 df1 32 0 := by
  unfold mo_voc
  have hL : ∀ d, d < 32 → (0 < le_2 (le_L g1 dc1) (le_L g2 dc2) d ↔ g1 d ≠ none) := fun d hd => by
    rw [le_2_lo hd]
    unfold le_L
    by_cases hg : g1 d = none
    · rw [if_pos hg]; simp [hg]
    · rw [if_neg hg]; simp [hg]
  refine zv_cnt_congr hL (fun d hd _ => le_2_lo hd) (fun d hd e he hp hq j hj k hk => ?_)
  rw [le_2_lo hd] at hj
  rw [le_2_lo he] at hk
  obtain ⟨a1, a2, a3⟩ := le_words h1 hd ((hL d hd).mp hp) hj
  obtain ⟨b1, b2, b3⟩ := le_words h1 he ((hL e he).mp hq) hk
  unfold mo_df
  rw [a2, a3, b2, b3]
  obtain ⟨e1, e2⟩ := le_eq a1 b1
  exact e1.trans e2.symm
theorem zc_prod_congr {d e : Nat} {nu mu : Nat → Nat} {k : Nat} (h : ∀ j, j < k → nu j = mu j) : zc_prod d nu e k = zc_prod d mu e k := by
  induction k with
  | zero => rfl
  | succ k ih => rw [zc_prod, zc_prod, ih (fun j hj => h j (by omega)), h k (by omega)]
theorem le_DEN (h1 : le_ok 32 0 r g1 dc1 dn1 df1 D1 la sz co) (c : Nat) : mo_D (le_2 (le_L g1 dc1) (le_L g2 dc2)) c = zc_D g1 dc1 c ∧ mo_E (le_2 (le_L g1 dc1) (le_L g2 dc2)) (le_2 dn1 dn2) co c = zc_E g1 dc1 dn1 df1 c := by
  refine ⟨le_sum (fun _ _ _ => rfl), ?_⟩
  unfold mo_E zc_E
  rw [le_voc h1, le_sum (v2 := dn1) (fun id hid _ => le_2_lo hid)]
  omega
theorem le_sg (h1 : le_ok 32 0 r g1 dc1 dn1 df1 D1 la sz co) {s : wt_S} {tw : Nat → Int64} (hs : ∀ i, i < s.1 → wd_ok (s.2.1 i)) (htw : ∀ i, i < s.1 → tw i = lN (we_a (s.2.1 i))) (a b : Nat) : zf_sg g1 dc1 dn1 df1 tw s.1 a b = mo_sg (le_2 (le_L g1 dc1) (le_L g2 dc2)) (le_2 dn1 dn2) co s a b := by
  unfold zf_sg mo_sg zc_sgn zc_side
  rw [(le_DEN (g2 := g2) (dc2 := dc2) (dn2 := dn2) h1 a).1, (le_DEN (g2 := g2) (dc2 := dc2) (dn2 := dn2) h1 b).1, (le_DEN (g2 := g2) (dc2 := dc2) (dn2 := dn2) h1 a).2, (le_DEN (g2 := g2) (dc2 := dc2) (dn2 := dn2) h1 b).2]
  have hn : ∀ c j, j < s.1 → zc_T g1 dc1 dn1 df1 c (tw j) + 1 = mo_N (le_2 (le_L g1 dc1) (le_L g2 dc2)) (le_2 dn1 dn2) co s c j := fun c j hj => by
    unfold mo_N
    rw [le_often h1 (hs j hj), htw j hj]
  rw [zc_prod_congr (hn a), zc_prod_congr (hn b)]
theorem le_bounds (h1 : le_ok 32 0 r g1 dc1 dn1 df1 D1 la sz co) (hsz : zs_size g1 32 ≤ 10) {s : wt_S} (hs : ∀ i, i < s.1 → wd_ok (s.2.1 i)) : (∀ c, mo_D (le_2 (le_L g1 dc1) (le_L g2 dc2)) c ≤ 10) ∧ (∀ c, mo_E (le_2 (le_L g1 dc1) (le_L g2 dc2)) (le_2 dn1 dn2) co c ≤ 401) ∧ ∀ c k, k < s.1 → mo_N (le_2 (le_L g1 dc1) (le_L g2 dc2)) (le_2 dn1 dn2) co s c k ≤ 201 := by
  have hb := (zf_bounds (dc := dc1) (df := df1) hsz (fun i hi _ => (h1 i hi).2.1)).2
  refine ⟨fun c => ?_, fun c => ?_, fun c k hk => ?_⟩
  · rw [(le_DEN (g2 := g2) (dc2 := dc2) (dn2 := dn2) h1 c).1]; exact (hb c).1
  · rw [(le_DEN (g2 := g2) (dc2 := dc2) (dn2 := dn2) h1 c).2]; exact (hb c).2.1
  · unfold mo_N
    rw [le_often h1 (hs k hk)]
    exact (hb c).2.2 _
/-- updates -/
theorem le_app {v : zw_W} (h : le_ok N o r g dc dn df D la sz co) : le_ok N o (r ++ v) g dc dn df D la sz co := fun id hid => by
  obtain ⟨a, b, c, d⟩ := h id hid
  refine ⟨a, b, c, fun q hq => ?_⟩
  obtain ⟨d1, d2, ⟨k, d3, d4, d5⟩, d6⟩ := d q hq
  exact ⟨d1, d2, ⟨k, d3, zf_app_lt d4, zf_app_lt d5⟩, d6⟩
theorem le_up {M j id : Nat} (h : le_ok 32 0 r g dc dn df D la sz co) (e : le_ok M 0 r pl lc ln lff LW wt ma wr) (hj : j < M) (hid : id < 32) : le_ok 32 0 r (va_up g id (pl j)) (va_up dc id (lc j)) (va_up dn id (ln j)) (va_up df id (lff j)) (va_up D id (LW j)) (upd la id (wt j)) (upd sz id (ma j)) (va_cpy wr co (20 * j) (20 * id) (ln j)) := by
  intro k hk
  obtain ⟨e1, e2, e3, e4⟩ := e j hj
  rw [Nat.zero_add] at e1 e3 e4 ⊢
  have hk0 := h k hk
  rw [Nat.zero_add] at hk0
  obtain ⟨a, b, c, d⟩ := hk0
  by_cases hki : k = id
  · subst hki
    rw [pk_us, pk_us]
    simp only [va_up, if_true]
    refine ⟨e1, e2, e3, fun q hq => ?_⟩
    obtain ⟨d1, d2, d3, d4⟩ := e4 q hq
    refine ⟨d1, d2, d3, fun i hi => ?_⟩
    obtain ⟨f1, f2, f3⟩ := d4 i hi
    exact ⟨f1, f2, by rw [pk_cpy_in (by omega) (by omega), Nat.add_sub_cancel_left]; exact f3⟩
  · rw [pk_un hki, pk_un hki]
    simp only [va_up, if_neg hki]
    refine ⟨a, b, c, fun q hq => ?_⟩
    obtain ⟨d1, d2, d3, d4⟩ := d q hq
    refine ⟨d1, d2, d3, fun i hi => ?_⟩
    obtain ⟨f1, f2, f3⟩ := d4 i hi
    exact ⟨f1, f2, by rw [pk_cpy_out (by omega)]; exact f3⟩
/-- a change more in the log -/
theorem le_push {m n c : Nat} {x : Option Nat} {f : Nat → Int64} {Wd : Nat → List Nat} {lab : Nat} (e : le_ok m 0 r pl lc ln lff LW wt ma wr) (hn : n ≤ 20) (h0 : x = none → lab = 0 ∧ n = 0) (h1 : ∀ q, x = some q → lab = c + 1 ∧ c < 4 ∧ (∃ k, q = k + 40 ∧ r[k]? = some (.inr (6, [.int (nI c), .ref (k + 41)])) ∧ r[k + 1]? = some (zk_L n f)) ∧ ∀ j, j < n → wd_ok (Wd j) ∧ f j = lN (we_a (Wd j)) ∧ cu j = lN (we_b (Wd j))) :
    le_ok (m + 1) 0 r (va_up pl m x) (va_up lc m c) (va_up ln m n) (va_up lff m f) (va_up LW m Wd) (upd wt m (nI lab)) (upd ma m (nI n)) (va_cpy cu wr 0 (20 * m) n) := by
  intro k hk
  rw [Nat.zero_add]
  by_cases hkm : k = m
  · subst hkm
    rw [pk_us, pk_us]
    simp only [va_up, if_true]
    refine ⟨trivial, hn, fun hx => ?_, fun q hq => ?_⟩
    · obtain ⟨g1, g2⟩ := h0 hx
      exact ⟨by rw [g1], g2⟩
    · obtain ⟨d1, d2, d3, d4⟩ := h1 q hq
      refine ⟨by rw [d1], d2, d3, fun i hi => ?_⟩
      obtain ⟨f1, f2, f3⟩ := d4 i hi
      exact ⟨f1, f2, by rw [pk_cpy_in (by omega) (by omega), Nat.add_sub_cancel_left, Nat.zero_add]; exact f3⟩
  · have hk0 := e k (by omega)
    rw [Nat.zero_add] at hk0
    obtain ⟨a, b, c, d⟩ := hk0
    rw [pk_un hkm, pk_un hkm]
    simp only [va_up, if_neg hkm]
    refine ⟨a, b, c, fun q hq => ?_⟩
    obtain ⟨d1, d2, d3, d4⟩ := d q hq
    refine ⟨d1, d2, d3, fun i hi => ?_⟩
    obtain ⟨f1, f2, f3⟩ := d4 i hi
    exact ⟨f1, f2, by rw [pk_cpy_out (by omega)]; exact f3⟩
theorem le_to {la2 sz2 : Nat → Int32} {co2 : Nat → Int64} {o2 : Nat} (h : le_ok 32 o r g dc dn df D la sz co) (h1 : ∀ i, i < 32 → la2 (o2 + i) = la (o + i) ∧ sz2 (o2 + i) = sz (o + i)) (h2 : ∀ i, i < 640 → co2 (20 * o2 + i) = co (20 * o + i)) : le_ok 32 o2 r g dc dn df D la2 sz2 co2 := fun id hid => by
  obtain ⟨a, b, c, d⟩ := h id hid
  obtain ⟨e1, e2⟩ := h1 id hid
  rw [e1, e2]
  refine ⟨a, b, c, fun q hq => ?_⟩
  obtain ⟨d1, d2, d3, d4⟩ := d q hq
  refine ⟨d1, d2, d3, fun i hi => ?_⟩
  obtain ⟨f1, f2, f3⟩ := d4 i hi
  refine ⟨f1, f2, ?_⟩
  have := h2 (20 * id + i) (by omega)
  rw [show 20 * (o2 + id) + i = 20 * o2 + (20 * id + i) by omega, this, show 20 * o + (20 * id + i) = 20 * (o + id) + i by omega]
  exact f3
theorem le_g {g3 : Nat → Option Nat} (h : le_ok 32 o r g dc dn df D la sz co) (hg : ∀ i, i < 32 → g3 i = g i) : le_ok 32 o r g3 dc dn df D la sz co := fun id hid => by
  rw [hg id hid]
  exact h id hid
/-- the log's changes, done on both sides -/
theorem le_apps {m : Nat} {li : Nat → Nat} (h : le_ok 32 0 r g dc dn df D la sz co) (e : le_ok m 0 r pl lc ln lff LW wt ma wr) (hli : ∀ j, j < m → li j < 32) : ∀ k, k ≤ m → le_ok 32 0 r (zl_app li pl g k) (zl_app li lc dc k) (zl_app li ln dn k) (zl_app li lff df k) (zl_app li LW D k) (zl_app li wt la k) (zl_app li ma sz k) (mo_co li ln wr co k) := by
  intro k
  induction k with
  | zero => intro _; exact h
  | succ k ih => intro hk; exact le_up (ih (by omega)) e (by omega) (hli k (by omega))
end LE
theorem zs_size_congr {g g3 : Nat → Option Nat} {n : Nat} (h : ∀ id, id < n → (g id = none ↔ g3 id = none)) : zs_size g n = zs_size g3 n := by
  unfold zs_size
  apply wn_sum_congr
  intro id hid
  by_cases e : g id = none
  · rw [if_pos e, if_pos ((h id hid).mp e)]
  · rw [if_neg e, if_neg (fun z => e ((h id hid).mpr z))]
theorem zs_size_up {g : Nat → Option Nat} {n id : Nat} {x : Option Nat} : zs_size (va_up g id x) n ≤ zs_size g n + 1 ∧ (x = none → zs_size (va_up g id x) n ≤ zs_size g n) := by
  induction n with
  | zero => exact ⟨Nat.zero_le _, fun _ => Nat.le_refl _⟩
  | succ n ih =>
    have e1 : ∀ f : Nat → Option Nat, zs_size f (n + 1) = zs_size f n + (if f n = none then 0 else 1) := fun f => rfl
    rw [e1, e1]
    by_cases h : n = id
    · subst h
      have e2 : zs_size (va_up g n x) n = zs_size g n := zs_size_congr (fun i hi => by simp [va_up, show i ≠ n by omega])
      rw [e2]
      refine ⟨by split <;> split <;> omega, fun hx => ?_⟩
      subst hx
      rw [if_pos (by simp [va_up])]
      omega
    · have e3 : va_up g id x n = g n := if_neg h
      rw [e3]
      exact ⟨by have := ih.1; omega, fun hx => by have := ih.2 hx; omega⟩
/-- the class at a place is one -/
theorem zc_place_congr {s t : Nat → Nat → Int32} {n c m : Nat} (h : ∀ a, a < n → s a c = t a c) (hm : m ≤ n) : zc_place s c m = zc_place t c m := by
  unfold zc_place
  apply wn_sum_congr
  intro q hq
  rw [h q (by omega)]
theorem zc_at_one {s t : Nat → Nat → Int32} {n : Nat} {k y z : Int32} (h : ∀ a b, s a b = t a b) (hy : zc_at s n k y) (hz : zc_at t n k z) : y = z := by
  have e : s = t := funext fun a => funext fun b => h a b
  subst e
  rcases hy with ⟨c, c1, rfl, c3, c4⟩ | ⟨rfl, c1⟩ <;> rcases hz with ⟨d, d1, rfl, d3, d4⟩ | ⟨rfl, d1⟩
  · rcases Nat.lt_trichotomy c d with q | q | q
    · exact absurd c3 (d4 c q)
    · rw [q]
    · exact absurd d3 (c4 d q)
  · exact absurd c3 (d1 c c1)
  · exact absurd d3 (c1 d d1)
  · rfl
theorem zc_place_lt {s : Nat → Nat → Int32} {n c : Nat} (hc : c < n) (hs : s c c = 0) : zc_place s c n < n := by
  have key : ∀ m, zc_place s c m ≤ m ∧ (c < m → zc_place s c m < m) := by
    intro m
    induction m with
    | zero => exact ⟨Nat.le_refl _, fun h => absurd h (Nat.not_lt_zero c)⟩
    | succ m ih =>
      by_cases h : m = c
      · subst h
        rw [zc_place_0 (fun q => q.elim (fun z => by rw [hs] at z; exact absurd z (by decide)) (fun z => by omega))]
        exact ⟨by omega, fun _ => by omega⟩
      · have h1 : zc_place s c (m + 1) ≤ zc_place s c m + 1 := by
          by_cases ha : zc_ahead s m c
          · rw [zc_place_1 ha]
            exact Nat.le_refl _
          · rw [zc_place_0 ha]
            omega
        exact ⟨by omega, fun hcm => by have := ih.2 (by omega); omega⟩
  exact (key n).2 hc
theorem zc_at_out {s : Nat → Nat → Int32} {n : Nat} {k y : Int32} (hn : n ≤ 4) (hs : ∀ c, s c c = 0) (hk : ¬ (¬ k < 0 ∧ k < nI n)) (h : zc_at s n k y) : y = -1 := by
  rcases h with ⟨c, c1, -, c3, -⟩ | ⟨h, -⟩
  · exfalso
    have h1 := zc_place_lt c1 (hs c)
    apply hk
    rw [← c3]
    exact ⟨nI_pos (by omega), nI_lt h1 (by omega)⟩
  · exact h
