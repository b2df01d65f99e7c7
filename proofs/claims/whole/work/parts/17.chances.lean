/-! Chances: cells 13 to 24 -/
abbrev zk_Ch (n wc : Nat) : zw_C := .inr (4, [.ref 15, .ref 16, .ref 21, .ref 22, .ref 24, .int (nI n), .int (nI wc)])
abbrev zk_P (i : Nat) : zw_C := .inr (5, [.ref (i + 2)])
def zk_ga : Nat → Option Nat := fun j => if j < 4 then some (17 + j) else none
def zf_same (w w2 : zw_W) : Prop := ∀ k, w2[k + 39]? = w[k + 39]?
theorem zs_ok.same {w w2 : zw_W} {g : Nat → Option Nat} {dc dn : Nat → Nat} {df : Nat → Nat → Int64} (h : zs_ok w g dc dn df) (hw : zf_same w w2) : zs_ok w2 g dc dn df := h.keep (fun j x hj hx => by
  obtain ⟨k, rfl⟩ : ∃ k, j = k + 39 := ⟨j - 39, by omega⟩
  rw [hw k]
  exact hx)
/-- the same, of the cells behind a written-out front: o cells ahead of the documents -/
def zs_okR (o : Nat) (r : zw_W) (g : Nat → Option Nat) (dc dn : Nat → Nat) (df : Nat → Nat → Int64) : Prop := ∀ id, id < 32 → ∀ x, g id = some x → (∃ q, x = q + 40 ∧ r[q + o]? = some (.inr (6, [.int (nI (dc id)), .ref (q + 41)])) ∧ r[q + o + 1]? = some (zk_L (dn id) (df id))) ∧ dn id ≤ 20 ∧ dc id < 4
theorem zs_okR.ok {o : Nat} {r front : zw_W} {g : Nat → Option Nat} {dc dn : Nat → Nat} {df : Nat → Nat → Int64} (h : zs_okR o r g dc dn df) (hf : front.length + o = 39) : zs_ok (front ++ r) g dc dn df := fun id hid x hx => by
  obtain ⟨⟨q, rfl, h1, h2⟩, h3⟩ := h id hid x hx
  refine ⟨⟨q + 39, rfl, by omega, ?_, ?_⟩, h3⟩
  · rw [List.getElem?_append_right (by omega), show q + 39 - front.length = q + o by omega]
    exact h1
  · rw [List.getElem?_append_right (by omega), show q + 39 + 1 - front.length = q + o + 1 by omega]
    exact h2
theorem zs_okR.cons {o : Nat} {r : zw_W} {c : zw_C} {g : Nat → Option Nat} {dc dn : Nat → Nat} {df : Nat → Nat → Int64} (h : zs_okR o r g dc dn df) : zs_okR (o + 1) (c :: r) g dc dn df := h
theorem zf_upI {f d : Nat → Int32} {k : Nat} : upd (fun j => if j < k then d j else f j) k (d k) = fun j => if j < k + 1 then d j else f j := by
  funext j
  show (if j = k then d k else if j < k then d j else f j) = if j < k + 1 then d j else f j
  by_cases h : j = k
  · rw [if_pos h, if_pos (by omega), h]
  · rw [if_neg h]
    by_cases h2 : j < k
    · rw [if_pos h2, if_pos (by omega)]
    · rw [if_neg h2, if_neg (by omega)]
theorem zf_if0 {α : Type} {f d : Nat → α} : (fun j => if j < 0 then d j else f j) = f := funext fun j => if_neg (Nat.not_lt_zero j)
/-- the numbers that a chance is made of -/
def zc_D (g : Nat → Option Nat) (dc : Nat → Nat) (c : Nat) : Nat := zs_sum g dc c (fun _ => 1) 32
def zc_T (g : Nat → Option Nat) (dc dn : Nat → Nat) (df : Nat → Nat → Int64) (c : Nat) (x : Int64) : Nat := zs_sum g dc c (fun id => wn_sum (fun j => if df id j = x then 1 else 0) (dn id)) 32
noncomputable def zc_E (g : Nat → Option Nat) (dc dn : Nat → Nat) (df : Nat → Nat → Int64) (c : Nat) : Nat := zs_sum g dc c dn 32 + zv_cnt (fun d => g d ≠ none) dn df 32 0 + 1
def zc_prod (d : Nat) (nu : Nat → Nat) (de : Nat) : Nat → Nat
  | 0 => d
  | k + 1 => zc_prod d nu de k * nu k * de
theorem zc_prod_le {d de k : Nat} {nu : Nat → Nat} (hd : d ≤ 10) (hn : ∀ j, j < k → nu j ≤ 201) (he : de ≤ 401) : zc_prod d nu de k ≤ 10 * 80601 ^ k := by
  induction k with
  | zero => simpa [zc_prod] using hd
  | succ k ih =>
    have h1 := ih (fun j hj => hn j (by omega))
    have h2 := hn k (by omega)
    have h3 : zc_prod d nu de k * nu k ≤ 10 * 80601 ^ k * 201 := Nat.mul_le_mul h1 h2
    have h4 : zc_prod d nu de k * nu k * de ≤ 10 * 80601 ^ k * 201 * 401 := Nat.mul_le_mul h3 he
    rw [zc_prod, Nat.pow_succ]
    omega
theorem zc_pow {k : Nat} (hk : k ≤ 20) : 10 * 80601 ^ k ≤ 10 * 80601 ^ 20 := Nat.mul_le_mul_left _ (Nat.pow_le_pow_right (by decide) hk)
theorem zc_fit : 10 * 80601 ^ 20 < 4294967296 ^ 12 ∧ 10 * 80601 ^ 19 * 201 < 4294967296 ^ 12 := by decide +kernel
theorem zc_fit1 {d de k : Nat} {nu : Nat → Nat} (hd : d ≤ 10) (hn : ∀ j, j < k + 1 → nu j ≤ 201) (he : de ≤ 401) (hk : k < 20) : zc_prod d nu de k * nu k < 4294967296 ^ 12 := by
  have h1 := zc_prod_le hd (fun j hj => hn j (by omega)) he (k := k)
  have h2 : 80601 ^ k ≤ 80601 ^ 19 := Nat.pow_le_pow_right (by decide) (by omega)
  have h3 : zc_prod d nu de k * nu k ≤ 10 * 80601 ^ k * 201 := Nat.mul_le_mul h1 (hn k (by omega))
  have h4 := zc_fit.2
  have h5 : 10 * 80601 ^ k * 201 ≤ 10 * 80601 ^ 19 * 201 := Nat.mul_le_mul_right _ (Nat.mul_le_mul_left _ h2)
  omega
theorem zc_fit2 {d de k : Nat} {nu : Nat → Nat} (hd : d ≤ 10) (hn : ∀ j, j < k → nu j ≤ 201) (he : de ≤ 401) (hk : k ≤ 20) : zc_prod d nu de k < 4294967296 ^ 12 := by
  have h1 := zc_prod_le hd hn he
  have h2 := zc_pow hk
  have h3 := zc_fit.1
  omega
/-- a product's limbs hold a number -/
def zc_is (f : Nat → Int64) (v : Nat) : Prop := ∃ F : Nat → Nat, (∀ j, j < 12 → F j < 4294967296) ∧ (∀ j, j < 12 → f j = lN (F j)) ∧ wv 4294967296 F 12 = v
set_option maxHeartbeats 4000000 in
set_option maxRecDepth 100000 in
theorem c_Product_init1 {G : zw_G} {c0 c1 c2 c3 c4 c5 c6 c7 c8 c9 c10 c11 c12 c13 c14 c15 c16 c17 c18 c19 c20 : zw_C} : zw_Met G Y_Product_init 1 1 12 [.ref 22] ([c0, c1, c2, c3, c4, c5, c6, c7, c8, c9, c10, c11, c12, c13, c14, c15, c16, c17, c18, c19, c20, .inr (5, [.null])]) (zw_is none [c0, c1, c2, c3, c4, c5, c6, c7, c8, c9, c10, c11, c12, c13, c14, c15, c16, c17, c18, c19, c20, zk_P 21, zk_L 12 (fun _ => 0)]) := by
  show zw_Z G Y_Product_init _ _ _ 0 0 0 [some (.ref 22)] [] _
  refine zr_aload_n dProduct_init_0 rfl rfl ?_
  refine zr_objInit o_Product_1 t_oi t_oc dProduct_init_1 (by decide) ?_
  refine zr_aload_n dProduct_init_4 rfl rfl ?_
  refine zr_bipush (v := nI 12) dProduct_init_5 (by decide) ?_
  refine zr_newL t_arrL dProduct_init_7 (by decide) (by decide) ?_
  refine zr_putF f_Product_9 rfl dProduct_init_9 rfl (Nat.le_of_ble_eq_true rfl) (fun _ => rfl) (fun _ => rfl) ?_
  exact zr_return dProduct_init_12 rfl (⟨rfl, rfl⟩)
set_option maxHeartbeats 4000000 in
set_option maxRecDepth 100000 in
theorem c_Product_init2 {G : zw_G} {c0 c1 c2 c3 c4 c5 c6 c7 c8 c9 c10 c11 c12 c13 c14 c15 c16 c17 c18 c19 c20 c21 c22 : zw_C} : zw_Met G Y_Product_init 1 1 12 [.ref 24] ([c0, c1, c2, c3, c4, c5, c6, c7, c8, c9, c10, c11, c12, c13, c14, c15, c16, c17, c18, c19, c20, c21, c22, .inr (5, [.null])]) (zw_is none [c0, c1, c2, c3, c4, c5, c6, c7, c8, c9, c10, c11, c12, c13, c14, c15, c16, c17, c18, c19, c20, c21, c22, zk_P 23, zk_L 12 (fun _ => 0)]) := by
  show zw_Z G Y_Product_init _ _ _ 0 0 0 [some (.ref 24)] [] _
  refine zr_aload_n dProduct_init_0 rfl rfl ?_
  refine zr_objInit o_Product_1 t_oi t_oc dProduct_init_1 (by decide) ?_
  refine zr_aload_n dProduct_init_4 rfl rfl ?_
  refine zr_bipush (v := nI 12) dProduct_init_5 (by decide) ?_
  refine zr_newL t_arrL dProduct_init_7 (by decide) (by decide) ?_
  refine zr_putF f_Product_9 rfl dProduct_init_9 rfl (Nat.le_of_ble_eq_true rfl) (fun _ => rfl) (fun _ => rfl) ?_
  exact zr_return dProduct_init_12 rfl (⟨rfl, rfl⟩)
theorem c_Product_start2 {G : zw_G} {w : zw_W} {i v : Nat} {f : Nat → Int64} (hv : v < 4294967296 / 2) (hi : w[i]? = some (zk_P i)) (hj : w[i + 1]? = some (zk_L 12 f)) : zw_Met G Y_Product_start 1 0 0 [.ref (i + 1), .int (nI v)] w (fun r w2 => r = none ∧ ∃ f2, w2 = w.set (i + 1) (zk_L 12 f2) ∧ zc_is f2 v) := by
  refine zw_Met.post (c_Product_start (by omega) hi hj) (fun r w2 hp => ?_)
  obtain ⟨h1, f2, h2, h3⟩ := hp
  refine ⟨h1, f2, h2, fun j => if j = 0 then v else 0, fun j _ => ?_, h3, ?_⟩
  · show (if j = 0 then v else 0) < 4294967296
    split <;> omega
  · simp [wv]
theorem c_Product_times2 {G : zw_G} {w : zw_W} {i v q : Nat} {f : Nat → Int64} (hq : q < 2 ^ 31) (hv : zc_is f v) (hb : v * q < 4294967296 ^ 12) (hi : w[i]? = some (zk_P i)) (hj : w[i + 1]? = some (zk_L 12 f)) : zw_Met G Y_Product_times 0 0 0 [.ref (i + 1), .int (nI q)] w (fun r w2 => r = none ∧ ∃ f2, w2 = w.set (i + 1) (zk_L 12 f2) ∧ zc_is f2 (v * q)) := by
  obtain ⟨F, hF, hf, hw⟩ := hv
  refine zw_Met.post (c_Product_times hq hF hf hi hj) (fun r w2 hp => ?_)
  obtain ⟨rfl, rfl⟩ := hp
  refine ⟨rfl, _, rfl, fun j => (F j * q + wv_c 4294967296 q F j) % 4294967296, fun j _ => Nat.mod_lt _ (by decide), fun j hj => if_pos hj, ?_⟩
  rw [wv_prod (by decide) (by rw [hw]; exact hb), hw]
set_option maxHeartbeats 4000000 in
set_option maxRecDepth 100000 in
theorem c_Chances_multiplyOut {G : zw_G} {w : zw_W} {i n wc a b dv de : Nat} {fd fe fa : Nat → Int32} {f : Nat → Int64} {nu : Nat → Nat} (hi20 : 20 < i) (ha : a < 4) (hb : b < 4) (hwc : wc ≤ 20) (hch : w[13]? = some (zk_Ch n wc)) (hfd : w[14]? = some (zk_I 4 fd)) (hA : w[15]? = some (zk_A 4 zk_ga)) (hrow : w[16 + a]? = some (zk_I 20 fa)) (hfe : w[20]? = some (zk_I 4 fe)) (hi : w[i]? = some (zk_P i)) (hj : w[i + 1]? = some (zk_L 12 f)) (hd : fd a = nI dv) (hn : ∀ k, k < wc → fa k = nI (nu k)) (he : fe b = nI de) (hd10 : dv ≤ 10) (hn201 : ∀ k, k < wc → nu k ≤ 201) (he401 : de ≤ 401) : zw_Met G Y_Chances_multiplyOut 2 0 0 [.ref 14, .ref (i + 1), .int (nI a), .int (nI b)] w (fun v w2 => v = none ∧ ∃ f2, w2 = w.set (i + 1) (zk_L 12 f2) ∧ zc_is f2 (zc_prod dv nu de wc)) := by
  have hl : i + 1 < w.length := (List.getElem?_eq_some_iff.mp hj).1
  have key : ∀ k, k ≤ wc → ∀ f1, zc_is f1 (zc_prod dv nu de k) → zw_Z G Y_Chances_multiplyOut (zw_R 2 0 0) (fun _ => True) (zw_Q G 0 0 (fun v w2 => v = none ∧ ∃ f2, w2 = w.set (i + 1) (zk_L 12 f2) ∧ zc_is f2 (zc_prod dv nu de wc))) 0 0 13 [some (.ref 14), some (.ref (i + 1)), some (.int (nI a)), some (.int (nI b)), some (.int (nI k))] [] (w.set (i + 1) (zk_L 12 f1)) := by
    refine wz_up wc (fun k hk ih => ?_) ?_
    · intro f1 hf1
      have g1 := zc_fit1 hd10 (fun j hj => hn201 j (by omega)) he401 (k := k) (by omega)
      have g2 := zc_fit2 hd10 (fun j hj => hn201 j (by omega)) he401 (k := k + 1) (by omega)
      have g3 := hn201 k hk
      refine zr_iload dChances_multiplyOut_13 rfl ?_
      refine zr_aload_n dChances_multiplyOut_15 rfl rfl ?_
      refine zr_getf g_Chances_37 dChances_multiplyOut_16 (by rw [List.getElem?_set_ne (by omega)]; exact hch) rfl ?_
      refine zr_icmp_geN (tgt := 51) (by omega) (by omega) dChances_multiplyOut_19 (by decide) (fun h19 => ?_) (fun h19 => ?_)
      · exfalso; omega
      · refine zr_aload_n dChances_multiplyOut_22 rfl rfl ?_
        refine zr_aload_n dChances_multiplyOut_23 rfl rfl ?_
        refine zr_getf g_Chances_17 dChances_multiplyOut_24 (by rw [List.getElem?_set_ne (by omega)]; exact hch) rfl ?_
        refine zr_iload_n dChances_multiplyOut_27 rfl ?_
        refine zr_aaldA dChances_multiplyOut_28 (by rw [List.getElem?_set_ne (by omega)]; exact hA) (ha) (by decide) ?_
        refine zr_top (show va_rf (zk_ga a) = Value.ref (16 + a + 1) from by unfold zk_ga; rw [if_pos ha, show 17 + a = 16 + a + 1 by omega]; rfl) ?_
        refine zr_iload dChances_multiplyOut_29 rfl ?_
        refine zr_iald dChances_multiplyOut_31 (by rw [List.getElem?_set_ne (by omega)]; exact hrow) (by omega) (by decide) ?_
        refine zr_topI (hn k hk) ?_
        refine zr_invV (c_Product_times2 (by omega) hf1 g1 (by rw [List.getElem?_set_ne (by omega)]; exact hi) (List.getElem?_set_self hl)) m_Product_times k_Chances_83 v_Product_times rfl (by rw [List.getElem?_set_ne (by omega)]; exact hi) dChances_multiplyOut_32 rfl (Nat.le_of_ble_eq_true rfl) (by decide) (Nat.le_of_ble_eq_true rfl) rfl (fun v w2 hp => ?_)
        obtain ⟨rfl, f2, rfl, hf2⟩ := hp
        refine ⟨by rw [List.length_set, List.length_set]; rfl, ?_⟩
        rw [List.set_set]
        refine zr_aload_n dChances_multiplyOut_35 rfl rfl ?_
        refine zr_aload_n dChances_multiplyOut_36 rfl rfl ?_
        refine zr_getf g_Chances_20 dChances_multiplyOut_37 (by rw [List.getElem?_set_ne (by omega)]; exact hch) rfl ?_
        refine zr_iload_n dChances_multiplyOut_40 rfl ?_
        refine zr_iald dChances_multiplyOut_41 (by rw [List.getElem?_set_ne (by omega)]; exact hfe) (hb) (by decide) ?_
        refine zr_topI he ?_
        refine zr_invV (c_Product_times2 (by omega) hf2 g2 (by rw [List.getElem?_set_ne (by omega)]; exact hi) (List.getElem?_set_self hl)) m_Product_times k_Chances_83 v_Product_times rfl (by rw [List.getElem?_set_ne (by omega)]; exact hi) dChances_multiplyOut_42 rfl (Nat.le_of_ble_eq_true rfl) (by decide) (Nat.le_of_ble_eq_true rfl) rfl (fun v w2 hp => ?_)
        obtain ⟨rfl, f3, rfl, hf3⟩ := hp
        refine ⟨by rw [List.length_set, List.length_set]; rfl, ?_⟩
        rw [List.set_set]
        refine zr_iinc (v := nI (k + 1)) dChances_multiplyOut_45 rfl (nI_1 _) (by decide) ?_
        refine zr_goto (tgt := 13) dChances_multiplyOut_48 (by decide) ?_
        exact ih _ hf3
    · intro f1 hf1
      refine zr_iload dChances_multiplyOut_13 rfl ?_
      refine zr_aload_n dChances_multiplyOut_15 rfl rfl ?_
      refine zr_getf g_Chances_37 dChances_multiplyOut_16 (by rw [List.getElem?_set_ne (by omega)]; exact hch) rfl ?_
      refine zr_icmp_geN (tgt := 51) (by omega) (by omega) dChances_multiplyOut_19 (by decide) (fun h19 => ?_) (fun h19 => ?_)
      · exact zr_return dChances_multiplyOut_51 rfl (⟨rfl, _, rfl, hf1⟩)
      · exfalso; omega
  show zw_Z G Y_Chances_multiplyOut _ _ _ 0 0 0 [some (.ref 14), some (.ref (i + 1)), some (.int (nI a)), some (.int (nI b)), none] [] _
  refine zr_aload_n dChances_multiplyOut_0 rfl rfl ?_
  refine zr_aload_n dChances_multiplyOut_1 rfl rfl ?_
  refine zr_getf g_Chances_9 dChances_multiplyOut_2 hch rfl ?_
  refine zr_iload_n dChances_multiplyOut_5 rfl ?_
  refine zr_iald dChances_multiplyOut_6 hfd (ha) (by decide) ?_
  refine zr_topI hd ?_
  refine zr_invV (c_Product_start2 (by omega) hi hj) m_Product_start k_Chances_79 v_Product_start rfl hi dChances_multiplyOut_7 rfl (Nat.le_of_ble_eq_true rfl) (by decide) (Nat.le_of_ble_eq_true rfl) rfl (fun v w2 hp => ?_)
  obtain ⟨rfl, f0, rfl, hf0⟩ := hp
  refine ⟨by rw [List.length_set]; rfl, ?_⟩
  refine zr_iconst (v := nI 0) dChances_multiplyOut_10 (by decide) ?_
  refine zr_istore dChances_multiplyOut_11 (by decide) ?_
  exact key 0 (Nat.zero_le wc) _ hf0
/-- class a's side against class b's -/
def zc_side (dv de : Nat → Nat) (nu : Nat → Nat → Nat) (wc a b : Nat) : Nat := zc_prod (dv a) (nu a) (de b) wc
def zc_sgn (dv de : Nat → Nat) (nu : Nat → Nat → Nat) (wc a b : Nat) : Int32 := zf_sgn (zc_side dv de nu wc a b) (zc_side dv de nu wc b a)
/-- does class q stand ahead of class c -/
def zc_ahead (sg : Nat → Nat → Int32) (q c : Nat) : Prop := 0 < sg q c ∨ sg q c = 0 ∧ q < c
def zc_place (sg : Nat → Nat → Int32) (c n : Nat) : Nat := wn_sum (fun q => if 0 < sg q c ∨ sg q c = 0 ∧ q < c then 1 else 0) n
theorem zc_place_1 {sg : Nat → Nat → Int32} {c n : Nat} (h : zc_ahead sg n c) : zc_place sg c (n + 1) = zc_place sg c n + 1 := by unfold zc_place; rw [wn_sum]; congr 1; exact if_pos h
theorem zc_place_0 {sg : Nat → Nat → Int32} {c n : Nat} (h : ¬ zc_ahead sg n c) : zc_place sg c (n + 1) = zc_place sg c n := by unfold zc_place; rw [wn_sum]; exact (congrArg (fun z => _ + z) (if_neg h)).trans (Nat.add_zero _)
/-- the class at a place -/
def zc_at (sg : Nat → Nat → Int32) (n : Nat) (k : Int32) (v : Int32) : Prop := (∃ c, c < n ∧ v = nI c ∧ nI (zc_place sg c n) = k ∧ ∀ b, b < c → nI (zc_place sg b n) ≠ k) ∨ (v = -1 ∧ ∀ c, c < n → nI (zc_place sg c n) ≠ k)
set_option maxHeartbeats 4000000 in
set_option maxRecDepth 100000 in
theorem c_Chances_signOf {G : zw_G} {c0 c1 c2 c3 c4 c5 c6 c7 c8 c9 c10 c11 c12 : zw_C} {r : zw_W} {n wc : Nat} {fd fe : Nat → Int32} {fr : Nat → Nat → Int32} {f1 f2 : Nat → Int64} {dv de : Nat → Nat} {nu : Nat → Nat → Nat} (hn4 : n ≤ 4) (hwc : wc ≤ 20) (hd : ∀ c, c < n → fd c = nI (dv c)) (he : ∀ c, c < n → fe c = nI (de c)) (hr : ∀ c, c < n → ∀ k, k < wc → fr c k = nI (nu c k)) (hd10 : ∀ c, c < n → dv c ≤ 10) (he401 : ∀ c, c < n → de c ≤ 401) (hn201 : ∀ c, c < n → ∀ k, k < wc → nu c k ≤ 201) {a b : Nat} (ha : a < n) (hb : b < n) : zw_Met G Y_Chances_signOf 3 0 0 [.ref 14, .int (nI a), .int (nI b)] (c0 :: c1 :: c2 :: c3 :: c4 :: c5 :: c6 :: c7 :: c8 :: c9 :: c10 :: c11 :: c12 :: zk_Ch n wc :: zk_I 4 fd :: zk_A 4 zk_ga :: zk_I 20 (fr 0) :: zk_I 20 (fr 1) :: zk_I 20 (fr 2) :: zk_I 20 (fr 3) :: zk_I 4 fe :: zk_P 21 :: zk_L 12 f1 :: zk_P 23 :: zk_L 12 f2 :: r) (fun v w2 => v = some (.int (zc_sgn dv de nu wc a b)) ∧ ∃ g1 g2, w2 = (c0 :: c1 :: c2 :: c3 :: c4 :: c5 :: c6 :: c7 :: c8 :: c9 :: c10 :: c11 :: c12 :: zk_Ch n wc :: zk_I 4 fd :: zk_A 4 zk_ga :: zk_I 20 (fr 0) :: zk_I 20 (fr 1) :: zk_I 20 (fr 2) :: zk_I 20 (fr 3) :: zk_I 4 fe :: zk_P 21 :: zk_L 12 g1 :: zk_P 23 :: zk_L 12 g2 :: r)) := by
  show zw_Z G Y_Chances_signOf _ _ _ 0 0 0 [some (.ref 14), some (.int (nI a)), some (.int (nI b))] [] _
  refine zr_aload_n dChances_signOf_0 rfl rfl ?_
  refine zr_aload_n dChances_signOf_1 rfl rfl ?_
  refine zr_getf g_Chances_26 dChances_signOf_2 rfl rfl ?_
  refine zr_iload_n dChances_signOf_5 rfl ?_
  refine zr_iload_n dChances_signOf_6 rfl ?_
  refine zr_invV (c_Chances_multiplyOut (i := 21) (a := a) (b := b) (fa := fr a) (by decide) (by omega) (by omega) hwc rfl rfl rfl (by rcases (show a = 0 ∨ a = 1 ∨ a = 2 ∨ a = 3 by omega) with rfl | rfl | rfl | rfl <;> rfl) rfl rfl rfl (hd a (by omega)) (hr a (by omega)) (he b (by omega)) (hd10 a (by omega)) (hn201 a (by omega)) (he401 b (by omega))) m_Chances_multiplyOut k_Chances_71 v_Chances_multiplyOut rfl rfl dChances_signOf_7 rfl (Nat.le_of_ble_eq_true rfl) (by decide) (Nat.le_of_ble_eq_true rfl) rfl (fun v w2 hp => ?_)
  obtain ⟨rfl, g1, rfl, hg1⟩ := hp
  refine ⟨by rfl, ?_⟩
  refine zr_aload_n dChances_signOf_10 rfl rfl ?_
  refine zr_aload_n dChances_signOf_11 rfl rfl ?_
  refine zr_getf g_Chances_30 dChances_signOf_12 rfl rfl ?_
  refine zr_iload_n dChances_signOf_15 rfl ?_
  refine zr_iload_n dChances_signOf_16 rfl ?_
  refine zr_invV (c_Chances_multiplyOut (i := 23) (a := b) (b := a) (fa := fr b) (by decide) (by omega) (by omega) hwc rfl rfl rfl (by rcases (show b = 0 ∨ b = 1 ∨ b = 2 ∨ b = 3 by omega) with rfl | rfl | rfl | rfl <;> rfl) rfl rfl rfl (hd b (by omega)) (hr b (by omega)) (he a (by omega)) (hd10 b (by omega)) (hn201 b (by omega)) (he401 a (by omega))) m_Chances_multiplyOut k_Chances_71 v_Chances_multiplyOut rfl rfl dChances_signOf_17 rfl (Nat.le_of_ble_eq_true rfl) (by decide) (Nat.le_of_ble_eq_true rfl) rfl (fun v w2 hp => ?_)
  obtain ⟨rfl, g2, rfl, hg2⟩ := hp
  obtain ⟨F1, a1, a2, a3⟩ := hg1
  obtain ⟨F2, b1, b2, b3⟩ := hg2
  refine ⟨by rfl, ?_⟩
  refine zr_aload_n dChances_signOf_20 rfl rfl ?_
  refine zr_getf g_Chances_26 dChances_signOf_21 rfl rfl ?_
  refine zr_aload_n dChances_signOf_24 rfl rfl ?_
  refine zr_getf g_Chances_30 dChances_signOf_25 rfl rfl ?_
  refine zr_invV (c_Product_signAgainst (i := 21) (i2 := 23) a1 b1 a2 b2 rfl rfl rfl rfl) m_Product_signAgainst k_Chances_75 v_Product_signAgainst rfl rfl dChances_signOf_28 rfl (Nat.le_of_ble_eq_true rfl) (by decide) (Nat.le_of_ble_eq_true rfl) rfl (fun v w2 hp => ?_)
  obtain ⟨rfl, rfl⟩ := hp
  refine ⟨rfl, ?_⟩
  exact zr_ireturn dChances_signOf_31 rfl rfl (⟨congrArg (fun x => some (Value.int x)) (by rw [a3, b3]; rfl), g1, g2, rfl⟩)
set_option maxHeartbeats 4000000 in
set_option maxRecDepth 100000 in
theorem c_Chances_placeOf {G : zw_G} {c0 c1 c2 c3 c4 c5 c6 c7 c8 c9 c10 c11 c12 : zw_C} {r : zw_W} {n wc : Nat} {fd fe : Nat → Int32} {fr : Nat → Nat → Int32} {dv de : Nat → Nat} {nu : Nat → Nat → Nat} (hn4 : n ≤ 4) (hwc : wc ≤ 20) (hd : ∀ c, c < n → fd c = nI (dv c)) (he : ∀ c, c < n → fe c = nI (de c)) (hr : ∀ c, c < n → ∀ k, k < wc → fr c k = nI (nu c k)) (hd10 : ∀ c, c < n → dv c ≤ 10) (he401 : ∀ c, c < n → de c ≤ 401) (hn201 : ∀ c, c < n → ∀ k, k < wc → nu c k ≤ 201) {f1 f2 : Nat → Int64} {c : Nat} (hc : c < n) : zw_Met G Y_Chances_placeOf 4 0 0 [.ref 14, .int (nI c)] (c0 :: c1 :: c2 :: c3 :: c4 :: c5 :: c6 :: c7 :: c8 :: c9 :: c10 :: c11 :: c12 :: zk_Ch n wc :: zk_I 4 fd :: zk_A 4 zk_ga :: zk_I 20 (fr 0) :: zk_I 20 (fr 1) :: zk_I 20 (fr 2) :: zk_I 20 (fr 3) :: zk_I 4 fe :: zk_P 21 :: zk_L 12 f1 :: zk_P 23 :: zk_L 12 f2 :: r) (fun v w2 => v = some (.int (nI (zc_place (zc_sgn dv de nu wc) c n))) ∧ ∃ g1 g2, w2 = (c0 :: c1 :: c2 :: c3 :: c4 :: c5 :: c6 :: c7 :: c8 :: c9 :: c10 :: c11 :: c12 :: zk_Ch n wc :: zk_I 4 fd :: zk_A 4 zk_ga :: zk_I 20 (fr 0) :: zk_I 20 (fr 1) :: zk_I 20 (fr 2) :: zk_I 20 (fr 3) :: zk_I 4 fe :: zk_P 21 :: zk_L 12 g1 :: zk_P 23 :: zk_L 12 g2 :: r)) := by
  have key : ∀ k, k ≤ n → ∀ f1 f2, zw_Z G Y_Chances_placeOf (zw_R 4 0 0) (fun _ => True) (zw_Q G 0 0 (fun v w2 => v = some (.int (nI (zc_place (zc_sgn dv de nu wc) c n))) ∧ ∃ g1 g2, w2 = (c0 :: c1 :: c2 :: c3 :: c4 :: c5 :: c6 :: c7 :: c8 :: c9 :: c10 :: c11 :: c12 :: zk_Ch n wc :: zk_I 4 fd :: zk_A 4 zk_ga :: zk_I 20 (fr 0) :: zk_I 20 (fr 1) :: zk_I 20 (fr 2) :: zk_I 20 (fr 3) :: zk_I 4 fe :: zk_P 21 :: zk_L 12 g1 :: zk_P 23 :: zk_L 12 g2 :: r))) 0 0 4 [some (.ref 14), some (.int (nI c)), some (.int (nI (zc_place (zc_sgn dv de nu wc) c k))), some (.int (nI k)), none] [] (c0 :: c1 :: c2 :: c3 :: c4 :: c5 :: c6 :: c7 :: c8 :: c9 :: c10 :: c11 :: c12 :: zk_Ch n wc :: zk_I 4 fd :: zk_A 4 zk_ga :: zk_I 20 (fr 0) :: zk_I 20 (fr 1) :: zk_I 20 (fr 2) :: zk_I 20 (fr 3) :: zk_I 4 fe :: zk_P 21 :: zk_L 12 f1 :: zk_P 23 :: zk_L 12 f2 :: r) := by
    refine wz_up n (fun k hk ih => ?_) ?_
    · intro f1 f2
      refine zr_iload_n dChances_placeOf_4 rfl ?_
      refine zr_aload_n dChances_placeOf_5 rfl rfl ?_
      refine zr_getf g_Chances_33 dChances_placeOf_6 rfl rfl ?_
      refine zr_icmp_geN (tgt := 44) (by omega) (by omega) dChances_placeOf_9 (by decide) (fun h9 => ?_) (fun h9 => ?_)
      · exfalso; omega
      · refine zr_aload_n dChances_placeOf_12 rfl rfl ?_
        refine zr_iload_n dChances_placeOf_13 rfl ?_
        refine zr_iload_n dChances_placeOf_14 rfl ?_
        refine zr_invV (c_Chances_signOf hn4 hwc hd he hr hd10 he401 hn201 hk hc) m_Chances_signOf k_Chances_67 v_Chances_signOf rfl rfl dChances_placeOf_15 rfl (Nat.le_of_ble_eq_true rfl) (by decide) (Nat.le_of_ble_eq_true rfl) rfl (fun v w2 hp => ?_)
        obtain ⟨rfl, g1, g2, rfl⟩ := hp
        refine ⟨by rfl, ?_⟩
        refine zr_istore dChances_placeOf_18 (by decide) ?_
        refine zr_iload dChances_placeOf_20 rfl ?_
        refine zr_if_gt (tgt := 35) dChances_placeOf_22 (by decide) (fun h22 => ?_) (fun h22 => ?_)
        · rw [zc_place_1 (Or.inl h22)] at ih
          refine zr_iinc (v := nI (zc_place (zc_sgn dv de nu wc) c k + 1)) dChances_placeOf_35 rfl (nI_1 _) (by decide) ?_
          refine zr_iinc (v := nI (k + 1)) dChances_placeOf_38 rfl (nI_1 _) (by decide) ?_
          refine zr_goto (tgt := 4) dChances_placeOf_41 (by decide) ?_
          exact zr_mask [true, true, true, true, false] (ih _ _)
        · refine zr_iload dChances_placeOf_25 rfl ?_
          refine zr_if_ne (tgt := 38) dChances_placeOf_27 (by decide) (fun h27 => ?_) (fun h27 => ?_)
          · rw [zc_place_0 (fun q => q.elim h22 (fun z => h27 z.1))] at ih
            refine zr_iinc (v := nI (k + 1)) dChances_placeOf_38 rfl (nI_1 _) (by decide) ?_
            refine zr_goto (tgt := 4) dChances_placeOf_41 (by decide) ?_
            exact zr_mask [true, true, true, true, false] (ih _ _)
          · refine zr_iload_n dChances_placeOf_30 rfl ?_
            refine zr_iload_n dChances_placeOf_31 rfl ?_
            refine zr_icmp_geN (tgt := 38) (by omega) (by omega) dChances_placeOf_32 (by decide) (fun h32 => ?_) (fun h32 => ?_)
            · rw [zc_place_0 (fun q => q.elim h22 (fun z => by omega))] at ih
              refine zr_iinc (v := nI (k + 1)) dChances_placeOf_38 rfl (nI_1 _) (by decide) ?_
              refine zr_goto (tgt := 4) dChances_placeOf_41 (by decide) ?_
              exact zr_mask [true, true, true, true, false] (ih _ _)
            · rw [zc_place_1 (Or.inr ⟨h27, h32⟩)] at ih
              refine zr_iinc (v := nI (zc_place (zc_sgn dv de nu wc) c k + 1)) dChances_placeOf_35 rfl (nI_1 _) (by decide) ?_
              refine zr_iinc (v := nI (k + 1)) dChances_placeOf_38 rfl (nI_1 _) (by decide) ?_
              refine zr_goto (tgt := 4) dChances_placeOf_41 (by decide) ?_
              exact zr_mask [true, true, true, true, false] (ih _ _)
    · intro f1 f2
      refine zr_iload_n dChances_placeOf_4 rfl ?_
      refine zr_aload_n dChances_placeOf_5 rfl rfl ?_
      refine zr_getf g_Chances_33 dChances_placeOf_6 rfl rfl ?_
      refine zr_icmp_geN (tgt := 44) (by omega) (by omega) dChances_placeOf_9 (by decide) (fun h9 => ?_) (fun h9 => ?_)
      · refine zr_iload_n dChances_placeOf_44 rfl ?_
        exact zr_ireturn dChances_placeOf_45 rfl rfl (⟨rfl, f1, f2, rfl⟩)
      · exfalso; omega
  show zw_Z G Y_Chances_placeOf _ _ _ 0 0 0 [some (.ref 14), some (.int (nI c)), none, none, none] [] _
  refine zr_iconst (v := nI 0) dChances_placeOf_0 (by decide) ?_
  refine zr_istore_n dChances_placeOf_1 (by decide) ?_
  refine zr_iconst (v := nI 0) dChances_placeOf_2 (by decide) ?_
  refine zr_istore_n dChances_placeOf_3 (by decide) ?_
  exact key 0 (Nat.zero_le n) _ _
set_option maxHeartbeats 4000000 in
set_option maxRecDepth 100000 in
theorem c_Chances_classAt {G : zw_G} {c0 c1 c2 c3 c4 c5 c6 c7 c8 c9 c10 c11 c12 : zw_C} {r : zw_W} {n wc : Nat} {fd fe : Nat → Int32} {fr : Nat → Nat → Int32} {dv de : Nat → Nat} {nu : Nat → Nat → Nat} (hn4 : n ≤ 4) (hwc : wc ≤ 20) (hd : ∀ c, c < n → fd c = nI (dv c)) (he : ∀ c, c < n → fe c = nI (de c)) (hr : ∀ c, c < n → ∀ k, k < wc → fr c k = nI (nu c k)) (hd10 : ∀ c, c < n → dv c ≤ 10) (he401 : ∀ c, c < n → de c ≤ 401) (hn201 : ∀ c, c < n → ∀ k, k < wc → nu c k ≤ 201) {f1 f2 : Nat → Int64} {x : Int32} : zw_Met G Y_Chances_classAt 5 0 0 [.ref 14, .int x] (c0 :: c1 :: c2 :: c3 :: c4 :: c5 :: c6 :: c7 :: c8 :: c9 :: c10 :: c11 :: c12 :: zk_Ch n wc :: zk_I 4 fd :: zk_A 4 zk_ga :: zk_I 20 (fr 0) :: zk_I 20 (fr 1) :: zk_I 20 (fr 2) :: zk_I 20 (fr 3) :: zk_I 4 fe :: zk_P 21 :: zk_L 12 f1 :: zk_P 23 :: zk_L 12 f2 :: r) (fun v w2 => (∃ y, v = some (.int y) ∧ zc_at (zc_sgn dv de nu wc) n x y) ∧ ∃ g1 g2, w2 = (c0 :: c1 :: c2 :: c3 :: c4 :: c5 :: c6 :: c7 :: c8 :: c9 :: c10 :: c11 :: c12 :: zk_Ch n wc :: zk_I 4 fd :: zk_A 4 zk_ga :: zk_I 20 (fr 0) :: zk_I 20 (fr 1) :: zk_I 20 (fr 2) :: zk_I 20 (fr 3) :: zk_I 4 fe :: zk_P 21 :: zk_L 12 g1 :: zk_P 23 :: zk_L 12 g2 :: r)) := by
  have key : ∀ k, k ≤ n → (∀ b, b < k → nI (zc_place (zc_sgn dv de nu wc) b n) ≠ x) → ∀ f1 f2, zw_Z G Y_Chances_classAt (zw_R 5 0 0) (fun _ => True) (zw_Q G 0 0 (fun v w2 => (∃ y, v = some (.int y) ∧ zc_at (zc_sgn dv de nu wc) n x y) ∧ ∃ g1 g2, w2 = (c0 :: c1 :: c2 :: c3 :: c4 :: c5 :: c6 :: c7 :: c8 :: c9 :: c10 :: c11 :: c12 :: zk_Ch n wc :: zk_I 4 fd :: zk_A 4 zk_ga :: zk_I 20 (fr 0) :: zk_I 20 (fr 1) :: zk_I 20 (fr 2) :: zk_I 20 (fr 3) :: zk_I 4 fe :: zk_P 21 :: zk_L 12 g1 :: zk_P 23 :: zk_L 12 g2 :: r))) 0 0 2 [some (.ref 14), some (.int x), some (.int (nI k))] [] (c0 :: c1 :: c2 :: c3 :: c4 :: c5 :: c6 :: c7 :: c8 :: c9 :: c10 :: c11 :: c12 :: zk_Ch n wc :: zk_I 4 fd :: zk_A 4 zk_ga :: zk_I 20 (fr 0) :: zk_I 20 (fr 1) :: zk_I 20 (fr 2) :: zk_I 20 (fr 3) :: zk_I 4 fe :: zk_P 21 :: zk_L 12 f1 :: zk_P 23 :: zk_L 12 f2 :: r) := by
    refine wz_up n (fun k hk ih => ?_) ?_
    · intro hno f1 f2
      refine zr_iload_n dChances_classAt_2 rfl ?_
      refine zr_aload_n dChances_classAt_3 rfl rfl ?_
      refine zr_getf g_Chances_33 dChances_classAt_4 rfl rfl ?_
      refine zr_icmp_geN (tgt := 27) (by omega) (by omega) dChances_classAt_7 (by decide) (fun h7 => ?_) (fun h7 => ?_)
      · exfalso; omega
      · refine zr_aload_n dChances_classAt_10 rfl rfl ?_
        refine zr_iload_n dChances_classAt_11 rfl ?_
        refine zr_invV (c_Chances_placeOf hn4 hwc hd he hr hd10 he401 hn201 hk) m_Chances_placeOf k_Chances_64 v_Chances_placeOf rfl rfl dChances_classAt_12 rfl (Nat.le_of_ble_eq_true rfl) (by decide) (Nat.le_of_ble_eq_true rfl) rfl (fun v w2 hp => ?_)
        obtain ⟨rfl, g1, g2, rfl⟩ := hp
        refine ⟨by rfl, ?_⟩
        refine zr_iload_n dChances_classAt_15 rfl ?_
        refine zr_icmp_ne (tgt := 21) dChances_classAt_16 (by decide) (fun h16 => ?_) (fun h16 => ?_)
        · refine zr_iinc (v := nI (k + 1)) dChances_classAt_21 rfl (nI_1 _) (by decide) ?_
          refine zr_goto (tgt := 2) dChances_classAt_24 (by decide) ?_
          refine ih (fun b hb => ?_) _ _
          by_cases e : b = k
          · rw [e]; exact h16
          · exact hno b (by omega)
        · refine zr_iload_n dChances_classAt_19 rfl ?_
          exact zr_ireturn dChances_classAt_20 rfl rfl (⟨⟨_, rfl, Or.inl ⟨k, hk, rfl, h16, hno⟩⟩, g1, g2, rfl⟩)
    · intro hno f1 f2
      refine zr_iload_n dChances_classAt_2 rfl ?_
      refine zr_aload_n dChances_classAt_3 rfl rfl ?_
      refine zr_getf g_Chances_33 dChances_classAt_4 rfl rfl ?_
      refine zr_icmp_geN (tgt := 27) (by omega) (by omega) dChances_classAt_7 (by decide) (fun h7 => ?_) (fun h7 => ?_)
      · refine zr_iconst (v := (-1)) dChances_classAt_27 (by decide) ?_
        exact zr_ireturn dChances_classAt_28 rfl rfl (⟨⟨_, rfl, Or.inr ⟨rfl, hno⟩⟩, f1, f2, rfl⟩)
      · exfalso; omega
  show zw_Z G Y_Chances_classAt _ _ _ 0 0 0 [some (.ref 14), some (.int x), none] [] _
  refine zr_iconst (v := nI 0) dChances_classAt_0 (by decide) ?_
  refine zr_istore_n dChances_classAt_1 (by decide) ?_
  exact key 0 (Nat.zero_le n) (fun b hb => absurd hb (Nat.not_lt_zero b)) _ _
set_option maxHeartbeats 4000000 in
set_option maxRecDepth 100000 in
theorem c_Chances_weigh {G : zw_G} {c0 c6 c7 c8 c9 c10 c11 c12 : zw_C} {r : zw_W} {wc len run n n0 wc0 : Nat} {tw sn : Nat → Int64} {g : Nat → Option Nat} {dc dn : Nat → Nat} {df : Nat → Nat → Int64} {fd fe : Nat → Int32} {fr : Nat → Nat → Int32} (hn4 : n ≤ 4) (hwc : wc ≤ 20) (hok : zs_okR 18 r g dc dn df) (ht : zv_tot g dn 32 ≤ 200) : zw_Met G Y_Chances_weigh 3 0 0 [.ref 14, .ref 4, .ref 2, .int (nI n)] (c0 :: zk_Text wc len run :: zk_L 20 tw :: zk_Sh 3 :: zk_D 32 g :: zk_L 200 sn :: c6 :: c7 :: c8 :: c9 :: c10 :: c11 :: c12 :: zk_Ch n0 wc0 :: zk_I 4 fd :: zk_A 4 zk_ga :: zk_I 20 (fr 0) :: zk_I 20 (fr 1) :: zk_I 20 (fr 2) :: zk_I 20 (fr 3) :: zk_I 4 fe :: r) (fun v w2 => v = none ∧ ∃ (sn2 : Nat → Int64) (fd2 : Nat → Int32) (fr2 : Nat → Nat → Int32) (fe2 : Nat → Int32), w2 = (c0 :: zk_Text wc len run :: zk_L 20 tw :: zk_Sh 3 :: zk_D 32 g :: zk_L 200 sn2 :: c6 :: c7 :: c8 :: c9 :: c10 :: c11 :: c12 :: zk_Ch n wc :: zk_I 4 fd2 :: zk_A 4 zk_ga :: zk_I 20 (fr2 0) :: zk_I 20 (fr2 1) :: zk_I 20 (fr2 2) :: zk_I 20 (fr2 3) :: zk_I 4 fe2 :: r) ∧ (∀ j, j < n → fd2 j = nI (zc_D g dc j)) ∧ (∀ j, j < n → fe2 j = nI (zc_E g dc dn df j)) ∧ (∀ j, j < n → ∀ k, k < wc → fr2 j k = nI (zc_T g dc dn df j (tw k) + 1))) := by
  have lv4 : ∀ (sn1 : Nat → Int64) (fd1 fe1 : Nat → Int32) (fr1 : Nat → Nat → Int32), (∀ j, j < 4 → fd1 j = nI (zc_D g dc j)) → (∀ j, j < 4 → fe1 j = nI (zc_E g dc dn df j)) → (∀ j, j < 4 → ∀ k, k < wc → fr1 j k = nI (zc_T g dc dn df j (tw k) + 1)) → zw_Z G Y_Chances_weigh (zw_R 3 0 0) (fun _ => True) (zw_Q G 0 0 (fun v w2 => v = none ∧ ∃ (sn2 : Nat → Int64) (fd2 : Nat → Int32) (fr2 : Nat → Nat → Int32) (fe2 : Nat → Int32), w2 = (c0 :: zk_Text wc len run :: zk_L 20 tw :: zk_Sh 3 :: zk_D 32 g :: zk_L 200 sn2 :: c6 :: c7 :: c8 :: c9 :: c10 :: c11 :: c12 :: zk_Ch n wc :: zk_I 4 fd2 :: zk_A 4 zk_ga :: zk_I 20 (fr2 0) :: zk_I 20 (fr2 1) :: zk_I 20 (fr2 2) :: zk_I 20 (fr2 3) :: zk_I 4 fe2 :: r) ∧ (∀ j, j < n → fd2 j = nI (zc_D g dc j)) ∧ (∀ j, j < n → fe2 j = nI (zc_E g dc dn df j)) ∧ (∀ j, j < n → ∀ k, k < wc → fr2 j k = nI (zc_T g dc dn df j (tw k) + 1)))) 0 0 22 [some (.ref 14), some (.ref 4), some (.ref 2), some (.int (nI n)), some (.int (nI (zv_cnt (fun d => g d ≠ none) dn df 32 0))), some (.int (nI 4)), none] [] (c0 :: zk_Text wc len run :: zk_L 20 tw :: zk_Sh 3 :: zk_D 32 g :: zk_L 200 sn1 :: c6 :: c7 :: c8 :: c9 :: c10 :: c11 :: c12 :: zk_Ch n wc :: zk_I 4 fd1 :: zk_A 4 zk_ga :: zk_I 20 (fr1 0) :: zk_I 20 (fr1 1) :: zk_I 20 (fr1 2) :: zk_I 20 (fr1 3) :: zk_I 4 fe1 :: r) := by
    intro sn1 fd1 fe1 fr1 h1 h2 h3
    refine zr_iload dChances_weigh_22 rfl ?_
    refine zr_aload_n dChances_weigh_24 rfl rfl ?_
    refine zr_getf g_Chances_33 dChances_weigh_25 rfl rfl ?_
    refine zr_icmp_geN (tgt := 111) (by omega) (by omega) dChances_weigh_28 (by decide) (fun h28 => ?_) (fun h28 => ?_)
    · exact zr_return dChances_weigh_111 rfl (⟨rfl, sn1, fd1, fr1, fe1, rfl, fun j hj => h1 j (by omega), fun j hj => h2 j (by omega), fun j hj => h3 j (by omega)⟩)
    · exfalso; omega
  have lv3 : ∀ (sn1 : Nat → Int64) (fd1 fe1 : Nat → Int32) (fr1 : Nat → Nat → Int32), (∀ j, j < 3 → fd1 j = nI (zc_D g dc j)) → (∀ j, j < 3 → fe1 j = nI (zc_E g dc dn df j)) → (∀ j, j < 3 → ∀ k, k < wc → fr1 j k = nI (zc_T g dc dn df j (tw k) + 1)) → zw_Z G Y_Chances_weigh (zw_R 3 0 0) (fun _ => True) (zw_Q G 0 0 (fun v w2 => v = none ∧ ∃ (sn2 : Nat → Int64) (fd2 : Nat → Int32) (fr2 : Nat → Nat → Int32) (fe2 : Nat → Int32), w2 = (c0 :: zk_Text wc len run :: zk_L 20 tw :: zk_Sh 3 :: zk_D 32 g :: zk_L 200 sn2 :: c6 :: c7 :: c8 :: c9 :: c10 :: c11 :: c12 :: zk_Ch n wc :: zk_I 4 fd2 :: zk_A 4 zk_ga :: zk_I 20 (fr2 0) :: zk_I 20 (fr2 1) :: zk_I 20 (fr2 2) :: zk_I 20 (fr2 3) :: zk_I 4 fe2 :: r) ∧ (∀ j, j < n → fd2 j = nI (zc_D g dc j)) ∧ (∀ j, j < n → fe2 j = nI (zc_E g dc dn df j)) ∧ (∀ j, j < n → ∀ k, k < wc → fr2 j k = nI (zc_T g dc dn df j (tw k) + 1)))) 0 0 22 [some (.ref 14), some (.ref 4), some (.ref 2), some (.int (nI n)), some (.int (nI (zv_cnt (fun d => g d ≠ none) dn df 32 0))), some (.int (nI 3)), none] [] (c0 :: zk_Text wc len run :: zk_L 20 tw :: zk_Sh 3 :: zk_D 32 g :: zk_L 200 sn1 :: c6 :: c7 :: c8 :: c9 :: c10 :: c11 :: c12 :: zk_Ch n wc :: zk_I 4 fd1 :: zk_A 4 zk_ga :: zk_I 20 (fr1 0) :: zk_I 20 (fr1 1) :: zk_I 20 (fr1 2) :: zk_I 20 (fr1 3) :: zk_I 4 fe1 :: r) := by
    intro sn1 fd1 fe1 fr1 h1 h2 h3
    refine zr_iload dChances_weigh_22 rfl ?_
    refine zr_aload_n dChances_weigh_24 rfl rfl ?_
    refine zr_getf g_Chances_33 dChances_weigh_25 rfl rfl ?_
    refine zr_icmp_geN (tgt := 111) (by omega) (by omega) dChances_weigh_28 (by decide) (fun h28 => ?_) (fun h28 => ?_)
    ·       exact zr_return dChances_weigh_111 rfl (⟨rfl, sn1, fd1, fr1, fe1, rfl, fun j hj => h1 j (by omega), fun j hj => h2 j (by omega), fun j hj => h3 j (by omega)⟩)
    · refine zr_aload_n dChances_weigh_31 rfl rfl ?_
      refine zr_getf g_Chances_9 dChances_weigh_32 rfl rfl ?_
      refine zr_iload dChances_weigh_35 rfl ?_
      refine zr_aload_n dChances_weigh_37 rfl rfl ?_
      refine zr_iload dChances_weigh_38 rfl ?_
      refine zr_invV (c_Shelf_documentsOf (i := 3) rfl rfl (hok.ok (front := [_, _, _, _, _, _, _, _, _, _, _, _, _, _, _, _, _, _, _, _, _]) rfl) (by decide)) m_Shelf_documentsOf k_Chances_49 v_Shelf_documentsOf rfl rfl dChances_weigh_40 rfl (Nat.le_of_ble_eq_true rfl) (by decide) (Nat.le_of_ble_eq_true rfl) rfl (fun v w2 hp => ?_)
      obtain ⟨rfl, rfl⟩ := hp
      refine ⟨rfl, ?_⟩
      refine zr_iast dChances_weigh_43 rfl (by decide) (by decide) ?_
      refine zr_aload_n dChances_weigh_44 rfl rfl ?_
      refine zr_getf g_Chances_20 dChances_weigh_45 rfl rfl ?_
      refine zr_iload dChances_weigh_48 rfl ?_
      refine zr_aload_n dChances_weigh_50 rfl rfl ?_
      refine zr_iload dChances_weigh_51 rfl ?_
      refine zr_invV (c_Shelf_wordsOf (i := 3) rfl rfl (hok.ok (front := [_, _, _, _, _, _, _, _, _, _, _, _, _, _, _, _, _, _, _, _, _]) rfl) (by decide)) m_Shelf_wordsOf k_Chances_53 v_Shelf_wordsOf rfl rfl dChances_weigh_53 rfl (Nat.le_of_ble_eq_true rfl) (by decide) (Nat.le_of_ble_eq_true rfl) rfl (fun v w2 hp => ?_)
      obtain ⟨rfl, rfl⟩ := hp
      refine ⟨rfl, ?_⟩
      refine zr_iload dChances_weigh_56 rfl ?_
      refine zr_iaddN dChances_weigh_58 ?_
      refine zr_iconst (v := nI 1) dChances_weigh_59 (by decide) ?_
      refine zr_iaddN dChances_weigh_60 ?_
      refine zr_iast dChances_weigh_61 rfl (by decide) (by decide) ?_
      refine zr_iconst (v := nI 0) dChances_weigh_62 (by decide) ?_
      refine zr_istore dChances_weigh_63 (by decide) ?_
      have g1 : ∀ j, j < 4 → (upd fd1 3 (nI (zc_D g dc 3))) j = nI (zc_D g dc j) := fun j hj => by
        by_cases e : j = 3
        · subst e; exact pk_us
        · rw [pk_un e]; exact h1 j (by omega)
      have g2 : ∀ j, j < 4 → (upd fe1 3 (nI (zc_E g dc dn df 3))) j = nI (zc_E g dc dn df j) := fun j hj => by
        by_cases e : j = 3
        · subst e; exact pk_us
        · rw [pk_un e]; exact h2 j (by omega)
      obtain ⟨fd2, hfd2⟩ : ∃ z, z = upd fd1 3 (nI (zc_D g dc 3)) := ⟨_, rfl⟩
      obtain ⟨fe2, hfe2⟩ : ∃ z, z = upd fe1 3 (nI (zc_E g dc dn df 3)) := ⟨_, rfl⟩
      rw [← hfd2] at g1
      rw [← hfe2] at g2
      have key : ∀ k, k ≤ wc → zw_Z G Y_Chances_weigh (zw_R 3 0 0) (fun _ => True) (zw_Q G 0 0 (fun v w2 => v = none ∧ ∃ (sn2 : Nat → Int64) (fd2 : Nat → Int32) (fr2 : Nat → Nat → Int32) (fe2 : Nat → Int32), w2 = (c0 :: zk_Text wc len run :: zk_L 20 tw :: zk_Sh 3 :: zk_D 32 g :: zk_L 200 sn2 :: c6 :: c7 :: c8 :: c9 :: c10 :: c11 :: c12 :: zk_Ch n wc :: zk_I 4 fd2 :: zk_A 4 zk_ga :: zk_I 20 (fr2 0) :: zk_I 20 (fr2 1) :: zk_I 20 (fr2 2) :: zk_I 20 (fr2 3) :: zk_I 4 fe2 :: r) ∧ (∀ j, j < n → fd2 j = nI (zc_D g dc j)) ∧ (∀ j, j < n → fe2 j = nI (zc_E g dc dn df j)) ∧ (∀ j, j < n → ∀ k, k < wc → fr2 j k = nI (zc_T g dc dn df j (tw k) + 1)))) 0 0 65 [some (.ref 14), some (.ref 4), some (.ref 2), some (.int (nI n)), some (.int (nI (zv_cnt (fun d => g d ≠ none) dn df 32 0))), some (.int (nI 3)), some (.int (nI k))] [] (c0 :: zk_Text wc len run :: zk_L 20 tw :: zk_Sh 3 :: zk_D 32 g :: zk_L 200 sn1 :: c6 :: c7 :: c8 :: c9 :: c10 :: c11 :: c12 :: zk_Ch n wc :: zk_I 4 fd2 :: zk_A 4 zk_ga :: zk_I 20 ((va_up fr1 3 (fun j => if j < k then nI (zc_T g dc dn df 3 (tw j) + 1) else fr1 3 j)) 0) :: zk_I 20 ((va_up fr1 3 (fun j => if j < k then nI (zc_T g dc dn df 3 (tw j) + 1) else fr1 3 j)) 1) :: zk_I 20 ((va_up fr1 3 (fun j => if j < k then nI (zc_T g dc dn df 3 (tw j) + 1) else fr1 3 j)) 2) :: zk_I 20 ((va_up fr1 3 (fun j => if j < k then nI (zc_T g dc dn df 3 (tw j) + 1) else fr1 3 j)) 3) :: zk_I 4 fe2 :: r) := by
        refine wz_up wc (fun k hk ih => ?_) ?_
        · refine zr_iload dChances_weigh_65 rfl ?_
          refine zr_aload_n dChances_weigh_67 rfl rfl ?_
          refine zr_getf g_Chances_37 dChances_weigh_68 rfl rfl ?_
          refine zr_icmp_geN (tgt := 105) (by omega) (by omega) dChances_weigh_71 (by decide) (fun h71 => ?_) (fun h71 => ?_)
          · exfalso; omega
          · refine zr_aload_n dChances_weigh_74 rfl rfl ?_
            refine zr_getf g_Chances_17 dChances_weigh_75 rfl rfl ?_
            refine zr_iload dChances_weigh_78 rfl ?_
            refine zr_aaldA dChances_weigh_80 rfl (by decide) (by decide) ?_
            refine zr_iload dChances_weigh_81 rfl ?_
            refine zr_aload_n dChances_weigh_83 rfl rfl ?_
            refine zr_iload dChances_weigh_84 rfl ?_
            refine zr_aload_n dChances_weigh_86 rfl rfl ?_
            refine zr_getf g_Chances_56 dChances_weigh_87 rfl rfl ?_
            refine zr_iload dChances_weigh_90 rfl ?_
            refine zr_lald dChances_weigh_92 rfl (by omega) (by decide) ?_
            refine zr_invV (c_Shelf_timesOf (i := 3) rfl rfl (hok.ok (front := [_, _, _, _, _, _, _, _, _, _, _, _, _, _, _, _, _, _, _, _, _]) rfl) (by decide)) m_Shelf_timesOf k_Chances_60 v_Shelf_timesOf rfl rfl dChances_weigh_93 rfl (Nat.le_of_ble_eq_true rfl) (by decide) (Nat.le_of_ble_eq_true rfl) rfl (fun v w2 hp => ?_)
            obtain ⟨rfl, rfl⟩ := hp
            refine ⟨rfl, ?_⟩
            refine zr_iconst (v := nI 1) dChances_weigh_96 (by decide) ?_
            refine zr_iaddN dChances_weigh_97 ?_
            refine zr_iast dChances_weigh_98 rfl (by omega) (by decide) ?_
            refine zr_wld (w2 := (c0 :: zk_Text wc len run :: zk_L 20 tw :: zk_Sh 3 :: zk_D 32 g :: zk_L 200 sn1 :: c6 :: c7 :: c8 :: c9 :: c10 :: c11 :: c12 :: zk_Ch n wc :: zk_I 4 fd2 :: zk_A 4 zk_ga :: zk_I 20 ((va_up fr1 3 (fun j => if j < (k + 1) then nI (zc_T g dc dn df 3 (tw j) + 1) else fr1 3 j)) 0) :: zk_I 20 ((va_up fr1 3 (fun j => if j < (k + 1) then nI (zc_T g dc dn df 3 (tw j) + 1) else fr1 3 j)) 1) :: zk_I 20 ((va_up fr1 3 (fun j => if j < (k + 1) then nI (zc_T g dc dn df 3 (tw j) + 1) else fr1 3 j)) 2) :: zk_I 20 ((va_up fr1 3 (fun j => if j < (k + 1) then nI (zc_T g dc dn df 3 (tw j) + 1) else fr1 3 j)) 3) :: zk_I 4 fe2 :: r)) (by rw [← zf_upI (d := fun j => nI (zc_T g dc dn df 3 (tw j) + 1))]; rfl) ?_
            refine zr_iinc (v := nI (k + 1)) dChances_weigh_99 rfl (nI_1 _) (by decide) ?_
            refine zr_goto (tgt := 65) dChances_weigh_102 (by decide) ?_
            exact ih
        · refine zr_iload dChances_weigh_65 rfl ?_
          refine zr_aload_n dChances_weigh_67 rfl rfl ?_
          refine zr_getf g_Chances_37 dChances_weigh_68 rfl rfl ?_
          refine zr_icmp_geN (tgt := 105) (by omega) (by omega) dChances_weigh_71 (by decide) (fun h71 => ?_) (fun h71 => ?_)
          · refine zr_iinc (v := nI 4) dChances_weigh_105 rfl (by decide) (by decide) ?_
            refine zr_goto (tgt := 22) dChances_weigh_108 (by decide) ?_
            refine zr_mask [true, true, true, true, true, true, false] (lv4 sn1 fd2 fe2 (va_up fr1 3 (fun j => if j < wc then nI (zc_T g dc dn df 3 (tw j) + 1) else fr1 3 j)) g1 g2 ?_)
            intro j hj k hk
            by_cases e : j = 3
            · subst e; exact if_pos hk
            · exact (congrFun (if_neg e : (va_up fr1 3 (fun j => if j < wc then nI (zc_T g dc dn df 3 (tw j) + 1) else fr1 3 j)) j = fr1 j) k).trans (h3 j (by omega) k hk)
          · exfalso; omega
      refine zr_wld (w2 := (c0 :: zk_Text wc len run :: zk_L 20 tw :: zk_Sh 3 :: zk_D 32 g :: zk_L 200 sn1 :: c6 :: c7 :: c8 :: c9 :: c10 :: c11 :: c12 :: zk_Ch n wc :: zk_I 4 fd2 :: zk_A 4 zk_ga :: zk_I 20 ((va_up fr1 3 (fun j => if j < 0 then nI (zc_T g dc dn df 3 (tw j) + 1) else fr1 3 j)) 0) :: zk_I 20 ((va_up fr1 3 (fun j => if j < 0 then nI (zc_T g dc dn df 3 (tw j) + 1) else fr1 3 j)) 1) :: zk_I 20 ((va_up fr1 3 (fun j => if j < 0 then nI (zc_T g dc dn df 3 (tw j) + 1) else fr1 3 j)) 2) :: zk_I 20 ((va_up fr1 3 (fun j => if j < 0 then nI (zc_T g dc dn df 3 (tw j) + 1) else fr1 3 j)) 3) :: zk_I 4 fe2 :: r)) (by rw [hfd2, hfe2, zf_if0]; rfl) ?_
      exact key 0 (Nat.zero_le wc)
  have lv2 : ∀ (sn1 : Nat → Int64) (fd1 fe1 : Nat → Int32) (fr1 : Nat → Nat → Int32), (∀ j, j < 2 → fd1 j = nI (zc_D g dc j)) → (∀ j, j < 2 → fe1 j = nI (zc_E g dc dn df j)) → (∀ j, j < 2 → ∀ k, k < wc → fr1 j k = nI (zc_T g dc dn df j (tw k) + 1)) → zw_Z G Y_Chances_weigh (zw_R 3 0 0) (fun _ => True) (zw_Q G 0 0 (fun v w2 => v = none ∧ ∃ (sn2 : Nat → Int64) (fd2 : Nat → Int32) (fr2 : Nat → Nat → Int32) (fe2 : Nat → Int32), w2 = (c0 :: zk_Text wc len run :: zk_L 20 tw :: zk_Sh 3 :: zk_D 32 g :: zk_L 200 sn2 :: c6 :: c7 :: c8 :: c9 :: c10 :: c11 :: c12 :: zk_Ch n wc :: zk_I 4 fd2 :: zk_A 4 zk_ga :: zk_I 20 (fr2 0) :: zk_I 20 (fr2 1) :: zk_I 20 (fr2 2) :: zk_I 20 (fr2 3) :: zk_I 4 fe2 :: r) ∧ (∀ j, j < n → fd2 j = nI (zc_D g dc j)) ∧ (∀ j, j < n → fe2 j = nI (zc_E g dc dn df j)) ∧ (∀ j, j < n → ∀ k, k < wc → fr2 j k = nI (zc_T g dc dn df j (tw k) + 1)))) 0 0 22 [some (.ref 14), some (.ref 4), some (.ref 2), some (.int (nI n)), some (.int (nI (zv_cnt (fun d => g d ≠ none) dn df 32 0))), some (.int (nI 2)), none] [] (c0 :: zk_Text wc len run :: zk_L 20 tw :: zk_Sh 3 :: zk_D 32 g :: zk_L 200 sn1 :: c6 :: c7 :: c8 :: c9 :: c10 :: c11 :: c12 :: zk_Ch n wc :: zk_I 4 fd1 :: zk_A 4 zk_ga :: zk_I 20 (fr1 0) :: zk_I 20 (fr1 1) :: zk_I 20 (fr1 2) :: zk_I 20 (fr1 3) :: zk_I 4 fe1 :: r) := by
    intro sn1 fd1 fe1 fr1 h1 h2 h3
    refine zr_iload dChances_weigh_22 rfl ?_
    refine zr_aload_n dChances_weigh_24 rfl rfl ?_
    refine zr_getf g_Chances_33 dChances_weigh_25 rfl rfl ?_
    refine zr_icmp_geN (tgt := 111) (by omega) (by omega) dChances_weigh_28 (by decide) (fun h28 => ?_) (fun h28 => ?_)
    ·       exact zr_return dChances_weigh_111 rfl (⟨rfl, sn1, fd1, fr1, fe1, rfl, fun j hj => h1 j (by omega), fun j hj => h2 j (by omega), fun j hj => h3 j (by omega)⟩)
    · refine zr_aload_n dChances_weigh_31 rfl rfl ?_
      refine zr_getf g_Chances_9 dChances_weigh_32 rfl rfl ?_
      refine zr_iload dChances_weigh_35 rfl ?_
      refine zr_aload_n dChances_weigh_37 rfl rfl ?_
      refine zr_iload dChances_weigh_38 rfl ?_
      refine zr_invV (c_Shelf_documentsOf (i := 3) rfl rfl (hok.ok (front := [_, _, _, _, _, _, _, _, _, _, _, _, _, _, _, _, _, _, _, _, _]) rfl) (by decide)) m_Shelf_documentsOf k_Chances_49 v_Shelf_documentsOf rfl rfl dChances_weigh_40 rfl (Nat.le_of_ble_eq_true rfl) (by decide) (Nat.le_of_ble_eq_true rfl) rfl (fun v w2 hp => ?_)
      obtain ⟨rfl, rfl⟩ := hp
      refine ⟨rfl, ?_⟩
      refine zr_iast dChances_weigh_43 rfl (by decide) (by decide) ?_
      refine zr_aload_n dChances_weigh_44 rfl rfl ?_
      refine zr_getf g_Chances_20 dChances_weigh_45 rfl rfl ?_
      refine zr_iload dChances_weigh_48 rfl ?_
      refine zr_aload_n dChances_weigh_50 rfl rfl ?_
      refine zr_iload dChances_weigh_51 rfl ?_
      refine zr_invV (c_Shelf_wordsOf (i := 3) rfl rfl (hok.ok (front := [_, _, _, _, _, _, _, _, _, _, _, _, _, _, _, _, _, _, _, _, _]) rfl) (by decide)) m_Shelf_wordsOf k_Chances_53 v_Shelf_wordsOf rfl rfl dChances_weigh_53 rfl (Nat.le_of_ble_eq_true rfl) (by decide) (Nat.le_of_ble_eq_true rfl) rfl (fun v w2 hp => ?_)
      obtain ⟨rfl, rfl⟩ := hp
      refine ⟨rfl, ?_⟩
      refine zr_iload dChances_weigh_56 rfl ?_
      refine zr_iaddN dChances_weigh_58 ?_
      refine zr_iconst (v := nI 1) dChances_weigh_59 (by decide) ?_
      refine zr_iaddN dChances_weigh_60 ?_
      refine zr_iast dChances_weigh_61 rfl (by decide) (by decide) ?_
      refine zr_iconst (v := nI 0) dChances_weigh_62 (by decide) ?_
      refine zr_istore dChances_weigh_63 (by decide) ?_
      have g1 : ∀ j, j < 3 → (upd fd1 2 (nI (zc_D g dc 2))) j = nI (zc_D g dc j) := fun j hj => by
        by_cases e : j = 2
        · subst e; exact pk_us
        · rw [pk_un e]; exact h1 j (by omega)
      have g2 : ∀ j, j < 3 → (upd fe1 2 (nI (zc_E g dc dn df 2))) j = nI (zc_E g dc dn df j) := fun j hj => by
        by_cases e : j = 2
        · subst e; exact pk_us
        · rw [pk_un e]; exact h2 j (by omega)
      obtain ⟨fd2, hfd2⟩ : ∃ z, z = upd fd1 2 (nI (zc_D g dc 2)) := ⟨_, rfl⟩
      obtain ⟨fe2, hfe2⟩ : ∃ z, z = upd fe1 2 (nI (zc_E g dc dn df 2)) := ⟨_, rfl⟩
      rw [← hfd2] at g1
      rw [← hfe2] at g2
      have key : ∀ k, k ≤ wc → zw_Z G Y_Chances_weigh (zw_R 3 0 0) (fun _ => True) (zw_Q G 0 0 (fun v w2 => v = none ∧ ∃ (sn2 : Nat → Int64) (fd2 : Nat → Int32) (fr2 : Nat → Nat → Int32) (fe2 : Nat → Int32), w2 = (c0 :: zk_Text wc len run :: zk_L 20 tw :: zk_Sh 3 :: zk_D 32 g :: zk_L 200 sn2 :: c6 :: c7 :: c8 :: c9 :: c10 :: c11 :: c12 :: zk_Ch n wc :: zk_I 4 fd2 :: zk_A 4 zk_ga :: zk_I 20 (fr2 0) :: zk_I 20 (fr2 1) :: zk_I 20 (fr2 2) :: zk_I 20 (fr2 3) :: zk_I 4 fe2 :: r) ∧ (∀ j, j < n → fd2 j = nI (zc_D g dc j)) ∧ (∀ j, j < n → fe2 j = nI (zc_E g dc dn df j)) ∧ (∀ j, j < n → ∀ k, k < wc → fr2 j k = nI (zc_T g dc dn df j (tw k) + 1)))) 0 0 65 [some (.ref 14), some (.ref 4), some (.ref 2), some (.int (nI n)), some (.int (nI (zv_cnt (fun d => g d ≠ none) dn df 32 0))), some (.int (nI 2)), some (.int (nI k))] [] (c0 :: zk_Text wc len run :: zk_L 20 tw :: zk_Sh 3 :: zk_D 32 g :: zk_L 200 sn1 :: c6 :: c7 :: c8 :: c9 :: c10 :: c11 :: c12 :: zk_Ch n wc :: zk_I 4 fd2 :: zk_A 4 zk_ga :: zk_I 20 ((va_up fr1 2 (fun j => if j < k then nI (zc_T g dc dn df 2 (tw j) + 1) else fr1 2 j)) 0) :: zk_I 20 ((va_up fr1 2 (fun j => if j < k then nI (zc_T g dc dn df 2 (tw j) + 1) else fr1 2 j)) 1) :: zk_I 20 ((va_up fr1 2 (fun j => if j < k then nI (zc_T g dc dn df 2 (tw j) + 1) else fr1 2 j)) 2) :: zk_I 20 ((va_up fr1 2 (fun j => if j < k then nI (zc_T g dc dn df 2 (tw j) + 1) else fr1 2 j)) 3) :: zk_I 4 fe2 :: r) := by
        refine wz_up wc (fun k hk ih => ?_) ?_
        · refine zr_iload dChances_weigh_65 rfl ?_
          refine zr_aload_n dChances_weigh_67 rfl rfl ?_
          refine zr_getf g_Chances_37 dChances_weigh_68 rfl rfl ?_
          refine zr_icmp_geN (tgt := 105) (by omega) (by omega) dChances_weigh_71 (by decide) (fun h71 => ?_) (fun h71 => ?_)
          · exfalso; omega
          · refine zr_aload_n dChances_weigh_74 rfl rfl ?_
            refine zr_getf g_Chances_17 dChances_weigh_75 rfl rfl ?_
            refine zr_iload dChances_weigh_78 rfl ?_
            refine zr_aaldA dChances_weigh_80 rfl (by decide) (by decide) ?_
            refine zr_iload dChances_weigh_81 rfl ?_
            refine zr_aload_n dChances_weigh_83 rfl rfl ?_
            refine zr_iload dChances_weigh_84 rfl ?_
            refine zr_aload_n dChances_weigh_86 rfl rfl ?_
            refine zr_getf g_Chances_56 dChances_weigh_87 rfl rfl ?_
            refine zr_iload dChances_weigh_90 rfl ?_
            refine zr_lald dChances_weigh_92 rfl (by omega) (by decide) ?_
            refine zr_invV (c_Shelf_timesOf (i := 3) rfl rfl (hok.ok (front := [_, _, _, _, _, _, _, _, _, _, _, _, _, _, _, _, _, _, _, _, _]) rfl) (by decide)) m_Shelf_timesOf k_Chances_60 v_Shelf_timesOf rfl rfl dChances_weigh_93 rfl (Nat.le_of_ble_eq_true rfl) (by decide) (Nat.le_of_ble_eq_true rfl) rfl (fun v w2 hp => ?_)
            obtain ⟨rfl, rfl⟩ := hp
            refine ⟨rfl, ?_⟩
            refine zr_iconst (v := nI 1) dChances_weigh_96 (by decide) ?_
            refine zr_iaddN dChances_weigh_97 ?_
            refine zr_iast dChances_weigh_98 rfl (by omega) (by decide) ?_
            refine zr_wld (w2 := (c0 :: zk_Text wc len run :: zk_L 20 tw :: zk_Sh 3 :: zk_D 32 g :: zk_L 200 sn1 :: c6 :: c7 :: c8 :: c9 :: c10 :: c11 :: c12 :: zk_Ch n wc :: zk_I 4 fd2 :: zk_A 4 zk_ga :: zk_I 20 ((va_up fr1 2 (fun j => if j < (k + 1) then nI (zc_T g dc dn df 2 (tw j) + 1) else fr1 2 j)) 0) :: zk_I 20 ((va_up fr1 2 (fun j => if j < (k + 1) then nI (zc_T g dc dn df 2 (tw j) + 1) else fr1 2 j)) 1) :: zk_I 20 ((va_up fr1 2 (fun j => if j < (k + 1) then nI (zc_T g dc dn df 2 (tw j) + 1) else fr1 2 j)) 2) :: zk_I 20 ((va_up fr1 2 (fun j => if j < (k + 1) then nI (zc_T g dc dn df 2 (tw j) + 1) else fr1 2 j)) 3) :: zk_I 4 fe2 :: r)) (by rw [← zf_upI (d := fun j => nI (zc_T g dc dn df 2 (tw j) + 1))]; rfl) ?_
            refine zr_iinc (v := nI (k + 1)) dChances_weigh_99 rfl (nI_1 _) (by decide) ?_
            refine zr_goto (tgt := 65) dChances_weigh_102 (by decide) ?_
            exact ih
        · refine zr_iload dChances_weigh_65 rfl ?_
          refine zr_aload_n dChances_weigh_67 rfl rfl ?_
          refine zr_getf g_Chances_37 dChances_weigh_68 rfl rfl ?_
          refine zr_icmp_geN (tgt := 105) (by omega) (by omega) dChances_weigh_71 (by decide) (fun h71 => ?_) (fun h71 => ?_)
          · refine zr_iinc (v := nI 3) dChances_weigh_105 rfl (by decide) (by decide) ?_
            refine zr_goto (tgt := 22) dChances_weigh_108 (by decide) ?_
            refine zr_mask [true, true, true, true, true, true, false] (lv3 sn1 fd2 fe2 (va_up fr1 2 (fun j => if j < wc then nI (zc_T g dc dn df 2 (tw j) + 1) else fr1 2 j)) g1 g2 ?_)
            intro j hj k hk
            by_cases e : j = 2
            · subst e; exact if_pos hk
            · exact (congrFun (if_neg e : (va_up fr1 2 (fun j => if j < wc then nI (zc_T g dc dn df 2 (tw j) + 1) else fr1 2 j)) j = fr1 j) k).trans (h3 j (by omega) k hk)
          · exfalso; omega
      refine zr_wld (w2 := (c0 :: zk_Text wc len run :: zk_L 20 tw :: zk_Sh 3 :: zk_D 32 g :: zk_L 200 sn1 :: c6 :: c7 :: c8 :: c9 :: c10 :: c11 :: c12 :: zk_Ch n wc :: zk_I 4 fd2 :: zk_A 4 zk_ga :: zk_I 20 ((va_up fr1 2 (fun j => if j < 0 then nI (zc_T g dc dn df 2 (tw j) + 1) else fr1 2 j)) 0) :: zk_I 20 ((va_up fr1 2 (fun j => if j < 0 then nI (zc_T g dc dn df 2 (tw j) + 1) else fr1 2 j)) 1) :: zk_I 20 ((va_up fr1 2 (fun j => if j < 0 then nI (zc_T g dc dn df 2 (tw j) + 1) else fr1 2 j)) 2) :: zk_I 20 ((va_up fr1 2 (fun j => if j < 0 then nI (zc_T g dc dn df 2 (tw j) + 1) else fr1 2 j)) 3) :: zk_I 4 fe2 :: r)) (by rw [hfd2, hfe2, zf_if0]; rfl) ?_
      exact key 0 (Nat.zero_le wc)
  have lv1 : ∀ (sn1 : Nat → Int64) (fd1 fe1 : Nat → Int32) (fr1 : Nat → Nat → Int32), (∀ j, j < 1 → fd1 j = nI (zc_D g dc j)) → (∀ j, j < 1 → fe1 j = nI (zc_E g dc dn df j)) → (∀ j, j < 1 → ∀ k, k < wc → fr1 j k = nI (zc_T g dc dn df j (tw k) + 1)) → zw_Z G Y_Chances_weigh (zw_R 3 0 0) (fun _ => True) (zw_Q G 0 0 (fun v w2 => v = none ∧ ∃ (sn2 : Nat → Int64) (fd2 : Nat → Int32) (fr2 : Nat → Nat → Int32) (fe2 : Nat → Int32), w2 = (c0 :: zk_Text wc len run :: zk_L 20 tw :: zk_Sh 3 :: zk_D 32 g :: zk_L 200 sn2 :: c6 :: c7 :: c8 :: c9 :: c10 :: c11 :: c12 :: zk_Ch n wc :: zk_I 4 fd2 :: zk_A 4 zk_ga :: zk_I 20 (fr2 0) :: zk_I 20 (fr2 1) :: zk_I 20 (fr2 2) :: zk_I 20 (fr2 3) :: zk_I 4 fe2 :: r) ∧ (∀ j, j < n → fd2 j = nI (zc_D g dc j)) ∧ (∀ j, j < n → fe2 j = nI (zc_E g dc dn df j)) ∧ (∀ j, j < n → ∀ k, k < wc → fr2 j k = nI (zc_T g dc dn df j (tw k) + 1)))) 0 0 22 [some (.ref 14), some (.ref 4), some (.ref 2), some (.int (nI n)), some (.int (nI (zv_cnt (fun d => g d ≠ none) dn df 32 0))), some (.int (nI 1)), none] [] (c0 :: zk_Text wc len run :: zk_L 20 tw :: zk_Sh 3 :: zk_D 32 g :: zk_L 200 sn1 :: c6 :: c7 :: c8 :: c9 :: c10 :: c11 :: c12 :: zk_Ch n wc :: zk_I 4 fd1 :: zk_A 4 zk_ga :: zk_I 20 (fr1 0) :: zk_I 20 (fr1 1) :: zk_I 20 (fr1 2) :: zk_I 20 (fr1 3) :: zk_I 4 fe1 :: r) := by
    intro sn1 fd1 fe1 fr1 h1 h2 h3
    refine zr_iload dChances_weigh_22 rfl ?_
    refine zr_aload_n dChances_weigh_24 rfl rfl ?_
    refine zr_getf g_Chances_33 dChances_weigh_25 rfl rfl ?_
    refine zr_icmp_geN (tgt := 111) (by omega) (by omega) dChances_weigh_28 (by decide) (fun h28 => ?_) (fun h28 => ?_)
    ·       exact zr_return dChances_weigh_111 rfl (⟨rfl, sn1, fd1, fr1, fe1, rfl, fun j hj => h1 j (by omega), fun j hj => h2 j (by omega), fun j hj => h3 j (by omega)⟩)
    · refine zr_aload_n dChances_weigh_31 rfl rfl ?_
      refine zr_getf g_Chances_9 dChances_weigh_32 rfl rfl ?_
      refine zr_iload dChances_weigh_35 rfl ?_
      refine zr_aload_n dChances_weigh_37 rfl rfl ?_
      refine zr_iload dChances_weigh_38 rfl ?_
      refine zr_invV (c_Shelf_documentsOf (i := 3) rfl rfl (hok.ok (front := [_, _, _, _, _, _, _, _, _, _, _, _, _, _, _, _, _, _, _, _, _]) rfl) (by decide)) m_Shelf_documentsOf k_Chances_49 v_Shelf_documentsOf rfl rfl dChances_weigh_40 rfl (Nat.le_of_ble_eq_true rfl) (by decide) (Nat.le_of_ble_eq_true rfl) rfl (fun v w2 hp => ?_)
      obtain ⟨rfl, rfl⟩ := hp
      refine ⟨rfl, ?_⟩
      refine zr_iast dChances_weigh_43 rfl (by decide) (by decide) ?_
      refine zr_aload_n dChances_weigh_44 rfl rfl ?_
      refine zr_getf g_Chances_20 dChances_weigh_45 rfl rfl ?_
      refine zr_iload dChances_weigh_48 rfl ?_
      refine zr_aload_n dChances_weigh_50 rfl rfl ?_
      refine zr_iload dChances_weigh_51 rfl ?_
      refine zr_invV (c_Shelf_wordsOf (i := 3) rfl rfl (hok.ok (front := [_, _, _, _, _, _, _, _, _, _, _, _, _, _, _, _, _, _, _, _, _]) rfl) (by decide)) m_Shelf_wordsOf k_Chances_53 v_Shelf_wordsOf rfl rfl dChances_weigh_53 rfl (Nat.le_of_ble_eq_true rfl) (by decide) (Nat.le_of_ble_eq_true rfl) rfl (fun v w2 hp => ?_)
      obtain ⟨rfl, rfl⟩ := hp
      refine ⟨rfl, ?_⟩
      refine zr_iload dChances_weigh_56 rfl ?_
      refine zr_iaddN dChances_weigh_58 ?_
      refine zr_iconst (v := nI 1) dChances_weigh_59 (by decide) ?_
      refine zr_iaddN dChances_weigh_60 ?_
      refine zr_iast dChances_weigh_61 rfl (by decide) (by decide) ?_
      refine zr_iconst (v := nI 0) dChances_weigh_62 (by decide) ?_
      refine zr_istore dChances_weigh_63 (by decide) ?_
      have g1 : ∀ j, j < 2 → (upd fd1 1 (nI (zc_D g dc 1))) j = nI (zc_D g dc j) := fun j hj => by
        by_cases e : j = 1
        · subst e; exact pk_us
        · rw [pk_un e]; exact h1 j (by omega)
      have g2 : ∀ j, j < 2 → (upd fe1 1 (nI (zc_E g dc dn df 1))) j = nI (zc_E g dc dn df j) := fun j hj => by
        by_cases e : j = 1
        · subst e; exact pk_us
        · rw [pk_un e]; exact h2 j (by omega)
      obtain ⟨fd2, hfd2⟩ : ∃ z, z = upd fd1 1 (nI (zc_D g dc 1)) := ⟨_, rfl⟩
      obtain ⟨fe2, hfe2⟩ : ∃ z, z = upd fe1 1 (nI (zc_E g dc dn df 1)) := ⟨_, rfl⟩
      rw [← hfd2] at g1
      rw [← hfe2] at g2
      have key : ∀ k, k ≤ wc → zw_Z G Y_Chances_weigh (zw_R 3 0 0) (fun _ => True) (zw_Q G 0 0 (fun v w2 => v = none ∧ ∃ (sn2 : Nat → Int64) (fd2 : Nat → Int32) (fr2 : Nat → Nat → Int32) (fe2 : Nat → Int32), w2 = (c0 :: zk_Text wc len run :: zk_L 20 tw :: zk_Sh 3 :: zk_D 32 g :: zk_L 200 sn2 :: c6 :: c7 :: c8 :: c9 :: c10 :: c11 :: c12 :: zk_Ch n wc :: zk_I 4 fd2 :: zk_A 4 zk_ga :: zk_I 20 (fr2 0) :: zk_I 20 (fr2 1) :: zk_I 20 (fr2 2) :: zk_I 20 (fr2 3) :: zk_I 4 fe2 :: r) ∧ (∀ j, j < n → fd2 j = nI (zc_D g dc j)) ∧ (∀ j, j < n → fe2 j = nI (zc_E g dc dn df j)) ∧ (∀ j, j < n → ∀ k, k < wc → fr2 j k = nI (zc_T g dc dn df j (tw k) + 1)))) 0 0 65 [some (.ref 14), some (.ref 4), some (.ref 2), some (.int (nI n)), some (.int (nI (zv_cnt (fun d => g d ≠ none) dn df 32 0))), some (.int (nI 1)), some (.int (nI k))] [] (c0 :: zk_Text wc len run :: zk_L 20 tw :: zk_Sh 3 :: zk_D 32 g :: zk_L 200 sn1 :: c6 :: c7 :: c8 :: c9 :: c10 :: c11 :: c12 :: zk_Ch n wc :: zk_I 4 fd2 :: zk_A 4 zk_ga :: zk_I 20 ((va_up fr1 1 (fun j => if j < k then nI (zc_T g dc dn df 1 (tw j) + 1) else fr1 1 j)) 0) :: zk_I 20 ((va_up fr1 1 (fun j => if j < k then nI (zc_T g dc dn df 1 (tw j) + 1) else fr1 1 j)) 1) :: zk_I 20 ((va_up fr1 1 (fun j => if j < k then nI (zc_T g dc dn df 1 (tw j) + 1) else fr1 1 j)) 2) :: zk_I 20 ((va_up fr1 1 (fun j => if j < k then nI (zc_T g dc dn df 1 (tw j) + 1) else fr1 1 j)) 3) :: zk_I 4 fe2 :: r) := by
        refine wz_up wc (fun k hk ih => ?_) ?_
        · refine zr_iload dChances_weigh_65 rfl ?_
          refine zr_aload_n dChances_weigh_67 rfl rfl ?_
          refine zr_getf g_Chances_37 dChances_weigh_68 rfl rfl ?_
          refine zr_icmp_geN (tgt := 105) (by omega) (by omega) dChances_weigh_71 (by decide) (fun h71 => ?_) (fun h71 => ?_)
          · exfalso; omega
          · refine zr_aload_n dChances_weigh_74 rfl rfl ?_
            refine zr_getf g_Chances_17 dChances_weigh_75 rfl rfl ?_
            refine zr_iload dChances_weigh_78 rfl ?_
            refine zr_aaldA dChances_weigh_80 rfl (by decide) (by decide) ?_
            refine zr_iload dChances_weigh_81 rfl ?_
            refine zr_aload_n dChances_weigh_83 rfl rfl ?_
            refine zr_iload dChances_weigh_84 rfl ?_
            refine zr_aload_n dChances_weigh_86 rfl rfl ?_
            refine zr_getf g_Chances_56 dChances_weigh_87 rfl rfl ?_
            refine zr_iload dChances_weigh_90 rfl ?_
            refine zr_lald dChances_weigh_92 rfl (by omega) (by decide) ?_
            refine zr_invV (c_Shelf_timesOf (i := 3) rfl rfl (hok.ok (front := [_, _, _, _, _, _, _, _, _, _, _, _, _, _, _, _, _, _, _, _, _]) rfl) (by decide)) m_Shelf_timesOf k_Chances_60 v_Shelf_timesOf rfl rfl dChances_weigh_93 rfl (Nat.le_of_ble_eq_true rfl) (by decide) (Nat.le_of_ble_eq_true rfl) rfl (fun v w2 hp => ?_)
            obtain ⟨rfl, rfl⟩ := hp
            refine ⟨rfl, ?_⟩
            refine zr_iconst (v := nI 1) dChances_weigh_96 (by decide) ?_
            refine zr_iaddN dChances_weigh_97 ?_
            refine zr_iast dChances_weigh_98 rfl (by omega) (by decide) ?_
            refine zr_wld (w2 := (c0 :: zk_Text wc len run :: zk_L 20 tw :: zk_Sh 3 :: zk_D 32 g :: zk_L 200 sn1 :: c6 :: c7 :: c8 :: c9 :: c10 :: c11 :: c12 :: zk_Ch n wc :: zk_I 4 fd2 :: zk_A 4 zk_ga :: zk_I 20 ((va_up fr1 1 (fun j => if j < (k + 1) then nI (zc_T g dc dn df 1 (tw j) + 1) else fr1 1 j)) 0) :: zk_I 20 ((va_up fr1 1 (fun j => if j < (k + 1) then nI (zc_T g dc dn df 1 (tw j) + 1) else fr1 1 j)) 1) :: zk_I 20 ((va_up fr1 1 (fun j => if j < (k + 1) then nI (zc_T g dc dn df 1 (tw j) + 1) else fr1 1 j)) 2) :: zk_I 20 ((va_up fr1 1 (fun j => if j < (k + 1) then nI (zc_T g dc dn df 1 (tw j) + 1) else fr1 1 j)) 3) :: zk_I 4 fe2 :: r)) (by rw [← zf_upI (d := fun j => nI (zc_T g dc dn df 1 (tw j) + 1))]; rfl) ?_
            refine zr_iinc (v := nI (k + 1)) dChances_weigh_99 rfl (nI_1 _) (by decide) ?_
            refine zr_goto (tgt := 65) dChances_weigh_102 (by decide) ?_
            exact ih
        · refine zr_iload dChances_weigh_65 rfl ?_
          refine zr_aload_n dChances_weigh_67 rfl rfl ?_
          refine zr_getf g_Chances_37 dChances_weigh_68 rfl rfl ?_
          refine zr_icmp_geN (tgt := 105) (by omega) (by omega) dChances_weigh_71 (by decide) (fun h71 => ?_) (fun h71 => ?_)
          · refine zr_iinc (v := nI 2) dChances_weigh_105 rfl (by decide) (by decide) ?_
            refine zr_goto (tgt := 22) dChances_weigh_108 (by decide) ?_
            refine zr_mask [true, true, true, true, true, true, false] (lv2 sn1 fd2 fe2 (va_up fr1 1 (fun j => if j < wc then nI (zc_T g dc dn df 1 (tw j) + 1) else fr1 1 j)) g1 g2 ?_)
            intro j hj k hk
            by_cases e : j = 1
            · subst e; exact if_pos hk
            · exact (congrFun (if_neg e : (va_up fr1 1 (fun j => if j < wc then nI (zc_T g dc dn df 1 (tw j) + 1) else fr1 1 j)) j = fr1 j) k).trans (h3 j (by omega) k hk)
          · exfalso; omega
      refine zr_wld (w2 := (c0 :: zk_Text wc len run :: zk_L 20 tw :: zk_Sh 3 :: zk_D 32 g :: zk_L 200 sn1 :: c6 :: c7 :: c8 :: c9 :: c10 :: c11 :: c12 :: zk_Ch n wc :: zk_I 4 fd2 :: zk_A 4 zk_ga :: zk_I 20 ((va_up fr1 1 (fun j => if j < 0 then nI (zc_T g dc dn df 1 (tw j) + 1) else fr1 1 j)) 0) :: zk_I 20 ((va_up fr1 1 (fun j => if j < 0 then nI (zc_T g dc dn df 1 (tw j) + 1) else fr1 1 j)) 1) :: zk_I 20 ((va_up fr1 1 (fun j => if j < 0 then nI (zc_T g dc dn df 1 (tw j) + 1) else fr1 1 j)) 2) :: zk_I 20 ((va_up fr1 1 (fun j => if j < 0 then nI (zc_T g dc dn df 1 (tw j) + 1) else fr1 1 j)) 3) :: zk_I 4 fe2 :: r)) (by rw [hfd2, hfe2, zf_if0]; rfl) ?_
      exact key 0 (Nat.zero_le wc)
  have lv0 : ∀ (sn1 : Nat → Int64) (fd1 fe1 : Nat → Int32) (fr1 : Nat → Nat → Int32), (∀ j, j < 0 → fd1 j = nI (zc_D g dc j)) → (∀ j, j < 0 → fe1 j = nI (zc_E g dc dn df j)) → (∀ j, j < 0 → ∀ k, k < wc → fr1 j k = nI (zc_T g dc dn df j (tw k) + 1)) → zw_Z G Y_Chances_weigh (zw_R 3 0 0) (fun _ => True) (zw_Q G 0 0 (fun v w2 => v = none ∧ ∃ (sn2 : Nat → Int64) (fd2 : Nat → Int32) (fr2 : Nat → Nat → Int32) (fe2 : Nat → Int32), w2 = (c0 :: zk_Text wc len run :: zk_L 20 tw :: zk_Sh 3 :: zk_D 32 g :: zk_L 200 sn2 :: c6 :: c7 :: c8 :: c9 :: c10 :: c11 :: c12 :: zk_Ch n wc :: zk_I 4 fd2 :: zk_A 4 zk_ga :: zk_I 20 (fr2 0) :: zk_I 20 (fr2 1) :: zk_I 20 (fr2 2) :: zk_I 20 (fr2 3) :: zk_I 4 fe2 :: r) ∧ (∀ j, j < n → fd2 j = nI (zc_D g dc j)) ∧ (∀ j, j < n → fe2 j = nI (zc_E g dc dn df j)) ∧ (∀ j, j < n → ∀ k, k < wc → fr2 j k = nI (zc_T g dc dn df j (tw k) + 1)))) 0 0 22 [some (.ref 14), some (.ref 4), some (.ref 2), some (.int (nI n)), some (.int (nI (zv_cnt (fun d => g d ≠ none) dn df 32 0))), some (.int (nI 0)), none] [] (c0 :: zk_Text wc len run :: zk_L 20 tw :: zk_Sh 3 :: zk_D 32 g :: zk_L 200 sn1 :: c6 :: c7 :: c8 :: c9 :: c10 :: c11 :: c12 :: zk_Ch n wc :: zk_I 4 fd1 :: zk_A 4 zk_ga :: zk_I 20 (fr1 0) :: zk_I 20 (fr1 1) :: zk_I 20 (fr1 2) :: zk_I 20 (fr1 3) :: zk_I 4 fe1 :: r) := by
    intro sn1 fd1 fe1 fr1 h1 h2 h3
    refine zr_iload dChances_weigh_22 rfl ?_
    refine zr_aload_n dChances_weigh_24 rfl rfl ?_
    refine zr_getf g_Chances_33 dChances_weigh_25 rfl rfl ?_
    refine zr_icmp_geN (tgt := 111) (by omega) (by omega) dChances_weigh_28 (by decide) (fun h28 => ?_) (fun h28 => ?_)
    ·       exact zr_return dChances_weigh_111 rfl (⟨rfl, sn1, fd1, fr1, fe1, rfl, fun j hj => h1 j (by omega), fun j hj => h2 j (by omega), fun j hj => h3 j (by omega)⟩)
    · refine zr_aload_n dChances_weigh_31 rfl rfl ?_
      refine zr_getf g_Chances_9 dChances_weigh_32 rfl rfl ?_
      refine zr_iload dChances_weigh_35 rfl ?_
      refine zr_aload_n dChances_weigh_37 rfl rfl ?_
      refine zr_iload dChances_weigh_38 rfl ?_
      refine zr_invV (c_Shelf_documentsOf (i := 3) rfl rfl (hok.ok (front := [_, _, _, _, _, _, _, _, _, _, _, _, _, _, _, _, _, _, _, _, _]) rfl) (by decide)) m_Shelf_documentsOf k_Chances_49 v_Shelf_documentsOf rfl rfl dChances_weigh_40 rfl (Nat.le_of_ble_eq_true rfl) (by decide) (Nat.le_of_ble_eq_true rfl) rfl (fun v w2 hp => ?_)
      obtain ⟨rfl, rfl⟩ := hp
      refine ⟨rfl, ?_⟩
      refine zr_iast dChances_weigh_43 rfl (by decide) (by decide) ?_
      refine zr_aload_n dChances_weigh_44 rfl rfl ?_
      refine zr_getf g_Chances_20 dChances_weigh_45 rfl rfl ?_
      refine zr_iload dChances_weigh_48 rfl ?_
      refine zr_aload_n dChances_weigh_50 rfl rfl ?_
      refine zr_iload dChances_weigh_51 rfl ?_
      refine zr_invV (c_Shelf_wordsOf (i := 3) rfl rfl (hok.ok (front := [_, _, _, _, _, _, _, _, _, _, _, _, _, _, _, _, _, _, _, _, _]) rfl) (by decide)) m_Shelf_wordsOf k_Chances_53 v_Shelf_wordsOf rfl rfl dChances_weigh_53 rfl (Nat.le_of_ble_eq_true rfl) (by decide) (Nat.le_of_ble_eq_true rfl) rfl (fun v w2 hp => ?_)
      obtain ⟨rfl, rfl⟩ := hp
      refine ⟨rfl, ?_⟩
      refine zr_iload dChances_weigh_56 rfl ?_
      refine zr_iaddN dChances_weigh_58 ?_
      refine zr_iconst (v := nI 1) dChances_weigh_59 (by decide) ?_
      refine zr_iaddN dChances_weigh_60 ?_
      refine zr_iast dChances_weigh_61 rfl (by decide) (by decide) ?_
      refine zr_iconst (v := nI 0) dChances_weigh_62 (by decide) ?_
      refine zr_istore dChances_weigh_63 (by decide) ?_
      have g1 : ∀ j, j < 1 → (upd fd1 0 (nI (zc_D g dc 0))) j = nI (zc_D g dc j) := fun j hj => by
        by_cases e : j = 0
        · subst e; exact pk_us
        · rw [pk_un e]; exact h1 j (by omega)
      have g2 : ∀ j, j < 1 → (upd fe1 0 (nI (zc_E g dc dn df 0))) j = nI (zc_E g dc dn df j) := fun j hj => by
        by_cases e : j = 0
        · subst e; exact pk_us
        · rw [pk_un e]; exact h2 j (by omega)
      obtain ⟨fd2, hfd2⟩ : ∃ z, z = upd fd1 0 (nI (zc_D g dc 0)) := ⟨_, rfl⟩
      obtain ⟨fe2, hfe2⟩ : ∃ z, z = upd fe1 0 (nI (zc_E g dc dn df 0)) := ⟨_, rfl⟩
      rw [← hfd2] at g1
      rw [← hfe2] at g2
      have key : ∀ k, k ≤ wc → zw_Z G Y_Chances_weigh (zw_R 3 0 0) (fun _ => True) (zw_Q G 0 0 (fun v w2 => v = none ∧ ∃ (sn2 : Nat → Int64) (fd2 : Nat → Int32) (fr2 : Nat → Nat → Int32) (fe2 : Nat → Int32), w2 = (c0 :: zk_Text wc len run :: zk_L 20 tw :: zk_Sh 3 :: zk_D 32 g :: zk_L 200 sn2 :: c6 :: c7 :: c8 :: c9 :: c10 :: c11 :: c12 :: zk_Ch n wc :: zk_I 4 fd2 :: zk_A 4 zk_ga :: zk_I 20 (fr2 0) :: zk_I 20 (fr2 1) :: zk_I 20 (fr2 2) :: zk_I 20 (fr2 3) :: zk_I 4 fe2 :: r) ∧ (∀ j, j < n → fd2 j = nI (zc_D g dc j)) ∧ (∀ j, j < n → fe2 j = nI (zc_E g dc dn df j)) ∧ (∀ j, j < n → ∀ k, k < wc → fr2 j k = nI (zc_T g dc dn df j (tw k) + 1)))) 0 0 65 [some (.ref 14), some (.ref 4), some (.ref 2), some (.int (nI n)), some (.int (nI (zv_cnt (fun d => g d ≠ none) dn df 32 0))), some (.int (nI 0)), some (.int (nI k))] [] (c0 :: zk_Text wc len run :: zk_L 20 tw :: zk_Sh 3 :: zk_D 32 g :: zk_L 200 sn1 :: c6 :: c7 :: c8 :: c9 :: c10 :: c11 :: c12 :: zk_Ch n wc :: zk_I 4 fd2 :: zk_A 4 zk_ga :: zk_I 20 ((va_up fr1 0 (fun j => if j < k then nI (zc_T g dc dn df 0 (tw j) + 1) else fr1 0 j)) 0) :: zk_I 20 ((va_up fr1 0 (fun j => if j < k then nI (zc_T g dc dn df 0 (tw j) + 1) else fr1 0 j)) 1) :: zk_I 20 ((va_up fr1 0 (fun j => if j < k then nI (zc_T g dc dn df 0 (tw j) + 1) else fr1 0 j)) 2) :: zk_I 20 ((va_up fr1 0 (fun j => if j < k then nI (zc_T g dc dn df 0 (tw j) + 1) else fr1 0 j)) 3) :: zk_I 4 fe2 :: r) := by
        refine wz_up wc (fun k hk ih => ?_) ?_
        · refine zr_iload dChances_weigh_65 rfl ?_
          refine zr_aload_n dChances_weigh_67 rfl rfl ?_
          refine zr_getf g_Chances_37 dChances_weigh_68 rfl rfl ?_
          refine zr_icmp_geN (tgt := 105) (by omega) (by omega) dChances_weigh_71 (by decide) (fun h71 => ?_) (fun h71 => ?_)
          · exfalso; omega
          · refine zr_aload_n dChances_weigh_74 rfl rfl ?_
            refine zr_getf g_Chances_17 dChances_weigh_75 rfl rfl ?_
            refine zr_iload dChances_weigh_78 rfl ?_
            refine zr_aaldA dChances_weigh_80 rfl (by decide) (by decide) ?_
            refine zr_iload dChances_weigh_81 rfl ?_
            refine zr_aload_n dChances_weigh_83 rfl rfl ?_
            refine zr_iload dChances_weigh_84 rfl ?_
            refine zr_aload_n dChances_weigh_86 rfl rfl ?_
            refine zr_getf g_Chances_56 dChances_weigh_87 rfl rfl ?_
            refine zr_iload dChances_weigh_90 rfl ?_
            refine zr_lald dChances_weigh_92 rfl (by omega) (by decide) ?_
            refine zr_invV (c_Shelf_timesOf (i := 3) rfl rfl (hok.ok (front := [_, _, _, _, _, _, _, _, _, _, _, _, _, _, _, _, _, _, _, _, _]) rfl) (by decide)) m_Shelf_timesOf k_Chances_60 v_Shelf_timesOf rfl rfl dChances_weigh_93 rfl (Nat.le_of_ble_eq_true rfl) (by decide) (Nat.le_of_ble_eq_true rfl) rfl (fun v w2 hp => ?_)
            obtain ⟨rfl, rfl⟩ := hp
            refine ⟨rfl, ?_⟩
            refine zr_iconst (v := nI 1) dChances_weigh_96 (by decide) ?_
            refine zr_iaddN dChances_weigh_97 ?_
            refine zr_iast dChances_weigh_98 rfl (by omega) (by decide) ?_
            refine zr_wld (w2 := (c0 :: zk_Text wc len run :: zk_L 20 tw :: zk_Sh 3 :: zk_D 32 g :: zk_L 200 sn1 :: c6 :: c7 :: c8 :: c9 :: c10 :: c11 :: c12 :: zk_Ch n wc :: zk_I 4 fd2 :: zk_A 4 zk_ga :: zk_I 20 ((va_up fr1 0 (fun j => if j < (k + 1) then nI (zc_T g dc dn df 0 (tw j) + 1) else fr1 0 j)) 0) :: zk_I 20 ((va_up fr1 0 (fun j => if j < (k + 1) then nI (zc_T g dc dn df 0 (tw j) + 1) else fr1 0 j)) 1) :: zk_I 20 ((va_up fr1 0 (fun j => if j < (k + 1) then nI (zc_T g dc dn df 0 (tw j) + 1) else fr1 0 j)) 2) :: zk_I 20 ((va_up fr1 0 (fun j => if j < (k + 1) then nI (zc_T g dc dn df 0 (tw j) + 1) else fr1 0 j)) 3) :: zk_I 4 fe2 :: r)) (by rw [← zf_upI (d := fun j => nI (zc_T g dc dn df 0 (tw j) + 1))]; rfl) ?_
            refine zr_iinc (v := nI (k + 1)) dChances_weigh_99 rfl (nI_1 _) (by decide) ?_
            refine zr_goto (tgt := 65) dChances_weigh_102 (by decide) ?_
            exact ih
        · refine zr_iload dChances_weigh_65 rfl ?_
          refine zr_aload_n dChances_weigh_67 rfl rfl ?_
          refine zr_getf g_Chances_37 dChances_weigh_68 rfl rfl ?_
          refine zr_icmp_geN (tgt := 105) (by omega) (by omega) dChances_weigh_71 (by decide) (fun h71 => ?_) (fun h71 => ?_)
          · refine zr_iinc (v := nI 1) dChances_weigh_105 rfl (by decide) (by decide) ?_
            refine zr_goto (tgt := 22) dChances_weigh_108 (by decide) ?_
            refine zr_mask [true, true, true, true, true, true, false] (lv1 sn1 fd2 fe2 (va_up fr1 0 (fun j => if j < wc then nI (zc_T g dc dn df 0 (tw j) + 1) else fr1 0 j)) g1 g2 ?_)
            intro j hj k hk
            by_cases e : j = 0
            · subst e; exact if_pos hk
            · exact (congrFun (if_neg e : (va_up fr1 0 (fun j => if j < wc then nI (zc_T g dc dn df 0 (tw j) + 1) else fr1 0 j)) j = fr1 j) k).trans (h3 j (by omega) k hk)
          · exfalso; omega
      refine zr_wld (w2 := (c0 :: zk_Text wc len run :: zk_L 20 tw :: zk_Sh 3 :: zk_D 32 g :: zk_L 200 sn1 :: c6 :: c7 :: c8 :: c9 :: c10 :: c11 :: c12 :: zk_Ch n wc :: zk_I 4 fd2 :: zk_A 4 zk_ga :: zk_I 20 ((va_up fr1 0 (fun j => if j < 0 then nI (zc_T g dc dn df 0 (tw j) + 1) else fr1 0 j)) 0) :: zk_I 20 ((va_up fr1 0 (fun j => if j < 0 then nI (zc_T g dc dn df 0 (tw j) + 1) else fr1 0 j)) 1) :: zk_I 20 ((va_up fr1 0 (fun j => if j < 0 then nI (zc_T g dc dn df 0 (tw j) + 1) else fr1 0 j)) 2) :: zk_I 20 ((va_up fr1 0 (fun j => if j < 0 then nI (zc_T g dc dn df 0 (tw j) + 1) else fr1 0 j)) 3) :: zk_I 4 fe2 :: r)) (by rw [hfd2, hfe2, zf_if0]; rfl) ?_
      exact key 0 (Nat.zero_le wc)
  show zw_Z G Y_Chances_weigh _ _ _ 0 0 0 [some (.ref 14), some (.ref 4), some (.ref 2), some (.int (nI n)), none, none, none] [] _
  refine zr_aload_n dChances_weigh_0 rfl rfl ?_
  refine zr_iload_n dChances_weigh_1 rfl ?_
  refine zr_putf f_Chances_33 dChances_weigh_2 rfl (Nat.le_of_ble_eq_true rfl) (fun _ => rfl) (fun _ => rfl) ?_
  refine zr_aload_n dChances_weigh_5 rfl rfl ?_
  refine zr_aload_n dChances_weigh_6 rfl rfl ?_
  refine zr_getf g_Chances_40 dChances_weigh_7 rfl rfl ?_
  refine zr_putf f_Chances_37 dChances_weigh_10 rfl (Nat.le_of_ble_eq_true rfl) (fun _ => rfl) (fun _ => rfl) ?_
  refine zr_aload_n dChances_weigh_13 rfl rfl ?_
  refine zr_invV (c_Shelf_differentWords (i := 3) (g := g) rfl rfl rfl (hok.ok (front := [_, _, _, _, _, _, _, _, _, _, _, _, _, _, _, _, _, _, _, _, _]) rfl) (by decide) ht) m_Shelf_differentWords k_Chances_43 v_Shelf_differentWords rfl rfl dChances_weigh_14 rfl (Nat.le_of_ble_eq_true rfl) (by decide) (Nat.le_of_ble_eq_true rfl) rfl (fun v w2 hp => ?_)
  obtain ⟨sn2, rfl, rfl⟩ := hp
  refine ⟨by rfl, ?_⟩
  refine zr_istore dChances_weigh_17 (by decide) ?_
  refine zr_iconst (v := nI 0) dChances_weigh_19 (by decide) ?_
  refine zr_istore dChances_weigh_20 (by decide) ?_
  exact lv0 sn2 fd fe fr (fun j hj => absurd hj (Nat.not_lt_zero j)) (fun j hj => absurd hj (Nat.not_lt_zero j)) (fun j hj => absurd hj (Nat.not_lt_zero j))
