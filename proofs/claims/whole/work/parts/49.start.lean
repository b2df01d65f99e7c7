theorem lq_k9 : Cond.methodLink "WordEvidenceLaw" 9 Y_Law_cell.1 ∈ zw_T := zw_inT (List.mem_of_getElem? (i := 413) (by decide +kernel)) rfl
set_option maxHeartbeats 4000000 in
set_option maxRecDepth 100000 in
theorem lq_I0 {L : Nat} {xs : Nat → Int32} : lq_I ([zk_WE (zf_cls (if 0 < L then xs 0 else 0)), zk_Text 0 0 0, zk_L 20 (fun _ => 0), zk_Sh 3, zk_D 32 (fun _ => none), zk_L 200 (fun _ => 0), zk_Sh 6, zk_D 32 (fun _ => none), zk_L 200 (fun _ => 0), zk_Log 0 0, zk_I 24 (fun _ => 0), zk_I 24 (fun _ => 0), zk_D 24 (fun _ => none), zk_Ch 0 0, zk_I 4 (fun _ => 0), zk_A 4 zk_ga, zk_I 20 ((fun _ _ => 0) 0), zk_I 20 ((fun _ _ => 0) 1), zk_I 20 ((fun _ _ => 0) 2), zk_I 20 ((fun _ _ => 0) 3), zk_I 4 (fun _ => 0), zk_P 21, zk_L 12 (fun _ => 0), zk_P 23, zk_L 12 (fun _ => 0), zk_Mo (zf_cls (if 0 < L then xs 0 else 0)) 0 0 0, zk_I 40 (fun _ => 0), zk_L 20 (fun _ => 0), zk_I 160 (fun _ => 0), zk_I 64 (fun _ => 0), zk_I 64 (fun _ => 0), zk_L 1280 (fun _ => 0), zk_I 24 (fun _ => 0), zk_I 24 (fun _ => 0), zk_I 24 (fun _ => 0), zk_I 24 (fun _ => 0), zk_L 480 (fun _ => 0), zk_I 50 (fun _ => 0), zk_I 50 (fun _ => 0)]) := 
  ⟨(zf_cls (if 0 < L then xs 0 else 0)), 0, 0, 0, 0, 0, (fun _ => 0), (fun _ => 0), (fun _ => 0), (fun _ => 0), (fun _ => 0), (fun _ => 0), (fun _ => 0), (fun _ => 0), (fun _ => 0), (fun _ => 0), (fun _ => 0), (fun _ => 0), (fun _ => 0), (fun _ => 0), (fun _ => 0), (fun _ => 0), (fun _ => 0), (fun _ => none), (fun _ => none), (fun _ => none), (fun _ => 0), (fun _ => 0), (fun _ => 0), (fun _ => 0), (fun _ => 0), (fun _ => 0), (fun _ => 0), (fun _ => 0), (fun _ => 0), (fun _ => 0), (fun _ => 0), (fun _ => 0), (fun _ => 0), (fun _ => 0), (fun _ _ => 0), (fun _ _ => 0), (fun _ _ => 0), (fun _ _ => 0), (fun _ _ => []), (fun _ _ => []), (fun _ _ => []), [], rfl, (zf_cls_in _).1, (zf_cls_in _).2.1, Nat.zero_le 40, (fun j hj => absurd hj (Nat.not_lt_zero j)), (fun j hj => absurd hj (Nat.not_lt_zero j)), (fun j hj => absurd hj (Nat.not_lt_zero j)), (fun id hid => ⟨rfl, Nat.zero_le 20, fun _ => ⟨rfl, rfl⟩, fun q hq => nomatch hq⟩), (fun id hid => ⟨rfl, Nat.zero_le 20, fun _ => ⟨rfl, rfl⟩, fun q hq => nomatch hq⟩), Nat.zero_le 24, Nat.zero_le 24, (fun j hj => absurd hj (Nat.not_lt_zero j)), (fun j hj => absurd hj (Nat.not_lt_zero j)), (fun j hj => absurd hj (Nat.not_lt_zero j)), (fun j hj => absurd hj (Nat.not_lt_zero j)), (fun j hj => absurd hj (Nat.not_lt_zero j)), (fun j hj => absurd hj (Nat.not_lt_zero j)), (fun j hj => absurd hj (Nat.not_lt_zero j)), (fun k hk => by
    have e : k = 0 := by omega
    subst e
    show zs_size (fun _ => none) 32 ≤ 10
    decide), fun id hid => ⟨fun _ => rfl, fun _ => rfl⟩⟩
set_option maxHeartbeats 4000000 in
set_option maxRecDepth 100000 in
theorem lq_start {G : zw_G} {nm : String} {L : Nat} {xs : Nat → Int32} (hL : L ≤ 1537) : lq_Z G nm L xs 0 0 0 [some (.ref 0), none, none, none] [] [] := by
  refine zr_new nw_Law_7 dLaw_law_0 ⟨Nat.le_of_ble_eq_true rfl, Nat.le_of_ble_eq_true rfl⟩ ?_
  refine zr_wld (w2 := [.inr (0, [.int 0, .null, .null, .null, .null, .null])]) rfl ?_
  refine zr_top (v2 := .ref 1) rfl ?_
  refine zr_dup dLaw_law_3 rfl ?_
  refine zr_aload_n dLaw_law_4 rfl rfl ?_
  refine zr_iconst (v := nI 0) dLaw_law_5 (by decide) ?_
  refine zr_invSE (rest := [.ref 1, .ref 1]) (fun s h => h.2) (c_Law_cell (by omega)) m_Law_cell lq_k9 s_Law_cell dLaw_law_6 rfl (Nat.le_of_ble_eq_true rfl) ⟨Nat.le_of_ble_eq_true rfl, Nat.le_of_ble_eq_true rfl, Nat.le_of_ble_eq_true rfl, Nat.le_of_ble_eq_true rfl⟩ (Nat.le_of_ble_eq_true rfl) rfl (fun v w2 hp => ?_)
  obtain ⟨rfl, rfl⟩ := hp
  refine ⟨rfl, ?_⟩
  refine zr_invI c_WE_init m_WE_init k_Law_15 i_WE_init rfl dLaw_law_9 rfl (Nat.le_of_ble_eq_true rfl) ⟨Nat.le_of_ble_eq_true rfl, Nat.le_of_ble_eq_true rfl, Nat.le_of_ble_eq_true rfl, Nat.le_of_ble_eq_true rfl⟩ (Nat.le_of_ble_eq_true rfl) rfl (fun v w2 hp => ?_)
  obtain ⟨rfl, rfl⟩ := hp
  refine ⟨rfl, ?_⟩
  refine zr_astore_n dLaw_law_12 (Nat.le_of_ble_eq_true rfl) rfl ?_
  refine zr_new nw_Law_18 dLaw_law_13 ⟨Nat.le_of_ble_eq_true rfl, Nat.le_of_ble_eq_true rfl⟩ ?_
  refine zr_wld (w2 := [zk_WE (zf_cls (if 0 < L then xs 0 else 0)), zk_Text 0 0 0, zk_L 20 (fun _ => 0), zk_Sh 3, zk_D 32 (fun _ => none), zk_L 200 (fun _ => 0), zk_Sh 6, zk_D 32 (fun _ => none), zk_L 200 (fun _ => 0), zk_Log 0 0, zk_I 24 (fun _ => 0), zk_I 24 (fun _ => 0), zk_D 24 (fun _ => none), zk_Ch 0 0, zk_I 4 (fun _ => 0), zk_A 4 zk_ga, zk_I 20 ((fun _ _ => 0) 0), zk_I 20 ((fun _ _ => 0) 1), zk_I 20 ((fun _ _ => 0) 2), zk_I 20 ((fun _ _ => 0) 3), zk_I 4 (fun _ => 0), zk_P 21, zk_L 12 (fun _ => 0), zk_P 23, zk_L 12 (fun _ => 0), .inr (7, [.int 0, .null, .int 0, .null, .null, .int 0, .null, .null, .null, .int 0, .null, .null, .null, .null, .null, .null, .null])]) rfl ?_
  refine zr_top (v2 := .ref 26) rfl ?_
  refine zr_dup dLaw_law_16 rfl ?_
  refine zr_aload_n dLaw_law_17 rfl rfl ?_
  refine zr_iconst (v := nI 0) dLaw_law_18 (by decide) ?_
  refine zr_invSE (rest := [.ref 26, .ref 26]) (fun s h => h.2) (c_Law_cell (by omega)) m_Law_cell lq_k9 s_Law_cell dLaw_law_19 rfl (Nat.le_of_ble_eq_true rfl) ⟨Nat.le_of_ble_eq_true rfl, Nat.le_of_ble_eq_true rfl, Nat.le_of_ble_eq_true rfl, Nat.le_of_ble_eq_true rfl⟩ (Nat.le_of_ble_eq_true rfl) rfl (fun v w2 hp => ?_)
  obtain ⟨rfl, rfl⟩ := hp
  refine ⟨rfl, ?_⟩
  refine zr_invI c_Mo_init m_Mo_init k_Law_20 i_Mo_init rfl dLaw_law_22 rfl (Nat.le_of_ble_eq_true rfl) ⟨Nat.le_of_ble_eq_true rfl, Nat.le_of_ble_eq_true rfl, Nat.le_of_ble_eq_true rfl, Nat.le_of_ble_eq_true rfl⟩ (Nat.le_of_ble_eq_true rfl) rfl (fun v w2 hp => ?_)
  obtain ⟨rfl, rfl⟩ := hp
  refine ⟨rfl, ?_⟩
  refine zr_astore_n dLaw_law_25 (Nat.le_of_ble_eq_true rfl) rfl ?_
  refine zr_iconst (v := nI 1) dLaw_law_26 (by decide) ?_
  refine zr_istore_n dLaw_law_27 (Nat.le_of_ble_eq_true rfl) ?_
  exact lq_loop hL L 1 _ _ _ (by omega) (by omega) lq_I0 (Nat.le_of_ble_eq_true rfl) (Nat.le_of_ble_eq_true rfl)
set_option maxHeartbeats 4000000 in
set_option maxRecDepth 100000 in
theorem lq_known {s : State} {A : Array Value} (hts : ∀ w ∈ lw_tbl, w.before A s = true) : ∃ (dC : Nat → ClassId) (dI : Nat → Nat → Nat), ∀ (k : Nat) (q : vw_C), vwCl[k]? = some q → u_Kn s q.1 q.2.1 q.2.2 (dC k) (dI k) := by
  obtain ⟨c0, iS0, hKn0⟩ := u_known (C := "WordEvidence") (T := T_WE) (N := 6) (n := 6) hts in_WE (hts (.instantiable "WordEvidence" 6) (by decide +kernel))
  obtain ⟨c1, iS1, hKn1⟩ := u_known (C := "WordEvidence$Text") (T := T_Text) (N := 4) (n := 4) hts in_Text (hts (.instantiable "WordEvidence$Text" 4) (by decide +kernel))
  obtain ⟨c2, iS2, hKn2⟩ := u_known (C := "WordEvidence$Shelf") (T := T_Shelf) (N := 2) (n := 2) hts in_Shelf (hts (.instantiable "WordEvidence$Shelf" 2) (by decide +kernel))
  obtain ⟨c3, iS3, hKn3⟩ := u_known (C := "WordEvidence$Log") (T := T_Log) (N := 5) (n := 5) hts in_Log (hts (.instantiable "WordEvidence$Log" 5) (by decide +kernel))
  obtain ⟨c4, iS4, hKn4⟩ := u_known (C := "WordEvidence$Chances") (T := T_Chances) (N := 7) (n := 7) hts in_Chances (hts (.instantiable "WordEvidence$Chances" 7) (by decide +kernel))
  obtain ⟨c5, iS5, hKn5⟩ := u_known (C := "WordEvidence$Product") (T := T_Product) (N := 1) (n := 1) hts in_Product (hts (.instantiable "WordEvidence$Product" 1) (by decide +kernel))
  obtain ⟨c6, iS6, hKn6⟩ := u_known (C := "WordEvidence$Document") (T := T_Document) (N := 2) (n := 2) hts in_Document (hts (.instantiable "WordEvidence$Document" 2) (by decide +kernel))
  obtain ⟨c7, iS7, hKn7⟩ := u_known (C := "WordEvidenceModel") (T := T_Mo) (N := 17) (n := 17) hts in_Mo (hts (.instantiable "WordEvidenceModel" 17) (by decide +kernel))
  refine ⟨fun k => if k = 0 then c0 else if k = 1 then c1 else if k = 2 then c2 else if k = 3 then c3 else if k = 4 then c4 else if k = 5 then c5 else if k = 6 then c6 else c7, fun k => if k = 0 then iS0 else if k = 1 then iS1 else if k = 2 then iS2 else if k = 3 then iS3 else if k = 4 then iS4 else if k = 5 then iS5 else if k = 6 then iS6 else iS7, ?_⟩
  intro k q hq
  match k, hq with
  | 0, hq => cases hq; exact hKn0
  | 1, hq => cases hq; exact hKn1
  | 2, hq => cases hq; exact hKn2
  | 3, hq => cases hq; exact hKn3
  | 4, hq => cases hq; exact hKn4
  | 5, hq => cases hq; exact hKn5
  | 6, hq => cases hq; exact hKn6
  | 7, hq => cases hq; exact hKn7
  | k + 8, hq => simp [vwCl] at hq
theorem lq_arr {s : State} {A : Array Value} (hts : ∀ w ∈ zw_T, w.before A s = true) : ∃ (cA : Nat → ClassId), ∀ (k : Nat) (q : ClassId × FieldType), [(cA 0, FieldType.int), (cA 1, .long), (cA 2, .object "WordEvidence$Document"), (cA 3, .array .int)][k]? = some q → ArrOfT s q.1 q.2 ∧ va_RA s q.1 q.2 := by
  obtain ⟨a0, k0, p0, f0, g0, h0⟩ := Cond.arrayClass_spec (hts _ t_arrI)
  obtain ⟨a1, k1, p1, f1, g1, h1⟩ := Cond.arrayClass_spec (hts _ t_arrL)
  obtain ⟨p2, a2, k2, e2, -, g2, h2, f2⟩ := Cond.arrayOver_spec (hts _ t_aoD)
  obtain ⟨p3, a3, k3, e3, -, g3, h3, f3⟩ := arrayOverA_spec (hts _ t_aoA)
  refine ⟨fun k => if k = 0 then a0 else if k = 1 then a1 else if k = 2 then a2 else a3, ?_⟩
  intro k q hq
  match k, hq with
  | 0, hq => cases hq; exact ⟨fun N z => ⟨(fun k h => by cases h), k0, g0, p0, h0⟩, f0⟩
  | 1, hq => cases hq; exact ⟨fun N z => ⟨(fun k h => by cases h), k1, g1, p1, h1⟩, f1⟩
  | 2, hq => cases hq; exact ⟨fun N z => ⟨(fun k h => by cases h), k2, g2, p2, h2⟩, k2, p2, g2, h2, e2, f2⟩
  | 3, hq => cases hq; exact ⟨fun N z => ⟨(fun k h => by cases h), k3, g3, p3, h3⟩, f3⟩
  | k + 4, hq => simp at hq
set_option maxHeartbeats 4000000 in
set_option maxRecDepth 100000 in
/-- YOUR PART: from the entry, for every script of at most 1537 ints, the law comes to its end with true -/
theorem whole_start {p : Program} {e : Env} {s : State} {m : MethodId} {below : List Frame} {meth : Method} {c : Code} (l : Launch) {b L : Nat} {xs : Nat → Int32} (hL : L ≤ 1537) (C0 : lw_At p s m meth c b L xs) : W p l e room_1 s m #[Value.ref b] below meth c s.heap [] 0 0 (lw_Z below #[Value.ref b] s) (entryFrame m ([Value.ref b] : List Value).toArray 4) := by
  obtain ⟨hx, hb, hr, hml, hown, hts, hX, hbl, hlocks, hgv⟩ := id C0
  have hT : ∀ w ∈ zw_T, w.before #[Value.ref b] s = true := fun w hw => hts w (List.mem_filter.mp hw).1
  obtain ⟨dC, dI, hKc⟩ := lq_known hts
  obtain ⟨cA, hKa⟩ := lq_arr hT
  have hl := lv_entry ([Value.ref b]) (n := 4) (Nat.le_of_ble_eq_true rfl)
  rw [lg_entry_eq]
  have Z : lq_Z (l, (dC, dI), cA, b, s.heap.size) meth.name L xs 0 0 0 (zw_in 4 [.ref 0]) [] [] := lq_start hL
  have K := Z p e s m #[Value.ref b] below meth c s.heap [] _ ⟨hx, hb, hml, hr, hlocks, rfl, hown, hT, ⟨hKc, hKa⟩, Nat.le_refl _, rfl, hX, hbl, Nat.le_refl _⟩ ⟨rfl, fun k q h => by simp [zw_w] at h, va_S.rf, zw_L.entry (As := [.ref 0]) hl⟩
  intro T hT1 X
  obtain ⟨t, a1, b1⟩ := K T hT1 X
  exact ⟨t, a1, b1 rfl⟩
