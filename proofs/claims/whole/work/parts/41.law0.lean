/-! the law's own rows: its script, its method cell -/
def lq_E2 (G : zw_G) (L : Nat) (xs : Nat → Int32) (s : State) : Prop := va_X G.2.2.2.1 L xs s s.heap ∧ G.2.2.2.1 < G.2.2.2.2 ∧ G.2.2.2.2 ≤ s.heap.size
def lq_E (G : zw_G) (L : Nat) (xs : Nat → Int32) (s : State) : Prop := s.heap.size = G.2.2.2.2 ∧ lq_E2 G L xs s
section LQ
variable {G : zw_G} {Y : zw_Y} {R : Room} {E : State → Prop} {Qf : zw_Qt} {κ σ pc : Nat} {ls : List (Option Value)} {st : List Value} {w : zw_W} {L : Nat} {xs : Nat → Int32}
theorem zr_sld {j : Nat} (hE : ∀ s, E s → lq_E2 G L xs s) (d : decode Y.2.1 pc = .ok (.iaload, 1)) (hj : j < L) (hL : L < 2 ^ 31) (kk : zw_Z G Y R E Qf κ σ (pc + 1) ls (.int (xs j) :: st) w) : zw_Z G Y R E Qf κ σ pc ls (.int (nI j) :: .ref 0 :: st) w := by
  intro p e s m args below meth c H locs ls' F N
  obtain ⟨hx, hb, -, -, -, -, -, -, -, -, hEs⟩ := id F
  obtain ⟨e1, e2, e3⟩ := hE s hEs
  refine va_sld (A := fun q => G.2.2.2.2 ≤ q) hx hb e1 (Nat.lt_of_lt_of_le e2 e3) (Nat.not_le.mpr e2) N.2.2.1 (vp_in_nI hj hL) d ?_
  rw [nI_clamp (Nat.lt_trans hj hL)]
  exact kk p e s m args below meth c H locs ls' F N
theorem zr_slen (hE : ∀ s, E s → lq_E2 G L xs s) (d : decode Y.2.1 pc = .ok (.arraylength, 1)) (kk : zw_Z G Y R E Qf κ σ (pc + 1) ls (.int (nI L) :: st) w) : zw_Z G Y R E Qf κ σ pc ls (.ref 0 :: st) w := by
  intro p e s m args below meth c H locs ls' F N
  obtain ⟨hx, hb, -, -, -, -, -, -, -, -, hEs⟩ := id F
  obtain ⟨e1, e2, e3⟩ := hE s hEs
  exact va_slen (A := fun q => G.2.2.2.2 ≤ q) hx hb e1 (Nat.lt_of_lt_of_le e2 e3) (Nat.not_le.mpr e2) N.2.2.1 d (kk p e s m args below meth c H locs ls' F N)
theorem zw_metE {d mc ms : Nat} {As : List Value} {P : Option Value → zw_W → Prop} (hy : plainName Y.1.cls = true) (hlen : (zw_sp As).length ≤ Y.2.2.1) (h : zw_Z G Y (zw_R d mc ms) (lq_E2 G L xs) (zw_Q G mc ms P) 0 0 0 (zw_in Y.2.2.1 As) [] w) :
    Met G.1 Y.1 [Cond.code Y.1 Y.2.1 Y.2.2.1 Y.2.2.2] (zw_R d mc ms) (va_Pc (As.map (zw_v G)) (fun U => zw_Pre G w U ∧ lq_E2 G L xs U)) (zw_q G P) mc ms (fun q => G.2.2.2.2 ≤ q) := by
  refine Met.ofW (cc := Y.2.1) (maxL := Y.2.2.1) (ret := Y.2.2.2) hy rfl ?_
  intro p e s m args below meth c s₁ B hml hv
  obtain ⟨rfl, ⟨hT, hK, hz, hP⟩, hE⟩ := hv
  have hl := lv_entry (As.map (zw_v G)) (n := Y.2.2.1) (by rw [zw_sp_len]; exact hlen)
  rw [lg_entry_eq]
  exact h p e s m _ below meth c s.heap [] _ ⟨B.exec, B.bytes, hml, B.returns, B.notSynchronized, (name_of_methodNamed B.named B.method).1, findClass_of_methodNamed B.named, zw_T_warm (State.WarmedH.refl s) hT, hK, by omega, hE⟩ ⟨by omega, hP, va_S.rf, zw_L.entry hl⟩
variable {Y2 : zw_Y} {n d mc ms idx : Nat} {As rest : List Value} {P : Option Value → zw_W → Prop}
theorem zr_invSE (hE : ∀ s, E s → lq_E2 G L xs s) (hM : zw_Z G Y2 (zw_R d mc ms) (lq_E2 G L xs) (zw_Q G mc ms P) 0 0 0 (zw_in Y2.2.2.1 As) [] w) (hy : zw_y Y2 n) (hk : Cond.methodLink Y.1.cls idx Y2.1 ∈ zw_T) (hv : Cond.static Y2.1 ∈ zw_T) (dg : decode Y.2.1 pc = .ok (.invokestatic idx, 3)) (hn : As.length = n) (hsp : (zw_sp As).length ≤ Y2.2.2.1) (hR : zw_ck R d Y2.2.2.1 κ σ mc ms) (hrest : (rest.map fun v => v.category).sum ≤ 8) (hst : As.reverse ++ rest = st)
    (kk : ∀ (v : Option Value) (w2 : zw_W), P v w2 → w2.length = w.length + mc ∧ zw_Z G Y R E Qf (κ + mc) (σ + ms) (pc + 3) ls (zw_push v rest) w2) : zw_Z G Y R E Qf κ σ pc ls st w := by
  intro p e s m args below meth c H locs ls' F N T hT X
  obtain ⟨hx, hb, hml, -, -, -, hown, hts, hK, hbs, hEs⟩ := id F
  obtain ⟨e1, e2, e3⟩ := hE s hEs
  have hz := zw_size hbs N hT X
  have hMet := zw_metE hy.2.2.1 hsp hM
  have hp0 := zw_preS (As := As.map (zw_v G)) hts hK hz N.2.1
  have hkeep : H[G.2.2.2.1]? = s.heap[G.2.2.2.1]? := N.2.2.1.2.1 _ (Nat.lt_of_lt_of_le e2 e3) (Nat.not_le.mpr e2)
  have hp : PreS s H (va_Pc (As.map (zw_v G)) (fun U => zw_Pre G w U ∧ lq_E2 G L xs U)) (As.map (zw_v G)) := ⟨fun a U g mk q => by
      obtain ⟨q0, q1, q2, q3, q4⟩ := q
      have hb0 := zw_blind (G := G) (w := w) (av := As.map (zw_v G)) a U g mk ⟨q0, q1⟩
      exact ⟨q0, hb0.2, va_X.moved (u := U) (U := U.calling g mk a) (Vm.Alike.refl U.vm) q2, q3, q4⟩, fun U hU hW => ⟨rfl, (hp0.2 U hU hW).2, va_X.moved hW.alike (by rw [hU]; exact e1.kept hkeep), e2, by rw [hU, hz]; exact Nat.le_add_right _ _⟩⟩
  have hs : st.map (zw_v G) = (As.map (zw_v G)).reverse ++ rest.map (zw_v G) := by rw [← hst, List.map_append, List.map_reverse]
  have fin : ∀ (v : Option Value) (w2 : zw_W) (H1 : Heap) (l1 : List Loc), P v w2 → va_P G.2.1 vwCl (zw_w G w2) H1 → va_S (fun q => G.2.2.2.2 ≤ q) s.heap H1 l1 → W p G.1 e R s m args below meth c H1 l1 (κ + mc) (σ + ms) (Qf below args s) (F0 m (pc + 3) ls' ((v.map (zw_v G)).toList ++ rest.map (zw_v G))) := fun v w2 H1 l1 hpv hP hS => by
    obtain ⟨g1, g2⟩ := kk v w2 hpv
    have := g2 p e s m args below meth c H1 l1 ls' F ⟨by have := N.1; omega, hP, hS, N.2.2.2⟩
    cases v <;> exact this
  exact zw_back (va_runS (Ts := zw_T) (nL := Y.2.2.1) ⟨hx, hb, hml, hown, hts⟩ hMet ⟨⟨rfl, rfl, hR.1, hR.2.1, zw_words hy hts, List.mem_singleton.mpr rfl, hts _ hy.1, hts _ hy.2.1, hy.2.2.2.1, zw_npar hy, hts _ hk⟩, hts _ hv⟩ hp rfl (by rw [List.length_map]; exact hn) N.2.2.2.1 hs (zw_room hrest) dg ⟨hR.2.2.1, hR.2.2.2⟩) N.2.2.1 fin T hT X
end LQ
set_option maxHeartbeats 4000000 in
theorem c_Law_cell {G : zw_G} {L : Nat} {xs : Nat → Int32} {w : zw_W} (hL : L < 2 ^ 31) : zw_Z G Y_Law_cell (zw_R 0 0 0) (lq_E2 G L xs) (zw_Q G 0 0 (zw_is (some (.int (if 0 < L then xs 0 else 0))) w)) 0 0 0 (zw_in Y_Law_cell.2.2.1 [.ref 0, .int (nI 0)]) [] w := by
  show zw_Z G Y_Law_cell _ _ _ 0 0 0 [some (.ref 0), some (.int (nI 0))] [] _
  refine zr_iload_n dLaw_cell_0 rfl ?_
  refine zr_aload_n dLaw_cell_1 rfl rfl ?_
  refine zr_slen (fun s h => h) dLaw_cell_2 ?_
  refine zr_icmp_geN (tgt := 12) (by omega) hL dLaw_cell_3 (by decide) (fun h3 => ?_) (fun h3 => ?_)
  · refine zr_iconst (v := 0) dLaw_cell_12 (by decide) ?_
    exact zr_ireturn dLaw_cell_13 rfl rfl ⟨congrArg (fun x => some (Value.int x)) (if_neg (by omega)).symm, rfl⟩
  · refine zr_aload_n dLaw_cell_6 rfl rfl ?_
    refine zr_iload_n dLaw_cell_7 rfl ?_
    refine zr_sld (fun s h => h) dLaw_cell_8 h3 hL ?_
    refine zr_goto (tgt := 13) dLaw_cell_9 (by decide) ?_
    exact zr_ireturn dLaw_cell_13 rfl rfl ⟨congrArg (fun x => some (Value.int x)) (if_pos h3).symm, rfl⟩
/-- the law as a method of the machine of worlds; nm: its name -/
abbrev lq_Y (nm : String) : zw_Y := (⟨"WordEvidenceLaw", nm, "([I)Z"⟩, code, 4, ret)
def lq_Q (G : zw_G) : zw_Qt := fun below args s t => args = #[Value.ref G.2.2.2.1] → lw_Z below args s t
abbrev lq_Z (G : zw_G) (nm : String) (L : Nat) (xs : Nat → Int32) (κ σ pc : Nat) (ls : List (Option Value)) (st : List Value) (w : zw_W) : Prop := zw_Z G (lq_Y nm) room_1 (lq_E G L xs) (lq_Q G) κ σ pc ls st w
theorem lq_ret {G : zw_G} {nm : String} {L : Nat} {xs : Nat → Int32} {κ σ pc : Nat} {ls : List (Option Value)} {w : zw_W} (hκ : κ ≤ 716553) (hσ : σ ≤ 6952589) (d : decode code pc = .ok (.ireturn, 1)) : lq_Z G nm L xs κ σ pc ls [.int (nI 1)] w := by
  intro p e s m args below meth c H locs ls' F N
  obtain ⟨hx, hb, -, hr, hlk, -, -, -, -, -, hEs⟩ := id F
  by_cases ha : args = #[Value.ref G.2.2.2.1]
  · subst ha
    refine va_forget (fun q hq => by rw [hEs.1]; exact N.2.2.1.2.2 q hq) ?_
    refine W.widen hκ hσ ?_
    intro T hT X
    obtain ⟨t, a1, b1⟩ := lw_ret hx hb hr hlk d T hT X
    exact ⟨t, a1, fun _ => b1⟩
  · intro T hT X
    exact ⟨_, Steps.refl _, fun h => absurd h ha⟩
