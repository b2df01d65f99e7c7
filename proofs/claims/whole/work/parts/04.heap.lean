section ZH
variable {G : zw_G} {Y : zw_Y} {R : Room} {E : State → Prop} {Qf : zw_Qt} {κ σ pc : Nat} {ls : List (Option Value)} {st : List Value} {w : zw_W}
/-- what the tables say of a class of the worlds -/
def zw_cf (ci : Nat) (C : String) (T : u_T) (N : Nat) : Prop := vwCl[ci]? = some (C, T, N) ∧ (∀ x ∈ u_ws C T N, x ∈ zw_T) ∧ (∃ ty0 : Nat → FieldType, ∀ k, k < N → parseFieldDescriptor (T k).2.2.1 = some (ty0 k)) ∧ ∀ a, a < N → ∀ b, b < N → a ≠ b → (T a).2.1 ≠ (T b).2.1
/-- what they say of an entry of the pool that names a field: the k-th of the class ci -/
def zw_fl (own : String) (idx ci k : Nat) (ty : FieldType) (fin : Bool) : Prop := ∃ (C : String) (T : u_T) (N : Nat), zw_cf ci C T N ∧ k < N ∧ (Cond.fieldLink own idx (T k).1 (T k).2.1 (T k).2.2.1 ∈ zw_T ∨ ∃ host, Cond.fieldLinkNest own idx (T k).1 (T k).2.1 (T k).2.2.1 host ∈ zw_T) ∧ (T k).2.2.2 = fin ∧ parseFieldDescriptor (T k).2.2.1 = some ty ∧ (fin = true → (T k).1 = own ∧ Cond.fieldLink own idx (T k).1 (T k).2.1 (T k).2.2.1 ∈ zw_T)
def zw_fg (own : String) (idx ci k : Nat) : Prop := ∃ (C : String) (T : u_T) (N : Nat), zw_cf ci C T N ∧ k < N ∧ (Cond.fieldLink own idx (T k).1 (T k).2.1 (T k).2.2.1 ∈ zw_T ∨ ∃ host, Cond.fieldLinkNest own idx (T k).1 (T k).2.1 (T k).2.2.1 host ∈ zw_T)
theorem zr_getf {idx ci k i : Nat} {fs : List Value} {v : Value} (hf : zw_fg Y.1.cls idx ci k) (d : decode Y.2.1 pc = .ok (.getfield idx, 3)) (he : w[i]? = some (.inr (ci, fs))) (hv : fs[k]? = some v) (kk : zw_Z G Y R E Qf κ σ (pc + 3) ls (v :: st) w) : zw_Z G Y R E Qf κ σ pc ls (.ref (i + 1) :: st) w := by
  intro p e s m args below meth c H locs ls' F N
  obtain ⟨C, T, n, ⟨hc, hin, -, -⟩, hk, hl⟩ := hf
  obtain ⟨hx, hb, -, -, -, -, hown, hts, hK, -, -⟩ := id F
  have hv' : (fs.map (zw_v G))[k]? = some (zw_v G v) := by rw [List.getElem?_map, hv]; rfl
  rcases hl with hl | ⟨host, hl⟩
  · exact va_get hx hb hts hin hown hK N.2.1 i (zw_at he) hc k hk (hts _ hl) (fun _ h => h) hv' d (kk p e s m args below meth c H locs ls' F N)
  · exact va_getN hx hb hts hin hown hK N.2.1 i (zw_at he) hc k hk (hts _ hl) (fun _ h => h) hv' d (kk p e s m args below meth c H locs ls' F N)
theorem zw_setf {i ci k : Nat} {fs : List Value} {v : Value} : zw_w G (w.set i (.inr (ci, fs.set k v))) = (zw_w G w).set i (G.2.2.2.2 + i, .inr (ci, (fs.map (zw_v G)).set k (zw_v G v))) := by
  rw [zw_set, ← List.map_set]
  rfl
theorem zw_N.put {n : Nat} {s : State} {H H1 : Heap} {locs l1 : List Loc} {ls' : Array Slot} {i : Nat} {x : zw_C} (N : zw_N G n κ ls w s H locs ls') (hP : va_P G.2.1 vwCl ((zw_w G w).set i (G.2.2.2.2 + i, zw_e G x)) H1) (hS : va_S (fun q => G.2.2.2.2 ≤ q) s.heap H1 l1) : zw_N G n κ ls (w.set i x) s H1 l1 ls' :=
  ⟨by rw [List.length_set]; exact N.1, by rw [zw_set]; exact hP, hS, N.2.2.2⟩
theorem zr_putf {idx ci k i : Nat} {ty : FieldType} {fs : List Value} {v : Value} (hf : zw_fl Y.1.cls idx ci k ty false) (d : decode Y.2.1 pc = .ok (.putfield idx, 3)) (he : w[i]? = some (.inr (ci, fs))) (hl : k < fs.length) (hn : ∀ G : zw_G, narrow ty (zw_v G v) = zw_v G v) (hft : ∀ G : zw_G, fits ty (zw_v G v) = true) (kk : zw_Z G Y R E Qf κ σ (pc + 3) ls st (w.set i (.inr (ci, fs.set k v)))) : zw_Z G Y R E Qf κ σ pc ls (v :: .ref (i + 1) :: st) w := by
  intro p e s m args below meth c H locs ls' F N
  obtain ⟨C, T, n, ⟨hc, hin, ⟨ty0, hty⟩, hnm⟩, hk, hlk, hfin, hd, -⟩ := hf
  obtain ⟨hx, hb, -, -, -, -, hown, hts, hK, -, -⟩ := id F
  have hl' : k < (fs.map (zw_v G)).length := by rw [List.length_map]; exact hl
  have go : ∀ (H1 : Heap) (l1 : List Loc), va_P G.2.1 vwCl ((zw_w G w).set i (G.2.2.2.2 + i, .inr (ci, (fs.map (zw_v G)).set k (zw_v G v)))) H1 → va_S (fun q => G.2.2.2.2 ≤ q) s.heap H1 l1 → W p G.1 e R s m args below meth c H1 l1 κ σ (Qf below args s) (F0 m (pc + 3) ls' (st.map (zw_v G))) := fun H1 l1 hP hS =>
    kk p e s m args below meth c H1 l1 ls' F ⟨by rw [List.length_set]; exact N.1, by rw [zw_setf]; exact hP, hS, N.2.2.2⟩
  rcases hlk with hlk | ⟨host, hlk⟩
  · exact va_put hx hb hts hin ty0 hty hnm hown hK N.2.1 zw_D N.2.2.1 i (zw_at he) hc k hk (hts _ hlk) (fun _ h => h) hfin hd (hn G) (hft G) hl' d (fun H1 l1 hP _ hS => go H1 l1 hP hS)
  · exact va_putN hx hb hts hin ty0 hty hnm hown hK N.2.1 zw_D N.2.2.1 i (zw_at he) hc k hk (hts _ hlk) (fun _ h => h) hfin hd (hn G) (hft G) hl' d (fun H1 l1 hP _ hS => go H1 l1 hP hS)
theorem zr_putF {idx ci k i : Nat} {ty : FieldType} {fs : List Value} {v : Value} (hf : zw_fl Y.1.cls idx ci k ty true) (hi : Y.1.name = "<init>") (d : decode Y.2.1 pc = .ok (.putfield idx, 3)) (he : w[i]? = some (.inr (ci, fs))) (hl : k < fs.length) (hn : ∀ G : zw_G, narrow ty (zw_v G v) = zw_v G v) (hft : ∀ G : zw_G, fits ty (zw_v G v) = true) (kk : zw_Z G Y R E Qf κ σ (pc + 3) ls st (w.set i (.inr (ci, fs.set k v)))) : zw_Z G Y R E Qf κ σ pc ls (v :: .ref (i + 1) :: st) w := by
  intro p e s m args below meth c H locs ls' F N
  obtain ⟨C, T, n, ⟨hc, hin, ⟨ty0, hty⟩, hnm⟩, hk, -, hfin, hd, hw⟩ := hf
  obtain ⟨hx, hb, -, -, -, hnam, hown, hts, hK, -, -⟩ := id F
  have hl' : k < (fs.map (zw_v G)).length := by rw [List.length_map]; exact hl
  exact va_putF hx hb hts hin ty0 hty hnm hown hK N.2.1 zw_D N.2.2.1 i (zw_at he) hc k hk (hts _ (hw rfl).2) (fun _ h => h) hfin (hnam.trans hi) (hw rfl).1 hd (hn G) (hft G) hl' d (fun H1 l1 hP _ hS =>
    kk p e s m args below meth c H1 l1 ls' F ⟨by rw [List.length_set]; exact N.1, by rw [zw_setf]; exact hP, hS, N.2.2.2⟩)
/-- arrays: the index is a number below the length -/
theorem zr_iald {i j n : Nat} {f : Nat → Int32} (d : decode Y.2.1 pc = .ok (.iaload, 1)) (he : w[i]? = some (.inl (0, n, .inl f))) (hj : j < n) (hn : n < 2 ^ 31) (kk : zw_Z G Y R E Qf κ σ (pc + 1) ls (.int (f j) :: st) w) : zw_Z G Y R E Qf κ σ pc ls (.int (nI j) :: .ref (i + 1) :: st) w := by
  intro p e s m args below meth c H locs ls' F N
  refine va_iald F.1 F.2.1 F.2.2.2.2.2.2.2.2.1 N.2.1 i 0 (zw_at he) rfl (vp_in_nI hj hn) d ?_
  rw [nI_clamp (Nat.lt_trans hj hn)]
  exact kk p e s m args below meth c H locs ls' F N
theorem zr_lald {i j n : Nat} {f : Nat → Int64} (d : decode Y.2.1 pc = .ok (.laload, 1)) (he : w[i]? = some (.inl (1, n, .inr (.inl f)))) (hj : j < n) (hn : n < 2 ^ 31) (kk : zw_Z G Y R E Qf κ σ (pc + 1) ls (.long (f j) :: st) w) : zw_Z G Y R E Qf κ σ pc ls (.int (nI j) :: .ref (i + 1) :: st) w := by
  intro p e s m args below meth c H locs ls' F N
  refine va_lald F.1 F.2.1 F.2.2.2.2.2.2.2.2.1 N.2.1 i 1 (zw_at he) rfl (vp_in_nI hj hn) d ?_
  rw [nI_clamp (Nat.lt_trans hj hn)]
  exact kk p e s m args below meth c H locs ls' F N
theorem zw_rf {r : Option Nat} : va_rf (r.map (zw_ad G)) = zw_v G (va_rf r) := by cases r <;> rfl
theorem zr_aald {i j n : Nat} {f : Nat → Option Nat} (d : decode Y.2.1 pc = .ok (.aaload, 1)) (he : w[i]? = some (.inl (2, n, .inr (.inr (.inr (.inr f)))))) (hj : j < n) (hn : n < 2 ^ 31) (kk : zw_Z G Y R E Qf κ σ (pc + 1) ls (va_rf (f j) :: st) w) : zw_Z G Y R E Qf κ σ pc ls (.int (nI j) :: .ref (i + 1) :: st) w := by
  intro p e s m args below meth c H locs ls' F N
  refine va_aldq F.1 F.2.1 F.2.2.2.2.2.2.2.2.1 N.2.1 i 2 (zw_at he) rfl (vp_in_nI hj hn) d ?_
  rw [nI_clamp (Nat.lt_trans hj hn)]
  have := kk p e s m args below meth c H locs ls' F N
  rw [List.map_cons, ← zw_rf] at this
  exact this
theorem zr_aaldA {i j n : Nat} {f : Nat → Option Nat} (d : decode Y.2.1 pc = .ok (.aaload, 1)) (he : w[i]? = some (.inl (3, n, .inr (.inr (.inr (.inr f)))))) (hj : j < n) (hn : n < 2 ^ 31) (kk : zw_Z G Y R E Qf κ σ (pc + 1) ls (va_rf (f j) :: st) w) : zw_Z G Y R E Qf κ σ pc ls (.int (nI j) :: .ref (i + 1) :: st) w := by
  intro p e s m args below meth c H locs ls' F N
  have hc : H[G.2.2.2.2 + i]? = some (arrV (G.2.2.1 3) n (fun j => va_rf ((f j).map (zw_ad G)))) := N.2.1 i _ (zw_at he)
  refine W.aald (v := va_rf ((f j).map (zw_ad G))) (ty := .array .int) F.1 F.2.1 hc ((F.2.2.2.2.2.2.2.2.1.2 3 _ rfl).1 n (fun j => va_rf ((f j).map (zw_ad G)))) rfl (fun q => by cases q) (by rw [arrV_size]; exact vp_in_nI hj hn) (by rw [nI_clamp (Nat.lt_trans hj hn), arrV_read _ _ hj]) rfl rfl d ?_
  have := kk p e s m args below meth c H locs ls' F N
  rw [List.map_cons, ← zw_rf] at this
  exact this
theorem zr_alen {i k n : Nat} {a : vp_A} (d : decode Y.2.1 pc = .ok (.arraylength, 1)) (he : w[i]? = some (.inl (k, a))) (hk : k < 4) (hn : a.1 = n) (kk : zw_Z G Y R E Qf κ σ (pc + 1) ls (.int (nI n) :: st) w) : zw_Z G Y R E Qf κ σ pc ls (.ref (i + 1) :: st) w := by
  intro p e s m args below meth c H locs ls' F N
  have ha : (zw_a G a).1 = n := by
    rw [← hn]
    obtain ⟨n, f | f | f | f | f⟩ := a <;> rfl
  obtain ⟨ty, hty⟩ : ∃ ty, (zw_ty G)[k]? = some (G.2.2.1 k, ty) := by
    rcases (show k = 0 ∨ k = 1 ∨ k = 2 ∨ k = 3 by omega) with rfl | rfl | rfl | rfl <;> exact ⟨_, rfl⟩
  exact va_alen F.1 F.2.1 F.2.2.2.2.2.2.2.2.1 N.2.1 i k (zw_at he) hty (v := nI n) (by rw [ha]; rfl) d (kk p e s m args below meth c H locs ls' F N)
theorem zr_iast {i j n : Nat} {f : Nat → Int32} {x : Int32} (d : decode Y.2.1 pc = .ok (.iastore, 1)) (he : w[i]? = some (.inl (0, n, .inl f))) (hj : j < n) (hn : n < 2 ^ 31) (kk : zw_Z G Y R E Qf κ σ (pc + 1) ls st (w.set i (.inl (0, n, .inl (upd f j x))))) : zw_Z G Y R E Qf κ σ pc ls (.int x :: .int (nI j) :: .ref (i + 1) :: st) w := by
  intro p e s m args below meth c H locs ls' F N
  refine va_iast F.1 F.2.1 F.2.2.2.2.2.2.2.2.1 N.2.1 zw_D N.2.2.1 i 0 (zw_at he) rfl (vp_in_nI hj hn) d (fun H1 l1 hP _ hS => ?_)
  rw [nI_clamp (Nat.lt_trans hj hn)] at hP
  exact kk p e s m args below meth c H1 l1 ls' F (N.put hP hS)
theorem zr_last {i j n : Nat} {f : Nat → Int64} {x : Int64} (d : decode Y.2.1 pc = .ok (.lastore, 1)) (he : w[i]? = some (.inl (1, n, .inr (.inl f)))) (hj : j < n) (hn : n < 2 ^ 31) (kk : zw_Z G Y R E Qf κ σ (pc + 1) ls st (w.set i (.inl (1, n, .inr (.inl (vp_updL f j x)))))) : zw_Z G Y R E Qf κ σ pc ls (.long x :: .int (nI j) :: .ref (i + 1) :: st) w := by
  intro p e s m args below meth c H locs ls' F N
  refine va_last F.1 F.2.1 F.2.2.2.2.2.2.2.2.1 N.2.1 zw_D N.2.2.1 i 1 (zw_at he) rfl (vp_in_nI hj hn) d (fun H1 l1 hP _ hS => ?_)
  rw [nI_clamp (Nat.lt_trans hj hn)] at hP
  exact kk p e s m args below meth c H1 l1 ls' F (N.put hP hS)
theorem zw_upq {f : Nat → Option Nat} {j : Nat} {r : Option Nat} : (fun q => (va_up f j r q).map (zw_ad G)) = va_up (fun q => (f q).map (zw_ad G)) j (r.map (zw_ad G)) := by
  funext q
  unfold va_up
  split <;> rfl
theorem zr_aast {i j n q cd : Nat} {f : Nat → Option Nat} {vs : List Value} {T : u_T} {M : Nat} (d : decode Y.2.1 pc = .ok (.aastore, 1)) (he : w[i]? = some (.inl (2, n, .inr (.inr (.inr (.inr f)))))) (hj : j < n) (hn : n < 2 ^ 31) (hq : w[q]? = some (.inr (cd, vs))) (hc : vwCl[cd]? = some ("WordEvidence$Document", T, M)) (kk : zw_Z G Y R E Qf κ σ (pc + 1) ls st (w.set i (.inl (2, n, .inr (.inr (.inr (.inr (va_up f j (some (q + 1)))))))))) : zw_Z G Y R E Qf κ σ pc ls (.ref (q + 1) :: .int (nI j) :: .ref (i + 1) :: st) w := by
  intro p e s m args below meth c H locs ls' F N
  refine va_astq F.1 F.2.1 F.2.2.2.2.2.2.2.2.1 N.2.1 zw_D N.2.2.1 i 2 q cd (zw_at he) (r := ("WordEvidence$Document", T, M)) rfl (zw_at hq) hc (vp_in_nI hj hn) d (fun H1 l1 hP _ hS => ?_)
  rw [nI_clamp (Nat.lt_trans hj hn)] at hP
  refine kk p e s m args below meth c H1 l1 ls' F (N.put ?_ hS)
  show va_P G.2.1 vwCl ((zw_w G w).set i (G.2.2.2.2 + i, .inl (G.2.2.1 2, n, .inr (.inr (.inr (.inr (fun z => (va_up f j (some (q + 1)) z).map (zw_ad G)))))))) H1
  rw [zw_upq]
  exact hP
theorem zr_aastN {i j n : Nat} {f : Nat → Option Nat} (d : decode Y.2.1 pc = .ok (.aastore, 1)) (he : w[i]? = some (.inl (2, n, .inr (.inr (.inr (.inr f)))))) (hj : j < n) (hn : n < 2 ^ 31) (kk : zw_Z G Y R E Qf κ σ (pc + 1) ls st (w.set i (.inl (2, n, .inr (.inr (.inr (.inr (va_up f j none)))))))) : zw_Z G Y R E Qf κ σ pc ls (.null :: .int (nI j) :: .ref (i + 1) :: st) w := by
  intro p e s m args below meth c H locs ls' F N
  refine va_astqN F.1 F.2.1 F.2.2.2.2.2.2.2.2.1 N.2.1 zw_D N.2.2.1 i 2 (zw_at he) rfl (vp_in_nI hj hn) d (fun H1 l1 hP _ hS => ?_)
  rw [nI_clamp (Nat.lt_trans hj hn)] at hP
  refine kk p e s m args below meth c H1 l1 ls' F (N.put ?_ hS)
  show va_P G.2.1 vwCl ((zw_w G w).set i (G.2.2.2.2 + i, .inl (G.2.2.1 2, n, .inr (.inr (.inr (.inr (fun z => (va_up f j none z).map (zw_ad G)))))))) H1
  rw [zw_upq]
  exact hP
/-- a new cell lies behind all others -/
theorem zw_new {q : Nat} {e : va_E} {H1 : Heap} (hP : va_P G.2.1 vwCl (zw_w G w ++ [(q, e)]) H1) (hD : va_D (fun q => G.2.2.2.2 ≤ q) (zw_w G w ++ [(q, e)])) (hz : H1.size ≤ G.2.2.2.2 + w.length + 1) : q = G.2.2.2.2 + w.length := by
  have hl : (zw_w G w ++ [(q, e)])[w.length]? = some (q, e) := by
    rw [List.getElem?_append_right (by rw [zw_len]; exact Nat.le_refl _), zw_len, Nat.sub_self]
    rfl
  have h1 := (hP _ _ hl).lt
  have h2 := hD.2 _ _ hl
  simp only at h1 h2
  rcases Nat.lt_or_ge q (G.2.2.2.2 + w.length) with h | h
  · exfalso
    have hi : q - G.2.2.2.2 < w.length := by omega
    have h3 : (zw_w G w ++ [(q, e)])[q - G.2.2.2.2]? = some (G.2.2.2.2 + (q - G.2.2.2.2), zw_e G w[q - G.2.2.2.2]) := by
      rw [List.getElem?_append_left (by rw [zw_len]; exact hi)]
      exact zw_at (List.getElem?_eq_getElem hi)
    have h4 := hD.1 _ _ _ _ h3 hl (by simp only; omega)
    omega
  · omega
def zw_nw (own : String) (idx ci : Nat) (fs : List Value) : Prop := ∃ (C : String) (T : u_T) (N : Nat), zw_cf ci C T N ∧ Cond.classLink own idx C ∈ zw_T ∧ Cond.instantiable C N ∈ zw_T ∧ Cond.initialized C ∈ zw_T ∧ fs.length = N ∧ (∀ j, j < N → ∀ ty, parseFieldDescriptor (T j).2.2.1 = some ty → defaultValue ty = vp_V fs j) ∧ ∀ G : zw_G, fs.map (zw_v G) = fs
theorem zr_new {idx ci : Nat} {fs : List Value} (hf : zw_nw Y.1.cls idx ci fs) (d : decode Y.2.1 pc = .ok (.new idx, 3)) (hR : κ + 1 ≤ R.cells ∧ σ + fs.length ≤ R.slots) (kk : zw_Z G Y R E Qf (κ + 1) (σ + fs.length) (pc + 3) ls (.ref (w.length + 1) :: st) (w ++ [.inr (ci, fs)])) : zw_Z G Y R E Qf κ σ pc ls st w := by
  intro p e s m args below meth c H locs ls' F N
  obtain ⟨C, T, n, ⟨hc, hin, ⟨ty0, hty⟩, -⟩, h1, h2, h3, rfl, hd, hm⟩ := hf
  obtain ⟨hx, hb, -, -, -, -, hown, hts, hK, hbs, -⟩ := id F
  refine va_new hx hb hts hin ty0 hty hown (hts _ h1) (hts _ h2) (hts _ h3) hK N.2.1 zw_D N.2.2.1 (fun q h => Nat.le_trans hbs h) hc (fs := fs) (fun j hj => hd j hj _ (hty j hj)) hR.1 hR.2 d (fun q H1 hP hD hS => ?_)
  intro T1 hT X
  have hz := X.heapSize
  rw [hT] at hz
  have hq := zw_new hP hD (by have := N.1; omega)
  subst hq
  refine kk p e s m args below meth c H1 locs ls' F ⟨by rw [List.length_append]; have := N.1; simp; omega, ?_, hS, N.2.2.2⟩ T1 hT X
  rw [zw_app]
  show va_P G.2.1 vwCl (zw_w G w ++ [(G.2.2.2.2 + w.length, .inr (ci, fs.map (zw_v G)))]) H1
  rw [hm G]
  exact hP
theorem zw_one {D : va_G} {cl : List vw_C} {tys : List (ClassId × FieldType)} {s : State} {t0 : Nat} {cX cB : ClassId} {ty : FieldType} (hK : va_K D cl (tys ++ [(cB, ty)]) s) (ht : tys[t0]? = some (cX, ty)) : cB = cX := by
  have hl : t0 < tys.length := (List.getElem?_eq_some_iff.mp ht).1
  have h1 := (hK.2 t0 (cX, ty) (by rw [List.getElem?_append_left hl]; exact ht)).2
  have h2 := (hK.2 tys.length (cB, ty) (by simp)).2
  cases ty with
  | object C =>
    obtain ⟨kA, co, a1, a2, a3, a4⟩ := h1
    obtain ⟨kB, cp, b1, b2, b3, b4⟩ := h2
    exact Option.some.inj (b4.symm.trans a4)
  | _ => exact Option.some.inj (Eq.trans (Eq.symm h2) h1)
theorem zr_newI {n : Nat} (hw : Cond.arrayClass .int ∈ zw_T) (d : decode Y.2.1 pc = .ok (.newarray .int, 2)) (hn : n < 134217728) (hR : κ + 1 ≤ R.cells ∧ σ + n ≤ R.slots) (kk : zw_Z G Y R E Qf (κ + 1) (σ + n) (pc + 2) ls (.ref (w.length + 1) :: st) (w ++ [.inl (0, n, .inl (fun _ => 0))])) : zw_Z G Y R E Qf κ σ pc ls (.int (nI n) :: st) w := by
  intro p e s m args below meth c H locs ls' F N
  obtain ⟨hx, hb, -, -, -, -, hown, hts, hK, hbs, -⟩ := id F
  refine va_newa (atype := .int) hx hb (hts _ hw) (ty := .int) rfl hK N.2.1 zw_D N.2.2.1 (fun q h => Nat.le_trans hbs h) (N' := n) (a0 := (n, .inl (fun _ => 0))) (fun _ => rfl) (nI_pos (by omega)) (nI_clamp (by omega)) (by show n * 4 ≤ _; omega) hR.1 hR.2 d (fun q cX H1 hK2 hP hD hS => ?_)
  have hc := zw_one (t0 := 0) hK2 rfl
  subst hc
  intro T1 hT X
  have hz := X.heapSize
  rw [hT] at hz
  have hq := zw_new hP hD (by have := N.1; omega)
  subst hq
  exact kk p e s m args below meth c H1 locs ls' F ⟨by rw [List.length_append]; have := N.1; simp; omega, by rw [zw_app]; exact hP, hS, N.2.2.2⟩ T1 hT X
theorem zr_newL {n : Nat} (hw : Cond.arrayClass .long ∈ zw_T) (d : decode Y.2.1 pc = .ok (.newarray .long, 2)) (hn : n < 67108864) (hR : κ + 1 ≤ R.cells ∧ σ + n ≤ R.slots) (kk : zw_Z G Y R E Qf (κ + 1) (σ + n) (pc + 2) ls (.ref (w.length + 1) :: st) (w ++ [.inl (1, n, .inr (.inl (fun _ => 0)))])) : zw_Z G Y R E Qf κ σ pc ls (.int (nI n) :: st) w := by
  intro p e s m args below meth c H locs ls' F N
  obtain ⟨hx, hb, -, -, -, -, hown, hts, hK, hbs, -⟩ := id F
  refine va_newa (atype := .long) hx hb (hts _ hw) (ty := .long) rfl hK N.2.1 zw_D N.2.2.1 (fun q h => Nat.le_trans hbs h) (N' := n) (a0 := (n, .inr (.inl (fun _ => 0)))) (fun _ => rfl) (nI_pos (by omega)) (nI_clamp (by omega)) (by show n * 8 ≤ _; omega) hR.1 hR.2 d (fun q cX H1 hK2 hP hD hS => ?_)
  have hc := zw_one (t0 := 1) hK2 rfl
  subst hc
  intro T1 hT X
  have hz := X.heapSize
  rw [hT] at hz
  have hq := zw_new hP hD (by have := N.1; omega)
  subst hq
  exact kk p e s m args below meth c H1 locs ls' F ⟨by rw [List.length_append]; have := N.1; simp; omega, by rw [zw_app]; exact hP, hS, N.2.2.2⟩ T1 hT X
theorem zr_newD {n idx : Nat} (h1 : Cond.classLink Y.1.cls idx "WordEvidence$Document" ∈ zw_T) (h2 : Cond.arrayOver (.object "WordEvidence$Document") ∈ zw_T) (d : decode Y.2.1 pc = .ok (.anewarray idx, 3)) (hn : n < 134217728) (hR : κ + 1 ≤ R.cells ∧ σ + n ≤ R.slots) (kk : zw_Z G Y R E Qf (κ + 1) (σ + n) (pc + 3) ls (.ref (w.length + 1) :: st) (w ++ [.inl (2, n, .inr (.inr (.inr (.inr (fun _ => none)))))])) : zw_Z G Y R E Qf κ σ pc ls (.int (nI n) :: st) w := by
  intro p e s m args below meth c H locs ls' F N
  obtain ⟨hx, hb, -, -, -, -, hown, hts, hK, hbs, -⟩ := id F
  refine va_newq hx hb hown (hts _ h1) (va_AO.of (hts _ h2)) hK N.2.1 zw_D N.2.2.1 (fun q h => Nat.le_trans hbs h) (N' := n) (nI_pos (by omega)) (nI_clamp (by omega)) (by omega) hR.1 hR.2 d (fun q cX H1 hK2 hP hD hS => ?_)
  have hc := zw_one (t0 := 2) hK2 rfl
  subst hc
  intro T1 hT X
  have hz := X.heapSize
  rw [hT] at hz
  have hq := zw_new hP hD (by have := N.1; omega)
  subst hq
  exact kk p e s m args below meth c H1 locs ls' F ⟨by rw [List.length_append]; have := N.1; simp; omega, by rw [zw_app]; exact hP, hS, N.2.2.2⟩ T1 hT X
theorem zr_objInit {idx i : Nat} (h1 : Cond.methodLink Y.1.cls idx Lib.objectInit ∈ zw_T) (h2 : Cond.instanceMethod Lib.objectInit ∈ zw_T) (h3 : Cond.code Lib.objectInit ⟨#[0xb1]⟩ 1 none ∈ zw_T) (d : decode Y.2.1 pc = .ok (.invokespecial idx, 3)) (hR : 1 ≤ R.frames ∧ (st.map fun v => v.category).sum + 12 ≤ R.locals) (kk : zw_Z G Y R E Qf κ σ (pc + 3) ls st w) : zw_Z G Y R E Qf κ σ pc ls (.ref i :: st) w := by
  intro p e s m args below meth c H locs ls' F N
  obtain ⟨hx, hb, hml, -, -, -, hown, hts, hK, hbs, -⟩ := id F
  refine W.objInit hx hb hown (hts _ h1) (hts _ h2) (hts _ h3) rfl (by rw [hml]; exact N.2.2.2.1) rfl d hR.1 ?_ (kk p e s m args below meth c H locs ls' F N)
  show 2 * 0 + ((st.map (zw_v G)).map fun v => v.category).sum + 12 ≤ R.locals
  rw [List.map_map, show ((fun v : Value => v.category) ∘ zw_v G) = fun v => v.category from funext (fun v => zw_cat v)]
  omega
/-- calls -/
def zw_push (v : Option Value) (r : List Value) : List Value := match v with
  | none => r
  | some x => x :: r
abbrev zw_is (v0 : Option Value) (w0 : zw_W) : Option Value → zw_W → Prop := fun v w => v = v0 ∧ w = w0
def zw_y (Y : zw_Y) (n : Nat) : Prop := Cond.code Y.1 Y.2.1 Y.2.2.1 Y.2.2.2 ∈ zw_T ∧ Cond.initialized Y.1.cls ∈ zw_T ∧ plainName Y.1.cls = true ∧ (Y.1.cls ≠ "java/lang/invoke/MethodHandle" ∧ Y.1.cls ≠ "java/lang/invoke/VarHandle") ∧ (parseMethodDescriptor Y.1.desc).map (fun d => d.parameters.length) = some n
def zw_lk (own : String) (idx : Nat) (y : MethodName) : Prop := Cond.methodLink own idx y ∈ zw_T ∨ ∃ host, Cond.methodLinkNest own idx y host ∈ zw_T
abbrev zw_ck (R : Room) (d n κ σ mc ms : Nat) : Prop := d + 1 ≤ R.frames ∧ 8 + (n + 11) + 40 * d ≤ R.locals ∧ κ + mc ≤ R.cells ∧ σ + ms ≤ R.slots
theorem zw_back {p : Program} {e : Env} {s : State} {m : MethodId} {args : Array Value} {below : List Frame} {meth : Method} {c : Code} {H : Heap} {locs : List Loc} {ls' : Array Slot} {mc ms : Nat} {st0 rest : List Value} {a : Array Value} {P : Option Value → zw_W → Prop} {Q : State → Prop}
    (hr : va_Run p G.1 e R s m args below meth c H locs κ σ mc ms (F0 m pc ls' st0) rest (zw_q G P a) (fun q => G.2.2.2.2 ≤ q)) (hS : va_S (fun q => G.2.2.2.2 ≤ q) s.heap H locs)
    (kk : ∀ (v : Option Value) (w2 : zw_W) (H1 : Heap) (l1 : List Loc), P v w2 → va_P G.2.1 vwCl (zw_w G w2) H1 → va_S (fun q => G.2.2.2.2 ≤ q) s.heap H1 l1 → W p G.1 e R s m args below meth c H1 l1 (κ + mc) (σ + ms) Q (F0 m (pc + 3) ls' ((v.map (zw_v G)).toList ++ rest))) : W p G.1 e R s m args below meth c H locs κ σ Q (F0 m pc ls' st0) := by
  intro T hT X
  obtain ⟨v, st₀, t, T', L, h0, X', hL, e1, e2, ⟨⟨v2, w2, hv, hp, hP⟩, hz, hk⟩, st⟩ := hr T hT X
  obtain rfl : v = v2.map (zw_v G) := by injection hv
  rw [h0] at hz hk
  obtain ⟨t2, a1, b1⟩ := kk v2 w2 T'.heap (locs ++ L) hp (by rw [e1]; exact hP) ⟨Nat.le_trans hS.1 (by rw [e1]; exact hz), fun q g1 g2 => by rw [e1, hk q (Nat.lt_of_lt_of_le g1 hS.1) g2]; exact hS.2.1 q g1 g2, fun q hq => by
      rcases List.mem_append.mp hq with h | h
      · exact hS.2.2 q h
      · exact hL q h⟩ T' rfl X'
  exact ⟨t2, st t2 a1, b1⟩
theorem zw_words {Y2 : zw_Y} {n : Nat} {args : Array Value} {s : State} (hy : zw_y Y2 n) (hts : ∀ w ∈ zw_T, w.before args s = true) : (∀ w ∈ [Cond.code Y2.1 Y2.2.1 Y2.2.2.1 Y2.2.2.2], ∀ (a' : Array Value) (U : State), s.WarmedH U.vm → w.before a' U = true) := by
  intro w hw a' U hW
  rw [List.mem_singleton] at hw
  subst hw
  exact zw_T_warm hW hts _ hy.1
theorem zw_npar {Y2 : zw_Y} {n : Nat} (hy : zw_y Y2 n) : ∀ sig, parseMethodDescriptor Y2.1.desc = some sig → n = sig.parameters.length := by
  intro sig h
  have h2 := hy.2.2.2.2
  rw [h] at h2
  exact (Option.some.inj h2).symm
theorem zw_room {rest : List Value} {m : MethodId} {pc : Nat} {ls' : Array Slot} {st0 : List Value} (h : (rest.map fun v => v.category).sum ≤ 8) : 2 * (F0 m pc ls' st0).monitorRoom + ((rest.map (zw_v G)).map fun v => v.category).sum ≤ 8 := by
  refine lv_room ?_
  rw [List.map_map, show ((fun v : Value => v.category) ∘ zw_v G) = fun v => v.category from funext (fun v => zw_cat v)]
  exact h
variable {Y2 : zw_Y} {n d mc ms idx : Nat} {As rest : List Value} {P : Option Value → zw_W → Prop}
theorem zr_invS (hM : zw_Met G Y2 d mc ms As w P) (hy : zw_y Y2 n) (hk : zw_lk Y.1.cls idx Y2.1) (hv : Cond.static Y2.1 ∈ zw_T) (dg : decode Y.2.1 pc = .ok (.invokestatic idx, 3)) (hn : As.length = n) (hsp : (zw_sp As).length ≤ Y2.2.2.1) (hR : zw_ck R d Y2.2.2.1 κ σ mc ms) (hrest : (rest.map fun v => v.category).sum ≤ 8) (hst : As.reverse ++ rest = st)
    (kk : ∀ (v : Option Value) (w2 : zw_W), P v w2 → w2.length = w.length + mc ∧ zw_Z G Y R E Qf (κ + mc) (σ + ms) (pc + 3) ls (zw_push v rest) w2) : zw_Z G Y R E Qf κ σ pc ls st w := by
  intro p e s m args below meth c H locs ls' F N T hT X
  obtain ⟨hx, hb, hml, -, -, -, hown, hts, hK, hbs, -⟩ := id F
  have hz := zw_size hbs N hT X
  have hMet := zw_met hy.2.2.1 hsp hM
  have hp := zw_preS (As := As.map (zw_v G)) hts hK hz N.2.1
  have hs : st.map (zw_v G) = (As.map (zw_v G)).reverse ++ rest.map (zw_v G) := by rw [← hst, List.map_append, List.map_reverse]
  have fin : ∀ (v : Option Value) (w2 : zw_W) (H1 : Heap) (l1 : List Loc), P v w2 → va_P G.2.1 vwCl (zw_w G w2) H1 → va_S (fun q => G.2.2.2.2 ≤ q) s.heap H1 l1 → W p G.1 e R s m args below meth c H1 l1 (κ + mc) (σ + ms) (Qf below args s) (F0 m (pc + 3) ls' ((v.map (zw_v G)).toList ++ rest.map (zw_v G))) := fun v w2 H1 l1 hpv hP hS => by
    obtain ⟨g1, g2⟩ := kk v w2 hpv
    have := g2 p e s m args below meth c H1 l1 ls' F ⟨by have := N.1; omega, hP, hS, N.2.2.2⟩
    cases v <;> exact this
  rcases hk with hk | ⟨host, hk⟩
  · exact zw_back (va_runS (Ts := zw_T) (nL := Y.2.2.1) ⟨hx, hb, hml, hown, hts⟩ hMet ⟨⟨rfl, rfl, hR.1, hR.2.1, zw_words hy hts, List.mem_singleton.mpr rfl, hts _ hy.1, hts _ hy.2.1, hy.2.2.2.1, zw_npar hy, hts _ hk⟩, hts _ hv⟩ hp rfl (by rw [List.length_map]; exact hn) N.2.2.2.1 hs (zw_room hrest) dg ⟨hR.2.2.1, hR.2.2.2⟩) N.2.2.1 fin T hT X
  · exact zw_back (va_runSN (Ts := zw_T) (nL := Y.2.2.1) ⟨hx, hb, hml, hown, hts⟩ hMet ⟨⟨⟨rfl, rfl, hR.1, hR.2.1, zw_words hy hts, List.mem_singleton.mpr rfl⟩, hts _ hy.1, hts _ hy.2.1, hy.2.2.2.1, zw_npar hy, hts _ hk⟩, hts _ hv, trivial⟩ hp rfl (by rw [List.length_map]; exact hn) N.2.2.2.1 hs (zw_room hrest) dg ⟨hR.2.2.1, hR.2.2.2⟩) N.2.2.1 fin T hT X
theorem zr_invV {i ci : Nat} {fs : List Value} {T0 : u_T} {N0 : Nat} (hM : zw_Met G Y2 d mc ms (.ref (i + 1) :: As) w P) (hy : zw_y Y2 n) (hk : zw_lk Y.1.cls idx Y2.1) (hv : Cond.instanceMethod Y2.1 ∈ zw_T ∧ Cond.selects Y2.1.cls Y2.1 Y2.1 ∈ zw_T) (hc : vwCl[ci]? = some (Y2.1.cls, T0, N0)) (he : w[i]? = some (.inr (ci, fs))) (dg : decode Y.2.1 pc = .ok (.invokevirtual idx, 3)) (hn : As.length = n) (hsp : (zw_sp (.ref (i + 1) :: As)).length ≤ Y2.2.2.1) (hR : zw_ck R d Y2.2.2.1 κ σ mc ms) (hrest : (rest.map fun v => v.category).sum ≤ 8) (hst : As.reverse ++ .ref (i + 1) :: rest = st)
    (kk : ∀ (v : Option Value) (w2 : zw_W), P v w2 → w2.length = w.length + mc ∧ zw_Z G Y R E Qf (κ + mc) (σ + ms) (pc + 3) ls (zw_push v rest) w2) : zw_Z G Y R E Qf κ σ pc ls st w := by
  intro p e s m args below meth c H locs ls' F N T hT X
  obtain ⟨hx, hb, hml, -, -, -, hown, hts, hK, hbs, -⟩ := id F
  have hz := zw_size hbs N hT X
  have hMet := zw_met hy.2.2.1 hsp hM
  have hp0 := zw_preS (As := (Value.ref (i + 1) :: As).map (zw_v G)) hts hK hz N.2.1
  have hp : PreV s H Y2.1.cls (G.2.2.2.2 + i) (va_Pc ((Value.ref (i + 1) :: As).map (zw_v G)) (zw_Pre G w)) (As.map (zw_v G)) := ⟨hp0.1, va_recv hK N.2.1 hc (zw_at he), hp0.2⟩
  have hs : st.map (zw_v G) = (As.map (zw_v G)).reverse ++ .ref (G.2.2.2.2 + i) :: rest.map (zw_v G) := by rw [← hst, List.map_append, List.map_reverse]; rfl
  have fin : ∀ (v : Option Value) (w2 : zw_W) (H1 : Heap) (l1 : List Loc), P v w2 → va_P G.2.1 vwCl (zw_w G w2) H1 → va_S (fun q => G.2.2.2.2 ≤ q) s.heap H1 l1 → W p G.1 e R s m args below meth c H1 l1 (κ + mc) (σ + ms) (Qf below args s) (F0 m (pc + 3) ls' ((v.map (zw_v G)).toList ++ rest.map (zw_v G))) := fun v w2 H1 l1 hpv hP hS => by
    obtain ⟨g1, g2⟩ := kk v w2 hpv
    have := g2 p e s m args below meth c H1 l1 ls' F ⟨by have := N.1; omega, hP, hS, N.2.2.2⟩
    cases v <;> exact this
  rcases hk with hk | ⟨host, hk⟩
  · exact zw_back (va_runV (C := Y2.1.cls) (Ts := zw_T) (nL := Y.2.2.1) ⟨hx, hb, hml, hown, hts⟩ hMet ⟨⟨rfl, rfl, hR.1, hR.2.1, zw_words hy hts, List.mem_singleton.mpr rfl, hts _ hy.1, hts _ hy.2.1, hy.2.2.2.1, zw_npar hy, hts _ hk⟩, hts _ hv.1, hts _ hv.2⟩ hp rfl (by rw [List.length_map]; exact hn) N.2.2.2.1 hs (zw_room hrest) dg ⟨hR.2.2.1, hR.2.2.2⟩) N.2.2.1 fin T hT X
  · exact zw_back (va_runVN (C := Y2.1.cls) (Ts := zw_T) (nL := Y.2.2.1) ⟨hx, hb, hml, hown, hts⟩ hMet ⟨⟨⟨rfl, rfl, hR.1, hR.2.1, zw_words hy hts, List.mem_singleton.mpr rfl⟩, hts _ hy.1, hts _ hy.2.1, hy.2.2.2.1, zw_npar hy, hts _ hk⟩, hts _ hv.1, hts _ hv.2⟩ hp rfl (by rw [List.length_map]; exact hn) N.2.2.2.1 hs (zw_room hrest) dg ⟨hR.2.2.1, hR.2.2.2⟩) N.2.2.1 fin T hT X
theorem zr_invI {i : Nat} (hM : zw_Met G Y2 d mc ms (.ref (i + 1) :: As) w P) (hy : zw_y Y2 n) (hk : zw_lk Y.1.cls idx Y2.1) (hv : Y2.1.name = "<init>" ∧ Cond.instanceMethod Y2.1 ∈ zw_T) (hnone : Y2.2.2.2 = none) (dg : decode Y.2.1 pc = .ok (.invokespecial idx, 3)) (hn : As.length = n) (hsp : (zw_sp (.ref (i + 1) :: As)).length ≤ Y2.2.2.1) (hR : zw_ck R d Y2.2.2.1 κ σ mc ms) (hrest : (rest.map fun v => v.category).sum ≤ 8) (hst : As.reverse ++ .ref (i + 1) :: rest = st)
    (kk : ∀ (v : Option Value) (w2 : zw_W), P v w2 → w2.length = w.length + mc ∧ zw_Z G Y R E Qf (κ + mc) (σ + ms) (pc + 3) ls (zw_push v rest) w2) : zw_Z G Y R E Qf κ σ pc ls st w := by
  intro p e s m args below meth c H locs ls' F N T hT X
  obtain ⟨hx, hb, hml, -, -, -, hown, hts, hK, hbs, -⟩ := id F
  have hz := zw_size hbs N hT X
  have hMet := zw_met hy.2.2.1 hsp hM
  have hp : PreS s H (va_Pc ((Value.ref (i + 1) :: As).map (zw_v G)) (zw_Pre G w)) (.ref (G.2.2.2.2 + i) :: As.map (zw_v G)) := zw_preS (As := (Value.ref (i + 1) :: As).map (zw_v G)) hts hK hz N.2.1
  have hs : st.map (zw_v G) = (As.map (zw_v G)).reverse ++ .ref (G.2.2.2.2 + i) :: rest.map (zw_v G) := by rw [← hst, List.map_append, List.map_reverse]; rfl
  have fin : ∀ (v : Option Value) (w2 : zw_W) (H1 : Heap) (l1 : List Loc), P v w2 → va_P G.2.1 vwCl (zw_w G w2) H1 → va_S (fun q => G.2.2.2.2 ≤ q) s.heap H1 l1 → W p G.1 e R s m args below meth c H1 l1 (κ + mc) (σ + ms) (Qf below args s) (F0 m (pc + 3) ls' ((v.map (zw_v G)).toList ++ rest.map (zw_v G))) := fun v w2 H1 l1 hpv hP hS => by
    obtain ⟨g1, g2⟩ := kk v w2 hpv
    have := g2 p e s m args below meth c H1 l1 ls' F ⟨by have := N.1; omega, hP, hS, N.2.2.2⟩
    cases v <;> exact this
  rw [hnone] at hMet
  have hcd := hy.1
  rw [hnone] at hcd
  have hwd := zw_words hy hts
  rw [hnone] at hwd
  rcases hk with hk | ⟨host, hk⟩
  · exact zw_back (va_runI (Ts := zw_T) (nL := Y.2.2.1) ⟨hx, hb, hml, hown, hts⟩ hMet ⟨⟨rfl, rfl, hR.1, hR.2.1, hwd, List.mem_singleton.mpr rfl, hts _ hcd, hts _ hy.2.1, hy.2.2.2.1, zw_npar hy, hts _ hk⟩, hv.1, hts _ hv.2⟩ hp rfl (by rw [List.length_map]; exact hn) N.2.2.2.1 hs (zw_room hrest) dg ⟨hR.2.2.1, hR.2.2.2⟩) N.2.2.1 fin T hT X
  · exact zw_back (va_runIN (Ts := zw_T) (nL := Y.2.2.1) ⟨hx, hb, hml, hown, hts⟩ hMet ⟨⟨⟨rfl, rfl, hR.1, hR.2.1, hwd, List.mem_singleton.mpr rfl⟩, hts _ hcd, hts _ hy.2.1, hy.2.2.2.1, zw_npar hy, hts _ hk⟩, hv.1, hts _ hv.2⟩ hp rfl (by rw [List.length_map]; exact hn) N.2.2.2.1 hs (zw_room hrest) dg ⟨hR.2.2.1, hR.2.2.2⟩) N.2.2.1 fin T hT X
/-- System.arraycopy of longs; Math.max, Math.min -/
theorem zr_copyl {i j a b k n0 n1 : Nat} {f g : Nat → Int64} (h1 : Cond.methodLink Y.1.cls idx arraycopyName ∈ zw_T) (h2 : Cond.native arraycopyName ∈ zw_T) (h3 : Cond.static arraycopyName ∈ zw_T) (h4 : Cond.initialized "java/lang/System" ∈ zw_T) (dg : decode Y.2.1 pc = .ok (.invokestatic idx, 3)) (hi : w[i]? = some (.inl (1, n0, .inr (.inl f)))) (hj : w[j]? = some (.inl (1, n1, .inr (.inl g)))) (ha : a + k ≤ n0) (hb : b + k ≤ n1) (hl : n0 < 2 ^ 31 ∧ n1 < 2 ^ 31) (hR : 1 ≤ R.frames ∧ (rest.map fun v => v.category).sum + (nativeFrameWords "java/lang/System" "arraycopy" 5 + 11) ≤ R.locals)
    (kk : zw_Z G Y R E Qf κ σ (pc + 3) ls rest (w.set j (.inl (1, n1, .inr (.inl (va_cpy f g a b k)))))) : zw_Z G Y R E Qf κ σ pc ls (.int (nI k) :: .int (nI b) :: .ref (j + 1) :: .int (nI a) :: .ref (i + 1) :: rest) w := by
  intro p e s m args below meth c H locs ls' F N
  obtain ⟨hx, hbb, hml, -, -, -, hown, hts, hK, hbs, -⟩ := id F
  have ca : (nI a).toNatClampNeg = a := nI_clamp (by omega)
  have cb : (nI b).toNatClampNeg = b := nI_clamp (by omega)
  have ck : (nI k).toNatClampNeg = k := nI_clamp (by omega)
  refine va_copyl hx hbb (by rw [hml]; exact N.2.2.2.1.symm) hown (hts _ h1) (hts _ h2) (hts _ h3) (hts _ h4) hK N.2.1 zw_D N.2.2.1 i j 1 1 (ty := .long) (zw_at hi) (zw_at hj) rfl rfl rfl (nI_pos (by omega)) (nI_pos (by omega)) (nI_pos (by omega)) (by rw [ca, ck]; exact ha) (by rw [cb, ck]; exact hb) (fun _ _ => rfl) hR.1 ?_ dg (fun H1 l1 hP _ hS => ?_)
  · rw [List.map_map, show ((fun v : Value => v.category) ∘ zw_v G) = fun v => v.category from funext (fun v => zw_cat v)]
    exact hR.2
  · rw [ca, cb, ck] at hP
    exact kk p e s m args below meth c H1 l1 ls' F (N.put hP hS)
theorem zr_mmax {x y : Int32} (h1 : Cond.methodLink Y.1.cls idx Lib.Math.max.name ∈ zw_T) (h2 : Cond.static Lib.Math.max.name ∈ zw_T) (h3 : Cond.initialized "java/lang/Math" ∈ zw_T) (h4 : Cond.code Lib.Math.max.name Lib.Math.max.code 2 (some .int) ∈ zw_T) (dg : decode Y.2.1 pc = .ok (.invokestatic idx, 3)) (hR : 1 ≤ R.frames ∧ (rest.map fun v => v.category).sum + 13 ≤ R.locals ∧ κ ≤ R.cells ∧ σ ≤ R.slots)
    (kk : zw_Z G Y R E Qf κ σ (pc + 3) ls (.int (if x < y then y else x) :: rest) w) : zw_Z G Y R E Qf κ σ pc ls (.int y :: .int x :: rest) w := by
  intro p e s m args below meth c H locs ls' F N
  obtain ⟨hx, hbb, hml, -, -, -, hown, hts, hK, hbs, -⟩ := id F
  refine va_mmax hx hbb (by rw [hml]; exact N.2.2.2.1.symm) hown (hts _ h1) (hts _ h2) (hts _ h3) (hts _ h4) hR.1 ?_ hR.2.2.1 hR.2.2.2 dg (kk p e s m args below meth c H locs ls' F N)
  rw [List.map_map, show ((fun v : Value => v.category) ∘ zw_v G) = fun v => v.category from funext (fun v => zw_cat v)]
  exact hR.2.1
theorem zr_mmin {x y : Int32} (h1 : Cond.methodLink Y.1.cls idx Lib.Math.min.name ∈ zw_T) (h2 : Cond.static Lib.Math.min.name ∈ zw_T) (h3 : Cond.initialized "java/lang/Math" ∈ zw_T) (h4 : Cond.code Lib.Math.min.name Lib.Math.min.code 2 (some .int) ∈ zw_T) (dg : decode Y.2.1 pc = .ok (.invokestatic idx, 3)) (hR : 1 ≤ R.frames ∧ (rest.map fun v => v.category).sum + 13 ≤ R.locals ∧ κ ≤ R.cells ∧ σ ≤ R.slots)
    (kk : zw_Z G Y R E Qf κ σ (pc + 3) ls (.int (if y < x then y else x) :: rest) w) : zw_Z G Y R E Qf κ σ pc ls (.int y :: .int x :: rest) w := by
  intro p e s m args below meth c H locs ls' F N
  obtain ⟨hx, hbb, hml, -, -, -, hown, hts, hK, hbs, -⟩ := id F
  refine va_mmin hx hbb (by rw [hml]; exact N.2.2.2.1.symm) hown (hts _ h1) (hts _ h2) (hts _ h3) (hts _ h4) hR.1 ?_ hR.2.2.1 hR.2.2.2 dg (kk p e s m args below meth c H locs ls' F N)
  rw [List.map_map, show ((fun v : Value => v.category) ∘ zw_v G) = fun v => v.category from funext (fun v => zw_cat v)]
  exact hR.2.1
end ZH
