/-! THE MACHINE OF WORLDS, SEEN FROM ABOVE. A world is a list of cells; a reference is a number: 0 the script, i + 1 the cell i, which lies at the
address b + i (every cell since the law's start, in the order of its making). zw_Z: from this point of a method's code, with these locals, this stack and
this world, the machine comes to the method's end with Qf. One rule an instruction (zr_..), one for a call (zr_inv..). -/
section ZW
abbrev zw_C : Type := (Nat × vp_A) ⊕ (Nat × List Value)
abbrev zw_W : Type := List zw_C
abbrev zw_G : Type := Launch × va_G × (Nat → ClassId) × Nat × Nat
abbrev zw_Qt : Type := List Frame → Array Value → State → State → Prop
def zw_ad (G : zw_G) (i : Nat) : Nat := match i with
  | 0 => G.2.2.2.1
  | j + 1 => G.2.2.2.2 + j
def zw_v (G : zw_G) (v : Value) : Value := match v with
  | .ref i => .ref (zw_ad G i)
  | v => v
def zw_a (G : zw_G) (a : vp_A) : vp_A := match a with
  | (n, .inr (.inr (.inr (.inr f)))) => (n, .inr (.inr (.inr (.inr (fun j => (f j).map (zw_ad G))))))
  | a => a
def zw_e (G : zw_G) (x : zw_C) : va_E := match x with
  | .inl (k, a) => .inl (G.2.2.1 k, zw_a G a)
  | .inr (ci, fs) => .inr (ci, fs.map (zw_v G))
def zw_w (G : zw_G) (w : zw_W) : va_W := w.mapIdx (fun i x => (G.2.2.2.2 + i, zw_e G x))
theorem zw_at {G : zw_G} {w : zw_W} {i : Nat} {x : zw_C} (h : w[i]? = some x) : (zw_w G w)[i]? = some (G.2.2.2.2 + i, zw_e G x) := by
  simp [zw_w, h]
theorem zw_len {G : zw_G} {w : zw_W} : (zw_w G w).length = w.length := by simp [zw_w]
theorem zw_get {G : zw_G} {w : zw_W} {i : Nat} {q : Nat × va_E} (h : (zw_w G w)[i]? = some q) : ∃ x, w[i]? = some x ∧ q = (G.2.2.2.2 + i, zw_e G x) := by
  simp only [zw_w, List.getElem?_mapIdx, Option.map_eq_some_iff] at h
  obtain ⟨x, h1, h2⟩ := h
  exact ⟨x, h1, h2.symm⟩
theorem zw_set {G : zw_G} {w : zw_W} {i : Nat} {x : zw_C} : zw_w G (w.set i x) = (zw_w G w).set i (G.2.2.2.2 + i, zw_e G x) := by
  apply List.ext_getElem?
  intro j
  simp only [zw_w, List.getElem?_mapIdx, List.getElem?_set, List.length_mapIdx]
  by_cases h : i = j
  · subst h
    by_cases h2 : i < w.length
    · simp [h2]
    · simp [h2]
  · simp [h]
theorem zw_app {G : zw_G} {w : zw_W} {x : zw_C} : zw_w G (w ++ [x]) = zw_w G w ++ [(G.2.2.2.2 + w.length, zw_e G x)] := by
  simp [zw_w, List.mapIdx_append]
theorem zw_D {G : zw_G} {w : zw_W} : va_D (fun q => G.2.2.2.2 ≤ q) (zw_w G w) := by
  refine ⟨fun i j p q hi hj h => ?_, fun k q hk => ?_⟩
  · obtain ⟨x, -, rfl⟩ := zw_get hi
    obtain ⟨y, -, rfl⟩ := zw_get hj
    simp only at h
    omega
  · obtain ⟨x, -, rfl⟩ := zw_get hk
    exact Nat.le_add_right _ _
theorem zw_cat {G : zw_G} (v : Value) : (zw_v G v).category = v.category := by
  cases v <;> rfl
/-- which words stay true however far the tables have warmed -/
def zw_g (w : Cond) : Bool := match w with
  | .arrayClass _ => true
  | .fieldLinkNest _ _ _ _ _ _ => true
  | .methodLinkNest _ _ _ _ => true
  | .arrayOver (.object _) => true
  | .arrayOver (.array _) => true
  | .castable _ _ => true
  | w => w.onTables && w.keeps
theorem zw_aoa {t : FieldType} {A A' : Array Value} {u U : State} (hvm : u.vm.Alike U.vm) (h : (Cond.arrayOver (.array t)).before A u = true) : (Cond.arrayOver (.array t)).before A' U = true := by
  obtain ⟨comp, c, k, h1, h2, h3, h4, h5⟩ := arrayOverA_spec h
  obtain ⟨k', hk', he⟩ := hvm.2.2 _ _ h3
  have hi : (U.vm.classes.findIdx? fun (x : Class) => match x.kind with | .array component _ => component == comp | _ => false) = some c := by
    have a := va_idx_bare U.vm comp
    have b := va_idx_bare u.vm comp
    have e : U.vm.bare = u.vm.bare := by first | exact hvm.bare_eq | exact hvm.bare_eq.symm
    rw [e] at a
    exact (a.symm.trans b).trans h2
  have hkind : k'.kind = .array comp (.array t) := by rw [he]; exact h4
  have f1 : U.vm.findClass (FieldType.array t).toString = some comp := by rw [hvm.findClass]; exact h1
  have f2 : U.vm.findClass ("[" ++ (FieldType.array t).toString) = some c := by rw [hvm.findClass]; exact h5
  unfold Cond.before Cond.holds
  simp only [Cond.value]
  rw [f1, Option.bind_some]
  refine (congrArg (fun o : Option Nat => (o.bind (fun c => (U.vm.classes[c]?).map fun (k : Class) => match k.kind with | .array _ ty => decide (ty = FieldType.array t) && decide (U.vm.findClass ("[" ++ (FieldType.array t).toString) = some c) | _ => false) == some true)) hi).trans ?_
  simp [hk', hkind, f2]
theorem zw_warm {w : Cond} {a a' : Array Value} {s U : State} (hg : zw_g w = true) (hW : s.WarmedH U.vm) (h : w.before a s = true) : w.before a' U = true := by
  unfold zw_g at hg
  split at hg
  · exact word_at hW (Or.inr ⟨_, rfl⟩) h
  · exact va_Nw.use rfl (va_Nw.warmF hW (va_Nw.of rfl h))
  · exact va_Nw.use rfl (va_Nw.warmM hW (va_Nw.of rfl h))
  · exact va_AO.use (va_AO.moved hW.alike (va_AO.of h))
  · exact zw_aoa hW.alike h
  · exact va_Nw.use rfl (va_Nw.warmC hW (va_Nw.of rfl h))
  · exact word_at hW (Or.inl hg) h
def zw_T : List Cond := lw_tbl.filter zw_g
theorem zw_inT {w : Cond} (h : w ∈ lw_tbl) (hg : zw_g w = true) : w ∈ zw_T := List.mem_filter.mpr ⟨h, hg⟩
/-- locals -/
def zw_l (G : zw_G) (ls : List (Option Value)) : List (Nat × Value) := (List.range ls.length).filterMap (fun i => (ls[i]?.getD none).map (fun v => (i, zw_v G v)))
theorem zw_l_mem {G : zw_G} {ls : List (Option Value)} {q : Nat × Value} : q ∈ zw_l G ls ↔ ∃ v, ls[q.1]? = some (some v) ∧ q.2 = zw_v G v := by
  unfold zw_l
  rw [List.mem_filterMap]
  constructor
  · rintro ⟨i, -, h⟩
    cases hx : ls[i]? with
    | none => rw [hx] at h; cases h
    | some o =>
      cases o with
      | none => rw [hx] at h; cases h
      | some v =>
        rw [hx] at h
        cases h
        exact ⟨v, hx, rfl⟩
  · rintro ⟨v, h1, h2⟩
    refine ⟨q.1, List.mem_range.mpr (List.getElem?_eq_some_iff.mp h1).1, ?_⟩
    rw [h1]
    show some (q.1, zw_v G v) = some q
    rw [← h2]
def zw_L (G : zw_G) (n : Nat) (ls : List (Option Value)) (ls' : Array Slot) : Prop := lv_has ls' n (zw_l G ls)
theorem zw_L.at {G : zw_G} {n i : Nat} {ls : List (Option Value)} {ls' : Array Slot} {v : Value} (h : zw_L G n ls ls') (hi : ls[i]? = some (some v)) : ls'[i]? = some (.val (zw_v G v)) := h.2.2 (i, zw_v G v) (zw_l_mem.mpr ⟨v, hi, rfl⟩)
theorem zw_L.less {G : zw_G} {n : Nat} {ls l2 : List (Option Value)} {ls' : Array Slot} (h : zw_L G n ls ls') (hl : ∀ (i : Nat) (v : Value), l2[i]? = some (some v) → ls[i]? = some (some v)) : zw_L G n l2 ls' :=
  ⟨h.1, h.2.1, fun q hq => by
    obtain ⟨v, h1, h2⟩ := zw_l_mem.mp hq
    exact h.2.2 q (zw_l_mem.mpr ⟨v, hl _ _ h1, h2⟩)⟩
def zw_cut (ls : List (Option Value)) (i : Nat) : List (Option Value) := match i with
  | 0 => ls
  | j + 1 => match ls[j]? with
    | some (some u) => if u.category = 2 then ls.set j none else ls
    | _ => ls
def zw_st (ls : List (Option Value)) (i : Nat) (v : Value) : List (Option Value) := (zw_cut ls i).set i (some v)
def zw_st2 (ls : List (Option Value)) (i : Nat) (v : Value) : List (Option Value) := ((zw_cut ls i).set i (some v)).set (i + 1) none
theorem zw_cut_at {ls : List (Option Value)} {i j : Nat} {u : Value} (h : (zw_cut ls i)[j]? = some (some u)) : ls[j]? = some (some u) ∧ ¬ (j + 1 = i ∧ u.category = 2) := by
  cases i with
  | zero => exact ⟨h, fun q => by omega⟩
  | succ k =>
    unfold zw_cut at h
    simp only at h
    split at h
    · rename_i u' hu
      split at h
      · rename_i hc
        rw [List.getElem?_set] at h
        by_cases hk : k = j
        · subst hk
          by_cases hl : k < ls.length
          · simp [hl] at h
          · simp [hl] at h
        · simp only [hk, if_false] at h
          exact ⟨h, fun q => hk (by omega)⟩
      · rename_i hc
        refine ⟨h, fun q => ?_⟩
        have hk : k = j := by omega
        subst hk
        rw [hu] at h
        cases h
        exact hc q.2
    · rename_i hn
      refine ⟨h, fun q => ?_⟩
      have hk : k = j := by omega
      subst hk
      exact hn u h
theorem zw_L.st {G : zw_G} {n i : Nat} {ls : List (Option Value)} {l2 : Array Slot} {v : Value} (h : lv_has l2 n ((i, zw_v G v) :: (zw_l G ls).filter (fun q => !(q.1 == i) && !(q.1 + 1 == i && q.2.category == 2)))) : zw_L G n (zw_st ls i v) l2 := by
  refine ⟨h.1, h.2.1, fun q hq => h.2.2 q ?_⟩
  obtain ⟨u, h1, h2⟩ := zw_l_mem.mp hq
  unfold zw_st at h1
  rw [List.getElem?_set] at h1
  by_cases hi : i = q.1
  · rw [if_pos hi] at h1
    split at h1
    · cases h1
      rw [hi, ← h2]
      exact List.mem_cons_self
    · cases h1
  · rw [if_neg hi] at h1
    obtain ⟨a1, a2⟩ := zw_cut_at h1
    refine List.mem_cons_of_mem _ (List.mem_filter.mpr ⟨zw_l_mem.mpr ⟨u, a1, h2⟩, ?_⟩)
    rw [h2, zw_cat]
    have e1 : (q.1 == i) = false := by simpa using fun e => hi e.symm
    rw [e1]
    by_cases e2 : q.1 + 1 = i
    · have e3 : ¬ u.category = 2 := fun e => a2 ⟨e2, e⟩
      simp [e3]
    · simp [e2]
theorem zw_L.st2 {G : zw_G} {n i : Nat} {ls : List (Option Value)} {l2 : Array Slot} {v : Value} (h : lv_has l2 n ((i, zw_v G v) :: (zw_l G ls).filter (fun q => !(q.1 == i) && (!(q.1 == i + 1) && !(q.1 + 1 == i && q.2.category == 2))))) : zw_L G n (zw_st2 ls i v) l2 := by
  refine ⟨h.1, h.2.1, fun q hq => h.2.2 q ?_⟩
  obtain ⟨u, h1, h2⟩ := zw_l_mem.mp hq
  unfold zw_st2 at h1
  rw [List.getElem?_set] at h1
  by_cases hj : i + 1 = q.1
  · rw [if_pos hj] at h1
    split at h1 <;> cases h1
  rw [if_neg hj, List.getElem?_set] at h1
  by_cases hi : i = q.1
  · rw [if_pos hi] at h1
    split at h1
    · cases h1
      rw [hi, ← h2]
      exact List.mem_cons_self
    · cases h1
  · rw [if_neg hi] at h1
    obtain ⟨a1, a2⟩ := zw_cut_at h1
    refine List.mem_cons_of_mem _ (List.mem_filter.mpr ⟨zw_l_mem.mpr ⟨u, a1, h2⟩, ?_⟩)
    rw [h2, zw_cat]
    have e1 : (q.1 == i) = false := by simpa using fun e => hi e.symm
    have e4 : (q.1 == i + 1) = false := by simpa using fun e => hj e.symm
    rw [e1, e4]
    by_cases e2 : q.1 + 1 = i
    · have e3 : ¬ u.category = 2 := fun e => a2 ⟨e2, e⟩
      simp [e3]
    · simp [e2]
/-- a method's entry -/
def zw_sp : List Value → List (Option Value)
  | [] => []
  | v :: vs => if v.category = 2 then some v :: none :: zw_sp vs else some v :: zw_sp vs
def zw_in (n : Nat) (As : List Value) : List (Option Value) := zw_sp As ++ List.replicate (n - (zw_sp As).length) none
theorem zw_sp_len {G : zw_G} (As : List Value) : (lg_sl (As.map (zw_v G))).length = (zw_sp As).length := by
  induction As with
  | nil => rfl
  | cons v vs ih =>
    unfold lg_sl at ih ⊢
    rw [List.map_cons, List.flatMap_cons, List.length_append, ih, zw_cat, zw_sp]
    split <;> simp <;> omega
theorem zw_sp_args {G : zw_G} (As : List Value) : ∀ (k i : Nat) (v : Value), (zw_sp As)[i]? = some (some v) → (k + i, zw_v G v) ∈ lv_args k (As.map (zw_v G)) := by
  induction As with
  | nil => intro k i v h; simp [zw_sp] at h
  | cons u us ih =>
    intro k i v h
    rw [List.map_cons, lv_args, zw_cat]
    rw [zw_sp] at h
    split at h
    · rename_i hc
      rw [if_pos hc]
      match i, h with
      | 0, h => cases h; exact List.mem_cons_self
      | 1, h => cases h
      | i + 2, h =>
        have := ih (k + 2) i v h
        rw [show k + (i + 2) = k + 2 + i by omega]
        exact List.mem_cons_of_mem _ this
    · rename_i hc
      rw [if_neg hc]
      match i, h with
      | 0, h => cases h; exact List.mem_cons_self
      | i + 1, h =>
        have := ih (k + 1) i v h
        rw [show k + (i + 1) = k + 1 + i by omega]
        exact List.mem_cons_of_mem _ this
theorem zw_L.entry {G : zw_G} {n : Nat} {As : List Value} {ls' : Array Slot} (h : lv_has ls' n (lv_args 0 (As.map (zw_v G)))) : zw_L G n (zw_in n As) ls' := by
  refine ⟨h.1, h.2.1, fun q hq => h.2.2 q ?_⟩
  obtain ⟨u, h1, h2⟩ := zw_l_mem.mp hq
  unfold zw_in at h1
  rw [List.getElem?_append] at h1
  split at h1
  · have := zw_sp_args (G := G) As 0 q.1 u h1
    rw [Nat.zero_add, ← h2] at this
    exact this
  · rw [List.getElem?_replicate] at h1
    split at h1 <;> cases h1
/-- the array kinds: 0 int, 1 long, 2 Document, 3 int[] -/
def zw_ty (G : zw_G) : List (ClassId × FieldType) := [(G.2.2.1 0, .int), (G.2.2.1 1, .long), (G.2.2.1 2, .object "WordEvidence$Document"), (G.2.2.1 3, .array .int)]
/-- what stays during a method -/
def zw_F (G : zw_G) (Y : zw_Y) (E : State → Prop) (p : Program) (s : State) (m : MethodId) (args : Array Value) (meth : Method) (c : Code) : Prop :=
  p.tables.exec = Jvm.exec ∧ c.code = Y.2.1 ∧ c.maxLocals = Y.2.2.1 ∧ meth.sig.returnType = Y.2.2.2 ∧ meth.locks = false ∧ meth.name = Y.1.name ∧ s.vm.findClass Y.1.cls = some m.cls ∧ (∀ w ∈ zw_T, w.before args s = true) ∧ va_K G.2.1 vwCl (zw_ty G) s ∧ G.2.2.2.2 ≤ s.heap.size ∧ E s
/-- what changes -/
def zw_N (G : zw_G) (n κ : Nat) (ls : List (Option Value)) (w : zw_W) (s : State) (H : Heap) (locs : List Loc) (ls' : Array Slot) : Prop :=
  s.heap.size + κ = G.2.2.2.2 + w.length ∧ va_P G.2.1 vwCl (zw_w G w) H ∧ va_S (fun q => G.2.2.2.2 ≤ q) s.heap H locs ∧ zw_L G n ls ls'
def zw_Z (G : zw_G) (Y : zw_Y) (R : Room) (E : State → Prop) (Qf : zw_Qt) (κ σ pc : Nat) (ls : List (Option Value)) (st : List Value) (w : zw_W) : Prop :=
  ∀ (p : Program) (e : Env) (s : State) (m : MethodId) (args : Array Value) (below : List Frame) (meth : Method) (c : Code) (H : Heap) (locs : List Loc) (ls' : Array Slot), zw_F G Y E p s m args meth c → zw_N G Y.2.2.1 κ ls w s H locs ls' →
    W p G.1 e R s m args below meth c H locs κ σ (Qf below args s) (F0 m pc ls' (st.map (zw_v G)))
def zw_q (G : zw_G) (P : Option Value → zw_W → Prop) : Array Value → State → Outcome → State → Prop := fun _ st oc t =>
  (∃ (v : Option Value) (w : zw_W), oc = .returned (v.map (zw_v G)) ∧ P v w ∧ va_P G.2.1 vwCl (zw_w G w) t.heap) ∧ va_F (fun q => G.2.2.2.2 ≤ q) st t
def zw_Q (G : zw_G) (mc ms : Nat) (P : Option Value → zw_W → Prop) : zw_Qt := fun below args s => MQ below (zw_q G P) args s mc ms (fun q => G.2.2.2.2 ≤ q)
def zw_R (d mc ms : Nat) : Room := { frames := d, cells := mc, slots := ms, locals := 40 * d }
/-- a method's contract -/
def zw_Met (G : zw_G) (Y : zw_Y) (d mc ms : Nat) (As : List Value) (w : zw_W) (P : Option Value → zw_W → Prop) : Prop :=
  zw_Z G Y (zw_R d mc ms) (fun _ => True) (zw_Q G mc ms P) 0 0 0 (zw_in Y.2.2.1 As) [] w
def zw_Pre (G : zw_G) (w : zw_W) (U : State) : Prop := (∀ x ∈ zw_T, x.before #[] U = true) ∧ va_K G.2.1 vwCl (zw_ty G) U ∧ U.heap.size = G.2.2.2.2 + w.length ∧ va_P G.2.1 vwCl (zw_w G w) U.heap
theorem zw_T_warm {s U : State} {a a' : Array Value} (hW : s.WarmedH U.vm) (h : ∀ x ∈ zw_T, x.before a s = true) : ∀ x ∈ zw_T, x.before a' U = true := fun x hx => zw_warm (List.mem_filter.mp hx).2 hW (h x hx)
theorem zw_met {G : zw_G} {Y : zw_Y} {d mc ms : Nat} {As : List Value} {w : zw_W} {P : Option Value → zw_W → Prop} (hy : plainName Y.1.cls = true) (hlen : (zw_sp As).length ≤ Y.2.2.1) (h : zw_Met G Y d mc ms As w P) :
    Met G.1 Y.1 [Cond.code Y.1 Y.2.1 Y.2.2.1 Y.2.2.2] (zw_R d mc ms) (va_Pc (As.map (zw_v G)) (zw_Pre G w)) (zw_q G P) mc ms (fun q => G.2.2.2.2 ≤ q) := by
  refine Met.ofW (cc := Y.2.1) (maxL := Y.2.2.1) (ret := Y.2.2.2) hy rfl ?_
  intro p e s m args below meth c s₁ B hml hv
  obtain ⟨rfl, hT, hK, hz, hP⟩ := hv
  have hl := lv_entry (As.map (zw_v G)) (n := Y.2.2.1) (by rw [zw_sp_len]; exact hlen)
  rw [lg_entry_eq]
  exact h p e s m _ below meth c s.heap [] _ ⟨B.exec, B.bytes, hml, B.returns, B.notSynchronized, (name_of_methodNamed B.named B.method).1, findClass_of_methodNamed B.named, zw_T_warm (State.WarmedH.refl s) hT, hK, by omega, trivial⟩ ⟨by omega, hP, va_S.rf, zw_L.entry hl⟩
theorem zw_blind {G : zw_G} {w : zw_W} {av : List Value} : FrameBlind (va_Pc av (zw_Pre G w)) := fun a U g mk q => by
  obtain ⟨q0, qT, qK, qz, qP⟩ := q
  exact ⟨q0, zw_T_warm (s := U) (U := U.calling g mk a) (State.WarmedH.refl U) qT, va_K.moved (u := U) (U := U.calling g mk a) (Vm.Alike.refl U.vm) qK, qz, qP⟩
theorem zw_preS {G : zw_G} {w : zw_W} {s : State} {H : Heap} {args : Array Value} {As : List Value} (hT : ∀ x ∈ zw_T, x.before args s = true) (hK : va_K G.2.1 vwCl (zw_ty G) s) (hz : H.size = G.2.2.2.2 + w.length) (hP : va_P G.2.1 vwCl (zw_w G w) H) :
    PreS s H (va_Pc As (zw_Pre G w)) As := ⟨zw_blind, fun U hU hW => ⟨rfl, zw_T_warm hW hT, va_K.moved hW.alike hK, by rw [hU]; exact hz, by rw [hU]; exact hP⟩⟩
/-- the heap's size, out of the cells' count -/
theorem zw_size {G : zw_G} {κ σ n : Nat} {w : zw_W} {ls : List (Option Value)} {ls' : Array Slot} {p : Program} {e : Env} {R : Room} {s : State} {m : MethodId} {args : Array Value} {below : List Frame} {meth : Method} {c : Code} {H : Heap} {locs : List Loc} {T : State}
    (hb : G.2.2.2.2 ≤ s.heap.size) (N : zw_N G n κ ls w s H locs ls') (hT : T.heap = H) (X : Stand p G.1 e R s m args below meth c T locs κ σ) : H.size = G.2.2.2.2 + w.length := by
  obtain ⟨hk, hP, hS, -⟩ := N
  have h1 := X.heapSize
  rw [hT] at h1
  have h2 := hS.1
  by_cases h0 : w.length = 0
  · omega
  · obtain ⟨x, hx⟩ : ∃ x, w[w.length - 1]? = some x := ⟨w[w.length - 1], List.getElem?_eq_getElem (by omega)⟩
    have h3 := (hP _ _ (zw_at hx)).lt
    simp only at h3
    omega
end ZW
