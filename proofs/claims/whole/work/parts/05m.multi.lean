/-! new int[4][20]: the outer array, then its four rows. -/
section ZM
def zm_in (cB : ClassId) : Cell := arrV cB 20 (fun _ => .int 0)
def zm_out (cX : ClassId) (h i : Nat) : Cell := arrV cX 4 (fun j => if j < i then .ref (h + 1 + j) else .null)
def zm_fill (s : State) (cX cB : ClassId) : Nat → State
  | 0 => s.pushCell (zm_out cX s.heap.size 0)
  | i + 1 => ((zm_fill s cX cB i).pushCell (zm_in cB)).setCell s.heap.size (zm_out cX s.heap.size (i + 1))
theorem zm_out_next (cX : ClassId) (h i : Nat) : (zm_out cX h i).setSlot i (.ref (h + 1 + i)) = zm_out cX h (i + 1) := by
  unfold zm_out
  rw [arrV_store]
  congr 1
  funext j
  unfold updV
  by_cases e : j = i
  · subst e
    simp
  · rw [if_neg e]
    show (if j < i then Value.ref (h + 1 + j) else Value.null) = if j < i + 1 then Value.ref (h + 1 + j) else Value.null
    by_cases hj : j < i
    · rw [if_pos hj, if_pos (by omega)]
    · rw [if_neg hj, if_neg (by omega)]
theorem zm_facts (s : State) (cX cB : ClassId) : ∀ i, (zm_fill s cX cB i).heap.size = s.heap.size + 1 + i ∧ (zm_fill s cX cB i).heap[s.heap.size]? = some (zm_out cX s.heap.size i) ∧ (zm_fill s cX cB i).vm = s.vm ∧ (zm_fill s cX cB i).slotsUsed = s.slotsUsed + 4 + i * 20
  | 0 => ⟨by simp [zm_fill], by simp [zm_fill], rfl, by simp [zm_fill, zm_out, arrV_size]⟩
  | i + 1 => by
    obtain ⟨a, b, d, u⟩ := zm_facts s cX cB i
    have hlt : s.heap.size < (zm_fill s cX cB i).heap.size := by omega
    have hb : ((zm_fill s cX cB i).pushCell (zm_in cB)).heap[s.heap.size]? = some (zm_out cX s.heap.size i) := by rw [State.heap_pushCell_of_lt (h := hlt)]; exact b
    refine ⟨?_, State.heap_setCell_self hb, by simp [zm_fill, d], ?_⟩
    · simp [zm_fill, State.setCell, a]; omega
    · simp [zm_fill, u, zm_in, arrV_size]; omega
theorem zm_top (s : State) (f : JFrame) (cX cB : ClassId) : ∀ i, zm_fill (s.setTop f) cX cB i = (zm_fill s cX cB i).setTop f
  | 0 => rfl
  | i + 1 => by simp only [zm_fill, zm_top s f cX cB i, State.heap_setTop, State.pushCell_setTop, State.setCell_setTop]
theorem zm_old (s : State) (cX cB : ClassId) {a : Addr} (ha : a < s.heap.size) : ∀ i, (zm_fill s cX cB i).heap[a]? = s.heap[a]?
  | 0 => State.heap_pushCell_of_lt _ _ ha
  | i + 1 => by
    have f1 := (zm_facts s cX cB i).1
    have hlt : a < (zm_fill s cX cB i).heap.size := Nat.lt_of_lt_of_le ha (by rw [f1]; omega)
    show (((zm_fill s cX cB i).pushCell (zm_in cB)).setCell s.heap.size _).heap[a]? = _
    rw [State.heap_setCell_other (Nat.ne_of_gt ha), State.heap_pushCell_of_lt (h := hlt)]
    exact zm_old s cX cB ha i
theorem zm_row (s : State) (cX cB : ClassId) : ∀ i j, j < i → (zm_fill s cX cB i).heap[s.heap.size + 1 + j]? = some (zm_in cB)
  | 0, _, h => absurd h (Nat.not_lt_zero _)
  | i + 1, j, h => by
    have f1 := (zm_facts s cX cB i).1
    show (((zm_fill s cX cB i).pushCell (zm_in cB)).setCell s.heap.size _).heap[s.heap.size + 1 + j]? = _
    rw [State.heap_setCell_other (show s.heap.size ≠ s.heap.size + 1 + j by omega)]
    rcases Nat.lt_or_ge j i with hj | hj
    · have hlt : s.heap.size + 1 + j < (zm_fill s cX cB i).heap.size := by rw [f1]; omega
      rw [State.heap_pushCell_of_lt (h := hlt)]
      exact zm_row s cX cB i j hj
    · have e : j = i := by omega
      subst e
      rw [← f1]
      exact State.heap_pushCell_size _ _
section
variable {E : CtlPost} {e : Env} {d : Bool} {acts : List Action} {s : State}
theorem zm_newArray {cX comp : ClassId} {k : Class} {ty : FieldType} {len : Nat} {init : Value} (hk : s.vm.classes[cX]? = some k) (hkind : k.kind = .array comp ty)
    (hlimit : ¬ len > e.platform.arrayLengthLimit) (hheap : ¬ len * componentBytes ty > e.platform.maxHeapBytes) (hfit : fits ty init = true) (hdef : init.isDefault = true) {Q : Addr → Pre}
    (h1 : s.heap.size < e.platform.maxCells) (h2 : s.slotsUsed + len ≤ e.platform.maxSlots)
    (hq : Q s.heap.size d acts (s.pushCell (arrV cX len (fun _ => init)))) :
    wp (Jvm.newArray cX len init) Q E e d acts s := by
  have hfits : ∀ i v, (Array.replicate len init)[i]? = some v → s.fitsSlot cX .none i v = true := by
    intro i v hv
    rw [Array.getElem?_replicate] at hv
    split at hv
    · cases hv
      simp [State.fitsSlot, State.slotType?, hk, hkind, hfit]
    · cases hv
  have hda : allocActs (Array.replicate len init) s.heap.size acts = acts := by
    unfold allocActs
    rw [if_pos]
    rw [Array.all_replicate]
    split <;> simp [hdef]
  rw [← arrV_new] at hq
  simp only [Jvm.newArray, Jvm.arrayFits, wp_bind', W.ask, W.ite, hlimit, if_false, wp_pure', W.theClass, hk, hkind, hheap, W.alloc, W.stop, Option.some.injEq, exists_eq_left', Array.size_replicate, hda]
  rw [if_neg (by omega)]
  exact ⟨h1, h2, hfits, hq⟩
theorem zm_make1 {cB cc : ClassId} {kc : Class} (hkc : s.vm.classes[cB]? = some kc) (hkindc : kc.kind = .array cc .int)
    (hl : ¬ 20 > e.platform.arrayLengthLimit) (hh : ¬ 20 * 4 > e.platform.maxHeapBytes) (h1 : s.heap.size < e.platform.maxCells) (h2 : s.slotsUsed + 20 ≤ e.platform.maxSlots)
    {Q : Addr → Pre} (hq : Q s.heap.size d acts (s.pushCell (zm_in cB))) : wp (multianewarray.make cB [nI 20]) Q E e d acts s := by
  have h0 : ¬ nI 20 < 0 := by decide
  have hc : (nI 20).toNatClampNeg = 20 := by decide
  rw [multianewarray.make]
  simp only [wp_bind', W.ite, h0, if_false, wp_pure', W.theClass, hkc, hkindc, Option.some.injEq, exists_eq_left', hc]
  exact zm_newArray hkc hkindc hl hh rfl rfl h1 h2 hq
theorem zm_make2 {cX cB cc : ClassId} {k kc : Class} (hk : s.vm.classes[cX]? = some k) (hkind : k.kind = .array cB (.array .int)) (hkc : s.vm.classes[cB]? = some kc) (hkindc : kc.kind = .array cc .int)
    (hl : ¬ 20 > e.platform.arrayLengthLimit) (hh : ¬ 20 * 4 > e.platform.maxHeapBytes) (hl4 : ¬ 4 > e.platform.arrayLengthLimit) (hh4 : ¬ 4 * 4 > e.platform.maxHeapBytes) (h1 : s.heap.size + 5 ≤ e.platform.maxCells) (h2 : s.slotsUsed + 84 ≤ e.platform.maxSlots)
    {Q : Addr → Pre} (hq : ∀ d' acts', Q s.heap.size d' acts' (zm_fill s cX cB 4)) : wp (multianewarray.make cX [nI 4, nI 20]) Q E e d acts s := by
  have h0 : ¬ nI 4 < 0 := by decide
  have hc : (nI 4).toNatClampNeg = 4 := by decide
  have hfind : ([nI 20].find? (· < 0)) = none := by decide
  rw [multianewarray.make]
  simp only [wp_bind', W.ite, h0, if_false, wp_pure', W.theClass, hk, hkind, Option.some.injEq, exists_eq_left', hc]
  refine zm_newArray hk hkind hl4 hh4 rfl rfl (by omega) (by omega) ?_
  simp only [hfind]
  rw [ite_self, wp_bind', Std.Legacy.Range.forIn_eq_forIn_range']
  have hsz : ([:4] : Std.Legacy.Range).size = 4 := by decide
  rw [hsz]
  show wp (forIn (List.range' 0 4 1) PUnit.unit _) _ E e d acts _
  refine wp_forIn_inv (fun rest s' => ∃ i, i ≤ 4 ∧ rest = List.range' i (4 - i) ∧ s' = zm_fill s cX cB i) _ _ ⟨0, Nat.zero_le _, rfl, rfl⟩ ?_ ?_
  · rintro x rest s' d' acts' Q' ⟨i, hi, hl', rfl⟩ hnext
    have hlt : i < 4 := by
      rcases Nat.lt_or_ge i 4 with h | h
      · exact h
      · rw [show 4 - i = 0 by omega] at hl'
        simp at hl'
    obtain ⟨rfl, hrest⟩ : x = i ∧ rest = List.range' (i + 1) (4 - (i + 1)) := by
      rw [show 4 - i = (4 - (i + 1)) + 1 by omega, List.range'_succ] at hl'
      exact ⟨(List.cons.inj hl').1, (List.cons.inj hl').2⟩
    obtain ⟨f1, f2, f3, f4⟩ := zm_facts s cX cB x
    simp only [wp_bind']
    refine zm_make1 (by rw [f3]; exact hkc) hkindc hl hh (by rw [f1]; omega) (by rw [f4]; omega) ?_
    have hlt0 : s.heap.size < (zm_fill s cX cB x).heap.size := by rw [f1]; omega
    simp only [wp_bind', W.writeLoc, wp_pure']
    refine ⟨zm_out cX s.heap.size x, by rw [State.heap_pushCell_of_lt (h := hlt0)]; exact f2, by simp [zm_out, arrV], by rw [zm_out, arrV_size]; exact hlt, ?_, hnext _ _ _ ⟨x + 1, hlt, hrest, ?_⟩⟩
    · simp [zm_out, arrV, State.fitsSlot, State.slotType?, f3, hk, hkind, fits]
    · rw [f1, zm_out_next]
      rfl
  · rintro s' d' acts' ⟨i, hi, hl', rfl⟩
    have hiN : i = 4 := by
      rcases Nat.lt_or_ge i 4 with h | h
      · rw [show 4 - i = (4 - (i + 1)) + 1 by omega, List.range'_succ] at hl'
        cases hl'
      · omega
    subst hiN
    simp only [wp_pure']
    exact hq _ _
end
section
variable {p : Program} {l : Launch} {e : Env} {R : Room} {s : State} {m : MethodId} {args : Array Value} {below : List Frame} {meth : Method} {c : Code} {T : State} {locs : List Loc} {cells slots : Nat}
theorem zm_stand (X : Stand p l e R s m args below meth c T locs cells slots) (cX cB : ClassId) :
    ∀ i, Stand p l e R s m args below meth c (zm_fill T cX cB i) (locs ++ (List.range i).map fun j => ⟨T.heap.size, j⟩) (cells + 1 + i) (slots + 4 + i * 20)
  | 0 => by
    have h := X.pushed (zm_out cX T.heap.size 0)
    rw [show (zm_out cX T.heap.size 0).slots.size = 4 from arrV_size _ _ _] at h
    simpa [zm_fill] using h
  | i + 1 => by
    have Xi := zm_stand X cX cB i
    obtain ⟨f1, f2, f3, f4⟩ := zm_facts T cX cB i
    have hlt0 : T.heap.size < (zm_fill T cX cB i).heap.size := by rw [f1]; omega
    have hcell : ((zm_fill T cX cB i).pushCell (zm_in cB)).heap[T.heap.size]? = some (zm_out cX T.heap.size i) := by rw [State.heap_pushCell_of_lt (h := hlt0)]; exact f2
    have h := (Xi.pushed (zm_in cB)).stored hcell i (.ref (T.heap.size + 1 + i))
    rw [show (zm_in cB).slots.size = 20 from arrV_size _ _ _, zm_out_next] at h
    have e2 : (locs ++ (List.range (i + 1)).map fun j => (⟨T.heap.size, j⟩ : Loc)) = (locs ++ (List.range i).map fun j => (⟨T.heap.size, j⟩ : Loc)) ++ [⟨T.heap.size, i⟩] := by simp [List.range_succ, List.append_assoc]
    rw [e2, show slots + 4 + (i + 1) * 20 = slots + 4 + i * 20 + 20 by omega]
    exact h
theorem zm_step (X : Stand p l e R s m args below meth c T locs cells slots) (hexec : p.tables.exec = Jvm.exec) {own : String} {index : Nat} (hown : s.vm.findClass own = some m.cls) (hclink : (Cond.classLink own index "[[I").before args s = true)
    (hover : (Cond.arrayOver (.array .int)).before args s = true) (harr : (Cond.arrayClass .int).before args s = true)
    {g : JFrame} (hg : g.method = m) (hdg : decode c.code g.pc = .ok (.multianewarray index 2, 4)) {rest : List Value} (hstack : g.stack = .int (nI 20) :: .int (nI 4) :: rest) (hcells : cells + 5 ≤ R.cells) (hslots : slots + 84 ≤ R.slots) :
    ∃ (vm₁ : Vm) (cX cB : ClassId), s.vm.findClass "[[I" = some cX ∧ s.vm.findClass "[I" = some cB ∧
      Stand p l e R s m args below meth c (zm_fill (T.setVm vm₁) cX cB 4) (locs ++ (List.range 4).map fun j => ⟨T.heap.size, j⟩) (cells + 5) (slots + 84) ∧
      ∀ target, Steps p.tables e below ((zm_fill (T.setVm vm₁) cX cB 4).setTop { g with pc := g.pc + 4, stack := .ref T.heap.size :: rest }) target → Steps p.tables e below (T.setTop g) target := by
  subst hg
  have hpl : e.platform.magicAccessors = ({} : Platform).magicAccessors := by rw [X.admits.platform]
  obtain ⟨cB, cX, kA, hcomp, -, hkA, hkindA, hnameA⟩ := arrayOverA_spec hover
  obtain ⟨cB', kC, cc, hcomp', hkC, hkindC⟩ := Cond.arrayClass_spec harr
  have ecomp : cB' = cB := Option.some.inj (hcomp'.symm.trans hcomp)
  subst ecomp
  obtain ⟨c0, hfc0, hcl⟩ := Cond.classLink_spec hown hclink e.platform hpl
  cases hnameA.symm.trans hfc0
  obtain ⟨hg₁, hwarm₁, hready₁⟩ := State.classEntry (e := e) X.warmed hcl
  generalize T.vm.noted g.method.cls index (.cls cX) = vm₁ at hg₁ hwarm₁ hready₁
  have hal : s.vm.Alike vm₁ := hwarm₁.alike
  obtain ⟨kA₁, hkA₁, heA⟩ := hal.2.2 _ _ hkA
  obtain ⟨kC₁, hkC₁, heC⟩ := hal.2.2 _ _ hkC
  have hkindA₁ : kA₁.kind = .array cB' (.array .int) := by rw [heA]; exact hkindA
  have hkindC₁ : kC₁.kind = .array cc .int := by rw [heC]; exact hkindC
  have X₁ := X.noted hwarm₁
  obtain ⟨hr1, hr2⟩ := X.roomAbove hcells hslots
  refine ⟨vm₁, cX, cB', hnameA, hcomp, zm_stand X₁ cX cB' 4, fun target hrest => ?_⟩
  have hl4 : ¬ 4 > e.platform.arrayLengthLimit := by rw [Launch.admits_arrayLengthLimit X.admits]; omega
  have hh4 : ¬ 4 * 4 > e.platform.maxHeapBytes := by rw [Launch.admits_maxHeapBytes X.admits]; omega
  have hl : ¬ 20 > e.platform.arrayLengthLimit := by rw [Launch.admits_arrayLengthLimit X.admits]; omega
  have hh : ¬ 20 * 4 > e.platform.maxHeapBytes := by rw [Launch.admits_maxHeapBytes X.admits]; omega
  jvm_step X.here [hexec, hdg]
  simp only [multianewarray.sem, wp_bind', W.resolveClassAt_links (State.method?_setTop g X.here.top) hg₁]
  rw [W.popN, if_neg (by decide)]
  refine ⟨g, State.topJava?_setTop' (s := T.setVm vm₁) g X.here.top, [.int (nI 4), .int (nI 20)], rest, rfl, hstack, ?_⟩
  simp only [List.mapM_cons, List.mapM_nil, wp_bind', wp_pure']
  refine zm_make2 hkA₁ hkindA₁ hkC₁ hkindC₁ hl hh hl4 hh4 (by show T.heap.size + 5 ≤ _; omega) (by show T.slotsUsed + 84 ≤ _; omega) (fun d' acts' => ?_)
  have XF := zm_stand X₁ cX cB' 4
  have eS : ((T.setTop g).setVm vm₁).setTop { g with stack := rest } = (T.setVm vm₁).setTop { g with stack := rest } := by
    show ((T.setVm vm₁).setTop g).setTop _ = _
    rw [State.setTop_setTop]
  rw [eS, zm_top]
  simp only [wp_bind', W.mark, W.pushRef, State.topJava?_setTop' _ XF.here.top, Option.some.injEq, exists_eq_left', State.setTop_setTop, State.heap_setTop]
  intro acts
  simp [jvm, XF.here.top]
  exact hrest
end
theorem zm_outG (G : zw_G) (n : Nat) : zm_out (G.2.2.1 3) (G.2.2.2.2 + n) 4 = arrV (G.2.2.1 3) 4 (fun j => va_rf ((if j < 4 then some (n + 2 + j) else none).map (zw_ad G))) := by
  unfold zm_out
  have e : (fun j => if j < 4 then Value.ref (G.2.2.2.2 + n + 1 + j) else Value.null) = (fun j => va_rf ((if j < 4 then some (n + 2 + j) else none).map (zw_ad G))) := by
    funext j
    by_cases hj : j < 4
    · rw [if_pos hj, if_pos hj, show n + 2 + j = (n + 1 + j) + 1 by omega, show G.2.2.2.2 + n + 1 + j = G.2.2.2.2 + (n + 1 + j) by omega]
      rfl
    · rw [if_neg hj, if_neg hj]
      rfl
  rw [e]
theorem zr_multi {G : zw_G} {Y : zw_Y} {R : Room} {E : State → Prop} {Qf : zw_Qt} {κ σ pc : Nat} {ls : List (Option Value)} {st : List Value} {w : zw_W} {idx : Nat} (h1 : Cond.classLink Y.1.cls idx "[[I" ∈ zw_T) (h2 : Cond.arrayOver (.array .int) ∈ zw_T) (h3 : Cond.arrayClass .int ∈ zw_T) (d : decode Y.2.1 pc = .ok (.multianewarray idx 2, 4)) (hR : κ + 5 ≤ R.cells ∧ σ + 84 ≤ R.slots)
    (kk : zw_Z G Y R E Qf (κ + 5) (σ + 84) (pc + 4) ls (.ref (w.length + 1) :: st) (w ++ [.inl (3, 4, .inr (.inr (.inr (.inr (fun j => if j < 4 then some (w.length + 2 + j) else none))))), .inl (0, 20, .inl (fun _ => 0)), .inl (0, 20, .inl (fun _ => 0)), .inl (0, 20, .inl (fun _ => 0)), .inl (0, 20, .inl (fun _ => 0))])) : zw_Z G Y R E Qf κ σ pc ls (.int (nI 20) :: .int (nI 4) :: st) w := by
  intro p e s m args below meth c H locs ls' F N T hT X
  obtain ⟨hx, hb, hml, -, -, -, hown, hts, hK, hbs, -⟩ := id F
  have hz := zw_size hbs N hT X
  obtain ⟨vm₁, cX, cB, n1, n2, X', stp⟩ := zm_step X hx hown (hts _ h1) (hts _ h2) (hts _ h3) (g := F0 m pc ls' _) rfl (by rw [hb]; exact d) (rest := st.map (zw_v G)) rfl hR.1 hR.2
  have eX : cX = G.2.2.1 3 := Option.some.inj (n1.symm.trans (hK.2 3 _ rfl).2)
  have eB : cB = G.2.2.1 0 := Option.some.inj (n2.symm.trans (hK.2 0 _ rfl).2)
  subst eX
  subst eB
  have hh : (T.setVm vm₁).heap = H := hT
  have hsz : (T.setVm vm₁).heap.size = G.2.2.2.2 + w.length := by rw [hh]; exact hz
  obtain ⟨f1, f2, -, -⟩ := zm_facts (T.setVm vm₁) (G.2.2.1 3) (G.2.2.1 0) 4
  have hN : zw_N G Y.2.2.1 (κ + 5) ls (w ++ [.inl (3, 4, .inr (.inr (.inr (.inr (fun j => if j < 4 then some (w.length + 2 + j) else none))))), .inl (0, 20, .inl (fun _ => 0)), .inl (0, 20, .inl (fun _ => 0)), .inl (0, 20, .inl (fun _ => 0)), .inl (0, 20, .inl (fun _ => 0))]) s (zm_fill (T.setVm vm₁) (G.2.2.1 3) (G.2.2.1 0) 4).heap (locs ++ (List.range 4).map fun j => ⟨T.heap.size, j⟩) ls' := by
    refine ⟨?_, ?_, ?_, N.2.2.2⟩
    · rw [List.length_append]
      have := N.1
      simp only [List.length_cons, List.length_nil]
      omega
    · intro k q hq
      obtain ⟨x, hx1, rfl⟩ := zw_get hq
      rw [List.getElem?_append] at hx1
      split at hx1
      · rename_i hk
        refine (N.2.1 k _ (zw_at hx1)).kept ?_
        show (zm_fill _ _ _ 4).heap[G.2.2.2.2 + k]? = H[G.2.2.2.2 + k]?
        rw [zm_old _ _ _ (by rw [hsz]; exact Nat.add_lt_add_left hk _) 4, hh]
      · rename_i hk
        obtain ⟨j, rfl⟩ : ∃ j, k = w.length + j := ⟨k - w.length, by omega⟩
        rw [Nat.add_sub_cancel_left] at hx1
        have row : ∀ j, j < 4 → (zm_fill (T.setVm vm₁) (G.2.2.1 3) (G.2.2.1 0) 4).heap[G.2.2.2.2 + (w.length + (j + 1))]? = some (vp_cell (G.2.2.1 0) (20, .inl (fun _ => 0))) := fun j hj => by
          have := zm_row (T.setVm vm₁) (G.2.2.1 3) (G.2.2.1 0) 4 j hj
          rw [hsz, show G.2.2.2.2 + w.length + 1 + j = G.2.2.2.2 + (w.length + (j + 1)) by omega] at this
          exact this
        match j, hx1 with
        | 0, hx1 =>
          cases hx1
          show (zm_fill (T.setVm vm₁) (G.2.2.1 3) (G.2.2.1 0) 4).heap[G.2.2.2.2 + (w.length + 0)]? = some (arrV (G.2.2.1 3) 4 (fun j => va_rf ((if j < 4 then some (w.length + 2 + j) else none).map (zw_ad G))))
          rw [hsz] at f2
          rw [Nat.add_zero, f2]
          exact congrArg some (zm_outG G w.length)
        | 1, hx1 => cases hx1; exact row 0 (by omega)
        | 2, hx1 => cases hx1; exact row 1 (by omega)
        | 3, hx1 => cases hx1; exact row 2 (by omega)
        | 4, hx1 => cases hx1; exact row 3 (by omega)
        | j + 5, hx1 => simp at hx1
    · have hS := N.2.2.1
      refine ⟨by rw [f1, hsz]; have := hS.1; omega, fun q g1 g2 => ?_, fun q hq => ?_⟩
      · rw [zm_old _ _ _ (by rw [hsz, ← hz]; exact Nat.lt_of_lt_of_le g1 hS.1) 4, hh]
        exact hS.2.1 q g1 g2
      · rcases List.mem_append.mp hq with h | h
        · exact hS.2.2 q h
        · obtain ⟨z, -, hz2⟩ := List.mem_map.mp h
          rw [← hz2]
          show G.2.2.2.2 ≤ T.heap.size
          rw [hT, hz]
          omega
  obtain ⟨t, a1, b1⟩ := kk p e s m args below meth c _ _ ls' F hN (zm_fill (T.setVm vm₁) (G.2.2.1 3) (G.2.2.1 0) 4) rfl X'
  refine ⟨t, stp t ?_, b1⟩
  have e1 : (.ref (w.length + 1) :: st : List Value).map (zw_v G) = .ref T.heap.size :: st.map (zw_v G) := by
    rw [List.map_cons, hT, hz]
    rfl
  rw [e1] at a1
  exact a1
end ZM
