/-! clone of a long[], and the cast behind it -/
section ZL
variable {G : zw_G} {Y : zw_Y} {R : Room} {E : State → Prop} {Qf : zw_Qt} {κ σ pc : Nat} {ls : List (Option Value)} {st : List Value} {w : zw_W} {idx : Nat}
theorem zr_clone {i n : Nat} {f : Nat → Int64} (h1 : Cond.methodLink Y.1.cls idx ⟨"[J", "clone", "()Ljava/lang/Object;"⟩ ∈ zw_T) (h2 : Cond.sameMethod "[J" "java/lang/Object" "clone" "()Ljava/lang/Object;" ∈ zw_T) (h3 : Cond.native ⟨"java/lang/Object", "clone", "()Ljava/lang/Object;"⟩ ∈ zw_T) (h4 : Cond.instanceMethod ⟨"java/lang/Object", "clone", "()Ljava/lang/Object;"⟩ ∈ zw_T) (h5 : Cond.selects "[J" ⟨"[J", "clone", "()Ljava/lang/Object;"⟩ ⟨"java/lang/Object", "clone", "()Ljava/lang/Object;"⟩ ∈ zw_T) (h6 : Cond.castable "[J" "java/lang/Cloneable" ∈ zw_T)
    (d : decode Y.2.1 pc = .ok (.invokevirtual idx, 3)) (he : w[i]? = some (.inl (1, n, .inr (.inl f)))) (hR : 1 ≤ R.frames ∧ (st.map fun v => v.category).sum + 14 ≤ R.locals ∧ κ + 1 ≤ R.cells ∧ σ + n ≤ R.slots)
    (kk : zw_Z G Y R E Qf (κ + 1) (σ + n) (pc + 3) ls (.ref (w.length + 1) :: st) (w ++ [.inl (1, n, .inr (.inl f))])) : zw_Z G Y R E Qf κ σ pc ls (.ref (i + 1) :: st) w := by
  intro p e s m args below meth c H locs ls' F N
  obtain ⟨hx, hb, hml, -, -, -, hown, hts, hK, hbs, -⟩ := id F
  refine va_clone hx hb (by rw [hml]; exact N.2.2.2.1.symm) hown (hts _ h1) (hts _ h2) (hts _ h3) (hts _ h4) (hts _ h5) (va_Nw.of rfl (hts _ h6)) hK N.2.1 zw_D N.2.2.1 (fun q h => Nat.le_trans hbs h) i 1 (ty := .long) (zw_at he) rfl (hK.2 1 _ rfl).2 (fun j v hv => ?_) hR.1 ?_ hR.2.2.1 hR.2.2.2 d (fun q H1 hK2 hP hD hS => ?_)
  · have hv2 : (arrV (G.2.2.1 1) n (fun j => .long (f j))).slots[j]? = some v := hv
    by_cases hj : j < n
    · rw [arrV_read _ _ hj] at hv2
      cases hv2
      rfl
    · have hz := (Array.getElem?_eq_some_iff.mp hv2).1
      rw [arrV_size] at hz
      exact absurd hz hj
  · rw [List.map_map, show ((fun v : Value => v.category) ∘ zw_v G) = fun v => v.category from funext (fun v => zw_cat v)]
    exact hR.2.1
  · intro T1 hT X
    have hz := X.heapSize
    rw [hT] at hz
    have hq := zw_new hP hD (by have := N.1; omega)
    subst hq
    exact kk p e s m args below meth c H1 locs ls' F ⟨by rw [List.length_append]; have := N.1; simp; omega, by rw [zw_app]; exact hP, hS, N.2.2.2⟩ T1 hT X
theorem zr_castJ {i : Nat} {a : vp_A} (h1 : Cond.classLink Y.1.cls idx "[J" ∈ zw_T) (d : decode Y.2.1 pc = .ok (.checkcast idx, 3)) (he : w[i]? = some (.inl (1, a))) (kk : zw_Z G Y R E Qf κ σ (pc + 3) ls (.ref (i + 1) :: st) w) : zw_Z G Y R E Qf κ σ pc ls (.ref (i + 1) :: st) w := by
  intro p e s m args below meth c H locs ls' F N
  obtain ⟨hx, hb, hml, -, -, -, hown, hts, hK, hbs, -⟩ := id F
  exact va_castA hx hb hown (hts _ h1) N.2.1 i (zw_at he) (hK.2 1 _ rfl).2 d (kk p e s m args below meth c H locs ls' F N)
end ZL
