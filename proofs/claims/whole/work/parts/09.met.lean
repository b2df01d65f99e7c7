/-- a contract's end, said otherwise -/
theorem zw_Z.post {G : zw_G} {Y : zw_Y} {R : Room} {E : State → Prop} {mc ms κ σ pc : Nat} {ls : List (Option Value)} {st : List Value} {w : zw_W} {P Q : Option Value → zw_W → Prop} (h : zw_Z G Y R E (zw_Q G mc ms P) κ σ pc ls st w) (hpq : ∀ v w2, P v w2 → Q v w2) : zw_Z G Y R E (zw_Q G mc ms Q) κ σ pc ls st w := by
  intro p e s m args below meth c H locs ls' F N T hT X
  obtain ⟨t, a1, o, b1, b2, ⟨⟨v, w2, c1, c2, c3⟩, c4⟩, c5⟩ := h p e s m args below meth c H locs ls' F N T hT X
  exact ⟨t, a1, o, b1, b2, ⟨⟨v, w2, c1, hpq v w2 c2, c3⟩, c4⟩, c5⟩
theorem zw_Met.post {G : zw_G} {Y : zw_Y} {d mc ms : Nat} {As : List Value} {w : zw_W} {P Q : Option Value → zw_W → Prop} (h : zw_Met G Y d mc ms As w P) (hpq : ∀ v w2, P v w2 → Q v w2) : zw_Met G Y d mc ms As w Q := zw_Z.post h hpq
