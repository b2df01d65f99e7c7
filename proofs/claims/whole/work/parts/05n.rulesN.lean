section ZN
variable {G : zw_G} {Y : zw_Y} {R : Room} {E : State → Prop} {Qf : zw_Qt} {κ σ pc : Nat} {ls : List (Option Value)} {st : List Value} {w : zw_W}
theorem zr_iaddN {a b : Nat} (d : decode Y.2.1 pc = .ok (.iadd, 1)) (k : zw_Z G Y R E Qf κ σ (pc + 1) ls (.int (nI (a + b)) :: st) w) : zw_Z G Y R E Qf κ σ pc ls (.int (nI b) :: .int (nI a) :: st) w := zr_iadd d (zr_topI (nI_add a b) k)
theorem zr_isubN {a b : Nat} (h : b ≤ a) (d : decode Y.2.1 pc = .ok (.isub, 1)) (k : zw_Z G Y R E Qf κ σ (pc + 1) ls (.int (nI (a - b)) :: st) w) : zw_Z G Y R E Qf κ σ pc ls (.int (nI b) :: .int (nI a) :: st) w := zr_isub d (zr_topI (pk_sub h) k)
theorem zr_imulN {a b : Nat} (d : decode Y.2.1 pc = .ok (.imul, 1)) (k : zw_Z G Y R E Qf κ σ (pc + 1) ls (.int (nI (a * b)) :: st) w) : zw_Z G Y R E Qf κ σ pc ls (.int (nI b) :: .int (nI a) :: st) w := zr_imul d (zr_topI (pk_mul a b) k)
theorem zr_idivN {a b : Nat} (ha : a < 2 ^ 31) (h0 : 0 < b) (hb : b < 2 ^ 31) (d : decode Y.2.1 pc = .ok (.idiv, 1)) (k : zw_Z G Y R E Qf κ σ (pc + 1) ls (.int (nI (a / b)) :: st) w) : zw_Z G Y R E Qf κ σ pc ls (.int (nI b) :: .int (nI a) :: st) w := zr_idiv d (nI_ne0 h0 hb) (zr_topI (pk_div ha h0 hb) k)
theorem zr_iremN {a b : Nat} (ha : a < 2 ^ 31) (h0 : 0 < b) (hb : b < 2 ^ 31) (d : decode Y.2.1 pc = .ok (.irem, 1)) (k : zw_Z G Y R E Qf κ σ (pc + 1) ls (.int (nI (a % b)) :: st) w) : zw_Z G Y R E Qf κ σ pc ls (.int (nI b) :: .int (nI a) :: st) w := zr_irem d (nI_ne0 h0 hb) (zr_topI (pk_rem ha h0 hb) k)
theorem zr_if_eqN {a : Nat} {off : Int} {tgt : Nat} (ha : a < 2 ^ 31) (d : decode Y.2.1 pc = .ok (.ifCond .eq off, 3)) (ht : (pc : Int) + off = (tgt : Int)) (kt : a = 0 → zw_Z G Y R E Qf κ σ tgt ls st w) (kf : a ≠ 0 → zw_Z G Y R E Qf κ σ (pc + 3) ls st w) : zw_Z G Y R E Qf κ σ pc ls (.int (nI a) :: st) w := zr_if_eq d ht (fun z => kt (Nat.eq_zero_of_not_pos fun u => nI_ne0 u ha z)) (fun z => kf (fun u => z (by rw [u]; rfl)))
theorem zr_if_neN {a : Nat} {off : Int} {tgt : Nat} (ha : a < 2 ^ 31) (d : decode Y.2.1 pc = .ok (.ifCond .ne off, 3)) (ht : (pc : Int) + off = (tgt : Int)) (kt : a ≠ 0 → zw_Z G Y R E Qf κ σ tgt ls st w) (kf : a = 0 → zw_Z G Y R E Qf κ σ (pc + 3) ls st w) : zw_Z G Y R E Qf κ σ pc ls (.int (nI a) :: st) w := zr_if_ne d ht (fun z => kt (fun u => z (by rw [u]; rfl))) (fun z => kf (Nat.eq_zero_of_not_pos fun u => nI_ne0 u ha z))
theorem zr_if_ltN {a : Nat} {off : Int} {tgt : Nat} (ha : a < 2 ^ 31) (d : decode Y.2.1 pc = .ok (.ifCond .lt off, 3)) (ht : (pc : Int) + off = (tgt : Int)) (kt : False → zw_Z G Y R E Qf κ σ tgt ls st w) (kf : True → zw_Z G Y R E Qf κ σ (pc + 3) ls st w) : zw_Z G Y R E Qf κ σ pc ls (.int (nI a) :: st) w := zr_if_lt d ht (fun z => kt (nI_pos ha z)) (fun z => kf trivial)
theorem zr_if_geN {a : Nat} {off : Int} {tgt : Nat} (ha : a < 2 ^ 31) (d : decode Y.2.1 pc = .ok (.ifCond .ge off, 3)) (ht : (pc : Int) + off = (tgt : Int)) (kt : True → zw_Z G Y R E Qf κ σ tgt ls st w) (kf : False → zw_Z G Y R E Qf κ σ (pc + 3) ls st w) : zw_Z G Y R E Qf κ σ pc ls (.int (nI a) :: st) w := zr_if_ge d ht (fun z => kt trivial) (fun z => kf (z (nI_pos' ha)))
theorem zr_if_gtN {a : Nat} {off : Int} {tgt : Nat} (ha : a < 2 ^ 31) (d : decode Y.2.1 pc = .ok (.ifCond .gt off, 3)) (ht : (pc : Int) + off = (tgt : Int)) (kt : 0 < a → zw_Z G Y R E Qf κ σ tgt ls st w) (kf : a = 0 → zw_Z G Y R E Qf κ σ (pc + 3) ls st w) : zw_Z G Y R E Qf κ σ pc ls (.int (nI a) :: st) w := zr_if_gt d ht (fun z => kt (Nat.pos_of_ne_zero fun u => absurd (u ▸ z) (by decide))) (fun z => kf (Nat.eq_zero_of_not_pos fun u => z (Int32.not_le.mp (nI_nle u ha))))
theorem zr_if_leN {a : Nat} {off : Int} {tgt : Nat} (ha : a < 2 ^ 31) (d : decode Y.2.1 pc = .ok (.ifCond .le off, 3)) (ht : (pc : Int) + off = (tgt : Int)) (kt : a = 0 → zw_Z G Y R E Qf κ σ tgt ls st w) (kf : 0 < a → zw_Z G Y R E Qf κ σ (pc + 3) ls st w) : zw_Z G Y R E Qf κ σ pc ls (.int (nI a) :: st) w := zr_if_le d ht (fun z => kt (Nat.eq_zero_of_not_pos fun u => nI_nle u ha z)) (fun z => kf (Nat.pos_of_ne_zero fun u => z (by rw [u]; decide)))
/-- a boolean -/
def zw_b (p : Prop) [Decidable p] : Int32 := if p then 1 else 0
theorem zw_b1 {p : Prop} [Decidable p] (h : p) : zw_b p = 1 := if_pos h
theorem zw_b0 {p : Prop} [Decidable p] (h : ¬ p) : zw_b p = 0 := if_neg h
theorem zw_b_eq {p : Prop} [Decidable p] : zw_b p = 0 ↔ ¬ p := by
  unfold zw_b
  by_cases h : p <;> simp [h]
theorem zw_b_nar {p : Prop} [Decidable p] : narrow .boolean (.int (zw_b p)) = .int (zw_b p) := by
  unfold zw_b
  by_cases h : p
  · rw [if_pos h]; rfl
  · rw [if_neg h]; rfl
theorem zr_if_eqB {p : Prop} [Decidable p] {off : Int} {tgt : Nat} (d : decode Y.2.1 pc = .ok (.ifCond .eq off, 3)) (ht : (pc : Int) + off = (tgt : Int)) (kt : ¬ p → zw_Z G Y R E Qf κ σ tgt ls st w) (kf : p → zw_Z G Y R E Qf κ σ (pc + 3) ls st w) : zw_Z G Y R E Qf κ σ pc ls (.int (zw_b p) :: st) w := zr_if_eq d ht (fun z => kt (zw_b_eq.mp z)) (fun z => kf (Decidable.byContradiction fun u => z (zw_b_eq.mpr u)))
theorem zr_if_neB {p : Prop} [Decidable p] {off : Int} {tgt : Nat} (d : decode Y.2.1 pc = .ok (.ifCond .ne off, 3)) (ht : (pc : Int) + off = (tgt : Int)) (kt : p → zw_Z G Y R E Qf κ σ tgt ls st w) (kf : ¬ p → zw_Z G Y R E Qf κ σ (pc + 3) ls st w) : zw_Z G Y R E Qf κ σ pc ls (.int (zw_b p) :: st) w := zr_if_ne d ht (fun z => kt (Decidable.byContradiction fun u => z (zw_b_eq.mpr u))) (fun z => kf (zw_b_eq.mp z))
theorem zw_cmp0 {x y : Int64} : lg_cmp x y = 0 ↔ x = y := by
  unfold lg_cmp
  by_cases h1 : x > y
  · rw [if_pos h1]
    exact ⟨fun h => absurd h (by decide), fun h => absurd h1 (by rw [h]; exact Int64.lt_irrefl)⟩
  · rw [if_neg h1]
    by_cases h2 : x = y
    · simp [h2]
    · simp [h2]
theorem zw_cmpLe {x y : Int64} : lg_cmp x y ≤ 0 ↔ ¬ y < x := by
  unfold lg_cmp
  by_cases h1 : x > y
  · rw [if_pos h1]
    exact ⟨fun h => absurd h (by decide), fun h => absurd h1 h⟩
  · rw [if_neg h1]
    by_cases h2 : x = y
    · simp [h2, Int64.lt_irrefl]
    · rw [if_neg h2]
      exact ⟨fun _ => h1, fun _ => by decide⟩
theorem zr_lcmp_ne {x y : Int64} {off : Int} {tgt : Nat} (d : decode Y.2.1 pc = .ok (.lcmp, 1)) (d2 : decode Y.2.1 (pc + 1) = .ok (.ifCond .ne off, 3)) (ht : ((pc + 1 : Nat) : Int) + off = (tgt : Int)) (kt : x ≠ y → zw_Z G Y R E Qf κ σ tgt ls st w) (kf : x = y → zw_Z G Y R E Qf κ σ (pc + 1 + 3) ls st w) : zw_Z G Y R E Qf κ σ pc ls (.long y :: .long x :: st) w := zr_lcmp d (zr_if_ne d2 ht (fun z => kt (fun u => z (zw_cmp0.mpr u))) (fun z => kf (zw_cmp0.mp z)))
theorem zr_lcmp_eq {x y : Int64} {off : Int} {tgt : Nat} (d : decode Y.2.1 pc = .ok (.lcmp, 1)) (d2 : decode Y.2.1 (pc + 1) = .ok (.ifCond .eq off, 3)) (ht : ((pc + 1 : Nat) : Int) + off = (tgt : Int)) (kt : x = y → zw_Z G Y R E Qf κ σ tgt ls st w) (kf : x ≠ y → zw_Z G Y R E Qf κ σ (pc + 1 + 3) ls st w) : zw_Z G Y R E Qf κ σ pc ls (.long y :: .long x :: st) w := zr_lcmp d (zr_if_eq d2 ht (fun z => kt (zw_cmp0.mp z)) (fun z => kf (fun u => z (zw_cmp0.mpr u))))
theorem zr_lcmp_le {x y : Int64} {off : Int} {tgt : Nat} (d : decode Y.2.1 pc = .ok (.lcmp, 1)) (d2 : decode Y.2.1 (pc + 1) = .ok (.ifCond .le off, 3)) (ht : ((pc + 1 : Nat) : Int) + off = (tgt : Int)) (kt : ¬ y < x → zw_Z G Y R E Qf κ σ tgt ls st w) (kf : y < x → zw_Z G Y R E Qf κ σ (pc + 1 + 3) ls st w) : zw_Z G Y R E Qf κ σ pc ls (.long y :: .long x :: st) w := zr_lcmp d (zr_if_le d2 ht (fun z => kt (zw_cmpLe.mp z)) (fun z => kf (Decidable.byContradiction fun u => z (zw_cmpLe.mpr u))))
end ZN
