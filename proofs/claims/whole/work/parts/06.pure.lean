/-! PURE ROWS: sums, digits, words. -/
theorem wz_up {P : Nat → Prop} (n : Nat) (hs : ∀ i, i < n → P (i + 1) → P i) (hn : P n) : ∀ i, i ≤ n → P i := by
  intro i hi
  obtain ⟨k, hk⟩ : ∃ k, k = n - i := ⟨_, rfl⟩
  induction k generalizing i with
  | zero =>
    have : i = n := by omega
    rw [this]
    exact hn
  | succ k ih => exact hs i (by omega) (ih (i + 1) (by omega) (by omega))
def wn_sum (h : Nat → Nat) : Nat → Nat
  | 0 => 0
  | i + 1 => wn_sum h i + h i
theorem wn_sum_congr {h g : Nat → Nat} {n : Nat} (e : ∀ i, i < n → h i = g i) : wn_sum h n = wn_sum g n := by
  induction n with
  | zero => rfl
  | succ n ih => rw [wn_sum, wn_sum, ih (fun i hi => e i (by omega)), e n (by omega)]
theorem wn_sum_le {h : Nat → Nat} {b n : Nat} (e : ∀ i, i < n → h i ≤ b) : wn_sum h n ≤ b * n := by
  induction n with
  | zero => exact Nat.zero_le _
  | succ n ih =>
    have h1 := ih (fun i hi => e i (by omega))
    have h2 := e n (by omega)
    rw [wn_sum, Nat.mul_succ]
    omega
theorem wn_sum_mono {h : Nat → Nat} {i n : Nat} (e : i ≤ n) : wn_sum h i ≤ wn_sum h n := by
  induction n with
  | zero =>
    have : i = 0 := by omega
    rw [this]
    exact Nat.le_refl _
  | succ n ih =>
    by_cases hi : i = n + 1
    · rw [hi]; exact Nat.le_refl _
    · have := ih (by omega)
      rw [wn_sum]
      omega
theorem wn_sum_leS {h g : Nat → Nat} {n : Nat} (e : ∀ i, i < n → h i ≤ g i) : wn_sum h n ≤ wn_sum g n := by
  induction n with
  | zero => exact Nat.le_refl _
  | succ n ih =>
    have h1 := ih (fun i hi => e i (by omega))
    have h2 := e n (by omega)
    rw [wn_sum, wn_sum]
    omega
/-- digits -/
def wv (B : Nat) (f : Nat → Nat) : Nat → Nat
  | 0 => 0
  | i + 1 => wv B f i + f i * B ^ i
theorem wv_congr {B : Nat} {f g : Nat → Nat} {n : Nat} (e : ∀ i, i < n → f i = g i) : wv B f n = wv B g n := by
  induction n with
  | zero => rfl
  | succ n ih => rw [wv, wv, ih (fun i hi => e i (by omega)), e n (by omega)]
theorem wv_lt {B : Nat} {f : Nat → Nat} {n : Nat} (hf : ∀ i, i < n → f i < B) : wv B f n < B ^ n := by
  induction n with
  | zero => exact Nat.one_pos
  | succ n ih =>
    have h1 := ih (fun i hi => hf i (by omega))
    have h2 := hf n (by omega)
    have h3 : (f n + 1) * B ^ n ≤ B * B ^ n := Nat.mul_le_mul_right _ h2
    rw [Nat.add_mul, Nat.one_mul] at h3
    rw [wv, Nat.pow_succ, Nat.mul_comm (B ^ n) B]
    omega
theorem wv_cmp {B : Nat} {f g : Nat → Nat} {n k : Nat} (hf : ∀ i, i < n → f i < B) (hk : k < n) (hs : ∀ j, k < j → j < n → f j = g j) (hlt : f k < g k) : wv B f n < wv B g n := by
  induction n with
  | zero => omega
  | succ n ih =>
    rw [wv, wv]
    by_cases hkn : k = n
    · subst hkn
      have h1 := wv_lt (fun i hi => hf i (by omega)) (n := k)
      have h2 : (f k + 1) * B ^ k ≤ g k * B ^ k := Nat.mul_le_mul_right _ hlt
      rw [Nat.add_mul, Nat.one_mul] at h2
      omega
    · have h1 := ih (fun i hi => hf i (by omega)) (by omega) (fun j h1 h2 => hs j h1 (by omega))
      rw [hs n (by omega) (by omega)]
      omega
/-- times a number, digit by digit: the carry ahead of a digit -/
def wv_c (B q : Nat) (f : Nat → Nat) : Nat → Nat
  | 0 => 0
  | i + 1 => (f i * q + wv_c B q f i) / B
theorem wv_c_le {B q : Nat} {f : Nat → Nat} {n : Nat} (hB : 0 < B) (hf : ∀ i, i < n → f i < B) : ∀ i, i ≤ n → wv_c B q f i ≤ q := by
  intro i
  induction i with
  | zero => intro _; exact Nat.zero_le _
  | succ i ih =>
    intro hi
    have h1 := ih (by omega)
    have h2 := hf i (by omega)
    have h3 : (f i + 1) * q ≤ B * q := Nat.mul_le_mul_right _ h2
    rw [Nat.add_mul, Nat.one_mul] at h3
    rw [wv_c]
    apply Nat.div_le_of_le_mul
    omega
theorem wv_times {B q : Nat} {f : Nat → Nat} (n : Nat) : wv B (fun i => (f i * q + wv_c B q f i) % B) n + wv_c B q f n * B ^ n = wv B f n * q := by
  induction n with
  | zero => rw [wv, wv, wv_c, Nat.zero_mul, Nat.zero_mul]
  | succ n ih =>
    have h1 := Nat.div_add_mod (f n * q + wv_c B q f n) B
    have h2 : wv_c B q f (n + 1) = (f n * q + wv_c B q f n) / B := rfl
    rw [wv, wv, h2, Nat.pow_succ, Nat.add_mul, ← ih]
    have h3 : ((f n * q + wv_c B q f n) % B) * B ^ n + (f n * q + wv_c B q f n) / B * (B ^ n * B) = (f n * q + wv_c B q f n) * B ^ n := by
      rw [Nat.mul_comm (B ^ n) B, ← Nat.mul_assoc, ← Nat.add_mul]
      congr 1
      rw [Nat.mul_comm _ B]
      omega
    have h4 : (f n * q + wv_c B q f n) * B ^ n = f n * B ^ n * q + wv_c B q f n * B ^ n := by
      rw [Nat.add_mul, Nat.mul_right_comm]
    omega
/-- where the product fits, no carry is left -/
theorem wv_prod {B q n : Nat} {f : Nat → Nat} (hB : 0 < B) (h : wv B f n * q < B ^ n) : wv B (fun i => (f i * q + wv_c B q f i) % B) n = wv B f n * q := by
  have h1 := wv_times (B := B) (q := q) (f := f) n
  have h2 : wv_c B q f n = 0 := by
    rcases Nat.eq_zero_or_pos (wv_c B q f n) with h3 | h3
    · exact h3
    · have h4 : 1 * B ^ n ≤ wv_c B q f n * B ^ n := Nat.mul_le_mul_right _ h3
      omega
  rw [h2, Nat.zero_mul, Nat.add_zero] at h1
  exact h1
/-- a character in a word: its code, 0 where it parts words -/
def wf_fold (c : Nat) : Nat := if 65 ≤ c ∧ c ≤ 90 then c + 32 else if (97 ≤ c ∧ c ≤ 122) ∨ (48 ≤ c ∧ c ≤ 57) then c else 0
theorem wf_fold_lt (c : Nat) : wf_fold c < 128 := by
  unfold wf_fold
  split
  · omega
  · split <;> omega
/-- the words of a text: how many, each as its codes, and how long the last run is -/
abbrev wt_S : Type := Nat × (Nat → List Nat) × Nat
def wt_step (s : wt_S) (k : Nat) : wt_S :=
  if k = 0 then (s.1, s.2.1, 0)
  else if s.2.2 = 0 then (s.1 + 1, va_up s.2.1 s.1 [k], 1)
  else if s.2.2 < 8 then (s.1, va_up s.2.1 (s.1 - 1) (s.2.1 (s.1 - 1) ++ [k]), s.2.2 + 1)
  else (s.1, s.2.1, s.2.2 + 1)
def wt_of (x : Nat → Nat) : Nat → wt_S
  | 0 => (0, fun _ => [], 0)
  | n + 1 => wt_step (wt_of x n) (wf_fold (x n))
/-- a word: one to eight codes -/
def wd_ok (l : List Nat) : Prop := 0 < l.length ∧ l.length ≤ 8 ∧ ∀ k ∈ l, 0 < k ∧ k < 128
def wt_ok (n : Nat) (s : wt_S) : Prop := (2 * s.1 ≤ n + (if s.2.2 = 0 then 0 else 1)) ∧ (∀ i, i < s.1 → wd_ok (s.2.1 i)) ∧ (0 < s.2.2 → 0 < s.1 ∧ (s.2.1 (s.1 - 1)).length = if s.2.2 < 8 then s.2.2 else 8)
theorem wt_ok_step {n k : Nat} {s : wt_S} (h : wt_ok n s) (hk : k < 128) : wt_ok (n + 1) (wt_step s k) := by
  obtain ⟨m, W, r⟩ := s
  obtain ⟨h1, h2, h3⟩ := h
  simp only at h1 h2 h3
  unfold wt_step
  simp only
  split
  · refine ⟨?_, h2, fun h => absurd h (by simp)⟩
    simp only
    split at h1 <;> simp <;> omega
  · rename_i hk0
    split
    · rename_i hr
      refine ⟨?_, ?_, ?_⟩
      · simp only
        rw [if_pos hr] at h1
        simp
        omega
      · intro i hi
        simp only at hi ⊢
        unfold va_up
        split
        · exact ⟨by simp, by simp, fun q hq => by
            rw [List.mem_singleton] at hq
            omega⟩
        · exact h2 i (by omega)
      · intro _
        simp [va_up]
    · rename_i hr
      have h4 := h3 (by omega)
      rw [if_neg hr] at h1
      split
      · rename_i h8
        rw [if_pos h8] at h4
        refine ⟨?_, ?_, ?_⟩
        · simp
          omega
        · intro i hi
          simp only at hi ⊢
          unfold va_up
          split
          · rename_i hi2
            have h5 := h2 (m - 1) (by omega)
            refine ⟨by simp, by simp; omega, fun q hq => ?_⟩
            rcases List.mem_append.mp hq with h6 | h6
            · exact h5.2.2 q h6
            · rw [List.mem_singleton] at h6
              omega
          · exact h2 i hi
        · intro _
          refine ⟨h4.1, ?_⟩
          simp only [va_up, if_true, List.length_append, List.length_cons, List.length_nil]
          split <;> omega
      · rename_i h8
        rw [if_neg h8] at h4
        refine ⟨?_, h2, fun _ => ⟨h4.1, ?_⟩⟩
        · simp
          omega
        · simp only
          rw [if_neg (by omega)]
          exact h4.2
theorem wt_of_ok (x : Nat → Nat) (n : Nat) : wt_ok n (wt_of x n) := by
  induction n with
  | zero => exact ⟨by simp [wt_of], fun i hi => by simp [wt_of] at hi, fun h => by simp [wt_of] at h⟩
  | succ n ih => exact wt_ok_step ih (wf_fold_lt _)
theorem wt_of_le (x : Nat → Nat) {n : Nat} (h : n ≤ 40) : (wt_of x n).1 ≤ 20 := by
  have h1 := (wt_of_ok x n).1
  split at h1 <;> omega
theorem wt_of_congr {x y : Nat → Nat} {n : Nat} (h : ∀ i, i < n → x i = y i) : wt_of x n = wt_of y n := by
  induction n with
  | zero => rfl
  | succ n ih => rw [wt_of, wt_of, ih (fun i hi => h i (by omega)), h n (by omega)]
/-- the class's number of a word: the first code lowest, eight bits each -/
def we_a : List Nat → Nat
  | [] => 0
  | k :: l => k + 256 * we_a l
/-- the reference's: the first code highest, base 128 -/
def we_b (l : List Nat) : Nat := l.foldl (fun a k => 128 * a + k) 0
theorem we_a_snoc (l : List Nat) (k : Nat) : we_a (l ++ [k]) = we_a l + k * 256 ^ l.length := by
  induction l with
  | nil => simp [we_a]
  | cons u l ih =>
    rw [List.cons_append, we_a, we_a, ih, List.length_cons, Nat.pow_succ, Nat.mul_add, Nat.mul_comm (256 ^ l.length) 256, Nat.mul_left_comm k 256]
    omega
theorem we_b_snoc (l : List Nat) (k : Nat) : we_b (l ++ [k]) = 128 * we_b l + k := by
  simp [we_b]
theorem we_a_lt (l : List Nat) (h : ∀ k ∈ l, k < 128) : we_a l < 256 ^ l.length := by
  induction l with
  | nil => exact Nat.one_pos
  | cons u l ih =>
    have h1 := ih (fun k hk => h k (List.mem_cons_of_mem _ hk))
    have h2 := h u List.mem_cons_self
    rw [we_a, List.length_cons, Nat.pow_succ]
    omega
theorem we_a_lt2 (l : List Nat) (h : ∀ k ∈ l, k < 128) (h8 : l.length ≤ 8) : we_a l < 2 ^ 63 := by
  match l, h, h8 with
  | [], _, _ => exact Nat.two_pow_pos 63
  | [a], h, _ => have := h a (by simp); simp [we_a]; omega
  | [a, b], h, _ => have := h a (by simp); have := h b (by simp); simp [we_a]; omega
  | [a, b, c], h, _ => have := h a (by simp); have := h b (by simp); have := h c (by simp); simp [we_a]; omega
  | [a, b, c, d], h, _ => have := h a (by simp); have := h b (by simp); have := h c (by simp); have := h d (by simp); simp [we_a]; omega
  | [a, b, c, d, e], h, _ => have := h a (by simp); have := h b (by simp); have := h c (by simp); have := h d (by simp); have := h e (by simp); simp [we_a]; omega
  | [a, b, c, d, e, f], h, _ => have := h a (by simp); have := h b (by simp); have := h c (by simp); have := h d (by simp); have := h e (by simp); have := h f (by simp); simp [we_a]; omega
  | [a, b, c, d, e, f, g], h, _ => have := h a (by simp); have := h b (by simp); have := h c (by simp); have := h d (by simp); have := h e (by simp); have := h f (by simp); have := h g (by simp); simp [we_a]; omega
  | [a, b, c, d, e, f, g, i], h, _ => have := h a (by simp); have := h b (by simp); have := h c (by simp); have := h d (by simp); have := h e (by simp); have := h f (by simp); have := h g (by simp); have := h i (by simp); simp [we_a]; omega
  | a :: b :: c :: d :: e :: f :: g :: i :: j :: l, _, h8 => simp at h8
theorem we_b_acc (l : List Nat) : ∀ a : Nat, l.foldl (fun a k => 128 * a + k) a = a * 128 ^ l.length + we_b l := by
  unfold we_b
  induction l with
  | nil => intro a; simp
  | cons k l ih =>
    intro a
    rw [List.foldl_cons, List.foldl_cons, ih, ih (128 * 0 + k), List.length_cons, Nat.pow_succ, Nat.add_mul, Nat.mul_zero, Nat.zero_add, Nat.mul_comm (128 ^ l.length) 128, ← Nat.mul_assoc, Nat.mul_comm a 128]
    omega
theorem we_b_cons (k : Nat) (l : List Nat) : we_b (k :: l) = k * 128 ^ l.length + we_b l := by
  have h := we_b_acc l k
  unfold we_b at h ⊢
  rw [List.foldl_cons, Nat.mul_zero, Nat.zero_add]
  exact h
theorem we_b_lt (l : List Nat) (h : ∀ k ∈ l, k < 128) : we_b l < 128 ^ l.length := by
  induction l with
  | nil => exact Nat.one_pos
  | cons u l ih =>
    have h1 := ih (fun k hk => h k (List.mem_cons_of_mem _ hk))
    have h2 : (u + 1) * 128 ^ l.length ≤ 128 * 128 ^ l.length := Nat.mul_le_mul_right _ (h u List.mem_cons_self)
    rw [Nat.add_mul, Nat.one_mul] at h2
    rw [we_b_cons, List.length_cons, Nat.pow_succ, Nat.mul_comm (128 ^ l.length) 128]
    omega
theorem we_b_lt2 (l : List Nat) (h : ∀ k ∈ l, k < 128) (h8 : l.length ≤ 8) : we_b l < 2 ^ 56 := by
  have h1 := we_b_lt l h
  have h2 : 128 ^ l.length ≤ 128 ^ 8 := Nat.pow_le_pow_right (by omega) h8
  have h3 : (128 : Nat) ^ 8 = 2 ^ 56 := by decide
  omega
theorem we_a_inj : ∀ (l m : List Nat), (∀ k ∈ l, 0 < k ∧ k < 128) → (∀ k ∈ m, 0 < k ∧ k < 128) → we_a l = we_a m → l = m
  | [], [], _, _, _ => rfl
  | [], b :: m, _, hm, e => by
    have := hm b List.mem_cons_self
    rw [we_a, we_a] at e
    omega
  | a :: l, [], hl, _, e => by
    have := hl a List.mem_cons_self
    rw [we_a, we_a] at e
    omega
  | a :: l, b :: m, hl, hm, e => by
    have h1 := hl a List.mem_cons_self
    have h2 := hm b List.mem_cons_self
    rw [we_a, we_a] at e
    have h3 : a = b := by omega
    have h4 : we_a l = we_a m := by omega
    rw [h3, we_a_inj l m (fun k hk => hl k (List.mem_cons_of_mem _ hk)) (fun k hk => hm k (List.mem_cons_of_mem _ hk)) h4]
theorem we_b_injL : ∀ (l m : List Nat), l.length = m.length → (∀ k ∈ l, k < 128) → (∀ k ∈ m, k < 128) → we_b l = we_b m → l = m
  | [], [], _, _, _, _ => rfl
  | [], b :: m, h, _, _, _ => by simp at h
  | a :: l, [], h, _, _, _ => by simp at h
  | a :: l, b :: m, h, hl, hm, e => by
    have hlen : l.length = m.length := by simpa using h
    have g1 := we_b_lt l (fun k hk => hl k (List.mem_cons_of_mem _ hk))
    have g2 := we_b_lt m (fun k hk => hm k (List.mem_cons_of_mem _ hk))
    rw [we_b_cons, we_b_cons, hlen] at e
    rw [hlen] at g1
    have h3 : a = b := by
      rcases Nat.lt_trichotomy a b with q | q | q
      · have : (a + 1) * 128 ^ m.length ≤ b * 128 ^ m.length := Nat.mul_le_mul_right _ q
        rw [Nat.add_mul, Nat.one_mul] at this
        omega
      · exact q
      · have : (b + 1) * 128 ^ m.length ≤ a * 128 ^ m.length := Nat.mul_le_mul_right _ q
        rw [Nat.add_mul, Nat.one_mul] at this
        omega
    subst h3
    rw [we_b_injL l m hlen (fun k hk => hl k (List.mem_cons_of_mem _ hk)) (fun k hk => hm k (List.mem_cons_of_mem _ hk)) (by omega)]
theorem we_b_ge {a : Nat} {l : List Nat} (h : 0 < a) : 128 ^ l.length ≤ we_b (a :: l) := by
  rw [we_b_cons]
  have : 1 * 128 ^ l.length ≤ a * 128 ^ l.length := Nat.mul_le_mul_right _ h
  omega
theorem we_b_inj {l m : List Nat} (hl : wd_ok l) (hm : wd_ok m) (e : we_b l = we_b m) : l = m := by
  refine we_b_injL l m ?_ (fun k hk => (hl.2.2 k hk).2) (fun k hk => (hm.2.2 k hk).2) e
  have key : ∀ (x y : List Nat), wd_ok x → wd_ok y → we_b x = we_b y → x.length ≤ y.length := by
    intro x y hx hy he
    match x, hx with
    | [], hx => exact Nat.zero_le _
    | a :: x, hx =>
      have h1 := we_b_ge (l := x) (hx.2.2 a List.mem_cons_self).1
      have h2 := we_b_lt y (fun k hk => (hy.2.2 k hk).2)
      have h3 : 128 ^ x.length < 128 ^ y.length := by omega
      have h4 : x.length < y.length := (Nat.pow_lt_pow_iff_right (by omega)).mp h3
      rw [List.length_cons]
      omega
  exact Nat.le_antisymm (key l m hl hm e) (key m l hm hl e.symm)
theorem we_ab {l m : List Nat} (hl : wd_ok l) (hm : wd_ok m) : (we_a l = we_a m ↔ l = m) ∧ (we_b l = we_b m ↔ l = m) :=
  ⟨⟨fun h => we_a_inj l m hl.2.2 hm.2.2 h, fun h => by rw [h]⟩, ⟨fun h => we_b_inj hl hm h, fun h => by rw [h]⟩⟩
