/-! class and reference side by side: what each cell of a changed state holds -/
theorem zm_at {σ : zm_S} {k i k' j : Nat} {x : Int32} : (zm_set σ k i x).1 k' j = if k' = k ∧ j = i then x else σ.1 k' j := by
  unfold zm_set upd
  by_cases h : k' = k
  · subst h; by_cases h2 : j = i <;> simp [h2]
  · simp [h]
theorem zm_at2 {σ : zm_S} {k i : Nat} {x : Int32} : (zm_set σ k i x).2 = σ.2 := rfl
theorem zm_atL {σ : zm_S} {k i k' j : Nat} {x : Int64} : (zm_setL σ k i x).2 k' j = if k' = k ∧ j = i then x else σ.2 k' j := by
  unfold zm_setL vp_updL
  by_cases h : k' = k
  · subst h; by_cases h2 : j = i <;> simp [h2]
  · simp [h]
theorem zm_atL1 {σ : zm_S} {k i : Nat} {x : Int64} : (zm_setL σ k i x).1 = σ.1 := rfl
theorem zx_at {τ : zx_S} {o i o' j : Nat} {n : Int32} : (zxI τ o i n o').1 j = if o' = o ∧ j = i then n else (τ o').1 j := by
  unfold zxI zx_up upd
  by_cases h : o' = o
  · subst h; by_cases h2 : j = i <;> simp [h2]
  · simp [h]
theorem zx_at2 {τ : zx_S} {o i o' : Nat} {n : Int32} : (zxI τ o i n o').2 = (τ o').2 := by
  unfold zxI zx_up
  by_cases h : o' = o
  · subst h; simp
  · simp [h]
theorem zxT_1 {τ : zx_S} {o o' : Nat} {n : Int64} : (zxT τ o n o').1 = (τ o').1 := by
  unfold zxT zx_up
  by_cases h : o' = o
  · subst h; simp
  · simp [h]
theorem zxT_21 {τ : zx_S} {o o' : Nat} {n : Int64} : (zxT τ o n o').2.1 = if o' = o then n else (τ o').2.1 := by
  unfold zxT zx_up
  by_cases h : o' = o
  · subst h; simp
  · simp [h]
theorem zxT_22 {τ : zx_S} {o o' : Nat} {n : Int64} : (zxT τ o n o').2.2 = (τ o').2.2 := by
  unfold zxT zx_up
  by_cases h : o' = o
  · subst h; simp
  · simp [h]
theorem zxG_1 {τ : zx_S} {o i a o' : Nat} : (zxG τ o i a o').1 = (τ o').1 := by
  unfold zxG zx_up
  by_cases h : o' = o
  · subst h; simp
  · simp [h]
theorem zxG_21 {τ : zx_S} {o i a o' : Nat} : (zxG τ o i a o').2.1 = (τ o').2.1 := by
  unfold zxG zx_up
  by_cases h : o' = o
  · subst h; simp
  · simp [h]
theorem zxG_3 {τ : zx_S} {o i a o' j : Nat} : (zxG τ o i a o').2.2.1 j = if o' = o ∧ j = i then some a else (τ o').2.2.1 j := by
  unfold zxG zx_up va_up
  by_cases h : o' = o
  · subst h; by_cases h2 : j = i <;> simp [h2]
  · simp [h]
theorem zxG_4 {τ : zx_S} {o i a o' : Nat} : (zxG τ o i a o').2.2.2 = (τ o').2.2.2 := by
  unfold zxG zx_up
  by_cases h : o' = o
  · subst h; simp
  · simp [h]
theorem zxD_1 {τ : zx_S} {d o' : Nat} : (zxD τ d o').1 = (τ o').1 := by
  unfold zxD zx_up
  by_cases h : o' = 0
  · subst h; simp
  · simp [h]
theorem zxD_21 {τ : zx_S} {d o' : Nat} : (zxD τ d o').2.1 = (τ o').2.1 := by
  unfold zxD zx_up
  by_cases h : o' = 0
  · subst h; simp
  · simp [h]
theorem zxD_3 {τ : zx_S} {d o' : Nat} : (zxD τ d o').2.2.1 = (τ o').2.2.1 := by
  unfold zxD zx_up
  by_cases h : o' = 0
  · subst h; simp
  · simp [h]
theorem zxD_4 {τ : zx_S} {d o' : Nat} : (zxD τ d o').2.2.2 = if o' = 0 then d else (τ o').2.2.2 := by
  unfold zxD zx_up
  by_cases h : o' = 0
  · subst h; simp
  · simp [h]
/-! sums -/
def zl_sum (f : Nat → Int32) : Nat → Int32
  | 0 => 0
  | i + 1 => zl_sum f i + f i
theorem zl_sum_c {f g : Nat → Int32} : ∀ n, (∀ i, i < n → f i = g i) → zl_sum f n = zl_sum g n
  | 0, _ => rfl
  | n + 1, h => by rw [zl_sum, zl_sum, zl_sum_c n (fun i hi => h i (by omega)), h n (by omega)]
theorem zl_sum_0 {f : Nat → Int32} : ∀ n, (∀ i, i < n → f i = 0) → zl_sum f n = 0
  | 0, _ => rfl
  | n + 1, h => by rw [zl_sum, zl_sum_0 n (fun i hi => h i (by omega)), h n (by omega)]; rfl
theorem zl_sum_1 {f g : Nat → Int32} {t : Nat} : ∀ n, t < n → (∀ i, i < n → i ≠ t → f i = g i) → zl_sum f n = zl_sum g n - g t + f t
  | 0, h, _ => absurd h (by omega)
  | n + 1, ht, h => by
    rw [zl_sum, zl_sum]
    by_cases e : t = n
    · subst e
      rw [zl_sum_c t (fun i hi => h i (by omega) (by omega)), Int32.add_sub_cancel]
    · rw [zl_sum_1 n (by omega) (fun i hi => h i (by omega)), h n (by omega) (by omega)]
      simp only [Int32.sub_eq_add_neg, Int32.add_assoc]
      congr 1
      rw [Int32.add_comm (g n), Int32.add_assoc, Int32.add_comm (f t)]
theorem zl_sum_a {f : Nat → Int32} {a : Nat} : ∀ b, zl_sum f (a + b) = zl_sum f a + zl_sum (fun i => f (a + i)) b
  | 0 => by rw [Nat.add_zero, zl_sum, Int32.add_zero]
  | b + 1 => by rw [← Nat.add_assoc, zl_sum, zl_sum, zl_sum_a b, Int32.add_assoc]
/-! the reference's own functions -/
theorem zm_lies_c {σ σ' : zm_S} {a a' g : Nat} : ∀ n, (∀ i, i < n → ∀ k, k = 3 ∨ k = 4 ∨ k = 5 → σ'.1 k (a' + i) = σ.1 k (a + i)) → zm_lies σ' a' g n = zm_lies σ a g n
  | 0, _ => rfl
  | n + 1, h => by
    rw [zm_lies, zm_lies, zm_lies_c n (fun i hi => h i (by omega)), h n (by omega) 3 (Or.inl rfl), h n (by omega) 4 (Or.inr (Or.inl rfl)), h n (by omega) 5 (Or.inr (Or.inr rfl))]
theorem zm_cp1_at {σ : zm_S} {a b k j : Nat} (hk : k = 3 ∨ k = 4 ∨ k = 5) : (zm_cp1 σ a b).1 k j = if j = a then σ.1 k b else σ.1 k j := by
  unfold zm_cp1
  rcases hk with rfl | rfl | rfl <;> (simp only [zm_at]; by_cases h : j = a <;> simp [h])
theorem zm_copy_at {σ : zm_S} {tg a k : Nat} (hk : k = 3 ∨ k = 4 ∨ k = 5) : ∀ n, (tg ≤ a ∨ a + n ≤ tg) → ∀ j, (zm_copy σ tg a n).1 k j = if tg ≤ j ∧ j < tg + n then σ.1 k (a + (j - tg)) else σ.1 k j
  | 0, _, j => by rw [zm_copy, if_neg (by omega)]
  | n + 1, h, j => by
    rw [zm_copy, zm_cp1_at hk, zm_copy_at hk n (by omega) j, zm_copy_at hk n (by omega) (a + n)]
    by_cases h1 : j = tg + n
    · subst h1
      rw [if_pos rfl, if_neg (by omega), if_pos (by omega), show a + (tg + n - tg) = a + n by omega]
    · rw [if_neg h1]
      by_cases h2 : tg ≤ j ∧ j < tg + n
      · rw [if_pos h2, if_pos (by omega)]
      · rw [if_neg h2, if_neg (by omega)]
theorem zm_lies_give {σ : zm_S} {port a parts at2 g : Nat} {n : Int32} (i k : Nat) : zm_lies (zm_give σ port a parts n i) at2 g k = zm_lies σ at2 g k :=
  zm_lies_c k (fun j _ q hq => by rw [zm_give_o (by omega)])
theorem zm_give_at {σ : zm_S} {port a parts : Nat} {n : Int32} : ∀ m j, (zm_give σ port a parts n m).1 2 j = if 16 * port ≤ j ∧ j < 16 * port + m then σ.1 2 j + n * zm_lies σ a (j - 16 * port) parts else σ.1 2 j
  | 0, j => by rw [zm_give, if_neg (by omega)]
  | m + 1, j => by
    rw [zm_give, zm_at]
    by_cases h1 : j = 16 * port + m
    · subst h1
      rw [if_pos ⟨rfl, rfl⟩, if_pos (by omega), zm_give_at m, if_neg (by omega), zm_lies_give, show 16 * port + m - 16 * port = m by omega]
    · rw [if_neg (by omega), zm_give_at m]
      by_cases h2 : 16 * port ≤ j ∧ j < 16 * port + m
      · rw [if_pos h2, if_pos (by omega)]
      · rw [if_neg h2, if_neg (by omega)]
theorem zx_mov_own {τ : zx_S} {port : Nat} {f : Nat → Int32} {n : Int32} (hp : port < 4) : ∀ m j, (zx_mov τ port f n m (10 + 3 * port + 1)).1 j = if j < m then (τ (10 + 3 * port + 1)).1 j - n * f j else (τ (10 + 3 * port + 1)).1 j
  | 0, j => by rw [zx_mov, if_neg (by omega)]
  | m + 1, j => by
    rw [zx_mov, zx_at, if_neg (by omega), zx_at]
    by_cases h1 : j = m
    · subst h1
      rw [if_pos ⟨rfl, rfl⟩, if_pos (by omega), zx_mov_own hp j, if_neg (by omega)]
    · rw [if_neg (by omega), zx_mov_own hp m]
      by_cases h2 : j < m
      · rw [if_pos h2, if_pos (by omega)]
      · rw [if_neg h2, if_neg (by omega)]
theorem zx_mov_sold {τ : zx_S} {port : Nat} {f : Nat → Int32} {n : Int32} (hp : port < 4) : ∀ m j, (zx_mov τ port f n m 3).1 j = if j < m then (τ 3).1 j + n * f j else (τ 3).1 j
  | 0, j => by rw [zx_mov, if_neg (by omega)]
  | m + 1, j => by
    rw [zx_mov, zx_at, zx_at, if_neg (by omega : ¬ (3 = 10 + 3 * port + 1 ∧ m = m)), zx_at, if_neg (by omega : ¬ (3 = 10 + 3 * port + 1 ∧ j = m))]
    by_cases h1 : j = m
    · subst h1
      rw [if_pos ⟨rfl, rfl⟩, if_pos (by omega), zx_mov_sold hp j, if_neg (by omega)]
    · rw [if_neg (by omega), zx_mov_sold hp m]
      by_cases h2 : j < m
      · rw [if_pos h2, if_pos (by omega)]
      · rw [if_neg h2, if_neg (by omega)]
theorem zx_mov_2 {τ : zx_S} {port : Nat} {f : Nat → Int32} {n : Int32} : ∀ m q, (zx_mov τ port f n m q).2 = (τ q).2
  | 0, q => rfl
  | m + 1, q => by rw [zx_mov, zx_at2, zx_at2]; exact zx_mov_2 m q
theorem zm_fits_01 {σ : zm_S} {port a parts : Nat} {n : Int32} : ∀ i, zm_fits σ port a parts n i = nI 1 ∨ zm_fits σ port a parts n i = nI 0
  | 0 => Or.inl rfl
  | i + 1 => by
    rw [zm_fits]
    split
    · exact Or.inr rfl
    · split
      · exact Or.inl rfl
      · exact Or.inr rfl
theorem zm_fits_0 {σ : zm_S} {port a parts : Nat} {n : Int32} : ∀ i, ¬ zm_fits σ port a parts n i = 0 ↔ ∀ k, k < i → n * zm_lies σ a k parts ≤ σ.1 2 (16 * port + k)
  | 0 => ⟨fun _ k hk => absurd hk (by omega), fun _ => by rw [zm_fits]; decide⟩
  | i + 1 => by
    have ih := zm_fits_0 (σ := σ) (port := port) (a := a) (parts := parts) (n := n) i
    rw [zm_fits]
    by_cases h : zm_fits σ port a parts n i = 0
    · rw [if_pos h]
      refine ⟨fun q => absurd nI_0 q, fun q => absurd h (ih.mpr fun k hk => q k (by omega))⟩
    · rw [if_neg h]
      have h2 := ih.mp h
      by_cases h3 : n * zm_lies σ a i parts ≤ σ.1 2 (16 * port + i)
      · rw [if_pos h3]
        refine ⟨fun _ k hk => ?_, fun _ => by decide⟩
        by_cases e : k = i
        · subst e; exact h3
        · exact h2 k (by omega)
      · rw [if_neg h3]
        exact ⟨fun q => absurd nI_0 q, fun q => absurd (q i (by omega)) h3⟩
theorem zx_fit_0 {τ : zx_S} {i : Nat} {f : Nat → Int32} {n : Int32} : ¬ zx_fit τ i f n = 0 ↔ ∀ k, k < 16 → ¬ (τ (10 + 3 * i + 1)).1 k < n * f k := by
  unfold zx_fit
  by_cases h : ∀ k, k < 16 → ¬ (τ (10 + 3 * i + 1)).1 k < n * f k
  · rw [if_pos h]; exact ⟨fun _ => h, fun _ => by decide⟩
  · rw [if_neg h]; exact ⟨fun q => absurd nI_0 q, fun q => absurd q h⟩
