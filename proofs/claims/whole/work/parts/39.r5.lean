/-! receipts, transfers, arrivals -/
theorem zm_rcp_at {σ : zm_S} {p g an b : Nat} (hn : ∀ i, i < b → σ.1 20 (8 * p + i) = nI (g + 1 + i)) (hb : g + b < 2 ^ 31) (h1 : g ≤ an) (h2 : an ≤ g + b) : ∀ i, i ≤ b → (zm_rcp σ p (nI an) i).2 = i - (an - g) ∧ (∀ k j, (zm_rcp σ p (nI an) i).1.1 k j = if 20 ≤ k ∧ k ≤ 22 ∧ 8 * p ≤ j ∧ j < 8 * p + (i - (an - g)) then σ.1 k (j + (an - g)) else σ.1 k j) ∧ (zm_rcp σ p (nI an) i).1.2 = σ.2
  | 0, _ => ⟨by rw [zm_rcp]; show 0 = _; omega, fun k j => by rw [zm_rcp, if_neg (by omega)], rfl⟩
  | i + 1, hi => by
    obtain ⟨e1, e2, e3⟩ := zm_rcp_at hn hb h1 h2 i (by omega)
    have q20 : ∀ k, (zm_rcp σ p (nI an) i).1.1 k (8 * p + i) = σ.1 k (8 * p + i) := fun k => by
      rw [e2]
      by_cases hc : an - g = 0
      · rw [hc, Nat.add_zero]; exact ite_self _
      · rw [if_neg (by omega)]
    rw [zm_rcp, q20 20, hn i (by omega)]
    by_cases hc : an - g ≤ i
    · rw [if_pos (nI_lt (by omega) (by omega))]
      refine ⟨by show _ + 1 = _; rw [e1]; omega, fun k j => ?_, by show (zm_rcp σ p (nI an) i).1.2 = _; exact e3⟩
      dsimp only
      rw [q20 21, q20 22, e1]
      simp only [zm_at, e2]
      by_cases hk : 20 ≤ k ∧ k ≤ 22 ∧ j = 8 * p + (i - (an - g))
      · obtain ⟨a1, a2, rfl⟩ := hk
        rw [if_pos (show 20 ≤ k ∧ k ≤ 22 ∧ 8 * p ≤ 8 * p + (i - (an - g)) ∧ 8 * p + (i - (an - g)) < 8 * p + (i + 1 - (an - g)) by omega), show 8 * p + (i - (an - g)) + (an - g) = 8 * p + i by omega]
        rcases (show k = 20 ∨ k = 21 ∨ k = 22 by omega) with rfl | rfl | rfl <;> simp [hn i (by omega)]
      · rw [if_neg (by omega), if_neg (by omega), if_neg (by omega)]
        by_cases hx : 20 ≤ k ∧ k ≤ 22 ∧ 8 * p ≤ j ∧ j < 8 * p + (i - (an - g))
        · rw [if_pos hx, if_pos (by omega)]
        · rw [if_neg hx, if_neg (by omega)]
    · rw [if_neg (nI_nlt (by omega) (by omega))]
      refine ⟨by rw [e1]; omega, fun k j => ?_, e3⟩
      rw [e2, if_neg (by omega), if_neg (by omega)]
theorem zl_receipt {m : Nat} {A : Nat → ClassId} {x z : Nat} {σ : zm_S} {τ : zx_S} {w : zg_w} {p : Nat} (h : zl_R m A x σ τ w z) (hm : m < 2 ^ 30) (hp : p < 16) {g b t wd an lg : Nat} (hl : zl_l m σ τ p g b t wd an lg) (ha : an ≠ 0) : zl_R m A x (zm_set (zm_rcp (zm_set σ 19 p (-1)) p (σ.1 19 p) b).1 16 p (nI (zm_rcp (zm_set σ 19 p (-1)) p (σ.1 19 p) b).2)) (zx_rem (zxI τ (22 + 3 * p) 6 (nI 0)) p ((τ (22 + 3 * p)).1 6)) w z ∧ (τ (22 + 3 * p)).1 6 - (zxI τ (22 + 3 * p) 6 (nI 0) (22 + 3 * p)).1 2 = nI b - nI (zm_rcp (zm_set σ 19 p (-1)) p (σ.1 19 p) b).2 := by
  obtain ⟨h1, h2, h3, h4, h5⟩ := hl
  have hg : g ≤ an := by omega
  have e19 : σ.1 19 p = nI an := by rw [h3.2.2.2.2.1, if_neg ha]
  rw [e19]
  obtain ⟨e1, e2, e3⟩ := zm_rcp_at (σ := zm_set σ 19 p (-1)) (p := p) (g := g) (an := an) (b := b) (fun i hi => by rw [zm_set_o (by decide)]; exact (h4 i hi).1) (by omega) hg (by omega) b (Nat.le_refl _)
  rw [e1]
  generalize hS : zm_rcp (zm_set σ 19 p (-1)) p (nI an) b = S at e1 e2 e3 ⊢
  have eo : ∀ k, ¬ (20 ≤ k ∧ k ≤ 22) → k ≠ 19 → k ≠ 16 → (zm_set S.1 16 p (nI (b - (an - g)))).1 k = σ.1 k := fun k a1 a2 a3 => by
    funext j
    rw [zm_at, if_neg (by omega), e2, if_neg (by omega), zm_at, if_neg (by omega)]
  have ei : ∀ k, 20 ≤ k → k ≤ 22 → ∀ j, (zm_set S.1 16 p (nI (b - (an - g)))).1 k j = if 8 * p ≤ j ∧ j < 8 * p + (b - (an - g)) then σ.1 k (j + (an - g)) else σ.1 k j := fun k a1 a2 j => by
    rw [zm_at, if_neg (by omega), e2, zm_set_o (by omega)]
    by_cases hx : 8 * p ≤ j ∧ j < 8 * p + (b - (an - g))
    · rw [if_pos (by omega), if_pos hx]
    · rw [if_neg (by omega), if_neg hx]
  refine ⟨h.l hp (fun k hk => eo k (by omega) (by omega) (by omega)) (by rw [zm_at2, e3]; rfl) (fun k q hq hk => ?_) (fun k q hq hqp a1 a2 i hi => by rw [ei k a1 a2, if_neg (by omega)]) (fun o ho => by rw [zx_rem, zxI_o ho, zxI_o ho, zxI_o ho]) (by rw [zx_rem, zx_at2, zx_at2, zx_at2]) ⟨an, b - (an - g), t, wd, 0, lg, ?_⟩ (fun g0 _ => ?_), ?_⟩
  · rw [zm_at, if_neg (by omega), e2, if_neg (by omega), zm_at, if_neg (by omega)]
  · refine ⟨⟨?_, ?_, ?_, ?_, ?_⟩, ⟨by omega, by omega, by omega, by omega, by omega, by omega, by omega, Or.inl rfl, h2.2.2.2.2.2.2.2.2⟩, ⟨?_, ?_, ?_, ?_, ?_, ?_⟩, fun i hi => ?_, fun q => ?_⟩
    · simp only [zx_rem, zx_at]; simpa using h1.2.2.2.2
    · simp only [zx_rem, zx_at]
      simp only [true_and, reduceCtorEq, if_false, if_true]
      simp
      rw [h1.1, h1.2.1, h1.2.2.2.2, pk_sub hg, pk_sub (by omega)]
    · simp only [zx_rem, zx_at]; simpa using h1.2.2.1
    · simp only [zx_rem, zx_at]; simpa using h1.2.2.2.1
    · simp only [zx_rem, zx_at]; simp
    · rw [eo 15 (by omega) (by omega) (by omega), h3.1]; congr 1; omega
    · rw [zm_set_s]
    · rw [eo 17 (by omega) (by omega) (by omega)]; exact h3.2.2.1
    · rw [eo 18 (by omega) (by omega) (by omega)]; exact h3.2.2.2.1
    · rw [zm_at, if_neg (by omega), e2, if_neg (by omega), zm_set_s]; rfl
    · rw [eo 23 (by omega) (by omega) (by omega)]; exact h3.2.2.2.2.2
    · have q := h4 (i + (an - g)) (by omega)
      rw [ei 20 (by omega) (by omega), ei 21 (by omega) (by omega), ei 22 (by omega) (by omega), if_pos (by omega), if_pos (by omega), if_pos (by omega), show 8 * p + i + (an - g) = 8 * p + (i + (an - g)) by omega]
      unfold zx_rem
      rw [zxI_o (by omega), zxI_o (by omega), zxI_o (by omega), zxI_o (by omega), zxI_o (by omega), zxI_o (by omega), show an + 1 + i = g + 1 + (i + (an - g)) by omega]
      exact q
    · unfold zx_rem
      rw [zxI_o (by omega), zxI_o (by omega), zxI_o (by omega), zxI_o (by omega), zxI_o (by omega), zxI_o (by omega), eo 23 (by omega) (by omega) (by omega), eo 24 (by omega) (by omega) (by omega)]
      exact h5 q
  · unfold zl_am
    rw [zm_set_s, zn_nI (by omega), h3.2.1, zn_nI (by omega), show b = (an - g) + (b - (an - g)) by omega, zl_sum_a, zl_sum_0 (an - g) (fun i hi => ?_), Int32.zero_add]
    · rw [show an - g + (b - (an - g)) - (an - g) = b - (an - g) by omega]
      refine zl_sum_c _ fun i hi => ?_
      have q1 : ∀ k, 20 ≤ k → k ≤ 22 → (zm_set S.1 16 p (nI (b - (an - g)))).1 k (8 * p + i) = σ.1 k (8 * p + (an - g + i)) := fun k a1 a2 => by
        rw [ei k a1 a2, if_pos (by omega), show 8 * p + i + (an - g) = 8 * p + (an - g + i) by omega]
      unfold zl_em
      rw [q1 20 (by omega) (by omega), q1 21 (by omega) (by omega), q1 22 (by omega) (by omega), eo 18 (by omega) (by omega) (by omega)]
    · unfold zl_em
      rw [if_neg]
      rintro ⟨-, q⟩
      rw [(h4 i (by omega)).1, h3.2.2.2.1] at q
      exact nI_nlt (by omega) (by omega) q
  · rw [zxI_n (by decide), h1.2.2.2.2, h1.1, pk_sub hg, pk_sub (by omega)]; congr 1; omega
theorem zl_wd0 {m : Nat} {A : Nat → ClassId} {x z : Nat} {σ : zm_S} {τ : zx_S} {w : zg_w} {p : Nat} (h : zl_R m A x σ τ w z) (hp : p < 16) {g b t wd an lg : Nat} (hl : zl_l m σ τ p g b t wd an lg) : zl_R m A x (zm_set σ 17 p (nI 0)) (zxI τ (22 + 3 * p) 5 (nI 0)) w z ∧ zl_l m (zm_set σ 17 p (nI 0)) (zxI τ (22 + 3 * p) 5 (nI 0)) p g b t 0 an lg := by
  obtain ⟨h1, h2, h3, h4, h5⟩ := hl
  have hl' : zl_l m (zm_set σ 17 p (nI 0)) (zxI τ (22 + 3 * p) 5 (nI 0)) p g b t 0 an lg := by
    refine ⟨⟨?_, ?_, ?_, ?_, ?_⟩, ⟨h2.1, h2.2.1, h2.2.2.1, h2.2.2.2.1, by omega, by omega, h2.2.2.2.2.2.2.1, h2.2.2.2.2.2.2.2.1, h2.2.2.2.2.2.2.2.2⟩, ⟨?_, ?_, ?_, ?_, ?_, ?_⟩, fun i hi => ?_, fun q => absurd q (by omega)⟩
    · rw [zxI_n (by decide)]; exact h1.1
    · rw [zxI_n (by decide)]; exact h1.2.1
    · rw [zxI_n (by decide)]; exact h1.2.2.1
    · rw [zxI_s]
    · rw [zxI_n (by decide)]; exact h1.2.2.2.2
    · rw [zm_set_o (by decide)]; exact h3.1
    · rw [zm_set_o (by decide)]; exact h3.2.1
    · rw [zm_set_s]
    · rw [zm_set_o (by decide)]; exact h3.2.2.2.1
    · rw [zm_set_o (by decide)]; exact h3.2.2.2.2.1
    · rw [zm_set_o (by decide)]; exact h3.2.2.2.2.2
    · rw [zxI_o (by omega), zxI_o (by omega), zm_set_o (by decide), zm_set_o (by decide), zm_set_o (by decide)]; exact h4 i hi
  exact ⟨h.l hp (fun k hk => zm_set_o (by omega)) rfl (fun k q hq _ => by rw [zm_at, if_neg (by omega)]) (fun k q _ _ a b i _ => by rw [zm_set_o (by omega)]) (fun o ho => zxI_o ho) (by rw [zx_at2]) ⟨g, b, t, 0, an, lg, hl'⟩ (fun g _ => zl_am_c fun k hk => zm_set_o (by omega)), hl'⟩
theorem zl_ans {m : Nat} {A : Nat → ClassId} {x z : Nat} {σ : zm_S} {τ : zx_S} {w : zg_w} {p : Nat} (h : zl_R m A x σ τ w z) (hp : p < 16) {g b t wd an lg : Nat} (hl : zl_l m σ τ p g b t wd an lg) (ht : t ≠ 0) : zl_R m A x (zm_set σ 19 p (σ.1 18 p)) (zxI τ (22 + 3 * p) 6 ((τ (22 + 3 * p)).1 4)) w z := by
  obtain ⟨h1, h2, h3, h4, h5⟩ := hl
  refine h.l hp (fun k hk => zm_set_o (by omega)) rfl (fun k q hq _ => by rw [zm_at, if_neg (by omega)]) (fun k q _ _ a b i _ => by rw [zm_set_o (by omega)]) (fun o ho => zxI_o ho) (by rw [zx_at2]) ⟨g, b, t, wd, t, lg, ?_⟩ (fun g _ => zl_am_c fun k hk => zm_set_o (by omega))
  refine ⟨⟨?_, ?_, ?_, ?_, ?_⟩, ⟨h2.1, h2.2.1, h2.2.2.1, h2.2.2.2.1, h2.2.2.2.2.1, h2.2.2.2.2.2.1, Nat.le_refl _, Or.inr h2.2.1, h2.2.2.2.2.2.2.2.2⟩, ⟨?_, ?_, ?_, ?_, ?_, ?_⟩, fun i hi => ?_, fun q => ?_⟩
  · rw [zxI_n (by decide)]; exact h1.1
  · rw [zxI_n (by decide)]; exact h1.2.1
  · rw [zxI_n (by decide)]; exact h1.2.2.1
  · rw [zxI_n (by decide)]; exact h1.2.2.2.1
  · rw [zxI_s]; exact h1.2.2.1
  · rw [zm_set_o (by decide)]; exact h3.1
  · rw [zm_set_o (by decide)]; exact h3.2.1
  · rw [zm_set_o (by decide)]; exact h3.2.2.1
  · rw [zm_set_o (by decide)]; exact h3.2.2.2.1
  · rw [zm_set_s, if_neg ht]; exact h3.2.2.2.1
  · rw [zm_set_o (by decide)]; exact h3.2.2.2.2.2
  · rw [zxI_o (by omega), zxI_o (by omega), zm_set_o (by decide), zm_set_o (by decide), zm_set_o (by decide)]; exact h4 i hi
  · rw [zxI_o (by omega), zxI_o (by omega), zm_set_o (by decide), zm_set_o (by decide)]; exact h5 q
