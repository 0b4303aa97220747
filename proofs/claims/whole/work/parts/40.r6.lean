/-! a transfer is enclosed; a transfer is taken -/
theorem zm_encl_at {σ : zm_S} {a b leg bx k j : Nat} {n : Int32} : (zm_encl σ a b leg bx n).1 k j = if k = 2 ∧ j = 16 * a + leg then σ.1 2 (16 * a + leg) - n else if k = 16 ∧ j = 4 * a + b then nI (bx + 1) else if k = 22 ∧ j = 8 * (4 * a + b) + bx then n else if k = 21 ∧ j = 8 * (4 * a + b) + bx then nI leg else if k = 20 ∧ j = 8 * (4 * a + b) + bx then σ.1 15 (4 * a + b) + nI 1 else if k = 15 ∧ j = 4 * a + b then σ.1 15 (4 * a + b) + nI 1 else σ.1 k j := by
  unfold zm_encl
  simp only [zm_at]
  simp
theorem zm_encl_2 {σ : zm_S} {a b leg bx : Nat} {n : Int32} : (zm_encl σ a b leg bx n).2 = σ.2 := rfl
theorem zx_ap_at {τ : zx_S} {a place p g b o j : Nat} {n : Int32} : (zx_add (zx_put τ a place n) p g b place n o).1 j = if o = 22 + 3 * p + 2 ∧ j = (g + (b + 1)) % 8 then n else if o = 22 + 3 * p + 1 ∧ j = (g + (b + 1)) % 8 then nI place else if o = 22 + 3 * p ∧ j = 3 then nI (b + 1) else if o = 4 ∧ j = place then (τ 4).1 place + n else if o = 10 + 3 * a + 1 ∧ j = place then (τ (10 + 3 * a + 1)).1 place - n else (τ o).1 j := by
  unfold zx_add zx_put
  simp only [zx_at]
  rw [if_neg (show ¬ (4 = 10 + 3 * a + 1 ∧ True) by omega)]
theorem zx_ap_2 {τ : zx_S} {a place p g b o : Nat} {n : Int32} : (zx_add (zx_put τ a place n) p g b place n o).2 = (τ o).2 := by
  unfold zx_add zx_put
  simp only [zx_at2]
theorem zl_encl {m : Nat} {A : Nat → ClassId} {x z : Nat} {σ : zm_S} {τ : zx_S} {w : zg_w} {a b place : Nat} {n : Int32} (h : zl_R m A x σ τ w z) (hm : m < 2 ^ 30) (ha : a < 4) (hb : b < 4) (hpl : place < 16) {g bx t wd an lg : Nat} (hl : zl_l m σ τ (4 * a + b) g bx t wd an lg) (h8 : bx < 8) : zl_R (m + 1) A x (zm_encl σ a b place bx n) (zx_add (zx_put τ a place n) (4 * a + b) g bx place n) w z ∧ zl_l (m + 1) (zm_encl σ a b place bx n) (zx_add (zx_put τ a place n) (4 * a + b) g bx place n) (4 * a + b) g (bx + 1) t wd an lg := by
  obtain ⟨T, hd, ⟨hA, hT, hB, hY⟩, hh⟩ := id h
  obtain ⟨p, hp⟩ : ∃ p, p = 4 * a + b := ⟨_, rfl⟩
  rw [← hp] at hl ⊢
  have hp16 : p < 16 := by omega
  obtain ⟨h1, h2, h3, h4, h5⟩ := hl
  have es : ∀ k j, ¬ (k = 2 ∧ j = 16 * a + place) → ¬ (k = 16 ∧ j = p) → ¬ (20 ≤ k ∧ k ≤ 22 ∧ j = 8 * p + bx) → ¬ (k = 15 ∧ j = p) → (zm_encl σ a b place bx n).1 k j = σ.1 k j := fun k j q1 q2 q3 q4 => by
    rw [zm_encl_at, ← hp, if_neg q1, if_neg q2, if_neg (by omega), if_neg (by omega), if_neg (by omega), if_neg q4]
  have et : ∀ o j, ¬ (o = 22 + 3 * p + 2 ∧ j = (g + (bx + 1)) % 8) → ¬ (o = 22 + 3 * p + 1 ∧ j = (g + (bx + 1)) % 8) → ¬ (o = 22 + 3 * p ∧ j = 3) → ¬ (o = 4 ∧ j = place) → ¬ (o = 10 + 3 * a + 1 ∧ j = place) → (zx_add (zx_put τ a place n) p g bx place n o).1 j = (τ o).1 j := fun o j q1 q2 q3 q4 q5 => by
    rw [zx_ap_at, if_neg q1, if_neg q2, if_neg q3, if_neg q4, if_neg q5]
  have hl' : zl_l (m + 1) (zm_encl σ a b place bx n) (zx_add (zx_put τ a place n) p g bx place n) p g (bx + 1) t wd an lg := by
    refine ⟨⟨?_, ?_, ?_, ?_, ?_⟩, ⟨by omega, h2.2.1, by omega, by omega, h2.2.2.2.2.1, by omega, h2.2.2.2.2.2.2.1, h2.2.2.2.2.2.2.2.1, h2.2.2.2.2.2.2.2.2⟩, ⟨?_, ?_, ?_, ?_, ?_, ?_⟩, fun i hi => ?_, fun q => ?_⟩
    · rw [et _ _ (by omega) (by omega) (by omega) (by omega) (by omega)]; exact h1.1
    · rw [zx_ap_at, if_neg (by omega), if_neg (by omega), if_pos ⟨rfl, rfl⟩]
    · rw [et _ _ (by omega) (by omega) (by omega) (by omega) (by omega)]; exact h1.2.2.1
    · rw [et _ _ (by omega) (by omega) (by omega) (by omega) (by omega)]; exact h1.2.2.2.1
    · rw [et _ _ (by omega) (by omega) (by omega) (by omega) (by omega)]; exact h1.2.2.2.2
    · rw [zm_encl_at, ← hp, if_neg (by omega), if_neg (by omega), if_neg (by omega), if_neg (by omega), if_neg (by omega), if_pos ⟨rfl, rfl⟩, h3.1, nI_add]; rfl
    · rw [zm_encl_at, ← hp, if_neg (by omega), if_pos ⟨rfl, rfl⟩]
    · rw [es _ _ (by omega) (by omega) (by omega) (by omega)]; exact h3.2.2.1
    · rw [es _ _ (by omega) (by omega) (by omega) (by omega)]; exact h3.2.2.2.1
    · rw [es _ _ (by omega) (by omega) (by omega) (by omega)]; exact h3.2.2.2.2.1
    · rw [es _ _ (by omega) (by omega) (by omega) (by omega)]; exact h3.2.2.2.2.2
    · by_cases e : i = bx
      · subst e
        refine ⟨?_, ?_, ?_, place, hpl, ?_⟩
        · rw [zm_encl_at, ← hp, if_neg (by omega), if_neg (by omega), if_neg (by omega), if_neg (by omega), if_pos ⟨rfl, rfl⟩, h3.1, nI_add]; congr 1; omega
        · rw [zm_encl_at, ← hp, if_neg (by omega), if_neg (by omega), if_neg (by omega), if_pos ⟨rfl, rfl⟩, zx_ap_at, if_neg (by omega), if_pos ⟨rfl, by congr 1; omega⟩]
        · rw [zm_encl_at, ← hp, if_neg (by omega), if_neg (by omega), if_pos ⟨rfl, rfl⟩, zx_ap_at, if_pos ⟨rfl, by congr 1; omega⟩]
        · rw [zm_encl_at, ← hp, if_neg (by omega), if_neg (by omega), if_neg (by omega), if_pos ⟨rfl, rfl⟩]
      · have q := h4 i (by omega)
        rw [es _ _ (by omega) (by omega) (by omega) (by omega), es _ _ (by omega) (by omega) (by omega) (by omega), es _ _ (by omega) (by omega) (by omega) (by omega), et _ _ (by omega) (by omega) (by omega) (by omega) (by omega), et _ _ (by omega) (by omega) (by omega) (by omega) (by omega)]
        exact q
    · have q' := h5 q
      have q2 := h2.2.2.2.2.2.1 q
      rw [es _ _ (by omega) (by omega) (by omega) (by omega), es _ _ (by omega) (by omega) (by omega) (by omega), et _ _ (by omega) (by omega) (by omega) (by omega) (by omega), et _ _ (by omega) (by omega) (by omega) (by omega) (by omega)]
      exact q'
  refine ⟨h.AB ⟨fun i hi => ?_, fun i hi => ?_, fun q hq i hi => ?_, fun q hq => ?_⟩ (hB.u hp16 (by omega) (fun q hq hqp => ⟨fun k hk => es k q (by omega) (by omega) (by omega) (by omega), fun k a1 a2 i hi => es k _ (by omega) (by omega) (by omega) (by omega)⟩) (fun q hq hqp k hk => ?_) ⟨g, bx + 1, t, wd, an, lg, hl'⟩ (fun g0 hg0 => ?_)) (fun k hk h2 => ?_) rfl (fun o => by rw [zx_ap_2]) (fun o ho => ?_), hl'⟩
  · rw [et _ _ (by omega) (by omega) (by omega) (by omega) (by omega), es _ _ (by omega) (by omega) (by omega) (by omega)]; exact hA.1 i hi
  · rw [et _ _ (by omega) (by omega) (by omega) (by omega) (by omega), es _ _ (by omega) (by omega) (by omega) (by omega)]; exact hA.2.1 i hi
  · by_cases e : q = a ∧ i = place
    · obtain ⟨rfl, rfl⟩ := e
      rw [zm_encl_at, if_pos ⟨rfl, rfl⟩, zx_ap_at, if_neg (by omega), if_neg (by omega), if_neg (by omega), if_neg (by omega), if_pos ⟨rfl, rfl⟩, hA.2.2.1 q hq i hi]
    · rw [et _ _ (by omega) (by omega) (by omega) (by omega) (by omega), es _ _ (by omega) (by omega) (by omega) (by omega)]; exact hA.2.2.1 q hq i hi
  · rw [zx_ap_2, zm_encl_2]; exact hA.2.2.2 q hq
  · funext j
    rw [et _ _ (by omega) (by omega) (by omega) (by omega) (by omega)]
  · unfold zl_am
    rw [zm_encl_at, ← hp, if_neg (by omega), if_pos ⟨rfl, rfl⟩, zn_nI (by omega), zl_sum, h3.2.1, zn_nI (by omega)]
    rw [zl_sum_c (f := zl_em (zm_encl σ a b place bx n) g0 p) (g := zl_em σ g0 p) bx (fun i hi => ?_)]
    · rw [← Int32.add_assoc, Int32.sub_add_cancel, zl_em]
      rw [show (zm_encl σ a b place bx n).1 21 (8 * p + bx) = nI place by rw [zm_encl_at, ← hp, if_neg (by omega), if_neg (by omega), if_neg (by omega), if_pos ⟨rfl, rfl⟩], show (zm_encl σ a b place bx n).1 20 (8 * p + bx) = nI (g + bx + 1) by rw [zm_encl_at, ← hp, if_neg (by omega), if_neg (by omega), if_neg (by omega), if_neg (by omega), if_pos ⟨rfl, rfl⟩, h3.1, nI_add], show (zm_encl σ a b place bx n).1 22 (8 * p + bx) = n by rw [zm_encl_at, ← hp, if_neg (by omega), if_neg (by omega), if_pos ⟨rfl, rfl⟩], show (zm_encl σ a b place bx n).1 18 p = nI t by rw [es _ _ (by omega) (by omega) (by omega) (by omega)]; exact h3.2.2.2.1]
      by_cases e : g0 = place
      · subst e
        rw [if_pos ⟨rfl, nI_lt (by omega) (by omega)⟩, zx_ap_at, if_neg (by omega), if_neg (by omega), if_neg (by omega), if_pos ⟨rfl, rfl⟩]
      · rw [if_neg (fun q => e ((nI_eq (by omega) (by omega)).mp q.1.symm)), Int32.add_zero, et _ _ (by omega) (by omega) (by omega) (by omega) (by omega)]
    · unfold zl_em
      rw [es _ _ (by omega) (by omega) (by omega) (by omega), es _ _ (by omega) (by omega) (by omega) (by omega), es _ _ (by omega) (by omega) (by omega) (by omega), es _ _ (by omega) (by omega) (by omega) (by omega)]
  · funext j
    rw [es _ _ (by omega) (by omega) (by omega) (by omega)]
  · funext j
    rw [et _ _ (by rcases ho with rfl | rfl | ⟨p, hp, rfl⟩ <;> omega) (by rcases ho with rfl | rfl | ⟨p, hp, rfl⟩ <;> omega) (by rcases ho with rfl | rfl | ⟨p, hp, rfl⟩ <;> omega) (by rcases ho with rfl | rfl | ⟨p, hp, rfl⟩ <;> omega) (by rcases ho with rfl | rfl | ⟨p, hp, rfl⟩ <;> omega)]
theorem zl_half {m : Nat} {A : Nat → ClassId} {x z : Nat} {σ : zm_S} {τ : zx_S} {w : zg_w} {a b i : Nat} (h : zl_R m A x σ τ w z) (ha : a < 4) (hb : b < 4) (hi : i < 16) : zx_half τ a b i = zm_half σ a b i := by
  obtain ⟨T, hd, ⟨hA, hT, hB, hY⟩, hh⟩ := h
  unfold zx_half zm_half
  rw [hA.2.2.1 a ha i hi, hA.2.2.1 b hb i hi]
theorem zl_share {m : Nat} {A : Nat → ClassId} {x z : Nat} {σ : zm_S} {τ : zx_S} {w : zg_w} {a b s : Nat} (h : zl_R m A x σ τ w z) (hm : m + 4 < 2 ^ 30) (ha : a < 4) (hb : b < 4) (hs : s < 4) {g bx t wd an lg : Nat} (hl : zl_l m σ τ (4 * a + b) g bx t wd an lg) : ∀ i, i ≤ 4 → (zm_shr σ a b s bx i).2 = (zx_shr τ a b s g bx i).2 ∧ zl_R (m + i) A x (zm_shr σ a b s bx i).1 (zx_shr τ a b s g bx i).1 w z ∧ zl_l (m + i) (zm_shr σ a b s bx i).1 (zx_shr τ a b s g bx i).1 (4 * a + b) g (bx + (zx_shr τ a b s g bx i).2) t wd an lg
  | 0, _ => ⟨rfl, h, hl⟩
  | i + 1, hi => by
    obtain ⟨e, h1, h2⟩ := zl_share h hm ha hb hs hl i (by omega)
    rw [zm_shr, zx_shr, Nat.mul_comm s 4, Nat.mul_comm a 4, zl_half h1 ha hb (by omega), e]
    have h8 := h2.2.1.1
    by_cases hc : 0 < zm_half (zm_shr σ a b s bx i).1 a b (4 * s + i) ∧ bx + (zx_shr τ a b s g bx i).2 < 8
    · rw [if_pos hc, if_pos ⟨hc.1, by omega⟩]
      obtain ⟨k1, k2⟩ := zl_encl (place := 4 * s + i) (n := zm_half (zm_shr σ a b s bx i).1 a b (4 * s + i)) h1 (by omega) ha hb (by omega) h2 hc.2
      exact ⟨rfl, k1, k2⟩
    · rw [if_neg hc, if_neg (fun q => hc ⟨q.1, by omega⟩)]
      refine ⟨e, h1.w (by omega) (Nat.le_refl _) (fun _ _ _ => rfl), h2.c (by omega) (fun _ _ _ => rfl) (fun _ _ => rfl)⟩
theorem zx_tkn_at {τ : zx_S} {p port place t o j : Nat} {n : Int32} (hp : port < 4) : (zx_tkn τ p port place t n o).1 j = if o = 10 + 3 * port + 1 ∧ j = place then (τ (10 + 3 * port + 1)).1 place + n else if o = 4 ∧ j = place then (τ 4).1 place - n else if o = 22 + 3 * p ∧ j = 4 then nI (t + 1) else (τ o).1 j := by
  unfold zx_tkn
  simp only [zx_at]
  rw [if_neg (show ¬ (10 + 3 * port + 1 = 4 ∧ True) by omega), if_neg (show ¬ (10 + 3 * port + 1 = 22 + 3 * p ∧ place = 4) by omega), if_neg (show ¬ (4 = 22 + 3 * p ∧ place = 4) by omega)]
theorem zx_tkn_2 {τ : zx_S} {p port place t o : Nat} {n : Int32} : (zx_tkn τ p port place t n o).2 = (τ o).2 := by
  unfold zx_tkn
  simp only [zx_at2]
theorem zl_tak {m : Nat} {A : Nat → ClassId} {x z : Nat} {σ : zm_S} {τ : zx_S} {w : zg_w} {p b0 : Nat} {n : Int32} (h : zl_R m A x σ τ w z) (hm : m < 2 ^ 30) (hp : p < 16) (hb0 : b0 < 4) {g b t an lg : Nat} (hl : zl_l m σ τ p g b t 0 an lg) (ht : t + 1 ≤ g + b) (hpl : (τ (22 + 3 * p + 1)).1 ((t + 1) % 8) = nI lg) (hn : (τ (22 + 3 * p + 2)).1 ((t + 1) % 8) = n) : zl_R m A x (zm_set (zm_set σ 18 p (nI (t + 1))) 2 (16 * b0 + lg) ((zm_set σ 18 p (nI (t + 1))).1 2 (16 * b0 + lg) + n)) (zx_tkn τ p b0 lg t n) w z ∧ zl_l m (zm_set (zm_set σ 18 p (nI (t + 1))) 2 (16 * b0 + lg) ((zm_set σ 18 p (nI (t + 1))).1 2 (16 * b0 + lg) + n)) (zx_tkn τ p b0 lg t n) p g b (t + 1) 0 an lg := by
  obtain ⟨T, hd, ⟨hA, hT, hB, hY⟩, hh⟩ := id h
  obtain ⟨h1, h2, h3, h4, h5⟩ := hl
  generalize hS : zm_set (zm_set σ 18 p (nI (t + 1))) 2 (16 * b0 + lg) ((zm_set σ 18 p (nI (t + 1))).1 2 (16 * b0 + lg) + n) = S
  have ea : ∀ k j, S.1 k j = if k = 2 ∧ j = 16 * b0 + lg then σ.1 2 (16 * b0 + lg) + n else if k = 18 ∧ j = p then nI (t + 1) else σ.1 k j := fun k j => by
    rw [← hS]
    simp only [zm_at]
    simp
  have es : ∀ k j, ¬ (k = 2 ∧ j = 16 * b0 + lg) → ¬ (k = 18 ∧ j = p) → S.1 k j = σ.1 k j := fun k j q1 q2 => by rw [ea, if_neg q1, if_neg q2]
  have et : ∀ o j, ¬ (o = 10 + 3 * b0 + 1 ∧ j = lg) → ¬ (o = 4 ∧ j = lg) → ¬ (o = 22 + 3 * p ∧ j = 4) → (zx_tkn τ p b0 lg t n o).1 j = (τ o).1 j := fun o j q1 q2 q3 => by
    rw [zx_tkn_at hb0, if_neg q1, if_neg q2, if_neg q3]
  have hl' : zl_l m S (zx_tkn τ p b0 lg t n) p g b (t + 1) 0 an lg := by
    refine ⟨⟨?_, ?_, ?_, ?_, ?_⟩, ⟨h2.1, by omega, by omega, h2.2.2.2.1, by omega, by omega, by omega, h2.2.2.2.2.2.2.2.1, h2.2.2.2.2.2.2.2.2⟩, ⟨?_, ?_, ?_, ?_, ?_, ?_⟩, fun i hi => ?_, fun q => absurd q (by omega)⟩
    · rw [et _ _ (by omega) (by omega) (by omega)]; exact h1.1
    · rw [et _ _ (by omega) (by omega) (by omega)]; exact h1.2.1
    · rw [zx_tkn_at hb0, if_neg (by omega), if_neg (by omega), if_pos ⟨rfl, rfl⟩]
    · rw [et _ _ (by omega) (by omega) (by omega)]; exact h1.2.2.2.1
    · rw [et _ _ (by omega) (by omega) (by omega)]; exact h1.2.2.2.2
    · rw [es _ _ (by omega) (by omega)]; exact h3.1
    · rw [es _ _ (by omega) (by omega)]; exact h3.2.1
    · rw [es _ _ (by omega) (by omega)]; exact h3.2.2.1
    · rw [ea, if_neg (by omega), if_pos ⟨rfl, rfl⟩]
    · rw [es _ _ (by omega) (by omega)]; exact h3.2.2.2.2.1
    · rw [es _ _ (by omega) (by omega)]; exact h3.2.2.2.2.2
    · have q := h4 i hi
      rw [es _ _ (by omega) (by omega), es _ _ (by omega) (by omega), es _ _ (by omega) (by omega), et _ _ (by omega) (by omega) (by omega), et _ _ (by omega) (by omega) (by omega)]
      exact q
  have e2 : S.2 = σ.2 := by rw [← hS]; rfl
  refine ⟨h.AB ⟨fun i hi => ?_, fun i hi => ?_, fun q hq i hi => ?_, fun q hq => ?_⟩ (hB.u hp (Nat.le_refl _) (fun q hq hqp => ⟨fun k hk => es k q (by omega) (by omega), fun k a1 a2 i hi => es k _ (by omega) (by omega)⟩) (fun q hq hqp k hk => ?_) ⟨g, b, t + 1, 0, an, lg, hl'⟩ (fun g0 hg0 => ?_)) (fun k hk h2 => ?_) (by rw [e2]) (fun o => by rw [zx_tkn_2]) (fun o ho => ?_), hl'⟩
  · rw [et _ _ (by omega) (by omega) (by omega), es _ _ (by omega) (by omega)]; exact hA.1 i hi
  · rw [et _ _ (by omega) (by omega) (by omega), es _ _ (by omega) (by omega)]; exact hA.2.1 i hi
  · by_cases e : q = b0 ∧ i = lg
    · obtain ⟨rfl, rfl⟩ := e
      rw [ea, if_pos ⟨rfl, rfl⟩, zx_tkn_at hb0, if_pos ⟨rfl, rfl⟩, hA.2.2.1 q hq i hi]
    · rw [et _ _ (by omega) (by omega) (by omega), es _ _ (by omega) (by omega)]; exact hA.2.2.1 q hq i hi
  · rw [zx_tkn_2, e2]; exact hA.2.2.2 q hq
  · funext j
    rw [et _ _ (by omega) (by omega) (by omega)]
  · have i0 : t - g < b := by omega
    obtain ⟨k1, k2, k3, -⟩ := h4 (t - g) i0
    rw [show g + 1 + (t - g) = t + 1 by omega] at k1 k2 k3
    unfold zl_am
    rw [es 16 p (by omega) (by omega), h3.2.1, zn_nI (by omega), zl_sum_1 (f := zl_em S g0 p) (g := zl_em σ g0 p) b i0 (fun i hi hne => ?_)]
    · have e1 : zl_em S g0 p (t - g) = 0 := by
        unfold zl_em
        rw [if_neg]
        rintro ⟨-, q⟩
        rw [es 20 _ (by omega) (by omega), k1, ea, if_neg (by omega), if_pos ⟨rfl, rfl⟩] at q
        exact nI_nlt (Nat.le_refl _) (by omega) q
      rw [e1, Int32.add_zero, Int32.sub_eq_add_neg, Int32.sub_eq_add_neg, Int32.add_assoc, ← Int32.add_assoc (-(zl_sum (zl_em σ g0 p) b)), Int32.add_left_neg, Int32.zero_add]
      unfold zl_em
      rw [k1, k2, k3, h3.2.2.2.1, hpl, hn]
      by_cases e : g0 = lg
      · subst e
        rw [if_pos ⟨rfl, nI_lt (by omega) (by omega)⟩, zx_tkn_at hb0, if_neg (by omega), if_pos ⟨rfl, rfl⟩, Int32.sub_eq_add_neg]
      · rw [if_neg (fun q => e ((nI_eq (by omega) (by omega)).mp q.1.symm)), et _ _ (by omega) (by omega) (by omega), Int32.neg_zero, Int32.add_zero]
    · unfold zl_em
      rw [es 20 _ (by omega) (by omega), es 21 _ (by omega) (by omega), es 22 _ (by omega) (by omega), show S.1 18 p = nI (t + 1) by rw [ea, if_neg (by omega), if_pos ⟨rfl, rfl⟩], (h4 i hi).1, h3.2.2.2.1]
      by_cases e : t < g + 1 + i
      · have e1 : nI t < nI (g + 1 + i) := nI_lt e (by omega)
        have e2 : nI (t + 1) < nI (g + 1 + i) := nI_lt (by omega) (by omega)
        simp only [e1, e2, and_true]
      · have e1 : ¬ nI t < nI (g + 1 + i) := nI_nlt (by omega) (by omega)
        have e2 : ¬ nI (t + 1) < nI (g + 1 + i) := nI_nlt (by omega) (by omega)
        simp only [e1, e2, and_false]
  · funext j
    rw [es _ _ (by omega) (by omega)]
  · funext j
    rw [et _ _ (by rcases ho with rfl | rfl | ⟨q, hq, rfl⟩ <;> omega) (by rcases ho with rfl | rfl | ⟨q, hq, rfl⟩ <;> omega) (by rcases ho with rfl | rfl | ⟨q, hq, rfl⟩ <;> omega)]
