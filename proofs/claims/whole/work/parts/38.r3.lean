/-! calls that change neither draft, wishes nor tickets -/
theorem zl_R.AB {m m' : Nat} {A : Nat → ClassId} {x z : Nat} {σ σ' : zm_S} {τ τ' : zx_S} {w : zg_w} (h : zl_R m A x σ τ w z) (hA : zl_A σ' τ') (hB : zl_B m' σ' τ') (hs : ∀ k, k < 15 ∨ k = 25 → 2 < k → σ'.1 k = σ.1 k) (h9 : σ'.2 9 = σ.2 9) (ht2 : ∀ o, (τ' o).2.2 = (τ o).2.2) (ht : ∀ o, o = 0 ∨ o = 3 ∨ (∃ p, p < 4 ∧ o = 10 + 3 * p) → (τ' o).1 = (τ o).1) : zl_R m' A x σ' τ' w z := by
  obtain ⟨T, hd, ⟨-, hT, -, hY⟩, hh⟩ := h
  refine ⟨T, hd, ⟨hA, hT.c (fun k hk => hs k (by omega) (by omega)) (by rw [hs 25 (by omega) (by omega)]) (by rw [ht 0 (by omega)]) (by rw [ht 3 (by omega)]), hB, hY.c (Nat.le_refl _) (fun _ _ _ => rfl) (fun k hk => hs k (by omega) (by omega)) (by rw [hs 25 (by omega) (by omega)]) h9 (by rw [ht2]) (by rw [ht2]) (fun p _ => by rw [ht2])⟩, fun p hp => ?_⟩
  rw [ht (10 + 3 * p) (Or.inr (Or.inr ⟨p, hp, rfl⟩)), hs 12 (by omega) (by omega)]
  exact hh p hp
theorem zm_opn_at {σ : zm_S} {s : Nat} {seats : Int32} {k j : Nat} : ∀ m, (zm_opn σ s seats m).1 k j = if k = 2 ∧ 4 * s ≤ j ∧ j < 4 * s + m then seats else σ.1 k j
  | 0 => by rw [zm_opn, if_neg (by omega)]
  | m + 1 => by
    rw [zm_opn, zm_at, zm_opn_at m]
    by_cases h1 : k = 2 ∧ j = 4 * s + m
    · rw [if_pos h1, if_pos (by omega)]
    · rw [if_neg h1]
      by_cases h2 : k = 2 ∧ 4 * s ≤ j ∧ j < 4 * s + m
      · rw [if_pos h2, if_pos (by omega)]
      · rw [if_neg h2, if_neg (by omega)]
theorem zm_opn_2 {σ : zm_S} {s : Nat} {seats : Int32} : ∀ m, (zm_opn σ s seats m).2 = σ.2
  | 0 => rfl
  | m + 1 => zm_opn_2 m
theorem zx_opn_at {τ : zx_S} {s : Nat} {seats : Int32} {o j : Nat} : ∀ m, (zx_opn τ s seats m o).1 j = if o = 11 ∧ 4 * s ≤ j ∧ j < 4 * s + m then seats else if o = 1 ∧ j = s then nI 1 else (τ o).1 j
  | 0 => by
    rw [zx_opn, zx_at, if_neg (by omega : ¬ (o = 11 ∧ 4 * s ≤ j ∧ j < 4 * s + 0))]
    rfl
  | m + 1 => by
    rw [zx_opn, zx_at, zx_opn_at m]
    by_cases h1 : o = 10 + 3 * 0 + 1 ∧ j = s * 4 + m
    · rw [if_pos h1, if_pos (by omega)]
    · rw [if_neg h1]
      by_cases h2 : o = 11 ∧ 4 * s ≤ j ∧ j < 4 * s + m
      · rw [if_pos h2, if_pos (by omega)]
      · rw [if_neg h2, if_neg (show ¬ (o = 11 ∧ 4 * s ≤ j ∧ j < 4 * s + (m + 1)) by omega)]
theorem zx_opn_2 {τ : zx_S} {s : Nat} {seats : Int32} {o : Nat} : ∀ m, (zx_opn τ s seats m o).2 = (τ o).2
  | 0 => by rw [zx_opn, zx_at2]
  | m + 1 => by rw [zx_opn, zx_at2]; exact zx_opn_2 m
theorem zl_open {m : Nat} {A : Nat → ClassId} {x z : Nat} {σ : zm_S} {τ : zx_S} {w : zg_w} {s : Nat} {seats : Int32} (h : zl_R m A x σ τ w z) (hs : s < 4) : zl_R m A x (zm_opn (zm_set σ 0 s (nI 1)) s seats 4) (zx_opn τ s seats 4) w z := by
  obtain ⟨T, hd, ⟨hA, hT, hB, hY⟩, hh⟩ := id h
  have e : ∀ k, k ≠ 0 → k ≠ 2 → (zm_opn (zm_set σ 0 s (nI 1)) s seats 4).1 k = σ.1 k := fun k h1 h2 => by
    funext j
    rw [zm_opn_at, if_neg (by omega), zm_at, if_neg (by omega)]
  have g : ∀ o, o ≠ 1 → o ≠ 11 → (zx_opn τ s seats 4 o).1 = (τ o).1 := fun o h1 h2 => by
    funext j
    rw [zx_opn_at, if_neg (by omega), if_neg (by omega)]
  refine h.AB ⟨fun i hi => ?_, fun i hi => ?_, fun p hp i hi => ?_, fun p hp => ?_⟩ (hB.c (Nat.le_refl _) (fun k _ _ => e k (by omega) (by omega)) (g 4 (by omega) (by omega)) (fun o ho => g o (by omega) (by omega))) (fun k _ _ => e k (by omega) (by omega)) (by rw [zm_opn_2, zm_at2]) (fun o => by rw [zx_opn_2]) (fun o ho => g o (by omega) (by rcases ho with rfl | rfl | ⟨p, hp, rfl⟩ <;> omega))
  · rw [zx_opn_at, if_neg (by omega), zm_opn_at, if_neg (show ¬ (0 = 2 ∧ 4 * s ≤ i ∧ i < 4 * s + 4) by omega), zm_at]
    by_cases e1 : i = s
    · rw [if_pos ⟨rfl, e1⟩, if_pos ⟨rfl, e1⟩]
    · rw [if_neg (by omega), if_neg (by omega)]; exact hA.1 i hi
  · rw [g 2 (by omega) (by omega), e 1 (by omega) (by omega)]; exact hA.2.1 i hi
  · rw [zx_opn_at, zm_opn_at, if_neg (by omega : ¬ (10 + 3 * p + 1 = 1 ∧ i = s)), zm_at, if_neg (by omega : ¬ (2 = 0 ∧ 16 * p + i = s)), hA.2.2.1 p hp i hi]
    by_cases e1 : 10 + 3 * p + 1 = 11 ∧ 4 * s ≤ i ∧ i < 4 * s + 4
    · rw [if_pos e1, if_pos (by omega)]
    · rw [if_neg e1, if_neg (by omega)]
  · rw [zx_opn_2, zm_opn_2, zm_at2]; exact hA.2.2.2 p hp
theorem zl_fare {m : Nat} {A : Nat → ClassId} {x z : Nat} {σ : zm_S} {τ : zx_S} {w : zg_w} {i0 : Nat} {f : Int32} (h : zl_R m A x σ τ w z) : zl_R m A x (zm_set σ 1 i0 f) (zxI τ 2 i0 f) w z := by
  obtain ⟨T, hd, ⟨hA, hT, hB, hY⟩, hh⟩ := id h
  have e : ∀ k, k ≠ 1 → (zm_set σ 1 i0 f).1 k = σ.1 k := fun k h1 => zm_set_o h1
  have g : ∀ o, o ≠ 2 → (zxI τ 2 i0 f o) = τ o := fun o h1 => zxI_o h1
  refine h.AB ⟨fun i hi => ?_, fun i hi => ?_, fun p hp i hi => ?_, fun p hp => ?_⟩ (hB.c (Nat.le_refl _) (fun k _ _ => e k (by omega)) (by rw [g 4 (by omega)]) (fun o ho => by rw [g o (by omega)])) (fun k _ _ => e k (by omega)) rfl (fun o => by rw [zx_at2]) (fun o ho => by rw [g o (by rcases ho with rfl | rfl | ⟨p, hp, rfl⟩ <;> omega)])
  · rw [g 1 (by omega), e 0 (by omega)]; exact hA.1 i hi
  · rw [zx_at, zm_at, hA.2.1 i hi]
    by_cases e1 : i = i0
    · rw [if_pos ⟨rfl, e1⟩, if_pos ⟨rfl, e1⟩]
    · rw [if_neg (by omega), if_neg (by omega)]
  · rw [g _ (by omega), e 2 (by omega)]; exact hA.2.2.1 p hp i hi
  · rw [g _ (by omega)]; exact hA.2.2.2 p hp
/-! lanes -/
theorem zl_l.q {m m' p g b t wd an lg : Nat} {σ σ' : zm_S} {τ τ' : zx_S} (h : zl_l m σ τ p g b t wd an lg) (hm : m ≤ m') (hs : ∀ k, (15 ≤ k ∧ k ≤ 19) ∨ k = 23 ∨ k = 24 → σ'.1 k p = σ.1 k p) (hs2 : ∀ k, 20 ≤ k → k ≤ 22 → ∀ i, i < 8 → σ'.1 k (8 * p + i) = σ.1 k (8 * p + i)) (ht : ∀ k, k ≤ 2 → (τ' (22 + 3 * p + k)).1 = (τ (22 + 3 * p + k)).1) : zl_l m' σ' τ' p g b t wd an lg := by
  obtain ⟨h1, h2, h3, h4, h5⟩ := h
  unfold zl_l
  have e0 := ht 0 (by omega)
  rw [Nat.add_zero] at e0
  rw [e0, ht 1 (by omega), ht 2 (by omega), hs 15 (by omega), hs 16 (by omega), hs 17 (by omega), hs 18 (by omega), hs 19 (by omega), hs 23 (by omega), hs 24 (by omega)]
  refine ⟨h1, ⟨h2.1, h2.2.1, h2.2.2.1, Nat.le_trans h2.2.2.2.1 hm, h2.2.2.2.2⟩, h3, fun i hi => ?_, h5⟩
  rw [hs2 20 (by omega) (by omega) i (by omega), hs2 21 (by omega) (by omega) i (by omega), hs2 22 (by omega) (by omega) i (by omega)]
  exact h4 i hi
theorem zl_B.u {m m' : Nat} {σ σ' : zm_S} {τ τ' : zx_S} {p : Nat} (h : zl_B m σ τ) (hp : p < 16) (hm : m ≤ m') (hs : ∀ q, q < 16 → q ≠ p → (∀ k, (15 ≤ k ∧ k ≤ 19) ∨ k = 23 ∨ k = 24 → σ'.1 k q = σ.1 k q) ∧ ∀ k, 20 ≤ k → k ≤ 22 → ∀ i, i < 8 → σ'.1 k (8 * q + i) = σ.1 k (8 * q + i)) (ht : ∀ q, q < 16 → q ≠ p → ∀ k, k ≤ 2 → (τ' (22 + 3 * q + k)).1 = (τ (22 + 3 * q + k)).1) (hl : ∃ g b t wd an lg, zl_l m' σ' τ' p g b t wd an lg) (ha : ∀ g, g < 16 → (τ' 4).1 g = (τ 4).1 g - zl_am σ g p + zl_am σ' g p) : zl_B m' σ' τ' := by
  refine ⟨fun g hg => ?_, fun q hq => ?_⟩
  · rw [ha g hg, h.1 g hg]
    refine (zl_sum_1 16 hp fun q hq hqp => ?_).symm
    obtain ⟨g', b, t, wd, an, lg, hl'⟩ := h.2 q hq
    unfold zl_am
    rw [(hs q hq hqp).1 16 (by omega), hl'.2.2.1.2.1, zn_nI (by have := hl'.2.1.1; omega)]
    refine zl_sum_c _ fun i hi => ?_
    have hi8 : i < 8 := by have := hl'.2.1.1; omega
    unfold zl_em
    rw [(hs q hq hqp).1 18 (by omega), (hs q hq hqp).2 20 (by omega) (by omega) i hi8, (hs q hq hqp).2 21 (by omega) (by omega) i hi8, (hs q hq hqp).2 22 (by omega) (by omega) i hi8]
  · by_cases e : q = p
    · subst e; exact hl
    · obtain ⟨g', b, t, wd, an, lg, hl'⟩ := h.2 q hq
      exact ⟨g', b, t, wd, an, lg, hl'.q hm (hs q hq e).1 (hs q hq e).2 (ht q hq e)⟩
/-- a change of a lane alone, that leaves what is in the air as it is -/
theorem zl_R.l {m : Nat} {A : Nat → ClassId} {x z : Nat} {σ σ' : zm_S} {τ τ' : zx_S} {w : zg_w} {p : Nat} (h : zl_R m A x σ τ w z) (hp : p < 16) (hs : ∀ k, ¬ (15 ≤ k ∧ k ≤ 24) → σ'.1 k = σ.1 k) (h2 : σ'.2 = σ.2) (hs1 : ∀ k q, q ≠ p → k < 20 ∨ 22 < k → σ'.1 k q = σ.1 k q) (hs2 : ∀ k q, q < 16 → q ≠ p → 20 ≤ k → k ≤ 22 → ∀ i, i < 8 → σ'.1 k (8 * q + i) = σ.1 k (8 * q + i)) (ht : ∀ o, o ≠ 22 + 3 * p → τ' o = τ o) (ht2 : (τ' (22 + 3 * p)).2 = (τ (22 + 3 * p)).2) (hl : ∃ g b t wd an lg, zl_l m σ' τ' p g b t wd an lg) (ha : ∀ g, g < 16 → zl_am σ' g p = zl_am σ g p) : zl_R m A x σ' τ' w z := by
  obtain ⟨T, hd, ⟨hA, hT, hB, hY⟩, hh⟩ := id h
  refine h.AB (hA.c (hs 0 (by omega)) (hs 1 (by omega)) (hs 2 (by omega)) (by rw [h2]) (by rw [ht 1 (by omega)]) (by rw [ht 2 (by omega)]) (fun q hq => by rw [ht _ (by omega)]) (fun q hq => by rw [ht _ (by omega)])) (hB.u hp (Nat.le_refl _) (fun q hq hqp => ⟨fun k hk => hs1 k q hqp (by omega), fun k h1 h2 => hs2 k q hq hqp h1 h2⟩) (fun q hq hqp k hk => by rw [ht _ (by omega)]) hl (fun g hg => by rw [ha g hg, ht 4 (by omega), Int32.sub_add_cancel])) (fun k hk _ => hs k (by omega)) (by rw [h2]) (fun o => ?_) (fun o ho => by rw [ht o (by rcases ho with rfl | rfl | ⟨q, hq, rfl⟩ <;> omega)])
  by_cases e : o = 22 + 3 * p
  · subst e; rw [ht2]
  · rw [ht o e]
theorem zl_lane {m : Nat} {A : Nat → ClassId} {x z : Nat} {σ : zm_S} {τ : zx_S} {w : zg_w} (h : zl_R m A x σ τ w z) {p : Nat} (hp : p < 16) : ∃ g b t wd an lg, zl_l m σ τ p g b t wd an lg := by
  obtain ⟨T, hd, ⟨hA, hT, hB, hY⟩, hh⟩ := h
  exact hB.2 p hp
theorem zl_lose1 {m : Nat} {A : Nat → ClassId} {x z : Nat} {σ : zm_S} {τ : zx_S} {w : zg_w} {p : Nat} (h : zl_R m A x σ τ w z) (hm : m < 2 ^ 30) (hp : p < 16) : zl_R m A x (zm_lose1 σ p) (zx_los τ p) w z ∧ zm_loseN σ p = zx_lost τ p := by
  obtain ⟨g, b, t, wd, an, lg, h1, h2, h3, h4, h5⟩ := zl_lane h hp
  have e : ∀ k, k ≠ 17 → k ≠ 19 → (zm_lose1 σ p).1 k = σ.1 k := fun k a b => by rw [zm_lose1, zm_set_o b, zm_set_o a]
  refine ⟨h.l hp (fun k hk => e k (by omega) (by omega)) rfl (fun k q hq _ => ?_) (fun k q _ _ a b i _ => by rw [e k (by omega) (by omega)]) (fun o ho => by rw [zx_los, zxI_o ho, zxI_o ho]) (by rw [zx_los, zx_at2, zx_at2]) ⟨g, b, t, 0, 0, lg, ?_⟩ (fun g _ => zl_am_c fun k hk => e k (by omega) (by omega)), ?_⟩
  · rw [zm_lose1, zm_at, if_neg (by omega), zm_at, if_neg (by omega)]
  · refine ⟨⟨?_, ?_, ?_, ?_, ?_⟩, ⟨h2.1, h2.2.1, h2.2.2.1, h2.2.2.2.1, by omega, by omega, by omega, Or.inl rfl, h2.2.2.2.2.2.2.2.2⟩, ⟨?_, ?_, ?_, ?_, ?_, ?_⟩, fun i hi => ?_, fun q => absurd q (by omega)⟩
    · simp only [zx_los, zx_at]; simpa using h1.1
    · simp only [zx_los, zx_at]; simpa using h1.2.1
    · simp only [zx_los, zx_at]; simpa using h1.2.2.1
    · simp only [zx_los, zx_at]; simp
    · simp only [zx_los, zx_at]; simp
    · rw [e 15 (by omega) (by omega)]; exact h3.1
    · rw [e 16 (by omega) (by omega)]; exact h3.2.1
    · simp only [zm_lose1, zm_at]; simp
    · rw [e 18 (by omega) (by omega)]; exact h3.2.2.2.1
    · simp only [zm_lose1, zm_at]; simp
    · rw [e 23 (by omega) (by omega)]; exact h3.2.2.2.2.2
    · rw [e 20 (by omega) (by omega), e 21 (by omega) (by omega), e 22 (by omega) (by omega)]
      have q := h4 i hi
      unfold zx_los
      rw [zxI_o (by omega), zxI_o (by omega), zxI_o (by omega), zxI_o (by omega)]
      exact q
  · unfold zm_loseN zx_lost
    rw [h3.2.2.1, h3.2.2.2.2.1, h1.2.2.2.1, h1.2.2.2.2]
    congr 1
    · by_cases e0 : wd = 0
      · subst e0; decide
      · rw [zb, if_pos (show (0 : Int32) < nI wd from nI_lt (a := 0) (by omega) (by omega)), if_neg (nI_ne0 (by omega) (by omega))]
    · by_cases e0 : an = 0
      · subst e0; decide
      · rw [if_neg e0, zb, if_pos (nI_pos (by omega)), if_neg (nI_ne0 (by omega) (by omega))]
theorem zl_crash {m : Nat} {A : Nat → ClassId} {x z : Nat} {σ : zm_S} {τ : zx_S} {w : zg_w} {port : Nat} (h : zl_R m A x σ τ w z) (hm : m < 2 ^ 30) (hp : port < 4) : ∀ i, i ≤ 4 → zl_R m A x (zm_cra σ port i).1 (zx_cra τ port i).1 w z ∧ (zm_cra σ port i).2 = (zx_cra τ port i).2
  | 0, _ => ⟨h, rfl⟩
  | i + 1, hi => by
    obtain ⟨h1, h2⟩ := zl_crash h hm hp i (by omega)
    rw [zm_cra, zx_cra]
    by_cases e : i = port
    · rw [if_pos e, if_pos e]; exact ⟨h1, h2⟩
    · rw [if_neg e, if_neg e, Nat.mul_comm port 4, Nat.mul_comm i 4]
      obtain ⟨a1, a2⟩ := zl_lose1 (p := 4 * port + i) h1 hm (by omega)
      obtain ⟨b1, b2⟩ := zl_lose1 (p := 4 * i + port) a1 hm (by omega)
      refine ⟨b1, ?_⟩
      show _ + _ + _ = _ + (_ + _)
      rw [a2, b2, h2, Int32.add_assoc]
theorem zl_send {m : Nat} {A : Nat → ClassId} {x z : Nat} {σ : zm_S} {τ : zx_S} {w : zg_w} {p : Nat} (h : zl_R m A x σ τ w z) (hp : p < 16) {g b t wd an lg : Nat} (hl : zl_l m σ τ p g b t wd an lg) (hb : b ≠ 0) : zl_R m A x (zm_set (zm_set (zm_set σ 17 p (σ.1 20 (8 * p))) 23 p (σ.1 21 (8 * p))) 24 p (σ.1 22 (8 * p))) (zxI τ (22 + 3 * p) 5 ((τ (22 + 3 * p)).1 2 + nI 1)) w z ∧ (τ (22 + 3 * p)).1 2 + nI 1 = σ.1 20 (8 * p) := by
  obtain ⟨h1, h2, h3, h4, h5⟩ := hl
  obtain ⟨k1, k2, k3, lg', k4, k5⟩ := h4 0 (by omega)
  rw [Nat.add_zero] at k1 k2 k3 k5
  refine ⟨h.l hp (fun k hk => by rw [zm_set_o (by omega), zm_set_o (by omega), zm_set_o (by omega)]) rfl (fun k q hq _ => by rw [zm_at, if_neg (by omega), zm_at, if_neg (by omega), zm_at, if_neg (by omega)]) (fun k q _ _ a b i _ => by rw [zm_set_o (by omega), zm_set_o (by omega), zm_set_o (by omega)]) (fun o ho => zxI_o ho) (by rw [zx_at2]) ⟨g, b, t, g + 1, an, lg', ?_⟩ (fun g _ => zl_am_c fun k hk => by rw [zm_set_o (by omega), zm_set_o (by omega), zm_set_o (by omega)]), by rw [h1.1, nI_add, k1]⟩
  rw [h1.1, nI_add]
  refine ⟨⟨?_, ?_, ?_, ?_, ?_⟩, ⟨h2.1, h2.2.1, h2.2.2.1, h2.2.2.2.1, by omega, by omega, h2.2.2.2.2.2.2.1, h2.2.2.2.2.2.2.2.1, k4⟩, ⟨?_, ?_, ?_, ?_, ?_, ?_⟩, fun i hi => ?_, fun q => ?_⟩
  · simp only [zx_at]; simpa using h1.1
  · simp only [zx_at]; simpa using h1.2.1
  · simp only [zx_at]; simpa using h1.2.2.1
  · simp only [zx_at]; simp
  · simp only [zx_at]; simpa using h1.2.2.2.2
  · simp only [zm_at]; simpa using h3.1
  · simp only [zm_at]; simpa using h3.2.1
  · simp only [zm_at]; simpa using k1
  · simp only [zm_at]; simpa using h3.2.2.2.1
  · simp only [zm_at]; simpa using h3.2.2.2.2.1
  · simp only [zm_at]; simpa using k5
  · have q := h4 i hi
    rw [zxI_o (by omega), zxI_o (by omega)]
    simp only [zm_at]; simpa using q
  · rw [zxI_o (by omega), zxI_o (by omega), show t = g by omega]
    simp only [zm_at]
    refine ⟨by simpa using k2, by simpa using k3⟩
