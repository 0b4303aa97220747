/-! the relation between class and reference -/
abbrev zl_ok (x q : Nat) : Prop := zx_out x q ∧ (q < x + 70 ∨ x + 97 ≤ q)
def zl_f (σ : zm_S) (a pn : Nat) (f : Nat → Int32) : Prop := ∀ g, g < 16 → f g = zm_lies σ a g pn
/-- opened, fares, rights, tills -/
def zl_A (σ : zm_S) (τ : zx_S) : Prop := (∀ s, s < 4 → (τ 1).1 s = σ.1 0 s) ∧ (∀ i, i < 16 → (τ 2).1 i = σ.1 1 i) ∧ (∀ p, p < 4 → ∀ i, i < 16 → (τ (10 + 3 * p + 1)).1 i = σ.1 2 (16 * p + i)) ∧ ∀ p, p < 4 → (τ (10 + 3 * p)).2.1 = σ.2 11 p
def zl_tm (σ : zm_S) (g t : Nat) : Int32 := if σ.1 10 t = 0 then 0 else σ.1 7 t * zm_lies σ (4 + 4 * t) g (zn (σ.1 8 t))
theorem zm_sold_s {σ : zm_S} {g : Nat} : ∀ T, zm_sold σ g T = zl_sum (zl_tm σ g) T
  | 0 => rfl
  | T + 1 => by
    rw [zm_sold, zl_sum, zm_sold_s T, zl_tm]
    split
    · rw [Int32.add_zero]
    · rfl
/-- tickets' number, seats sold -/
def zl_T (σ : zm_S) (τ : zx_S) (T : Nat) : Prop := T ≤ 80 ∧ (τ 0).1 7 = nI T ∧ σ.1 25 2 = nI T ∧ ∀ g, g < 16 → (τ 3).1 g = zl_sum (zl_tm σ g) T
def zl_em (σ : zm_S) (g p i : Nat) : Int32 := if σ.1 21 (8 * p + i) = nI g ∧ σ.1 18 p < σ.1 20 (8 * p + i) then σ.1 22 (8 * p + i) else 0
def zl_am (σ : zm_S) (g p : Nat) : Int32 := zl_sum (zl_em σ g p) (zn (σ.1 16 p))
theorem zm_air1_s {σ : zm_S} {g p : Nat} {n : Int32} : ∀ k, zm_air1 σ g p n k = n + zl_sum (zl_em σ g p) k
  | 0 => by rw [zm_air1, zl_sum, Int32.add_zero]
  | k + 1 => by
    rw [zm_air1, zl_sum, zm_air1_s k, zl_em]
    split
    · rw [Int32.add_assoc]
    · rw [Int32.add_zero]
theorem zm_air_s {σ : zm_S} {g : Nat} : ∀ m, zm_air σ g m = zl_sum (zl_am σ g) m
  | 0 => rfl
  | m + 1 => by rw [zm_air, zl_sum, zm_air1_s, zm_air_s m, zl_am]
/-- a lane: gone, waiting, taken, word, answer, the word's leg -/
def zl_l (m : Nat) (σ : zm_S) (τ : zx_S) (p g b t wd an lg : Nat) : Prop :=
  ((τ (22 + 3 * p)).1 2 = nI g ∧ (τ (22 + 3 * p)).1 3 = nI b ∧ (τ (22 + 3 * p)).1 4 = nI t ∧ (τ (22 + 3 * p)).1 5 = nI wd ∧ (τ (22 + 3 * p)).1 6 = nI an) ∧
  (b ≤ 8 ∧ g ≤ t ∧ t ≤ g + b ∧ g + b ≤ m ∧ wd ≤ t + 1 ∧ (wd = t + 1 → t + 1 ≤ g + b) ∧ an ≤ t ∧ (an = 0 ∨ g ≤ an) ∧ lg < 16) ∧
  (σ.1 15 p = nI (g + b) ∧ σ.1 16 p = nI b ∧ σ.1 17 p = nI wd ∧ σ.1 18 p = nI t ∧ σ.1 19 p = (if an = 0 then -1 else nI an) ∧ σ.1 23 p = nI lg) ∧
  (∀ i, i < b → σ.1 20 (8 * p + i) = nI (g + 1 + i) ∧ σ.1 21 (8 * p + i) = (τ (22 + 3 * p + 1)).1 ((g + 1 + i) % 8) ∧ σ.1 22 (8 * p + i) = (τ (22 + 3 * p + 2)).1 ((g + 1 + i) % 8) ∧ ∃ q, q < 16 ∧ σ.1 21 (8 * p + i) = nI q) ∧
  (wd = t + 1 → σ.1 23 p = (τ (22 + 3 * p + 1)).1 ((t + 1) % 8) ∧ σ.1 24 p = (τ (22 + 3 * p + 2)).1 ((t + 1) % 8))
def zl_B (m : Nat) (σ : zm_S) (τ : zx_S) : Prop := (∀ g, g < 16 → (τ 4).1 g = zl_sum (zl_am σ g) 16) ∧ ∀ p, p < 16 → ∃ g b t wd an lg, zl_l m σ τ p g b t wd an lg
def zl_J (A : Nat → ClassId) (x : Nat) (w : zg_w) (z j : Nat) (f : Nat → Int32) (pn : Nat) : Prop := zx_J A x w j f (nI pn) ∧ zl_ok x j ∧ zl_ok x (j + 1) ∧ j + 1 < z ∧ pn ≤ 4
def zl_D (A : Nat → ClassId) (x : Nat) (σ : zm_S) (w : zg_w) (z dr d : Nat) (f : Nat → Int32) : Prop := zl_J A x w z dr f d ∧ σ.1 25 1 = nI d ∧ zl_f σ 0 d f
def zl_W (A : Nat → ClassId) (x : Nat) (σ : zm_S) (w : zg_w) (z dr p i q j : Nat) (f : Nat → Int32) (pn : Nat) : Prop := zl_ok x q ∧ q < z ∧ w q = some (.inr (4, [.ref j, .int (σ.1 13 (6 * p + i))])) ∧ zl_J A x w z j f pn ∧ σ.1 14 (6 * p + i) = nI pn ∧ zl_f σ (324 + 4 * (6 * p + i)) pn f ∧ j ≠ dr
def zl_K (A : Nat → ClassId) (x : Nat) (σ : zm_S) (w : zg_w) (z dr t q j : Nat) (f : Nat → Int32) (pn port : Nat) : Prop := zl_ok x q ∧ q < z ∧ w q = some (.inr (3, [.int (nI port), .int (σ.1 7 t), .ref j, .long (σ.2 9 t), .int (if σ.1 10 t = 0 then nI 1 else nI 0)])) ∧ zl_J A x w z j f pn ∧ port < 4 ∧ σ.1 6 t = nI port ∧ σ.1 8 t = nI pn ∧ zl_f σ (4 + 4 * t) pn f ∧ j ≠ dr
def zl_inj (τ : zx_S) (T : Nat) : Prop := ∀ t u q, t < T → u < T → (τ 7).2.2.1 t = some q → (τ 7).2.2.1 u = some q → t = u
/-- draft, wishes, tickets -/
def zl_Y (A : Nat → ClassId) (x : Nat) (σ : zm_S) (τ : zx_S) (w : zg_w) (z T : Nat) (V : Nat → Nat → Prop) : Prop := (∃ d f, zl_D A x σ w z (τ 0).2.2.2 d f) ∧ (∀ p, p < 4 → ∀ i, V p i → i < 6 ∧ ∃ q j f pn, (τ (10 + 3 * p + 2)).2.2.1 i = some q ∧ zl_W A x σ w z (τ 0).2.2.2 p i q j f pn) ∧ (∀ t, t < T → ∃ q j f pn port, (τ 7).2.2.1 t = some q ∧ zl_K A x σ w z (τ 0).2.2.2 t q j f pn port) ∧ zl_inj τ T ∧ x + 97 ≤ z
def zl_C (m : Nat) (A : Nat → ClassId) (x : Nat) (σ : zm_S) (τ : zx_S) (w : zg_w) (z T : Nat) (V : Nat → Nat → Prop) : Prop := zl_A σ τ ∧ zl_T σ τ T ∧ zl_B m σ τ ∧ zl_Y A x σ τ w z T V
def zl_R (m : Nat) (A : Nat → ClassId) (x : Nat) (σ : zm_S) (τ : zx_S) (w : zg_w) (z : Nat) : Prop := ∃ (T : Nat) (hd : Nat → Nat), zl_C m A x σ τ w z T (fun p i => i < hd p) ∧ ∀ p, p < 4 → hd p ≤ 6 ∧ (τ (10 + 3 * p)).1 2 = nI (hd p) ∧ σ.1 12 p = nI (hd p)
/-! what leaves a part of it as it is -/
theorem zl_f.c {σ σ' : zm_S} {a pn : Nat} {f : Nat → Int32} (h : zl_f σ a pn f) (hs : ∀ i, i < pn → ∀ k, k = 3 ∨ k = 4 ∨ k = 5 → σ'.1 k (a + i) = σ.1 k (a + i)) : zl_f σ' a pn f := fun g hg => by rw [h g hg, zm_lies_c pn hs]
theorem zl_J.c {A : Nat → ClassId} {x z z' j pn : Nat} {w w' : zg_w} {f : Nat → Int32} (h : zl_J A x w z j f pn) (hz : z ≤ z') (h1 : w' j = w j) (h2 : w' (j + 1) = w (j + 1)) : zl_J A x w' z' j f pn := ⟨h.1.kept h1 h2, h.2.1, h.2.2.1, Nat.lt_of_lt_of_le h.2.2.2.1 hz, h.2.2.2.2⟩
theorem zl_A.c {σ σ' : zm_S} {τ τ' : zx_S} (h : zl_A σ τ) (h0 : σ'.1 0 = σ.1 0) (h1 : σ'.1 1 = σ.1 1) (h2 : σ'.1 2 = σ.1 2) (h3 : σ'.2 11 = σ.2 11) (g1 : (τ' 1).1 = (τ 1).1) (g2 : (τ' 2).1 = (τ 2).1) (g3 : ∀ p, p < 4 → (τ' (10 + 3 * p + 1)).1 = (τ (10 + 3 * p + 1)).1) (g4 : ∀ p, p < 4 → (τ' (10 + 3 * p)).2.1 = (τ (10 + 3 * p)).2.1) : zl_A σ' τ' :=
  ⟨fun s hs => by rw [g1, h0]; exact h.1 s hs, fun i hi => by rw [g2, h1]; exact h.2.1 i hi, fun p hp i hi => by rw [g3 p hp, h2]; exact h.2.2.1 p hp i hi, fun p hp => by rw [g4 p hp, h3]; exact h.2.2.2 p hp⟩
theorem zl_tm_c {σ σ' : zm_S} {g t : Nat} (h : ∀ k, k = 3 ∨ k = 4 ∨ k = 5 ∨ k = 7 ∨ k = 8 ∨ k = 10 → σ'.1 k = σ.1 k) : zl_tm σ' g t = zl_tm σ g t := by
  unfold zl_tm
  rw [h 10 (by omega), h 7 (by omega), h 8 (by omega), zm_lies_c (σ := σ) (a := 4 + 4 * t) _ (fun i _ k hk => by rw [h k (by omega)])]
theorem zl_T.c {σ σ' : zm_S} {τ τ' : zx_S} {T : Nat} (h : zl_T σ τ T) (hs : ∀ k, k = 3 ∨ k = 4 ∨ k = 5 ∨ k = 7 ∨ k = 8 ∨ k = 10 → σ'.1 k = σ.1 k) (h2 : σ'.1 25 2 = σ.1 25 2) (g0 : (τ' 0).1 7 = (τ 0).1 7) (g3 : (τ' 3).1 = (τ 3).1) : zl_T σ' τ' T :=
  ⟨h.1, by rw [g0]; exact h.2.1, by rw [h2]; exact h.2.2.1, fun g hg => by rw [g3, h.2.2.2 g hg]; exact (zl_sum_c T fun t _ => zl_tm_c hs).symm⟩
theorem zl_am_c {σ σ' : zm_S} {g p : Nat} (h : ∀ k, k = 16 ∨ k = 18 ∨ k = 20 ∨ k = 21 ∨ k = 22 → σ'.1 k = σ.1 k) : zl_am σ' g p = zl_am σ g p := by
  unfold zl_am
  rw [h 16 (by omega)]
  refine zl_sum_c _ fun i _ => ?_
  unfold zl_em
  rw [h 21 (by omega), h 18 (by omega), h 20 (by omega), h 22 (by omega)]
theorem zl_l.c {m m' p g b t wd an lg : Nat} {σ σ' : zm_S} {τ τ' : zx_S} (h : zl_l m σ τ p g b t wd an lg) (hm : m ≤ m') (hs : ∀ k, 15 ≤ k → k ≤ 24 → σ'.1 k = σ.1 k) (ht : ∀ k, k ≤ 2 → (τ' (22 + 3 * p + k)).1 = (τ (22 + 3 * p + k)).1) : zl_l m' σ' τ' p g b t wd an lg := by
  obtain ⟨h1, h2, h3, h4, h5⟩ := h
  unfold zl_l
  have e0 := ht 0 (by omega)
  rw [Nat.add_zero] at e0
  rw [e0, ht 1 (by omega), ht 2 (by omega), hs 15 (by omega) (by omega), hs 16 (by omega) (by omega), hs 17 (by omega) (by omega), hs 18 (by omega) (by omega), hs 19 (by omega) (by omega), hs 20 (by omega) (by omega), hs 21 (by omega) (by omega), hs 22 (by omega) (by omega), hs 23 (by omega) (by omega), hs 24 (by omega) (by omega)]
  exact ⟨h1, ⟨h2.1, h2.2.1, h2.2.2.1, Nat.le_trans h2.2.2.2.1 hm, h2.2.2.2.2⟩, h3, h4, h5⟩
theorem zl_B.c {m m' : Nat} {σ σ' : zm_S} {τ τ' : zx_S} (h : zl_B m σ τ) (hm : m ≤ m') (hs : ∀ k, 15 ≤ k → k ≤ 24 → σ'.1 k = σ.1 k) (h4 : (τ' 4).1 = (τ 4).1) (ht : ∀ o, 22 ≤ o → (τ' o).1 = (τ o).1) : zl_B m' σ' τ' := by
  refine ⟨fun g hg => ?_, fun p hp => ?_⟩
  · rw [h4, h.1 g hg]
    exact (zl_sum_c 16 fun p _ => zl_am_c fun k hk => hs k (by omega) (by omega)).symm
  · obtain ⟨g, b, t, wd, an, lg, hl⟩ := h.2 p hp
    exact ⟨g, b, t, wd, an, lg, hl.c hm hs fun k hk => ht _ (by omega)⟩
theorem zl_D.c {A : Nat → ClassId} {x z z' dr d : Nat} {σ σ' : zm_S} {w w' : zg_w} {f : Nat → Int32} (h : zl_D A x σ w z dr d f) (hz : z ≤ z') (h1 : w' dr = w dr) (h2 : w' (dr + 1) = w (dr + 1)) (h25 : σ'.1 25 1 = σ.1 25 1) (hs : ∀ i, i < d → ∀ k, k = 3 ∨ k = 4 ∨ k = 5 → σ'.1 k (0 + i) = σ.1 k (0 + i)) : zl_D A x σ' w' z' dr d f := ⟨h.1.c hz h1 h2, by rw [h25]; exact h.2.1, h.2.2.c hs⟩
theorem zl_W.c {A : Nat → ClassId} {x z z' dr dr' p i q j pn : Nat} {σ σ' : zm_S} {w w' : zg_w} {f : Nat → Int32} (h : zl_W A x σ w z dr p i q j f pn) (hz : z ≤ z') (hd : j ≠ dr') (h0 : w' q = w q) (h1 : w' j = w j) (h2 : w' (j + 1) = w (j + 1)) (g13 : σ'.1 13 (6 * p + i) = σ.1 13 (6 * p + i)) (g14 : σ'.1 14 (6 * p + i) = σ.1 14 (6 * p + i)) (hs : ∀ o, o < 4 → ∀ k, k = 3 ∨ k = 4 ∨ k = 5 → σ'.1 k (324 + 4 * (6 * p + i) + o) = σ.1 k (324 + 4 * (6 * p + i) + o)) : zl_W A x σ' w' z' dr' p i q j f pn :=
  ⟨h.1, Nat.lt_of_lt_of_le h.2.1 hz, by rw [h0, g13]; exact h.2.2.1, h.2.2.2.1.c hz h1 h2, by rw [g14]; exact h.2.2.2.2.1, h.2.2.2.2.2.1.c (fun o ho => hs o (Nat.lt_of_lt_of_le ho h.2.2.2.1.2.2.2.2)), hd⟩
theorem zl_K.c {A : Nat → ClassId} {x z z' dr dr' t q j pn port : Nat} {σ σ' : zm_S} {w w' : zg_w} {f : Nat → Int32} (h : zl_K A x σ w z dr t q j f pn port) (hz : z ≤ z') (hd : j ≠ dr') (h0 : w' q = w q) (h1 : w' j = w j) (h2 : w' (j + 1) = w (j + 1)) (g : ∀ k, k = 6 ∨ k = 7 ∨ k = 8 ∨ k = 10 → σ'.1 k t = σ.1 k t) (g9 : σ'.2 9 t = σ.2 9 t) (hs : ∀ o, o < 4 → ∀ k, k = 3 ∨ k = 4 ∨ k = 5 → σ'.1 k (4 + 4 * t + o) = σ.1 k (4 + 4 * t + o)) : zl_K A x σ' w' z' dr' t q j f pn port :=
  ⟨h.1, Nat.lt_of_lt_of_le h.2.1 hz, by rw [h0, g 7 (by omega), g9, g 10 (by omega)]; exact h.2.2.1, h.2.2.2.1.c hz h1 h2, h.2.2.2.2.1, by rw [g 6 (by omega)]; exact h.2.2.2.2.2.1, by rw [g 8 (by omega)]; exact h.2.2.2.2.2.2.1, h.2.2.2.2.2.2.2.1.c (fun o ho => hs o (Nat.lt_of_lt_of_le ho h.2.2.2.1.2.2.2.2)), hd⟩
theorem zl_Y.c {A : Nat → ClassId} {x z z' T : Nat} {σ σ' : zm_S} {τ τ' : zx_S} {w w' : zg_w} {V : Nat → Nat → Prop} (h : zl_Y A x σ τ w z T V) (hz : z ≤ z') (hw : ∀ q, zl_ok x q → q < z → w' q = w q) (hs : ∀ k, k = 3 ∨ k = 4 ∨ k = 5 ∨ k = 6 ∨ k = 7 ∨ k = 8 ∨ k = 10 ∨ k = 13 ∨ k = 14 → σ'.1 k = σ.1 k) (h25 : σ'.1 25 1 = σ.1 25 1) (h9 : σ'.2 9 = σ.2 9) (g0 : (τ' 0).2.2.2 = (τ 0).2.2.2) (g7 : (τ' 7).2.2.1 = (τ 7).2.2.1) (gr : ∀ p, p < 4 → (τ' (10 + 3 * p + 2)).2.2.1 = (τ (10 + 3 * p + 2)).2.2.1) : zl_Y A x σ' τ' w' z' T V := by
  obtain ⟨⟨d, f, hD⟩, hW, hK, hI, hx⟩ := h
  refine ⟨⟨d, f, ?_⟩, fun p hp i hv => ?_, fun t ht => ?_, ?_, Nat.le_trans hx hz⟩
  · rw [g0]
    exact hD.c hz (hw _ hD.1.2.1 (by have := hD.1.2.2.2.1; omega)) (hw _ hD.1.2.2.1 hD.1.2.2.2.1) h25 (fun i _ k hk => by rw [hs k (by omega)])
  · obtain ⟨hi, q, j, f, pn, hr, hh⟩ := hW p hp i hv
    refine ⟨hi, q, j, f, pn, by rw [gr p hp]; exact hr, ?_⟩
    have hj := hh.2.2.2.1
    rw [g0]
    exact hh.c hz hh.2.2.2.2.2.2 (hw _ hh.1 hh.2.1) (hw _ hj.2.1 (by have := hj.2.2.2.1; omega)) (hw _ hj.2.2.1 hj.2.2.2.1) (by rw [hs 13 (by omega)]) (by rw [hs 14 (by omega)]) (fun o _ k hk => by rw [hs k (by omega)])
  · obtain ⟨q, j, f, pn, port, hr, hh⟩ := hK t ht
    refine ⟨q, j, f, pn, port, by rw [g7]; exact hr, ?_⟩
    have hj := hh.2.2.2.1
    rw [g0]
    exact hh.c hz hh.2.2.2.2.2.2.2.2 (hw _ hh.1 hh.2.1) (hw _ hj.2.1 (by have := hj.2.2.2.1; omega)) (hw _ hj.2.2.1 hj.2.2.2.1) (fun k hk => by rw [hs k (by omega)]) (by rw [h9]) (fun o _ k hk => by rw [hs k (by omega)])
  · intro t u q ht hu h1 h2
    rw [g7] at h1 h2
    exact hI t u q ht hu h1 h2
/-- only the world outside, and how many numbers there may be -/
theorem zl_R.w {m m' : Nat} {A : Nat → ClassId} {x z z' : Nat} {σ : zm_S} {τ : zx_S} {w w' : zg_w} (h : zl_R m A x σ τ w z) (hm : m ≤ m') (hz : z ≤ z') (hw : ∀ q, zl_ok x q → q < z → w' q = w q) : zl_R m' A x σ τ w' z' := by
  obtain ⟨T, hd, ⟨hA, hT, hB, hY⟩, hh⟩ := h
  exact ⟨T, hd, ⟨hA, hT, hB.c hm (fun _ _ _ => rfl) rfl (fun _ _ => rfl), hY.c hz hw (fun _ _ => rfl) rfl rfl rfl rfl (fun _ _ => rfl)⟩, hh⟩
/-- a refused call: the code alone -/
theorem zl_R.f {m : Nat} {A : Nat → ClassId} {x z : Nat} {σ : zm_S} {τ : zx_S} {w : zg_w} (h : zl_R m A x σ τ w z) (c : Nat) : zl_R m A x (zm_f σ c) τ w z := by
  obtain ⟨T, hd, ⟨hA, hT, hB, hY⟩, hh⟩ := h
  have e : ∀ k, k ≠ 25 → (zm_f σ c).1 k = σ.1 k := fun k hk => zm_set_o hk
  have e1 : (zm_f σ c).1 25 1 = σ.1 25 1 := zm_set_n (by decide)
  have e2 : (zm_f σ c).1 25 2 = σ.1 25 2 := zm_set_n (by decide)
  exact ⟨T, hd, ⟨hA.c (e 0 (by decide)) (e 1 (by decide)) (e 2 (by decide)) rfl rfl rfl (fun _ _ => rfl) (fun _ _ => rfl), hT.c (fun k hk => e k (by omega)) e2 rfl rfl, hB.c (Nat.le_refl _) (fun k _ _ => e k (by omega)) rfl (fun _ _ => rfl), hY.c (Nat.le_refl _) (fun _ _ _ => rfl) (fun k hk => e k (by omega)) e1 rfl rfl rfl (fun _ _ => rfl)⟩, fun p hp => by rw [e 12 (by decide)]; exact hh p hp⟩
