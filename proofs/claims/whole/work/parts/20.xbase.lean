/-! the class's own cells: one block of 70 addresses from x on (8 and 9: the first draft, which is as any other journey); row o of a state says what the cell x + o holds -/
abbrev zx_R : Type := (Nat → Int32) × Int64 × (Nat → Option Nat) × Nat
abbrev zx_S : Type := Nat → zx_R
def zx_pa (x : Nat) : Nat → Option Nat := fun i => if i < 4 then some (x + (10 + 3 * i)) else none
def zx_la (x : Nat) : Nat → Option Nat := fun i => if i < 16 then some (x + (22 + 3 * i)) else none
def zx_fo (x : Nat) (r : zx_R) : List Value := [.ref (x + 1), .ref (x + 2), .ref (x + 3), .ref (x + 4), .ref (x + 5), .ref (x + 6), .ref (x + 7), .int (r.1 7), .ref r.2.2.2]
def zx_fp (x o : Nat) (r : zx_R) : List Value := [.ref (x + (o + 1)), .ref (x + (o + 2)), .int (r.1 2), .long r.2.1]
def zx_fl (x o : Nat) (r : zx_R) : List Value := [.ref (x + (o + 1)), .ref (x + (o + 2)), .int (r.1 2), .int (r.1 3), .int (r.1 4), .int (r.1 5), .int (r.1 6)]
def zx_c (A : Nat → ClassId) (x o : Nat) (r : zx_R) : va_E :=
  if o = 0 then .inr (5, zx_fo x r) else if o = 1 then .inl (A 1, 4, .inl r.1) else if o < 5 then .inl (A 0, 16, .inl r.1)
  else if o = 5 then .inl (A 3, 4, .inr (.inr (.inr (.inr (zx_pa x))))) else if o = 6 then .inl (A 4, 16, .inr (.inr (.inr (.inr (zx_la x))))) else if o = 7 then .inl (A 5, 80, .inr (.inr (.inr (.inr r.2.2.1))))
  else if o < 22 then (if o % 3 = 1 then .inr (2, zx_fp x o r) else if o % 3 = 2 then .inl (A 0, 16, .inl r.1) else .inl (A 6, 6, .inr (.inr (.inr (.inr r.2.2.1)))))
  else (if o % 3 = 1 then .inr (1, zx_fl x o r) else .inl (A 0, 8, .inl r.1))
abbrev zx_b (o : Nat) : Prop := o < 70 ∧ o ≠ 8 ∧ o ≠ 9
def zx_h (A : Nat → ClassId) (x : Nat) (τ : zx_S) (w : zg_w) : Prop := ∀ o, zx_b o → w (x + o) = some (zx_c A x o (τ o))
def zx_out (x q : Nat) : Prop := ∀ o, zx_b o → q ≠ x + o
def zx_P (A : Nat → ClassId) (x : Nat) (v : zg_w) (sz : Nat) (τ : zx_S) : zg_P := fun w z => z = sz ∧ zx_h A x τ w ∧ ∀ q, zx_out x q → w q = v q
def zx_up (τ : zx_S) (o : Nat) (r : zx_R) : zx_S := fun q => if q = o then r else τ q
theorem zx_up_s {τ : zx_S} {o : Nat} {r : zx_R} : zx_up τ o r o = r := by simp [zx_up]
theorem zx_up_n {τ : zx_S} {o q : Nat} {r : zx_R} (h : q ≠ o) : zx_up τ o r q = τ q := by simp [zx_up, h]
theorem zx_P.up {A : Nat → ClassId} {x sz o : Nat} {v : zg_w} {τ : zx_S} {r : zx_R} {e : va_E} (ho : zx_b o) (he : e = zx_c A x o r) (w : zg_w) (z : Nat) (h : zx_P A x v sz τ w z) : zx_P A x v sz (zx_up τ o r) (zg_u w (x + o) e) z := by
  obtain ⟨hz, h1, h2⟩ := h
  refine ⟨hz, fun q hq => ?_, fun q hq => ?_⟩
  · by_cases hqo : q = o
    · subst hqo
      rw [zg_us, he, zx_up_s]
    · rw [zg_un (by omega), zx_up_n hqo]; exact h1 q hq
  · rw [zg_un (hq o ho)]; exact h2 q hq
theorem zx_P.dy {A : Nat → ClassId} {x sz a : Nat} {v : zg_w} {τ : zx_S} {e : va_E} (ha : zx_out x a) (w : zg_w) (z : Nat) (h : zx_P A x v sz τ w z) : zx_P A x (zg_u v a e) sz τ (zg_u w a e) z := by
  obtain ⟨hz, h1, h2⟩ := h
  refine ⟨hz, fun q hq => ?_, fun q hq => ?_⟩
  · rw [zg_un (fun k => ha q hq k.symm)]; exact h1 q hq
  · by_cases hqa : q = a
    · subst hqa
      rw [zg_us, zg_us]
    · rw [zg_un hqa, zg_un hqa]; exact h2 q hq
theorem zx_P.nw {A : Nat → ClassId} {x sz : Nat} {v : zg_w} {τ : zx_S} {e : va_E} (ha : zx_out x sz) (w : zg_w) (h : zx_P A x v sz τ w sz) : zx_P A x (zg_u v sz e) (sz + 1) τ (zg_u w sz e) (sz + 1) := ⟨rfl, (zx_P.dy ha w sz h).2⟩
theorem zx_out_ge {x q : Nat} (h : x + 70 ≤ q) : zx_out x q := fun o ho e => by omega
/-- the rows of a state, by what they are -/
def zxI (τ : zx_S) (o i : Nat) (n : Int32) : zx_S := zx_up τ o (upd (τ o).1 i n, (τ o).2)
def zxT (τ : zx_S) (o : Nat) (n : Int64) : zx_S := zx_up τ o ((τ o).1, n, (τ o).2.2)
def zxG (τ : zx_S) (o i q : Nat) : zx_S := zx_up τ o ((τ o).1, (τ o).2.1, va_up (τ o).2.2.1 i (some q), (τ o).2.2.2)
def zxD (τ : zx_S) (d : Nat) : zx_S := zx_up τ 0 ((τ 0).1, (τ 0).2.1, (τ 0).2.2.1, d)
theorem zx_cp {A : Nat → ClassId} {x i : Nat} {r : zx_R} (h : i < 4) : zx_c A x (10 + 3 * i) r = .inr (2, zx_fp x (10 + 3 * i) r) := by
  unfold zx_c
  rw [if_neg (by omega), if_neg (by omega), if_neg (by omega), if_neg (by omega), if_neg (by omega), if_neg (by omega), if_pos (by omega), if_pos (by omega)]
theorem zx_co {A : Nat → ClassId} {x i : Nat} {r : zx_R} (h : i < 4) : zx_c A x (10 + 3 * i + 1) r = .inl (A 0, 16, .inl r.1) := by
  unfold zx_c
  rw [if_neg (by omega), if_neg (by omega), if_neg (by omega), if_neg (by omega), if_neg (by omega), if_neg (by omega), if_pos (by omega), if_neg (by omega), if_pos (by omega)]
theorem zx_cr {A : Nat → ClassId} {x i : Nat} {r : zx_R} (h : i < 4) : zx_c A x (10 + 3 * i + 2) r = .inl (A 6, 6, .inr (.inr (.inr (.inr r.2.2.1)))) := by
  unfold zx_c
  rw [if_neg (by omega), if_neg (by omega), if_neg (by omega), if_neg (by omega), if_neg (by omega), if_neg (by omega), if_pos (by omega), if_neg (by omega), if_neg (by omega)]
theorem zx_cl {A : Nat → ClassId} {x p : Nat} {r : zx_R} (h : p < 16) : zx_c A x (22 + 3 * p) r = .inr (1, zx_fl x (22 + 3 * p) r) := by
  unfold zx_c
  rw [if_neg (by omega), if_neg (by omega), if_neg (by omega), if_neg (by omega), if_neg (by omega), if_neg (by omega), if_neg (by omega), if_pos (by omega)]
theorem zx_ca {A : Nat → ClassId} {x p : Nat} {r : zx_R} (k : Nat) (hk : k = 1 ∨ k = 2) (h : p < 16) : zx_c A x (22 + 3 * p + k) r = .inl (A 0, 8, .inl r.1) := by
  unfold zx_c
  rw [if_neg (by omega), if_neg (by omega), if_neg (by omega), if_neg (by omega), if_neg (by omega), if_neg (by omega), if_neg (by omega), if_neg (by omega)]
section ZXR
variable {A : Nat → ClassId} {x sz : Nat} {v : zg_w} {τ : zx_S} {w : zg_w} {z : Nat}
theorem zx_g0 (h : zx_P A x v sz τ w z) : w x = some (.inr (5, zx_fo x (τ 0))) := h.2.1 0 (by decide)
theorem zx_ga (h : zx_P A x v sz τ w z) (o : Nat) (ho : 1 < o ∧ o < 5) : w (x + o) = some (.inl (A 0, 16, .inl (τ o).1)) := by
  rw [h.2.1 o (by omega)]
  unfold zx_c
  rw [if_neg (by omega), if_neg (by omega), if_pos (by omega)]
theorem zx_g1 (h : zx_P A x v sz τ w z) : w (x + 1) = some (.inl (A 1, 4, .inl (τ 1).1)) := h.2.1 1 (by decide)
theorem zx_g5 (h : zx_P A x v sz τ w z) : w (x + 5) = some (.inl (A 3, 4, .inr (.inr (.inr (.inr (zx_pa x)))))) := h.2.1 5 (by decide)
theorem zx_g6 (h : zx_P A x v sz τ w z) : w (x + 6) = some (.inl (A 4, 16, .inr (.inr (.inr (.inr (zx_la x)))))) := h.2.1 6 (by decide)
theorem zx_g7 (h : zx_P A x v sz τ w z) : w (x + 7) = some (.inl (A 5, 80, .inr (.inr (.inr (.inr (τ 7).2.2.1))))) := h.2.1 7 (by decide)
theorem zx_gp (h : zx_P A x v sz τ w z) {i : Nat} (hi : i < 4) : w (x + (10 + 3 * i)) = some (.inr (2, zx_fp x (10 + 3 * i) (τ (10 + 3 * i)))) := by rw [h.2.1 _ (by omega), zx_cp hi]
theorem zx_go (h : zx_P A x v sz τ w z) {i : Nat} (hi : i < 4) : w (x + (10 + 3 * i + 1)) = some (.inl (A 0, 16, .inl (τ (10 + 3 * i + 1)).1)) := by rw [h.2.1 _ (by omega), zx_co hi]
theorem zx_gr (h : zx_P A x v sz τ w z) {i : Nat} (hi : i < 4) : w (x + (10 + 3 * i + 2)) = some (.inl (A 6, 6, .inr (.inr (.inr (.inr (τ (10 + 3 * i + 2)).2.2.1))))) := by rw [h.2.1 _ (by omega), zx_cr hi]
theorem zx_gl (h : zx_P A x v sz τ w z) {p : Nat} (hp : p < 16) : w (x + (22 + 3 * p)) = some (.inr (1, zx_fl x (22 + 3 * p) (τ (22 + 3 * p)))) := by rw [h.2.1 _ (by omega), zx_cl hp]
theorem zx_gk (h : zx_P A x v sz τ w z) {p : Nat} (k : Nat) (hk : k = 1 ∨ k = 2) (hp : p < 16) : w (x + (22 + 3 * p + k)) = some (.inl (A 0, 8, .inl (τ (22 + 3 * p + k)).1)) := by rw [h.2.1 _ (by omega), zx_ca k hk hp]
theorem zx_gv (h : zx_P A x v sz τ w z) {q : Nat} (hq : zx_out x q) : w q = v q := h.2.2 q hq
end ZXR
