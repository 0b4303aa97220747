theorem zg_uu {w : zg_w} {a : Nat} {e e' : va_E} : zg_u (zg_u w a e) a e' = zg_u w a e' := by
  funext q
  by_cases h : q = a
  · subst h; rw [zg_us, zg_us]
  · rw [zg_un h, zg_un h, zg_un h]
theorem zg_uc {w : zg_w} {a b : Nat} {e e' : va_E} (h : a ≠ b) : zg_u (zg_u w a e) b e' = zg_u (zg_u w b e') a e := by
  funext q
  by_cases h1 : q = a
  · subst h1; rw [zg_un h, zg_us, zg_us]
  · by_cases h2 : q = b
    · subst h2; rw [zg_us, zg_un h1, zg_us]
    · rw [zg_un h2, zg_un h1, zg_un h1, zg_un h2]
/-- P, and then the change F to the world, with dz new cells -/
def zg_af (P : zg_P) (F : zg_w → zg_w) (dz : Nat) : zg_P := fun w z => ∃ w' z', P w' z' ∧ w = F w' ∧ z = z' + dz
theorem zg_af.z {P : zg_P} (w : zg_w) (z : Nat) (h : P w z) : zg_af P (fun q => q) 0 w z := ⟨w, z, h, rfl, rfl⟩
theorem zg_af.put {P : zg_P} {F : zg_w → zg_w} {dz a : Nat} {e : va_E} (w : zg_w) (z : Nat) (h : zg_af P F dz w z) : zg_af P (fun q => zg_u (F q) a e) dz (zg_u w a e) z := by
  obtain ⟨w', z', h1, rfl, rfl⟩ := h
  exact ⟨w', z', h1, rfl, rfl⟩
theorem zg_af.new {P : zg_P} {F : zg_w → zg_w} {dz s : Nat} {e : va_E} (w : zg_w) (h : zg_af P F dz w s) : zg_af P (fun q => zg_u (F q) s e) (dz + 1) (zg_u w s e) (s + 1) := by
  obtain ⟨w', z', h1, rfl, hz⟩ := h
  exact ⟨w', z', h1, rfl, by omega⟩
theorem zg_af.sz {P : zg_P} {F : zg_w → zg_w} {dz s t : Nat} (hP : ∀ w z, P w z → z = s) (ht : s + dz = t) (w : zg_w) (z : Nat) (h : zg_af P F dz w z) : z = t := by
  obtain ⟨w', z', h1, -, hz⟩ := h
  rw [hz, hP w' z' h1, ht]
theorem zg_af.at {P : zg_P} {F : zg_w → zg_w} {dz a : Nat} {e : va_E} (hF : ∀ q : zg_w, (∃ z, P q z) → F q a = some e) (w : zg_w) (z : Nat) (h : zg_af P F dz w z) : w a = some e := by
  obtain ⟨w', z', h1, rfl, -⟩ := h
  exact hF w' ⟨z', h1⟩
theorem zg_af.fin {P P' : zg_P} {F : zg_w → zg_w} {dz s : Nat} (hz : ∀ w z, P w z → z = s) (hP : ∀ w, P w s → P' (F w) (s + dz)) (w : zg_w) (z : Nat) (h : zg_af P F dz w z) : P' w z := by
  obtain ⟨w', z', h1, rfl, rfl⟩ := h
  have e := hz w' z' h1
  subst e
  exact hP w' h1
abbrev zx_z16 (A : Nat → ClassId) : va_E := .inl (A 0, 16, .inl (fun _ => 0))
abbrev zx_z8 (A : Nat → ClassId) : va_E := .inl (A 0, 8, .inl (fun _ => 0))
abbrev zx_zr (A : Nat → ClassId) : va_E := .inl (A 6, 6, .inr (.inr (.inr (.inr (fun _ => none)))))
/-- a new journey at j in v -/
def zx_nj (A : Nat → ClassId) (v : zg_w) (j : Nat) : zg_w := zg_u (zg_u v (j + 1) (zx_z16 A)) j (.inr (0, [.ref (j + 1), .int (nI 0)]))
abbrev zx_to (port j : Nat) (n : Int32) (c : Int64) : va_E := .inr (3, [.int (nI port), .int n, .ref j, .long c, .int (nI 0)])
def zx_sel (τ : zx_S) (port : Nat) (f : Nat → Int32) (n : Int32) (T sz : Nat) : zx_S :=
  zxI (zxG (zxT (zx_mov τ port f n 16) (10 + 3 * port) ((zx_mov τ port f n 16 (10 + 3 * port)).2.1 + zx_sum τ f 16 * n.toInt64)) 7 T sz) 0 7 (nI (T + 1))
theorem zx_mov_o {τ : zx_S} {port : Nat} {f : Nat → Int32} {n : Int32} {q : Nat} (h : q ≠ 10 + 3 * port + 1 ∧ q ≠ 3) : ∀ i, zx_mov τ port f n i q = τ q
  | 0 => rfl
  | i + 1 => by rw [zx_mov, zxI_o h.2, zxI_o h.1]; exact zx_mov_o h i
theorem zxT_o {τ : zx_S} {o q : Nat} {n : Int64} (h : q ≠ o) : zxT τ o n q = τ q := by simp [zxT, zx_up, h]
theorem zxG_o {τ : zx_S} {o i a q : Nat} (h : q ≠ o) : zxG τ o i a q = τ q := by simp [zxG, zx_up, h]
theorem zxD_o {τ : zx_S} {d q : Nat} (h : q ≠ 0) : zxD τ d q = τ q := by simp [zxD, zx_up, h]
theorem zx_sel_o {τ : zx_S} {port T sz q : Nat} {f : Nat → Int32} {n : Int32} (h : q ≠ 10 + 3 * port + 1 ∧ q ≠ 3 ∧ q ≠ 10 + 3 * port ∧ q ≠ 7 ∧ q ≠ 0) : zx_sel τ port f n T sz q = τ q := by
  rw [zx_sel, zxI_o h.2.2.2.2, zxG_o h.2.2.2.1, zxT_o h.2.2.1, zx_mov_o ⟨h.1, h.2.1⟩]
