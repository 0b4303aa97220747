theorem zg_ui {w : zg_w} {a : Nat} {e : va_E} (h : w a = some e) : zg_u w a e = w := by
  funext q
  by_cases hq : q = a
  · subst hq; rw [zg_us, h]
  · rw [zg_un hq]
def zx_adp (f : Nat → Int32) (s a : Nat) : Nat → Nat → Int32
  | 0 => f
  | i + 1 => upd (zx_adp f s a i) (s * 4 + (a + i)) (zx_adp f s a i (s * 4 + (a + i)) + nI 1)
/-- a wish at q: its journey j (times f, parts), its seats -/
def zx_W (A : Nat → ClassId) (x : Nat) (v : zg_w) (sz q j : Nat) (f : Nat → Int32) (pn n : Int32) : Prop := zx_out x q ∧ q < sz ∧ j + 1 < sz ∧ v q = some (.inr (4, [.ref j, .int n])) ∧ zx_J A x v j f pn
theorem zx_J.kept {A : Nat → ClassId} {x j : Nat} {v v' : zg_w} {f : Nat → Int32} {n : Int32} (h : zx_J A x v j f n) (h1 : v' j = v j) (h2 : v' (j + 1) = v (j + 1)) : zx_J A x v' j f n := ⟨h.1, h.2.1, by rw [h1]; exact h.2.2.1, by rw [h2]; exact h.2.2.2⟩
theorem zx_W1 {A : Nat → ClassId} {x sz s0 q j : Nat} {v w : zg_w} {τ : zx_S} {z : Nat} {f : Nat → Int32} {pn n : Int32} (hq : zx_W A x v s0 q j f pn n) (h : zx_P A x v sz τ w z) : w q = some (.inr (4, [.ref j, .int n])) := by rw [zx_gv h hq.1]; exact hq.2.2.2.1
/-- k turns of the loop of serve: the state, how many were kept, the world outside -/
noncomputable def zx_sv (A : Nat → ClassId) (τ : zx_S) (v : zg_w) (port T sz : Nat) (Q J : Nat → Nat) (Fm : Nat → Nat → Int32) (Nn : Nat → Int32) : Nat → zx_S × Nat × zg_w
  | 0 => (τ, 0, v)
  | k + 1 => if T + (k - (zx_sv A τ v port T sz Q J Fm Nn k).2.1) < 80 ∧ ¬ zx_fit (zx_sv A τ v port T sz Q J Fm Nn k).1 port (Fm k) (Nn k) = 0 then
      (zx_sel (zx_sv A τ v port T sz Q J Fm Nn k).1 port (Fm k) (Nn k) (T + (k - (zx_sv A τ v port T sz Q J Fm Nn k).2.1)) (sz + (k - (zx_sv A τ v port T sz Q J Fm Nn k).2.1)), (zx_sv A τ v port T sz Q J Fm Nn k).2.1,
        zg_u (zx_sv A τ v port T sz Q J Fm Nn k).2.2 (sz + (k - (zx_sv A τ v port T sz Q J Fm Nn k).2.1)) (zx_to port (J k) (Nn k) (zx_sum (zx_sv A τ v port T sz Q J Fm Nn k).1 (Fm k) 16 * (Nn k).toInt64)))
    else (zxG (zx_sv A τ v port T sz Q J Fm Nn k).1 (10 + 3 * port + 2) (zx_sv A τ v port T sz Q J Fm Nn k).2.1 (Q k), (zx_sv A τ v port T sz Q J Fm Nn k).2.1 + 1, (zx_sv A τ v port T sz Q J Fm Nn k).2.2)
theorem zxG_s {τ : zx_S} {o i a : Nat} : (zxG τ o i a o).2.2.1 i = some a := by simp [zxG, zx_up, va_up]
theorem zxG_n {τ : zx_S} {o i j a : Nat} (h : j ≠ i) : (zxG τ o i a o).2.2.1 j = (τ o).2.2.1 j := by simp [zxG, zx_up, va_up, h]
/-- what stays true in the loop of serve -/
theorem zx_sv_i {A : Nat → ClassId} {τ : zx_S} {v : zg_w} {port T sz : Nat} {Q J : Nat → Nat} {Fm : Nat → Nat → Int32} {Nn : Nat → Int32} (h0 : port < 4) (hT : (τ 0).1 7 = nI T) (hT8 : T ≤ 80) : ∀ k, (zx_sv A τ v port T sz Q J Fm Nn k).2.1 ≤ k ∧ ((zx_sv A τ v port T sz Q J Fm Nn k).1 0).1 7 = nI (T + (k - (zx_sv A τ v port T sz Q J Fm Nn k).2.1)) ∧ T + (k - (zx_sv A τ v port T sz Q J Fm Nn k).2.1) ≤ 80 ∧ (∀ i, k ≤ i → ((zx_sv A τ v port T sz Q J Fm Nn k).1 (10 + 3 * port + 2)).2.2.1 i = (τ (10 + 3 * port + 2)).2.2.1 i) ∧ (∀ q, q < sz → (zx_sv A τ v port T sz Q J Fm Nn k).2.2 q = v q)
  | 0 => ⟨Nat.le_refl _, hT, by show T + (0 - 0) ≤ 80; omega, fun _ _ => rfl, fun _ _ => rfl⟩
  | k + 1 => by
    obtain ⟨h1, h2, h3, h4, h5⟩ := zx_sv_i (A := A) (v := v) (sz := sz) (Q := Q) (J := J) (Fm := Fm) (Nn := Nn) h0 hT hT8 k
    rw [zx_sv]
    split
    · rename_i hc
      refine ⟨Nat.le_succ_of_le h1, ?_, ?_, fun i hi => ?_, fun q hq => ?_⟩
      · dsimp only
        rw [zx_sel, zxI_s]
        congr 1; omega
      · dsimp only; omega
      · dsimp only
        rw [zx_sel_o (by omega)]; exact h4 i (by omega)
      · dsimp only
        rw [zg_un (by omega)]; exact h5 q hq
    · refine ⟨Nat.succ_le_succ h1, ?_, ?_, fun i hi => ?_, fun q hq => ?_⟩
      · dsimp only
        rw [zxG_o (by omega), h2]
        congr 1; omega
      · dsimp only; omega
      · dsimp only
        rw [zxG_n (by omega)]; exact h4 i (by omega)
      · exact h5 q hq
