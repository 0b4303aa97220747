section ZXW
variable {A : Nat → ClassId} {x sz : Nat} {v : zg_w} {τ : zx_S}
theorem zx_wo {i : Nat} (hi : i < 4) (j : Nat) (n : Int32) (w : zg_w) (z : Nat) (h : zx_P A x v sz τ w z) : zx_P A x v sz (zxI τ (10 + 3 * i + 1) j n) (zg_u w (x + (10 + 3 * i + 1)) (.inl (A 0, 16, .inl (upd (τ (10 + 3 * i + 1)).1 j n)))) z := zx_P.up (by omega) (zx_co hi).symm w z h
theorem zx_wa {o : Nat} (ho : 1 < o ∧ o < 5) (j : Nat) (n : Int32) (w : zg_w) (z : Nat) (h : zx_P A x v sz τ w z) : zx_P A x v sz (zxI τ o j n) (zg_u w (x + o) (.inl (A 0, 16, .inl (upd (τ o).1 j n)))) z := zx_P.up (by omega) (by unfold zx_c; rw [if_neg (by omega), if_neg (by omega), if_pos (by omega)]) w z h
theorem zx_w1 (j : Nat) (n : Int32) (w : zg_w) (z : Nat) (h : zx_P A x v sz τ w z) : zx_P A x v sz (zxI τ 1 j n) (zg_u w (x + 1) (.inl (A 1, 4, .inl (upd (τ 1).1 j n)))) z := zx_P.up (by decide) rfl w z h
theorem zx_wk {p : Nat} (k : Nat) (hk : k = 1 ∨ k = 2) (hp : p < 16) (j : Nat) (n : Int32) (w : zg_w) (z : Nat) (h : zx_P A x v sz τ w z) : zx_P A x v sz (zxI τ (22 + 3 * p + k) j n) (zg_u w (x + (22 + 3 * p + k)) (.inl (A 0, 8, .inl (upd (τ (22 + 3 * p + k)).1 j n)))) z := zx_P.up (by omega) (zx_ca k hk hp).symm w z h
theorem zx_w7 (j q : Nat) (w : zg_w) (z : Nat) (h : zx_P A x v sz τ w z) : zx_P A x v sz (zxG τ 7 j q) (zg_u w (x + 7) (.inl (A 5, 80, .inr (.inr (.inr (.inr (va_up (τ 7).2.2.1 j (some q)))))))) z := zx_P.up (by decide) rfl w z h
theorem zx_wr {i : Nat} (hi : i < 4) (j q : Nat) (w : zg_w) (z : Nat) (h : zx_P A x v sz τ w z) : zx_P A x v sz (zxG τ (10 + 3 * i + 2) j q) (zg_u w (x + (10 + 3 * i + 2)) (.inl (A 6, 6, .inr (.inr (.inr (.inr (va_up (τ (10 + 3 * i + 2)).2.2.1 j (some q)))))))) z := zx_P.up (by omega) (zx_cr hi).symm w z h
theorem zx_pl {p : Nat} (hp : p < 16) (f : Nat) (hf : f = 2 ∨ f = 3 ∨ f = 4 ∨ f = 5 ∨ f = 6) (n : Int32) (w : zg_w) (z : Nat) (h : zx_P A x v sz τ w z) : zx_P A x v sz (zxI τ (22 + 3 * p) f n) (zg_u w (x + (22 + 3 * p)) (.inr (1, (zx_fl x (22 + 3 * p) (τ (22 + 3 * p))).set f (.int n)))) z :=
  zx_P.up (by omega) (by rw [zx_cl hp]; rcases hf with rfl | rfl | rfl | rfl | rfl <;> rfl) w z h
theorem zx_pp {i : Nat} (hi : i < 4) (n : Int32) (w : zg_w) (z : Nat) (h : zx_P A x v sz τ w z) : zx_P A x v sz (zxI τ (10 + 3 * i) 2 n) (zg_u w (x + (10 + 3 * i)) (.inr (2, (zx_fp x (10 + 3 * i) (τ (10 + 3 * i))).set 2 (.int n)))) z :=
  zx_P.up (by omega) (by rw [zx_cp hi]; rfl) w z h
theorem zx_pt {i : Nat} (hi : i < 4) (n : Int64) (w : zg_w) (z : Nat) (h : zx_P A x v sz τ w z) : zx_P A x v sz (zxT τ (10 + 3 * i) n) (zg_u w (x + (10 + 3 * i)) (.inr (2, (zx_fp x (10 + 3 * i) (τ (10 + 3 * i))).set 3 (.long n)))) z :=
  zx_P.up (by omega) (by rw [zx_cp hi]; rfl) w z h
theorem zx_p0 (n : Int32) (w : zg_w) (z : Nat) (h : zx_P A x v sz τ w z) : zx_P A x v sz (zxI τ 0 7 n) (zg_u w x (.inr (5, (zx_fo x (τ 0)).set 7 (.int n)))) z := zx_P.up (o := 0) (by decide) rfl w z h
theorem zx_pd (d : Nat) (w : zg_w) (z : Nat) (h : zx_P A x v sz τ w z) : zx_P A x v sz (zxD τ d) (zg_u w x (.inr (5, (zx_fo x (τ 0)).set 8 (.ref d)))) z := zx_P.up (o := 0) (by decide) rfl w z h
end ZXW
/-- a journey at j, outside the block: its times f, its number of parts -/
def zx_J (A : Nat → ClassId) (x : Nat) (v : zg_w) (j : Nat) (f : Nat → Int32) (n : Int32) : Prop := zx_out x j ∧ zx_out x (j + 1) ∧ v j = some (.inr (0, [.ref (j + 1), .int n])) ∧ v (j + 1) = some (.inl (A 0, 16, .inl f))
theorem zx_J1 {A : Nat → ClassId} {x sz j : Nat} {v w : zg_w} {τ : zx_S} {z : Nat} {f : Nat → Int32} {n : Int32} (hj : zx_J A x v j f n) (h : zx_P A x v sz τ w z) : w j = some (.inr (0, [.ref (j + 1), .int n])) := by rw [zx_gv h hj.1]; exact hj.2.2.1
theorem zx_J2 {A : Nat → ClassId} {x sz j : Nat} {v w : zg_w} {τ : zx_S} {z : Nat} {f : Nat → Int32} {n : Int32} (hj : zx_J A x v j f n) (h : zx_P A x v sz τ w z) : w (j + 1) = some (.inl (A 0, 16, .inl f)) := by rw [zx_gv h hj.2.1]; exact hj.2.2.2
def zx_sum (τ : zx_S) (f : Nat → Int32) : Nat → Int64
  | 0 => 0
  | i + 1 => zx_sum τ f i + (f i).toInt64 * ((τ 2).1 i).toInt64
def zx_mov (τ : zx_S) (port : Nat) (f : Nat → Int32) (n : Int32) : Nat → zx_S
  | 0 => τ
  | i + 1 => zxI (zxI (zx_mov τ port f n i) (10 + 3 * port + 1) i ((zx_mov τ port f n i (10 + 3 * port + 1)).1 i - n * f i)) 3 i ((zxI (zx_mov τ port f n i) (10 + 3 * port + 1) i ((zx_mov τ port f n i (10 + 3 * port + 1)).1 i - n * f i) 3).1 i + n * f i)
noncomputable def zx_fit (τ : zx_S) (i : Nat) (f : Nat → Int32) (n : Int32) : Int32 := @ite _ (∀ k, k < 16 → ¬ (τ (10 + 3 * i + 1)).1 k < n * f k) (Classical.propDecidable _) (nI 1) (nI 0)
def zx_lost (τ : zx_S) (p : Nat) : Int32 := (if (τ (22 + 3 * p)).1 5 = 0 then nI 0 else nI 1) + (if (τ (22 + 3 * p)).1 6 = 0 then nI 0 else nI 1)
def zx_los (τ : zx_S) (p : Nat) : zx_S := zxI (zxI τ (22 + 3 * p) 5 (nI 0)) (22 + 3 * p) 6 (nI 0)
def zx_add (τ : zx_S) (p g b place : Nat) (n : Int32) : zx_S := zxI (zxI (zxI τ (22 + 3 * p) 3 (nI (b + 1))) (22 + 3 * p + 1) ((g + (b + 1)) % 8) (nI place)) (22 + 3 * p + 2) ((g + (b + 1)) % 8) n
def zx_rem (τ : zx_S) (p : Nat) (u : Int32) : zx_S := zxI (zxI τ (22 + 3 * p) 3 ((τ (22 + 3 * p)).1 3 - (u - (τ (22 + 3 * p)).1 2))) (22 + 3 * p) 2 u
def zx_put (τ : zx_S) (a place : Nat) (n : Int32) : zx_S := zxI (zxI τ (10 + 3 * a + 1) place ((τ (10 + 3 * a + 1)).1 place - n)) 4 place ((zxI τ (10 + 3 * a + 1) place ((τ (10 + 3 * a + 1)).1 place - n) 4).1 place + n)
