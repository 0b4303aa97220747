/-! a ticket is sold -/
theorem zm_sum_x {σ : zm_S} {τ : zx_S} {a pn : Nat} {f : Nat → Int32} (hA : zl_A σ τ) (hf : zl_f σ a pn f) : ∀ k, k ≤ 16 → zx_sum τ f k = zm_sum σ a pn k
  | 0, _ => rfl
  | k + 1, hk => by rw [zx_sum, zm_sum, zm_sum_x hA hf k (by omega), hf k (by omega), hA.2.1 k (by omega)]
theorem zm_sell_at {σ : zm_S} {T port a pn k j : Nat} {n : Int32} (hs : 4 + 4 * T ≤ a ∨ a + pn ≤ 4 + 4 * T) : (zm_sell σ T port a pn n).1 k j =
    if k = 2 then (if 16 * port ≤ j ∧ j < 16 * port + 16 then σ.1 2 j + -n * zm_lies σ a (j - 16 * port) pn else σ.1 2 j)
    else if k = 3 ∨ k = 4 ∨ k = 5 then (if 4 + 4 * T ≤ j ∧ j < 4 + 4 * T + pn then σ.1 k (a + (j - (4 + 4 * T))) else σ.1 k j)
    else if k = 6 ∧ j = T then nI port else if k = 7 ∧ j = T then n else if k = 8 ∧ j = T then nI pn else if k = 10 ∧ j = T then nI 1 else if k = 25 ∧ j = 2 then nI (T + 1) else σ.1 k j := by
  unfold zm_sell
  simp only [zm_at, zm_atL1]
  by_cases h2 : k = 2
  · subst h2
    simp only [if_true]
    rw [if_neg (by omega), if_neg (by omega), if_neg (by omega), if_neg (by omega), if_neg (by omega), zm_copy_o (by decide), zm_give_at]
  · rw [if_neg h2]
    by_cases h3 : k = 3 ∨ k = 4 ∨ k = 5
    · rw [if_pos h3, if_neg (by omega), if_neg (by omega), if_neg (by omega), if_neg (by omega), if_neg (by omega), zm_copy_at h3 pn hs, zm_give_o h2]
    · rw [if_neg h3, zm_copy_o (by omega), zm_give_o h2]
      by_cases e6 : k = 6 ∧ j = T
      · rw [if_pos e6, if_neg (by omega), if_neg (by omega), if_neg (by omega), if_neg (by omega), if_pos e6]
      · rw [if_neg e6, if_neg e6]
        by_cases e7 : k = 7 ∧ j = T
        · rw [if_pos e7, if_neg (by omega), if_neg (by omega), if_neg (by omega), if_pos e7]
        · rw [if_neg e7, if_neg e7]
          by_cases e8 : k = 8 ∧ j = T
          · rw [if_pos e8, if_neg (by omega), if_neg (by omega), if_pos e8]
          · rw [if_neg e8, if_neg e8]
            by_cases e10 : k = 10 ∧ j = T
            · rw [if_pos e10, if_neg (by omega), if_pos e10]
            · rw [if_neg e10, if_neg e10]
theorem zm_sell_2 {σ : zm_S} {T port a pn k j : Nat} {n : Int32} : (zm_sell σ T port a pn n).2 k j = if k = 11 ∧ j = port then σ.2 11 port + n.toInt64 * zm_sum σ a pn 16 else if k = 9 ∧ j = T then n.toInt64 * zm_sum σ a pn 16 else σ.2 k j := by
  unfold zm_sell
  simp only [zm_at2, zm_atL, zm_copy_L, zm_give_L]
  simp
theorem zx_sel_at {τ : zx_S} {port T z o j : Nat} {f : Nat → Int32} {n : Int32} (hp : port < 4) : (zx_sel τ port f n T z o).1 j = if o = 0 ∧ j = 7 then nI (T + 1) else if o = 10 + 3 * port + 1 ∧ j < 16 then (τ o).1 j - n * f j else if o = 3 ∧ j < 16 then (τ o).1 j + n * f j else (τ o).1 j := by
  unfold zx_sel
  rw [zx_at, zxG_1, zxT_1]
  by_cases e0 : o = 0 ∧ j = 7
  · rw [if_pos e0, if_pos e0]
  · rw [if_neg e0, if_neg e0]
    by_cases e1 : o = 10 + 3 * port + 1
    · subst e1
      rw [zx_mov_own hp]
      by_cases hj : j < 16
      · rw [if_pos hj, if_pos ⟨rfl, hj⟩]
      · rw [if_neg hj, if_neg (by omega), if_neg (by omega)]
    · rw [if_neg (by omega)]
      by_cases e3 : o = 3
      · subst e3
        rw [zx_mov_sold hp]
        by_cases hj : j < 16
        · rw [if_pos hj, if_pos ⟨rfl, hj⟩]
        · rw [if_neg hj, if_neg (by omega)]
      · rw [if_neg (by omega), zx_mov_o ⟨e1, e3⟩]
theorem zx_sel_21 {τ : zx_S} {port T z o : Nat} {f : Nat → Int32} {n : Int32} : (zx_sel τ port f n T z o).2.1 = if o = 10 + 3 * port then (τ (10 + 3 * port)).2.1 + zx_sum τ f 16 * n.toInt64 else (τ o).2.1 := by
  unfold zx_sel
  rw [zx_at2, zxG_21, zxT_21, zx_mov_2, zx_mov_2]
theorem zx_sel_3 {τ : zx_S} {port T z o j : Nat} {f : Nat → Int32} {n : Int32} : (zx_sel τ port f n T z o).2.2.1 j = if o = 7 ∧ j = T then some z else (τ o).2.2.1 j := by
  unfold zx_sel
  rw [zx_at2, zxG_3, zxT_22, zx_mov_2]
theorem zx_sel_4 {τ : zx_S} {port T z o : Nat} {f : Nat → Int32} {n : Int32} : (zx_sel τ port f n T z o).2.2.2 = (τ o).2.2.2 := by
  unfold zx_sel
  rw [zx_at2, zxG_4, zxT_22, zx_mov_2]
theorem zl_ok_ge {x q : Nat} (h : x + 97 ≤ q) : zl_ok x q := ⟨zx_out_ge (by omega), Or.inr h⟩
theorem zl_sell {m : Nat} {A : Nat → ClassId} {x z : Nat} {σ : zm_S} {τ : zx_S} {w : zg_w} {T port a pn j : Nat} {f : Nat → Int32} {n : Int32} {V : Nat → Nat → Prop} (h : zl_C m A x σ τ w z T V) (hT8 : T < 80) (hp : port < 4) (hs : 4 + 4 * T ≤ a ∨ a + pn ≤ 4 + 4 * T) (hJ : zl_J A x w z j f pn) (hf : zl_f σ a pn f) (hj : j ≠ (τ 0).2.2.2) : zl_C m A x (zm_sell σ T port a pn n) (zx_sel τ port f n T z) (zg_u w z (zx_to port j n (zx_sum τ f 16 * n.toInt64))) (z + 1) (T + 1) V := by
  obtain ⟨hA, hT, hB, ⟨d, fd, hD⟩, hW, hK, hI, hx⟩ := h
  have hpn := hJ.2.2.2.2
  have eo : ∀ k, ¬ (2 ≤ k ∧ k ≤ 8) → k ≠ 10 → k ≠ 25 → (zm_sell σ T port a pn n).1 k = σ.1 k := fun k a1 a2 a3 => by
    funext i
    rw [zm_sell_at hs, if_neg (by omega), if_neg (by omega), if_neg (by omega), if_neg (by omega), if_neg (by omega), if_neg (by omega), if_neg (by omega)]
  have e3 : ∀ k, k = 3 ∨ k = 4 ∨ k = 5 → ∀ i, i < 4 + 4 * T ∨ 4 + 4 * T + 4 ≤ i → (zm_sell σ T port a pn n).1 k i = σ.1 k i := fun k hk i hi => by
    rw [zm_sell_at hs, if_neg (by omega), if_pos hk, if_neg (by omega)]
  have e6 : ∀ k, k = 6 ∨ k = 7 ∨ k = 8 ∨ k = 10 → ∀ i, i ≠ T → (zm_sell σ T port a pn n).1 k i = σ.1 k i := fun k hk i hi => by
    rw [zm_sell_at hs, if_neg (by omega), if_neg (by omega), if_neg (by omega), if_neg (by omega), if_neg (by omega), if_neg (by omega), if_neg (by omega)]
  have s6 : (zm_sell σ T port a pn n).1 6 T = nI port := by rw [zm_sell_at hs, if_neg (by omega), if_neg (by omega), if_pos ⟨rfl, rfl⟩]
  have s7 : (zm_sell σ T port a pn n).1 7 T = n := by rw [zm_sell_at hs, if_neg (by omega), if_neg (by omega), if_neg (by omega), if_pos ⟨rfl, rfl⟩]
  have s8 : (zm_sell σ T port a pn n).1 8 T = nI pn := by rw [zm_sell_at hs, if_neg (by omega), if_neg (by omega), if_neg (by omega), if_neg (by omega), if_pos ⟨rfl, rfl⟩]
  have s10 : (zm_sell σ T port a pn n).1 10 T = nI 1 := by rw [zm_sell_at hs, if_neg (by omega), if_neg (by omega), if_neg (by omega), if_neg (by omega), if_neg (by omega), if_pos ⟨rfl, rfl⟩]
  have s9 : (zm_sell σ T port a pn n).2 9 T = n.toInt64 * zm_sum σ a pn 16 := by rw [zm_sell_2, if_neg (by omega), if_pos ⟨rfl, rfl⟩]
  have sc : ∀ g, zm_lies (zm_sell σ T port a pn n) (4 + 4 * T) g pn = zm_lies σ a g pn := fun g => zm_lies_c pn (fun i hi k hk => by
    rw [zm_sell_at hs, if_neg (by omega), if_pos hk, if_pos (by omega), show 4 + 4 * T + i - (4 + 4 * T) = i by omega])
  have eT : ∀ o, o ≠ 0 → o ≠ 10 + 3 * port + 1 → o ≠ 3 → (zx_sel τ port f n T z o).1 = (τ o).1 := fun o a1 a2 a3 => by
    funext i
    rw [zx_sel_at hp, if_neg (by omega), if_neg (by omega), if_neg (by omega)]
  have ew : ∀ q, q < z → zg_u w z (zx_to port j n (zx_sum τ f 16 * n.toInt64)) q = w q := fun q hq => zg_un (by omega)
  have hq : zx_sum τ f 16 * n.toInt64 = n.toInt64 * zm_sum σ a pn 16 := by rw [zm_sum_x hA hf 16 (Nat.le_refl _), Int64.mul_comm]
  refine ⟨⟨fun i hi => ?_, fun i hi => ?_, fun p hp' i hi => ?_, fun p hp' => ?_⟩, ⟨by omega, ?_, ?_, fun g hg => ?_⟩, hB.c (Nat.le_refl _) (fun k a1 a2 => eo k (by omega) (by omega) (by omega)) (eT 4 (by omega) (by omega) (by omega)) (fun o ho => eT o (by omega) (by omega) (by omega)), ⟨d, fd, ?_⟩, fun p hp' i hv => ?_, fun t ht => ?_, ?_, by omega⟩
  · rw [eT 1 (by omega) (by omega) (by omega), eo 0 (by omega) (by omega) (by omega)]; exact hA.1 i hi
  · rw [eT 2 (by omega) (by omega) (by omega), eo 1 (by omega) (by omega) (by omega)]; exact hA.2.1 i hi
  · rw [zm_sell_at hs, if_pos rfl, zx_sel_at hp, if_neg (by omega)]
    by_cases e : p = port
    · subst e
      rw [if_pos ⟨rfl, hi⟩, if_pos (by omega), hA.2.2.1 p hp' i hi, hf i hi, show 16 * p + i - 16 * p = i by omega, Int32.sub_eq_add_neg, Int32.neg_mul]
    · rw [if_neg (by omega), if_neg (by omega), if_neg (by omega)]; exact hA.2.2.1 p hp' i hi
  · rw [zx_sel_21, zm_sell_2]
    by_cases e : p = port
    · subst e
      rw [if_pos rfl, if_pos ⟨rfl, rfl⟩, hA.2.2.2 p hp', hq]
    · rw [if_neg (by omega), if_neg (by omega), if_neg (by omega)]; exact hA.2.2.2 p hp'
  · rw [zx_sel_at hp, if_pos ⟨rfl, rfl⟩]
  · rw [zm_sell_at hs, if_neg (by omega), if_neg (by omega), if_neg (by omega), if_neg (by omega), if_neg (by omega), if_neg (by omega), if_pos ⟨rfl, rfl⟩]
  · rw [zx_sel_at hp, if_neg (by omega), if_neg (by omega), if_pos ⟨rfl, hg⟩, zl_sum, hT.2.2.2 g hg]
    congr 1
    · refine zl_sum_c T fun t ht => ?_
      obtain ⟨q, j', f', pn', port', hr, hh⟩ := hK t ht
      have h8 := hh.2.2.2.2.2.2.1
      have h4 := hh.2.2.2.1.2.2.2.2
      unfold zl_tm
      rw [e6 10 (by omega) t (by omega), e6 7 (by omega) t (by omega), e6 8 (by omega) t (by omega), h8, zn_nI (by omega), zm_lies_c (σ := σ) (σ' := zm_sell σ T port a pn n) (a := 4 + 4 * t) (a' := 4 + 4 * t) pn' (fun i hi k hk => e3 k hk _ (by omega))]
    · unfold zl_tm
      rw [s10, s7, s8, if_neg (by decide), zn_nI (by omega), hf g hg, sc]
  · rw [zx_sel_4]
    have hd4 := hD.1.2.2.2.2
    have hz1 := hD.1.2.2.2.1
    exact hD.c (by omega) (ew _ (by omega)) (ew _ hz1) (by rw [zm_sell_at hs, if_neg (by omega), if_neg (by omega), if_neg (by omega), if_neg (by omega), if_neg (by omega), if_neg (by omega), if_neg (by omega)]) (fun i hi k hk => e3 k hk _ (by omega))
  · obtain ⟨hi, q, j', f', pn', hr, hh⟩ := hW p hp' i hv
    have hz1 := hh.2.2.2.1.2.2.2.1
    refine ⟨hi, q, j', f', pn', by rw [zx_sel_3, if_neg (by omega)]; exact hr, ?_⟩
    rw [zx_sel_4]
    exact hh.c (by omega) hh.2.2.2.2.2.2 (ew _ hh.2.1) (ew _ (by omega)) (ew _ hz1) (by rw [eo 13 (by omega) (by omega) (by omega)]) (by rw [eo 14 (by omega) (by omega) (by omega)]) (fun o ho k hk => e3 k hk _ (by omega))
  · by_cases e : t = T
    · subst e
      refine ⟨z, j, f, pn, port, by rw [zx_sel_3, if_pos ⟨rfl, rfl⟩], zl_ok_ge hx, by omega, ?_, hJ.c (by omega) (ew _ (by have := hJ.2.2.2.1; omega)) (ew _ hJ.2.2.2.1), hp, ?_, ?_, fun g hg => ?_, by rw [zx_sel_4]; exact hj⟩
      · rw [zg_us, s7, s9, s10, if_neg (by decide), hq]
      · exact s6
      · exact s8
      · rw [hf g hg, sc]
    · obtain ⟨q, j', f', pn', port', hr, hh⟩ := hK t (by omega)
      have hz1 := hh.2.2.2.1.2.2.2.1
      refine ⟨q, j', f', pn', port', by rw [zx_sel_3, if_neg (by omega)]; exact hr, ?_⟩
      rw [zx_sel_4]
      exact hh.c (by omega) hh.2.2.2.2.2.2.2.2 (ew _ hh.2.1) (ew _ (by omega)) (ew _ hz1) (fun k hk => e6 k hk t e) (by rw [zm_sell_2, if_neg (by omega), if_neg (by omega)]) (fun o ho k hk => e3 k hk _ (by omega))
  · intro t u q ht hu h1 h2
    rw [zx_sel_3] at h1 h2
    have no : ∀ t, t < T → ¬ (τ 7).2.2.1 t = some z := fun t ht e => by
      obtain ⟨q, j', f', pn', port', hr, hh⟩ := hK t ht
      rw [hr] at e
      have := hh.2.1
      cases e
      omega
    by_cases e : t = T
    · by_cases e' : u = T
      · omega
      · rw [if_pos ⟨rfl, e⟩] at h1
        rw [if_neg (by omega)] at h2
        cases h1
        exact absurd h2 (no u (by omega))
    · by_cases e' : u = T
      · rw [if_pos ⟨rfl, e'⟩] at h2
        rw [if_neg (by omega)] at h1
        cases h2
        exact absurd h1 (no t (by omega))
      · rw [if_neg (by omega)] at h1
        rw [if_neg (by omega)] at h2
        exact hI t u q (by omega) (by omega) h1 h2
