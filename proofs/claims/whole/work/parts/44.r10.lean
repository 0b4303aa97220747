/-! wish, cancel: what comes before serve -/
theorem zl_wit {n : Nat} {P : Nat → Nat → Nat → (Nat → Int32) → Nat → Prop} (h : ∀ i, i < n → ∃ q j f pn, P i q j f pn) : ∃ (Q J : Nat → Nat) (F : Nat → Nat → Int32) (Pn : Nat → Nat), ∀ i, i < n → P i (Q i) (J i) (F i) (Pn i) := by
  have h' : ∀ i, ∃ t : Nat × Nat × (Nat → Int32) × Nat, i < n → P i t.1 t.2.1 t.2.2.1 t.2.2.2 := fun i => by
    by_cases hi : i < n
    · obtain ⟨q, j, f, pn, hp⟩ := h i hi
      exact ⟨(q, j, f, pn), fun _ => hp⟩
    · exact ⟨(0, 0, fun _ => 0, 0), fun q => absurd q hi⟩
  obtain ⟨t, ht⟩ := Classical.axiomOfChoice h'
  exact ⟨fun i => (t i).1, fun i => (t i).2.1, fun i => (t i).2.2.1, fun i => (t i).2.2.2, fun i hi => ht i hi⟩
theorem zl_W.x {A : Nat → ClassId} {x z dr p i q j pn : Nat} {σ : zm_S} {w : zg_w} {f : Nat → Int32} (h : zl_W A x σ w z dr p i q j f pn) : zx_W A x w z q j f (nI pn) (σ.1 13 (6 * p + i)) := ⟨h.1.1, h.2.1, h.2.2.2.1.2.2.2.1, h.2.2.1, h.2.2.2.1.1⟩
theorem zl_wsh {m : Nat} {A : Nat → ClassId} {x z : Nat} {σ : zm_S} {τ : zx_S} {w : zg_w} {T port k d : Nat} {hd : Nat → Nat} {f : Nat → Int32} {n : Int32} (h : zl_C m A x σ τ w z T (fun p i => i < hd p)) (hc : ∀ p, p < 4 → hd p ≤ 6 ∧ (τ (10 + 3 * p)).1 2 = nI (hd p) ∧ σ.1 12 p = nI (hd p)) (hp : port < 4) (hk : hd port = k) (hk6 : k < 6) (hD : zl_D A x σ w z (τ 0).2.2.2 d f) : zl_C m A x (zm_set (zm_set (zm_set (zm_set (zm_copy σ (324 + 4 * (6 * port + k)) 0 d) 13 (6 * port + k) n) 14 (6 * port + k) (nI d)) 12 port (nI (k + 1))) 25 1 (nI 0)) (zx_wsh τ port k z) (zx_wv A τ w z n) (z + 3) T (fun p i => i < if p = port then k + 1 else hd p) ∧ ∀ p, p < 4 → (if p = port then k + 1 else hd p) ≤ 6 ∧ (zx_wsh τ port k z (10 + 3 * p)).1 2 = nI (if p = port then k + 1 else hd p) ∧ (zm_set (zm_set (zm_set (zm_set (zm_copy σ (324 + 4 * (6 * port + k)) 0 d) 13 (6 * port + k) n) 14 (6 * port + k) (nI d)) 12 port (nI (k + 1))) 25 1 (nI 0)).1 12 p = nI (if p = port then k + 1 else hd p) := by
  obtain ⟨hA, hT, hB, -, hW, hK, hI, hx⟩ := h
  obtain ⟨hJ, h25, hf⟩ := hD
  have hd4 := hJ.2.2.2.2
  have hz1 := hJ.2.2.2.1
  have hT8 := hT.1
  generalize hS : zm_set (zm_set (zm_set (zm_set (zm_copy σ (324 + 4 * (6 * port + k)) 0 d) 13 (6 * port + k) n) 14 (6 * port + k) (nI d)) 12 port (nI (k + 1))) 25 1 (nI 0) = S
  have ea : ∀ i j, S.1 i j = if i = 25 ∧ j = 1 then nI 0 else if i = 12 ∧ j = port then nI (k + 1) else if i = 14 ∧ j = 6 * port + k then nI d else if i = 13 ∧ j = 6 * port + k then n else (zm_copy σ (324 + 4 * (6 * port + k)) 0 d).1 i j := fun i j => by
    rw [← hS]
    simp only [zm_at]
  have e2 : S.2 = σ.2 := by rw [← hS]; exact zm_copy_L d
  have eo : ∀ i, ¬ (3 ≤ i ∧ i ≤ 5) → ¬ (12 ≤ i ∧ i ≤ 14) → i ≠ 25 → S.1 i = σ.1 i := fun i a1 a2 a3 => by
    funext j
    rw [ea, if_neg (by omega), if_neg (by omega), if_neg (by omega), if_neg (by omega), zm_copy_o (by omega)]
  have e3 : ∀ i, i = 3 ∨ i = 4 ∨ i = 5 → ∀ j, S.1 i j = if 324 + 4 * (6 * port + k) ≤ j ∧ j < 324 + 4 * (6 * port + k) + d then σ.1 i (0 + (j - (324 + 4 * (6 * port + k)))) else σ.1 i j := fun i hi j => by
    rw [ea, if_neg (by omega), if_neg (by omega), if_neg (by omega), if_neg (by omega), zm_copy_at hi d (by omega)]
  have t1 : ∀ o, o ≠ 10 + 3 * port → (zx_wsh τ port k z o).1 = (τ o).1 := fun o ho => by
    unfold zx_wsh
    rw [zxI_o ho, zxG_1, zxD_1]
  have t0 : ∀ o j, (zx_wsh τ port k z o).1 j = if o = 10 + 3 * port ∧ j = 2 then nI (k + 1) else (τ o).1 j := fun o j => by
    unfold zx_wsh
    rw [zx_at, zxG_1, zxD_1]
  have t2 : ∀ o, (zx_wsh τ port k z o).2.1 = (τ o).2.1 := fun o => by
    unfold zx_wsh
    rw [zx_at2, zxG_21, zxD_21]
  have t3 : ∀ o j, (zx_wsh τ port k z o).2.2.1 j = if o = 10 + 3 * port + 2 ∧ j = k then some (z + 2) else (τ o).2.2.1 j := fun o j => by
    unfold zx_wsh
    rw [zx_at2, zxG_3, zxD_3]
  have t4 : (zx_wsh τ port k z 0).2.2.2 = z := by
    unfold zx_wsh
    rw [zx_at2, zxG_4, zxD_4, if_pos rfl]
  have ew : ∀ q, q < z → zx_wv A τ w z n q = w q := fun q hq => by
    unfold zx_wv
    rw [zg_un (by omega), zx_nj_n hq]
  refine ⟨⟨hA.c (eo 0 (by omega) (by omega) (by omega)) (eo 1 (by omega) (by omega) (by omega)) (eo 2 (by omega) (by omega) (by omega)) (by rw [e2]) (t1 1 (by omega)) (t1 2 (by omega)) (fun p _ => t1 _ (by omega)) (fun p _ => t2 _), ⟨hT.1, by rw [t1 0 (by omega)]; exact hT.2.1, by rw [ea, if_neg (by omega), if_neg (by omega), if_neg (by omega), if_neg (by omega), zm_copy_o (by decide)]; exact hT.2.2.1, fun g hg => ?_⟩, hB.c (Nat.le_refl _) (fun i a1 a2 => eo i (by omega) (by omega) (by omega)) (t1 4 (by omega)) (fun o ho => t1 o (by omega)), ⟨0, fun _ => 0, ?_⟩, fun p hp' i hv => ?_, fun t ht => ?_, ?_, by omega⟩, fun p hp' => ?_⟩
  · rw [t1 3 (by omega), hT.2.2.2 g hg]
    refine (zl_sum_c T fun t ht => ?_).symm
    obtain ⟨q', j', f', pn', port', hr, hk'⟩ := hK t ht
    have h8 := hk'.2.2.2.2.2.2.1
    have h4 := hk'.2.2.2.1.2.2.2.2
    unfold zl_tm
    rw [eo 10 (by omega) (by omega) (by omega), eo 7 (by omega) (by omega) (by omega), eo 8 (by omega) (by omega) (by omega), h8, zn_nI (by omega), zm_lies_c (σ := σ) (a := 4 + 4 * t) pn' (fun i hi b hb => by rw [e3 b hb, if_neg (by omega)])]
  · rw [t4]
    refine ⟨?_, by rw [ea, if_pos ⟨rfl, rfl⟩], fun g hg => rfl⟩
    have := zl_newJ (A := A) (x := x) (z := z) (z' := z + 3) (w := w) hx (by omega)
    unfold zx_wv
    exact this.c (Nat.le_refl _) (zg_un (by omega)) (zg_un (by omega))
  · rw [t4]
    by_cases e : p = port ∧ i = k
    · obtain ⟨rfl, rfl⟩ := e
      refine ⟨by omega, z + 2, (τ 0).2.2.2, f, d, by rw [t3, if_pos ⟨rfl, rfl⟩], zl_ok_ge (by omega), by omega, ?_, hJ.c (by omega) (ew _ (by omega)) (ew _ hz1), ?_, fun g hg => ?_, by omega⟩
      · rw [ea, if_neg (by omega), if_neg (by omega), if_neg (by omega), if_pos ⟨rfl, rfl⟩]
        unfold zx_wv
        rw [zg_us]
      · rw [ea, if_neg (by omega), if_neg (by omega), if_pos ⟨rfl, rfl⟩]
      · rw [hf g hg]
        refine (zm_lies_c d (fun o ho b hb => ?_)).symm
        rw [e3 b hb, if_pos (by omega), show 324 + 4 * (6 * p + i) + o - (324 + 4 * (6 * p + i)) = o by omega]
    · have hv2 : i < hd p := by
        dsimp only at hv
        by_cases e' : p = port
        · rw [if_pos e'] at hv; subst e'; omega
        · rw [if_neg e'] at hv; exact hv
      obtain ⟨hi, q', j', f', pn', hr, hk'⟩ := hW p hp' i hv2
      have h1 := hk'.2.1
      have h2 := hk'.2.2.2.1.2.2.2.1
      refine ⟨hi, q', j', f', pn', by rw [t3, if_neg (by omega)]; exact hr, hk'.c (by omega) (by omega) (ew _ h1) (ew _ (by omega)) (ew _ h2) ?_ ?_ (fun o ho b hb => by rw [e3 b hb, if_neg (by omega)])⟩
      · rw [ea, if_neg (by omega), if_neg (by omega), if_neg (by omega), if_neg (by omega), zm_copy_o (by decide)]
      · rw [ea, if_neg (by omega), if_neg (by omega), if_neg (by omega), if_neg (by omega), zm_copy_o (by decide)]
  · rw [t4]
    obtain ⟨q', j', f', pn', port', hr, hk'⟩ := hK t ht
    have h1 := hk'.2.1
    have h2 := hk'.2.2.2.1.2.2.2.1
    refine ⟨q', j', f', pn', port', by rw [t3, if_neg (by omega)]; exact hr, hk'.c (by omega) (by omega) (ew _ h1) (ew _ (by omega)) (ew _ h2) (fun i hi => by rw [eo i (by omega) (by omega) (by omega)]) (by rw [e2]) (fun o ho b hb => by rw [e3 b hb, if_neg (by omega)])⟩
  · intro t u q ht hu h1 h2
    rw [t3, if_neg (by omega)] at h1 h2
    exact hI t u q ht hu h1 h2
  · by_cases e : p = port
    · subst e
      rw [if_pos rfl, t0, if_pos ⟨rfl, rfl⟩, ea, if_neg (by omega), if_pos ⟨rfl, rfl⟩]
      exact ⟨by omega, rfl, rfl⟩
    · rw [if_neg e, t0, if_neg (by omega), ea, if_neg (by omega), if_neg (by omega), if_neg (by omega), if_neg (by omega), zm_copy_o (by decide)]
      exact hc p hp'
theorem zl_cnc {m : Nat} {A : Nat → ClassId} {x z : Nat} {σ : zm_S} {τ : zx_S} {w : zg_w} {T t q j pn port : Nat} {V : Nat → Nat → Prop} {f : Nat → Int32} (h : zl_C m A x σ τ w z T V) (ht : t < T) (hq : (τ 7).2.2.1 t = some q) (hk : zl_K A x σ w z (τ 0).2.2.2 t q j f pn port) (h10 : ¬ σ.1 10 t = 0) : zl_C m A x (zm_setL (zm_give (zm_set σ 10 t (nI 0)) port (4 + 4 * t) pn (σ.1 7 t) 16) 11 port ((zm_give (zm_set σ 10 t (nI 0)) port (4 + 4 * t) pn (σ.1 7 t) 16).2 11 port - (zm_give (zm_set σ 10 t (nI 0)) port (4 + 4 * t) pn (σ.1 7 t) 16).2 9 t)) (zx_cnc τ port f (σ.1 7 t) (σ.2 9 t)) (zx_cv w q port j (σ.1 7 t) (σ.2 9 t)) z T V := by
  obtain ⟨hA, hT, hB, ⟨d, fd, hD⟩, hW, hK, hI, hx⟩ := h
  obtain ⟨k1, k2, k3, k4, k5, k6, k7, k8, k9⟩ := id hk
  have hpn := k4.2.2.2.2
  rw [zm_give_L]
  generalize hS : zm_setL (zm_give (zm_set σ 10 t (nI 0)) port (4 + 4 * t) pn (σ.1 7 t) 16) 11 port ((zm_set σ 10 t (nI 0)).2 11 port - (zm_set σ 10 t (nI 0)).2 9 t) = S
  have eo : ∀ k, k ≠ 2 → k ≠ 10 → S.1 k = σ.1 k := fun k a1 a2 => by
    rw [← hS, zm_atL1, zm_give_o a1, zm_set_o a2]
  have e10 : ∀ j, S.1 10 j = if j = t then nI 0 else σ.1 10 j := fun j => by
    rw [← hS, zm_atL1, zm_give_o (by decide), zm_at]
    by_cases e : j = t
    · rw [if_pos ⟨rfl, e⟩, if_pos e]
    · rw [if_neg (by omega), if_neg e]
  have e2 : ∀ j, S.1 2 j = if 16 * port ≤ j ∧ j < 16 * port + 16 then σ.1 2 j + σ.1 7 t * zm_lies σ (4 + 4 * t) (j - 16 * port) pn else σ.1 2 j := fun j => by
    rw [← hS, zm_atL1, zm_give_at, zm_set_o (by decide), zm_lies_c (σ := σ) (a := 4 + 4 * t) pn (fun i _ k hk => by rw [zm_set_o (by omega)])]
  have eL : ∀ k j, S.2 k j = if k = 11 ∧ j = port then σ.2 11 port - σ.2 9 t else σ.2 k j := fun k j => by
    rw [← hS, zm_atL, zm_give_L]
    rfl
  have t1 : ∀ o, o ≠ 10 + 3 * port + 1 → o ≠ 3 → (zx_cnc τ port f (σ.1 7 t) (σ.2 9 t) o).1 = (τ o).1 := fun o a1 a2 => by
    unfold zx_cnc
    rw [zxT_1, zx_mov_o ⟨a1, a2⟩]
  have t2 : ∀ o, (zx_cnc τ port f (σ.1 7 t) (σ.2 9 t) o).2.1 = if o = 10 + 3 * port then (τ (10 + 3 * port)).2.1 - σ.2 9 t else (τ o).2.1 := fun o => by
    unfold zx_cnc
    rw [zxT_21, zx_mov_2, zx_mov_2]
  have t3 : ∀ o, (zx_cnc τ port f (σ.1 7 t) (σ.2 9 t) o).2.2 = (τ o).2.2 := fun o => by
    unfold zx_cnc
    rw [zxT_22, zx_mov_2]
  have ew : ∀ a, a ≠ q → zx_cv w q port j (σ.1 7 t) (σ.2 9 t) a = w a := fun a ha => by
    unfold zx_cv
    exact zg_un ha
  have ej : ∀ {j' : Nat} {f' : Nat → Int32} {n' : Int32}, zx_J A x w j' f' n' → zx_cv w q port j (σ.1 7 t) (σ.2 9 t) j' = w j' ∧ zx_cv w q port j (σ.1 7 t) (σ.2 9 t) (j' + 1) = w (j' + 1) := fun hj => ⟨ew _ (zl_ne hj.2.2.1 k3 (by simp)), ew _ (zl_ne hj.2.2.2 k3 (by simp))⟩
  refine ⟨⟨fun i hi => ?_, fun i hi => ?_, fun p hp' i hi => ?_, fun p hp' => ?_⟩, ⟨hT.1, by rw [t1 0 (by omega) (by omega)]; exact hT.2.1, by rw [eo 25 (by omega) (by omega)]; exact hT.2.2.1, fun g hg => ?_⟩, hB.c (Nat.le_refl _) (fun i a1 a2 => eo i (by omega) (by omega)) (t1 4 (by omega) (by omega)) (fun o ho => t1 o (by omega) (by omega)), ⟨d, fd, ?_⟩, fun p hp' i hv => ?_, fun u hu => ?_, ?_, hx⟩
  · rw [t1 1 (by omega) (by omega), eo 0 (by omega) (by omega)]; exact hA.1 i hi
  · rw [t1 2 (by omega) (by omega), eo 1 (by omega) (by omega)]; exact hA.2.1 i hi
  · rw [e2]
    by_cases e : p = port
    · subst e
      unfold zx_cnc
      rw [zxT_1, zx_mov_own hp', if_pos hi, if_pos (by omega), hA.2.2.1 p hp' i hi, k8 i hi, show 16 * p + i - 16 * p = i by omega, Int32.neg_mul, Int32.sub_eq_add_neg, Int32.neg_neg]
    · rw [t1 _ (by omega) (by omega), if_neg (by omega)]; exact hA.2.2.1 p hp' i hi
  · rw [t2, eL]
    by_cases e : p = port
    · subst e
      rw [if_pos rfl, if_pos ⟨rfl, rfl⟩, hA.2.2.2 p hp']
    · rw [if_neg (by omega), if_neg (by omega)]; exact hA.2.2.2 p hp'
  · have ec : zl_sum (zl_tm S g) T = zl_sum (zl_tm σ g) T - zl_tm σ g t + zl_tm S g t := zl_sum_1 T ht fun u hu hne => by
      unfold zl_tm
      rw [e10, if_neg hne, eo 7 (by omega) (by omega), eo 8 (by omega) (by omega), zm_lies_c (σ := σ) (σ' := S) (a := 4 + 4 * u) (a' := 4 + 4 * u) _ (fun i _ k hk => by rw [eo k (by omega) (by omega)])]
    have e0 : zl_tm S g t = 0 := by
      unfold zl_tm
      rw [e10, if_pos rfl, if_pos nI_0]
    have e1 : zl_tm σ g t = σ.1 7 t * f g := by
      unfold zl_tm
      rw [if_neg h10, k7, zn_nI (by omega), k8 g hg]
    unfold zx_cnc
    rw [zxT_1, zx_mov_sold k5, if_pos hg, hT.2.2.2 g hg, ec, e0, e1, Int32.add_zero, Int32.neg_mul, Int32.sub_eq_add_neg]
  · rw [t3]
    obtain ⟨w1, w2⟩ := ej hD.1.1
    exact hD.c (Nat.le_refl _) w1 w2 (by rw [eo 25 (by omega) (by omega)]) (fun i _ k hk => by rw [eo k (by omega) (by omega)])
  · obtain ⟨hi, q', j', f', pn', hr, hk'⟩ := hW p hp' i hv
    obtain ⟨w1, w2⟩ := ej hk'.2.2.2.1.1
    rw [t3, t3]
    exact ⟨hi, q', j', f', pn', hr, hk'.c (Nat.le_refl _) hk'.2.2.2.2.2.2 (ew _ (zl_ne hk'.2.2.1 k3 (by simp))) w1 w2 (by rw [eo 13 (by omega) (by omega)]) (by rw [eo 14 (by omega) (by omega)]) (fun o _ k hk => by rw [eo k (by omega) (by omega)])⟩
  · rw [t3, t3]
    obtain ⟨q', j', f', pn', port', hr, hk'⟩ := hK u hu
    by_cases e : u = t
    · subst e
      obtain ⟨w1, w2⟩ := ej k4.1
      refine ⟨q, j, f, pn, port, hq, k1, k2, ?_, k4.c (Nat.le_refl _) w1 w2, k5, by rw [eo 6 (by omega) (by omega)]; exact k6, by rw [eo 8 (by omega) (by omega)]; exact k7, k8.c (fun i _ k hk => by rw [eo k (by omega) (by omega)]), k9⟩
      unfold zx_cv
      rw [zg_us, e10, if_pos rfl, if_pos nI_0, eL, if_neg (by omega), eo 7 (by omega) (by omega)]
    · obtain ⟨w1, w2⟩ := ej hk'.2.2.2.1.1
      refine ⟨q', j', f', pn', port', hr, hk'.c (Nat.le_refl _) hk'.2.2.2.2.2.2.2.2 (ew _ fun e' => e (hI u t q hu ht (by rw [hr, e']) hq)) w1 w2 (fun k hk => ?_) (by rw [eL, if_neg (by omega)]) (fun o _ k hk => by rw [eo k (by omega) (by omega)])⟩
      by_cases ek : k = 10
      · subst ek; rw [e10, if_neg e]
      · rw [eo k (by omega) ek]
  · intro a b c ha hb h1 h2
    rw [t3] at h1 h2
    exact hI a b c ha hb h1 h2
