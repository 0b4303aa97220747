/-! serve as a whole; part, a new draft, wish, cancel -/
theorem zl_srv {m : Nat} {A : Nat → ClassId} {x z : Nat} {σ : zm_S} {τ : zx_S} {w : zg_w} {T port had : Nat} {hd : Nat → Nat} {Q J Pn : Nat → Nat} {Fm : Nat → Nat → Int32} {Nn : Nat → Int32} (h : zl_C m A x σ τ w z T (fun p i => i < hd p)) (hc : ∀ p, p < 4 → hd p ≤ 6 ∧ (τ (10 + 3 * p)).1 2 = nI (hd p) ∧ σ.1 12 p = nI (hd p)) (hp : port < 4) (hhd : hd port = had) (hr : ∀ i, i < had → (τ (10 + 3 * port + 2)).2.2.1 i = some (Q i)) (hW : ∀ i, i < had → zl_W A x σ w z (τ 0).2.2.2 port i (Q i) (J i) (Fm i) (Pn i)) (hN : ∀ i, i < had → σ.1 13 (6 * port + i) = Nn i) :
    zl_R m A x (zm_serve σ port T had) (zxI (zx_sv A τ w port T z Q J Fm Nn had).1 (10 + 3 * port) 2 (nI (zx_sv A τ w port T z Q J Fm Nn had).2.1)) (zx_sv A τ w port T z Q J Fm Nn had).2.2 (z + (had - (zx_sv A τ w port T z Q J Fm Nn had).2.1)) ∧ (zm_sv σ port T had).2 = (zx_sv A τ w port T z Q J Fm Nn had).2.1 ∧ ∀ o, 22 ≤ o → zxI (zx_sv A τ w port T z Q J Fm Nn had).1 (10 + 3 * port) 2 (nI (zx_sv A τ w port T z Q J Fm Nn had).2.1) o = τ o := by
  have h6 : had ≤ 6 := by rw [← hhd]; exact (hc port hp).1
  obtain ⟨e1, e2, hC, -, e0, e12, ec, el⟩ := zl_serve h hp hhd h6 hr hW hN had (Nat.le_refl _)
  unfold zm_serve
  rw [← e1]
  refine ⟨⟨T + (had - (zm_sv σ port T had).2), fun p => if p = port then (zm_sv σ port T had).2 else hd p, ?_, fun p hp' => ?_⟩, rfl, fun o ho => by rw [zxI_o (by omega)]; exact el o ho⟩
  · have hC2 := hC.V (V' := fun p i => i < if p = port then (zm_sv σ port T had).2 else hd p) (fun p i q => by
      by_cases e : p = port
      · rw [if_pos e] at q; exact Or.inl ⟨e, Or.inl q⟩
      · rw [if_neg e] at q; exact Or.inr ⟨e, q⟩)
    obtain ⟨hA, hT, hB, hY⟩ := hC2
    have e : ∀ k, k ≠ 12 → (zm_set (zm_sv σ port T had).1 12 port (nI (zm_sv σ port T had).2)).1 k = (zm_sv σ port T had).1.1 k := fun k hk => zm_set_o hk
    exact ⟨hA.c (e 0 (by omega)) (e 1 (by omega)) (e 2 (by omega)) rfl (by rw [zxI_o (by omega)]) (by rw [zxI_o (by omega)]) (fun q _ => by rw [zxI_o (by omega)]) (fun q _ => by rw [zx_at2]), hT.c (fun k hk => e k (by omega)) (by rw [e 25 (by omega)]) (by rw [zxI_o (by omega)]) (by rw [zxI_o (by omega)]), hB.c (Nat.le_refl _) (fun k _ _ => e k (by omega)) (by rw [zxI_o (by omega)]) (fun o ho => by rw [zxI_o (by omega)]), hY.c (Nat.le_refl _) (fun _ _ _ => rfl) (fun k hk => e k (by omega)) (by rw [e 25 (by omega)]) rfl (by rw [zx_at2]) (by rw [zx_at2]) (fun q _ => by rw [zx_at2])⟩
  · dsimp only
    by_cases e : p = port
    · subst e
      rw [if_pos rfl, zx_at, if_pos ⟨rfl, rfl⟩, zm_set_s]
      exact ⟨by omega, rfl, rfl⟩
    · rw [if_neg e, zx_at, if_neg (by omega), zm_at, if_neg (by omega), ec p, e12]
      exact hc p hp'
theorem zx_adp_at {f : Nat → Int32} {s a : Nat} : ∀ m j, zx_adp f s a m j = if s * 4 + a ≤ j ∧ j < s * 4 + a + m then f j + nI 1 else f j
  | 0, j => by rw [zx_adp, if_neg (by omega)]
  | m + 1, j => by
    rw [zx_adp]
    by_cases h1 : j = s * 4 + (a + m)
    · subst h1
      rw [pk_us, if_pos (by omega), zx_adp_at m, if_neg (by omega)]
    · rw [pk_un h1, zx_adp_at m]
      by_cases h2 : s * 4 + a ≤ j ∧ j < s * 4 + a + m
      · rw [if_pos h2, if_pos (by omega)]
      · rw [if_neg h2, if_neg (by omega)]
theorem zl_ne {w : zg_w} {a b : Nat} {e e' : va_E} (h1 : w a = some e) (h2 : w b = some e') (h : e ≠ e') : a ≠ b := fun q => by
  subst q
  exact h (Option.some.inj (h1.symm.trans h2))
theorem zl_part {m : Nat} {A : Nat → ClassId} {x z : Nat} {σ : zm_S} {τ : zx_S} {w : zg_w} {s a b d : Nat} {f : Nat → Int32} (h : zl_R m A x σ τ w z) (hs : s < 4) (hab : a < b) (hb : b < 5) (hd : d < 4) (hD : zl_D A x σ w z (τ 0).2.2.2 d f) : zl_R m A x (zm_set (zm_set (zm_set (zm_set σ 3 d (nI s)) 4 d (nI a)) 5 d (nI b)) 25 1 (nI (d + 1))) τ (zg_u (zg_u w ((τ 0).2.2.2 + 1) (.inl (A 0, 16, .inl (zx_adp f s a (b - a))))) (τ 0).2.2.2 (.inr (0, [.ref ((τ 0).2.2.2 + 1), .int (nI (d + 1))]))) z := by
  obtain ⟨T, hdd, ⟨hA, hT, hB, -, hW, hK, hI, hx⟩, hh⟩ := h
  generalize hS : zm_set (zm_set (zm_set (zm_set σ 3 d (nI s)) 4 d (nI a)) 5 d (nI b)) 25 1 (nI (d + 1)) = S
  have ea : ∀ k j, S.1 k j = if k = 25 ∧ j = 1 then nI (d + 1) else if k = 5 ∧ j = d then nI b else if k = 4 ∧ j = d then nI a else if k = 3 ∧ j = d then nI s else σ.1 k j := fun k j => by
    rw [← hS]
    simp only [zm_at]
  have eo : ∀ k j, ¬ (k = 25 ∧ j = 1) → ¬ (3 ≤ k ∧ k ≤ 5 ∧ j = d) → S.1 k j = σ.1 k j := fun k j a1 a2 => by
    rw [ea, if_neg a1, if_neg (by omega), if_neg (by omega), if_neg (by omega)]
  have e2 : S.2 = σ.2 := by rw [← hS]; rfl
  have hfo : ∀ k, ¬ (3 ≤ k ∧ k ≤ 5) → k ≠ 25 → S.1 k = σ.1 k := fun k a1 a2 => by
    funext j
    exact eo k j (by omega) (by omega)
  obtain ⟨⟨hJ, hok1, hok2, hz1, hd4⟩, h25, hf⟩ := hD
  have ew : ∀ q, q ≠ (τ 0).2.2.2 → q ≠ (τ 0).2.2.2 + 1 → zg_u (zg_u w ((τ 0).2.2.2 + 1) (.inl (A 0, 16, .inl (zx_adp f s a (b - a))))) (τ 0).2.2.2 (.inr (0, [.ref ((τ 0).2.2.2 + 1), .int (nI (d + 1))])) q = w q := fun q a1 a2 => by rw [zg_un a1, zg_un a2]
  have hT8 := hT.1
  refine ⟨T, hdd, ⟨hA.c (hfo 0 (by omega) (by omega)) (hfo 1 (by omega) (by omega)) (hfo 2 (by omega) (by omega)) (by rw [e2]) rfl rfl (fun _ _ => rfl) (fun _ _ => rfl), ⟨hT.1, hT.2.1, by rw [eo 25 2 (by omega) (by omega)]; exact hT.2.2.1, fun g hg => ?_⟩, hB.c (Nat.le_refl _) (fun k a1 a2 => hfo k (by omega) (by omega)) rfl (fun _ _ => rfl), ⟨d + 1, zx_adp f s a (b - a), ⟨⟨?_, hok1, hok2, hz1, by omega⟩, ?_, fun g hg => ?_⟩⟩, fun p hp i hv => ?_, fun t ht => ?_, hI, hx⟩, fun p hp => by rw [hfo 12 (by omega) (by omega)]; exact hh p hp⟩
  · rw [hT.2.2.2 g hg]
    refine (zl_sum_c T fun t ht => ?_).symm
    obtain ⟨q', j', f', pn', port', hr, hk⟩ := hK t ht
    have h8 := hk.2.2.2.2.2.2.1
    have h4 := hk.2.2.2.1.2.2.2.2
    unfold zl_tm
    rw [hfo 10 (by omega) (by omega), hfo 7 (by omega) (by omega), hfo 8 (by omega) (by omega), h8, zn_nI (by omega), zm_lies_c (σ := σ) (a := 4 + 4 * t) pn' (fun i hi k hk => eo k _ (by omega) (by omega))]
  · exact ⟨hJ.1, hJ.2.1, zg_us _ _ _, by rw [zg_un (by omega), zg_us]⟩
  · rw [ea, if_pos ⟨rfl, rfl⟩]
  · rw [zm_lies, zx_adp_at, zm_lies_c (σ := σ) (a := 0) d (fun i hi k hk => eo k _ (by omega) (by omega)), ← hf g hg, Nat.zero_add, show S.1 3 d = nI s by rw [ea, if_neg (by omega), if_neg (by omega), if_neg (by omega), if_pos ⟨rfl, rfl⟩], show S.1 4 d = nI a by rw [ea, if_neg (by omega), if_neg (by omega), if_pos ⟨rfl, rfl⟩], show S.1 5 d = nI b by rw [ea, if_neg (by omega), if_pos ⟨rfl, rfl⟩]]
    by_cases e : s * 4 + a ≤ g ∧ g < s * 4 + a + (b - a)
    · rw [if_pos e, if_pos ⟨by congr 1; omega, nI_le (by omega) (by omega), nI_lt (by omega) (by omega)⟩]
    · rw [if_neg e, if_neg]
      rintro ⟨q1, q2, q3⟩
      have q1 := (nI_eq (by omega) (by omega)).mp q1
      have q2 := (nI_leI (by omega) (by omega)).mp q2
      have q3 := (nI_ltI (by omega) (by omega)).mp q3
      omega
  · obtain ⟨hi, q', j', f', pn', hr, hk⟩ := hW p hp i hv
    have hj := hk.2.2.2.1.1
    refine ⟨hi, q', j', f', pn', hr, hk.c (Nat.le_refl _) hk.2.2.2.2.2.2 (ew _ (zl_ne hk.2.2.1 hJ.2.2.1 (by simp)) (zl_ne hk.2.2.1 hJ.2.2.2 (by simp))) (ew _ hk.2.2.2.2.2.2 (zl_ne hj.2.2.1 hJ.2.2.2 (by simp))) (ew _ (zl_ne hj.2.2.2 hJ.2.2.1 (by simp)) (by have := hk.2.2.2.2.2.2; omega)) (by rw [hfo 13 (by omega) (by omega)]) (by rw [hfo 14 (by omega) (by omega)]) (fun o ho k hk => eo k _ (by omega) (by omega))⟩
  · obtain ⟨q', j', f', pn', port', hr, hk⟩ := hK t ht
    have hj := hk.2.2.2.1.1
    have hne := hk.2.2.2.2.2.2.2.2
    refine ⟨q', j', f', pn', port', hr, hk.c (Nat.le_refl _) hne (ew _ (zl_ne hk.2.2.1 hJ.2.2.1 (by simp)) (zl_ne hk.2.2.1 hJ.2.2.2 (by simp))) (ew _ hne (zl_ne hj.2.2.1 hJ.2.2.2 (by simp))) (ew _ (zl_ne hj.2.2.2 hJ.2.2.1 (by simp)) (by omega)) (fun k hk => by rw [hfo k (by omega) (by omega)]) (by rw [e2]) (fun o ho k hk => eo k _ (by omega) (by omega))⟩
theorem zx_nj_n {A : Nat → ClassId} {v : zg_w} {j q : Nat} (h : q < j) : zx_nj A v j q = v q := by
  unfold zx_nj
  rw [zg_un (by omega), zg_un (by omega)]
theorem zl_newJ {A : Nat → ClassId} {x z z' : Nat} {w : zg_w} (hx : x + 97 ≤ z) (hz : z + 1 < z') : zl_J A x (zx_nj A w z) z' z (fun _ => 0) 0 := by
  refine ⟨⟨zx_out_ge (by omega), zx_out_ge (by omega), ?_, ?_⟩, zl_ok_ge hx, zl_ok_ge (by omega), hz, by omega⟩
  · unfold zx_nj; rw [zg_us]
  · unfold zx_nj; rw [zg_un (by omega), zg_us]
theorem zl_newd {m : Nat} {A : Nat → ClassId} {x z : Nat} {σ : zm_S} {τ : zx_S} {w : zg_w} {T : Nat} {V : Nat → Nat → Prop} (h : zl_C m A x σ τ w z T V) : zl_C m A x (zm_set σ 25 1 (nI 0)) (zxD τ z) (zx_nj A w z) (z + 2) T V := by
  obtain ⟨hA, hT, hB, -, hW, hK, hI, hx⟩ := h
  have e : ∀ k, k ≠ 25 → (zm_set σ 25 1 (nI 0)).1 k = σ.1 k := fun k hk => zm_set_o hk
  refine ⟨hA.c (e 0 (by omega)) (e 1 (by omega)) (e 2 (by omega)) rfl (by rw [zxD_1]) (by rw [zxD_1]) (fun _ _ => by rw [zxD_1]) (fun _ _ => by rw [zxD_21]), hT.c (fun k hk => e k (by omega)) (zm_set_n (by omega)) (by rw [zxD_1]) (by rw [zxD_1]), hB.c (Nat.le_refl _) (fun k _ _ => e k (by omega)) (by rw [zxD_1]) (fun _ _ => by rw [zxD_1]), ⟨0, fun _ => 0, ?_⟩, fun p hp i hv => ?_, fun t ht => ?_, ?_, by omega⟩
  · rw [zxD_4, if_pos rfl]
    exact ⟨zl_newJ hx (by omega), zm_set_s, fun g hg => rfl⟩
  · obtain ⟨hi, q', j', f', pn', hr, hk⟩ := hW p hp i hv
    have h1 := hk.2.1
    have h2 := hk.2.2.2.1.2.2.2.1
    refine ⟨hi, q', j', f', pn', by rw [zxD_3]; exact hr, ?_⟩
    rw [zxD_4, if_pos rfl]
    exact hk.c (by omega) (by omega) (zx_nj_n (by omega)) (zx_nj_n (by omega)) (zx_nj_n (by omega)) (by rw [e 13 (by omega)]) (by rw [e 14 (by omega)]) (fun o _ k hk => by rw [e k (by omega)])
  · obtain ⟨q', j', f', pn', port', hr, hk⟩ := hK t ht
    have h1 := hk.2.1
    have h2 := hk.2.2.2.1.2.2.2.1
    refine ⟨q', j', f', pn', port', by rw [zxD_3]; exact hr, ?_⟩
    rw [zxD_4, if_pos rfl]
    exact hk.c (by omega) (by omega) (zx_nj_n (by omega)) (zx_nj_n (by omega)) (zx_nj_n (by omega)) (fun k hk => by rw [e k (by omega)]) rfl (fun o _ k hk => by rw [e k (by omega)])
  · intro t u q ht hu h1 h2
    rw [zxD_3] at h1 h2
    exact hI t u q ht hu h1 h2
