/-! a wish is kept; serve -/
theorem zl_fit {σ : zm_S} {τ : zx_S} {port a pn : Nat} {f : Nat → Int32} {n : Int32} (hA : zl_A σ τ) (hp : port < 4) (hf : zl_f σ a pn f) : zx_fit τ port f n = 0 ↔ zm_fits σ port a pn n 16 = 0 := by
  have h : ¬ zx_fit τ port f n = 0 ↔ ¬ zm_fits σ port a pn n 16 = 0 := by
    rw [zx_fit_0, zm_fits_0]
    refine ⟨fun q k hk => ?_, fun q k hk => ?_⟩
    · have := q k hk
      rw [hA.2.2.1 port hp k hk, hf k hk] at this
      exact Int32.not_lt.mp this
    · rw [hA.2.2.1 port hp k hk, hf k hk]
      exact Int32.not_lt.mpr (q k hk)
  exact Decidable.not_iff_not.mp h
theorem zm_keep_at {σ : zm_S} {tg v pn k j : Nat} (hle : tg ≤ v) : (zm_keep σ tg v pn).1 k j = if k = 14 ∧ j = tg then σ.1 14 v else if k = 13 ∧ j = tg then σ.1 13 v else if k = 3 ∨ k = 4 ∨ k = 5 then (if 324 + 4 * tg ≤ j ∧ j < 324 + 4 * tg + pn then σ.1 k (324 + 4 * v + (j - (324 + 4 * tg))) else σ.1 k j) else σ.1 k j := by
  unfold zm_keep
  simp only [zm_at]
  by_cases h3 : k = 3 ∨ k = 4 ∨ k = 5
  · rw [if_neg (by omega), if_neg (by omega), if_neg (by omega), if_neg (by omega), if_pos h3, zm_copy_at h3 pn (by omega)]
  · rw [if_neg h3, zm_copy_o (by decide), zm_copy_o (by decide), zm_copy_o (by omega), if_neg (show ¬ (14 = 13 ∧ v = tg) by omega)]
theorem zm_keep_2 {σ : zm_S} {tg v pn : Nat} : (zm_keep σ tg v pn).2 = σ.2 := by
  unfold zm_keep
  simp only [zm_at2, zm_copy_L]
theorem zl_keep {m : Nat} {A : Nat → ClassId} {x z : Nat} {σ : zm_S} {τ : zx_S} {w : zg_w} {T port k kp q j pn : Nat} {f : Nat → Int32} {V V' : Nat → Nat → Prop} (h : zl_C m A x σ τ w z T V) (hp : port < 4) (hk : kp ≤ k) (hk6 : k < 6) (hw : zl_W A x σ w z (τ 0).2.2.2 port k q j f pn) (hV : ∀ p i, V' p i → (p = port ∧ i = kp) ∨ (V p i ∧ ¬ (p = port ∧ i = kp))) : zl_C m A x (zm_keep σ (6 * port + kp) (6 * port + k) pn) (zxG τ (10 + 3 * port + 2) kp q) w z T V' := by
  obtain ⟨hA, hT, hB, ⟨d, fd, hD⟩, hW, hK, hI, hx⟩ := h
  have hpn := hw.2.2.2.1.2.2.2.2
  have eo : ∀ i, ¬ (3 ≤ i ∧ i ≤ 5) → i ≠ 13 → i ≠ 14 → (zm_keep σ (6 * port + kp) (6 * port + k) pn).1 i = σ.1 i := fun i a1 a2 a3 => by
    funext o
    rw [zm_keep_at (by omega), if_neg (by omega), if_neg (by omega), if_neg (by omega)]
  have e3 : ∀ i, i = 3 ∨ i = 4 ∨ i = 5 → ∀ o, o < 324 + 4 * (6 * port + kp) ∨ 324 + 4 * (6 * port + kp) + 4 ≤ o → (zm_keep σ (6 * port + kp) (6 * port + k) pn).1 i o = σ.1 i o := fun i hi o ho => by
    rw [zm_keep_at (by omega), if_neg (by omega), if_neg (by omega), if_pos hi, if_neg (by omega)]
  refine ⟨hA.c (eo 0 (by omega) (by omega) (by omega)) (eo 1 (by omega) (by omega) (by omega)) (eo 2 (by omega) (by omega) (by omega)) (by rw [zm_keep_2]) (by rw [zxG_1]) (by rw [zxG_1]) (fun p _ => by rw [zxG_1]) (fun p _ => by rw [zxG_21]), ⟨hT.1, by rw [zxG_1]; exact hT.2.1, by rw [eo 25 (by omega) (by omega) (by omega)]; exact hT.2.2.1, fun g hg => ?_⟩, hB.c (Nat.le_refl _) (fun i a1 a2 => eo i (by omega) (by omega) (by omega)) (by rw [zxG_1]) (fun o _ => by rw [zxG_1]), ⟨d, fd, ?_⟩, fun p hp' i hv => ?_, fun t ht => ?_, ?_, hx⟩
  · rw [zxG_1, hT.2.2.2 g hg]
    refine (zl_sum_c T fun t ht => ?_).symm
    obtain ⟨q', j', f', pn', port', hr, hh⟩ := hK t ht
    have hT8 := hT.1
    have h8 := hh.2.2.2.2.2.2.1
    have h4 := hh.2.2.2.1.2.2.2.2
    unfold zl_tm
    rw [eo 10 (by omega) (by omega) (by omega), eo 7 (by omega) (by omega) (by omega), eo 8 (by omega) (by omega) (by omega), h8, zn_nI (by omega), zm_lies_c (σ := σ) (a := 4 + 4 * t) pn' (fun i hi k hk => e3 k hk _ (by omega))]
  · rw [zxG_4]
    have hd4 := hD.1.2.2.2.2
    exact hD.c (Nat.le_refl _) rfl rfl (by rw [eo 25 (by omega) (by omega) (by omega)]) (fun i hi k hk => e3 k hk _ (by omega))
  · rw [zxG_4]
    rcases hV p i hv with ⟨rfl, rfl⟩ | ⟨hv2, hne⟩
    · refine ⟨by omega, q, j, f, pn, by rw [zxG_3, if_pos ⟨rfl, rfl⟩], hw.1, hw.2.1, ?_, hw.2.2.2.1, ?_, fun g hg => ?_, hw.2.2.2.2.2.2⟩
      · rw [zm_keep_at (by omega), if_neg (by omega), if_pos ⟨rfl, rfl⟩]; exact hw.2.2.1
      · rw [zm_keep_at (by omega), if_pos ⟨rfl, rfl⟩]; exact hw.2.2.2.2.1
      · rw [hw.2.2.2.2.2.1 g hg]
        refine (zm_lies_c pn (fun o ho b hb => ?_)).symm
        rw [zm_keep_at (by omega), if_neg (by omega), if_neg (by omega), if_pos hb, if_pos (by omega), show 324 + 4 * (6 * p + i) + o - (324 + 4 * (6 * p + i)) = o by omega]
    · obtain ⟨hi, q', j', f', pn', hr, hh⟩ := hW p hp' i hv2
      refine ⟨hi, q', j', f', pn', by rw [zxG_3, if_neg (by omega)]; exact hr, hh.c (Nat.le_refl _) hh.2.2.2.2.2.2 rfl rfl rfl ?_ ?_ (fun o ho b hb => e3 b hb _ (by omega))⟩
      · rw [zm_keep_at (by omega), if_neg (by omega), if_neg (by omega), if_neg (by omega)]
      · rw [zm_keep_at (by omega), if_neg (by omega), if_neg (by omega), if_neg (by omega)]
  · obtain ⟨q', j', f', pn', port', hr, hh⟩ := hK t ht
    have hT8 := hT.1
    refine ⟨q', j', f', pn', port', by rw [zxG_3, if_neg (by omega)]; exact hr, ?_⟩
    rw [zxG_4]
    exact hh.c (Nat.le_refl _) hh.2.2.2.2.2.2.2.2 rfl rfl rfl (fun k hk => by rw [eo k (by omega) (by omega) (by omega)]) (by rw [zm_keep_2]) (fun o ho k hk => e3 k hk _ (by omega))
  · intro t u q' ht hu h1 h2
    rw [zxG_3, if_neg (by omega)] at h1 h2
    exact hI t u q' ht hu h1 h2
/-- a wish that is neither sold nor kept, after a sale -/
theorem zl_W.sell {A : Nat → ClassId} {x z dr p i q j pn T port a pn0 j0 : Nat} {σ : zm_S} {w : zg_w} {f : Nat → Int32} {n : Int32} {c : Int64} (h : zl_W A x σ w z dr p i q j f pn) (hT8 : T < 80) (hpn : pn0 ≤ 4) (hs : 4 + 4 * T ≤ a ∨ a + pn0 ≤ 4 + 4 * T) : zl_W A x (zm_sell σ T port a pn0 n) (zg_u w z (zx_to port j0 n c)) (z + 1) dr p i q j f pn := by
  have hz1 := h.2.2.2.1.2.2.2.1
  have hz2 := h.2.1
  refine h.c (by omega) h.2.2.2.2.2.2 (zg_un (by omega)) (zg_un (by omega)) (zg_un (by omega)) ?_ ?_ (fun o ho k hk => ?_)
  · rw [zm_sell_o (Or.inr (Or.inl rfl))]
  · rw [zm_sell_o (Or.inr (Or.inr rfl))]
  · rw [zm_sell_at hs, if_neg (by omega), if_pos hk, if_neg (by omega)]
theorem zl_W.keep {A : Nat → ClassId} {x z dr p i q j pn port kp k pn0 : Nat} {σ : zm_S} {w : zg_w} {f : Nat → Int32} (h : zl_W A x σ w z dr p i q j f pn) (hi : i < 6) (hk : kp ≤ k) (hk6 : k < 6) (hpn : pn0 ≤ 4) (hne : ¬ (p = port ∧ i = kp)) : zl_W A x (zm_keep σ (6 * port + kp) (6 * port + k) pn0) w z dr p i q j f pn := by
  refine h.c (Nat.le_refl _) h.2.2.2.2.2.2 rfl rfl rfl ?_ ?_ (fun o ho b hb => ?_)
  · rw [zm_keep_at (by omega), if_neg (by omega), if_neg (by omega), if_neg (by omega)]
  · rw [zm_keep_at (by omega), if_neg (by omega), if_neg (by omega), if_neg (by omega)]
  · rw [zm_keep_at (by omega), if_neg (by omega), if_neg (by omega), if_pos hb, if_neg (by omega)]
def zl_V (hd : Nat → Nat) (port had kp k : Nat) : Nat → Nat → Prop := fun p i => (p = port ∧ (i < kp ∨ (k ≤ i ∧ i < had))) ∨ (p ≠ port ∧ i < hd p)
theorem zl_C.V {m : Nat} {A : Nat → ClassId} {x z : Nat} {σ : zm_S} {τ : zx_S} {w : zg_w} {T : Nat} {V V' : Nat → Nat → Prop} (h : zl_C m A x σ τ w z T V) (hv : ∀ p i, V' p i → V p i) : zl_C m A x σ τ w z T V' := ⟨h.1, h.2.1, h.2.2.1, h.2.2.2.1, fun p hp i q => h.2.2.2.2.1 p hp i (hv p i q), h.2.2.2.2.2⟩
theorem zl_serve {m : Nat} {A : Nat → ClassId} {x z : Nat} {σ : zm_S} {τ : zx_S} {w : zg_w} {T port had : Nat} {hd : Nat → Nat} {Q J Pn : Nat → Nat} {Fm : Nat → Nat → Int32} {Nn : Nat → Int32} (h : zl_C m A x σ τ w z T (fun p i => i < hd p)) (hp : port < 4) (hhd : hd port = had) (h6 : had ≤ 6) (hr : ∀ i, i < had → (τ (10 + 3 * port + 2)).2.2.1 i = some (Q i)) (hW : ∀ i, i < had → zl_W A x σ w z (τ 0).2.2.2 port i (Q i) (J i) (Fm i) (Pn i)) (hN : ∀ i, i < had → σ.1 13 (6 * port + i) = Nn i) : ∀ k, k ≤ had →
    (zm_sv σ port T k).2 = (zx_sv A τ w port T z Q J Fm Nn k).2.1 ∧ (zm_sv σ port T k).2 ≤ k ∧ zl_C m A x (zm_sv σ port T k).1 (zx_sv A τ w port T z Q J Fm Nn k).1 (zx_sv A τ w port T z Q J Fm Nn k).2.2 (z + (k - (zm_sv σ port T k).2)) (T + (k - (zm_sv σ port T k).2)) (zl_V hd port had (zm_sv σ port T k).2 k) ∧
    (∀ i, k ≤ i → i < had → ((zx_sv A τ w port T z Q J Fm Nn k).1 (10 + 3 * port + 2)).2.2.1 i = some (Q i) ∧ zl_W A x (zm_sv σ port T k).1 (zx_sv A τ w port T z Q J Fm Nn k).2.2 (z + (k - (zm_sv σ port T k).2)) (τ 0).2.2.2 port i (Q i) (J i) (Fm i) (Pn i) ∧ (zm_sv σ port T k).1.1 13 (6 * port + i) = Nn i) ∧
    ((zx_sv A τ w port T z Q J Fm Nn k).1 0).2.2.2 = (τ 0).2.2.2 ∧ (zm_sv σ port T k).1.1 12 = σ.1 12 ∧ (∀ p, ((zx_sv A τ w port T z Q J Fm Nn k).1 (10 + 3 * p)).1 2 = (τ (10 + 3 * p)).1 2) ∧ (∀ o, 22 ≤ o → (zx_sv A τ w port T z Q J Fm Nn k).1 o = τ o)
  | 0, _ => ⟨rfl, Nat.le_refl _, h.V (fun p i q => by
      rcases q with ⟨rfl, q | q⟩ | ⟨-, q⟩
      · exact absurd q (by show ¬ i < 0; omega)
      · show i < hd p; omega
      · exact q), fun i _ hi => ⟨hr i hi, hW i hi, hN i hi⟩, rfl, rfl, fun _ => rfl, fun _ _ => rfl⟩
  | k + 1, hk => by
    obtain ⟨e1, e2, hC, hWk, e0, e12, ec, el⟩ := zl_serve h hp hhd h6 hr hW hN k (by omega)
    obtain ⟨r1, r2, r3⟩ := hWk k (Nat.le_refl _) (by omega)
    have h14 : zn (σ.1 14 (6 * port + k)) = Pn k := by rw [(hW k (by omega)).2.2.2.2.1, zn_nI (by have := (hW k (by omega)).2.2.2.1.2.2.2.2; omega)]
    have hpn := (hW k (by omega)).2.2.2.1.2.2.2.2
    have hf := zl_fit (n := Nn k) hC.1 hp r2.2.2.2.2.2.1
    rw [zm_sv, zx_sv, h14, r3, ← e1]
    by_cases hc : T + (k - (zm_sv σ port T k).2) < 80 ∧ ¬ zm_fits (zm_sv σ port T k).1 port (324 + 4 * (6 * port + k)) (Pn k) (Nn k) 16 = 0
    · rw [if_pos hc, if_pos ⟨hc.1, fun q => hc.2 (hf.mp q)⟩]
      have hsd : 4 + 4 * (T + (k - (zm_sv σ port T k).2)) ≤ 324 + 4 * (6 * port + k) ∨ 324 + 4 * (6 * port + k) + Pn k ≤ 4 + 4 * (T + (k - (zm_sv σ port T k).2)) := by omega
      have hS := zl_sell (n := Nn k) hC hc.1 hp hsd r2.2.2.2.1 r2.2.2.2.2.2.1 (by rw [e0]; exact r2.2.2.2.2.2.2)
      have ez : z + (k - (zm_sv σ port T k).2) + 1 = z + (k + 1 - (zm_sv σ port T k).2) := by omega
      have eT : T + (k - (zm_sv σ port T k).2) + 1 = T + (k + 1 - (zm_sv σ port T k).2) := by omega
      refine ⟨rfl, by dsimp only; omega, ?_, fun i hi hlt => ?_, ?_, ?_, fun p => ?_, fun o ho => ?_⟩
      · dsimp only
        rw [← ez, ← eT]
        refine hS.V (fun p i q => ?_)
        rcases q with ⟨rfl, q | q⟩ | q
        · exact Or.inl ⟨rfl, Or.inl q⟩
        · exact Or.inl ⟨rfl, Or.inr (by omega)⟩
        · exact Or.inr q
      · obtain ⟨q1, q2, q3⟩ := hWk i (by omega) hlt
        dsimp only
        refine ⟨?_, ?_, ?_⟩
        · rw [zx_sel_3, if_neg (by omega)]; exact q1
        · rw [← ez]; exact q2.sell hc.1 hpn hsd
        · rw [zm_sell_o (Or.inr (Or.inl rfl))]; exact q3
      · dsimp only; rw [zx_sel_4]; exact e0
      · dsimp only; rw [zm_sell_o (Or.inl rfl)]; exact e12
      · dsimp only; rw [zx_sel_at hp, if_neg (by omega), if_neg (by omega), if_neg (by omega)]; exact ec p
      · dsimp only; rw [zx_sel_o (by omega)]; exact el o ho
    · rw [if_neg hc, if_neg (fun q => hc ⟨q.1, fun q2 => q.2 (hf.mpr q2)⟩)]
      have ez : z + (k - (zm_sv σ port T k).2) = z + (k + 1 - ((zm_sv σ port T k).2 + 1)) := by omega
      have eT : T + (k - (zm_sv σ port T k).2) = T + (k + 1 - ((zm_sv σ port T k).2 + 1)) := by omega
      have hS := zl_keep (V' := zl_V hd port had ((zm_sv σ port T k).2 + 1) (k + 1)) hC hp e2 (by omega) (by rw [e0]; exact r2) (fun p i q => by
        by_cases e : p = port ∧ i = (zm_sv σ port T k).2
        · exact Or.inl e
        · refine Or.inr ⟨?_, e⟩
          rcases q with ⟨rfl, q | q⟩ | q
          · exact Or.inl ⟨rfl, Or.inl (by omega)⟩
          · exact Or.inl ⟨rfl, Or.inr (by omega)⟩
          · exact Or.inr q)
      refine ⟨by rw [e1], by dsimp only; omega, ?_, fun i hi hlt => ?_, ?_, ?_, fun p => ?_, fun o ho => ?_⟩
      · dsimp only
        rw [← ez, ← eT]
        exact hS
      · obtain ⟨q1, q2, q3⟩ := hWk i (by omega) hlt
        dsimp only
        refine ⟨?_, ?_, ?_⟩
        · rw [zxG_3, if_neg (by omega)]; exact q1
        · rw [← ez]; exact q2.keep (by omega) e2 (by omega) hpn (by omega)
        · rw [zm_keep_at (by omega), if_neg (by omega), if_neg (by omega), if_neg (by omega)]; exact q3
      · dsimp only; rw [zxG_4]; exact e0
      · dsimp only
        funext j
        rw [zm_keep_at (by omega), if_neg (by omega), if_neg (by omega), if_neg (by omega), e12]
      · dsimp only; rw [zxG_1]; exact ec p
      · dsimp only; rw [zxG_o (by omega)]; exact el o ho
