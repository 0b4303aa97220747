/-! each call, class beside reference -/
theorem zO_open (l : Launch) (D : va_G) (A : Nat → ClassId) (base : Nat) (hl : l.stackTraces = false) {x n : Nat} {σ : zm_S} {τ : zx_S} {w : zg_w} {z : Nat} (h : zl_I A x n σ τ w z) (hn : 4 * (n + 1) < 2 ^ 30) (p0 p1 : Int32) : zl_Out A x n w z (zl_XW_open l D A base x p0 p1) (zl_MM_open l D A base x p0 p1) := by
  obtain ⟨fo, hfo⟩ := h.2.2.1
  have R0 := h.2.2.2.f 0
  obtain ⟨T, hd, ⟨hA, hT, hB, hY⟩, hh⟩ := id h.2.2.2
  by_cases hs : zz4 p0
  · obtain ⟨s, hs4, rfl⟩ := zz_nI (n := 4) (by decide) hs
    by_cases h2 : p1 < nI 1 ∨ nI 100 < p1
    · have e : zm_open σ s p1 = zm_f σ 2 := by unfold zm_open zc_open; rw [if_pos h2, if_neg (by decide)]
      exact zl_refuse h 2 ⟨by decide, by decide⟩ (zL_open_x2 l D A base 7 1 6 (by decide) _ _ x _ _ _ (fun _ _ q => zx_g0 q) (zX_open_x2 l D A base hl x z w τ s p1 hs4 h2)) (fun w1 z1 => ⟨0, 1, by omega, (by have q := zM_open l D A base (x + 70) z1 w1 σ s p1 hs4; rw [e] at q; exact q)⟩)
    · by_cases h3 : (τ 1).1 s = 0
      · have h3' : σ.1 0 s = 0 := by rw [← hA.1 s hs4]; exact h3
        have e : zm_open σ s p1 = zm_opn (zm_set (zm_f σ 0) 0 s (nI 1)) s p1 4 := by unfold zm_open zc_open; rw [if_neg h2, if_pos h3', if_pos rfl]
        refine zl_answer (v := w) (z' := z) (τ' := zx_opn τ s p1 4) (σ' := zm_opn (zm_set (zm_f σ 0) 0 s (nI 1)) s p1 4) (mc := 0) (ms := 0) (d := 1) (r := fo 0) h (fun _ _ _ => rfl) ⟨by omega, by omega, by omega⟩ (zL_open l D A base 1 0 0 (by decide) _ _ x _ _ _ (fun _ _ q => zx_g0 q) (zX_open l D A base x z w τ s p1 hs4 (fun q => h2 (Or.inl q)) (fun q => h2 (Or.inr q)) h3)) (zl_P0.ok hfo (rfl)) (fun w1 z1 => (by have q := zM_open l D A base (x + 70) z1 w1 σ s p1 hs4; rw [e] at q; exact q)) (by rw [zm_opn_at, if_neg (by omega), zm_at, if_neg (by omega)]; exact zm_set_s) (zl_open R0 hs4) (by omega)
      · have h3' : ¬ σ.1 0 s = 0 := by rw [← hA.1 s hs4]; exact h3
        have e : zm_open σ s p1 = zm_f σ 3 := by unfold zm_open zc_open; rw [if_neg h2, if_neg h3', if_neg (by decide)]
        exact zl_refuse h 3 ⟨by decide, by decide⟩ (zL_open_x3 l D A base 7 1 6 (by decide) _ _ x _ _ _ (fun _ _ q => zx_g0 q) (zX_open_x3 l D A base hl x z w τ s p1 hs4 (fun q => h2 (Or.inl q)) (fun q => h2 (Or.inr q)) h3)) (fun w1 z1 => ⟨0, 1, by omega, (by have q := zM_open l D A base (x + 70) z1 w1 σ s p1 hs4; rw [e] at q; exact q)⟩)
  · exact zl_refuse h 1 ⟨by decide, by decide⟩ (zL_open_x1 l D A base 7 1 6 (by decide) _ _ x _ _ _ (fun _ _ q => zx_g0 q) (zX_open_x1 l D A base hl x z w τ p0 p1 hs)) (fun w1 z1 => ⟨0, 1, by omega, zM_open_bad l D A base (x + 70) z1 w1 σ p0 p1 hs⟩)
theorem zO_fare (l : Launch) (D : va_G) (A : Nat → ClassId) (base : Nat) (hl : l.stackTraces = false) {x n : Nat} {σ : zm_S} {τ : zx_S} {w : zg_w} {z : Nat} (h : zl_I A x n σ τ w z) (hn : 4 * (n + 1) < 2 ^ 30) (p0 p1 p2 : Int32) : zl_Out A x n w z (zl_XW_fare l D A base x p0 p1 p2) (zl_MM_fare l D A base x p0 p1 p2) := by
  obtain ⟨fo, hfo⟩ := h.2.2.1
  have R0 := h.2.2.2.f 0
  obtain ⟨T, hd, ⟨hA, hT, hB, hY⟩, hh⟩ := id h.2.2.2
  by_cases hs : zz4 p0 ∧ zz4 p1
  · obtain ⟨s, hs4, rfl⟩ := zz_nI (n := 4) (by decide) hs.1
    obtain ⟨g, hg4, rfl⟩ := zz_nI (n := 4) (by decide) hs.2
    by_cases h2 : p2 < 0 ∨ (1000000000 : Int32) < p2
    · have e : zm_fare σ s g p2 = zm_f σ 2 := by unfold zm_fare zc_fare; rw [if_pos h2, if_neg (by decide)]
      exact zl_refuse h 2 ⟨by decide, by decide⟩ (zL_fare_x2 l D A base 7 1 6 (by decide) _ _ x _ _ _ _ (fun _ _ q => zx_g0 q) (zX_fare_x2 l D A base hl x z w τ s g p2 hs4 hg4 h2)) (fun w1 z1 => ⟨0, 1, by omega, (by have q := zM_fare l D A base (x + 70) z1 w1 σ s g p2 hs4 hg4; rw [e] at q; exact q)⟩)
    · have e : zm_fare σ s g p2 = zm_set (zm_f σ 0) 1 (4 * s + g) p2 := by unfold zm_fare zc_fare; rw [if_neg h2, if_pos rfl]
      refine zl_answer (v := w) (z' := z) (τ' := zxI τ 2 (s * 4 + g) p2) (σ' := zm_set (zm_f σ 0) 1 (4 * s + g) p2) (mc := 0) (ms := 0) (d := 1) (r := fo 0) h (fun _ _ _ => rfl) ⟨by omega, by omega, by omega⟩ (zL_fare l D A base 1 0 0 (by decide) _ _ x _ _ _ _ (fun _ _ q => zx_g0 q) (zX_fare l D A base x z w τ s g p2 hs4 hg4 (fun q => h2 (Or.inl q)) (fun q => h2 (Or.inr q)))) (zl_P0.ok hfo (rfl)) (fun w1 z1 => (by have q := zM_fare l D A base (x + 70) z1 w1 σ s g p2 hs4 hg4; rw [e] at q; exact q)) (by rw [zm_at, if_neg (by omega)]; exact zm_set_s) (by rw [Nat.mul_comm s 4]; exact zl_fare R0) (by omega)
  · exact zl_refuse h 1 ⟨by decide, by decide⟩ (zL_fare_x1 l D A base 7 1 6 (by decide) _ _ x _ _ _ _ (fun _ _ q => zx_g0 q) (zX_fare_x1 l D A base hl x z w τ p0 p1 p2 hs)) (fun w1 z1 => ⟨0, 1, by omega, zM_fare_bad l D A base (x + 70) z1 w1 σ p0 p1 p2 hs⟩)
theorem zO_rights (l : Launch) (D : va_G) (A : Nat → ClassId) (base : Nat) (hl : l.stackTraces = false) {x n : Nat} {σ : zm_S} {τ : zx_S} {w : zg_w} {z : Nat} (h : zl_I A x n σ τ w z) (hn : 4 * (n + 1) < 2 ^ 30) (p0 p1 p2 : Int32) : zl_Out A x n w z (zl_XW_rights l D A base x p0 p1 p2) (zl_MM_rights l D A base x p0 p1 p2) := by
  obtain ⟨fo, hfo⟩ := h.2.2.1
  have R0 := h.2.2.2.f 0
  obtain ⟨T, hd, ⟨hA, hT, hB, hY⟩, hh⟩ := id h.2.2.2
  by_cases hc : zz4 p0 ∧ zz4 p1 ∧ zz4 p2
  · obtain ⟨a, ha, rfl⟩ := zz_nI (n := 4) (by decide) (hc.1)
    obtain ⟨s, hs, rfl⟩ := zz_nI (n := 4) (by decide) (hc.2.1)
    obtain ⟨g, hg, rfl⟩ := zz_nI (n := 4) (by decide) (hc.2.2)
    have e : σ.1 2 (16 * a + 4 * s + g) = (τ (10 + 3 * a + 1)).1 (s * 4 + g) := by rw [hA.2.2.1 a ha (s * 4 + g) (by omega), show 16 * a + 4 * s + g = 16 * a + (s * 4 + g) by omega]
    refine zl_answer (v := w) (z' := z) (τ' := τ) (σ' := zm_f σ 0) (mc := 0) (ms := 0) (d := 1) (r := ((τ (10 + 3 * a + 1)).1 (s * 4 + g)).toInt64) h (fun _ _ _ => rfl) ⟨by omega, by omega, by omega⟩ (zL_rights l D A base 1 0 0 (by decide) _ _ x _ _ _ _ (fun _ _ q => zx_g0 q) (x + 96) ((τ (10 + 3 * a + 1)).1 (s * 4 + g)) fo (zl_P1 A x (w) (z) (τ) fo ((τ (10 + 3 * a + 1)).1 (s * 4 + g)).toInt64) (zl_oa hfo (rfl)) zl_P1.of (zX_rights l D A base x z w τ a s g ha hs hg)) zl_P1.ok (fun w1 z1 => ⟨(τ (10 + 3 * a + 1)).1 (s * 4 + g), rfl, (by have q := zM_rights l D A base (x + 70) z1 w1 σ a s g ha hs hg; rw [e] at q; exact q)⟩) (zm_set_s) (R0) (by omega)
  · exact zl_refuse h 1 ⟨by decide, by decide⟩ (zL_rights_x1 l D A base 7 1 6 (by decide) _ _ x _ _ _ _ (fun _ _ q => zx_g0 q) (x + 96) (zX_rights_x1 l D A base hl x z w τ p0 p1 p2 hc)) (fun w1 z1 => ⟨(nI 0).toInt64, 1, by omega, nI 0, rfl, zM_rights_bad l D A base (x + 70) z1 w1 σ p0 p1 p2 hc⟩)
theorem zO_air (l : Launch) (D : va_G) (A : Nat → ClassId) (base : Nat) (hl : l.stackTraces = false) {x n : Nat} {σ : zm_S} {τ : zx_S} {w : zg_w} {z : Nat} (h : zl_I A x n σ τ w z) (hn : 4 * (n + 1) < 2 ^ 30) (p0 p1 : Int32) : zl_Out A x n w z (zl_XW_air l D A base x p0 p1) (zl_MM_air l D A base x p0 p1) := by
  obtain ⟨fo, hfo⟩ := h.2.2.1
  have R0 := h.2.2.2.f 0
  obtain ⟨T, hd, ⟨hA, hT, hB, hY⟩, hh⟩ := id h.2.2.2
  by_cases hc : zz4 p0 ∧ zz4 p1
  · obtain ⟨s, hs, rfl⟩ := zz_nI (n := 4) (by decide) (hc.1)
    obtain ⟨g, hg, rfl⟩ := zz_nI (n := 4) (by decide) (hc.2)
    have e : zm_air σ (4 * s + g) 16 = (τ 4).1 (s * 4 + g) := by rw [zm_air_s, hB.1 _ (by omega), Nat.mul_comm]
    have hb : ∀ p, p < 16 → ∃ b, b ≤ 8 ∧ σ.1 16 p = nI b := fun p hp => by
      obtain ⟨_, b, _, _, _, _, hl⟩ := hB.2 p hp
      exact ⟨b, hl.2.1.1, hl.2.2.1.2.1⟩
    refine zl_answer (v := w) (z' := z) (τ' := τ) (σ' := zm_f σ 0) (mc := 0) (ms := 0) (d := 1) (r := ((τ 4).1 (s * 4 + g)).toInt64) h (fun _ _ _ => rfl) ⟨by omega, by omega, by omega⟩ (zL_air l D A base 1 0 0 (by decide) _ _ x _ _ _ (fun _ _ q => zx_g0 q) (x + 96) ((τ 4).1 (s * 4 + g)) fo (zl_P1 A x (w) (z) (τ) fo ((τ 4).1 (s * 4 + g)).toInt64) (zl_oa hfo (rfl)) zl_P1.of (zX_air l D A base x z w τ s g hs hg)) zl_P1.ok (fun w1 z1 => ⟨(τ 4).1 (s * 4 + g), rfl, (by have q := zM_air l D A base (x + 70) z1 w1 σ s g hs hg hb; rw [e] at q; exact q)⟩) (zm_set_s) (R0) (by omega)
  · exact zl_refuse h 1 ⟨by decide, by decide⟩ (zL_air_x1 l D A base 7 1 6 (by decide) _ _ x _ _ _ (fun _ _ q => zx_g0 q) (x + 96) (zX_air_x1 l D A base hl x z w τ p0 p1 hc)) (fun w1 z1 => ⟨(nI 0).toInt64, 1, by omega, nI 0, rfl, zM_air_bad l D A base (x + 70) z1 w1 σ p0 p1 hc⟩)
theorem zO_sold (l : Launch) (D : va_G) (A : Nat → ClassId) (base : Nat) (hl : l.stackTraces = false) {x n : Nat} {σ : zm_S} {τ : zx_S} {w : zg_w} {z : Nat} (h : zl_I A x n σ τ w z) (hn : 4 * (n + 1) < 2 ^ 30) (p0 p1 : Int32) : zl_Out A x n w z (zl_XW_sold l D A base x p0 p1) (zl_MM_sold l D A base x p0 p1) := by
  obtain ⟨fo, hfo⟩ := h.2.2.1
  have R0 := h.2.2.2.f 0
  obtain ⟨T, hd, ⟨hA, hT, hB, hY⟩, hh⟩ := id h.2.2.2
  by_cases hc : zz4 p0 ∧ zz4 p1
  · obtain ⟨s, hs, rfl⟩ := zz_nI (n := 4) (by decide) (hc.1)
    obtain ⟨g, hg, rfl⟩ := zz_nI (n := 4) (by decide) (hc.2)
    have e : zm_sold σ (4 * s + g) T = (τ 3).1 (s * 4 + g) := by rw [zm_sold_s, hT.2.2.2 _ (by omega), Nat.mul_comm]
    have hq : ∀ t, t < T → ∃ p, p ≤ 4 ∧ σ.1 8 t = nI p := fun t ht => by
      obtain ⟨_, _, _, pn, _, _, hk⟩ := hY.2.2.1 t ht
      exact ⟨pn, hk.2.2.2.1.2.2.2.2, hk.2.2.2.2.2.2.1⟩
    refine zl_answer (v := w) (z' := z) (τ' := τ) (σ' := zm_f σ 0) (mc := 0) (ms := 0) (d := 1) (r := ((τ 3).1 (s * 4 + g)).toInt64) h (fun _ _ _ => rfl) ⟨by omega, by omega, by omega⟩ (zL_sold l D A base 1 0 0 (by decide) _ _ x _ _ _ (fun _ _ q => zx_g0 q) (x + 96) ((τ 3).1 (s * 4 + g)) fo (zl_P1 A x (w) (z) (τ) fo ((τ 3).1 (s * 4 + g)).toInt64) (zl_oa hfo (rfl)) zl_P1.of (zX_sold l D A base x z w τ s g hs hg)) zl_P1.ok (fun w1 z1 => ⟨(τ 3).1 (s * 4 + g), rfl, (by have q := zM_sold l D A base (x + 70) z1 w1 σ s g T hs hg hT.1 hT.2.2.1 hq; rw [e] at q; exact q)⟩) (zm_set_s) (R0) (by omega)
  · exact zl_refuse h 1 ⟨by decide, by decide⟩ (zL_sold_x1 l D A base 7 1 6 (by decide) _ _ x _ _ _ (fun _ _ q => zx_g0 q) (x + 96) (zX_sold_x1 l D A base hl x z w τ p0 p1 hc)) (fun w1 z1 => ⟨(nI 0).toInt64, 1, by omega, nI 0, rfl, zM_sold_bad l D A base (x + 70) z1 w1 σ p0 p1 hc⟩)
theorem zO_wishes (l : Launch) (D : va_G) (A : Nat → ClassId) (base : Nat) (hl : l.stackTraces = false) {x n : Nat} {σ : zm_S} {τ : zx_S} {w : zg_w} {z : Nat} (h : zl_I A x n σ τ w z) (hn : 4 * (n + 1) < 2 ^ 30) (p0 : Int32) : zl_Out A x n w z (zl_XW_wishes l D A base x p0) (zl_MM_wishes l D A base x p0) := by
  obtain ⟨fo, hfo⟩ := h.2.2.1
  have R0 := h.2.2.2.f 0
  obtain ⟨T, hd, ⟨hA, hT, hB, hY⟩, hh⟩ := id h.2.2.2
  by_cases hc : zz4 p0
  · obtain ⟨p, hp, rfl⟩ := zz_nI (n := 4) (by decide) (hc)
    have e : σ.1 12 p = (τ (10 + 3 * p)).1 2 := by rw [(hh p hp).2.1, (hh p hp).2.2]
    refine zl_answer (v := w) (z' := z) (τ' := τ) (σ' := zm_f σ 0) (mc := 0) (ms := 0) (d := 1) (r := ((τ (10 + 3 * p)).1 2).toInt64) h (fun _ _ _ => rfl) ⟨by omega, by omega, by omega⟩ (zL_wishes l D A base 1 0 0 (by decide) _ _ x _ _ (fun _ _ q => zx_g0 q) (x + 96) ((τ (10 + 3 * p)).1 2) fo (zl_P1 A x (w) (z) (τ) fo ((τ (10 + 3 * p)).1 2).toInt64) (zl_oa hfo (rfl)) zl_P1.of (zX_wishes l D A base x z w τ p hp)) zl_P1.ok (fun w1 z1 => ⟨(τ (10 + 3 * p)).1 2, rfl, (by have q := zM_wishes l D A base (x + 70) z1 w1 σ p hp; rw [e] at q; exact q)⟩) (zm_set_s) (R0) (by omega)
  · exact zl_refuse h 1 ⟨by decide, by decide⟩ (zL_wishes_x1 l D A base 7 1 6 (by decide) _ _ x _ _ (fun _ _ q => zx_g0 q) (x + 96) (zX_wishes_x1 l D A base hl x z w τ p0 hc)) (fun w1 z1 => ⟨(nI 0).toInt64, 1, by omega, nI 0, rfl, zM_wishes_bad l D A base (x + 70) z1 w1 σ p0 hc⟩)
theorem zO_till (l : Launch) (D : va_G) (A : Nat → ClassId) (base : Nat) (hl : l.stackTraces = false) {x n : Nat} {σ : zm_S} {τ : zx_S} {w : zg_w} {z : Nat} (h : zl_I A x n σ τ w z) (hn : 4 * (n + 1) < 2 ^ 30) (p0 : Int32) : zl_Out A x n w z (zl_XW_till l D A base x p0) (zl_MM_till l D A base x p0) := by
  obtain ⟨fo, hfo⟩ := h.2.2.1
  have R0 := h.2.2.2.f 0
  obtain ⟨T, hd, ⟨hA, hT, hB, hY⟩, hh⟩ := id h.2.2.2
  by_cases hc : zz4 p0
  · obtain ⟨p, hp, rfl⟩ := zz_nI (n := 4) (by decide) (hc)
    have e : σ.2 11 p = (τ (10 + 3 * p)).2.1 := (hA.2.2.2 p hp).symm
    refine zl_answer (v := w) (z' := z) (τ' := τ) (σ' := zm_f σ 0) (mc := 0) (ms := 0) (d := 1) (r := ((τ (10 + 3 * p)).2.1)) h (fun _ _ _ => rfl) ⟨by omega, by omega, by omega⟩ (zL_till l D A base 1 0 0 (by decide) _ _ x _ _ (fun _ _ q => zx_g0 q) (x + 96) ((τ (10 + 3 * p)).2.1) fo (zl_P1 A x (w) (z) (τ) fo ((τ (10 + 3 * p)).2.1)) (zl_oa hfo (rfl)) zl_P1.of (zX_till l D A base x z w τ p hp)) zl_P1.ok (fun w1 z1 => (by have q := zM_till l D A base (x + 70) z1 w1 σ p hp; rw [e] at q; exact q)) (zm_set_s) (R0) (by omega)
  · exact zl_refuse h 1 ⟨by decide, by decide⟩ (zL_till_x1 l D A base 7 1 6 (by decide) _ _ x _ _ (fun _ _ q => zx_g0 q) (x + 96) (zX_till_x1 l D A base hl x z w τ p0 hc)) (fun w1 z1 => ⟨0, 1, by omega, zM_till_bad l D A base (x + 70) z1 w1 σ p0 hc⟩)
theorem zO_crash (l : Launch) (D : va_G) (A : Nat → ClassId) (base : Nat) (hl : l.stackTraces = false) {x n : Nat} {σ : zm_S} {τ : zx_S} {w : zg_w} {z : Nat} (h : zl_I A x n σ τ w z) (hn : 4 * (n + 1) < 2 ^ 30) (p0 : Int32) : zl_Out A x n w z (zl_XW_crash l D A base x p0) (zl_MM_crash l D A base x p0) := by
  obtain ⟨fo, hfo⟩ := h.2.2.1
  have R0 := h.2.2.2.f 0
  obtain ⟨T, hd, ⟨hA, hT, hB, hY⟩, hh⟩ := id h.2.2.2
  by_cases hc : zz4 p0
  · obtain ⟨p, hp, rfl⟩ := zz_nI (n := 4) (by decide) (hc)
    obtain ⟨e1, e2⟩ := zl_crash R0 (by omega) hp 4 (Nat.le_refl _)
    have h25 : ∀ i, (zm_cra (zm_f σ 0) p i).1.1 25 = (zm_f σ 0).1 25 := fun i => by
      induction i with
      | zero => rfl
      | succ i ih =>
        rw [zm_cra]
        split
        · exact ih
        · unfold zm_lose1
          dsimp only
          rw [zm_set_o (by decide), zm_set_o (by decide), zm_set_o (by decide), zm_set_o (by decide)]; exact ih
    refine zl_answer (v := w) (z' := z) (τ' := (zx_cra τ p 4).1) (σ' := (zm_cra (zm_f σ 0) p 4).1) (mc := 0) (ms := 0) (d := 1) (r := ((zx_cra τ p 4).2).toInt64) h (fun _ _ _ => rfl) ⟨by omega, by omega, by omega⟩ (zL_crash l D A base 2 0 0 (by decide) _ _ x _ _ (fun _ _ q => zx_g0 q) (x + 96) ((zx_cra τ p 4).2) fo (zl_P1 A x (w) (z) ((zx_cra τ p 4).1) fo ((zx_cra τ p 4).2).toInt64) (zl_oa hfo (rfl)) zl_P1.of (zX_crash l D A base x z w τ p hp)) zl_P1.ok (fun w1 z1 => ⟨(zx_cra τ p 4).2, rfl, (by have q := zM_crash l D A base (x + 70) z1 w1 σ p hp; rw [e2] at q; exact q)⟩) (by rw [h25]; exact zm_set_s) (e1) (by omega)
  · exact zl_refuse h 1 ⟨by decide, by decide⟩ (zL_crash_x1 l D A base 7 1 6 (by decide) _ _ x _ _ (fun _ _ q => zx_g0 q) (x + 96) (zX_crash_x1 l D A base hl x z w τ p0 hc)) (fun w1 z1 => ⟨(nI 0).toInt64, 1, by omega, nI 0, rfl, zM_crash_bad l D A base (x + 70) z1 w1 σ p0 hc⟩)
