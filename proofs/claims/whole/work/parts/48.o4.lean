/-! each call, class beside reference (2) -/
theorem zm_sv_25 {σ : zm_S} {port T : Nat} : ∀ k, (zm_sv σ port T k).1.1 25 0 = σ.1 25 0
  | 0 => rfl
  | k + 1 => by
    rw [zm_sv]
    split
    · dsimp only
      unfold zm_sell
      dsimp only
      rw [zm_set_n (by decide)]
      show (zm_copy _ _ _ _).1 25 0 = _
      rw [zm_copy_o (by decide), zm_give_o (by decide)]
      exact zm_sv_25 k
    · dsimp only
      unfold zm_keep
      dsimp only
      rw [zm_set_o (by decide), zm_set_o (by decide), zm_copy_o (by decide)]
      exact zm_sv_25 k
theorem zc_w1 {a b : Int32} (h : ¬ (zz4 a ∧ zz4 b)) : zc_wrong a b = 1 := if_neg h
theorem zc_w2 {a : Nat} (h : a < 4) : zc_wrong (nI a) (nI a) = 2 := by unfold zc_wrong; rw [if_pos ⟨zz4_of h, zz4_of h⟩, if_pos rfl]
theorem zl_dr {A : Nat → ClassId} {x : Nat} {σ : zm_S} {τ : zx_S} {w : zg_w} {z T : Nat} {V : Nat → Nat → Prop} (hY : zl_Y A x σ τ w z T V) : ∃ d f, zl_D A x σ w z (τ 0).2.2.2 d f := hY.1
theorem zl_hp {A : Nat → ClassId} {x : Nat} {σ : zm_S} {τ : zx_S} {w : zg_w} {z T : Nat} {hd : Nat → Nat} (hY : zl_Y A x σ τ w z T (fun p i => i < hd p)) {port : Nat} (hp : port < 4) : ∀ k, k < hd port → ∃ p, p ≤ 4 ∧ σ.1 14 (6 * port + k) = nI p := fun k hk => by
  obtain ⟨_, q, j, f, pn, _, h⟩ := hY.2.1 port hp k hk
  exact ⟨pn, h.2.2.2.1.2.2.2.2, h.2.2.2.2.1⟩
theorem zl_wits {A : Nat → ClassId} {x : Nat} {σ : zm_S} {τ : zx_S} {w : zg_w} {z T : Nat} {hd : Nat → Nat} (hY : zl_Y A x σ τ w z T (fun p i => i < hd p)) {port : Nat} (hp : port < 4) : ∃ (Q J : Nat → Nat) (F : Nat → Nat → Int32) (Pn : Nat → Nat), ∀ i, i < hd port → (τ (10 + 3 * port + 2)).2.2.1 i = some (Q i) ∧ zl_W A x σ w z (τ 0).2.2.2 port i (Q i) (J i) (F i) (Pn i) := zl_wit (P := fun i q j f pn => (τ (10 + 3 * port + 2)).2.2.1 i = some q ∧ zl_W A x σ w z (τ 0).2.2.2 port i q j f pn) (fun i hi => (hY.2.1 port hp i hi).2)
theorem zO_send (l : Launch) (D : va_G) (A : Nat → ClassId) (base : Nat) (hl : l.stackTraces = false) {x n : Nat} {σ : zm_S} {τ : zx_S} {w : zg_w} {z : Nat} (h : zl_I A x n σ τ w z) (hn : 4 * (n + 1) < 2 ^ 30) (p0 p1 : Int32) : zl_Out A x n w z (zl_XW_send l D A base x p0 p1) (zl_MM_send l D A base x p0 p1) := by
  obtain ⟨fo, hfo⟩ := h.2.2.1
  have R0 := h.2.2.2.f 0
  obtain ⟨T, hd, ⟨hA, hT, hB, hY⟩, hh⟩ := id h.2.2.2
  by_cases hc : zz4 p0 ∧ zz4 p1
  · obtain ⟨a, ha, rfl⟩ := zz_nI (n := 4) (by decide) hc.1
    obtain ⟨b, hb, rfl⟩ := zz_nI (n := 4) (by decide) hc.2
    by_cases hab : a = b
    · subst hab
      exact zl_refuse h 2 ⟨by decide, by decide⟩ (zL_send_x2 l D A base 8 1 6 (by decide) _ _ x _ _ _ (fun _ _ q => zx_g0 q) (x + 96) (zX_send_x2 l D A base hl x z w τ a ha)) (fun w1 z1 => ⟨(nI 0).toInt64, 2, by omega, nI 0, rfl, zM_send_bad l D A base (x + 70) z1 w1 σ _ _ 2 (zc_w2 ha) (by decide) (by decide)⟩)
    · obtain ⟨g, b1, t, wd, an, lg, hl0⟩ := hB.2 (4 * a + b) (by omega)
      obtain ⟨k1, k2, k3, k4, k5⟩ := id hl0
      have ep : a * 4 + b = 4 * a + b := by omega
      have hl1 := (hl0.c (Nat.le_refl _) (fun k a1 a2 => zm_set_o (by omega)) (fun _ _ => rfl) : zl_l _ (zm_f σ 0) τ _ _ _ _ _ _ _)
      by_cases h0 : b1 = 0
      · have e : zo_send σ (4 * a + b) b1 = (zm_f σ 0, nI 0) := by unfold zo_send; rw [if_pos h0]
        refine zl_answer (v := w) (z' := z) (τ' := τ) (σ' := zm_f σ 0) (mc := 0) (ms := 0) (d := 2) (r := (nI 0).toInt64) h (fun _ _ _ => rfl) ⟨by omega, by omega, by omega⟩ (zL_send l D A base 2 0 0 (by decide) _ _ x _ _ _ (fun _ _ q => zx_g0 q) (x + 96) (nI 0) fo (zl_P1 A x (w) (z) (τ) fo (nI 0).toInt64) (zl_oa hfo (rfl)) zl_P1.of (zX_send0 l D A base x z w τ a b ha hb hab (by rw [ep, k1.2.1, h0]; rfl))) zl_P1.ok (fun w1 z1 => ⟨nI 0, rfl, (by have q := zM_send l D A base (x + 70) z1 w1 σ a b ha hb hab b1 k2.1 k3.2.1; rw [e] at q; exact q)⟩) (zm_set_s) (R0) (by omega)
      · obtain ⟨s1, s2⟩ := zl_send R0 (by omega) hl1 h0
        have e : zo_send σ (4 * a + b) b1 = (zm_set (zm_set (zm_set (zm_f σ 0) 17 (4 * a + b) (σ.1 20 (8 * (4 * a + b)))) 23 (4 * a + b) (σ.1 21 (8 * (4 * a + b)))) 24 (4 * a + b) (σ.1 22 (8 * (4 * a + b))), σ.1 20 (8 * (4 * a + b))) := by unfold zo_send; rw [if_neg h0]
        have e0 : (zm_f σ 0).1 20 (8 * (4 * a + b)) = σ.1 20 (8 * (4 * a + b)) := by rw [zm_f, zm_set_o (by decide)]
        refine zl_answer (v := w) (z' := z) (τ' := zxI τ (22 + 3 * (a * 4 + b)) 5 ((τ (22 + 3 * (a * 4 + b))).1 2 + nI 1)) (σ' := zm_set (zm_set (zm_set (zm_f σ 0) 17 (4 * a + b) (σ.1 20 (8 * (4 * a + b)))) 23 (4 * a + b) (σ.1 21 (8 * (4 * a + b)))) 24 (4 * a + b) (σ.1 22 (8 * (4 * a + b)))) (mc := 0) (ms := 0) (d := 2) (r := ((τ (22 + 3 * (a * 4 + b))).1 2 + nI 1).toInt64) h (fun _ _ _ => rfl) ⟨by omega, by omega, by omega⟩ (zL_send l D A base 2 0 0 (by decide) _ _ x _ _ _ (fun _ _ q => zx_g0 q) (x + 96) ((τ (22 + 3 * (a * 4 + b))).1 2 + nI 1) fo (zl_P1 A x (w) (z) (zxI τ (22 + 3 * (a * 4 + b)) 5 ((τ (22 + 3 * (a * 4 + b))).1 2 + nI 1)) fo ((τ (22 + 3 * (a * 4 + b))).1 2 + nI 1).toInt64) (zl_oa hfo (rfl)) zl_P1.of (zX_send l D A base x z w τ a b ha hb hab (by rw [ep, k1.2.1]; exact nI_ne0 (by omega) (by omega)))) zl_P1.ok (fun w1 z1 => ⟨σ.1 20 (8 * (4 * a + b)), by rw [ep, s2, e0], (by have q := zM_send l D A base (x + 70) z1 w1 σ a b ha hb hab b1 k2.1 k3.2.1; rw [e] at q; exact q)⟩) (by rw [zm_set_o (by decide), zm_set_o (by decide), zm_set_o (by decide)]; exact zm_set_s) (by rw [ep]; exact s1) (by omega)
  · exact zl_refuse h 1 ⟨by decide, by decide⟩ (zL_send_x1 l D A base 8 1 6 (by decide) _ _ x _ _ _ (fun _ _ q => zx_g0 q) (x + 96) (zX_send_x1 l D A base hl x z w τ p0 p1 hc)) (fun w1 z1 => ⟨(nI 0).toInt64, 2, by omega, nI 0, rfl, zM_send_bad l D A base (x + 70) z1 w1 σ _ _ 1 (zc_w1 hc) (by decide) (by decide)⟩)
theorem zO_lose (l : Launch) (D : va_G) (A : Nat → ClassId) (base : Nat) (hl : l.stackTraces = false) {x n : Nat} {σ : zm_S} {τ : zx_S} {w : zg_w} {z : Nat} (h : zl_I A x n σ τ w z) (hn : 4 * (n + 1) < 2 ^ 30) (p0 p1 : Int32) : zl_Out A x n w z (zl_XW_lose l D A base x p0 p1) (zl_MM_lose l D A base x p0 p1) := by
  obtain ⟨fo, hfo⟩ := h.2.2.1
  have R0 := h.2.2.2.f 0
  obtain ⟨T, hd, ⟨hA, hT, hB, hY⟩, hh⟩ := id h.2.2.2
  by_cases hc : zz4 p0 ∧ zz4 p1
  · obtain ⟨a, ha, rfl⟩ := zz_nI (n := 4) (by decide) hc.1
    obtain ⟨b, hb, rfl⟩ := zz_nI (n := 4) (by decide) hc.2
    by_cases hab : a = b
    · subst hab
      exact zl_refuse h 2 ⟨by decide, by decide⟩ (zL_lose_x2 l D A base 8 1 6 (by decide) _ _ x _ _ _ (fun _ _ q => zx_g0 q) (x + 96) (zX_lose_x2 l D A base hl x z w τ a ha)) (fun w1 z1 => ⟨(nI 0).toInt64, 2, by omega, nI 0, rfl, zM_lose_bad l D A base (x + 70) z1 w1 σ _ _ 2 (zc_w2 ha) (by decide) (by decide)⟩)
    · obtain ⟨g, b1, t, wd, an, lg, hl0⟩ := hB.2 (4 * a + b) (by omega)
      obtain ⟨k1, k2, k3, k4, k5⟩ := id hl0
      have ep : a * 4 + b = 4 * a + b := by omega
      obtain ⟨s1, s2⟩ := zl_lose1 (p := 4 * a + b) R0 (by omega) (by omega)
      refine zl_answer (v := w) (z' := z) (τ' := zx_los τ (a * 4 + b)) (σ' := zm_lose1 (zm_f σ 0) (4 * a + b)) (mc := 0) (ms := 0) (d := 2) (r := (zx_lost τ (a * 4 + b)).toInt64) h (fun _ _ _ => rfl) ⟨by omega, by omega, by omega⟩ (zL_lose l D A base 2 0 0 (by decide) _ _ x _ _ _ (fun _ _ q => zx_g0 q) (x + 96) (zx_lost τ (a * 4 + b)) fo (zl_P1 A x (w) (z) (zx_los τ (a * 4 + b)) fo (zx_lost τ (a * 4 + b)).toInt64) (zl_oa hfo (rfl)) zl_P1.of (zX_lose l D A base x z w τ a b ha hb hab)) zl_P1.ok (fun w1 z1 => ⟨zm_loseN (zm_f σ 0) (4 * a + b), by rw [s2, ep], zM_lose l D A base (x + 70) z1 w1 σ a b ha hb hab⟩) (by rw [zm_lose1, zm_set_o (by decide), zm_set_o (by decide)]; exact zm_set_s) (by rw [ep]; exact s1) (by omega)
  · exact zl_refuse h 1 ⟨by decide, by decide⟩ (zL_lose_x1 l D A base 8 1 6 (by decide) _ _ x _ _ _ (fun _ _ q => zx_g0 q) (x + 96) (zX_lose_x1 l D A base hl x z w τ p0 p1 hc)) (fun w1 z1 => ⟨(nI 0).toInt64, 2, by omega, nI 0, rfl, zM_lose_bad l D A base (x + 70) z1 w1 σ _ _ 1 (zc_w1 hc) (by decide) (by decide)⟩)
theorem zO_receipt (l : Launch) (D : va_G) (A : Nat → ClassId) (base : Nat) (hl : l.stackTraces = false) {x n : Nat} {σ : zm_S} {τ : zx_S} {w : zg_w} {z : Nat} (h : zl_I A x n σ τ w z) (hn : 4 * (n + 1) < 2 ^ 30) (p0 p1 : Int32) : zl_Out A x n w z (zl_XW_receipt l D A base x p0 p1) (zl_MM_receipt l D A base x p0 p1) := by
  obtain ⟨fo, hfo⟩ := h.2.2.1
  have R0 := h.2.2.2.f 0
  obtain ⟨T, hd, ⟨hA, hT, hB, hY⟩, hh⟩ := id h.2.2.2
  by_cases hc : zz4 p0 ∧ zz4 p1
  · obtain ⟨a, ha, rfl⟩ := zz_nI (n := 4) (by decide) hc.1
    obtain ⟨b, hb, rfl⟩ := zz_nI (n := 4) (by decide) hc.2
    by_cases hab : a = b
    · subst hab
      exact zl_refuse h 2 ⟨by decide, by decide⟩ (zL_receipt_x2 l D A base 8 1 6 (by decide) _ _ x _ _ _ (fun _ _ q => zx_g0 q) (x + 96) (zX_receipt_x2 l D A base hl x z w τ a ha)) (fun w1 z1 => ⟨(nI 0).toInt64, 2, by omega, nI 0, rfl, zM_receipt_bad l D A base (x + 70) z1 w1 σ _ _ 2 (zc_w2 ha) (by decide) (by decide)⟩)
    · obtain ⟨g, b1, t, wd, an, lg, hl0⟩ := hB.2 (4 * a + b) (by omega)
      obtain ⟨k1, k2, k3, k4, k5⟩ := id hl0
      have ep : a * 4 + b = 4 * a + b := by omega
      have hl1 := (hl0.c (Nat.le_refl _) (fun k a1 a2 => zm_set_o (by omega)) (fun _ _ => rfl) : zl_l _ (zm_f σ 0) τ _ _ _ _ _ _ _)
      by_cases h0 : an = 0
      · have e : zo_receipt σ (4 * a + b) b1 = (zm_f σ 0, -1) := by unfold zo_receipt; rw [k3.2.2.2.2.1, if_pos h0, if_pos (by decide)]
        refine zl_answer (v := w) (z' := z) (τ' := τ) (σ' := zm_f σ 0) (mc := 0) (ms := 0) (d := 2) (r := (-1).toInt64) h (fun _ _ _ => rfl) ⟨by omega, by omega, by omega⟩ (zL_receipt l D A base 2 0 0 (by decide) _ _ x _ _ _ (fun _ _ q => zx_g0 q) (x + 96) (-1) fo (zl_P1 A x (w) (z) (τ) fo (-1).toInt64) (zl_oa hfo (rfl)) zl_P1.of (zX_receipt0 l D A base x z w τ a b ha hb hab (by rw [ep, k1.2.2.2.2, h0]; rfl))) zl_P1.ok (fun w1 z1 => ⟨-1, rfl, (by have q := zM_receipt l D A base (x + 70) z1 w1 σ a b ha hb hab b1 k2.1 k3.2.1; rw [e] at q; exact q)⟩) (zm_set_s) (R0) (by omega)
      · obtain ⟨s1, s2⟩ := zl_receipt R0 (by omega) (by omega) hl1 h0
        have e0 : (zm_f σ 0).1 19 (4 * a + b) = σ.1 19 (4 * a + b) := by rw [zm_f, zm_set_o (by decide)]
        rw [e0] at s1 s2
        have e : zo_receipt σ (4 * a + b) b1 = (zm_set (zm_rcp (zm_set (zm_f σ 0) 19 (4 * a + b) (-1)) (4 * a + b) (σ.1 19 (4 * a + b)) b1).1 16 (4 * a + b) (nI (zm_rcp (zm_set (zm_f σ 0) 19 (4 * a + b) (-1)) (4 * a + b) (σ.1 19 (4 * a + b)) b1).2), nI b1 - nI (zm_rcp (zm_set (zm_f σ 0) 19 (4 * a + b) (-1)) (4 * a + b) (σ.1 19 (4 * a + b)) b1).2) := by unfold zo_receipt; rw [if_neg (by rw [k3.2.2.2.2.1, if_neg h0]; exact nI_pos (by omega))]
        have h25 : ∀ i, (zm_rcp (zm_set (zm_f σ 0) 19 (4 * a + b) (-1)) (4 * a + b) (σ.1 19 (4 * a + b)) i).1.1 25 = (zm_f σ 0).1 25 := fun i => by
          induction i with
          | zero => rfl
          | succ i ih =>
            rw [zm_rcp]
            split
            · dsimp only
              rw [zm_set_o (by decide), zm_set_o (by decide), zm_set_o (by decide)]; exact ih
            · exact ih
        refine zl_answer (v := w) (z' := z) (τ' := zx_rem (zxI τ (22 + 3 * (a * 4 + b)) 6 (nI 0)) (a * 4 + b) ((τ (22 + 3 * (a * 4 + b))).1 6)) (σ' := zm_set (zm_rcp (zm_set (zm_f σ 0) 19 (4 * a + b) (-1)) (4 * a + b) (σ.1 19 (4 * a + b)) b1).1 16 (4 * a + b) (nI (zm_rcp (zm_set (zm_f σ 0) 19 (4 * a + b) (-1)) (4 * a + b) (σ.1 19 (4 * a + b)) b1).2)) (mc := 0) (ms := 0) (d := 2) (r := ((τ (22 + 3 * (a * 4 + b))).1 6 - (zxI τ (22 + 3 * (a * 4 + b)) 6 (nI 0) (22 + 3 * (a * 4 + b))).1 2).toInt64) h (fun _ _ _ => rfl) ⟨by omega, by omega, by omega⟩ (zL_receipt l D A base 2 0 0 (by decide) _ _ x _ _ _ (fun _ _ q => zx_g0 q) (x + 96) ((τ (22 + 3 * (a * 4 + b))).1 6 - (zxI τ (22 + 3 * (a * 4 + b)) 6 (nI 0) (22 + 3 * (a * 4 + b))).1 2) fo (zl_P1 A x (w) (z) (zx_rem (zxI τ (22 + 3 * (a * 4 + b)) 6 (nI 0)) (a * 4 + b) ((τ (22 + 3 * (a * 4 + b))).1 6)) fo ((τ (22 + 3 * (a * 4 + b))).1 6 - (zxI τ (22 + 3 * (a * 4 + b)) 6 (nI 0) (22 + 3 * (a * 4 + b))).1 2).toInt64) (zl_oa hfo (rfl)) zl_P1.of (zX_receipt l D A base x z w τ a b ha hb hab (by rw [ep, k1.2.2.2.2]; exact nI_ne0 (by omega) (by omega)))) zl_P1.ok (fun w1 z1 => ⟨nI b1 - nI (zm_rcp (zm_set (zm_f σ 0) 19 (4 * a + b) (-1)) (4 * a + b) (σ.1 19 (4 * a + b)) b1).2, by rw [ep, s2], (by have q := zM_receipt l D A base (x + 70) z1 w1 σ a b ha hb hab b1 k2.1 k3.2.1; rw [e] at q; exact q)⟩) (by rw [zm_set_o (by decide), h25]; exact zm_set_s) (by rw [ep]; exact s1) (by omega)
  · exact zl_refuse h 1 ⟨by decide, by decide⟩ (zL_receipt_x1 l D A base 8 1 6 (by decide) _ _ x _ _ _ (fun _ _ q => zx_g0 q) (x + 96) (zX_receipt_x1 l D A base hl x z w τ p0 p1 hc)) (fun w1 z1 => ⟨(nI 0).toInt64, 2, by omega, nI 0, rfl, zM_receipt_bad l D A base (x + 70) z1 w1 σ _ _ 1 (zc_w1 hc) (by decide) (by decide)⟩)
theorem zO_arrive (l : Launch) (D : va_G) (A : Nat → ClassId) (base : Nat) (hl : l.stackTraces = false) {x n : Nat} {σ : zm_S} {τ : zx_S} {w : zg_w} {z : Nat} (h : zl_I A x n σ τ w z) (hn : 4 * (n + 1) < 2 ^ 30) (p0 p1 : Int32) : zl_Out A x n w z (zl_XW_arrive l D A base x p0 p1) (zl_MM_arrive l D A base x p0 p1) := by
  obtain ⟨fo, hfo⟩ := h.2.2.1
  have R0 := h.2.2.2.f 0
  obtain ⟨T, hd, ⟨hA, hT, hB, hY⟩, hh⟩ := id h.2.2.2
  by_cases hc : zz4 p0 ∧ zz4 p1
  · obtain ⟨a, ha, rfl⟩ := zz_nI (n := 4) (by decide) hc.1
    obtain ⟨b, hb, rfl⟩ := zz_nI (n := 4) (by decide) hc.2
    by_cases hab : a = b
    · subst hab
      exact zl_refuse h 2 ⟨by decide, by decide⟩ (zL_arrive_x2 l D A base 8 1 6 (by decide) _ _ x _ _ _ (fun _ _ q => zx_g0 q) (x + 96) (zX_arrive_x2 l D A base hl x z w τ a ha)) (fun w1 z1 => ⟨(nI 0).toInt64, 2, by omega, nI 0, rfl, zM_arrive_bad l D A base (x + 70) z1 w1 σ _ _ 2 (zc_w2 ha) (by decide) (by decide)⟩)
    · obtain ⟨g, b1, t, wd, an, lg, hl0⟩ := hB.2 (4 * a + b) (by omega)
      obtain ⟨k1, k2, k3, k4, k5⟩ := id hl0
      have ep : a * 4 + b = 4 * a + b := by omega
      have hl1 := (hl0.c (Nat.le_refl _) (fun k a1 a2 => zm_set_o (by omega)) (fun _ _ => rfl) : zl_l _ (zm_f σ 0) τ _ _ _ _ _ _ _)
      by_cases h0 : wd = 0
      · have e : zo_arrive σ (4 * a + b) b lg T (hd b) = (zm_f σ 0, -1) := by unfold zo_arrive; rw [if_pos (by rw [k3.2.2.1, h0]; rfl)]
        refine zl_answer (v := w) (z' := z) (τ' := τ) (σ' := zm_f σ 0) (mc := 0) (ms := 0) (d := 4) (r := (-1).toInt64) h (fun _ _ _ => rfl) ⟨by omega, by omega, by omega⟩ (zL_arrive l D A base 2 0 0 (by decide) _ _ x _ _ _ (fun _ _ q => zx_g0 q) (x + 96) (-1) fo (zl_P1 A x (w) (z) (τ) fo (-1).toInt64) (zl_oa hfo (rfl)) zl_P1.of (zX_arrive0 l D A base x z w τ a b ha hb hab (by rw [ep, k1.2.2.2.1, h0]; rfl))) zl_P1.ok (fun w1 z1 => ⟨-1, rfl, (by have q := zM_arrive l D A base (x + 70) z1 w1 σ a b ha hb hab lg T (hd b) k2.2.2.2.2.2.2.2.2 hT.1 (hh b hb).1 hT.2.2.1 k3.2.2.2.2.2 (hh b hb).2.2 (zl_hp hY hb); rw [e] at q; exact q)⟩) (zm_set_s) (R0) (by omega)
      · obtain ⟨R1, hl2⟩ := zl_wd0 R0 (by omega) hl1
        have n0 : ¬ σ.1 17 (4 * a + b) = 0 := by rw [k3.2.2.1]; exact nI_ne0 (by omega) (by omega)
        have n1 : ¬ (τ (22 + 3 * (a * 4 + b))).1 5 = 0 := by rw [ep, k1.2.2.2.1]; exact nI_ne0 (by omega) (by omega)
        by_cases h1 : wd = t + 1
        · have c1 : σ.1 17 (4 * a + b) = σ.1 18 (4 * a + b) + nI 1 := by rw [k3.2.2.1, k3.2.2.2.1, nI_add, h1]
          have c2 : (τ (22 + 3 * (a * 4 + b))).1 5 = (τ (22 + 3 * (a * 4 + b))).1 4 + nI 1 := by rw [ep, k1.2.2.2.1, k1.2.2.1, nI_add, h1]
          obtain ⟨q1, q2⟩ := k5 h1
          have hpl : (τ (22 + 3 * (4 * a + b) + 1)).1 ((t + 1) % 8) = nI lg := by rw [← q1]; exact k3.2.2.2.2.2
          obtain ⟨R2, hl3⟩ := zl_tak (b0 := b) (n := σ.1 24 (4 * a + b)) R1 (by omega) (by omega) hb hl2 (k2.2.2.2.2.2.1 h1) (by rw [zxI_o (by omega)]; exact hpl) (by rw [zxI_o (by omega)]; exact q2.symm)
          have et : zm_tak σ (4 * a + b) b lg = zm_set (zm_set (zm_set (zm_f σ 0) 17 (4 * a + b) (nI 0)) 18 (4 * a + b) (nI (t + 1))) 2 (16 * b + lg) ((zm_set (zm_set (zm_f σ 0) 17 (4 * a + b) (nI 0)) 18 (4 * a + b) (nI (t + 1))).1 2 (16 * b + lg) + σ.1 24 (4 * a + b)) := by unfold zm_tak; rw [k3.2.2.1, h1]
          rw [← et] at R2 hl3
          obtain ⟨T2, hd2, ⟨hA2, hT2, hB2, hY2⟩, hh2⟩ := id R2
          have eT : T2 = T := by
            have e1 := hT2.2.1
            rw [zx_tkn_o (by omega), zxI_o (by omega), hT.2.1] at e1
            exact ((nI_eq (by have := hT.1; omega) (by have := hT2.1; omega)).mp e1).symm
          subst eT
          have eh : hd2 b = hd b := by
            have e1 := (hh2 b hb).2.1
            rw [zx_tkn_o (by omega), zxI_o (by omega), (hh b hb).2.1] at e1
            exact ((nI_eq (by have := (hh b hb).1; omega) (by have := (hh2 b hb).1; omega)).mp e1).symm
          obtain ⟨Q, J, Fm, Pn, hQ⟩ := zl_wits hY2 hb
          rw [eh] at hQ
          obtain ⟨R3, es, el⟩ := zl_srv (had := hd b) (Nn := fun i => (zm_tak σ (4 * a + b) b lg).1 13 (6 * b + i)) ⟨hA2, hT2, hB2, hY2⟩ hh2 hb eh (fun i hi => (hQ i hi).1) (fun i hi => (hQ i hi).2) (fun _ _ => rfl)
          obtain ⟨g', b', t', wd', an', lg', hl4⟩ := zl_lane R3 (p := 4 * a + b) (by omega)
          have t0 : t' ≠ 0 := by
            have e1 := hl4.1.2.2.1
            rw [el _ (by omega), hl3.1.2.2.1] at e1
            have := (nI_eq (by omega) (by have := hl4.2.1; omega)).mp e1
            omega
          have R4 := zl_ans R3 (by omega) hl4 t0
          have e : zo_arrive σ (4 * a + b) b lg T2 (hd b) = (zm_set (zm_serve (zm_tak σ (4 * a + b) b lg) b T2 (hd b)) 19 (4 * a + b) ((zm_serve (zm_tak σ (4 * a + b) b lg) b T2 (hd b)).1 18 (4 * a + b)), nI (hd b - (zm_sv (zm_tak σ (4 * a + b) b lg) b T2 (hd b)).2)) := by unfold zo_arrive; rw [if_neg n0, if_pos c1]
          have hsz : x + 97 ≤ z := hY2.2.2.2.2
          have hvz := zx_sv_i (A := A) (v := w) (sz := z) (Q := Q) (J := J) (Fm := Fm) (Nn := fun i => (zm_tak σ (4 * a + b) b lg).1 13 (6 * b + i)) hb hT2.2.1 hT2.1 (hd b)
          have h25 : (zm_set (zm_serve (zm_tak σ (4 * a + b) b lg) b T2 (hd b)) 19 (4 * a + b) ((zm_serve (zm_tak σ (4 * a + b) b lg) b T2 (hd b)).1 18 (4 * a + b))).1 25 0 = nI 0 := by
            rw [zm_set_o (by decide), zm_serve, zm_set_o (by decide), zm_sv_25]
            unfold zm_tak
            rw [zm_set_o (by decide), zm_set_o (by decide), zm_set_o (by decide)]
            exact zm_set_s
          refine zl_answer (v := (zx_sv A (zx_tkn (zxI τ (22 + 3 * (a * 4 + b)) 5 (nI 0)) (a * 4 + b) b lg t (σ.1 24 (4 * a + b))) w b T2 z Q J Fm (fun i => (zm_tak σ (4 * a + b) b lg).1 13 (6 * b + i)) (hd b)).2.2) (z' := z + (hd b - (zx_sv A (zx_tkn (zxI τ (22 + 3 * (a * 4 + b)) 5 (nI 0)) (a * 4 + b) b lg t (σ.1 24 (4 * a + b))) w b T2 z Q J Fm (fun i => (zm_tak σ (4 * a + b) b lg).1 13 (6 * b + i)) (hd b)).2.1)) (τ' := zxI (zxI (zx_sv A (zx_tkn (zxI τ (22 + 3 * (a * 4 + b)) 5 (nI 0)) (a * 4 + b) b lg t (σ.1 24 (4 * a + b))) w b T2 z Q J Fm (fun i => (zm_tak σ (4 * a + b) b lg).1 13 (6 * b + i)) (hd b)).1 (10 + 3 * b) 2 (nI (zx_sv A (zx_tkn (zxI τ (22 + 3 * (a * 4 + b)) 5 (nI 0)) (a * 4 + b) b lg t (σ.1 24 (4 * a + b))) w b T2 z Q J Fm (fun i => (zm_tak σ (4 * a + b) b lg).1 13 (6 * b + i)) (hd b)).2.1)) (22 + 3 * (a * 4 + b)) 6 ((zxI (zx_sv A (zx_tkn (zxI τ (22 + 3 * (a * 4 + b)) 5 (nI 0)) (a * 4 + b) b lg t (σ.1 24 (4 * a + b))) w b T2 z Q J Fm (fun i => (zm_tak σ (4 * a + b) b lg).1 13 (6 * b + i)) (hd b)).1 (10 + 3 * b) 2 (nI (zx_sv A (zx_tkn (zxI τ (22 + 3 * (a * 4 + b)) 5 (nI 0)) (a * 4 + b) b lg t (σ.1 24 (4 * a + b))) w b T2 z Q J Fm (fun i => (zm_tak σ (4 * a + b) b lg).1 13 (6 * b + i)) (hd b)).2.1) (22 + 3 * (a * 4 + b))).1 4)) (σ' := zm_set (zm_serve (zm_tak σ (4 * a + b) b lg) b T2 (hd b)) 19 (4 * a + b) ((zm_serve (zm_tak σ (4 * a + b) b lg) b T2 (hd b)).1 18 (4 * a + b))) (mc := 6) (ms := 30) (d := 4) (r := (nI (hd b - (zx_sv A (zx_tkn (zxI τ (22 + 3 * (a * 4 + b)) 5 (nI 0)) (a * 4 + b) b lg t (σ.1 24 (4 * a + b))) w b T2 z Q J Fm (fun i => (zm_tak σ (4 * a + b) b lg).1 13 (6 * b + i)) (hd b)).2.1)).toInt64) h (by rw [ep]; intro q _ hq; exact hvz.2.2.2.2 q (by omega)) ⟨by omega, by omega, by omega⟩ (zL_arrive l D A base 5 6 30 (by decide) _ _ x _ _ _ (fun _ _ q => zx_g0 q) (x + 96) (nI (hd b - (zx_sv A (zx_tkn (zxI τ (22 + 3 * (a * 4 + b)) 5 (nI 0)) (a * 4 + b) b lg t (σ.1 24 (4 * a + b))) w b T2 z Q J Fm (fun i => (zm_tak σ (4 * a + b) b lg).1 13 (6 * b + i)) (hd b)).2.1)) fo (zl_P1 A x ((zx_sv A (zx_tkn (zxI τ (22 + 3 * (a * 4 + b)) 5 (nI 0)) (a * 4 + b) b lg t (σ.1 24 (4 * a + b))) w b T2 z Q J Fm (fun i => (zm_tak σ (4 * a + b) b lg).1 13 (6 * b + i)) (hd b)).2.2) (z + (hd b - (zx_sv A (zx_tkn (zxI τ (22 + 3 * (a * 4 + b)) 5 (nI 0)) (a * 4 + b) b lg t (σ.1 24 (4 * a + b))) w b T2 z Q J Fm (fun i => (zm_tak σ (4 * a + b) b lg).1 13 (6 * b + i)) (hd b)).2.1)) (zxI (zxI (zx_sv A (zx_tkn (zxI τ (22 + 3 * (a * 4 + b)) 5 (nI 0)) (a * 4 + b) b lg t (σ.1 24 (4 * a + b))) w b T2 z Q J Fm (fun i => (zm_tak σ (4 * a + b) b lg).1 13 (6 * b + i)) (hd b)).1 (10 + 3 * b) 2 (nI (zx_sv A (zx_tkn (zxI τ (22 + 3 * (a * 4 + b)) 5 (nI 0)) (a * 4 + b) b lg t (σ.1 24 (4 * a + b))) w b T2 z Q J Fm (fun i => (zm_tak σ (4 * a + b) b lg).1 13 (6 * b + i)) (hd b)).2.1)) (22 + 3 * (a * 4 + b)) 6 ((zxI (zx_sv A (zx_tkn (zxI τ (22 + 3 * (a * 4 + b)) 5 (nI 0)) (a * 4 + b) b lg t (σ.1 24 (4 * a + b))) w b T2 z Q J Fm (fun i => (zm_tak σ (4 * a + b) b lg).1 13 (6 * b + i)) (hd b)).1 (10 + 3 * b) 2 (nI (zx_sv A (zx_tkn (zxI τ (22 + 3 * (a * 4 + b)) 5 (nI 0)) (a * 4 + b) b lg t (σ.1 24 (4 * a + b))) w b T2 z Q J Fm (fun i => (zm_tak σ (4 * a + b) b lg).1 13 (6 * b + i)) (hd b)).2.1) (22 + 3 * (a * 4 + b))).1 4)) fo (nI (hd b - (zx_sv A (zx_tkn (zxI τ (22 + 3 * (a * 4 + b)) 5 (nI 0)) (a * 4 + b) b lg t (σ.1 24 (4 * a + b))) w b T2 z Q J Fm (fun i => (zm_tak σ (4 * a + b) b lg).1 13 (6 * b + i)) (hd b)).2.1)).toInt64) (zl_oa hfo (by rw [ep]; exact hvz.2.2.2.2 _ (by omega))) zl_P1.of (zX_arrive l D A base x z w τ a b ha hb hab t lg (hd b) T2 (σ.1 24 (4 * a + b)) n1 c2 k2.2.2.2.2.2.2.2.2 (by rw [ep]; exact k1.2.2.1) (by omega) (by rw [ep]; exact hpl) (by rw [ep]; exact q2.symm) (hh b hb).1 (hh b hb).2.1 hT.2.1 hT.1 (by omega) Q J Fm (fun i => nI (Pn i)) (fun i => (zm_tak σ (4 * a + b) b lg).1 13 (6 * b + i)) (fun i hi => by have q := (hQ i hi).1; rw [zx_tkn_o (by omega), zxI_o (by omega)] at q; exact q) (fun i hi => (hQ i hi).2.x))) zl_P1.ok (fun w1 z1 => ⟨nI (hd b - (zm_sv (zm_tak σ (4 * a + b) b lg) b T2 (hd b)).2), by rw [es, ep], (by have q := zM_arrive l D A base (x + 70) z1 w1 σ a b ha hb hab lg T2 (hd b) k2.2.2.2.2.2.2.2.2 hT.1 (hh b hb).1 hT.2.2.1 k3.2.2.2.2.2 (hh b hb).2.2 (zl_hp hY hb); rw [e] at q; exact q)⟩) (h25) (by rw [ep]; exact R4) (by omega)
        · have c1 : ¬ σ.1 17 (4 * a + b) = σ.1 18 (4 * a + b) + nI 1 := by rw [k3.2.2.1, k3.2.2.2.1, nI_add]; exact fun q => h1 ((nI_eq (by omega) (by omega)).mp q)
          have c2 : ¬ (τ (22 + 3 * (a * 4 + b))).1 5 = (τ (22 + 3 * (a * 4 + b))).1 4 + nI 1 := by rw [ep, k1.2.2.2.1, k1.2.2.1, nI_add]; exact fun q => h1 ((nI_eq (by omega) (by omega)).mp q)
          have R2 := zl_ans R1 (by omega) hl2 (by omega)
          have e0 : (zm_set (zm_f σ 0) 17 (4 * a + b) (nI 0)).1 18 (4 * a + b) = σ.1 18 (4 * a + b) := by rw [zm_set_o (by decide), zm_f, zm_set_o (by decide)]
          rw [e0] at R2
          have e : zo_arrive σ (4 * a + b) b lg T (hd b) = (zm_set (zm_set (zm_f σ 0) 17 (4 * a + b) (nI 0)) 19 (4 * a + b) (σ.1 18 (4 * a + b)), nI 0) := by unfold zo_arrive; rw [if_neg n0, if_neg c1]
          refine zl_answer (v := w) (z' := z) (τ' := zxI (zxI τ (22 + 3 * (a * 4 + b)) 5 (nI 0)) (22 + 3 * (a * 4 + b)) 6 ((zxI τ (22 + 3 * (a * 4 + b)) 5 (nI 0) (22 + 3 * (a * 4 + b))).1 4)) (σ' := zm_set (zm_set (zm_f σ 0) 17 (4 * a + b) (nI 0)) 19 (4 * a + b) (σ.1 18 (4 * a + b))) (mc := 0) (ms := 0) (d := 4) (r := (nI 0).toInt64) h (fun _ _ _ => rfl) ⟨by omega, by omega, by omega⟩ (zL_arrive l D A base 2 0 0 (by decide) _ _ x _ _ _ (fun _ _ q => zx_g0 q) (x + 96) (nI 0) fo (zl_P1 A x (w) (z) (zxI (zxI τ (22 + 3 * (a * 4 + b)) 5 (nI 0)) (22 + 3 * (a * 4 + b)) 6 ((zxI τ (22 + 3 * (a * 4 + b)) 5 (nI 0) (22 + 3 * (a * 4 + b))).1 4)) fo (nI 0).toInt64) (zl_oa hfo (rfl)) zl_P1.of (zX_arrive1 l D A base x z w τ a b ha hb hab n1 c2)) zl_P1.ok (fun w1 z1 => ⟨nI 0, rfl, (by have q := zM_arrive l D A base (x + 70) z1 w1 σ a b ha hb hab lg T (hd b) k2.2.2.2.2.2.2.2.2 hT.1 (hh b hb).1 hT.2.2.1 k3.2.2.2.2.2 (hh b hb).2.2 (zl_hp hY hb); rw [e] at q; exact q)⟩) (by rw [zm_set_o (by decide), zm_set_o (by decide)]; exact zm_set_s) (by rw [ep]; exact R2) (by omega)
  · exact zl_refuse h 1 ⟨by decide, by decide⟩ (zL_arrive_x1 l D A base 8 1 6 (by decide) _ _ x _ _ _ (fun _ _ q => zx_g0 q) (x + 96) (zX_arrive_x1 l D A base hl x z w τ p0 p1 hc)) (fun w1 z1 => ⟨(nI 0).toInt64, 2, by omega, nI 0, rfl, zM_arrive_bad l D A base (x + 70) z1 w1 σ _ _ 1 (zc_w1 hc) (by decide) (by decide)⟩)
