/-! each call, class beside reference (3) -/
theorem zl_ok_ne {x a q : Nat} (h : zl_ok x a) (h1 : x + 70 ≤ q) (h2 : q < x + 97) : q ≠ a := fun e => by
  have := h.2
  omega
theorem zl_R.T {m : Nat} {A : Nat → ClassId} {x z : Nat} {σ : zm_S} {τ : zx_S} {w : zg_w} {c : Nat} {T : Nat} {hd : Nat → Nat} (h : zl_C m A x σ τ w z T (fun p i => i < hd p)) : zl_C m A x (zm_f σ c) τ w z T (fun p i => i < hd p) := by
  obtain ⟨hA, hT, hB, hY⟩ := h
  have e : ∀ k, k ≠ 25 → (zm_f σ c).1 k = σ.1 k := fun k hk => zm_set_o hk
  have e1 : (zm_f σ c).1 25 1 = σ.1 25 1 := zm_set_n (by decide)
  have e2 : (zm_f σ c).1 25 2 = σ.1 25 2 := zm_set_n (by decide)
  exact ⟨hA.c (e 0 (by decide)) (e 1 (by decide)) (e 2 (by decide)) rfl rfl rfl (fun _ _ => rfl) (fun _ _ => rfl), hT.c (fun k hk => e k (by omega)) e2 rfl rfl, hB.c (Nat.le_refl _) (fun k _ _ => e k (by omega)) rfl (fun _ _ => rfl), hY.c (Nat.le_refl _) (fun _ _ _ => rfl) (fun k hk => e k (by omega)) e1 rfl rfl rfl (fun _ _ => rfl)⟩
theorem zm_f_o {σ : zm_S} {c k : Nat} (h : k ≠ 25) : (zm_f σ c).1 k = σ.1 k := zm_set_o h
theorem zO_price (l : Launch) (D : va_G) (A : Nat → ClassId) (base : Nat) (hl : l.stackTraces = false) {x n : Nat} {σ : zm_S} {τ : zx_S} {w : zg_w} {z : Nat} (h : zl_I A x n σ τ w z) (hn : 4 * (n + 1) < 2 ^ 30) (p0 : Int32) : zl_Out A x n w z (zl_XW_price l D A base x p0) (zl_MM_price l D A base x p0) := by
  obtain ⟨fo, hfo⟩ := h.2.2.1
  have R0 := h.2.2.2.f 0
  obtain ⟨T, hd, ⟨hA, hT, hB, hY⟩, hh⟩ := id h.2.2.2
  have eT : σ.1 25 2 = (τ 0).1 7 := by rw [hT.2.1, hT.2.2.1]
  by_cases hc : ¬ p0 < 0 ∧ ¬ (τ 0).1 7 ≤ p0
  · obtain ⟨t, ht, rfl⟩ := zz_nI (n := T) (by have := hT.1; omega) (by rw [hT.2.1] at hc; exact hc)
    obtain ⟨q, j, f, pn, port, hq, hk⟩ := hY.2.2.1 t ht
    obtain ⟨g1, g2, g3, g4, g5, g6, g7, g8, g9⟩ := id hk
    have hk' : zx_K A x w q (nI port) (σ.1 7 t) j (σ.2 9 t) (if σ.1 10 t = 0 then nI 1 else nI 0) := ⟨g1.1, g3⟩
    refine zl_answer (v := w) (z' := z) (τ' := τ) (σ' := zm_f σ 0) (mc := 0) (ms := 0) (d := 1) (r := (σ.2 9 t)) h (fun _ _ _ => rfl) ⟨by omega, by omega, by omega⟩ (zL_price l D A base 1 0 0 (by decide) _ _ x _ _ (fun _ _ q => zx_g0 q) (x + 96) (σ.2 9 t) fo (zl_P1 A x (w) (z) (τ) fo (σ.2 9 t)) (zl_oa hfo (rfl)) zl_P1.of (zX_price l D A base x z w τ t T q ht hT.1 hT.2.1 hq (nI port) (σ.1 7 t) _ j (σ.2 9 t) hk')) zl_P1.ok (fun w1 z1 => zM_price l D A base (x + 70) z1 w1 σ t T ht hT.1 hT.2.2.1) (zm_set_s) (R0) (by omega)
  · exact zl_refuse h 1 ⟨by decide, by decide⟩ (zL_price_x1 l D A base 7 1 6 (by decide) _ _ x _ _ (fun _ _ q => zx_g0 q) (x + 96) (zX_price_x1 l D A base hl x z w τ p0 hc)) (fun w1 z1 => ⟨0, 1, by omega, zM_price_bad l D A base (x + 70) z1 w1 σ p0 (by rw [eT]; exact hc)⟩)
theorem zO_ticket (l : Launch) (D : va_G) (A : Nat → ClassId) (base : Nat) (hl : l.stackTraces = false) {x n : Nat} {σ : zm_S} {τ : zx_S} {w : zg_w} {z : Nat} (h : zl_I A x n σ τ w z) (hn : 4 * (n + 1) < 2 ^ 30) (p0 p1 : Int32) : zl_Out A x n w z (zl_XW_ticket l D A base x p0 p1) (zl_MM_ticket l D A base x p0 p1) := by
  obtain ⟨fo, hfo⟩ := h.2.2.1
  have R0 := h.2.2.2.f 0
  obtain ⟨T, hd, ⟨hA, hT, hB, hY⟩, hh⟩ := id h.2.2.2
  have eT : σ.1 25 2 = (τ 0).1 7 := by rw [hT.2.1, hT.2.2.1]
  by_cases hc : ¬ p0 < 0 ∧ ¬ (τ 0).1 7 ≤ p0
  · obtain ⟨t, ht, rfl⟩ := zz_nI (n := T) (by have := hT.1; omega) (by rw [hT.2.1] at hc; exact hc)
    obtain ⟨q, j, f, pn, port, hq, hk⟩ := hY.2.2.1 t ht
    obtain ⟨g1, g2, g3, g4, g5, g6, g7, g8, g9⟩ := id hk
    have hk' : zx_K A x w q (nI port) (σ.1 7 t) j (σ.2 9 t) (if σ.1 10 t = 0 then nI 1 else nI 0) := ⟨g1.1, g3⟩
    by_cases h2 : p1 < 0 ∨ nI 3 < p1
    · have ec : zc_ticket p1 = 2 := if_pos h2
      have er : zr_ticket σ t p1 = nI 0 := by unfold zr_ticket; rw [ec, if_neg (by decide)]
      exact zl_refuse h 2 ⟨by decide, by decide⟩ (zL_ticket_x2 l D A base 7 1 6 (by decide) _ _ x _ _ _ (fun _ _ q => zx_g0 q) (x + 96) (zX_ticket_x2 l D A base hl x z w τ t T q ht hT.1 hT.2.1 hq (nI port) (σ.1 7 t) _ j (σ.2 9 t) hk' p1 h2)) (fun w1 z1 => ⟨(nI 0).toInt64, 1, by omega, nI 0, rfl, (by have q := zM_ticket l D A base (x + 70) z1 w1 σ t T p1 ht hT.1 hT.2.2.1; rw [er, ec] at q; exact q)⟩)
    · have ec : zc_ticket p1 = 0 := if_neg h2
      have er : zr_ticket σ t p1 = (if p1 = 0 then nI port else if p1 = nI 1 then σ.1 7 t else if p1 = nI 2 then nI pn else if (if σ.1 10 t = 0 then nI 1 else nI 0) = 0 then nI 1 else nI 0) := by
        unfold zr_ticket
        rw [if_pos ec, g6, g7]
        by_cases e1 : σ.1 10 t = 0
        · simp only [e1, if_true]; rfl
        · simp only [e1, if_false]; rfl
      refine zl_answer (v := w) (z' := z) (τ' := τ) (σ' := zm_f σ 0) (mc := 0) (ms := 0) (d := 1) (r := (if p1 = 0 then nI port else if p1 = nI 1 then σ.1 7 t else if p1 = nI 2 then nI pn else if (if σ.1 10 t = 0 then nI 1 else nI 0) = 0 then nI 1 else nI 0).toInt64) h (fun _ _ _ => rfl) ⟨by omega, by omega, by omega⟩ (zL_ticket l D A base 1 0 0 (by decide) _ _ x _ _ _ (fun _ _ q => zx_g0 q) (x + 96) (if p1 = 0 then nI port else if p1 = nI 1 then σ.1 7 t else if p1 = nI 2 then nI pn else if (if σ.1 10 t = 0 then nI 1 else nI 0) = 0 then nI 1 else nI 0) fo (zl_P1 A x (w) (z) (τ) fo (if p1 = 0 then nI port else if p1 = nI 1 then σ.1 7 t else if p1 = nI 2 then nI pn else if (if σ.1 10 t = 0 then nI 1 else nI 0) = 0 then nI 1 else nI 0).toInt64) (zl_oa hfo (rfl)) zl_P1.of (zX_ticket l D A base x z w τ t T q ht hT.1 hT.2.1 hq (nI port) (σ.1 7 t) _ j (σ.2 9 t) hk' f (nI pn) g4.1 p1 (fun q => h2 (Or.inl q)) (fun q => h2 (Or.inr q)))) zl_P1.ok (fun w1 z1 => ⟨if p1 = 0 then nI port else if p1 = nI 1 then σ.1 7 t else if p1 = nI 2 then nI pn else if (if σ.1 10 t = 0 then nI 1 else nI 0) = 0 then nI 1 else nI 0, rfl, (by have q := zM_ticket l D A base (x + 70) z1 w1 σ t T p1 ht hT.1 hT.2.2.1; rw [er, ec] at q; exact q)⟩) (zm_set_s) (R0) (by omega)
  · exact zl_refuse h 1 ⟨by decide, by decide⟩ (zL_ticket_x1 l D A base 7 1 6 (by decide) _ _ x _ _ _ (fun _ _ q => zx_g0 q) (x + 96) (zX_ticket_x1 l D A base hl x z w τ p0 p1 hc)) (fun w1 z1 => ⟨(nI 0).toInt64, 1, by omega, nI 0, rfl, zM_ticket_bad l D A base (x + 70) z1 w1 σ p0 p1 (by rw [eT]; exact hc)⟩)
theorem zO_cancel (l : Launch) (D : va_G) (A : Nat → ClassId) (base : Nat) (hl : l.stackTraces = false) {x n : Nat} {σ : zm_S} {τ : zx_S} {w : zg_w} {z : Nat} (h : zl_I A x n σ τ w z) (hn : 4 * (n + 1) < 2 ^ 30) (p0 : Int32) : zl_Out A x n w z (zl_XW_cancel l D A base x p0) (zl_MM_cancel l D A base x p0) := by
  obtain ⟨fo, hfo⟩ := h.2.2.1
  have R0 := h.2.2.2.f 0
  obtain ⟨T, hd, ⟨hA, hT, hB, hY⟩, hh⟩ := id h.2.2.2
  have eT : σ.1 25 2 = (τ 0).1 7 := by rw [hT.2.1, hT.2.2.1]
  by_cases hc : ¬ p0 < 0 ∧ ¬ (τ 0).1 7 ≤ p0
  · obtain ⟨t, ht, rfl⟩ := zz_nI (n := T) (by have := hT.1; omega) (by rw [hT.2.1] at hc; exact hc)
    obtain ⟨q, j, f, pn, port, hq, hk⟩ := hY.2.2.1 t ht
    obtain ⟨g1, g2, g3, g4, g5, g6, g7, g8, g9⟩ := id hk
    have hk' : zx_K A x w q (nI port) (σ.1 7 t) j (σ.2 9 t) (if σ.1 10 t = 0 then nI 1 else nI 0) := ⟨g1.1, g3⟩
    by_cases h10 : σ.1 10 t = 0
    · have e : zo_cancel σ T t port pn (hd port) = (zm_f σ 2, nI 0) := by unfold zo_cancel; rw [if_pos h10]
      exact zl_refuse h 2 ⟨by decide, by decide⟩ (zL_cancel_x2 l D A base 7 1 6 (by decide) _ _ x _ _ (fun _ _ q => zx_g0 q) (x + 96) (zX_cancel_x2 l D A base hl x z w τ t T q ht hT.1 hT.2.1 hq (nI port) (σ.1 7 t) _ j (σ.2 9 t) hk' (by rw [if_pos h10]; decide))) (fun w1 z1 => ⟨(nI 0).toInt64, 4, by omega, nI 0, rfl, (by have q := zM_cancel l D A base (x + 70) z1 w1 σ t T port pn (hd port) ht hT.1 hT.2.2.1 g5 g4.2.2.2.2 (hh port g5).1 g6 g7 (hh port g5).2.2 (zl_hp hY g5); rw [e] at q; exact q)⟩)
    · rw [if_neg h10] at hk'
      have C0 := zl_R.T (c := 0) ⟨hA, hT, hB, hY⟩
      have hk0 : zl_K A x (zm_f σ 0) w z (τ 0).2.2.2 t q j f pn port := hk.c (Nat.le_refl _) g9 rfl rfl rfl (fun k hk => by rw [zm_f_o (by omega)]) rfl (fun o _ k hk => by rw [zm_f_o (by omega)])
      have C1 := zl_cnc C0 ht hq hk0 (by rw [zm_f_o (by decide)]; exact h10)
      have e7 : (zm_f σ 0).1 7 t = σ.1 7 t := by rw [zm_f_o (by decide)]
      have e9 : (zm_f σ 0).2 9 t = σ.2 9 t := rfl
      rw [e7, e9] at C1
      have ec : zm_cnc σ t port pn = zm_setL (zm_give (zm_set (zm_f σ 0) 10 t (nI 0)) port (4 + 4 * t) pn (σ.1 7 t) 16) 11 port ((zm_give (zm_set (zm_f σ 0) 10 t (nI 0)) port (4 + 4 * t) pn (σ.1 7 t) 16).2 11 port - (zm_give (zm_set (zm_f σ 0) 10 t (nI 0)) port (4 + 4 * t) pn (σ.1 7 t) 16).2 9 t) := rfl
      rw [← ec] at C1
      have h12 : ∀ p, p < 4 → hd p ≤ 6 ∧ (zx_cnc τ port f (σ.1 7 t) (σ.2 9 t) (10 + 3 * p)).1 2 = nI (hd p) ∧ (zm_cnc σ t port pn).1 12 p = nI (hd p) := fun p hp => by
        have e1 : (zm_cnc σ t port pn).1 12 p = σ.1 12 p := by
          rw [ec, zm_atL1, zm_give_o (by decide), zm_set_o (by decide), zm_f_o (by decide)]
        have e2 : (zx_cnc τ port f (σ.1 7 t) (σ.2 9 t) (10 + 3 * p)).1 2 = (τ (10 + 3 * p)).1 2 := by
          unfold zx_cnc
          rw [zxT_1, zx_mov_o ⟨by omega, by omega⟩]
        rw [e1, e2]
        exact hh p hp
      obtain ⟨Q, J, Fm, Pn, hQ⟩ := zl_wits C1.2.2.2 g5
      obtain ⟨R3, es, el⟩ := zl_srv (Nn := fun i => (zm_cnc σ t port pn).1 13 (6 * port + i)) C1 h12 g5 rfl (fun i hi => (hQ i hi).1) (fun i hi => (hQ i hi).2) (fun _ _ => rfl)
      have e : zo_cancel σ T t port pn (hd port) = (zm_serve (zm_cnc σ t port pn) port T (hd port), nI (hd port - (zm_sv (zm_cnc σ t port pn) port T (hd port)).2)) := by unfold zo_cancel; rw [if_neg h10]
      have hsz : x + 97 ≤ z := hY.2.2.2.2
      have hvz := zx_sv_i (A := A) (v := zx_cv w q port j (σ.1 7 t) (σ.2 9 t)) (sz := z) (Q := Q) (J := J) (Fm := Fm) (Nn := fun i => (zm_cnc σ t port pn).1 13 (6 * port + i)) g5 C1.2.1.2.1 hT.1 (hd port)
      have hvw : ∀ a, x + 70 ≤ a → a < x + 97 → (zx_sv A (zx_cnc τ port f (σ.1 7 t) (σ.2 9 t)) (zx_cv w q port j (σ.1 7 t) (σ.2 9 t)) port T z Q J Fm (fun i => (zm_cnc σ t port pn).1 13 (6 * port + i)) (hd port)).2.2 a = w a := fun a a1 a2 => by
        rw [hvz.2.2.2.2 a (by omega)]
        unfold zx_cv
        exact zg_un (zl_ok_ne g1 a1 a2)
      have h25 : (zm_serve (zm_cnc σ t port pn) port T (hd port)).1 25 0 = nI 0 := by
        rw [zm_serve, zm_set_o (by decide), zm_sv_25, ec, zm_atL1, zm_give_o (by decide), zm_set_o (by decide)]
        exact zm_set_s
      refine zl_answer (v := (zx_sv A (zx_cnc τ port f (σ.1 7 t) (σ.2 9 t)) (zx_cv w q port j (σ.1 7 t) (σ.2 9 t)) port T z Q J Fm (fun i => (zm_cnc σ t port pn).1 13 (6 * port + i)) (hd port)).2.2) (z' := z + (hd port - (zx_sv A (zx_cnc τ port f (σ.1 7 t) (σ.2 9 t)) (zx_cv w q port j (σ.1 7 t) (σ.2 9 t)) port T z Q J Fm (fun i => (zm_cnc σ t port pn).1 13 (6 * port + i)) (hd port)).2.1)) (τ' := zxI (zx_sv A (zx_cnc τ port f (σ.1 7 t) (σ.2 9 t)) (zx_cv w q port j (σ.1 7 t) (σ.2 9 t)) port T z Q J Fm (fun i => (zm_cnc σ t port pn).1 13 (6 * port + i)) (hd port)).1 (10 + 3 * port) 2 (nI (zx_sv A (zx_cnc τ port f (σ.1 7 t) (σ.2 9 t)) (zx_cv w q port j (σ.1 7 t) (σ.2 9 t)) port T z Q J Fm (fun i => (zm_cnc σ t port pn).1 13 (6 * port + i)) (hd port)).2.1)) (σ' := zm_serve (zm_cnc σ t port pn) port T (hd port)) (mc := 6) (ms := 30) (d := 4) (r := (nI (hd port - (zx_sv A (zx_cnc τ port f (σ.1 7 t) (σ.2 9 t)) (zx_cv w q port j (σ.1 7 t) (σ.2 9 t)) port T z Q J Fm (fun i => (zm_cnc σ t port pn).1 13 (6 * port + i)) (hd port)).2.1)).toInt64) h (fun a a1 a2 => hvw a a1 (by omega)) ⟨by omega, by omega, by omega⟩ (zL_cancel l D A base 4 6 30 (by decide) _ _ x _ _ (fun _ _ q => zx_g0 q) (x + 96) (nI (hd port - (zx_sv A (zx_cnc τ port f (σ.1 7 t) (σ.2 9 t)) (zx_cv w q port j (σ.1 7 t) (σ.2 9 t)) port T z Q J Fm (fun i => (zm_cnc σ t port pn).1 13 (6 * port + i)) (hd port)).2.1)) fo (zl_P1 A x ((zx_sv A (zx_cnc τ port f (σ.1 7 t) (σ.2 9 t)) (zx_cv w q port j (σ.1 7 t) (σ.2 9 t)) port T z Q J Fm (fun i => (zm_cnc σ t port pn).1 13 (6 * port + i)) (hd port)).2.2) (z + (hd port - (zx_sv A (zx_cnc τ port f (σ.1 7 t) (σ.2 9 t)) (zx_cv w q port j (σ.1 7 t) (σ.2 9 t)) port T z Q J Fm (fun i => (zm_cnc σ t port pn).1 13 (6 * port + i)) (hd port)).2.1)) (zxI (zx_sv A (zx_cnc τ port f (σ.1 7 t) (σ.2 9 t)) (zx_cv w q port j (σ.1 7 t) (σ.2 9 t)) port T z Q J Fm (fun i => (zm_cnc σ t port pn).1 13 (6 * port + i)) (hd port)).1 (10 + 3 * port) 2 (nI (zx_sv A (zx_cnc τ port f (σ.1 7 t) (σ.2 9 t)) (zx_cv w q port j (σ.1 7 t) (σ.2 9 t)) port T z Q J Fm (fun i => (zm_cnc σ t port pn).1 13 (6 * port + i)) (hd port)).2.1)) fo (nI (hd port - (zx_sv A (zx_cnc τ port f (σ.1 7 t) (σ.2 9 t)) (zx_cv w q port j (σ.1 7 t) (σ.2 9 t)) port T z Q J Fm (fun i => (zm_cnc σ t port pn).1 13 (6 * port + i)) (hd port)).2.1)).toInt64) (zl_oa hfo (hvw _ (by omega) (by omega))) zl_P1.of (zX_cancel l D A base x z w τ t T q ht hT.1 hT.2.1 hq port (hd port) j (σ.1 7 t) (σ.2 9 t) f (nI pn) g5 (hh port g5).1 (hh port g5).2.1 hk' g4.1 ⟨zl_ne g3 g4.1.2.2.1 (by simp), zl_ne g3 g4.1.2.2.2 (by simp)⟩ (by omega) Q J Fm (fun i => nI (Pn i)) (fun i => (zm_cnc σ t port pn).1 13 (6 * port + i)) (fun i hi => by have q := (hQ i hi).1; unfold zx_cnc at q; rw [zxT_22, zx_mov_2] at q; exact q) (fun i hi => (hQ i hi).2.x))) zl_P1.ok (fun w1 z1 => ⟨nI (hd port - (zm_sv (zm_cnc σ t port pn) port T (hd port)).2), by rw [es], (by have q := zM_cancel l D A base (x + 70) z1 w1 σ t T port pn (hd port) ht hT.1 hT.2.2.1 g5 g4.2.2.2.2 (hh port g5).1 g6 g7 (hh port g5).2.2 (zl_hp hY g5); rw [e] at q; exact q)⟩) (h25) (R3) (by omega)
  · exact zl_refuse h 1 ⟨by decide, by decide⟩ (zL_cancel_x1 l D A base 7 1 6 (by decide) _ _ x _ _ (fun _ _ q => zx_g0 q) (x + 96) (zX_cancel_x1 l D A base hl x z w τ p0 hc)) (fun w1 z1 => ⟨(nI 0).toInt64, 1, by omega, nI 0, rfl, zM_cancel_bad l D A base (x + 70) z1 w1 σ p0 (by rw [eT]; exact hc)⟩)
theorem zO_part (l : Launch) (D : va_G) (A : Nat → ClassId) (base : Nat) (hl : l.stackTraces = false) {x n : Nat} {σ : zm_S} {τ : zx_S} {w : zg_w} {z : Nat} (h : zl_I A x n σ τ w z) (hn : 4 * (n + 1) < 2 ^ 30) (p0 p1 p2 : Int32) : zl_Out A x n w z (zl_XW_part l D A base x p0 p1 p2) (zl_MM_part l D A base x p0 p1 p2) := by
  obtain ⟨fo, hfo⟩ := h.2.2.1
  have R0 := h.2.2.2.f 0
  obtain ⟨T, hd, ⟨hA, hT, hB, hY⟩, hh⟩ := id h.2.2.2
  obtain ⟨d, f, hD⟩ := hY.1
  have hd4 := hD.1.2.2.2.2
  have hD0 : zl_D A x (zm_f σ 0) w z (τ 0).2.2.2 d f := hD.c (Nat.le_refl _) rfl rfl (zm_set_n (by decide)) (fun i _ k hk => by rw [zm_f_o (by omega)])
  by_cases hc : zz4 p0 ∧ (¬ p1 < 0 ∧ ¬ nI 5 ≤ p1) ∧ (¬ p2 < 0 ∧ ¬ nI 5 ≤ p2)
  · obtain ⟨s, hs, rfl⟩ := zz_nI (n := 4) (by decide) hc.1
    obtain ⟨a, ha, rfl⟩ := zz_nI (n := 5) (by decide) hc.2.1
    obtain ⟨b, hb, rfl⟩ := zz_nI (n := 5) (by decide) hc.2.2
    by_cases h2 : b ≤ a
    · have ec : zc_part σ s d a b = 2 := if_pos h2
      have e1 : zm_part σ s d a b = zm_f σ 2 := by unfold zm_part; rw [ec, if_neg (by decide)]
      have e2 : zr_part σ s d a b = 0 := by unfold zr_part; rw [ec, if_neg (by decide)]
      exact zl_refuse h 2 ⟨by decide, by decide⟩ (zL_part_x2 l D A base 7 1 6 (by decide) _ _ x _ _ _ _ (fun _ _ q => zx_g0 q) (x + 96) (zX_part_x2 l D A base hl x z w τ s a b hs ha hb h2)) (fun w1 z1 => ⟨(nI 0).toInt64, 1, by omega, nI 0, rfl, (by have q := zM_part l D A base (x + 70) z1 w1 σ s d a b hs ha hb hd4 hD.2.1; rw [e1, e2] at q; exact q)⟩)
    · by_cases h3 : (τ 1).1 s = 0
      · have ec : zc_part σ s d a b = 3 := by unfold zc_part; rw [if_neg h2, if_pos (Or.inl (by rw [← hA.1 s hs]; exact h3))]
        have e1 : zm_part σ s d a b = zm_f σ 3 := by unfold zm_part; rw [ec, if_neg (by decide)]
        have e2 : zr_part σ s d a b = 0 := by unfold zr_part; rw [ec, if_neg (by decide)]
        exact zl_refuse h 3 ⟨by decide, by decide⟩ (zL_part_x3 l D A base 7 1 6 (by decide) _ _ x _ _ _ _ (fun _ _ q => zx_g0 q) (x + 96) (zX_part_x3 l D A base hl x z w τ s a b hs ha hb (by omega) h3)) (fun w1 z1 => ⟨(nI 0).toInt64, 1, by omega, nI 0, rfl, (by have q := zM_part l D A base (x + 70) z1 w1 σ s d a b hs ha hb hd4 hD.2.1; rw [e1, e2] at q; exact q)⟩)
      · by_cases h4 : d = 4
        · have ec : zc_part σ s d a b = 3 := by unfold zc_part; rw [if_neg h2, if_pos (Or.inr h4)]
          have e1 : zm_part σ s d a b = zm_f σ 3 := by unfold zm_part; rw [ec, if_neg (by decide)]
          have e2 : zr_part σ s d a b = 0 := by unfold zr_part; rw [ec, if_neg (by decide)]
          exact zl_refuse h 3 ⟨by decide, by decide⟩ (zL_part_x3 l D A base 7 1 6 (by decide) _ _ x _ _ _ _ (fun _ _ q => zx_g0 q) (x + 96) (zX_part_x4 l D A base hl x z w τ s a b hs ha hb f (by omega) h3 (by have q := hD.1.1; rw [h4] at q; exact q))) (fun w1 z1 => ⟨(nI 0).toInt64, 1, by omega, nI 0, rfl, (by have q := zM_part l D A base (x + 70) z1 w1 σ s d a b hs ha hb hd4 hD.2.1; rw [e1, e2] at q; exact q)⟩)
        · have ec : zc_part σ s d a b = 0 := by unfold zc_part; rw [if_neg h2, if_neg (by rw [← hA.1 s hs]; exact fun q => q.elim h3 h4)]
          have e1 : zm_part σ s d a b = zm_set (zm_set (zm_set (zm_set (zm_f σ 0) 3 d (nI s)) 4 d (nI a)) 5 d (nI b)) 25 1 (nI (d + 1)) := by unfold zm_part; rw [if_pos ec]
          have e2 : zr_part σ s d a b = d + 1 := by unfold zr_part; rw [if_pos ec]
          refine zl_answer (v := zg_u (zg_u w ((τ 0).2.2.2 + 1) (.inl (A 0, 16, .inl (zx_adp f s a (b - a))))) (τ 0).2.2.2 (.inr (0, [.ref ((τ 0).2.2.2 + 1), .int (nI (d + 1))]))) (z' := z) (τ' := τ) (σ' := zm_set (zm_set (zm_set (zm_set (zm_f σ 0) 3 d (nI s)) 4 d (nI a)) 5 d (nI b)) 25 1 (nI (d + 1))) (mc := 0) (ms := 0) (d := 1) (r := (nI (d + 1)).toInt64) h (fun q a1 a2 => by rw [zg_un (zl_ok_ne hD.1.2.1 a1 (by omega)), zg_un (zl_ok_ne hD.1.2.2.1 a1 (by omega))]) ⟨by omega, by omega, by omega⟩ (zL_part l D A base 2 0 0 (by decide) _ _ x _ _ _ _ (fun _ _ q => zx_g0 q) (x + 96) (nI (d + 1)) fo (zl_P1 A x (zg_u (zg_u w ((τ 0).2.2.2 + 1) (.inl (A 0, 16, .inl (zx_adp f s a (b - a))))) (τ 0).2.2.2 (.inr (0, [.ref ((τ 0).2.2.2 + 1), .int (nI (d + 1))]))) (z) (τ) fo (nI (d + 1)).toInt64) (zl_oa hfo (by rw [zg_un (zl_ok_ne hD.1.2.1 (by omega) (by omega)), zg_un (zl_ok_ne hD.1.2.2.1 (by omega) (by omega))])) zl_P1.of (zX_part l D A base x z w τ s a b d f hs (by omega) hb (by omega) h3 hD.1.1)) zl_P1.ok (fun w1 z1 => ⟨nI (d + 1), rfl, (by have q := zM_part l D A base (x + 70) z1 w1 σ s d a b hs ha hb hd4 hD.2.1; rw [e1, e2] at q; exact q)⟩) (by rw [zm_set_n (by decide), zm_set_o (by decide), zm_set_o (by decide), zm_set_o (by decide)]; exact zm_set_s) (zl_part R0 hs (by omega) hb (by omega) hD0) (by omega)
  · exact zl_refuse h 1 ⟨by decide, by decide⟩ (zL_part_x1 l D A base 7 1 6 (by decide) _ _ x _ _ _ _ (fun _ _ q => zx_g0 q) (x + 96) (zX_part_x1 l D A base hl x z w τ p0 p1 p2 hc)) (fun w1 z1 => ⟨(nI 0).toInt64, 1, by omega, nI 0, rfl, zM_part_bad l D A base (x + 70) z1 w1 σ p0 p1 p2 hc⟩)
theorem zO_buy (l : Launch) (D : va_G) (A : Nat → ClassId) (base : Nat) (hl : l.stackTraces = false) {x n : Nat} {σ : zm_S} {τ : zx_S} {w : zg_w} {z : Nat} (h : zl_I A x n σ τ w z) (hn : 4 * (n + 1) < 2 ^ 30) (p0 p1 : Int32) : zl_Out A x n w z (zl_XW_buy l D A base x p0 p1) (zl_MM_buy l D A base x p0 p1) := by
  obtain ⟨fo, hfo⟩ := h.2.2.1
  have R0 := h.2.2.2.f 0
  obtain ⟨T, hd, ⟨hA, hT, hB, hY⟩, hh⟩ := id h.2.2.2
  obtain ⟨d, f, hD⟩ := hY.1
  have hd4 := hD.1.2.2.2.2
  have hz1 := hD.1.2.2.2.1
  have hsz : x + 97 ≤ z := hY.2.2.2.2
  by_cases hc : zz4 p0
  · obtain ⟨port, hp, rfl⟩ := zz_nI (n := 4) (by decide) hc
    by_cases h2 : p1 < nI 1 ∨ nI 100 < p1
    · have e : zo_buy σ d T port p1 = (zm_f σ 2, nI 0) := by unfold zo_buy zc_buy; rw [if_pos h2, if_neg (by decide)]
      exact zl_refuse h 2 ⟨by decide, by decide⟩ (zL_buy_x2 l D A base 7 1 6 (by decide) _ _ x _ _ _ (fun _ _ q => zx_g0 q) (x + 96) (zX_buy_x2 l D A base hl x z w τ port p1 hp h2)) (fun w1 z1 => ⟨(nI 0).toInt64, 3, by omega, nI 0, rfl, (by have q := zM_buy l D A base (x + 70) z1 w1 σ d T port p1 hp hd4 hT.1 hD.2.1 hT.2.2.1; rw [e] at q; exact q)⟩)
    · have b1 : ¬ p1 < nI 1 := fun q => h2 (Or.inl q)
      have b2 : ¬ nI 100 < p1 := fun q => h2 (Or.inr q)
      by_cases h3 : d = 0
      · have e : zo_buy σ d T port p1 = (zm_f σ 3, nI 0) := by unfold zo_buy zc_buy; rw [if_neg h2, if_pos (Or.inl h3), if_neg (by decide)]
        exact zl_refuse h 3 ⟨by decide, by decide⟩ (zL_buy_x3 l D A base 7 1 6 (by decide) _ _ x _ _ _ (fun _ _ q => zx_g0 q) (x + 96) (zX_buy_x3 l D A base hl x z w τ port p1 hp b1 b2 f (by have q := hD.1.1; rw [h3] at q; exact q))) (fun w1 z1 => ⟨(nI 0).toInt64, 3, by omega, nI 0, rfl, (by have q := zM_buy l D A base (x + 70) z1 w1 σ d T port p1 hp hd4 hT.1 hD.2.1 hT.2.2.1; rw [e] at q; exact q)⟩)
      · by_cases h4 : T = 80
        · have e : zo_buy σ d T port p1 = (zm_f σ 3, nI 0) := by unfold zo_buy zc_buy; rw [if_neg h2, if_pos (Or.inr h4), if_neg (by decide)]
          exact zl_refuse h 3 ⟨by decide, by decide⟩ (zL_buy_x3 l D A base 7 1 6 (by decide) _ _ x _ _ _ (fun _ _ q => zx_g0 q) (x + 96) (zX_buy_x4 l D A base hl x z w τ port p1 hp b1 b2 f d hd4 hD.1.1 h3 (by rw [hT.2.1, h4]))) (fun w1 z1 => ⟨(nI 0).toInt64, 3, by omega, nI 0, rfl, (by have q := zM_buy l D A base (x + 70) z1 w1 σ d T port p1 hp hd4 hT.1 hD.2.1 hT.2.2.1; rw [e] at q; exact q)⟩)
        · have hT8 : T < 80 := by have := hT.1; omega
          have C1 := zl_newd (zl_R.T (c := 0) ⟨hA, hT, hB, hY⟩)
          have hf1 : zl_f (zm_set (zm_f σ 0) 25 1 (nI 0)) 0 d f := hD.2.2.c (fun i _ k hk => by rw [zm_set_o (by omega), zm_f_o (by omega)])
          have hJ1 : zl_J A x (zx_nj A w z) (z + 2) (τ 0).2.2.2 f d := hD.1.c (by omega) (zx_nj_n (by omega)) (zx_nj_n (by omega))
          have h12 : ∀ p, p < 4 → hd p ≤ 6 ∧ (zxD τ z (10 + 3 * p)).1 2 = nI (hd p) ∧ (zm_set (zm_f σ 0) 25 1 (nI 0)).1 12 p = nI (hd p) := fun p hp => by rw [zxD_1, zm_set_o (by decide), zm_f_o (by decide)]; exact hh p hp
          have ez : zc_buy d T p1 = 0 := by unfold zc_buy; rw [if_neg h2, if_neg (fun q => q.elim h3 h4)]
          have hfit := zl_fit (n := p1) C1.1 hp hf1
          by_cases h5 : zm_fits (zm_set (zm_f σ 0) 25 1 (nI 0)) port 0 d p1 16 = 0
          · have e : zo_buy σ d T port p1 = (zm_set (zm_f σ 0) 25 1 (nI 0), -1) := by unfold zo_buy; rw [if_pos ez, if_pos h5]
            refine zl_answer (v := zx_nj A w z) (z' := z + 2) (τ' := zxD τ z) (σ' := zm_set (zm_f σ 0) 25 1 (nI 0)) (mc := 3) (ms := 23) (d := 3) (r := (-1).toInt64) h (fun q a1 a2 => zx_nj_n (by omega)) ⟨by omega, by omega, by omega⟩ (zL_buy l D A base 3 3 23 (by decide) _ _ x _ _ _ (fun _ _ q => zx_g0 q) (x + 96) (-1) fo (zl_P1 A x (zx_nj A w z) (z + 2) (zxD τ z) fo (-1).toInt64) (zl_oa hfo (zx_nj_n (by omega))) zl_P1.of (zX_buy0 l D A base x z w τ port T p1 hp b1 b2 hT8 hT.2.1 f d hd4 h3 hD.1.1 hz1 (by omega) (hfit.mpr h5))) zl_P1.ok (fun w1 z1 => ⟨-1, rfl, (by have q := zM_buy l D A base (x + 70) z1 w1 σ d T port p1 hp hd4 hT.1 hD.2.1 hT.2.2.1; rw [e] at q; exact q)⟩) (by rw [zm_set_n (by decide)]; exact zm_set_s) (⟨T, hd, C1, h12⟩) (by omega)
          · have e : zo_buy σ d T port p1 = (zm_sell (zm_set (zm_f σ 0) 25 1 (nI 0)) T port 0 d p1, nI T) := by unfold zo_buy; rw [if_pos ez, if_neg h5]
            have C2 := zl_sell (n := p1) C1 hT8 hp (a := 0) (Or.inr (by omega)) hJ1 hf1 (by rw [zxD_4, if_pos rfl]; omega)
            have h12' : ∀ p, p < 4 → hd p ≤ 6 ∧ (zx_sel (zxD τ z) port f p1 T (z + 2) (10 + 3 * p)).1 2 = nI (hd p) ∧ (zm_sell (zm_set (zm_f σ 0) 25 1 (nI 0)) T port 0 d p1).1 12 p = nI (hd p) := fun p hp' => by rw [zx_sel_at hp, if_neg (by omega), if_neg (by omega), if_neg (by omega), zm_sell_o (Or.inl rfl)]; exact h12 p hp'
            have h25 : (zm_sell (zm_set (zm_f σ 0) 25 1 (nI 0)) T port 0 d p1).1 25 0 = nI 0 := by
              rw [zm_sell_at (Or.inr (by omega)), if_neg (by omega), if_neg (by omega), if_neg (by omega), if_neg (by omega), if_neg (by omega), if_neg (by omega), if_neg (by omega), zm_set_n (by decide)]
              exact zm_set_s
            refine zl_answer (v := zg_u (zx_nj A w z) (z + 2) (zx_to port (τ 0).2.2.2 p1 (zx_sum (zxD τ z) f 16 * p1.toInt64))) (z' := z + 3) (τ' := zx_sel (zxD τ z) port f p1 T (z + 2)) (σ' := zm_sell (zm_set (zm_f σ 0) 25 1 (nI 0)) T port 0 d p1) (mc := 3) (ms := 23) (d := 3) (r := (nI T).toInt64) h (fun q a1 a2 => by rw [zg_un (by omega)]; exact zx_nj_n (by omega)) ⟨by omega, by omega, by omega⟩ (zL_buy l D A base 3 3 23 (by decide) _ _ x _ _ _ (fun _ _ q => zx_g0 q) (x + 96) (nI T) fo (zl_P1 A x (zg_u (zx_nj A w z) (z + 2) (zx_to port (τ 0).2.2.2 p1 (zx_sum (zxD τ z) f 16 * p1.toInt64))) (z + 3) (zx_sel (zxD τ z) port f p1 T (z + 2)) fo (nI T).toInt64) (zl_oa hfo (by rw [zg_un (by omega)]; exact zx_nj_n (by omega))) zl_P1.of (zX_buy l D A base x z w τ port T p1 hp b1 b2 hT8 hT.2.1 f d hd4 h3 hD.1.1 hz1 (by omega) (fun q => h5 (hfit.mp q)))) zl_P1.ok (fun w1 z1 => ⟨nI T, rfl, (by have q := zM_buy l D A base (x + 70) z1 w1 σ d T port p1 hp hd4 hT.1 hD.2.1 hT.2.2.1; rw [e] at q; exact q)⟩) (h25) (⟨T + 1, hd, C2, h12'⟩) (by omega)
  · exact zl_refuse h 1 ⟨by decide, by decide⟩ (zL_buy_x1 l D A base 7 1 6 (by decide) _ _ x _ _ _ (fun _ _ q => zx_g0 q) (x + 96) (zX_buy_x1 l D A base hl x z w τ p0 p1 hc)) (fun w1 z1 => ⟨(nI 0).toInt64, 1, by omega, nI 0, rfl, zM_buy_bad l D A base (x + 70) z1 w1 σ p0 p1 hc⟩)
theorem zO_wish (l : Launch) (D : va_G) (A : Nat → ClassId) (base : Nat) (hl : l.stackTraces = false) {x n : Nat} {σ : zm_S} {τ : zx_S} {w : zg_w} {z : Nat} (h : zl_I A x n σ τ w z) (hn : 4 * (n + 1) < 2 ^ 30) (p0 p1 : Int32) : zl_Out A x n w z (zl_XW_wish l D A base x p0 p1) (zl_MM_wish l D A base x p0 p1) := by
  obtain ⟨fo, hfo⟩ := h.2.2.1
  have R0 := h.2.2.2.f 0
  obtain ⟨T, hd, ⟨hA, hT, hB, hY⟩, hh⟩ := id h.2.2.2
  obtain ⟨d, f, hD⟩ := hY.1
  have hd4 := hD.1.2.2.2.2
  have hz1 := hD.1.2.2.2.1
  have hsz : x + 97 ≤ z := hY.2.2.2.2
  by_cases hc : zz4 p0
  · obtain ⟨port, hp, rfl⟩ := zz_nI (n := 4) (by decide) hc
    by_cases h2 : p1 < nI 1 ∨ nI 100 < p1
    · have e : zo_wish σ d T port (hd port) p1 = (zm_f σ 2, nI 0) := by unfold zo_wish zc_wish; rw [if_pos h2, if_neg (by decide)]
      exact zl_refuse h 2 ⟨by decide, by decide⟩ (zL_wish_x2 l D A base 7 1 6 (by decide) _ _ x _ _ _ (fun _ _ q => zx_g0 q) (x + 96) (zX_wish_x2 l D A base hl x z w τ port p1 hp h2)) (fun w1 z1 => ⟨(nI 0).toInt64, 4, by omega, nI 0, rfl, (by have q := zM_wish l D A base (x + 70) z1 w1 σ d T port (hd port) p1 hp hd4 (hh port hp).1 hT.1 hD.2.1 hT.2.2.1 (hh port hp).2.2 (zl_hp hY hp); rw [e] at q; exact q)⟩)
    · have b1 : ¬ p1 < nI 1 := fun q => h2 (Or.inl q)
      have b2 : ¬ nI 100 < p1 := fun q => h2 (Or.inr q)
      by_cases h3 : d = 0
      · have e : zo_wish σ d T port (hd port) p1 = (zm_f σ 3, nI 0) := by unfold zo_wish zc_wish; rw [if_neg h2, if_pos (Or.inl h3), if_neg (by decide)]
        exact zl_refuse h 3 ⟨by decide, by decide⟩ (zL_wish_x3 l D A base 7 1 6 (by decide) _ _ x _ _ _ (fun _ _ q => zx_g0 q) (x + 96) (zX_wish_x3 l D A base hl x z w τ port p1 hp b1 b2 f (by have q := hD.1.1; rw [h3] at q; exact q))) (fun w1 z1 => ⟨(nI 0).toInt64, 4, by omega, nI 0, rfl, (by have q := zM_wish l D A base (x + 70) z1 w1 σ d T port (hd port) p1 hp hd4 (hh port hp).1 hT.1 hD.2.1 hT.2.2.1 (hh port hp).2.2 (zl_hp hY hp); rw [e] at q; exact q)⟩)
      · by_cases h4 : hd port = 6
        · have e : zo_wish σ d T port (hd port) p1 = (zm_f σ 3, nI 0) := by unfold zo_wish zc_wish; rw [if_neg h2, if_pos (Or.inr h4), if_neg (by decide)]
          exact zl_refuse h 3 ⟨by decide, by decide⟩ (zL_wish_x3 l D A base 7 1 6 (by decide) _ _ x _ _ _ (fun _ _ q => zx_g0 q) (x + 96) (zX_wish_x4 l D A base hl x z w τ port p1 hp b1 b2 f d hd4 hD.1.1 h3 (by rw [(hh port hp).2.1, h4]))) (fun w1 z1 => ⟨(nI 0).toInt64, 4, by omega, nI 0, rfl, (by have q := zM_wish l D A base (x + 70) z1 w1 σ d T port (hd port) p1 hp hd4 (hh port hp).1 hT.1 hD.2.1 hT.2.2.1 (hh port hp).2.2 (zl_hp hY hp); rw [e] at q; exact q)⟩)
        · have hk6 : hd port < 6 := by have := (hh port hp).1; omega
          have hD0 : zl_D A x (zm_f σ 0) w z (τ 0).2.2.2 d f := hD.c (Nat.le_refl _) rfl rfl (zm_set_n (by decide)) (fun i _ k hk => by rw [zm_f_o (by omega)])
          obtain ⟨C1, h12⟩ := zl_wsh (n := p1) (zl_R.T (c := 0) ⟨hA, hT, hB, hY⟩) (fun p hp => by rw [zm_f_o (by decide)]; exact hh p hp) hp rfl hk6 hD0
          have ew : zm_wsh σ d port (hd port) p1 = zm_set (zm_set (zm_set (zm_set (zm_copy (zm_f σ 0) (324 + 4 * (6 * port + hd port)) 0 d) 13 (6 * port + hd port) p1) 14 (6 * port + hd port) (nI d)) 12 port (nI (hd port + 1))) 25 1 (nI 0) := rfl
          rw [← ew] at C1 h12
          obtain ⟨Q, J, Fm, Pn, hQ⟩ := zl_wits C1.2.2.2 hp
          rw [if_pos rfl] at hQ
          obtain ⟨R3, es, el⟩ := zl_srv (had := hd port + 1) (Nn := fun i => (zm_wsh σ d port (hd port) p1).1 13 (6 * port + i)) C1 h12 hp (if_pos rfl) (fun i hi => (hQ i hi).1) (fun i hi => (hQ i hi).2) (fun _ _ => rfl)
          have e : zo_wish σ d T port (hd port) p1 = (zm_serve (zm_wsh σ d port (hd port) p1) port T (hd port + 1), nI (hd port + 1 - (zm_sv (zm_wsh σ d port (hd port) p1) port T (hd port + 1)).2)) := by unfold zo_wish; rw [if_pos (show zc_wish d (hd port) p1 = 0 by unfold zc_wish; rw [if_neg h2, if_neg (fun q => q.elim h3 h4)])]
          have hvz := zx_sv_i (A := A) (v := zx_wv A τ w z p1) (sz := z + 3) (Q := Q) (J := J) (Fm := Fm) (Nn := fun i => (zm_wsh σ d port (hd port) p1).1 13 (6 * port + i)) hp C1.2.1.2.1 hT.1 (hd port + 1)
          have hvw : ∀ a, x + 70 ≤ a → a < x + 97 → (zx_sv A (zx_wsh τ port (hd port) z) (zx_wv A τ w z p1) port T (z + 3) Q J Fm (fun i => (zm_wsh σ d port (hd port) p1).1 13 (6 * port + i)) (hd port + 1)).2.2 a = w a := fun a a1 a2 => by
            rw [hvz.2.2.2.2 a (by omega)]
            unfold zx_wv
            rw [zg_un (by omega)]
            exact zx_nj_n (by omega)
          have h25 : (zm_serve (zm_wsh σ d port (hd port) p1) port T (hd port + 1)).1 25 0 = nI 0 := by
            rw [zm_serve, zm_set_o (by decide), zm_sv_25, ew, zm_set_n (by decide), zm_set_o (by decide), zm_set_o (by decide), zm_set_o (by decide), zm_copy_o (by decide)]
            exact zm_set_s
          refine zl_answer (v := (zx_sv A (zx_wsh τ port (hd port) z) (zx_wv A τ w z p1) port T (z + 3) Q J Fm (fun i => (zm_wsh σ d port (hd port) p1).1 13 (6 * port + i)) (hd port + 1)).2.2) (z' := z + 3 + (hd port + 1 - (zx_sv A (zx_wsh τ port (hd port) z) (zx_wv A τ w z p1) port T (z + 3) Q J Fm (fun i => (zm_wsh σ d port (hd port) p1).1 13 (6 * port + i)) (hd port + 1)).2.1)) (τ' := zxI (zx_sv A (zx_wsh τ port (hd port) z) (zx_wv A τ w z p1) port T (z + 3) Q J Fm (fun i => (zm_wsh σ d port (hd port) p1).1 13 (6 * port + i)) (hd port + 1)).1 (10 + 3 * port) 2 (nI (zx_sv A (zx_wsh τ port (hd port) z) (zx_wv A τ w z p1) port T (z + 3) Q J Fm (fun i => (zm_wsh σ d port (hd port) p1).1 13 (6 * port + i)) (hd port + 1)).2.1)) (σ' := zm_serve (zm_wsh σ d port (hd port) p1) port T (hd port + 1)) (mc := 9) (ms := 50) (d := 4) (r := (nI (hd port + 1 - (zx_sv A (zx_wsh τ port (hd port) z) (zx_wv A τ w z p1) port T (z + 3) Q J Fm (fun i => (zm_wsh σ d port (hd port) p1).1 13 (6 * port + i)) (hd port + 1)).2.1)).toInt64) h (fun a a1 a2 => hvw a a1 (by omega)) ⟨by omega, by omega, by omega⟩ (zL_wish l D A base 4 9 50 (by decide) _ _ x _ _ _ (fun _ _ q => zx_g0 q) (x + 96) (nI (hd port + 1 - (zx_sv A (zx_wsh τ port (hd port) z) (zx_wv A τ w z p1) port T (z + 3) Q J Fm (fun i => (zm_wsh σ d port (hd port) p1).1 13 (6 * port + i)) (hd port + 1)).2.1)) fo (zl_P1 A x ((zx_sv A (zx_wsh τ port (hd port) z) (zx_wv A τ w z p1) port T (z + 3) Q J Fm (fun i => (zm_wsh σ d port (hd port) p1).1 13 (6 * port + i)) (hd port + 1)).2.2) (z + 3 + (hd port + 1 - (zx_sv A (zx_wsh τ port (hd port) z) (zx_wv A τ w z p1) port T (z + 3) Q J Fm (fun i => (zm_wsh σ d port (hd port) p1).1 13 (6 * port + i)) (hd port + 1)).2.1)) (zxI (zx_sv A (zx_wsh τ port (hd port) z) (zx_wv A τ w z p1) port T (z + 3) Q J Fm (fun i => (zm_wsh σ d port (hd port) p1).1 13 (6 * port + i)) (hd port + 1)).1 (10 + 3 * port) 2 (nI (zx_sv A (zx_wsh τ port (hd port) z) (zx_wv A τ w z p1) port T (z + 3) Q J Fm (fun i => (zm_wsh σ d port (hd port) p1).1 13 (6 * port + i)) (hd port + 1)).2.1)) fo (nI (hd port + 1 - (zx_sv A (zx_wsh τ port (hd port) z) (zx_wv A τ w z p1) port T (z + 3) Q J Fm (fun i => (zm_wsh σ d port (hd port) p1).1 13 (6 * port + i)) (hd port + 1)).2.1)).toInt64) (zl_oa hfo (hvw _ (by omega) (by omega))) zl_P1.of (zX_wish l D A base x z w τ port T (hd port) p1 hp b1 b2 hT.1 hT.2.1 hk6 (hh port hp).2.1 f d hd4 h3 hD.1.1 hz1 (by omega) Q J Fm (fun i => nI (Pn i)) (fun i => (zm_wsh σ d port (hd port) p1).1 13 (6 * port + i)) (fun i hi => (hQ i hi).1) (fun i hi => (hQ i hi).2.x))) zl_P1.ok (fun w1 z1 => ⟨nI (hd port + 1 - (zm_sv (zm_wsh σ d port (hd port) p1) port T (hd port + 1)).2), by rw [es], (by have q := zM_wish l D A base (x + 70) z1 w1 σ d T port (hd port) p1 hp hd4 (hh port hp).1 hT.1 hD.2.1 hT.2.2.1 (hh port hp).2.2 (zl_hp hY hp); rw [e] at q; exact q)⟩) (h25) (R3) (by omega)
  · exact zl_refuse h 1 ⟨by decide, by decide⟩ (zL_wish_x1 l D A base 7 1 6 (by decide) _ _ x _ _ _ (fun _ _ q => zx_g0 q) (x + 96) (zX_wish_x1 l D A base hl x z w τ p0 p1 hc)) (fun w1 z1 => ⟨(nI 0).toInt64, 1, by omega, nI 0, rfl, zM_wish_bad l D A base (x + 70) z1 w1 σ p0 p1 hc⟩)
theorem zO_hand (l : Launch) (D : va_G) (A : Nat → ClassId) (base : Nat) (hl : l.stackTraces = false) {x n : Nat} {σ : zm_S} {τ : zx_S} {w : zg_w} {z : Nat} (h : zl_I A x n σ τ w z) (hn : 4 * (n + 1) < 2 ^ 30) (p0 p1 p2 p3 p4 : Int32) : zl_Out A x n w z (zl_XW_hand l D A base x p0 p1 p2 p3 p4) (zl_MM_hand l D A base x p0 p1 p2 p3 p4) := by
  obtain ⟨fo, hfo⟩ := h.2.2.1
  have R0 := h.2.2.2.f 0
  obtain ⟨T, hd, ⟨hA, hT, hB, hY⟩, hh⟩ := id h.2.2.2
  by_cases hc : zz4 p0 ∧ zz4 p1 ∧ zz4 p2 ∧ zz4 p3
  · obtain ⟨a, ha, rfl⟩ := zz_nI (n := 4) (by decide) hc.1
    obtain ⟨b, hb, rfl⟩ := zz_nI (n := 4) (by decide) hc.2.1
    obtain ⟨s, hs, rfl⟩ := zz_nI (n := 4) (by decide) hc.2.2.1
    obtain ⟨g0, hg, rfl⟩ := zz_nI (n := 4) (by decide) hc.2.2.2
    obtain ⟨g, b1, t, wd, an, lg, hl0⟩ := hB.2 (4 * a + b) (by omega)
    obtain ⟨k1, k2, k3, k4, k5⟩ := id hl0
    have ep : a * 4 + b = 4 * a + b := by omega
    by_cases hab : a = b
    · have e : zo_hand σ a b s g0 b1 p4 = (zm_f σ 2, nI 0) := by unfold zo_hand zc_hand; rw [if_pos (Or.inl hab), if_neg (by decide)]
      subst hab
      exact zl_refuse h 2 ⟨by decide, by decide⟩ (zL_hand_x2 l D A base 7 1 6 (by decide) _ _ x _ _ _ _ _ _ (fun _ _ q => zx_g0 q) (x + 96) (zX_hand_x2 l D A base hl x z w τ a s g0 p4 ha hs hg)) (fun w1 z1 => ⟨(nI 0).toInt64, 1, by omega, nI 0, rfl, (by have q := zM_hand l D A base (x + 70) z1 w1 σ a a s g0 b1 p4 ha ha hs hg k2.1 k3.2.1; rw [e] at q; exact q)⟩)
    · by_cases h2 : p4 < nI 1 ∨ nI 100 < p4
      · have e : zo_hand σ a b s g0 b1 p4 = (zm_f σ 2, nI 0) := by unfold zo_hand zc_hand; rw [if_pos (Or.inr h2), if_neg (by decide)]
        exact zl_refuse h 2 ⟨by decide, by decide⟩ (zL_hand_x2 l D A base 7 1 6 (by decide) _ _ x _ _ _ _ _ _ (fun _ _ q => zx_g0 q) (x + 96) (zX_hand_x3 l D A base hl x z w τ a b s g0 p4 ha hb hs hg hab h2)) (fun w1 z1 => ⟨(nI 0).toInt64, 1, by omega, nI 0, rfl, (by have q := zM_hand l D A base (x + 70) z1 w1 σ a b s g0 b1 p4 ha hb hs hg k2.1 k3.2.1; rw [e] at q; exact q)⟩)
      · have c1 : ¬ p4 < nI 1 := fun q => h2 (Or.inl q)
        have c2 : ¬ nI 100 < p4 := fun q => h2 (Or.inr q)
        have hno : ¬ (a = b ∨ p4 < nI 1 ∨ nI 100 < p4) := fun q => q.elim hab h2
        by_cases h8 : b1 = 8
        · have e : zo_hand σ a b s g0 b1 p4 = (zm_f σ 3, nI 0) := by unfold zo_hand zc_hand; rw [if_neg hno, if_pos h8, if_neg (by decide)]
          exact zl_refuse h 3 ⟨by decide, by decide⟩ (zL_hand_x3 l D A base 7 1 6 (by decide) _ _ x _ _ _ _ _ _ (fun _ _ q => zx_g0 q) (x + 96) (zX_hand_x4 l D A base hl x z w τ a b s g0 p4 ha hb hs hg hab c1 c2 (by rw [ep, k1.2.1, h8]))) (fun w1 z1 => ⟨(nI 0).toInt64, 1, by omega, nI 0, rfl, (by have q := zM_hand l D A base (x + 70) z1 w1 σ a b s g0 b1 p4 ha hb hs hg k2.1 k3.2.1; rw [e] at q; exact q)⟩)
        · have n8 : ¬ (τ (22 + 3 * (a * 4 + b))).1 3 = nI 8 := by rw [ep, k1.2.1]; exact fun q => h8 ((nI_eq (by omega) (by decide)).mp q)
          have er : (τ (10 + 3 * a + 1)).1 (s * 4 + g0) = σ.1 2 (16 * a + 4 * s + g0) := by rw [hA.2.2.1 a ha (s * 4 + g0) (by omega), show 16 * a + 4 * s + g0 = 16 * a + (s * 4 + g0) by omega]
          have ez : zc_hand a b b1 p4 = 0 := by unfold zc_hand; rw [if_neg hno, if_neg h8]
          by_cases h5 : σ.1 2 (16 * a + 4 * s + g0) < p4
          · have e : zo_hand σ a b s g0 b1 p4 = (zm_f σ 0, -1) := by unfold zo_hand; rw [if_pos ez, if_pos h5]
            refine zl_answer (v := w) (z' := z) (τ' := τ) (σ' := zm_f σ 0) (mc := 0) (ms := 0) (d := 1) (r := (-1).toInt64) h (fun _ _ _ => rfl) ⟨by omega, by omega, by omega⟩ (zL_hand l D A base 4 0 0 (by decide) _ _ x _ _ _ _ _ _ (fun _ _ q => zx_g0 q) (x + 96) (-1) fo (zl_P1 A x (w) (z) (τ) fo (-1).toInt64) (zl_oa hfo (rfl)) zl_P1.of (zX_hand0 l D A base x z w τ a b s g0 p4 ha hb hs hg hab c1 c2 n8 (by rw [er]; exact h5))) zl_P1.ok (fun w1 z1 => ⟨-1, rfl, (by have q := zM_hand l D A base (x + 70) z1 w1 σ a b s g0 b1 p4 ha hb hs hg k2.1 k3.2.1; rw [e] at q; exact q)⟩) (zm_set_s) (R0) (by omega)
          · have e : zo_hand σ a b s g0 b1 p4 = (zm_encl (zm_f σ 0) a b (4 * s + g0) b1 p4, (zm_encl (zm_f σ 0) a b (4 * s + g0) b1 p4).1 15 (4 * a + b)) := by unfold zo_hand; rw [if_pos ez, if_neg h5]
            have hl1 := (hl0.c (Nat.le_refl _) (fun k a1 a2 => zm_set_o (by omega)) (fun _ _ => rfl) : zl_l _ (zm_f σ 0) τ _ _ _ _ _ _ _)
            obtain ⟨R1, hl2⟩ := zl_encl (place := 4 * s + g0) (n := p4) R0 (by omega) ha hb (by omega) hl1 (by omega)
            refine zl_answer (v := w) (z' := z) (τ' := zx_add (zx_put τ a (s * 4 + g0) p4) (a * 4 + b) g b1 (s * 4 + g0) p4) (σ' := zm_encl (zm_f σ 0) a b (4 * s + g0) b1 p4) (mc := 0) (ms := 0) (d := 1) (r := (nI (g + (b1 + 1))).toInt64) h (fun _ _ _ => rfl) ⟨by omega, by omega, by omega⟩ (zL_hand l D A base 4 0 0 (by decide) _ _ x _ _ _ _ _ _ (fun _ _ q => zx_g0 q) (x + 96) (nI (g + (b1 + 1))) fo (zl_P1 A x (w) (z) (zx_add (zx_put τ a (s * 4 + g0) p4) (a * 4 + b) g b1 (s * 4 + g0) p4) fo (nI (g + (b1 + 1))).toInt64) (zl_oa hfo (rfl)) zl_P1.of (zX_hand l D A base x z w τ a b s g0 p4 ha hb hs hg hab c1 c2 n8 g b1 (by rw [er]; exact h5) (by rw [ep]; exact k1.1) (by rw [ep]; exact k1.2.1) (by omega))) zl_P1.ok (fun w1 z1 => ⟨(zm_encl (zm_f σ 0) a b (4 * s + g0) b1 p4).1 15 (4 * a + b), by rw [hl2.2.2.1.1], (by have q := zM_hand l D A base (x + 70) z1 w1 σ a b s g0 b1 p4 ha hb hs hg k2.1 k3.2.1; rw [e] at q; exact q)⟩) (by rw [zm_encl_at, if_neg (by omega), if_neg (by omega), if_neg (by omega), if_neg (by omega), if_neg (by omega), if_neg (by omega)]; exact zm_set_s) (by rw [ep, Nat.mul_comm s 4]; exact R1) (by omega)
  · exact zl_refuse h 1 ⟨by decide, by decide⟩ (zL_hand_x1 l D A base 7 1 6 (by decide) _ _ x _ _ _ _ _ _ (fun _ _ q => zx_g0 q) (x + 96) (zX_hand_x1 l D A base hl x z w τ p0 p1 p2 p3 p4 hc)) (fun w1 z1 => ⟨(nI 0).toInt64, 1, by omega, nI 0, rfl, zM_hand_bad l D A base (x + 70) z1 w1 σ p0 p1 p2 p3 p4 hc⟩)
theorem zO_share (l : Launch) (D : va_G) (A : Nat → ClassId) (base : Nat) (hl : l.stackTraces = false) {x n : Nat} {σ : zm_S} {τ : zx_S} {w : zg_w} {z : Nat} (h : zl_I A x n σ τ w z) (hn : 4 * (n + 1) < 2 ^ 30) (p0 p1 p2 : Int32) : zl_Out A x n w z (zl_XW_share l D A base x p0 p1 p2) (zl_MM_share l D A base x p0 p1 p2) := by
  obtain ⟨fo, hfo⟩ := h.2.2.1
  have R0 := h.2.2.2.f 0
  obtain ⟨T, hd, ⟨hA, hT, hB, hY⟩, hh⟩ := id h.2.2.2
  by_cases hc : zz4 p0 ∧ zz4 p1 ∧ zz4 p2
  · obtain ⟨a, ha, rfl⟩ := zz_nI (n := 4) (by decide) hc.1
    obtain ⟨b, hb, rfl⟩ := zz_nI (n := 4) (by decide) hc.2.1
    obtain ⟨s, hs, rfl⟩ := zz_nI (n := 4) (by decide) hc.2.2
    by_cases hab : a = b
    · subst hab
      exact zl_refuse h 2 ⟨by decide, by decide⟩ (zL_share_x2 l D A base 7 1 6 (by decide) _ _ x _ _ _ _ (fun _ _ q => zx_g0 q) (x + 96) (zX_share_x2 l D A base hl x z w τ a s ha hs)) (fun w1 z1 => ⟨(nI 0).toInt64, 2, by omega, nI 0, rfl, zM_share_bad2 l D A base (x + 70) z1 w1 σ _ _ _ 2 hc.2.2 (zc_w2 ha) (by decide) (by decide)⟩)
    · obtain ⟨g, b1, t, wd, an, lg, hl0⟩ := hB.2 (4 * a + b) (by omega)
      obtain ⟨k1, k2, k3, k4, k5⟩ := id hl0
      have ep : a * 4 + b = 4 * a + b := by omega
      have hl1 := (hl0.c (Nat.le_refl _) (fun k a1 a2 => zm_set_o (by omega)) (fun _ _ => rfl) : zl_l _ (zm_f σ 0) τ _ _ _ _ _ _ _)
      obtain ⟨s1, s2, s3⟩ := zl_share (s := s) R0 (by omega) ha hb hs hl1 4 (Nat.le_refl _)
      have h25 : ∀ i, (zm_shr (zm_f σ 0) a b s b1 i).1.1 25 0 = (zm_f σ 0).1 25 0 := fun i => by
        induction i with
        | zero => rfl
        | succ i ih =>
          rw [zm_shr]
          split
          · dsimp only
            rw [zm_encl_at, if_neg (by omega), if_neg (by omega), if_neg (by omega), if_neg (by omega), if_neg (by omega), if_neg (by omega)]; exact ih
          · exact ih
      refine zl_answer (v := w) (z' := z) (τ' := (zx_shr τ a b s g b1 4).1) (σ' := (zm_shr (zm_f σ 0) a b s b1 4).1) (mc := 0) (ms := 0) (d := 2) (r := (nI (zx_shr τ a b s g b1 4).2).toInt64) h (fun _ _ _ => rfl) ⟨by omega, by omega, by omega⟩ (zL_share l D A base 4 0 0 (by decide) _ _ x _ _ _ _ (fun _ _ q => zx_g0 q) (x + 96) (nI (zx_shr τ a b s g b1 4).2) fo (zl_P1 A x (w) (z) ((zx_shr τ a b s g b1 4).1) fo (nI (zx_shr τ a b s g b1 4).2).toInt64) (zl_oa hfo (rfl)) zl_P1.of (zX_share l D A base x z w τ a b s g b1 ha hb hs hab k2.1 (by rw [ep]; exact k1.1) (by rw [ep]; exact k1.2.1) (by omega))) zl_P1.ok (fun w1 z1 => ⟨nI (zm_shr (zm_f σ 0) a b s b1 4).2, by rw [s1], zM_share l D A base (x + 70) z1 w1 σ a b ha hb hab s b1 hs k2.1 k3.2.1⟩) (by rw [h25]; exact zm_set_s) (s2) (by omega)
  · by_cases hz : zz4 p2
    · exact zl_refuse h 1 ⟨by decide, by decide⟩ (zL_share_x1 l D A base 7 1 6 (by decide) _ _ x _ _ _ _ (fun _ _ q => zx_g0 q) (x + 96) (zX_share_x1 l D A base hl x z w τ p0 p1 p2 hc)) (fun w1 z1 => ⟨(nI 0).toInt64, 2, by omega, nI 0, rfl, zM_share_bad2 l D A base (x + 70) z1 w1 σ _ _ _ 1 hz (zc_w1 (fun q => hc ⟨q.1, q.2, hz⟩)) (by decide) (by decide)⟩)
    · exact zl_refuse h 1 ⟨by decide, by decide⟩ (zL_share_x1 l D A base 7 1 6 (by decide) _ _ x _ _ _ _ (fun _ _ q => zx_g0 q) (x + 96) (zX_share_x1 l D A base hl x z w τ p0 p1 p2 hc)) (fun w1 z1 => ⟨(nI 0).toInt64, 2, by omega, nI 0, rfl, zM_share_bad1 l D A base (x + 70) z1 w1 σ _ _ _ hz⟩)
