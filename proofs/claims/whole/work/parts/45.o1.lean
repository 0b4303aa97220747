/-! one turn of the law: what a call of the class and a call of the reference come to -/
def zl_I (A : Nat → ClassId) (x n : Nat) (σ : zm_S) (τ : zx_S) (w : zg_w) (z : Nat) : Prop := zx_h A x τ w ∧ zm_h A (x + 70) σ w ∧ (∃ fo, w (x + 96) = some (.inl (A 2, 1, .inr (.inl fo)))) ∧ zl_R (4 * n) A x σ τ w z
def zl_Inv (A : Nat → ClassId) (x n : Nat) : zg_P := fun w z => ∃ σ τ, zl_I A x n σ τ w z
/-- XW: the law's wrapper answers the code k; MM: the reference answers r -/
def zl_Out (A : Nat → ClassId) (x n : Nat) (w : zg_w) (z : Nat) (XW : Nat → Nat → Nat → zg_P → zg_P → Prop) (MM : Nat → zg_P → Int64 → zg_P → Prop) : Prop := ∃ (k mc ms : Nat) (P0 P1 : zg_P), (k < 4 ∧ mc ≤ 9 ∧ ms ≤ 50) ∧ P0 w z ∧ (∀ w z, P0 w z → ∃ fs, w x = some (.inr (5, fs))) ∧ XW k mc ms P0 P1 ∧ ∀ w1 z1, P1 w1 z1 → ∃ (σ σ' : zm_S) (r : Int64) (d : Nat), d ≤ 4 ∧ zm_P A (x + 70) w1 z1 σ w1 z1 ∧ MM d (zm_P A (x + 70) w1 z1 σ) r (zm_P A (x + 70) w1 z1 σ') ∧ σ'.1 25 0 = nI k ∧ (∃ fo, w1 (x + 96) = some (.inl (A 2, 1, .inr (.inl fo))) ∧ (k = 0 → fo 0 = r)) ∧ ∀ w2 z2, zm_P A (x + 70) w1 z1 σ' w2 z2 → zl_Inv A x (n + 1) w2 z2
theorem zl_I.p {A : Nat → ClassId} {x n : Nat} {σ : zm_S} {τ : zx_S} {w : zg_w} {z : Nat} (h : zl_I A x n σ τ w z) : zx_P A x w z τ w z := ⟨rfl, h.1, fun _ _ => rfl⟩
/-- after the class's call: the world w1, as the reference finds it -/
theorem zl_end {A : Nat → ClassId} {x n m : Nat} {σ σ' : zm_S} {τ' : zx_S} {w v w1 : zg_w} {z1 : Nat} (hm : zm_h A (x + 70) σ w) (hv : ∀ q, x + 70 ≤ q → q < x + 96 → v q = w q) (h1 : zx_h A x τ' w1) (h2 : ∀ q, zx_out x q → q ≠ x + 96 → w1 q = v q) (h3 : ∃ fo, w1 (x + 96) = some (.inl (A 2, 1, .inr (.inl fo)))) (hR : zl_R m A x σ' τ' v z1) (hn : m ≤ 4 * (n + 1)) : zm_P A (x + 70) w1 z1 σ w1 z1 ∧ ∀ w2 z2, zm_P A (x + 70) w1 z1 σ' w2 z2 → zl_Inv A x (n + 1) w2 z2 := by
  refine ⟨⟨rfl, ⟨?_, fun k hk => ?_⟩, fun _ _ => rfl⟩, fun w2 z2 hh => ⟨σ', τ', fun o ho => ?_, hh.2.1, ?_, ?_⟩⟩
  · rw [h2 _ (zx_out_ge (by omega)) (by omega), hv _ (by omega) (by omega)]; exact hm.1
  · rw [h2 _ (zx_out_ge (by omega)) (by omega), hv _ (by omega) (by omega)]; exact hm.2 k hk
  · rw [hh.2.2 _ (by omega)]; exact h1 o ho
  · rw [hh.2.2 _ (by omega)]; exact h3
  · refine hR.w hn (by rw [hh.1]; exact Nat.le_refl _) (fun q hq _ => ?_)
    rw [hh.2.2 _ (by have := hq.2; omega), h2 q hq.1 (by have := hq.2; omega)]
theorem zl_refuse {A : Nat → ClassId} {x n : Nat} {σ : zm_S} {τ : zx_S} {w : zg_w} {z : Nat} {XW : Nat → Nat → Nat → zg_P → zg_P → Prop} {MM : Nat → zg_P → Int64 → zg_P → Prop} (h : zl_I A x n σ τ w z) (k : Nat) (hk : 0 < k ∧ k < 4) (hX : XW k 1 6 (zx_P A x w z τ) (zg_ge (zx_P A x w z τ))) (hM : ∀ w1 z1, ∃ r d, d ≤ 4 ∧ MM d (zm_P A (x + 70) w1 z1 σ) r (zm_P A (x + 70) w1 z1 (zm_f σ k))) : zl_Out A x n w z XW MM := by
  obtain ⟨fo, hfo⟩ := h.2.2.1
  refine ⟨k, 1, 6, _, _, ⟨hk.2, by omega, by omega⟩, h.p, fun w z q => ⟨_, zx_g0 q⟩, hX, fun w1 z1 h1 => ?_⟩
  obtain ⟨z0, hz, e, g1, g2⟩ := h1
  obtain ⟨r, d, hd, hMM⟩ := hM w1 z1
  subst e
  have h3 : w1 (x + 96) = some (.inl (A 2, 1, .inr (.inl fo))) := by rw [g2 _ (zx_out_ge (by omega))]; exact hfo
  obtain ⟨e1, e2⟩ := zl_end (n := n) (v := w1) (w := w) (z1 := z1) (σ' := zm_f σ k) h.2.1 (fun q a b => g2 q (zx_out_ge (by omega))) g1 (fun _ _ _ => rfl) ⟨fo, h3⟩ ((h.2.2.2.f k).w (Nat.le_refl _) hz (fun q hq _ => g2 q hq.1)) (by omega)
  exact ⟨σ, zm_f σ k, r, d, hd, e1, hMM, zm_set_s, ⟨fo, h3, fun q => absurd q (by omega)⟩, e2⟩
theorem zl_answer {A : Nat → ClassId} {x n m : Nat} {σ σ' : zm_S} {τ τ' : zx_S} {w v : zg_w} {z z' mc ms d : Nat} {r : Int64} {P1 : zg_P} {XW : Nat → Nat → Nat → zg_P → zg_P → Prop} {MM : Nat → zg_P → Int64 → zg_P → Prop} (h : zl_I A x n σ τ w z) (hv : ∀ q, x + 70 ≤ q → q < x + 96 → v q = w q) (hc : mc ≤ 9 ∧ ms ≤ 50 ∧ d ≤ 4) (hX : XW 0 mc ms (zx_P A x w z τ) P1) (hP : ∀ w1 z1, P1 w1 z1 → z1 = z' ∧ zx_h A x τ' w1 ∧ (∀ q, zx_out x q → q ≠ x + 96 → w1 q = v q) ∧ ∃ fo, w1 (x + 96) = some (.inl (A 2, 1, .inr (.inl fo))) ∧ fo 0 = r) (hM : ∀ w1 z1, MM d (zm_P A (x + 70) w1 z1 σ) r (zm_P A (x + 70) w1 z1 σ')) (h0 : σ'.1 25 0 = nI 0) (hR : zl_R m A x σ' τ' v z') (hn : m ≤ 4 * (n + 1)) : zl_Out A x n w z XW MM := by
  refine ⟨0, mc, ms, _, _, ⟨by omega, hc.1, hc.2.1⟩, h.p, fun w z q => ⟨_, zx_g0 q⟩, hX, fun w1 z1 h1 => ?_⟩
  obtain ⟨rfl, g1, g2, fo, g3, g4⟩ := hP w1 z1 h1
  obtain ⟨e1, e2⟩ := zl_end (n := n) h.2.1 hv g1 g2 ⟨fo, g3⟩ hR hn
  exact ⟨σ, σ', r, d, hc.2.2, e1, hM w1 z1, h0, ⟨fo, g3, fun _ => g4⟩, e2⟩
/-- what the wrapper's assertion says: the answer lies in the law's own array -/
def zl_P1 (A : Nat → ClassId) (x : Nat) (v : zg_w) (z : Nat) (τ : zx_S) (fo : Nat → Int64) (r : Int64) : zg_P := fun w1 z1 => ∃ w', zx_P A x v z τ w' z1 ∧ w1 = zg_u w' (x + 96) (.inl (A 2, 1, .inr (.inl (vp_updL fo 0 r))))
theorem zl_P1.of {A : Nat → ClassId} {x z : Nat} {v : zg_w} {τ : zx_S} {fo : Nat → Int64} {r : Int64} : ∀ w z1, zx_P A x v z τ w z1 → zl_P1 A x v z τ fo r (zg_u w (x + 96) (.inl (A 2, 1, .inr (.inl (vp_updL fo 0 r))))) z1 := fun w _ h => ⟨w, h, rfl⟩
theorem zl_P1.ok {A : Nat → ClassId} {x z : Nat} {v : zg_w} {τ : zx_S} {fo : Nat → Int64} {r : Int64} : ∀ w1 z1, zl_P1 A x v z τ fo r w1 z1 → z1 = z ∧ zx_h A x τ w1 ∧ (∀ q, zx_out x q → q ≠ x + 96 → w1 q = v q) ∧ ∃ fo, w1 (x + 96) = some (.inl (A 2, 1, .inr (.inl fo))) ∧ fo 0 = r := by
  rintro w1 z1 ⟨w', ⟨h1, h2, h3⟩, rfl⟩
  exact ⟨h1, fun o ho => by rw [zg_un (by omega)]; exact h2 o ho, fun q hq hne => by rw [zg_un hne]; exact h3 q hq, _, zg_us _ _ _, pk_uLs⟩
theorem zl_P0.ok {A : Nat → ClassId} {x z : Nat} {v w : zg_w} {τ : zx_S} {fo : Nat → Int64} (hw : w (x + 96) = some (.inl (A 2, 1, .inr (.inl fo)))) (hv : v (x + 96) = w (x + 96)) : ∀ w1 z1, zx_P A x v z τ w1 z1 → z1 = z ∧ zx_h A x τ w1 ∧ (∀ q, zx_out x q → q ≠ x + 96 → w1 q = v q) ∧ ∃ f, w1 (x + 96) = some (.inl (A 2, 1, .inr (.inl f))) ∧ f 0 = fo 0 := by
  rintro w1 z1 ⟨h1, h2, h3⟩
  exact ⟨h1, h2, fun q hq _ => h3 q hq, fo, by rw [h3 _ (zx_out_ge (by omega)), hv]; exact hw, rfl⟩
theorem zl_oa {A : Nat → ClassId} {x z : Nat} {v w : zg_w} {τ : zx_S} {fo : Nat → Int64} (hw : w (x + 96) = some (.inl (A 2, 1, .inr (.inl fo)))) (hv : v (x + 96) = w (x + 96)) : ∀ w1 z1, zx_P A x v z τ w1 z1 → w1 (x + 96) = some (.inl (A 2, 1, .inr (.inl fo))) := fun w1 z1 h => by rw [zx_gv h (zx_out_ge (by omega)), hv]; exact hw
/-! the start -/
theorem zm_ini_at {k j : Nat} : ∀ i, (zm_ini i).1 k j = if k = 19 ∧ j < i then -1 else 0
  | 0 => by rw [zm_ini, if_neg (by omega)]; rfl
  | i + 1 => by
    rw [zm_ini, zm_at, zm_ini_at i]
    by_cases h1 : k = 19 ∧ j = i
    · rw [if_pos h1, if_pos (by omega)]
    · rw [if_neg h1]
      by_cases h2 : k = 19 ∧ j < i
      · rw [if_pos h2, if_pos (by omega)]
      · rw [if_neg h2, if_neg (by omega)]
theorem zm_ini_2 {k j : Nat} : ∀ i, (zm_ini i).2 k j = 0
  | 0 => rfl
  | i + 1 => zm_ini_2 i
theorem zl_R0 {A : Nat → ClassId} {x z : Nat} {w : zg_w} (h8 : w (x + 8) = some (.inr (0, [.ref (x + 8 + 1), .int (nI 0)]))) (h9 : w (x + 8 + 1) = some (zx_z16 A)) (hz : x + 97 ≤ z) : zl_R 0 A x (zm_ini 16) (zx_0 x) w z := by
  have e : ∀ k j, k ≠ 19 → (zm_ini 16).1 k j = 0 := fun k j hk => by rw [zm_ini_at, if_neg (by omega)]
  have o8 : zx_out x (x + 8) := fun o ho q => by omega
  have o9 : zx_out x (x + 8 + 1) := fun o ho q => by omega
  refine ⟨0, fun _ => 0, ⟨⟨fun i hi => ?_, fun i hi => ?_, fun p hp i hi => ?_, fun p hp => ?_⟩, ⟨by omega, rfl, e 25 2 (by omega), fun g hg => rfl⟩, ⟨fun g hg => ?_, fun p hp => ⟨0, 0, 0, 0, 0, 0, ⟨rfl, rfl, rfl, rfl, rfl⟩, ⟨by omega, by omega, by omega, by omega, by omega, by omega, by omega, by omega, by omega⟩, ⟨e 15 p (by omega), e 16 p (by omega), e 17 p (by omega), e 18 p (by omega), ?_, e 23 p (by omega)⟩, fun i hi => absurd hi (by omega), fun q => absurd q (by omega)⟩⟩, ⟨0, fun _ => 0, ⟨⟨o8, o9, h8, h9⟩, ⟨o8, Or.inl (by show x + 8 < _; omega)⟩, ⟨o9, Or.inl (by show x + 8 + 1 < _; omega)⟩, by show x + 8 + 1 < z; omega, by omega⟩, e 25 1 (by omega), fun g hg => rfl⟩, fun p hp i hi => absurd hi (by show ¬ i < 0; omega), fun t ht => absurd ht (by omega), fun t u q ht => absurd ht (by omega), hz⟩, fun p hp => ⟨Nat.zero_le _, rfl, e 12 p (by omega)⟩⟩
  · rw [e 0 i (by omega)]; rfl
  · rw [e 1 i (by omega)]; rfl
  · rw [e 2 _ (by omega)]; rfl
  · rw [zm_ini_2]; rfl
  · show (0 : Int32) = _
    rw [zl_sum_0 16 (fun p hp => ?_)]
    unfold zl_am
    rw [e 16 p (by omega)]
    rfl
  · rw [zm_ini_at, if_pos ⟨rfl, hp⟩]; rfl
