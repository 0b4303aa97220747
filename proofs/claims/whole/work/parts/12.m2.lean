set_option maxRecDepth 100000 in
set_option maxHeartbeats 4000000 in
theorem zM_isTicket (l : Launch) (D : va_G) (A : Nat → ClassId) (base : Nat) (mo sz : Nat) (w0 : zg_w) (σ : zm_S) (t : Int32) : zg_Met l zm_M_isTicket zc_M_isTicket 2 (some .boolean) 0 0 0 D A base [.ref mo, .int t] (zm_P A mo w0 sz σ) (some (.int (zb (¬ t < 0 ∧ ¬ σ.1 25 2 ≤ t)))) (zm_P A mo w0 sz σ) := by
  refine zg_met (by decide) (Nat.le_of_ble_eq_true rfl) ?_
  intro K hl hD hA hz hn hnm F E
  subst hl hD hA hz
  show zg_G K (zm_P (zk_A K) mo w0 sz σ) 0 0 0 [(0, .ref mo), (1, .int t)] []
  refine zg_iload_n F 1 rfl rfl dM_isTicket_0 ?_
  by_cases h1 : t < 0
  · have e : zb (¬ t < 0 ∧ ¬ σ.1 25 2 ≤ t) = nI 0 := if_neg (fun q => q.1 h1)
    rw [e] at E
    refine zg_if_ltT F (tgt := 16) dM_isTicket_1 (by decide) (h1) ?_
    refine zg_iconst F (v := nI 0) (by decide) dM_isTicket_16 ?_
    exact zg_zret F E rfl (Nat.zero_le _) (Nat.zero_le _) (fun _ _ h => h) dM_isTicket_17
  · refine zg_if_ltF F dM_isTicket_1 (tgt := 16) (by decide) (h1) ?_
    refine zg_iload_n F 1 rfl rfl dM_isTicket_4 ?_
    refine zg_aload_n F 0 rfl rfl dM_isTicket_5 ?_
    refine zg_get F (fun _ _ h => h.2.1.1) rfl zi_M 8 (by decide) rfl zk_546 rfl dM_isTicket_6 ?_
    by_cases h2 : σ.1 25 2 ≤ t
    · have e : zb (¬ t < 0 ∧ ¬ σ.1 25 2 ≤ t) = nI 0 := if_neg (fun q => q.2 h2)
      rw [e] at E
      refine zg_icmp_geT F (tgt := 16) dM_isTicket_9 (by decide) (h2) ?_
      refine zg_iconst F (v := nI 0) (by decide) dM_isTicket_16 ?_
      exact zg_zret F E rfl (Nat.zero_le _) (Nat.zero_le _) (fun _ _ h => h) dM_isTicket_17
    · have e : zb (¬ t < 0 ∧ ¬ σ.1 25 2 ≤ t) = nI 1 := if_pos ⟨h1, h2⟩
      rw [e] at E
      refine zg_icmp_geF F dM_isTicket_9 (tgt := 16) (by decide) (h2) ?_
      refine zg_iconst F (v := nI 1) (by decide) dM_isTicket_12 ?_
      refine zg_goto F (tgt := 17) dM_isTicket_13 (by decide) ?_
      exact zg_zret F E rfl (Nat.zero_le _) (Nat.zero_le _) (fun _ _ h => h) dM_isTicket_17
set_option maxRecDepth 100000 in
set_option maxHeartbeats 4000000 in
theorem zM_wrong (l : Launch) (D : va_G) (A : Nat → ClassId) (base : Nat) (P : zg_P) (a b : Int32) : zg_Met l zm_M_wrong zc_M_wrong 2 (some .int) 1 0 0 D A base [.int a, .int b] (P) (some (.int (nI (zc_wrong a b)))) (P) := by
  refine zg_met (by decide) (Nat.le_of_ble_eq_true rfl) ?_
  intro K hl hD hA hz hn hnm F E
  subst hl hD hA hz
  show zg_G K (P) 0 0 0 [(0, .int a), (1, .int b)] []
  refine zg_iload_n F 0 rfl rfl dM_wrong_0 ?_
  refine zg_callS F (zM_isFour _ _ _ _ _ _) zv_M_isFour zu_M_isFour zk_632 rfl ⟨by decide, by decide⟩ ⟨by decide, by decide⟩ rfl (Nat.le_of_ble_eq_true rfl) dM_wrong_1 ?_
  by_cases h1 : zz4 a
  · have e1 : zb (zz4 a) = nI 1 := if_pos h1
    refine zg_eqi e1 ?_
    refine zg_if_eqF F dM_wrong_4 (tgt := 14) (by decide) (by decide) ?_
    refine zg_iload_n F 1 rfl rfl dM_wrong_7 ?_
    refine zg_callS F (zM_isFour _ _ _ _ _ _) zv_M_isFour zu_M_isFour zk_632 rfl ⟨by decide, by decide⟩ ⟨by decide, by decide⟩ rfl (Nat.le_of_ble_eq_true rfl) dM_wrong_8 ?_
    by_cases h2 : zz4 b
    · have e2 : zb (zz4 b) = nI 1 := if_pos h2
      refine zg_eqi e2 ?_
      refine zg_if_neT F (tgt := 18) dM_wrong_11 (by decide) (by decide) ?_
      refine zg_iload_n F 0 rfl rfl dM_wrong_18 ?_
      refine zg_iload_n F 1 rfl rfl dM_wrong_19 ?_
      by_cases h3 : a = b
      · have e : zc_wrong a b = 2 := by rw [zc_wrong, if_pos ⟨h1, h2⟩, if_pos h3]
        rw [e] at E
        refine zg_icmp_neF F dM_wrong_20 (tgt := 27) (by decide) (h3) ?_
        refine zg_iconst F (v := nI 2) (by decide) dM_wrong_23 ?_
        refine zg_goto F (tgt := 28) dM_wrong_24 (by decide) ?_
        exact zg_iret F E (Nat.zero_le _) (Nat.zero_le _) (fun _ _ h => h) dM_wrong_28
      · have e : zc_wrong a b = 0 := by rw [zc_wrong, if_pos ⟨h1, h2⟩, if_neg h3]
        rw [e] at E
        refine zg_icmp_neT F (tgt := 27) dM_wrong_20 (by decide) (h3) ?_
        refine zg_iconst F (v := nI 0) (by decide) dM_wrong_27 ?_
        exact zg_iret F E (Nat.zero_le _) (Nat.zero_le _) (fun _ _ h => h) dM_wrong_28
    · have e : zc_wrong a b = 1 := if_neg (fun q => h2 q.2)
      rw [e] at E
      have e2 : zb (zz4 b) = nI 0 := if_neg h2
      refine zg_eqi e2 ?_
      refine zg_if_neF F dM_wrong_11 (tgt := 18) (by decide) (by decide) ?_
      refine zg_iconst F (v := nI 1) (by decide) dM_wrong_14 ?_
      refine zg_goto F (tgt := 28) dM_wrong_15 (by decide) ?_
      exact zg_iret F E (Nat.zero_le _) (Nat.zero_le _) (fun _ _ h => h) dM_wrong_28
  · have e : zc_wrong a b = 1 := if_neg (fun q => h1 q.1)
    rw [e] at E
    have e1 : zb (zz4 a) = nI 0 := if_neg h1
    refine zg_eqi e1 ?_
    refine zg_if_eqT F (tgt := 14) dM_wrong_4 (by decide) (by decide) ?_
    refine zg_iconst F (v := nI 1) (by decide) dM_wrong_14 ?_
    refine zg_goto F (tgt := 28) dM_wrong_15 (by decide) ?_
    exact zg_iret F E (Nat.zero_le _) (Nat.zero_le _) (fun _ _ h => h) dM_wrong_28
set_option maxRecDepth 100000 in
set_option maxHeartbeats 4000000 in
theorem zM_loseOne (l : Launch) (D : va_G) (A : Nat → ClassId) (base : Nat) (mo sz : Nat) (w0 : zg_w) (σ : zm_S) (p : Nat) (hp : p < 16) : zg_Met l zm_M_loseOne zc_M_loseOne 3 (some .int) 0 0 0 D A base [.ref mo, .int (nI p)] (zm_P A mo w0 sz σ) (some (.int (zm_loseN σ p))) (zm_P A mo w0 sz (zm_lose1 σ p)) := by
  refine zg_met (by decide) (Nat.le_of_ble_eq_true rfl) ?_
  intro K hl hD hA hz hn hnm F E
  subst hl hD hA hz
  show zg_G K (zm_P (zk_A K) mo w0 sz σ) 0 0 0 [(0, .ref mo), (1, .int (nI p))] []
  refine zg_aload_n F 0 rfl rfl dM_loseOne_0 ?_
  refine zg_get F (fun _ _ h => h.2.1.1) rfl zi_M 20 (by decide) rfl zk_558 rfl dM_loseOne_1 ?_
  refine zg_iload_n F 1 rfl rfl dM_loseOne_4 ?_
  refine zm_iald F 17 (by decide) rfl (by show _ < 16; omega) rfl dM_loseOne_5 ?_
  by_cases h1 : 0 < σ.1 17 p
  · have e1 : zb (0 < σ.1 17 p) = nI 1 := if_pos h1
    refine zg_if_leF F dM_loseOne_6 (tgt := 13) (by decide) (Int32.not_le.mpr h1) ?_
    refine zg_iconst F (v := nI 1) (by decide) dM_loseOne_9 ?_
    refine zg_goto F (tgt := 14) dM_loseOne_10 (by decide) ?_
    refine zg_aload_n F 0 rfl rfl dM_loseOne_14 ?_
    refine zg_get F (fun _ _ h => h.2.1.1) rfl zi_M 22 (by decide) rfl zk_560 rfl dM_loseOne_15 ?_
    refine zg_iload_n F 1 rfl rfl dM_loseOne_18 ?_
    refine zm_iald F 19 (by decide) rfl (by show _ < 16; omega) rfl dM_loseOne_19 ?_
    by_cases h2 : σ.1 19 p < 0
    · have e : zm_loseN σ p = nI (1 + 0) := by rw [zm_loseN, e1, show zb (¬ σ.1 19 p < 0) = nI 0 from if_neg (fun q => q h2)]; rfl
      rw [e] at E
      refine zg_if_ltT F (tgt := 27) dM_loseOne_20 (by decide) (h2) ?_
      refine zg_iconst F (v := nI 0) (by decide) dM_loseOne_27 ?_
      refine zg_iadd F (by first | exact nI_add _ _ | rfl) dM_loseOne_28 ?_
      refine zg_istore_n F rfl (by rw [hn]; decide) (L' := [(2, _), (0, _), (1, _)]) rfl dM_loseOne_29 ?_
      refine zg_aload_n F 1 rfl rfl dM_loseOne_30 ?_
      refine zg_get F (fun _ _ h => h.2.1.1) rfl zi_M 20 (by decide) rfl zk_558 rfl dM_loseOne_31 ?_
      refine zg_iload_n F 2 rfl rfl dM_loseOne_34 ?_
      refine zg_iconst F (v := nI 0) (by decide) dM_loseOne_35 ?_
      refine zm_iast F 17 (by decide) rfl (by show _ < 16; omega) dM_loseOne_36 ?_
      refine zg_aload_n F 1 rfl rfl dM_loseOne_37 ?_
      refine zg_get F (fun _ _ h => h.2.1.1) rfl zi_M 22 (by decide) rfl zk_560 rfl dM_loseOne_38 ?_
      refine zg_iload_n F 2 rfl rfl dM_loseOne_41 ?_
      refine zg_iconst F (v := -1) (by decide) dM_loseOne_42 ?_
      refine zm_iast F 19 (by decide) rfl (by show _ < 16; omega) dM_loseOne_43 ?_
      refine zg_iload_n F 0 rfl rfl dM_loseOne_44 ?_
      exact zg_iret F E (Nat.zero_le _) (Nat.zero_le _) (fun _ _ h => h) dM_loseOne_45
    · have e : zm_loseN σ p = nI (1 + 1) := by rw [zm_loseN, e1, show zb (¬ σ.1 19 p < 0) = nI 1 from if_pos h2]; rfl
      rw [e] at E
      refine zg_if_ltF F dM_loseOne_20 (tgt := 27) (by decide) (h2) ?_
      refine zg_iconst F (v := nI 1) (by decide) dM_loseOne_23 ?_
      refine zg_goto F (tgt := 28) dM_loseOne_24 (by decide) ?_
      refine zg_iadd F (by first | exact nI_add _ _ | rfl) dM_loseOne_28 ?_
      refine zg_istore_n F rfl (by rw [hn]; decide) (L' := [(2, _), (0, _), (1, _)]) rfl dM_loseOne_29 ?_
      refine zg_aload_n F 1 rfl rfl dM_loseOne_30 ?_
      refine zg_get F (fun _ _ h => h.2.1.1) rfl zi_M 20 (by decide) rfl zk_558 rfl dM_loseOne_31 ?_
      refine zg_iload_n F 2 rfl rfl dM_loseOne_34 ?_
      refine zg_iconst F (v := nI 0) (by decide) dM_loseOne_35 ?_
      refine zm_iast F 17 (by decide) rfl (by show _ < 16; omega) dM_loseOne_36 ?_
      refine zg_aload_n F 1 rfl rfl dM_loseOne_37 ?_
      refine zg_get F (fun _ _ h => h.2.1.1) rfl zi_M 22 (by decide) rfl zk_560 rfl dM_loseOne_38 ?_
      refine zg_iload_n F 2 rfl rfl dM_loseOne_41 ?_
      refine zg_iconst F (v := -1) (by decide) dM_loseOne_42 ?_
      refine zm_iast F 19 (by decide) rfl (by show _ < 16; omega) dM_loseOne_43 ?_
      refine zg_iload_n F 0 rfl rfl dM_loseOne_44 ?_
      exact zg_iret F E (Nat.zero_le _) (Nat.zero_le _) (fun _ _ h => h) dM_loseOne_45
  · have e1 : zb (0 < σ.1 17 p) = nI 0 := if_neg h1
    refine zg_if_leT F (tgt := 13) dM_loseOne_6 (by decide) (Int32.not_lt.mp h1) ?_
    refine zg_iconst F (v := nI 0) (by decide) dM_loseOne_13 ?_
    refine zg_aload_n F 0 rfl rfl dM_loseOne_14 ?_
    refine zg_get F (fun _ _ h => h.2.1.1) rfl zi_M 22 (by decide) rfl zk_560 rfl dM_loseOne_15 ?_
    refine zg_iload_n F 1 rfl rfl dM_loseOne_18 ?_
    refine zm_iald F 19 (by decide) rfl (by show _ < 16; omega) rfl dM_loseOne_19 ?_
    by_cases h2 : σ.1 19 p < 0
    · have e : zm_loseN σ p = nI (0 + 0) := by rw [zm_loseN, e1, show zb (¬ σ.1 19 p < 0) = nI 0 from if_neg (fun q => q h2)]; rfl
      rw [e] at E
      refine zg_if_ltT F (tgt := 27) dM_loseOne_20 (by decide) (h2) ?_
      refine zg_iconst F (v := nI 0) (by decide) dM_loseOne_27 ?_
      refine zg_iadd F (by first | exact nI_add _ _ | rfl) dM_loseOne_28 ?_
      refine zg_istore_n F rfl (by rw [hn]; decide) (L' := [(2, _), (0, _), (1, _)]) rfl dM_loseOne_29 ?_
      refine zg_aload_n F 1 rfl rfl dM_loseOne_30 ?_
      refine zg_get F (fun _ _ h => h.2.1.1) rfl zi_M 20 (by decide) rfl zk_558 rfl dM_loseOne_31 ?_
      refine zg_iload_n F 2 rfl rfl dM_loseOne_34 ?_
      refine zg_iconst F (v := nI 0) (by decide) dM_loseOne_35 ?_
      refine zm_iast F 17 (by decide) rfl (by show _ < 16; omega) dM_loseOne_36 ?_
      refine zg_aload_n F 1 rfl rfl dM_loseOne_37 ?_
      refine zg_get F (fun _ _ h => h.2.1.1) rfl zi_M 22 (by decide) rfl zk_560 rfl dM_loseOne_38 ?_
      refine zg_iload_n F 2 rfl rfl dM_loseOne_41 ?_
      refine zg_iconst F (v := -1) (by decide) dM_loseOne_42 ?_
      refine zm_iast F 19 (by decide) rfl (by show _ < 16; omega) dM_loseOne_43 ?_
      refine zg_iload_n F 0 rfl rfl dM_loseOne_44 ?_
      exact zg_iret F E (Nat.zero_le _) (Nat.zero_le _) (fun _ _ h => h) dM_loseOne_45
    · have e : zm_loseN σ p = nI (0 + 1) := by rw [zm_loseN, e1, show zb (¬ σ.1 19 p < 0) = nI 1 from if_pos h2]; rfl
      rw [e] at E
      refine zg_if_ltF F dM_loseOne_20 (tgt := 27) (by decide) (h2) ?_
      refine zg_iconst F (v := nI 1) (by decide) dM_loseOne_23 ?_
      refine zg_goto F (tgt := 28) dM_loseOne_24 (by decide) ?_
      refine zg_iadd F (by first | exact nI_add _ _ | rfl) dM_loseOne_28 ?_
      refine zg_istore_n F rfl (by rw [hn]; decide) (L' := [(2, _), (0, _), (1, _)]) rfl dM_loseOne_29 ?_
      refine zg_aload_n F 1 rfl rfl dM_loseOne_30 ?_
      refine zg_get F (fun _ _ h => h.2.1.1) rfl zi_M 20 (by decide) rfl zk_558 rfl dM_loseOne_31 ?_
      refine zg_iload_n F 2 rfl rfl dM_loseOne_34 ?_
      refine zg_iconst F (v := nI 0) (by decide) dM_loseOne_35 ?_
      refine zm_iast F 17 (by decide) rfl (by show _ < 16; omega) dM_loseOne_36 ?_
      refine zg_aload_n F 1 rfl rfl dM_loseOne_37 ?_
      refine zg_get F (fun _ _ h => h.2.1.1) rfl zi_M 22 (by decide) rfl zk_560 rfl dM_loseOne_38 ?_
      refine zg_iload_n F 2 rfl rfl dM_loseOne_41 ?_
      refine zg_iconst F (v := -1) (by decide) dM_loseOne_42 ?_
      refine zm_iast F 19 (by decide) rfl (by show _ < 16; omega) dM_loseOne_43 ?_
      refine zg_iload_n F 0 rfl rfl dM_loseOne_44 ?_
      exact zg_iret F E (Nat.zero_le _) (Nat.zero_le _) (fun _ _ h => h) dM_loseOne_45
set_option maxRecDepth 100000 in
set_option maxHeartbeats 4000000 in
theorem zM_enclose (l : Launch) (D : va_G) (A : Nat → ClassId) (base : Nat) (mo sz : Nat) (w0 : zg_w) (σ : zm_S) (a b leg bx : Nat) (n : Int32) (ha : a < 4) (hb : b < 4) (hl : leg < 16) (hx : bx < 8) (he : σ.1 16 (4 * a + b) = nI bx) : zg_Met l zm_M_enclose zc_M_enclose 7 (some .int) 0 0 0 D A base [.ref mo, .int (nI a), .int (nI b), .int (nI leg), .int n] (zm_P A mo w0 sz σ) (some (.int ((zm_encl σ a b leg bx n).1 15 (4 * a + b)))) (zm_P A mo w0 sz (zm_encl σ a b leg bx n)) := by
  refine zg_met (by decide) (Nat.le_of_ble_eq_true rfl) ?_
  intro K hl0 hD hA hz hn hnm F E
  subst hl0 hD hA hz
  show zg_G K (zm_P (zk_A K) mo w0 sz σ) 0 0 0 [(0, .ref mo), (1, .int (nI a)), (2, .int (nI b)), (3, .int (nI leg)), (4, .int n)] []
  refine zg_iconst F (v := nI 4) (by decide) dM_enclose_0 ?_
  refine zg_iload_n F 1 rfl rfl dM_enclose_1 ?_
  refine zg_imul F (by first | exact pk_mul _ _ | rfl) dM_enclose_2 ?_
  refine zg_iload_n F 2 rfl rfl dM_enclose_3 ?_
  refine zg_iadd F (by first | exact nI_add _ _ | rfl) dM_enclose_4 ?_
  refine zg_istore F (by rw [hn]; decide) (L' := [(5, _), (0, _), (1, _), (2, _), (3, _), (4, _)]) rfl dM_enclose_5 ?_
  refine zg_aload_n F 1 rfl rfl dM_enclose_7 ?_
  refine zg_get F (fun _ _ h => h.2.1.1) rfl zi_M 18 (by decide) rfl zk_556 rfl dM_enclose_8 ?_
  refine zg_iload F 0 rfl dM_enclose_11 ?_
  refine zg_dup2 F rfl rfl dM_enclose_13 ?_
  refine zm_iald F 15 (by decide) rfl (by show _ < 16; omega) rfl dM_enclose_14 ?_
  refine zg_iconst F (v := nI 1) (by decide) dM_enclose_15 ?_
  refine zg_iadd F (by first | exact nI_add _ _ | rfl) dM_enclose_16 ?_
  refine zm_iast F 15 (by decide) rfl (by show _ < 16; omega) dM_enclose_17 ?_
  refine zg_bipush F (v := nI 8) (by decide) dM_enclose_18 ?_
  refine zg_iload F 0 rfl dM_enclose_20 ?_
  refine zg_imul F (by first | exact pk_mul _ _ | rfl) dM_enclose_22 ?_
  refine zg_aload_n F 1 rfl rfl dM_enclose_23 ?_
  refine zg_get F (fun _ _ h => h.2.1.1) rfl zi_M 19 (by decide) rfl zk_557 rfl dM_enclose_24 ?_
  refine zg_iload F 0 rfl dM_enclose_27 ?_
  refine zm_iald F 16 (by decide) rfl (by show _ < 16; omega) rfl dM_enclose_29 ?_
  refine zg_eqi (he) ?_
  refine zg_iadd F (by first | exact nI_add _ _ | rfl) dM_enclose_30 ?_
  refine zg_istore F (by rw [hn]; decide) (L' := [(6, _), (5, _), (0, _), (1, _), (2, _), (3, _), (4, _)]) rfl dM_enclose_31 ?_
  refine zg_aload_n F 2 rfl rfl dM_enclose_33 ?_
  refine zg_get F (fun _ _ h => h.2.1.1) rfl zi_M 23 (by decide) rfl zk_561 rfl dM_enclose_34 ?_
  refine zg_iload F 0 rfl dM_enclose_37 ?_
  refine zg_aload_n F 2 rfl rfl dM_enclose_39 ?_
  refine zg_get F (fun _ _ h => h.2.1.1) rfl zi_M 18 (by decide) rfl zk_556 rfl dM_enclose_40 ?_
  refine zg_iload F 1 rfl dM_enclose_43 ?_
  refine zm_iald F 15 (by decide) rfl (by show _ < 16; omega) rfl dM_enclose_45 ?_
  refine zm_iast F 20 (by decide) rfl (by show _ < 128; omega) dM_enclose_46 ?_
  refine zg_aload_n F 2 rfl rfl dM_enclose_47 ?_
  refine zg_get F (fun _ _ h => h.2.1.1) rfl zi_M 24 (by decide) rfl zk_562 rfl dM_enclose_48 ?_
  refine zg_iload F 0 rfl dM_enclose_51 ?_
  refine zg_iload_n F 5 rfl rfl dM_enclose_53 ?_
  refine zm_iast F 21 (by decide) rfl (by show _ < 128; omega) dM_enclose_54 ?_
  refine zg_aload_n F 2 rfl rfl dM_enclose_55 ?_
  refine zg_get F (fun _ _ h => h.2.1.1) rfl zi_M 25 (by decide) rfl zk_563 rfl dM_enclose_56 ?_
  refine zg_iload F 0 rfl dM_enclose_59 ?_
  refine zg_iload F 6 rfl dM_enclose_61 ?_
  refine zm_iast F 22 (by decide) rfl (by show _ < 128; omega) dM_enclose_63 ?_
  refine zg_aload_n F 2 rfl rfl dM_enclose_64 ?_
  refine zg_get F (fun _ _ h => h.2.1.1) rfl zi_M 19 (by decide) rfl zk_557 rfl dM_enclose_65 ?_
  refine zg_iload F 1 rfl dM_enclose_68 ?_
  refine zg_dup2 F rfl rfl dM_enclose_70 ?_
  refine zm_iald F 16 (by decide) rfl (by show _ < 16; omega) rfl dM_enclose_71 ?_
  refine zg_eqi (he) ?_
  refine zg_iconst F (v := nI 1) (by decide) dM_enclose_72 ?_
  refine zg_iadd F (by first | exact nI_add _ _ | rfl) dM_enclose_73 ?_
  refine zm_iast F 16 (by decide) rfl (by show _ < 16; omega) dM_enclose_74 ?_
  refine zg_aload_n F 2 rfl rfl dM_enclose_75 ?_
  refine zg_get F (fun _ _ h => h.2.1.1) rfl zi_M 3 (by decide) rfl zk_541 rfl dM_enclose_76 ?_
  refine zg_bipush F (v := nI 16) (by decide) dM_enclose_79 ?_
  refine zg_iload_n F 3 rfl rfl dM_enclose_81 ?_
  refine zg_imul F (by first | exact pk_mul _ _ | rfl) dM_enclose_82 ?_
  refine zg_iload_n F 5 rfl rfl dM_enclose_83 ?_
  refine zg_iadd F (by first | exact nI_add _ _ | rfl) dM_enclose_84 ?_
  refine zg_aload_n F 2 rfl rfl dM_enclose_85 ?_
  refine zg_get F (fun _ _ h => h.2.1.1) rfl zi_M 3 (by decide) rfl zk_541 rfl dM_enclose_86 ?_
  refine zg_bipush F (v := nI 16) (by decide) dM_enclose_89 ?_
  refine zg_iload_n F 3 rfl rfl dM_enclose_91 ?_
  refine zg_imul F (by first | exact pk_mul _ _ | rfl) dM_enclose_92 ?_
  refine zg_iload_n F 5 rfl rfl dM_enclose_93 ?_
  refine zg_iadd F (by first | exact nI_add _ _ | rfl) dM_enclose_94 ?_
  refine zm_iald F 2 (by decide) rfl (by show _ < 64; omega) rfl dM_enclose_95 ?_
  refine zg_iload F 6 rfl dM_enclose_96 ?_
  refine zg_isub F rfl dM_enclose_98 ?_
  refine zm_iast F 2 (by decide) rfl (by show _ < 64; omega) dM_enclose_99 ?_
  refine zg_aload_n F 2 rfl rfl dM_enclose_100 ?_
  refine zg_get F (fun _ _ h => h.2.1.1) rfl zi_M 18 (by decide) rfl zk_556 rfl dM_enclose_101 ?_
  refine zg_iload F 1 rfl dM_enclose_104 ?_
  refine zm_iald F 15 (by decide) rfl (by show _ < 16; omega) rfl dM_enclose_106 ?_
  exact zg_iret F E (Nat.zero_le _) (Nat.zero_le _) (fun _ _ h => h) dM_enclose_107
theorem zm_fits01 (σ : zm_S) (port at' parts : Nat) (n : Int32) : ∀ i, zm_fits σ port at' parts n i = nI 0 ∨ zm_fits σ port at' parts n i = nI 1
  | 0 => Or.inr rfl
  | i + 1 => by
    rw [zm_fits]
    split
    · exact Or.inl rfl
    · split
      · exact Or.inr rfl
      · exact Or.inl rfl
set_option maxRecDepth 100000 in
set_option maxHeartbeats 4000000 in
theorem zM_fits (l : Launch) (D : va_G) (A : Nat → ClassId) (base : Nat) (mo sz : Nat) (w0 : zg_w) (σ : zm_S) (port at' parts : Nat) (n : Int32) (h0 : port < 4) (h1 : at' + parts ≤ 420) : zg_Met l zm_M_fits zc_M_fits 7 (some .boolean) 1 0 0 D A base [.ref mo, .int (nI port), .int (nI at'), .int (nI parts), .int n] (zm_P A mo w0 sz σ) (some (.int (zm_fits σ port at' parts n 16))) (zm_P A mo w0 sz σ) := by
  refine zg_met (by decide) (Nat.le_of_ble_eq_true rfl) ?_
  intro K hl hD hA hz hn hnm F E
  subst hl hD hA hz
  show zg_G K (zm_P (zk_A K) mo w0 sz σ) 0 0 0 [(0, .ref mo), (1, .int (nI port)), (2, .int (nI at')), (3, .int (nI parts)), (4, .int n)] []
  refine zg_iconst F (v := nI 1) (by decide) dM_fits_0 ?_
  refine zg_istore F (by rw [hn]; decide) (L' := [(5, _), (0, _), (1, _), (2, _), (3, _), (4, _)]) rfl dM_fits_1 ?_
  refine zg_iconst F (v := nI 0) (by decide) dM_fits_3 ?_
  refine zg_istore F (by rw [hn]; decide) (L' := [(6, _), (5, _), (0, _), (1, _), (2, _), (3, _), (4, _)]) rfl dM_fits_4 ?_
  have loop : ∀ r i, i + r = 16 → zg_G K (zm_P (zk_A K) mo w0 sz σ) 0 0 6 [(6, .int (nI i)), (5, .int (zm_fits σ port at' parts n i)), (0, .ref mo), (1, .int (nI port)), (2, .int (nI at')), (3, .int (nI parts)), (4, .int n)] [] := by
    intro r
    induction r with
    | zero =>
      intro i hi
      obtain rfl : i = 16 := by omega
      refine zg_iload F 0 rfl dM_fits_6 ?_
      refine zg_bipush F (v := nI 16) (by decide) dM_fits_8 ?_
      refine zg_icmp_geT F (tgt := 57) dM_fits_10 (by decide) (nI_le (by omega) (by omega)) ?_
      refine zg_iload F 1 rfl dM_fits_57 ?_
      rcases zm_fits01 σ port at' parts n 16 with e | e
      · rw [e] at E ⊢; exact zg_zret F E rfl (Nat.zero_le _) (Nat.zero_le _) (fun _ _ h => h) dM_fits_59
      · rw [e] at E ⊢; exact zg_zret F E rfl (Nat.zero_le _) (Nat.zero_le _) (fun _ _ h => h) dM_fits_59
    | succ r ih =>
      intro i hi
      refine zg_iload F 0 rfl dM_fits_6 ?_
      refine zg_bipush F (v := nI 16) (by decide) dM_fits_8 ?_
      refine zg_icmp_geF F dM_fits_10 (tgt := 57) (by decide) (nI_ge (by omega) (by omega)) ?_
      refine zg_iload F 1 rfl dM_fits_13 ?_
      refine zg_if_eq F (tgt := 48) dM_fits_15 (by decide) (fun g1 => ?_) (fun g1 => ?_)
      · refine zg_iconst F (v := nI 0) (by decide) dM_fits_48 ?_
        refine zg_istore F (by rw [hn]; decide) (L' := [(5, _), (6, _), (0, _), (1, _), (2, _), (3, _), (4, _)]) rfl dM_fits_49 ?_
        refine zg_iinc F 1 rfl (by first | exact zc_inc _ | rfl) (by rw [hn]; decide) (L' := [(6, _), (5, _), (0, _), (1, _), (2, _), (3, _), (4, _)]) rfl dM_fits_51 ?_
        refine zg_goto F (tgt := 6) dM_fits_54 (by decide) ?_
        have e : zm_fits σ port at' parts n (i + 1) = nI 0 := by rw [zm_fits, if_pos g1]
        have g := ih (i + 1) (by omega)
        rw [e] at g
        exact g
      · refine zg_iload F 6 rfl dM_fits_18 ?_
        refine zg_aload_n F 2 rfl rfl dM_fits_20 ?_
        refine zg_iload_n F 4 rfl rfl dM_fits_21 ?_
        refine zg_iload_n F 5 rfl rfl dM_fits_22 ?_
        refine zg_iload F 0 rfl dM_fits_23 ?_
        refine zg_callV F (zM_lies _ _ _ _ _ _ _ _ at' parts i (by omega) (by omega)) zv_M_lies zu_M_lies zk_656 (fun _ _ h => h.2.1.1) rfl rfl ⟨by decide, by decide⟩ ⟨by decide, by decide⟩ rfl (Nat.le_of_ble_eq_true rfl) dM_fits_25 ?_
        refine zg_imul F (by first | exact pk_mul _ _ | rfl) dM_fits_28 ?_
        refine zg_aload_n F 2 rfl rfl dM_fits_29 ?_
        refine zg_get F (fun _ _ h => h.2.1.1) rfl zi_M 3 (by decide) rfl zk_541 rfl dM_fits_30 ?_
        refine zg_bipush F (v := nI 16) (by decide) dM_fits_33 ?_
        refine zg_iload_n F 3 rfl rfl dM_fits_35 ?_
        refine zg_imul F (by first | exact pk_mul _ _ | rfl) dM_fits_36 ?_
        refine zg_iload F 0 rfl dM_fits_37 ?_
        refine zg_iadd F (by first | exact nI_add _ _ | rfl) dM_fits_39 ?_
        refine zm_iald F 2 (by decide) rfl (by show _ < 64; omega) rfl dM_fits_40 ?_
        refine zg_icmp_gt F (tgt := 48) dM_fits_41 (by decide) (fun g2 => ?_) (fun g2 => ?_)
        · refine zg_iconst F (v := nI 0) (by decide) dM_fits_48 ?_
          refine zg_istore F (by rw [hn]; decide) (L' := [(5, _), (6, _), (0, _), (1, _), (2, _), (3, _), (4, _)]) rfl dM_fits_49 ?_
          refine zg_iinc F 1 rfl (by first | exact zc_inc _ | rfl) (by rw [hn]; decide) (L' := [(6, _), (5, _), (0, _), (1, _), (2, _), (3, _), (4, _)]) rfl dM_fits_51 ?_
          refine zg_goto F (tgt := 6) dM_fits_54 (by decide) ?_
          have e : zm_fits σ port at' parts n (i + 1) = nI 0 := by rw [zm_fits, if_neg g1, if_neg (Int32.not_le.mpr g2)]
          have g := ih (i + 1) (by omega)
          rw [e] at g
          exact g
        · refine zg_iconst F (v := nI 1) (by decide) dM_fits_44 ?_
          refine zg_goto F (tgt := 49) dM_fits_45 (by decide) ?_
          refine zg_istore F (by rw [hn]; decide) (L' := [(5, _), (6, _), (0, _), (1, _), (2, _), (3, _), (4, _)]) rfl dM_fits_49 ?_
          refine zg_iinc F 1 rfl (by first | exact zc_inc _ | rfl) (by rw [hn]; decide) (L' := [(6, _), (5, _), (0, _), (1, _), (2, _), (3, _), (4, _)]) rfl dM_fits_51 ?_
          refine zg_goto F (tgt := 6) dM_fits_54 (by decide) ?_
          have e : zm_fits σ port at' parts n (i + 1) = nI 1 := by rw [zm_fits, if_neg g1, if_pos (Int32.not_lt.mp g2)]
          have g := ih (i + 1) (by omega)
          rw [e] at g
          exact g
  exact loop 16 0 rfl
set_option maxRecDepth 100000 in
set_option maxHeartbeats 4000000 in
theorem zM_give (l : Launch) (D : va_G) (A : Nat → ClassId) (base : Nat) (mo sz : Nat) (w0 : zg_w) (σ : zm_S) (port at' parts : Nat) (n : Int32) (h0 : port < 4) (h1 : at' + parts ≤ 420) : zg_Met l zm_M_give zc_M_give 6 none 1 0 0 D A base [.ref mo, .int (nI port), .int (nI at'), .int (nI parts), .int n] (zm_P A mo w0 sz σ) none (zm_P A mo w0 sz (zm_give σ port at' parts n 16)) := by
  refine zg_met (by decide) (Nat.le_of_ble_eq_true rfl) ?_
  intro K hl hD hA hz hn hnm F E
  subst hl hD hA hz
  show zg_G K (zm_P (zk_A K) mo w0 sz σ) 0 0 0 [(0, .ref mo), (1, .int (nI port)), (2, .int (nI at')), (3, .int (nI parts)), (4, .int n)] []
  refine zg_iconst F (v := nI 0) (by decide) dM_give_0 ?_
  refine zg_istore F (by rw [hn]; decide) (L' := [(5, _), (0, _), (1, _), (2, _), (3, _), (4, _)]) rfl dM_give_1 ?_
  have loop : ∀ r i, i + r = 16 → zg_G K (zm_P (zk_A K) mo w0 sz (zm_give σ port at' parts n i)) 0 0 3 [(5, .int (nI i)), (0, .ref mo), (1, .int (nI port)), (2, .int (nI at')), (3, .int (nI parts)), (4, .int n)] [] := by
    intro r
    induction r with
    | zero =>
      intro i hi
      obtain rfl : i = 16 := by omega
      refine zg_iload F 0 rfl dM_give_3 ?_
      refine zg_bipush F (v := nI 16) (by decide) dM_give_5 ?_
      refine zg_icmp_geT F (tgt := 52) dM_give_7 (by decide) (nI_le (by omega) (by omega)) ?_
      exact zg_vret F E (Nat.zero_le _) (Nat.zero_le _) (fun _ _ h => h) dM_give_52
    | succ r ih =>
      intro i hi
      refine zg_iload F 0 rfl dM_give_3 ?_
      refine zg_bipush F (v := nI 16) (by decide) dM_give_5 ?_
      refine zg_icmp_geF F dM_give_7 (tgt := 52) (by decide) (nI_ge (by omega) (by omega)) ?_
      refine zg_aload_n F 1 rfl rfl dM_give_10 ?_
      refine zg_get F (fun _ _ h => h.2.1.1) rfl zi_M 3 (by decide) rfl zk_541 rfl dM_give_11 ?_
      refine zg_bipush F (v := nI 16) (by decide) dM_give_14 ?_
      refine zg_iload_n F 2 rfl rfl dM_give_16 ?_
      refine zg_imul F (by first | exact pk_mul _ _ | rfl) dM_give_17 ?_
      refine zg_iload F 0 rfl dM_give_18 ?_
      refine zg_iadd F (by first | exact nI_add _ _ | rfl) dM_give_20 ?_
      refine zg_aload_n F 1 rfl rfl dM_give_21 ?_
      refine zg_get F (fun _ _ h => h.2.1.1) rfl zi_M 3 (by decide) rfl zk_541 rfl dM_give_22 ?_
      refine zg_bipush F (v := nI 16) (by decide) dM_give_25 ?_
      refine zg_iload_n F 2 rfl rfl dM_give_27 ?_
      refine zg_imul F (by first | exact pk_mul _ _ | rfl) dM_give_28 ?_
      refine zg_iload F 0 rfl dM_give_29 ?_
      refine zg_iadd F (by first | exact nI_add _ _ | rfl) dM_give_31 ?_
      refine zm_iald F 2 (by decide) rfl (by show _ < 64; omega) rfl dM_give_32 ?_
      refine zg_iload F 5 rfl dM_give_33 ?_
      refine zg_aload_n F 1 rfl rfl dM_give_35 ?_
      refine zg_iload_n F 3 rfl rfl dM_give_36 ?_
      refine zg_iload_n F 4 rfl rfl dM_give_37 ?_
      refine zg_iload F 0 rfl dM_give_38 ?_
      refine zg_callV F (zM_lies _ _ _ _ _ _ _ _ at' parts i (by omega) (by omega)) zv_M_lies zu_M_lies zk_656 (fun _ _ h => h.2.1.1) rfl rfl ⟨by decide, by decide⟩ ⟨by decide, by decide⟩ rfl (Nat.le_of_ble_eq_true rfl) dM_give_40 ?_
      refine zg_imul F (by first | exact pk_mul _ _ | rfl) dM_give_43 ?_
      refine zg_iadd F (by first | exact nI_add _ _ | rfl) dM_give_44 ?_
      refine zm_iast F 2 (by decide) rfl (by show _ < 64; omega) dM_give_45 ?_
      refine zg_iinc F 0 rfl (by first | exact zc_inc _ | rfl) (by rw [hn]; decide) (L' := [(5, _), (0, _), (1, _), (2, _), (3, _), (4, _)]) rfl dM_give_46 ?_
      refine zg_goto F (tgt := 3) dM_give_49 (by decide) ?_
      exact ih (i + 1) (by omega)
  exact loop 16 0 rfl
set_option maxRecDepth 100000 in
set_option maxHeartbeats 4000000 in
theorem zM_copy (l : Launch) (D : va_G) (A : Nat → ClassId) (base : Nat) (mo sz : Nat) (w0 : zg_w) (σ : zm_S) (tg at' parts : Nat) (h0 : tg + parts ≤ 420) (h1 : at' + parts ≤ 420) : zg_Met l zm_M_copy zc_M_copy 5 none 0 0 0 D A base [.ref mo, .int (nI tg), .int (nI at'), .int (nI parts)] (zm_P A mo w0 sz σ) none (zm_P A mo w0 sz (zm_copy σ tg at' parts)) := by
  refine zg_met (by decide) (Nat.le_of_ble_eq_true rfl) ?_
  intro K hl hD hA hz hn hnm F E
  subst hl hD hA hz
  show zg_G K (zm_P (zk_A K) mo w0 sz σ) 0 0 0 [(0, .ref mo), (1, .int (nI tg)), (2, .int (nI at')), (3, .int (nI parts))] []
  refine zg_iconst F (v := nI 0) (by decide) dM_copy_0 ?_
  refine zg_istore F (by rw [hn]; decide) (L' := [(4, _), (0, _), (1, _), (2, _), (3, _)]) rfl dM_copy_1 ?_
  have loop : ∀ r i, i + r = parts → zg_G K (zm_P (zk_A K) mo w0 sz (zm_copy σ tg at' i)) 0 0 3 [(4, .int (nI i)), (0, .ref mo), (1, .int (nI tg)), (2, .int (nI at')), (3, .int (nI parts))] [] := by
    intro r
    induction r with
    | zero =>
      intro i hi
      obtain rfl : i = parts := by omega
      refine zg_iload F 0 rfl dM_copy_3 ?_
      refine zg_iload_n F 4 rfl rfl dM_copy_5 ?_
      refine zg_icmp_geT F (tgt := 69) dM_copy_6 (by decide) (nI_le (by omega) (by omega)) ?_
      exact zg_vret F E (Nat.zero_le _) (Nat.zero_le _) (fun _ _ h => h) dM_copy_69
    | succ r ih =>
      intro i hi
      refine zg_iload F 0 rfl dM_copy_3 ?_
      refine zg_iload_n F 4 rfl rfl dM_copy_5 ?_
      refine zg_icmp_geF F dM_copy_6 (tgt := 69) (by decide) (nI_ge (by omega) (by omega)) ?_
      refine zg_aload_n F 1 rfl rfl dM_copy_9 ?_
      refine zg_get F (fun _ _ h => h.2.1.1) rfl zi_M 4 (by decide) rfl zk_542 rfl dM_copy_10 ?_
      refine zg_iload_n F 2 rfl rfl dM_copy_13 ?_
      refine zg_iload F 0 rfl dM_copy_14 ?_
      refine zg_iadd F (by first | exact nI_add _ _ | rfl) dM_copy_16 ?_
      refine zg_aload_n F 1 rfl rfl dM_copy_17 ?_
      refine zg_get F (fun _ _ h => h.2.1.1) rfl zi_M 4 (by decide) rfl zk_542 rfl dM_copy_18 ?_
      refine zg_iload_n F 3 rfl rfl dM_copy_21 ?_
      refine zg_iload F 0 rfl dM_copy_22 ?_
      refine zg_iadd F (by first | exact nI_add _ _ | rfl) dM_copy_24 ?_
      refine zm_iald F 3 (by decide) rfl (by show _ < 420; omega) rfl dM_copy_25 ?_
      refine zm_iast F 3 (by decide) rfl (by show _ < 420; omega) dM_copy_26 ?_
      refine zg_aload_n F 1 rfl rfl dM_copy_27 ?_
      refine zg_get F (fun _ _ h => h.2.1.1) rfl zi_M 5 (by decide) rfl zk_543 rfl dM_copy_28 ?_
      refine zg_iload_n F 2 rfl rfl dM_copy_31 ?_
      refine zg_iload F 0 rfl dM_copy_32 ?_
      refine zg_iadd F (by first | exact nI_add _ _ | rfl) dM_copy_34 ?_
      refine zg_aload_n F 1 rfl rfl dM_copy_35 ?_
      refine zg_get F (fun _ _ h => h.2.1.1) rfl zi_M 5 (by decide) rfl zk_543 rfl dM_copy_36 ?_
      refine zg_iload_n F 3 rfl rfl dM_copy_39 ?_
      refine zg_iload F 0 rfl dM_copy_40 ?_
      refine zg_iadd F (by first | exact nI_add _ _ | rfl) dM_copy_42 ?_
      refine zm_iald F 4 (by decide) rfl (by show _ < 420; omega) rfl dM_copy_43 ?_
      refine zm_iast F 4 (by decide) rfl (by show _ < 420; omega) dM_copy_44 ?_
      refine zg_aload_n F 1 rfl rfl dM_copy_45 ?_
      refine zg_get F (fun _ _ h => h.2.1.1) rfl zi_M 6 (by decide) rfl zk_544 rfl dM_copy_46 ?_
      refine zg_iload_n F 2 rfl rfl dM_copy_49 ?_
      refine zg_iload F 0 rfl dM_copy_50 ?_
      refine zg_iadd F (by first | exact nI_add _ _ | rfl) dM_copy_52 ?_
      refine zg_aload_n F 1 rfl rfl dM_copy_53 ?_
      refine zg_get F (fun _ _ h => h.2.1.1) rfl zi_M 6 (by decide) rfl zk_544 rfl dM_copy_54 ?_
      refine zg_iload_n F 3 rfl rfl dM_copy_57 ?_
      refine zg_iload F 0 rfl dM_copy_58 ?_
      refine zg_iadd F (by first | exact nI_add _ _ | rfl) dM_copy_60 ?_
      refine zm_iald F 5 (by decide) rfl (by show _ < 420; omega) rfl dM_copy_61 ?_
      refine zm_iast F 5 (by decide) rfl (by show _ < 420; omega) dM_copy_62 ?_
      refine zg_iinc F 0 rfl (by first | exact zc_inc _ | rfl) (by rw [hn]; decide) (L' := [(4, _), (0, _), (1, _), (2, _), (3, _)]) rfl dM_copy_63 ?_
      refine zg_goto F (tgt := 3) dM_copy_66 (by decide) ?_
      exact ih (i + 1) (by omega)
  exact loop parts 0 (by omega)
