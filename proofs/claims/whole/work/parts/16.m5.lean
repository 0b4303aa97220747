theorem zb_t {p : Prop} [Decidable p] (h : p) : zb p = nI 1 := if_pos h
theorem zb_f {p : Prop} [Decidable p] (h : ¬ p) : zb p = nI 0 := if_neg h
set_option maxRecDepth 100000 in
set_option maxHeartbeats 4000000 in
theorem zM_open_bad (l : Launch) (D : va_G) (A : Nat → ClassId) (base : Nat) (mo sz : Nat) (w0 : zg_w) (σ : zm_S) (s seats : Int32) (h : ¬ zz4 s) : zg_Met l zm_M_open zc_M_open 4 none 1 0 0 D A base [.ref mo, .int s, .int seats] (zm_P A mo w0 sz σ) none (zm_P A mo w0 sz (zm_f σ 1)) := by
  refine zg_met (by decide) (Nat.le_of_ble_eq_true rfl) ?_
  intro K hl hD hA hz hn hnm F E
  subst hl hD hA hz
  show zg_G K (zm_P (zk_A K) mo w0 sz σ) 0 0 0 [(0, .ref mo), (1, .int s), (2, .int seats)] []
  refine zg_aload_n F 0 rfl rfl dM_open_0 ?_
  refine zg_iload_n F 1 rfl rfl dM_open_1 ?_
  refine zg_callS F (zM_isFour _ _ _ _ _ _) zv_M_isFour zu_M_isFour zk_632 rfl ⟨by decide, by decide⟩ ⟨by decide, by decide⟩ rfl (Nat.le_of_ble_eq_true rfl) dM_open_2 ?_
  refine zg_eqi (y := nI 0) (zb_f (h)) ?_
  refine zg_if_neF F dM_open_5 (tgt := 12) (by decide) (rfl) ?_
  refine zg_iconst F (v := nI 1) (by decide) dM_open_8 ?_
  refine zg_goto F (tgt := 41) dM_open_9 (by decide) ?_
  refine zg_callV F (zM_refused _ _ _ _ _ _ _ _ _) zv_M_refused zu_M_refused zk_635 (fun _ _ h => h.2.1.1) rfl rfl ⟨by decide, by decide⟩ ⟨by decide, by decide⟩ rfl (Nat.le_of_ble_eq_true rfl) dM_open_41 ?_
  refine zg_eqi (zb_1 (by omega) (by omega)) ?_
  refine zg_if_eqF F dM_open_44 (tgt := 48) (by decide) (by decide) ?_
  exact zg_vret F E (Nat.zero_le _) (Nat.zero_le _) (fun _ _ h => h) dM_open_47
set_option maxRecDepth 100000 in
set_option maxHeartbeats 4000000 in
theorem zM_open (l : Launch) (D : va_G) (A : Nat → ClassId) (base : Nat) (mo sz : Nat) (w0 : zg_w) (σ : zm_S) (s : Nat) (seats : Int32) (hs : s < 4) : zg_Met l zm_M_open zc_M_open 4 none 1 0 0 D A base [.ref mo, .int (nI s), .int seats] (zm_P A mo w0 sz σ) none (zm_P A mo w0 sz (zm_open σ s seats)) := by
  refine zg_met (by decide) (Nat.le_of_ble_eq_true rfl) ?_
  intro K hl hD hA hz hn hnm F E
  subst hl hD hA hz
  show zg_G K (zm_P (zk_A K) mo w0 sz σ) 0 0 0 [(0, .ref mo), (1, .int (nI s)), (2, .int seats)] []
  have suf : ∀ c, c < 4 → zc_open σ s seats = c → zg_G K (zm_P (zk_A K) mo w0 sz σ) 0 0 41 [(0, .ref mo), (1, .int (nI s)), (2, .int seats)] [.int (nI c), .ref mo] := by
    intro c hc4 hc
    rw [zm_open, hc] at E
    by_cases h0 : c = 0
    · subst h0
      rw [if_pos rfl] at E
      refine zg_callV F (zM_refused _ _ _ _ _ _ _ _ _) zv_M_refused zu_M_refused zk_635 (fun _ _ h => h.2.1.1) rfl rfl ⟨by decide, by decide⟩ ⟨by decide, by decide⟩ rfl (Nat.le_of_ble_eq_true rfl) dM_open_41 ?_
      refine zg_eqi zb_0 ?_
      refine zg_if_eqT F (tgt := 48) dM_open_44 (by decide) (rfl) ?_
      refine zg_aload_n F 0 rfl rfl dM_open_48 ?_
      refine zg_get F (fun _ _ h => h.2.1.1) rfl zi_M 1 (by decide) rfl zk_539 rfl dM_open_49 ?_
      refine zg_iload_n F 1 rfl rfl dM_open_52 ?_
      refine zg_iconst F (v := nI 1) (by decide) dM_open_53 ?_
      refine zm_zast F 0 (by decide) rfl (by show _ < 4; omega) (by decide) dM_open_54 ?_
      refine zg_iconst F (v := nI 0) (by decide) dM_open_55 ?_
      refine zg_istore_n F rfl (by rw [hn]; decide) (L' := [(3, _), (0, _), (1, _), (2, _)]) rfl dM_open_56 ?_
      have loop : ∀ r i, i + r = 4 → zg_G K (zm_P (zk_A K) mo w0 sz (zm_opn (zm_set (zm_f σ 0) 0 s (nI 1)) s seats i)) 0 0 57 [(3, .int (nI i)), (0, .ref mo), (1, .int (nI s)), (2, .int seats)] [] := by
        intro r
        induction r with
        | zero =>
          intro i hi
          obtain rfl : i = 4 := by omega
          refine zg_iload_n F 0 rfl rfl dM_open_57 ?_
          refine zg_iconst F (v := nI 4) (by decide) dM_open_58 ?_
          refine zg_icmp_geT F (tgt := 79) dM_open_59 (by decide) (nI_le (by omega) (by omega)) ?_
          exact zg_vret F E (Nat.zero_le _) (Nat.zero_le _) (fun _ _ h => h) dM_open_79
        | succ r ih =>
          intro i hi
          refine zg_iload_n F 0 rfl rfl dM_open_57 ?_
          refine zg_iconst F (v := nI 4) (by decide) dM_open_58 ?_
          refine zg_icmp_geF F dM_open_59 (tgt := 79) (by decide) (nI_ge (by omega) (by omega)) ?_
          refine zg_aload_n F 1 rfl rfl dM_open_62 ?_
          refine zg_get F (fun _ _ h => h.2.1.1) rfl zi_M 3 (by decide) rfl zk_541 rfl dM_open_63 ?_
          refine zg_iconst F (v := nI 4) (by decide) dM_open_66 ?_
          refine zg_iload_n F 2 rfl rfl dM_open_67 ?_
          refine zg_imul F (by first | exact pk_mul _ _ | rfl) dM_open_68 ?_
          refine zg_iload_n F 0 rfl rfl dM_open_69 ?_
          refine zg_iadd F (by first | exact nI_add _ _ | rfl) dM_open_70 ?_
          refine zg_iload_n F 3 rfl rfl dM_open_71 ?_
          refine zm_iast F 2 (by decide) rfl (by show _ < 64; omega) dM_open_72 ?_
          refine zg_iinc F 0 rfl (by first | exact zc_inc _ | rfl) (by rw [hn]; decide) (L' := [(3, _), (0, _), (1, _), (2, _)]) rfl dM_open_73 ?_
          refine zg_goto F (tgt := 57) dM_open_76 (by decide) ?_
          exact ih (i + 1) (by omega)
      exact loop 4 0 rfl
    · rw [if_neg h0] at E
      refine zg_callV F (zM_refused _ _ _ _ _ _ _ _ _) zv_M_refused zu_M_refused zk_635 (fun _ _ h => h.2.1.1) rfl rfl ⟨by decide, by decide⟩ ⟨by decide, by decide⟩ rfl (Nat.le_of_ble_eq_true rfl) dM_open_41 ?_
      refine zg_eqi (zb_1 (by omega) (by omega)) ?_
      refine zg_if_eqF F dM_open_44 (tgt := 48) (by decide) (by decide) ?_
      exact zg_vret F E (Nat.zero_le _) (Nat.zero_le _) (fun _ _ h => h) dM_open_47
  refine zg_aload_n F 0 rfl rfl dM_open_0 ?_
  refine zg_iload_n F 1 rfl rfl dM_open_1 ?_
  refine zg_callS F (zM_isFour _ _ _ _ _ _) zv_M_isFour zu_M_isFour zk_632 rfl ⟨by decide, by decide⟩ ⟨by decide, by decide⟩ rfl (Nat.le_of_ble_eq_true rfl) dM_open_2 ?_
  refine zg_eqi (y := nI 1) (zb_t (zz4_of hs)) ?_
  refine zg_if_neT F (tgt := 12) dM_open_5 (by decide) (by decide) ?_
  refine zg_iload_n F 2 rfl rfl dM_open_12 ?_
  refine zg_iconst F (v := nI 1) (by decide) dM_open_13 ?_
  by_cases h1 : seats < nI 1
  · refine zg_icmp_ltT F (tgt := 23) dM_open_14 (by decide) (h1) ?_
    refine zg_iconst F (v := nI 2) (by decide) dM_open_23 ?_
    refine zg_goto F (tgt := 41) dM_open_24 (by decide) ?_
    exact suf 2 (by decide) (if_pos (Or.inl h1))
  · refine zg_icmp_ltF F dM_open_14 (tgt := 23) (by decide) (h1) ?_
    refine zg_iload_n F 2 rfl rfl dM_open_17 ?_
    refine zg_bipush F (v := nI 100) (by decide) dM_open_18 ?_
    by_cases h2 : nI 100 < seats
    · refine zg_icmp_leF F dM_open_20 (tgt := 27) (by decide) (Int32.not_le.mpr h2) ?_
      refine zg_iconst F (v := nI 2) (by decide) dM_open_23 ?_
      refine zg_goto F (tgt := 41) dM_open_24 (by decide) ?_
      exact suf 2 (by decide) (if_pos (Or.inr h2))
    · refine zg_icmp_leT F (tgt := 27) dM_open_20 (by decide) (Int32.not_lt.mp h2) ?_
      refine zg_aload_n F 0 rfl rfl dM_open_27 ?_
      refine zg_get F (fun _ _ h => h.2.1.1) rfl zi_M 1 (by decide) rfl zk_539 rfl dM_open_28 ?_
      refine zg_iload_n F 1 rfl rfl dM_open_31 ?_
      refine zm_zald F 0 (by decide) rfl (by show _ < 4; omega) rfl dM_open_32 ?_
      by_cases h3 : σ.1 0 s = 0
      · refine zg_if_eqT F (tgt := 40) dM_open_33 (by decide) (h3) ?_
        refine zg_iconst F (v := nI 0) (by decide) dM_open_40 ?_
        exact suf 0 (by decide) (by rw [zc_open, if_neg (fun q => q.elim h1 h2), if_pos h3])
      · refine zg_if_eqF F dM_open_33 (tgt := 40) (by decide) (h3) ?_
        refine zg_iconst F (v := nI 3) (by decide) dM_open_36 ?_
        refine zg_goto F (tgt := 41) dM_open_37 (by decide) ?_
        exact suf 3 (by decide) (by rw [zc_open, if_neg (fun q => q.elim h1 h2), if_neg h3])
set_option maxRecDepth 100000 in
set_option maxHeartbeats 4000000 in
theorem zM_fare_bad (l : Launch) (D : va_G) (A : Nat → ClassId) (base : Nat) (mo sz : Nat) (w0 : zg_w) (σ : zm_S) (s leg f : Int32) (h : ¬ (zz4 s ∧ zz4 leg)) : zg_Met l zm_M_fare zc_M_fare 4 none 1 0 0 D A base [.ref mo, .int s, .int leg, .int f] (zm_P A mo w0 sz σ) none (zm_P A mo w0 sz (zm_f σ 1)) := by
  refine zg_met (by decide) (Nat.le_of_ble_eq_true rfl) ?_
  intro K hl hD hA hz hn hnm F E
  subst hl hD hA hz
  show zg_G K (zm_P (zk_A K) mo w0 sz σ) 0 0 0 [(0, .ref mo), (1, .int s), (2, .int leg), (3, .int f)] []
  refine zg_aload_n F 0 rfl rfl dM_fare_0 ?_
  refine zg_iload_n F 1 rfl rfl dM_fare_1 ?_
  by_cases h1 : zz4 s
  · refine zg_callS F (zM_isFour _ _ _ _ _ _) zv_M_isFour zu_M_isFour zk_632 rfl ⟨by decide, by decide⟩ ⟨by decide, by decide⟩ rfl (Nat.le_of_ble_eq_true rfl) dM_fare_2 ?_
    refine zg_eqi (y := nI 1) (zb_t (h1)) ?_
    refine zg_if_eqF F dM_fare_5 (tgt := 15) (by decide) (by decide) ?_
    refine zg_iload_n F 2 rfl rfl dM_fare_8 ?_
    refine zg_callS F (zM_isFour _ _ _ _ _ _) zv_M_isFour zu_M_isFour zk_632 rfl ⟨by decide, by decide⟩ ⟨by decide, by decide⟩ rfl (Nat.le_of_ble_eq_true rfl) dM_fare_9 ?_
    refine zg_eqi (y := nI 0) (zb_f (fun q => h ⟨h1, q⟩)) ?_
    refine zg_if_neF F dM_fare_12 (tgt := 19) (by decide) (rfl) ?_
    refine zg_iconst F (v := nI 1) (by decide) dM_fare_15 ?_
    refine zg_goto F (tgt := 34) dM_fare_16 (by decide) ?_
    refine zg_callV F (zM_refused _ _ _ _ _ _ _ _ _) zv_M_refused zu_M_refused zk_635 (fun _ _ h => h.2.1.1) rfl rfl ⟨by decide, by decide⟩ ⟨by decide, by decide⟩ rfl (Nat.le_of_ble_eq_true rfl) dM_fare_34 ?_
    refine zg_eqi (zb_1 (by omega) (by omega)) ?_
    refine zg_if_neT F (tgt := 51) dM_fare_37 (by decide) (by decide) ?_
    exact zg_vret F E (Nat.zero_le _) (Nat.zero_le _) (fun _ _ h => h) dM_fare_51
  · refine zg_callS F (zM_isFour _ _ _ _ _ _) zv_M_isFour zu_M_isFour zk_632 rfl ⟨by decide, by decide⟩ ⟨by decide, by decide⟩ rfl (Nat.le_of_ble_eq_true rfl) dM_fare_2 ?_
    refine zg_eqi (y := nI 0) (zb_f (h1)) ?_
    refine zg_if_eqT F (tgt := 15) dM_fare_5 (by decide) (rfl) ?_
    refine zg_iconst F (v := nI 1) (by decide) dM_fare_15 ?_
    refine zg_goto F (tgt := 34) dM_fare_16 (by decide) ?_
    refine zg_callV F (zM_refused _ _ _ _ _ _ _ _ _) zv_M_refused zu_M_refused zk_635 (fun _ _ h => h.2.1.1) rfl rfl ⟨by decide, by decide⟩ ⟨by decide, by decide⟩ rfl (Nat.le_of_ble_eq_true rfl) dM_fare_34 ?_
    refine zg_eqi (zb_1 (by omega) (by omega)) ?_
    refine zg_if_neT F (tgt := 51) dM_fare_37 (by decide) (by decide) ?_
    exact zg_vret F E (Nat.zero_le _) (Nat.zero_le _) (fun _ _ h => h) dM_fare_51
set_option maxRecDepth 100000 in
set_option maxHeartbeats 4000000 in
theorem zM_fare (l : Launch) (D : va_G) (A : Nat → ClassId) (base : Nat) (mo sz : Nat) (w0 : zg_w) (σ : zm_S) (s leg : Nat) (f : Int32) (hs : s < 4) (hg : leg < 4) : zg_Met l zm_M_fare zc_M_fare 4 none 1 0 0 D A base [.ref mo, .int (nI s), .int (nI leg), .int f] (zm_P A mo w0 sz σ) none (zm_P A mo w0 sz (zm_fare σ s leg f)) := by
  refine zg_met (by decide) (Nat.le_of_ble_eq_true rfl) ?_
  intro K hl hD hA hz hn hnm F E
  subst hl hD hA hz
  show zg_G K (zm_P (zk_A K) mo w0 sz σ) 0 0 0 [(0, .ref mo), (1, .int (nI s)), (2, .int (nI leg)), (3, .int f)] []
  refine zg_aload_n F 0 rfl rfl dM_fare_0 ?_
  refine zg_iload_n F 1 rfl rfl dM_fare_1 ?_
  refine zg_callS F (zM_isFour _ _ _ _ _ _) zv_M_isFour zu_M_isFour zk_632 rfl ⟨by decide, by decide⟩ ⟨by decide, by decide⟩ rfl (Nat.le_of_ble_eq_true rfl) dM_fare_2 ?_
  refine zg_eqi (y := nI 1) (zb_t (zz4_of hs)) ?_
  refine zg_if_eqF F dM_fare_5 (tgt := 15) (by decide) (by decide) ?_
  refine zg_iload_n F 2 rfl rfl dM_fare_8 ?_
  refine zg_callS F (zM_isFour _ _ _ _ _ _) zv_M_isFour zu_M_isFour zk_632 rfl ⟨by decide, by decide⟩ ⟨by decide, by decide⟩ rfl (Nat.le_of_ble_eq_true rfl) dM_fare_9 ?_
  refine zg_eqi (y := nI 1) (zb_t (zz4_of hg)) ?_
  refine zg_if_neT F (tgt := 19) dM_fare_12 (by decide) (by decide) ?_
  refine zg_iload_n F 3 rfl rfl dM_fare_19 ?_
  by_cases h1 : f < 0
  · refine zg_if_ltT F (tgt := 29) dM_fare_20 (by decide) (h1) ?_
    refine zg_iconst F (v := nI 2) (by decide) dM_fare_29 ?_
    refine zg_goto F (tgt := 34) dM_fare_30 (by decide) ?_
    have hc : zc_fare f = 2 := if_pos (Or.inl h1)
    rw [zm_fare, hc] at E
    refine zg_callV F (zM_refused _ _ _ _ _ _ _ _ _) zv_M_refused zu_M_refused zk_635 (fun _ _ h => h.2.1.1) rfl rfl ⟨by decide, by decide⟩ ⟨by decide, by decide⟩ rfl (Nat.le_of_ble_eq_true rfl) dM_fare_34 ?_
    refine zg_eqi (zb_1 (by omega) (by omega)) ?_
    refine zg_if_neT F (tgt := 51) dM_fare_37 (by decide) (by decide) ?_
    exact zg_vret F E (Nat.zero_le _) (Nat.zero_le _) (fun _ _ h => h) dM_fare_51
  · refine zg_if_ltF F dM_fare_20 (tgt := 29) (by decide) (h1) ?_
    refine zg_iload_n F 3 rfl rfl dM_fare_23 ?_
    refine zg_ldcI F zk_643 dM_fare_24 ?_
    by_cases h2 : (1000000000 : Int32) < f
    · refine zg_icmp_leF F dM_fare_26 (tgt := 33) (by decide) (Int32.not_le.mpr h2) ?_
      refine zg_iconst F (v := nI 2) (by decide) dM_fare_29 ?_
      refine zg_goto F (tgt := 34) dM_fare_30 (by decide) ?_
      have hc : zc_fare f = 2 := if_pos (Or.inr h2)
      rw [zm_fare, hc] at E
      refine zg_callV F (zM_refused _ _ _ _ _ _ _ _ _) zv_M_refused zu_M_refused zk_635 (fun _ _ h => h.2.1.1) rfl rfl ⟨by decide, by decide⟩ ⟨by decide, by decide⟩ rfl (Nat.le_of_ble_eq_true rfl) dM_fare_34 ?_
      refine zg_eqi (zb_1 (by omega) (by omega)) ?_
      refine zg_if_neT F (tgt := 51) dM_fare_37 (by decide) (by decide) ?_
      exact zg_vret F E (Nat.zero_le _) (Nat.zero_le _) (fun _ _ h => h) dM_fare_51
    · refine zg_icmp_leT F (tgt := 33) dM_fare_26 (by decide) (Int32.not_lt.mp h2) ?_
      refine zg_iconst F (v := nI 0) (by decide) dM_fare_33 ?_
      have hc : zc_fare f = 0 := if_neg (fun q => q.elim h1 h2)
      rw [zm_fare, hc] at E
      refine zg_callV F (zM_refused _ _ _ _ _ _ _ _ _) zv_M_refused zu_M_refused zk_635 (fun _ _ h => h.2.1.1) rfl rfl ⟨by decide, by decide⟩ ⟨by decide, by decide⟩ rfl (Nat.le_of_ble_eq_true rfl) dM_fare_34 ?_
      refine zg_eqi zb_0 ?_
      refine zg_if_neF F dM_fare_37 (tgt := 51) (by decide) (rfl) ?_
      refine zg_aload_n F 0 rfl rfl dM_fare_40 ?_
      refine zg_get F (fun _ _ h => h.2.1.1) rfl zi_M 2 (by decide) rfl zk_540 rfl dM_fare_41 ?_
      refine zg_iconst F (v := nI 4) (by decide) dM_fare_44 ?_
      refine zg_iload_n F 1 rfl rfl dM_fare_45 ?_
      refine zg_imul F (by first | exact pk_mul _ _ | rfl) dM_fare_46 ?_
      refine zg_iload_n F 2 rfl rfl dM_fare_47 ?_
      refine zg_iadd F (by first | exact nI_add _ _ | rfl) dM_fare_48 ?_
      refine zg_iload_n F 3 rfl rfl dM_fare_49 ?_
      refine zm_iast F 1 (by decide) rfl (by show _ < 16; omega) dM_fare_50 ?_
      exact zg_vret F E (Nat.zero_le _) (Nat.zero_le _) (fun _ _ h => h) dM_fare_51
set_option maxRecDepth 100000 in
set_option maxHeartbeats 4000000 in
theorem zM_part_bad (l : Launch) (D : va_G) (A : Nat → ClassId) (base : Nat) (mo sz : Nat) (w0 : zg_w) (σ : zm_S) (s a b : Int32) (h : ¬ (zz4 s ∧ (¬ a < 0 ∧ ¬ nI 5 ≤ a) ∧ (¬ b < 0 ∧ ¬ nI 5 ≤ b))) : zg_Met l zm_M_part zc_M_part 5 (some .int) 1 0 0 D A base [.ref mo, .int s, .int a, .int b] (zm_P A mo w0 sz σ) (some (.int (nI 0))) (zm_P A mo w0 sz (zm_f σ 1)) := by
  refine zg_met (by decide) (Nat.le_of_ble_eq_true rfl) ?_
  intro K hl hD hA hz hn hnm F E
  subst hl hD hA hz
  show zg_G K (zm_P (zk_A K) mo w0 sz σ) 0 0 0 [(0, .ref mo), (1, .int s), (2, .int a), (3, .int b)] []
  refine zg_iload_n F 1 rfl rfl dM_part_0 ?_
  by_cases h1 : zz4 s
  · refine zg_callS F (zM_isFour _ _ _ _ _ _) zv_M_isFour zu_M_isFour zk_632 rfl ⟨by decide, by decide⟩ ⟨by decide, by decide⟩ rfl (Nat.le_of_ble_eq_true rfl) dM_part_1 ?_
    refine zg_eqi (y := nI 1) (zb_t (h1)) ?_
    refine zg_if_eqF F dM_part_4 (tgt := 29) (by decide) (by decide) ?_
    refine zg_iload_n F 2 rfl rfl dM_part_7 ?_
    by_cases h2 : a < 0
    · refine zg_if_ltT F (tgt := 29) dM_part_8 (by decide) (h2) ?_
      refine zg_iconst F (v := nI 0) (by decide) dM_part_29 ?_
      refine zg_istore F (by rw [hn]; decide) (L' := [(4, _), (0, _), (1, _), (2, _), (3, _)]) rfl dM_part_30 ?_
      refine zg_aload_n F 1 rfl rfl dM_part_32 ?_
      refine zg_iload F 0 rfl dM_part_33 ?_
      refine zg_if_neF F dM_part_35 (tgt := 42) (by decide) (rfl) ?_
      refine zg_iconst F (v := nI 1) (by decide) dM_part_38 ?_
      refine zg_goto F (tgt := 73) dM_part_39 (by decide) ?_
      refine zg_callV F (zM_refused _ _ _ _ _ _ _ _ _) zv_M_refused zu_M_refused zk_635 (fun _ _ h => h.2.1.1) rfl rfl ⟨by decide, by decide⟩ ⟨by decide, by decide⟩ rfl (Nat.le_of_ble_eq_true rfl) dM_part_73 ?_
      refine zg_eqi (zb_1 (by omega) (by omega)) ?_
      refine zg_if_eqF F dM_part_76 (tgt := 81) (by decide) (by decide) ?_
      refine zg_iconst F (v := nI 0) (by decide) dM_part_79 ?_
      exact zg_iret F E (Nat.zero_le _) (Nat.zero_le _) (fun _ _ h => h) dM_part_80
    · refine zg_if_ltF F dM_part_8 (tgt := 29) (by decide) (h2) ?_
      refine zg_iload_n F 2 rfl rfl dM_part_11 ?_
      refine zg_iconst F (v := nI 5) (by decide) dM_part_12 ?_
      by_cases h3 : nI 5 ≤ a
      · refine zg_icmp_geT F (tgt := 29) dM_part_13 (by decide) (h3) ?_
        refine zg_iconst F (v := nI 0) (by decide) dM_part_29 ?_
        refine zg_istore F (by rw [hn]; decide) (L' := [(4, _), (0, _), (1, _), (2, _), (3, _)]) rfl dM_part_30 ?_
        refine zg_aload_n F 1 rfl rfl dM_part_32 ?_
        refine zg_iload F 0 rfl dM_part_33 ?_
        refine zg_if_neF F dM_part_35 (tgt := 42) (by decide) (rfl) ?_
        refine zg_iconst F (v := nI 1) (by decide) dM_part_38 ?_
        refine zg_goto F (tgt := 73) dM_part_39 (by decide) ?_
        refine zg_callV F (zM_refused _ _ _ _ _ _ _ _ _) zv_M_refused zu_M_refused zk_635 (fun _ _ h => h.2.1.1) rfl rfl ⟨by decide, by decide⟩ ⟨by decide, by decide⟩ rfl (Nat.le_of_ble_eq_true rfl) dM_part_73 ?_
        refine zg_eqi (zb_1 (by omega) (by omega)) ?_
        refine zg_if_eqF F dM_part_76 (tgt := 81) (by decide) (by decide) ?_
        refine zg_iconst F (v := nI 0) (by decide) dM_part_79 ?_
        exact zg_iret F E (Nat.zero_le _) (Nat.zero_le _) (fun _ _ h => h) dM_part_80
      · refine zg_icmp_geF F dM_part_13 (tgt := 29) (by decide) (h3) ?_
        refine zg_iload_n F 3 rfl rfl dM_part_16 ?_
        by_cases h4 : b < 0
        · refine zg_if_ltT F (tgt := 29) dM_part_17 (by decide) (h4) ?_
          refine zg_iconst F (v := nI 0) (by decide) dM_part_29 ?_
          refine zg_istore F (by rw [hn]; decide) (L' := [(4, _), (0, _), (1, _), (2, _), (3, _)]) rfl dM_part_30 ?_
          refine zg_aload_n F 1 rfl rfl dM_part_32 ?_
          refine zg_iload F 0 rfl dM_part_33 ?_
          refine zg_if_neF F dM_part_35 (tgt := 42) (by decide) (rfl) ?_
          refine zg_iconst F (v := nI 1) (by decide) dM_part_38 ?_
          refine zg_goto F (tgt := 73) dM_part_39 (by decide) ?_
          refine zg_callV F (zM_refused _ _ _ _ _ _ _ _ _) zv_M_refused zu_M_refused zk_635 (fun _ _ h => h.2.1.1) rfl rfl ⟨by decide, by decide⟩ ⟨by decide, by decide⟩ rfl (Nat.le_of_ble_eq_true rfl) dM_part_73 ?_
          refine zg_eqi (zb_1 (by omega) (by omega)) ?_
          refine zg_if_eqF F dM_part_76 (tgt := 81) (by decide) (by decide) ?_
          refine zg_iconst F (v := nI 0) (by decide) dM_part_79 ?_
          exact zg_iret F E (Nat.zero_le _) (Nat.zero_le _) (fun _ _ h => h) dM_part_80
        · refine zg_if_ltF F dM_part_17 (tgt := 29) (by decide) (h4) ?_
          refine zg_iload_n F 3 rfl rfl dM_part_20 ?_
          refine zg_iconst F (v := nI 5) (by decide) dM_part_21 ?_
          have h5 : nI 5 ≤ b := Classical.byContradiction (fun q => h ⟨h1, ⟨h2, h3⟩, h4, q⟩)
          refine zg_icmp_geT F (tgt := 29) dM_part_22 (by decide) (h5) ?_
          refine zg_iconst F (v := nI 0) (by decide) dM_part_29 ?_
          refine zg_istore F (by rw [hn]; decide) (L' := [(4, _), (0, _), (1, _), (2, _), (3, _)]) rfl dM_part_30 ?_
          refine zg_aload_n F 1 rfl rfl dM_part_32 ?_
          refine zg_iload F 0 rfl dM_part_33 ?_
          refine zg_if_neF F dM_part_35 (tgt := 42) (by decide) (rfl) ?_
          refine zg_iconst F (v := nI 1) (by decide) dM_part_38 ?_
          refine zg_goto F (tgt := 73) dM_part_39 (by decide) ?_
          refine zg_callV F (zM_refused _ _ _ _ _ _ _ _ _) zv_M_refused zu_M_refused zk_635 (fun _ _ h => h.2.1.1) rfl rfl ⟨by decide, by decide⟩ ⟨by decide, by decide⟩ rfl (Nat.le_of_ble_eq_true rfl) dM_part_73 ?_
          refine zg_eqi (zb_1 (by omega) (by omega)) ?_
          refine zg_if_eqF F dM_part_76 (tgt := 81) (by decide) (by decide) ?_
          refine zg_iconst F (v := nI 0) (by decide) dM_part_79 ?_
          exact zg_iret F E (Nat.zero_le _) (Nat.zero_le _) (fun _ _ h => h) dM_part_80
  · refine zg_callS F (zM_isFour _ _ _ _ _ _) zv_M_isFour zu_M_isFour zk_632 rfl ⟨by decide, by decide⟩ ⟨by decide, by decide⟩ rfl (Nat.le_of_ble_eq_true rfl) dM_part_1 ?_
    refine zg_eqi (y := nI 0) (zb_f (h1)) ?_
    refine zg_if_eqT F (tgt := 29) dM_part_4 (by decide) (rfl) ?_
    refine zg_iconst F (v := nI 0) (by decide) dM_part_29 ?_
    refine zg_istore F (by rw [hn]; decide) (L' := [(4, _), (0, _), (1, _), (2, _), (3, _)]) rfl dM_part_30 ?_
    refine zg_aload_n F 1 rfl rfl dM_part_32 ?_
    refine zg_iload F 0 rfl dM_part_33 ?_
    refine zg_if_neF F dM_part_35 (tgt := 42) (by decide) (rfl) ?_
    refine zg_iconst F (v := nI 1) (by decide) dM_part_38 ?_
    refine zg_goto F (tgt := 73) dM_part_39 (by decide) ?_
    refine zg_callV F (zM_refused _ _ _ _ _ _ _ _ _) zv_M_refused zu_M_refused zk_635 (fun _ _ h => h.2.1.1) rfl rfl ⟨by decide, by decide⟩ ⟨by decide, by decide⟩ rfl (Nat.le_of_ble_eq_true rfl) dM_part_73 ?_
    refine zg_eqi (zb_1 (by omega) (by omega)) ?_
    refine zg_if_eqF F dM_part_76 (tgt := 81) (by decide) (by decide) ?_
    refine zg_iconst F (v := nI 0) (by decide) dM_part_79 ?_
    exact zg_iret F E (Nat.zero_le _) (Nat.zero_le _) (fun _ _ h => h) dM_part_80
set_option maxRecDepth 100000 in
set_option maxHeartbeats 4000000 in
theorem zM_part (l : Launch) (D : va_G) (A : Nat → ClassId) (base : Nat) (mo sz : Nat) (w0 : zg_w) (σ : zm_S) (s d a b : Nat) (hs : s < 4) (ha : a < 5) (hb : b < 5) (hd : d ≤ 4) (he : σ.1 25 1 = nI d) : zg_Met l zm_M_part zc_M_part 5 (some .int) 1 0 0 D A base [.ref mo, .int (nI s), .int (nI a), .int (nI b)] (zm_P A mo w0 sz σ) (some (.int (nI (zr_part σ s d a b)))) (zm_P A mo w0 sz (zm_part σ s d a b)) := by
  refine zg_met (by decide) (Nat.le_of_ble_eq_true rfl) ?_
  intro K hl hD0 hA hz hn hnm F E
  subst hl hD0 hA hz
  show zg_G K (zm_P (zk_A K) mo w0 sz σ) 0 0 0 [(0, .ref mo), (1, .int (nI s)), (2, .int (nI a)), (3, .int (nI b))] []
  refine zg_iload_n F 1 rfl rfl dM_part_0 ?_
  refine zg_callS F (zM_isFour _ _ _ _ _ _) zv_M_isFour zu_M_isFour zk_632 rfl ⟨by decide, by decide⟩ ⟨by decide, by decide⟩ rfl (Nat.le_of_ble_eq_true rfl) dM_part_1 ?_
  refine zg_eqi (y := nI 1) (zb_t (zz4_of hs)) ?_
  refine zg_if_eqF F dM_part_4 (tgt := 29) (by decide) (by decide) ?_
  refine zg_iload_n F 2 rfl rfl dM_part_7 ?_
  refine zg_if_ltF F dM_part_8 (tgt := 29) (by decide) (nI_pos (by omega)) ?_
  refine zg_iload_n F 2 rfl rfl dM_part_11 ?_
  refine zg_iconst F (v := nI 5) (by decide) dM_part_12 ?_
  refine zg_icmp_geF F dM_part_13 (tgt := 29) (by decide) (nI_ge ha (by decide)) ?_
  refine zg_iload_n F 3 rfl rfl dM_part_16 ?_
  refine zg_if_ltF F dM_part_17 (tgt := 29) (by decide) (nI_pos (by omega)) ?_
  refine zg_iload_n F 3 rfl rfl dM_part_20 ?_
  refine zg_iconst F (v := nI 5) (by decide) dM_part_21 ?_
  refine zg_icmp_geF F dM_part_22 (tgt := 29) (by decide) (nI_ge hb (by decide)) ?_
  refine zg_iconst F (v := nI 1) (by decide) dM_part_25 ?_
  refine zg_goto F (tgt := 30) dM_part_26 (by decide) ?_
  refine zg_istore F (by rw [hn]; decide) (L' := [(4, _), (0, _), (1, _), (2, _), (3, _)]) rfl dM_part_30 ?_
  refine zg_aload_n F 1 rfl rfl dM_part_32 ?_
  refine zg_iload F 0 rfl dM_part_33 ?_
  refine zg_if_neT F (tgt := 42) dM_part_35 (by decide) (by decide) ?_
  refine zg_iload_n F 3 rfl rfl dM_part_42 ?_
  refine zg_iload_n F 4 rfl rfl dM_part_43 ?_
  by_cases h1 : b ≤ a
  · refine zg_icmp_ltF F dM_part_44 (tgt := 51) (by decide) (nI_nlt h1 (by omega)) ?_
    refine zg_iconst F (v := nI 2) (by decide) dM_part_47 ?_
    refine zg_goto F (tgt := 73) dM_part_48 (by decide) ?_
    have hc : zc_part σ s d a b = 2 := if_pos h1
    rw [zm_part, zr_part, hc] at E
    refine zg_callV F (zM_refused _ _ _ _ _ _ _ _ _) zv_M_refused zu_M_refused zk_635 (fun _ _ h => h.2.1.1) rfl rfl ⟨by decide, by decide⟩ ⟨by decide, by decide⟩ rfl (Nat.le_of_ble_eq_true rfl) dM_part_73 ?_
    refine zg_eqi (zb_1 (by omega) (by omega)) ?_
    refine zg_if_eqF F dM_part_76 (tgt := 81) (by decide) (by decide) ?_
    refine zg_iconst F (v := nI 0) (by decide) dM_part_79 ?_
    exact zg_iret F E (Nat.zero_le _) (Nat.zero_le _) (fun _ _ h => h) dM_part_80
  · refine zg_icmp_ltT F (tgt := 51) dM_part_44 (by decide) (nI_lt (by omega) (by omega)) ?_
    refine zg_aload_n F 1 rfl rfl dM_part_51 ?_
    refine zg_get F (fun _ _ h => h.2.1.1) rfl zi_M 1 (by decide) rfl zk_539 rfl dM_part_52 ?_
    refine zg_iload_n F 2 rfl rfl dM_part_55 ?_
    refine zm_zald F 0 (by decide) rfl (by show _ < 4; omega) rfl dM_part_56 ?_
    by_cases h2 : σ.1 0 s = 0
    · refine zg_if_eqT F (tgt := 68) dM_part_57 (by decide) (h2) ?_
      refine zg_iconst F (v := nI 3) (by decide) dM_part_68 ?_
      refine zg_goto F (tgt := 73) dM_part_69 (by decide) ?_
      have hc : zc_part σ s d a b = 3 := by rw [zc_part, if_neg h1, if_pos (Or.inl h2)]
      rw [zm_part, zr_part, hc] at E
      refine zg_callV F (zM_refused _ _ _ _ _ _ _ _ _) zv_M_refused zu_M_refused zk_635 (fun _ _ h => h.2.1.1) rfl rfl ⟨by decide, by decide⟩ ⟨by decide, by decide⟩ rfl (Nat.le_of_ble_eq_true rfl) dM_part_73 ?_
      refine zg_eqi (zb_1 (by omega) (by omega)) ?_
      refine zg_if_eqF F dM_part_76 (tgt := 81) (by decide) (by decide) ?_
      refine zg_iconst F (v := nI 0) (by decide) dM_part_79 ?_
      exact zg_iret F E (Nat.zero_le _) (Nat.zero_le _) (fun _ _ h => h) dM_part_80
    · refine zg_if_eqF F dM_part_57 (tgt := 68) (by decide) (h2) ?_
      refine zg_aload_n F 1 rfl rfl dM_part_60 ?_
      refine zg_get F (fun _ _ h => h.2.1.1) rfl zi_M 7 (by decide) rfl zk_545 rfl dM_part_61 ?_
      refine zg_eqi (he) ?_
      refine zg_iconst F (v := nI 4) (by decide) dM_part_64 ?_
      by_cases h3 : d = 4
      · refine zg_icmp_neF F dM_part_65 (tgt := 72) (by decide) (by rw [h3]) ?_
        refine zg_iconst F (v := nI 3) (by decide) dM_part_68 ?_
        refine zg_goto F (tgt := 73) dM_part_69 (by decide) ?_
        have hc : zc_part σ s d a b = 3 := by rw [zc_part, if_neg h1, if_pos (Or.inr h3)]
        rw [zm_part, zr_part, hc] at E
        refine zg_callV F (zM_refused _ _ _ _ _ _ _ _ _) zv_M_refused zu_M_refused zk_635 (fun _ _ h => h.2.1.1) rfl rfl ⟨by decide, by decide⟩ ⟨by decide, by decide⟩ rfl (Nat.le_of_ble_eq_true rfl) dM_part_73 ?_
        refine zg_eqi (zb_1 (by omega) (by omega)) ?_
        refine zg_if_eqF F dM_part_76 (tgt := 81) (by decide) (by decide) ?_
        refine zg_iconst F (v := nI 0) (by decide) dM_part_79 ?_
        exact zg_iret F E (Nat.zero_le _) (Nat.zero_le _) (fun _ _ h => h) dM_part_80
      · refine zg_icmp_neT F (tgt := 72) dM_part_65 (by decide) (fun q => h3 ((nI_eq (by omega) (by omega)).mp q)) ?_
        refine zg_iconst F (v := nI 0) (by decide) dM_part_72 ?_
        have hc : zc_part σ s d a b = 0 := by rw [zc_part, if_neg h1, if_neg (fun q => q.elim h2 h3)]
        rw [zm_part, zr_part, hc] at E
        refine zg_callV F (zM_refused _ _ _ _ _ _ _ _ _) zv_M_refused zu_M_refused zk_635 (fun _ _ h => h.2.1.1) rfl rfl ⟨by decide, by decide⟩ ⟨by decide, by decide⟩ rfl (Nat.le_of_ble_eq_true rfl) dM_part_73 ?_
        refine zg_eqi zb_0 ?_
        refine zg_if_eqT F (tgt := 81) dM_part_76 (by decide) (rfl) ?_
        refine zg_aload_n F 1 rfl rfl dM_part_81 ?_
        refine zg_get F (fun _ _ h => h.2.1.1) rfl zi_M 4 (by decide) rfl zk_542 rfl dM_part_82 ?_
        refine zg_aload_n F 1 rfl rfl dM_part_85 ?_
        refine zg_get F (fun _ _ h => h.2.1.1) rfl zi_M 7 (by decide) rfl zk_545 rfl dM_part_86 ?_
        refine zg_eqi (he) ?_
        refine zg_iload_n F 2 rfl rfl dM_part_89 ?_
        refine zm_iast F 3 (by decide) rfl (by show _ < 420; omega) dM_part_90 ?_
        refine zg_aload_n F 1 rfl rfl dM_part_91 ?_
        refine zg_get F (fun _ _ h => h.2.1.1) rfl zi_M 5 (by decide) rfl zk_543 rfl dM_part_92 ?_
        refine zg_aload_n F 1 rfl rfl dM_part_95 ?_
        refine zg_get F (fun _ _ h => h.2.1.1) rfl zi_M 7 (by decide) rfl zk_545 rfl dM_part_96 ?_
        refine zg_eqi (he) ?_
        refine zg_iload_n F 3 rfl rfl dM_part_99 ?_
        refine zm_iast F 4 (by decide) rfl (by show _ < 420; omega) dM_part_100 ?_
        refine zg_aload_n F 1 rfl rfl dM_part_101 ?_
        refine zg_get F (fun _ _ h => h.2.1.1) rfl zi_M 6 (by decide) rfl zk_544 rfl dM_part_102 ?_
        refine zg_aload_n F 1 rfl rfl dM_part_105 ?_
        refine zg_get F (fun _ _ h => h.2.1.1) rfl zi_M 7 (by decide) rfl zk_545 rfl dM_part_106 ?_
        refine zg_eqi (he) ?_
        refine zg_iload_n F 4 rfl rfl dM_part_109 ?_
        refine zm_iast F 5 (by decide) rfl (by show _ < 420; omega) dM_part_110 ?_
        refine zg_aload_n F 1 rfl rfl dM_part_111 ?_
        refine zg_dup F rfl dM_part_112 ?_
        refine zg_get F (fun _ _ h => h.2.1.1) rfl zi_M 7 (by decide) rfl zk_545 rfl dM_part_113 ?_
        refine zg_eqi (he) ?_
        refine zg_iconst F (v := nI 1) (by decide) dM_part_116 ?_
        refine zg_iadd F (by first | exact nI_add _ _ | rfl) dM_part_117 ?_
        refine zg_put F (fun _ _ h => h.2.1.1) rfl zi_M zy_M zt_M zn_M 7 (by decide) rfl zk_545 rfl rfl rfl rfl (Nat.le_of_ble_eq_true rfl) (fun w z h => zm_P.pt (i := 1) (by decide) w z h) dM_part_118 ?_
        refine zg_aload_n F 1 rfl rfl dM_part_121 ?_
        refine zg_get F (fun _ _ h => h.2.1.1) rfl zi_M 7 (by decide) rfl zk_545 rfl dM_part_122 ?_
        refine zg_eqi (zm_set_s) ?_
        exact zg_iret F E (Nat.zero_le _) (Nat.zero_le _) (fun _ _ h => h) dM_part_125
set_option maxRecDepth 100000 in
set_option maxHeartbeats 4000000 in
theorem zM_buy_bad (l : Launch) (D : va_G) (A : Nat → ClassId) (base : Nat) (mo sz : Nat) (w0 : zg_w) (σ : zm_S) (port n : Int32) (h : ¬ zz4 port) : zg_Met l zm_M_buy zc_M_buy 4 (some .int) 1 0 0 D A base [.ref mo, .int port, .int n] (zm_P A mo w0 sz σ) (some (.int (nI 0))) (zm_P A mo w0 sz (zm_f σ 1)) := by
  refine zg_met (by decide) (Nat.le_of_ble_eq_true rfl) ?_
  intro K hl hD hA hz hn hnm F E
  subst hl hD hA hz
  show zg_G K (zm_P (zk_A K) mo w0 sz σ) 0 0 0 [(0, .ref mo), (1, .int port), (2, .int n)] []
  refine zg_aload_n F 0 rfl rfl dM_buy_0 ?_
  refine zg_iload_n F 1 rfl rfl dM_buy_1 ?_
  refine zg_callS F (zM_isFour _ _ _ _ _ _) zv_M_isFour zu_M_isFour zk_632 rfl ⟨by decide, by decide⟩ ⟨by decide, by decide⟩ rfl (Nat.le_of_ble_eq_true rfl) dM_buy_2 ?_
  refine zg_eqi (y := nI 0) (zb_f (h)) ?_
  refine zg_if_neF F dM_buy_5 (tgt := 12) (by decide) (rfl) ?_
  refine zg_iconst F (v := nI 1) (by decide) dM_buy_8 ?_
  refine zg_goto F (tgt := 48) dM_buy_9 (by decide) ?_
  refine zg_callV F (zM_refused _ _ _ _ _ _ _ _ _) zv_M_refused zu_M_refused zk_635 (fun _ _ h => h.2.1.1) rfl rfl ⟨by decide, by decide⟩ ⟨by decide, by decide⟩ rfl (Nat.le_of_ble_eq_true rfl) dM_buy_48 ?_
  refine zg_eqi (zb_1 (by omega) (by omega)) ?_
  refine zg_if_eqF F dM_buy_51 (tgt := 56) (by decide) (by decide) ?_
  refine zg_iconst F (v := nI 0) (by decide) dM_buy_54 ?_
  exact zg_iret F E (Nat.zero_le _) (Nat.zero_le _) (fun _ _ h => h) dM_buy_55
set_option maxRecDepth 100000 in
set_option maxHeartbeats 4000000 in
theorem zM_wish_bad (l : Launch) (D : va_G) (A : Nat → ClassId) (base : Nat) (mo sz : Nat) (w0 : zg_w) (σ : zm_S) (port n : Int32) (h : ¬ zz4 port) : zg_Met l zm_M_wish zc_M_wish 4 (some .int) 1 0 0 D A base [.ref mo, .int port, .int n] (zm_P A mo w0 sz σ) (some (.int (nI 0))) (zm_P A mo w0 sz (zm_f σ 1)) := by
  refine zg_met (by decide) (Nat.le_of_ble_eq_true rfl) ?_
  intro K hl hD hA hz hn hnm F E
  subst hl hD hA hz
  show zg_G K (zm_P (zk_A K) mo w0 sz σ) 0 0 0 [(0, .ref mo), (1, .int port), (2, .int n)] []
  refine zg_aload_n F 0 rfl rfl dM_wish_0 ?_
  refine zg_iload_n F 1 rfl rfl dM_wish_1 ?_
  refine zg_callS F (zM_isFour _ _ _ _ _ _) zv_M_isFour zu_M_isFour zk_632 rfl ⟨by decide, by decide⟩ ⟨by decide, by decide⟩ rfl (Nat.le_of_ble_eq_true rfl) dM_wish_2 ?_
  refine zg_eqi (y := nI 0) (zb_f (h)) ?_
  refine zg_if_neF F dM_wish_5 (tgt := 12) (by decide) (rfl) ?_
  refine zg_iconst F (v := nI 1) (by decide) dM_wish_8 ?_
  refine zg_goto F (tgt := 50) dM_wish_9 (by decide) ?_
  refine zg_callV F (zM_refused _ _ _ _ _ _ _ _ _) zv_M_refused zu_M_refused zk_635 (fun _ _ h => h.2.1.1) rfl rfl ⟨by decide, by decide⟩ ⟨by decide, by decide⟩ rfl (Nat.le_of_ble_eq_true rfl) dM_wish_50 ?_
  refine zg_eqi (zb_1 (by omega) (by omega)) ?_
  refine zg_if_eqF F dM_wish_53 (tgt := 58) (by decide) (by decide) ?_
  refine zg_iconst F (v := nI 0) (by decide) dM_wish_56 ?_
  exact zg_iret F E (Nat.zero_le _) (Nat.zero_le _) (fun _ _ h => h) dM_wish_57
set_option maxRecDepth 100000 in
set_option maxHeartbeats 4000000 in
theorem zM_buy (l : Launch) (D : va_G) (A : Nat → ClassId) (base : Nat) (mo sz : Nat) (w0 : zg_w) (σ : zm_S) (d T port : Nat) (n : Int32) (h0 : port < 4) (hd : d ≤ 4) (hT8 : T ≤ 80) (he : σ.1 25 1 = nI d) (hT : σ.1 25 2 = nI T) : zg_Met l zm_M_buy zc_M_buy 4 (some .int) 3 0 0 D A base [.ref mo, .int (nI port), .int n] (zm_P A mo w0 sz σ) (some (.int (zo_buy σ d T port n).2)) (zm_P A mo w0 sz (zo_buy σ d T port n).1) := by
  refine zg_met (by decide) (Nat.le_of_ble_eq_true rfl) ?_
  intro K hl hD0 hA hz hn hnm F E
  subst hl hD0 hA hz
  show zg_G K (zm_P (zk_A K) mo w0 sz σ) 0 0 0 [(0, .ref mo), (1, .int (nI port)), (2, .int n)] []
  refine zg_aload_n F 0 rfl rfl dM_buy_0 ?_
  refine zg_iload_n F 1 rfl rfl dM_buy_1 ?_
  refine zg_callS F (zM_isFour _ _ _ _ _ _) zv_M_isFour zu_M_isFour zk_632 rfl ⟨by decide, by decide⟩ ⟨by decide, by decide⟩ rfl (Nat.le_of_ble_eq_true rfl) dM_buy_2 ?_
  refine zg_eqi (y := nI 1) (zb_t (zz4_of h0)) ?_
  refine zg_if_neT F (tgt := 12) dM_buy_5 (by decide) (by decide) ?_
  refine zg_iload_n F 2 rfl rfl dM_buy_12 ?_
  refine zg_iconst F (v := nI 1) (by decide) dM_buy_13 ?_
  by_cases h1 : n < nI 1
  · refine zg_icmp_ltT F (tgt := 23) dM_buy_14 (by decide) (h1) ?_
    refine zg_iconst F (v := nI 2) (by decide) dM_buy_23 ?_
    refine zg_goto F (tgt := 48) dM_buy_24 (by decide) ?_
    have hc : zc_buy d T n = 2 := if_pos (Or.inl h1)
    rw [zo_buy, hc, if_neg (by decide)] at E
    refine zg_callV F (zM_refused _ _ _ _ _ _ _ _ _) zv_M_refused zu_M_refused zk_635 (fun _ _ h => h.2.1.1) rfl rfl ⟨by decide, by decide⟩ ⟨by decide, by decide⟩ rfl (Nat.le_of_ble_eq_true rfl) dM_buy_48 ?_
    refine zg_eqi (zb_1 (by omega) (by omega)) ?_
    refine zg_if_eqF F dM_buy_51 (tgt := 56) (by decide) (by decide) ?_
    refine zg_iconst F (v := nI 0) (by decide) dM_buy_54 ?_
    exact zg_iret F E (Nat.zero_le _) (Nat.zero_le _) (fun _ _ h => h) dM_buy_55
  · refine zg_icmp_ltF F dM_buy_14 (tgt := 23) (by decide) (h1) ?_
    refine zg_iload_n F 2 rfl rfl dM_buy_17 ?_
    refine zg_bipush F (v := nI 100) (by decide) dM_buy_18 ?_
    by_cases h2 : nI 100 < n
    · refine zg_icmp_leF F dM_buy_20 (tgt := 27) (by decide) (Int32.not_le.mpr h2) ?_
      refine zg_iconst F (v := nI 2) (by decide) dM_buy_23 ?_
      refine zg_goto F (tgt := 48) dM_buy_24 (by decide) ?_
      have hc : zc_buy d T n = 2 := if_pos (Or.inr h2)
      rw [zo_buy, hc, if_neg (by decide)] at E
      refine zg_callV F (zM_refused _ _ _ _ _ _ _ _ _) zv_M_refused zu_M_refused zk_635 (fun _ _ h => h.2.1.1) rfl rfl ⟨by decide, by decide⟩ ⟨by decide, by decide⟩ rfl (Nat.le_of_ble_eq_true rfl) dM_buy_48 ?_
      refine zg_eqi (zb_1 (by omega) (by omega)) ?_
      refine zg_if_eqF F dM_buy_51 (tgt := 56) (by decide) (by decide) ?_
      refine zg_iconst F (v := nI 0) (by decide) dM_buy_54 ?_
      exact zg_iret F E (Nat.zero_le _) (Nat.zero_le _) (fun _ _ h => h) dM_buy_55
    · refine zg_icmp_leT F (tgt := 27) dM_buy_20 (by decide) (Int32.not_lt.mp h2) ?_
      refine zg_aload_n F 0 rfl rfl dM_buy_27 ?_
      refine zg_get F (fun _ _ h => h.2.1.1) rfl zi_M 7 (by decide) rfl zk_545 rfl dM_buy_28 ?_
      refine zg_eqi (he) ?_
      by_cases h3 : d = 0
      · refine zg_if_eqT F (tgt := 43) dM_buy_31 (by decide) (by rw [h3]; rfl) ?_
        refine zg_iconst F (v := nI 3) (by decide) dM_buy_43 ?_
        refine zg_goto F (tgt := 48) dM_buy_44 (by decide) ?_
        have hc : zc_buy d T n = 3 := by rw [zc_buy, if_neg (fun q => q.elim h1 h2), if_pos (Or.inl h3)]
        rw [zo_buy, hc, if_neg (by decide)] at E
        refine zg_callV F (zM_refused _ _ _ _ _ _ _ _ _) zv_M_refused zu_M_refused zk_635 (fun _ _ h => h.2.1.1) rfl rfl ⟨by decide, by decide⟩ ⟨by decide, by decide⟩ rfl (Nat.le_of_ble_eq_true rfl) dM_buy_48 ?_
        refine zg_eqi (zb_1 (by omega) (by omega)) ?_
        refine zg_if_eqF F dM_buy_51 (tgt := 56) (by decide) (by decide) ?_
        refine zg_iconst F (v := nI 0) (by decide) dM_buy_54 ?_
        exact zg_iret F E (Nat.zero_le _) (Nat.zero_le _) (fun _ _ h => h) dM_buy_55
      · refine zg_if_eqF F dM_buy_31 (tgt := 43) (by decide) (nI_ne0 (by omega) (by omega)) ?_
        refine zg_aload_n F 0 rfl rfl dM_buy_34 ?_
        refine zg_get F (fun _ _ h => h.2.1.1) rfl zi_M 8 (by decide) rfl zk_546 rfl dM_buy_35 ?_
        refine zg_eqi (hT) ?_
        refine zg_bipush F (v := nI 80) (by decide) dM_buy_38 ?_
        by_cases h4 : T = 80
        · refine zg_icmp_neF F dM_buy_40 (tgt := 47) (by decide) (by rw [h4]) ?_
          refine zg_iconst F (v := nI 3) (by decide) dM_buy_43 ?_
          refine zg_goto F (tgt := 48) dM_buy_44 (by decide) ?_
          have hc : zc_buy d T n = 3 := by rw [zc_buy, if_neg (fun q => q.elim h1 h2), if_pos (Or.inr h4)]
          rw [zo_buy, hc, if_neg (by decide)] at E
          refine zg_callV F (zM_refused _ _ _ _ _ _ _ _ _) zv_M_refused zu_M_refused zk_635 (fun _ _ h => h.2.1.1) rfl rfl ⟨by decide, by decide⟩ ⟨by decide, by decide⟩ rfl (Nat.le_of_ble_eq_true rfl) dM_buy_48 ?_
          refine zg_eqi (zb_1 (by omega) (by omega)) ?_
          refine zg_if_eqF F dM_buy_51 (tgt := 56) (by decide) (by decide) ?_
          refine zg_iconst F (v := nI 0) (by decide) dM_buy_54 ?_
          exact zg_iret F E (Nat.zero_le _) (Nat.zero_le _) (fun _ _ h => h) dM_buy_55
        · refine zg_icmp_neT F (tgt := 47) dM_buy_40 (by decide) (fun q => h4 ((nI_eq (by omega) (by omega)).mp q)) ?_
          refine zg_iconst F (v := nI 0) (by decide) dM_buy_47 ?_
          have hc : zc_buy d T n = 0 := by rw [zc_buy, if_neg (fun q => q.elim h1 h2), if_neg (fun q => q.elim h3 h4)]
          rw [zo_buy, hc, if_pos rfl] at E
          refine zg_callV F (zM_refused _ _ _ _ _ _ _ _ _) zv_M_refused zu_M_refused zk_635 (fun _ _ h => h.2.1.1) rfl rfl ⟨by decide, by decide⟩ ⟨by decide, by decide⟩ rfl (Nat.le_of_ble_eq_true rfl) dM_buy_48 ?_
          refine zg_eqi zb_0 ?_
          refine zg_if_eqT F (tgt := 56) dM_buy_51 (by decide) (rfl) ?_
          refine zg_aload_n F 0 rfl rfl dM_buy_56 ?_
          refine zg_get F (fun _ _ h => h.2.1.1) rfl zi_M 7 (by decide) rfl zk_545 rfl dM_buy_57 ?_
          refine zg_eqi (he) ?_
          refine zg_istore_n F rfl (by rw [hn]; decide) (L' := [(3, _), (0, _), (1, _), (2, _)]) rfl dM_buy_60 ?_
          refine zg_aload_n F 1 rfl rfl dM_buy_61 ?_
          refine zg_iconst F (v := nI 0) (by decide) dM_buy_62 ?_
          refine zg_put F (fun _ _ h => h.2.1.1) rfl zi_M zy_M zt_M zn_M 7 (by decide) rfl zk_545 rfl rfl rfl rfl (Nat.le_of_ble_eq_true rfl) (fun w z h => zm_P.pt (i := 1) (by decide) w z h) dM_buy_63 ?_
          refine zg_aload_n F 1 rfl rfl dM_buy_66 ?_
          refine zg_iload_n F 2 rfl rfl dM_buy_67 ?_
          refine zg_iconst F (v := nI 0) (by decide) dM_buy_68 ?_
          refine zg_iload_n F 0 rfl rfl dM_buy_69 ?_
          refine zg_iload_n F 3 rfl rfl dM_buy_70 ?_
          refine zg_callV F (zM_fits _ _ _ _ _ _ _ _ port 0 d n h0 (by omega)) zv_M_fits zu_M_fits zk_652 (fun _ _ h => h.2.1.1) rfl rfl ⟨by decide, by decide⟩ ⟨by decide, by decide⟩ rfl (Nat.le_of_ble_eq_true rfl) dM_buy_71 ?_
          by_cases h5 : zm_fits (zm_set (zm_f σ 0) 25 1 (nI 0)) port 0 d n 16 = 0
          · rw [if_pos h5] at E
            refine zg_if_eqT F (tgt := 88) dM_buy_74 (by decide) (h5) ?_
            refine zg_iconst F (v := -1) (by decide) dM_buy_88 ?_
            exact zg_iret F E (Nat.zero_le _) (Nat.zero_le _) (fun _ _ h => h) dM_buy_89
          · rw [if_neg h5] at E
            refine zg_if_eqF F dM_buy_74 (tgt := 88) (by decide) (h5) ?_
            refine zg_aload_n F 1 rfl rfl dM_buy_77 ?_
            refine zg_iload_n F 2 rfl rfl dM_buy_78 ?_
            refine zg_iconst F (v := nI 0) (by decide) dM_buy_79 ?_
            refine zg_iload_n F 0 rfl rfl dM_buy_80 ?_
            refine zg_iload_n F 3 rfl rfl dM_buy_81 ?_
            refine zg_callV F (zM_sell _ _ _ _ _ _ _ _ T port 0 d n h0 (by omega) (by omega) hd hT) zv_M_sell zu_M_sell zk_660 (fun _ _ h => h.2.1.1) rfl rfl ⟨by decide, by decide⟩ ⟨by decide, by decide⟩ rfl (Nat.le_of_ble_eq_true rfl) dM_buy_82 ?_
            refine zg_goto F (tgt := 89) dM_buy_85 (by decide) ?_
            exact zg_iret F E (Nat.zero_le _) (Nat.zero_le _) (fun _ _ h => h) dM_buy_89
set_option maxRecDepth 100000 in
set_option maxHeartbeats 4000000 in
theorem zM_wish (l : Launch) (D : va_G) (A : Nat → ClassId) (base : Nat) (mo sz : Nat) (w0 : zg_w) (σ : zm_S) (d T port had : Nat) (n : Int32) (h0 : port < 4) (hd : d ≤ 4) (hh : had ≤ 6) (hT8 : T ≤ 80) (he : σ.1 25 1 = nI d) (hT : σ.1 25 2 = nI T) (hw : σ.1 12 port = nI had) (hp : ∀ k, k < had → ∃ p, p ≤ 4 ∧ σ.1 14 (6 * port + k) = nI p) : zg_Met l zm_M_wish zc_M_wish 4 (some .int) 4 0 0 D A base [.ref mo, .int (nI port), .int n] (zm_P A mo w0 sz σ) (some (.int (zo_wish σ d T port had n).2)) (zm_P A mo w0 sz (zo_wish σ d T port had n).1) := by
  refine zg_met (by decide) (Nat.le_of_ble_eq_true rfl) ?_
  intro K hl hD0 hA hz hn hnm F E
  subst hl hD0 hA hz
  show zg_G K (zm_P (zk_A K) mo w0 sz σ) 0 0 0 [(0, .ref mo), (1, .int (nI port)), (2, .int n)] []
  refine zg_aload_n F 0 rfl rfl dM_wish_0 ?_
  refine zg_iload_n F 1 rfl rfl dM_wish_1 ?_
  refine zg_callS F (zM_isFour _ _ _ _ _ _) zv_M_isFour zu_M_isFour zk_632 rfl ⟨by decide, by decide⟩ ⟨by decide, by decide⟩ rfl (Nat.le_of_ble_eq_true rfl) dM_wish_2 ?_
  refine zg_eqi (y := nI 1) (zb_t (zz4_of h0)) ?_
  refine zg_if_neT F (tgt := 12) dM_wish_5 (by decide) (by decide) ?_
  refine zg_iload_n F 2 rfl rfl dM_wish_12 ?_
  refine zg_iconst F (v := nI 1) (by decide) dM_wish_13 ?_
  by_cases h1 : n < nI 1
  · refine zg_icmp_ltT F (tgt := 23) dM_wish_14 (by decide) (h1) ?_
    refine zg_iconst F (v := nI 2) (by decide) dM_wish_23 ?_
    refine zg_goto F (tgt := 50) dM_wish_24 (by decide) ?_
    have hc : zc_wish d had n = 2 := if_pos (Or.inl h1)
    rw [zo_wish, hc, if_neg (by decide)] at E
    refine zg_callV F (zM_refused _ _ _ _ _ _ _ _ _) zv_M_refused zu_M_refused zk_635 (fun _ _ h => h.2.1.1) rfl rfl ⟨by decide, by decide⟩ ⟨by decide, by decide⟩ rfl (Nat.le_of_ble_eq_true rfl) dM_wish_50 ?_
    refine zg_eqi (zb_1 (by omega) (by omega)) ?_
    refine zg_if_eqF F dM_wish_53 (tgt := 58) (by decide) (by decide) ?_
    refine zg_iconst F (v := nI 0) (by decide) dM_wish_56 ?_
    exact zg_iret F E (Nat.zero_le _) (Nat.zero_le _) (fun _ _ h => h) dM_wish_57
  · refine zg_icmp_ltF F dM_wish_14 (tgt := 23) (by decide) (h1) ?_
    refine zg_iload_n F 2 rfl rfl dM_wish_17 ?_
    refine zg_bipush F (v := nI 100) (by decide) dM_wish_18 ?_
    by_cases h2 : nI 100 < n
    · refine zg_icmp_leF F dM_wish_20 (tgt := 27) (by decide) (Int32.not_le.mpr h2) ?_
      refine zg_iconst F (v := nI 2) (by decide) dM_wish_23 ?_
      refine zg_goto F (tgt := 50) dM_wish_24 (by decide) ?_
      have hc : zc_wish d had n = 2 := if_pos (Or.inr h2)
      rw [zo_wish, hc, if_neg (by decide)] at E
      refine zg_callV F (zM_refused _ _ _ _ _ _ _ _ _) zv_M_refused zu_M_refused zk_635 (fun _ _ h => h.2.1.1) rfl rfl ⟨by decide, by decide⟩ ⟨by decide, by decide⟩ rfl (Nat.le_of_ble_eq_true rfl) dM_wish_50 ?_
      refine zg_eqi (zb_1 (by omega) (by omega)) ?_
      refine zg_if_eqF F dM_wish_53 (tgt := 58) (by decide) (by decide) ?_
      refine zg_iconst F (v := nI 0) (by decide) dM_wish_56 ?_
      exact zg_iret F E (Nat.zero_le _) (Nat.zero_le _) (fun _ _ h => h) dM_wish_57
    · refine zg_icmp_leT F (tgt := 27) dM_wish_20 (by decide) (Int32.not_lt.mp h2) ?_
      refine zg_aload_n F 0 rfl rfl dM_wish_27 ?_
      refine zg_get F (fun _ _ h => h.2.1.1) rfl zi_M 7 (by decide) rfl zk_545 rfl dM_wish_28 ?_
      refine zg_eqi (he) ?_
      by_cases h3 : d = 0
      · refine zg_if_eqT F (tgt := 45) dM_wish_31 (by decide) (by rw [h3]; rfl) ?_
        refine zg_iconst F (v := nI 3) (by decide) dM_wish_45 ?_
        refine zg_goto F (tgt := 50) dM_wish_46 (by decide) ?_
        have hc : zc_wish d had n = 3 := by rw [zc_wish, if_neg (fun q => q.elim h1 h2), if_pos (Or.inl h3)]
        rw [zo_wish, hc, if_neg (by decide)] at E
        refine zg_callV F (zM_refused _ _ _ _ _ _ _ _ _) zv_M_refused zu_M_refused zk_635 (fun _ _ h => h.2.1.1) rfl rfl ⟨by decide, by decide⟩ ⟨by decide, by decide⟩ rfl (Nat.le_of_ble_eq_true rfl) dM_wish_50 ?_
        refine zg_eqi (zb_1 (by omega) (by omega)) ?_
        refine zg_if_eqF F dM_wish_53 (tgt := 58) (by decide) (by decide) ?_
        refine zg_iconst F (v := nI 0) (by decide) dM_wish_56 ?_
        exact zg_iret F E (Nat.zero_le _) (Nat.zero_le _) (fun _ _ h => h) dM_wish_57
      · refine zg_if_eqF F dM_wish_31 (tgt := 45) (by decide) (nI_ne0 (by omega) (by omega)) ?_
        refine zg_aload_n F 0 rfl rfl dM_wish_34 ?_
        refine zg_get F (fun _ _ h => h.2.1.1) rfl zi_M 15 (by decide) rfl zk_553 rfl dM_wish_35 ?_
        refine zg_iload_n F 1 rfl rfl dM_wish_38 ?_
        refine zm_iald F 12 (by decide) rfl (by show _ < 4; omega) rfl dM_wish_39 ?_
        refine zg_eqi (hw) ?_
        refine zg_bipush F (v := nI 6) (by decide) dM_wish_40 ?_
        by_cases h4 : had = 6
        · refine zg_icmp_neF F dM_wish_42 (tgt := 49) (by decide) (by rw [h4]) ?_
          refine zg_iconst F (v := nI 3) (by decide) dM_wish_45 ?_
          refine zg_goto F (tgt := 50) dM_wish_46 (by decide) ?_
          have hc : zc_wish d had n = 3 := by rw [zc_wish, if_neg (fun q => q.elim h1 h2), if_pos (Or.inr h4)]
          rw [zo_wish, hc, if_neg (by decide)] at E
          refine zg_callV F (zM_refused _ _ _ _ _ _ _ _ _) zv_M_refused zu_M_refused zk_635 (fun _ _ h => h.2.1.1) rfl rfl ⟨by decide, by decide⟩ ⟨by decide, by decide⟩ rfl (Nat.le_of_ble_eq_true rfl) dM_wish_50 ?_
          refine zg_eqi (zb_1 (by omega) (by omega)) ?_
          refine zg_if_eqF F dM_wish_53 (tgt := 58) (by decide) (by decide) ?_
          refine zg_iconst F (v := nI 0) (by decide) dM_wish_56 ?_
          exact zg_iret F E (Nat.zero_le _) (Nat.zero_le _) (fun _ _ h => h) dM_wish_57
        · refine zg_icmp_neT F (tgt := 49) dM_wish_42 (by decide) (fun q => h4 ((nI_eq (by omega) (by omega)).mp q)) ?_
          refine zg_iconst F (v := nI 0) (by decide) dM_wish_49 ?_
          have hc : zc_wish d had n = 0 := by rw [zc_wish, if_neg (fun q => q.elim h1 h2), if_neg (fun q => q.elim h3 h4)]
          rw [zo_wish, hc, if_pos rfl] at E
          refine zg_callV F (zM_refused _ _ _ _ _ _ _ _ _) zv_M_refused zu_M_refused zk_635 (fun _ _ h => h.2.1.1) rfl rfl ⟨by decide, by decide⟩ ⟨by decide, by decide⟩ rfl (Nat.le_of_ble_eq_true rfl) dM_wish_50 ?_
          refine zg_eqi zb_0 ?_
          refine zg_if_eqT F (tgt := 58) dM_wish_53 (by decide) (rfl) ?_
          have hc1 : (zm_copy (zm_f σ 0) (324 + 4 * (6 * port + had)) 0 d).1 25 1 = nI d := by rw [zm_copy_o (by decide)]; exact he
          have hc2 : (zm_copy (zm_f σ 0) (324 + 4 * (6 * port + had)) 0 d).1 12 port = nI had := by rw [zm_copy_o (by decide)]; exact hw
          refine zg_bipush F (v := nI 6) (by decide) dM_wish_58 ?_
          refine zg_iload_n F 1 rfl rfl dM_wish_60 ?_
          refine zg_imul F (by first | exact pk_mul _ _ | rfl) dM_wish_61 ?_
          refine zg_aload_n F 0 rfl rfl dM_wish_62 ?_
          refine zg_get F (fun _ _ h => h.2.1.1) rfl zi_M 15 (by decide) rfl zk_553 rfl dM_wish_63 ?_
          refine zg_iload_n F 1 rfl rfl dM_wish_66 ?_
          refine zm_iald F 12 (by decide) rfl (by show _ < 4; omega) rfl dM_wish_67 ?_
          refine zg_eqi (hw) ?_
          refine zg_iadd F (by first | exact nI_add _ _ | rfl) dM_wish_68 ?_
          refine zg_istore_n F rfl (by rw [hn]; decide) (L' := [(3, _), (0, _), (1, _), (2, _)]) rfl dM_wish_69 ?_
          refine zg_aload_n F 1 rfl rfl dM_wish_70 ?_
          refine zg_sipush F (v := nI 324) (by decide) dM_wish_71 ?_
          refine zg_iconst F (v := nI 4) (by decide) dM_wish_74 ?_
          refine zg_iload_n F 0 rfl rfl dM_wish_75 ?_
          refine zg_imul F (by first | exact pk_mul _ _ | rfl) dM_wish_76 ?_
          refine zg_iadd F (by first | exact nI_add _ _ | rfl) dM_wish_77 ?_
          refine zg_iconst F (v := nI 0) (by decide) dM_wish_78 ?_
          refine zg_aload_n F 1 rfl rfl dM_wish_79 ?_
          refine zg_get F (fun _ _ h => h.2.1.1) rfl zi_M 7 (by decide) rfl zk_545 rfl dM_wish_80 ?_
          refine zg_eqi (he) ?_
          refine zg_callV F (zM_copy _ _ _ _ _ _ _ _ (324 + 4 * (6 * port + had)) 0 d (by omega) (by omega)) zv_M_copy zu_M_copy zk_668 (fun _ _ h => h.2.1.1) rfl rfl ⟨by decide, by decide⟩ ⟨by decide, by decide⟩ rfl (Nat.le_of_ble_eq_true rfl) dM_wish_83 ?_
          refine zg_aload_n F 1 rfl rfl dM_wish_86 ?_
          refine zg_get F (fun _ _ h => h.2.1.1) rfl zi_M 16 (by decide) rfl zk_554 rfl dM_wish_87 ?_
          refine zg_iload_n F 0 rfl rfl dM_wish_90 ?_
          refine zg_iload_n F 3 rfl rfl dM_wish_91 ?_
          refine zm_iast F 13 (by decide) rfl (by show _ < 24; omega) dM_wish_92 ?_
          refine zg_aload_n F 1 rfl rfl dM_wish_93 ?_
          refine zg_get F (fun _ _ h => h.2.1.1) rfl zi_M 17 (by decide) rfl zk_555 rfl dM_wish_94 ?_
          refine zg_iload_n F 0 rfl rfl dM_wish_97 ?_
          refine zg_aload_n F 1 rfl rfl dM_wish_98 ?_
          refine zg_get F (fun _ _ h => h.2.1.1) rfl zi_M 7 (by decide) rfl zk_545 rfl dM_wish_99 ?_
          refine zg_eqi (hc1) ?_
          refine zm_iast F 14 (by decide) rfl (by show _ < 24; omega) dM_wish_102 ?_
          refine zg_aload_n F 1 rfl rfl dM_wish_103 ?_
          refine zg_get F (fun _ _ h => h.2.1.1) rfl zi_M 15 (by decide) rfl zk_553 rfl dM_wish_104 ?_
          refine zg_iload_n F 2 rfl rfl dM_wish_107 ?_
          refine zg_dup2 F rfl rfl dM_wish_108 ?_
          refine zm_iald F 12 (by decide) rfl (by show _ < 4; omega) rfl dM_wish_109 ?_
          refine zg_eqi (hc2) ?_
          refine zg_iconst F (v := nI 1) (by decide) dM_wish_110 ?_
          refine zg_iadd F (by first | exact nI_add _ _ | rfl) dM_wish_111 ?_
          refine zm_iast F 12 (by decide) rfl (by show _ < 4; omega) dM_wish_112 ?_
          refine zg_aload_n F 1 rfl rfl dM_wish_113 ?_
          refine zg_iconst F (v := nI 0) (by decide) dM_wish_114 ?_
          refine zg_put F (fun _ _ h => h.2.1.1) rfl zi_M zy_M zt_M zn_M 7 (by decide) rfl zk_545 rfl rfl rfl rfl (Nat.le_of_ble_eq_true rfl) (fun w z h => zm_P.pt (i := 1) (by decide) w z h) dM_wish_115 ?_
          refine zg_aload_n F 1 rfl rfl dM_wish_118 ?_
          refine zg_iload_n F 2 rfl rfl dM_wish_119 ?_
          have s1 : (zm_wsh σ d port had n).1 12 port = nI (had + 1) := by unfold zm_wsh; rw [zm_set_o (by decide), zm_set_s]
          have s2 : (zm_wsh σ d port had n).1 25 2 = nI T := by unfold zm_wsh; rw [zm_set_n (by decide), zm_set_o (by decide), zm_set_o (by decide), zm_set_o (by decide), zm_copy_o (by decide)]; exact hT
          have s3 : ∀ k, k < had + 1 → ∃ p, p ≤ 4 ∧ (zm_wsh σ d port had n).1 14 (6 * port + k) = nI p := by
            intro k hk
            unfold zm_wsh
            rw [zm_set_o (by decide), zm_set_o (by decide)]
            by_cases hkh : k = had
            · subst hkh
              exact ⟨d, hd, zm_set_s⟩
            · rw [zm_set_n (by omega), zm_set_o (by decide), zm_copy_o (by decide)]
              exact hp k (by omega)
          refine zg_callV F (zM_serve _ _ _ _ _ _ _ (zm_wsh σ d port had n) T port (had + 1) h0 (by omega) hT8 s1 s2 s3) zv_M_serve zu_M_serve zk_676 (fun _ _ h => h.2.1.1) rfl rfl ⟨by decide, by decide⟩ ⟨by decide, by decide⟩ rfl (Nat.le_of_ble_eq_true rfl) dM_wish_120 ?_
          exact zg_iret F E (Nat.zero_le _) (Nat.zero_le _) (fun _ _ h => h) dM_wish_123
