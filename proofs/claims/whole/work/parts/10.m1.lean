set_option maxRecDepth 100000 in
set_option maxHeartbeats 4000000 in
theorem zM_isFour (l : Launch) (D : va_G) (A : Nat → ClassId) (base : Nat) (P : zg_P) (k : Int32) : zg_Met l zm_M_isFour zc_M_isFour 1 (some .boolean) 0 0 0 D A base [.int k] (P) (some (.int (zb (zz4 k)))) (P) := by
  refine zg_met (by decide) (Nat.le_of_ble_eq_true rfl) ?_
  intro K hl hD hA hz hn hnm F E
  subst hl hD hA hz
  show zg_G K (P) 0 0 0 [(0, .int k)] []
  by_cases h1 : k < 0
  · have e : zb (zz4 k) = nI 0 := if_neg (fun q => q.1 h1)
    rw [e] at E
    refine zg_iload_n F 0 rfl rfl dM_isFour_0 ?_
    refine zg_if_ltT F (tgt := 13) dM_isFour_1 (by decide) (h1) ?_
    refine zg_iconst F (v := nI 0) (by decide) dM_isFour_13 ?_
    exact zg_zret F E rfl (Nat.zero_le _) (Nat.zero_le _) (fun _ _ h => h) dM_isFour_14
  · refine zg_iload_n F 0 rfl rfl dM_isFour_0 ?_
    refine zg_if_ltF F dM_isFour_1 (tgt := 13) (by decide) (h1) ?_
    refine zg_iload_n F 0 rfl rfl dM_isFour_4 ?_
    refine zg_iconst F (v := nI 4) (by decide) dM_isFour_5 ?_
    by_cases h2 : nI 4 ≤ k
    · have e : zb (zz4 k) = nI 0 := if_neg (fun q => q.2 h2)
      rw [e] at E
      refine zg_icmp_geT F (tgt := 13) dM_isFour_6 (by decide) (h2) ?_
      refine zg_iconst F (v := nI 0) (by decide) dM_isFour_13 ?_
      exact zg_zret F E rfl (Nat.zero_le _) (Nat.zero_le _) (fun _ _ h => h) dM_isFour_14
    · have e : zb (zz4 k) = nI 1 := if_pos ⟨h1, h2⟩
      rw [e] at E
      refine zg_icmp_geF F dM_isFour_6 (tgt := 13) (by decide) (h2) ?_
      refine zg_iconst F (v := nI 1) (by decide) dM_isFour_9 ?_
      refine zg_goto F (tgt := 14) dM_isFour_10 (by decide) ?_
      exact zg_zret F E rfl (Nat.zero_le _) (Nat.zero_le _) (fun _ _ h => h) dM_isFour_14
set_option maxRecDepth 100000 in
set_option maxHeartbeats 4000000 in
theorem zM_refused (l : Launch) (D : va_G) (A : Nat → ClassId) (base : Nat) (mo sz : Nat) (w0 : zg_w) (σ : zm_S) (c : Int32) : zg_Met l zm_M_refused zc_M_refused 2 (some .boolean) 0 0 0 D A base [.ref mo, .int c] (zm_P A mo w0 sz σ) (some (.int (zb (0 < c)))) (zm_P A mo w0 sz (zm_set σ 25 0 c)) := by
  refine zg_met (by decide) (Nat.le_of_ble_eq_true rfl) ?_
  intro K hl hD hA hz hn hnm F E
  subst hl hD hA hz
  show zg_G K (zm_P (zk_A K) mo w0 sz σ) 0 0 0 [(0, .ref mo), (1, .int c)] []
  refine zg_aload_n F 0 rfl rfl dM_refused_0 ?_
  refine zg_iload_n F 1 rfl rfl dM_refused_1 ?_
  refine zg_put F (fun _ _ h => h.2.1.1) rfl zi_M zy_M zt_M zn_M 0 (by decide) rfl zk_538 rfl rfl rfl rfl (Nat.le_of_ble_eq_true rfl) (fun w z h => zm_P.pt (i := 0) (by decide) w z h) dM_refused_2 ?_
  refine zg_iload_n F 1 rfl rfl dM_refused_5 ?_
  by_cases h1 : 0 < c
  · have e : zb (0 < c) = nI 1 := if_pos h1
    rw [e] at E
    refine zg_if_leF F dM_refused_6 (tgt := 13) (by decide) (Int32.not_le.mpr h1) ?_
    refine zg_iconst F (v := nI 1) (by decide) dM_refused_9 ?_
    refine zg_goto F (tgt := 14) dM_refused_10 (by decide) ?_
    exact zg_zret F E rfl (Nat.zero_le _) (Nat.zero_le _) (fun _ _ h => h) dM_refused_14
  · have e : zb (0 < c) = nI 0 := if_neg h1
    rw [e] at E
    refine zg_if_leT F (tgt := 13) dM_refused_6 (by decide) (Int32.not_lt.mp h1) ?_
    refine zg_iconst F (v := nI 0) (by decide) dM_refused_13 ?_
    exact zg_zret F E rfl (Nat.zero_le _) (Nat.zero_le _) (fun _ _ h => h) dM_refused_14
set_option maxRecDepth 100000 in
set_option maxHeartbeats 4000000 in
theorem zM_thrown (l : Launch) (D : va_G) (A : Nat → ClassId) (base : Nat) (mo sz : Nat) (w0 : zg_w) (σ : zm_S) : zg_Met l zm_M_thrown zc_M_thrown 1 (some .int) 0 0 0 D A base [.ref mo] (zm_P A mo w0 sz σ) (some (.int (σ.1 25 0))) (zm_P A mo w0 sz σ) := by
  refine zg_met (by decide) (Nat.le_of_ble_eq_true rfl) ?_
  intro K hl hD hA hz hn hnm F E
  subst hl hD hA hz
  show zg_G K (zm_P (zk_A K) mo w0 sz σ) 0 0 0 [(0, .ref mo)] []
  refine zg_aload_n F 0 rfl rfl dM_thrown_0 ?_
  refine zg_get F (fun _ _ h => h.2.1.1) rfl zi_M 0 (by decide) rfl zk_538 rfl dM_thrown_1 ?_
  exact zg_iret F E (Nat.zero_le _) (Nat.zero_le _) (fun _ _ h => h) dM_thrown_4
set_option maxRecDepth 100000 in
set_option maxHeartbeats 4000000 in
theorem zM_lies (l : Launch) (D : va_G) (A : Nat → ClassId) (base : Nat) (mo sz : Nat) (w0 : zg_w) (σ : zm_S) (at' parts leg : Nat) (h1 : at' + parts ≤ 420) (h2 : leg < 16) : zg_Met l zm_M_lies zc_M_lies 6 (some .int) 0 0 0 D A base [.ref mo, .int (nI at'), .int (nI parts), .int (nI leg)] (zm_P A mo w0 sz σ) (some (.int (zm_lies σ at' leg parts))) (zm_P A mo w0 sz σ) := by
  refine zg_met (by decide) (Nat.le_of_ble_eq_true rfl) ?_
  intro K hl hD hA hz hn hnm F E
  subst hl hD hA hz
  show zg_G K (zm_P (zk_A K) mo w0 sz σ) 0 0 0 [(0, .ref mo), (1, .int (nI at')), (2, .int (nI parts)), (3, .int (nI leg))] []
  refine zg_iconst F (v := nI 0) (by decide) dM_lies_0 ?_
  refine zg_istore F (by rw [hn]; decide) (L' := [(4, _), (0, _), (1, _), (2, _), (3, _)]) rfl dM_lies_1 ?_
  refine zg_iload_n F 2 rfl rfl dM_lies_3 ?_
  refine zg_istore F (by rw [hn]; decide) (L' := [(5, _), (4, _), (0, _), (1, _), (2, _), (3, _)]) rfl dM_lies_4 ?_
  have loop : ∀ r i, i + r = parts → zg_G K (zm_P (zk_A K) mo w0 sz σ) 0 0 6 [(5, .int (nI (at' + i))), (4, .int (zm_lies σ at' leg i)), (0, .ref mo), (1, .int (nI at')), (2, .int (nI parts)), (3, .int (nI leg))] [] := by
    intro r
    induction r with
    | zero =>
      intro i hi
      obtain rfl : i = parts := by omega
      refine zg_iload F 0 rfl dM_lies_6 ?_
      refine zg_iload_n F 3 rfl rfl dM_lies_8 ?_
      refine zg_iload_n F 4 rfl rfl dM_lies_9 ?_
      refine zg_iadd F (by first | exact nI_add _ _ | rfl) dM_lies_10 ?_
      refine zg_icmp_geT F (tgt := 70) dM_lies_11 (by decide) (nI_le (by omega) (by omega)) ?_
      refine zg_iload F 1 rfl dM_lies_70 ?_
      exact zg_iret F E (Nat.zero_le _) (Nat.zero_le _) (fun _ _ h => h) dM_lies_72
    | succ r ih =>
      intro i hi
      refine zg_iload F 0 rfl dM_lies_6 ?_
      refine zg_iload_n F 3 rfl rfl dM_lies_8 ?_
      refine zg_iload_n F 4 rfl rfl dM_lies_9 ?_
      refine zg_iadd F (by first | exact nI_add _ _ | rfl) dM_lies_10 ?_
      refine zg_icmp_geF F dM_lies_11 (tgt := 70) (by decide) (nI_ge (by omega) (by omega)) ?_
      refine zg_aload_n F 2 rfl rfl dM_lies_14 ?_
      refine zg_get F (fun _ _ h => h.2.1.1) rfl zi_M 4 (by decide) rfl zk_542 rfl dM_lies_15 ?_
      refine zg_iload F 0 rfl dM_lies_18 ?_
      refine zm_iald F 3 (by decide) rfl (by show _ < 420; omega) rfl dM_lies_20 ?_
      refine zg_iload_n F 5 rfl rfl dM_lies_21 ?_
      refine zg_iconst F (v := nI 4) (by decide) dM_lies_22 ?_
      refine zg_idiv F (by decide) (pk_div (by omega) (by omega) (by omega)) dM_lies_23 ?_
      refine zg_icmp_ne F (tgt := 60) dM_lies_24 (by decide) (fun g1 => ?_) (fun g1 => ?_)
      · refine zg_iload F 1 rfl dM_lies_60 ?_
        refine zg_istore F (by rw [hn]; decide) (L' := [(4, _), (5, _), (0, _), (1, _), (2, _), (3, _)]) rfl dM_lies_62 ?_
        refine zg_iinc F 1 rfl (by first | exact zc_inc _ | rfl) (by rw [hn]; decide) (L' := [(5, _), (4, _), (0, _), (1, _), (2, _), (3, _)]) rfl dM_lies_64 ?_
        refine zg_goto F (tgt := 6) dM_lies_67 (by decide) ?_
        have e : zm_lies σ at' leg (i + 1) = zm_lies σ at' leg i := if_neg (fun q => g1 q.1)
        have g := ih (i + 1) (by omega)
        rw [e] at g
        exact g
      · refine zg_aload_n F 2 rfl rfl dM_lies_27 ?_
        refine zg_get F (fun _ _ h => h.2.1.1) rfl zi_M 5 (by decide) rfl zk_543 rfl dM_lies_28 ?_
        refine zg_iload F 0 rfl dM_lies_31 ?_
        refine zm_iald F 4 (by decide) rfl (by show _ < 420; omega) rfl dM_lies_33 ?_
        refine zg_iload_n F 5 rfl rfl dM_lies_34 ?_
        refine zg_iconst F (v := nI 4) (by decide) dM_lies_35 ?_
        refine zg_irem F (by decide) (pk_rem (by omega) (by omega) (by omega)) dM_lies_36 ?_
        refine zg_icmp_gt F (tgt := 60) dM_lies_37 (by decide) (fun g2 => ?_) (fun g2 => ?_)
        · refine zg_iload F 1 rfl dM_lies_60 ?_
          refine zg_istore F (by rw [hn]; decide) (L' := [(4, _), (5, _), (0, _), (1, _), (2, _), (3, _)]) rfl dM_lies_62 ?_
          refine zg_iinc F 1 rfl (by first | exact zc_inc _ | rfl) (by rw [hn]; decide) (L' := [(5, _), (4, _), (0, _), (1, _), (2, _), (3, _)]) rfl dM_lies_64 ?_
          refine zg_goto F (tgt := 6) dM_lies_67 (by decide) ?_
          have e : zm_lies σ at' leg (i + 1) = zm_lies σ at' leg i := if_neg (fun q => Int32.not_le.mpr g2 q.2.1)
          have g := ih (i + 1) (by omega)
          rw [e] at g
          exact g
        · refine zg_iload_n F 5 rfl rfl dM_lies_40 ?_
          refine zg_iconst F (v := nI 4) (by decide) dM_lies_41 ?_
          refine zg_irem F (by decide) (pk_rem (by omega) (by omega) (by omega)) dM_lies_42 ?_
          refine zg_aload_n F 2 rfl rfl dM_lies_43 ?_
          refine zg_get F (fun _ _ h => h.2.1.1) rfl zi_M 6 (by decide) rfl zk_544 rfl dM_lies_44 ?_
          refine zg_iload F 0 rfl dM_lies_47 ?_
          refine zm_iald F 5 (by decide) rfl (by show _ < 420; omega) rfl dM_lies_49 ?_
          refine zg_icmp_ge F (tgt := 60) dM_lies_50 (by decide) (fun g3 => ?_) (fun g3 => ?_)
          · refine zg_iload F 1 rfl dM_lies_60 ?_
            refine zg_istore F (by rw [hn]; decide) (L' := [(4, _), (5, _), (0, _), (1, _), (2, _), (3, _)]) rfl dM_lies_62 ?_
            refine zg_iinc F 1 rfl (by first | exact zc_inc _ | rfl) (by rw [hn]; decide) (L' := [(5, _), (4, _), (0, _), (1, _), (2, _), (3, _)]) rfl dM_lies_64 ?_
            refine zg_goto F (tgt := 6) dM_lies_67 (by decide) ?_
            have e : zm_lies σ at' leg (i + 1) = zm_lies σ at' leg i := if_neg (fun q => Int32.not_lt.mpr g3 q.2.2)
            have g := ih (i + 1) (by omega)
            rw [e] at g
            exact g
          · refine zg_iload F 1 rfl dM_lies_53 ?_
            refine zg_iconst F (v := nI 1) (by decide) dM_lies_55 ?_
            refine zg_iadd F (by first | exact nI_add _ _ | rfl) dM_lies_56 ?_
            refine zg_goto F (tgt := 62) dM_lies_57 (by decide) ?_
            refine zg_istore F (by rw [hn]; decide) (L' := [(4, _), (5, _), (0, _), (1, _), (2, _), (3, _)]) rfl dM_lies_62 ?_
            refine zg_iinc F 1 rfl (by first | exact zc_inc _ | rfl) (by rw [hn]; decide) (L' := [(5, _), (4, _), (0, _), (1, _), (2, _), (3, _)]) rfl dM_lies_64 ?_
            refine zg_goto F (tgt := 6) dM_lies_67 (by decide) ?_
            have e : zm_lies σ at' leg (i + 1) = zm_lies σ at' leg i + nI 1 := if_pos ⟨g1, Int32.not_lt.mp g2, Int32.not_le.mp g3⟩
            have g := ih (i + 1) (by omega)
            rw [e] at g
            exact g
  exact loop parts 0 (by omega)
