set_option maxRecDepth 100000 in
set_option maxHeartbeats 4000000 in
theorem zM_wishes_bad (l : Launch) (D : va_G) (A : Nat → ClassId) (base : Nat) (mo sz : Nat) (w0 : zg_w) (σ : zm_S) (port : Int32) (h : ¬ zz4 port) : zg_Met l zm_M_wishes zc_M_wishes 2 (some .int) 1 0 0 D A base [.ref mo, .int port] (zm_P A mo w0 sz σ) (some (.int (nI 0))) (zm_P A mo w0 sz (zm_f σ 1)) := by
  refine zg_met (by decide) (Nat.le_of_ble_eq_true rfl) ?_
  intro K hl hD hA hz hn hnm F E
  subst hl hD hA hz
  show zg_G K (zm_P (zk_A K) mo w0 sz σ) 0 0 0 [(0, .ref mo), (1, .int port)] []
  refine zg_aload_n F 0 rfl rfl dM_wishes_0 ?_
  refine zg_iload_n F 1 rfl rfl dM_wishes_1 ?_
  refine zg_callS F (zM_isFour _ _ _ _ _ _) zv_M_isFour zu_M_isFour zk_632 rfl ⟨by decide, by decide⟩ ⟨by decide, by decide⟩ rfl (Nat.le_of_ble_eq_true rfl) dM_wishes_2 ?_
  refine zg_eqi (y := nI 0) (zb_f (h)) ?_
  refine zg_if_eqT F (tgt := 12) dM_wishes_5 (by decide) (rfl) ?_
  refine zg_iconst F (v := nI 1) (by decide) dM_wishes_12 ?_
  refine zg_callV F (zM_refused _ _ _ _ _ _ _ _ _) zv_M_refused zu_M_refused zk_635 (fun _ _ h => h.2.1.1) rfl rfl ⟨by decide, by decide⟩ ⟨by decide, by decide⟩ rfl (Nat.le_of_ble_eq_true rfl) dM_wishes_13 ?_
  refine zg_eqi (zb_1 (by omega) (by omega)) ?_
  refine zg_if_eqF F dM_wishes_16 (tgt := 23) (by decide) (by decide) ?_
  refine zg_iconst F (v := nI 0) (by decide) dM_wishes_19 ?_
  refine zg_goto F (tgt := 29) dM_wishes_20 (by decide) ?_
  exact zg_iret F E (Nat.zero_le _) (Nat.zero_le _) (fun _ _ h => h) dM_wishes_29
set_option maxRecDepth 100000 in
set_option maxHeartbeats 4000000 in
theorem zM_till_bad (l : Launch) (D : va_G) (A : Nat → ClassId) (base : Nat) (mo sz : Nat) (w0 : zg_w) (σ : zm_S) (port : Int32) (h : ¬ zz4 port) : zg_Met l zm_M_till zc_M_till 2 (some .long) 1 0 0 D A base [.ref mo, .int port] (zm_P A mo w0 sz σ) (some (.long 0)) (zm_P A mo w0 sz (zm_f σ 1)) := by
  refine zg_met (by decide) (Nat.le_of_ble_eq_true rfl) ?_
  intro K hl hD hA hz hn hnm F E
  subst hl hD hA hz
  show zg_G K (zm_P (zk_A K) mo w0 sz σ) 0 0 0 [(0, .ref mo), (1, .int port)] []
  refine zg_aload_n F 0 rfl rfl dM_till_0 ?_
  refine zg_iload_n F 1 rfl rfl dM_till_1 ?_
  refine zg_callS F (zM_isFour _ _ _ _ _ _) zv_M_isFour zu_M_isFour zk_632 rfl ⟨by decide, by decide⟩ ⟨by decide, by decide⟩ rfl (Nat.le_of_ble_eq_true rfl) dM_till_2 ?_
  refine zg_eqi (y := nI 0) (zb_f (h)) ?_
  refine zg_if_eqT F (tgt := 12) dM_till_5 (by decide) (rfl) ?_
  refine zg_iconst F (v := nI 1) (by decide) dM_till_12 ?_
  refine zg_callV F (zM_refused _ _ _ _ _ _ _ _ _) zv_M_refused zu_M_refused zk_635 (fun _ _ h => h.2.1.1) rfl rfl ⟨by decide, by decide⟩ ⟨by decide, by decide⟩ rfl (Nat.le_of_ble_eq_true rfl) dM_till_13 ?_
  refine zg_eqi (zb_1 (by omega) (by omega)) ?_
  refine zg_if_eqF F dM_till_16 (tgt := 23) (by decide) (by decide) ?_
  refine zg_lconst F (v := 0) rfl dM_till_19 ?_
  refine zg_goto F (tgt := 29) dM_till_20 (by decide) ?_
  exact zg_lret F E (Nat.zero_le _) (Nat.zero_le _) (fun _ _ h => h) dM_till_29
set_option maxRecDepth 100000 in
set_option maxHeartbeats 4000000 in
theorem zM_crash_bad (l : Launch) (D : va_G) (A : Nat → ClassId) (base : Nat) (mo sz : Nat) (w0 : zg_w) (σ : zm_S) (port : Int32) (h : ¬ zz4 port) : zg_Met l zm_M_crash zc_M_crash 4 (some .int) 1 0 0 D A base [.ref mo, .int port] (zm_P A mo w0 sz σ) (some (.int (nI 0))) (zm_P A mo w0 sz (zm_f σ 1)) := by
  refine zg_met (by decide) (Nat.le_of_ble_eq_true rfl) ?_
  intro K hl hD hA hz hn hnm F E
  subst hl hD hA hz
  show zg_G K (zm_P (zk_A K) mo w0 sz σ) 0 0 0 [(0, .ref mo), (1, .int port)] []
  refine zg_aload_n F 0 rfl rfl dM_crash_0 ?_
  refine zg_iload_n F 1 rfl rfl dM_crash_1 ?_
  refine zg_callS F (zM_isFour _ _ _ _ _ _) zv_M_isFour zu_M_isFour zk_632 rfl ⟨by decide, by decide⟩ ⟨by decide, by decide⟩ rfl (Nat.le_of_ble_eq_true rfl) dM_crash_2 ?_
  refine zg_eqi (y := nI 0) (zb_f (h)) ?_
  refine zg_if_eqT F (tgt := 12) dM_crash_5 (by decide) (rfl) ?_
  refine zg_iconst F (v := nI 1) (by decide) dM_crash_12 ?_
  refine zg_callV F (zM_refused _ _ _ _ _ _ _ _ _) zv_M_refused zu_M_refused zk_635 (fun _ _ h => h.2.1.1) rfl rfl ⟨by decide, by decide⟩ ⟨by decide, by decide⟩ rfl (Nat.le_of_ble_eq_true rfl) dM_crash_13 ?_
  refine zg_eqi (zb_1 (by omega) (by omega)) ?_
  refine zg_if_eqF F dM_crash_16 (tgt := 21) (by decide) (by decide) ?_
  refine zg_iconst F (v := nI 0) (by decide) dM_crash_19 ?_
  exact zg_iret F E (Nat.zero_le _) (Nat.zero_le _) (fun _ _ h => h) dM_crash_20
set_option maxRecDepth 100000 in
set_option maxHeartbeats 4000000 in
theorem zM_wishes (l : Launch) (D : va_G) (A : Nat → ClassId) (base : Nat) (mo sz : Nat) (w0 : zg_w) (σ : zm_S) (port : Nat) (hp : port < 4) : zg_Met l zm_M_wishes zc_M_wishes 2 (some .int) 1 0 0 D A base [.ref mo, .int (nI port)] (zm_P A mo w0 sz σ) (some (.int (σ.1 12 port))) (zm_P A mo w0 sz (zm_f σ 0)) := by
  refine zg_met (by decide) (Nat.le_of_ble_eq_true rfl) ?_
  intro K hl hD hA hz hn hnm F E
  subst hl hD hA hz
  show zg_G K (zm_P (zk_A K) mo w0 sz σ) 0 0 0 [(0, .ref mo), (1, .int (nI port))] []
  refine zg_aload_n F 0 rfl rfl dM_wishes_0 ?_
  refine zg_iload_n F 1 rfl rfl dM_wishes_1 ?_
  refine zg_callS F (zM_isFour _ _ _ _ _ _) zv_M_isFour zu_M_isFour zk_632 rfl ⟨by decide, by decide⟩ ⟨by decide, by decide⟩ rfl (Nat.le_of_ble_eq_true rfl) dM_wishes_2 ?_
  refine zg_eqi (y := nI 1) (zb_t (zz4_of hp)) ?_
  refine zg_if_eqF F dM_wishes_5 (tgt := 12) (by decide) (by decide) ?_
  refine zg_iconst F (v := nI 0) (by decide) dM_wishes_8 ?_
  refine zg_goto F (tgt := 13) dM_wishes_9 (by decide) ?_
  refine zg_callV F (zM_refused _ _ _ _ _ _ _ _ _) zv_M_refused zu_M_refused zk_635 (fun _ _ h => h.2.1.1) rfl rfl ⟨by decide, by decide⟩ ⟨by decide, by decide⟩ rfl (Nat.le_of_ble_eq_true rfl) dM_wishes_13 ?_
  refine zg_eqi zb_0 ?_
  refine zg_if_eqT F (tgt := 23) dM_wishes_16 (by decide) (rfl) ?_
  refine zg_aload_n F 0 rfl rfl dM_wishes_23 ?_
  refine zg_get F (fun _ _ h => h.2.1.1) rfl zi_M 15 (by decide) rfl zk_553 rfl dM_wishes_24 ?_
  refine zg_iload_n F 1 rfl rfl dM_wishes_27 ?_
  refine zm_iald F 12 (by decide) rfl (by show _ < 4; omega) rfl dM_wishes_28 ?_
  exact zg_iret F E (Nat.zero_le _) (Nat.zero_le _) (fun _ _ h => h) dM_wishes_29
set_option maxRecDepth 100000 in
set_option maxHeartbeats 4000000 in
theorem zM_till (l : Launch) (D : va_G) (A : Nat → ClassId) (base : Nat) (mo sz : Nat) (w0 : zg_w) (σ : zm_S) (port : Nat) (hp : port < 4) : zg_Met l zm_M_till zc_M_till 2 (some .long) 1 0 0 D A base [.ref mo, .int (nI port)] (zm_P A mo w0 sz σ) (some (.long (σ.2 11 port))) (zm_P A mo w0 sz (zm_f σ 0)) := by
  refine zg_met (by decide) (Nat.le_of_ble_eq_true rfl) ?_
  intro K hl hD hA hz hn hnm F E
  subst hl hD hA hz
  show zg_G K (zm_P (zk_A K) mo w0 sz σ) 0 0 0 [(0, .ref mo), (1, .int (nI port))] []
  refine zg_aload_n F 0 rfl rfl dM_till_0 ?_
  refine zg_iload_n F 1 rfl rfl dM_till_1 ?_
  refine zg_callS F (zM_isFour _ _ _ _ _ _) zv_M_isFour zu_M_isFour zk_632 rfl ⟨by decide, by decide⟩ ⟨by decide, by decide⟩ rfl (Nat.le_of_ble_eq_true rfl) dM_till_2 ?_
  refine zg_eqi (y := nI 1) (zb_t (zz4_of hp)) ?_
  refine zg_if_eqF F dM_till_5 (tgt := 12) (by decide) (by decide) ?_
  refine zg_iconst F (v := nI 0) (by decide) dM_till_8 ?_
  refine zg_goto F (tgt := 13) dM_till_9 (by decide) ?_
  refine zg_callV F (zM_refused _ _ _ _ _ _ _ _ _) zv_M_refused zu_M_refused zk_635 (fun _ _ h => h.2.1.1) rfl rfl ⟨by decide, by decide⟩ ⟨by decide, by decide⟩ rfl (Nat.le_of_ble_eq_true rfl) dM_till_13 ?_
  refine zg_eqi zb_0 ?_
  refine zg_if_eqT F (tgt := 23) dM_till_16 (by decide) (rfl) ?_
  refine zg_aload_n F 0 rfl rfl dM_till_23 ?_
  refine zg_get F (fun _ _ h => h.2.1.1) rfl zi_M 14 (by decide) rfl zk_552 rfl dM_till_24 ?_
  refine zg_iload_n F 1 rfl rfl dM_till_27 ?_
  refine zm_lald F 11 (by decide) rfl (by show _ < 4; omega) rfl dM_till_28 ?_
  exact zg_lret F E (Nat.zero_le _) (Nat.zero_le _) (fun _ _ h => h) dM_till_29
set_option maxRecDepth 100000 in
set_option maxHeartbeats 4000000 in
theorem zM_air_bad (l : Launch) (D : va_G) (A : Nat → ClassId) (base : Nat) (mo sz : Nat) (w0 : zg_w) (σ : zm_S) (s leg : Int32) (h : ¬ (zz4 s ∧ zz4 leg)) : zg_Met l zm_M_air zc_M_air 6 (some .int) 1 0 0 D A base [.ref mo, .int s, .int leg] (zm_P A mo w0 sz σ) (some (.int (nI 0))) (zm_P A mo w0 sz (zm_f σ 1)) := by
  refine zg_met (by decide) (Nat.le_of_ble_eq_true rfl) ?_
  intro K hl hD hA hz hn hnm F E
  subst hl hD hA hz
  show zg_G K (zm_P (zk_A K) mo w0 sz σ) 0 0 0 [(0, .ref mo), (1, .int s), (2, .int leg)] []
  refine zg_aload_n F 0 rfl rfl dM_air_0 ?_
  refine zg_iload_n F 1 rfl rfl dM_air_1 ?_
  by_cases h1 : zz4 s
  · refine zg_callS F (zM_isFour _ _ _ _ _ _) zv_M_isFour zu_M_isFour zk_632 rfl ⟨by decide, by decide⟩ ⟨by decide, by decide⟩ rfl (Nat.le_of_ble_eq_true rfl) dM_air_2 ?_
    refine zg_eqi (y := nI 1) (zb_t (h1)) ?_
    refine zg_if_eqF F dM_air_5 (tgt := 19) (by decide) (by decide) ?_
    refine zg_iload_n F 2 rfl rfl dM_air_8 ?_
    refine zg_callS F (zM_isFour _ _ _ _ _ _) zv_M_isFour zu_M_isFour zk_632 rfl ⟨by decide, by decide⟩ ⟨by decide, by decide⟩ rfl (Nat.le_of_ble_eq_true rfl) dM_air_9 ?_
    refine zg_eqi (y := nI 0) (zb_f (fun q => h ⟨h1, q⟩)) ?_
    refine zg_if_eqT F (tgt := 19) dM_air_12 (by decide) (rfl) ?_
    refine zg_iconst F (v := nI 1) (by decide) dM_air_19 ?_
    refine zg_callV F (zM_refused _ _ _ _ _ _ _ _ _) zv_M_refused zu_M_refused zk_635 (fun _ _ h => h.2.1.1) rfl rfl ⟨by decide, by decide⟩ ⟨by decide, by decide⟩ rfl (Nat.le_of_ble_eq_true rfl) dM_air_20 ?_
    refine zg_eqi (zb_1 (by omega) (by omega)) ?_
    refine zg_if_eqF F dM_air_23 (tgt := 28) (by decide) (by decide) ?_
    refine zg_iconst F (v := nI 0) (by decide) dM_air_26 ?_
    exact zg_iret F E (Nat.zero_le _) (Nat.zero_le _) (fun _ _ h => h) dM_air_27
  · refine zg_callS F (zM_isFour _ _ _ _ _ _) zv_M_isFour zu_M_isFour zk_632 rfl ⟨by decide, by decide⟩ ⟨by decide, by decide⟩ rfl (Nat.le_of_ble_eq_true rfl) dM_air_2 ?_
    refine zg_eqi (y := nI 0) (zb_f (h1)) ?_
    refine zg_if_eqT F (tgt := 19) dM_air_5 (by decide) (rfl) ?_
    refine zg_iconst F (v := nI 1) (by decide) dM_air_19 ?_
    refine zg_callV F (zM_refused _ _ _ _ _ _ _ _ _) zv_M_refused zu_M_refused zk_635 (fun _ _ h => h.2.1.1) rfl rfl ⟨by decide, by decide⟩ ⟨by decide, by decide⟩ rfl (Nat.le_of_ble_eq_true rfl) dM_air_20 ?_
    refine zg_eqi (zb_1 (by omega) (by omega)) ?_
    refine zg_if_eqF F dM_air_23 (tgt := 28) (by decide) (by decide) ?_
    refine zg_iconst F (v := nI 0) (by decide) dM_air_26 ?_
    exact zg_iret F E (Nat.zero_le _) (Nat.zero_le _) (fun _ _ h => h) dM_air_27
set_option maxRecDepth 100000 in
set_option maxHeartbeats 4000000 in
theorem zM_sold_bad (l : Launch) (D : va_G) (A : Nat → ClassId) (base : Nat) (mo sz : Nat) (w0 : zg_w) (σ : zm_S) (s leg : Int32) (h : ¬ (zz4 s ∧ zz4 leg)) : zg_Met l zm_M_sold zc_M_sold 5 (some .int) 1 0 0 D A base [.ref mo, .int s, .int leg] (zm_P A mo w0 sz σ) (some (.int (nI 0))) (zm_P A mo w0 sz (zm_f σ 1)) := by
  refine zg_met (by decide) (Nat.le_of_ble_eq_true rfl) ?_
  intro K hl hD hA hz hn hnm F E
  subst hl hD hA hz
  show zg_G K (zm_P (zk_A K) mo w0 sz σ) 0 0 0 [(0, .ref mo), (1, .int s), (2, .int leg)] []
  refine zg_aload_n F 0 rfl rfl dM_sold_0 ?_
  refine zg_iload_n F 1 rfl rfl dM_sold_1 ?_
  by_cases h1 : zz4 s
  · refine zg_callS F (zM_isFour _ _ _ _ _ _) zv_M_isFour zu_M_isFour zk_632 rfl ⟨by decide, by decide⟩ ⟨by decide, by decide⟩ rfl (Nat.le_of_ble_eq_true rfl) dM_sold_2 ?_
    refine zg_eqi (y := nI 1) (zb_t (h1)) ?_
    refine zg_if_eqF F dM_sold_5 (tgt := 19) (by decide) (by decide) ?_
    refine zg_iload_n F 2 rfl rfl dM_sold_8 ?_
    refine zg_callS F (zM_isFour _ _ _ _ _ _) zv_M_isFour zu_M_isFour zk_632 rfl ⟨by decide, by decide⟩ ⟨by decide, by decide⟩ rfl (Nat.le_of_ble_eq_true rfl) dM_sold_9 ?_
    refine zg_eqi (y := nI 0) (zb_f (fun q => h ⟨h1, q⟩)) ?_
    refine zg_if_eqT F (tgt := 19) dM_sold_12 (by decide) (rfl) ?_
    refine zg_iconst F (v := nI 1) (by decide) dM_sold_19 ?_
    refine zg_callV F (zM_refused _ _ _ _ _ _ _ _ _) zv_M_refused zu_M_refused zk_635 (fun _ _ h => h.2.1.1) rfl rfl ⟨by decide, by decide⟩ ⟨by decide, by decide⟩ rfl (Nat.le_of_ble_eq_true rfl) dM_sold_20 ?_
    refine zg_eqi (zb_1 (by omega) (by omega)) ?_
    refine zg_if_eqF F dM_sold_23 (tgt := 28) (by decide) (by decide) ?_
    refine zg_iconst F (v := nI 0) (by decide) dM_sold_26 ?_
    exact zg_iret F E (Nat.zero_le _) (Nat.zero_le _) (fun _ _ h => h) dM_sold_27
  · refine zg_callS F (zM_isFour _ _ _ _ _ _) zv_M_isFour zu_M_isFour zk_632 rfl ⟨by decide, by decide⟩ ⟨by decide, by decide⟩ rfl (Nat.le_of_ble_eq_true rfl) dM_sold_2 ?_
    refine zg_eqi (y := nI 0) (zb_f (h1)) ?_
    refine zg_if_eqT F (tgt := 19) dM_sold_5 (by decide) (rfl) ?_
    refine zg_iconst F (v := nI 1) (by decide) dM_sold_19 ?_
    refine zg_callV F (zM_refused _ _ _ _ _ _ _ _ _) zv_M_refused zu_M_refused zk_635 (fun _ _ h => h.2.1.1) rfl rfl ⟨by decide, by decide⟩ ⟨by decide, by decide⟩ rfl (Nat.le_of_ble_eq_true rfl) dM_sold_20 ?_
    refine zg_eqi (zb_1 (by omega) (by omega)) ?_
    refine zg_if_eqF F dM_sold_23 (tgt := 28) (by decide) (by decide) ?_
    refine zg_iconst F (v := nI 0) (by decide) dM_sold_26 ?_
    exact zg_iret F E (Nat.zero_le _) (Nat.zero_le _) (fun _ _ h => h) dM_sold_27
set_option maxRecDepth 100000 in
set_option maxHeartbeats 4000000 in
theorem zM_rights_bad (l : Launch) (D : va_G) (A : Nat → ClassId) (base : Nat) (mo sz : Nat) (w0 : zg_w) (σ : zm_S) (a s leg : Int32) (h : ¬ (zz4 a ∧ zz4 s ∧ zz4 leg)) : zg_Met l zm_M_rights zc_M_rights 5 (some .int) 1 0 0 D A base [.ref mo, .int a, .int s, .int leg] (zm_P A mo w0 sz σ) (some (.int (nI 0))) (zm_P A mo w0 sz (zm_f σ 1)) := by
  refine zg_met (by decide) (Nat.le_of_ble_eq_true rfl) ?_
  intro K hl hD hA hz hn hnm F E
  subst hl hD hA hz
  show zg_G K (zm_P (zk_A K) mo w0 sz σ) 0 0 0 [(0, .ref mo), (1, .int a), (2, .int s), (3, .int leg)] []
  refine zg_iload_n F 1 rfl rfl dM_rights_0 ?_
  by_cases h0 : zz4 a
  · refine zg_callS F (zM_isFour _ _ _ _ _ _) zv_M_isFour zu_M_isFour zk_632 rfl ⟨by decide, by decide⟩ ⟨by decide, by decide⟩ rfl (Nat.le_of_ble_eq_true rfl) dM_rights_1 ?_
    refine zg_eqi (y := nI 1) (zb_t (h0)) ?_
    refine zg_if_eqF F dM_rights_4 (tgt := 25) (by decide) (by decide) ?_
    refine zg_iload_n F 2 rfl rfl dM_rights_7 ?_
    by_cases h1 : zz4 s
    · refine zg_callS F (zM_isFour _ _ _ _ _ _) zv_M_isFour zu_M_isFour zk_632 rfl ⟨by decide, by decide⟩ ⟨by decide, by decide⟩ rfl (Nat.le_of_ble_eq_true rfl) dM_rights_8 ?_
      refine zg_eqi (y := nI 1) (zb_t (h1)) ?_
      refine zg_if_eqF F dM_rights_11 (tgt := 25) (by decide) (by decide) ?_
      refine zg_iload_n F 3 rfl rfl dM_rights_14 ?_
      refine zg_callS F (zM_isFour _ _ _ _ _ _) zv_M_isFour zu_M_isFour zk_632 rfl ⟨by decide, by decide⟩ ⟨by decide, by decide⟩ rfl (Nat.le_of_ble_eq_true rfl) dM_rights_15 ?_
      refine zg_eqi (y := nI 0) (zb_f (fun q => h ⟨h0, h1, q⟩)) ?_
      refine zg_if_eqT F (tgt := 25) dM_rights_18 (by decide) (rfl) ?_
      refine zg_iconst F (v := nI 0) (by decide) dM_rights_25 ?_
      refine zg_istore F (by rw [hn]; decide) (L' := [(4, _), (0, _), (1, _), (2, _), (3, _)]) rfl dM_rights_26 ?_
      refine zg_aload_n F 1 rfl rfl dM_rights_28 ?_
      refine zg_iload F 0 rfl dM_rights_29 ?_
      refine zg_if_eqT F (tgt := 38) dM_rights_31 (by decide) (rfl) ?_
      refine zg_iconst F (v := nI 1) (by decide) dM_rights_38 ?_
      refine zg_callV F (zM_refused _ _ _ _ _ _ _ _ _) zv_M_refused zu_M_refused zk_635 (fun _ _ h => h.2.1.1) rfl rfl ⟨by decide, by decide⟩ ⟨by decide, by decide⟩ rfl (Nat.le_of_ble_eq_true rfl) dM_rights_39 ?_
      refine zg_eqi (zb_1 (by omega) (by omega)) ?_
      refine zg_if_eqF F dM_rights_42 (tgt := 49) (by decide) (by decide) ?_
      refine zg_iconst F (v := nI 0) (by decide) dM_rights_45 ?_
      refine zg_goto F (tgt := 64) dM_rights_46 (by decide) ?_
      exact zg_iret F E (Nat.zero_le _) (Nat.zero_le _) (fun _ _ h => h) dM_rights_64
    · refine zg_callS F (zM_isFour _ _ _ _ _ _) zv_M_isFour zu_M_isFour zk_632 rfl ⟨by decide, by decide⟩ ⟨by decide, by decide⟩ rfl (Nat.le_of_ble_eq_true rfl) dM_rights_8 ?_
      refine zg_eqi (y := nI 0) (zb_f (h1)) ?_
      refine zg_if_eqT F (tgt := 25) dM_rights_11 (by decide) (rfl) ?_
      refine zg_iconst F (v := nI 0) (by decide) dM_rights_25 ?_
      refine zg_istore F (by rw [hn]; decide) (L' := [(4, _), (0, _), (1, _), (2, _), (3, _)]) rfl dM_rights_26 ?_
      refine zg_aload_n F 1 rfl rfl dM_rights_28 ?_
      refine zg_iload F 0 rfl dM_rights_29 ?_
      refine zg_if_eqT F (tgt := 38) dM_rights_31 (by decide) (rfl) ?_
      refine zg_iconst F (v := nI 1) (by decide) dM_rights_38 ?_
      refine zg_callV F (zM_refused _ _ _ _ _ _ _ _ _) zv_M_refused zu_M_refused zk_635 (fun _ _ h => h.2.1.1) rfl rfl ⟨by decide, by decide⟩ ⟨by decide, by decide⟩ rfl (Nat.le_of_ble_eq_true rfl) dM_rights_39 ?_
      refine zg_eqi (zb_1 (by omega) (by omega)) ?_
      refine zg_if_eqF F dM_rights_42 (tgt := 49) (by decide) (by decide) ?_
      refine zg_iconst F (v := nI 0) (by decide) dM_rights_45 ?_
      refine zg_goto F (tgt := 64) dM_rights_46 (by decide) ?_
      exact zg_iret F E (Nat.zero_le _) (Nat.zero_le _) (fun _ _ h => h) dM_rights_64
  · refine zg_callS F (zM_isFour _ _ _ _ _ _) zv_M_isFour zu_M_isFour zk_632 rfl ⟨by decide, by decide⟩ ⟨by decide, by decide⟩ rfl (Nat.le_of_ble_eq_true rfl) dM_rights_1 ?_
    refine zg_eqi (y := nI 0) (zb_f (h0)) ?_
    refine zg_if_eqT F (tgt := 25) dM_rights_4 (by decide) (rfl) ?_
    refine zg_iconst F (v := nI 0) (by decide) dM_rights_25 ?_
    refine zg_istore F (by rw [hn]; decide) (L' := [(4, _), (0, _), (1, _), (2, _), (3, _)]) rfl dM_rights_26 ?_
    refine zg_aload_n F 1 rfl rfl dM_rights_28 ?_
    refine zg_iload F 0 rfl dM_rights_29 ?_
    refine zg_if_eqT F (tgt := 38) dM_rights_31 (by decide) (rfl) ?_
    refine zg_iconst F (v := nI 1) (by decide) dM_rights_38 ?_
    refine zg_callV F (zM_refused _ _ _ _ _ _ _ _ _) zv_M_refused zu_M_refused zk_635 (fun _ _ h => h.2.1.1) rfl rfl ⟨by decide, by decide⟩ ⟨by decide, by decide⟩ rfl (Nat.le_of_ble_eq_true rfl) dM_rights_39 ?_
    refine zg_eqi (zb_1 (by omega) (by omega)) ?_
    refine zg_if_eqF F dM_rights_42 (tgt := 49) (by decide) (by decide) ?_
    refine zg_iconst F (v := nI 0) (by decide) dM_rights_45 ?_
    refine zg_goto F (tgt := 64) dM_rights_46 (by decide) ?_
    exact zg_iret F E (Nat.zero_le _) (Nat.zero_le _) (fun _ _ h => h) dM_rights_64
set_option maxRecDepth 100000 in
set_option maxHeartbeats 4000000 in
theorem zM_rights (l : Launch) (D : va_G) (A : Nat → ClassId) (base : Nat) (mo sz : Nat) (w0 : zg_w) (σ : zm_S) (a s leg : Nat) (ha : a < 4) (hs : s < 4) (hg : leg < 4) : zg_Met l zm_M_rights zc_M_rights 5 (some .int) 1 0 0 D A base [.ref mo, .int (nI a), .int (nI s), .int (nI leg)] (zm_P A mo w0 sz σ) (some (.int (σ.1 2 (16 * a + 4 * s + leg)))) (zm_P A mo w0 sz (zm_f σ 0)) := by
  refine zg_met (by decide) (Nat.le_of_ble_eq_true rfl) ?_
  intro K hl hD hA hz hn hnm F E
  subst hl hD hA hz
  show zg_G K (zm_P (zk_A K) mo w0 sz σ) 0 0 0 [(0, .ref mo), (1, .int (nI a)), (2, .int (nI s)), (3, .int (nI leg))] []
  refine zg_iload_n F 1 rfl rfl dM_rights_0 ?_
  refine zg_callS F (zM_isFour _ _ _ _ _ _) zv_M_isFour zu_M_isFour zk_632 rfl ⟨by decide, by decide⟩ ⟨by decide, by decide⟩ rfl (Nat.le_of_ble_eq_true rfl) dM_rights_1 ?_
  refine zg_eqi (y := nI 1) (zb_t (zz4_of ha)) ?_
  refine zg_if_eqF F dM_rights_4 (tgt := 25) (by decide) (by decide) ?_
  refine zg_iload_n F 2 rfl rfl dM_rights_7 ?_
  refine zg_callS F (zM_isFour _ _ _ _ _ _) zv_M_isFour zu_M_isFour zk_632 rfl ⟨by decide, by decide⟩ ⟨by decide, by decide⟩ rfl (Nat.le_of_ble_eq_true rfl) dM_rights_8 ?_
  refine zg_eqi (y := nI 1) (zb_t (zz4_of hs)) ?_
  refine zg_if_eqF F dM_rights_11 (tgt := 25) (by decide) (by decide) ?_
  refine zg_iload_n F 3 rfl rfl dM_rights_14 ?_
  refine zg_callS F (zM_isFour _ _ _ _ _ _) zv_M_isFour zu_M_isFour zk_632 rfl ⟨by decide, by decide⟩ ⟨by decide, by decide⟩ rfl (Nat.le_of_ble_eq_true rfl) dM_rights_15 ?_
  refine zg_eqi (y := nI 1) (zb_t (zz4_of hg)) ?_
  refine zg_if_eqF F dM_rights_18 (tgt := 25) (by decide) (by decide) ?_
  refine zg_iconst F (v := nI 1) (by decide) dM_rights_21 ?_
  refine zg_goto F (tgt := 26) dM_rights_22 (by decide) ?_
  refine zg_istore F (by rw [hn]; decide) (L' := [(4, _), (0, _), (1, _), (2, _), (3, _)]) rfl dM_rights_26 ?_
  refine zg_aload_n F 1 rfl rfl dM_rights_28 ?_
  refine zg_iload F 0 rfl dM_rights_29 ?_
  refine zg_if_eqF F dM_rights_31 (tgt := 38) (by decide) (by decide) ?_
  refine zg_iconst F (v := nI 0) (by decide) dM_rights_34 ?_
  refine zg_goto F (tgt := 39) dM_rights_35 (by decide) ?_
  refine zg_callV F (zM_refused _ _ _ _ _ _ _ _ _) zv_M_refused zu_M_refused zk_635 (fun _ _ h => h.2.1.1) rfl rfl ⟨by decide, by decide⟩ ⟨by decide, by decide⟩ rfl (Nat.le_of_ble_eq_true rfl) dM_rights_39 ?_
  refine zg_eqi zb_0 ?_
  refine zg_if_eqT F (tgt := 49) dM_rights_42 (by decide) (rfl) ?_
  refine zg_aload_n F 1 rfl rfl dM_rights_49 ?_
  refine zg_get F (fun _ _ h => h.2.1.1) rfl zi_M 3 (by decide) rfl zk_541 rfl dM_rights_50 ?_
  refine zg_bipush F (v := nI 16) (by decide) dM_rights_53 ?_
  refine zg_iload_n F 2 rfl rfl dM_rights_55 ?_
  refine zg_imul F (by first | exact pk_mul _ _ | rfl) dM_rights_56 ?_
  refine zg_iconst F (v := nI 4) (by decide) dM_rights_57 ?_
  refine zg_iload_n F 3 rfl rfl dM_rights_58 ?_
  refine zg_imul F (by first | exact pk_mul _ _ | rfl) dM_rights_59 ?_
  refine zg_iadd F (by first | exact nI_add _ _ | rfl) dM_rights_60 ?_
  refine zg_iload_n F 4 rfl rfl dM_rights_61 ?_
  refine zg_iadd F (by first | exact nI_add _ _ | rfl) dM_rights_62 ?_
  refine zm_iald F 2 (by decide) rfl (by show _ < 64; omega) rfl dM_rights_63 ?_
  exact zg_iret F E (Nat.zero_le _) (Nat.zero_le _) (fun _ _ h => h) dM_rights_64
theorem zm_lies_eq {σ τ : zm_S} {at' leg : Nat} (h3 : ∀ i, σ.1 3 i = τ.1 3 i) (h4 : ∀ i, σ.1 4 i = τ.1 4 i) (h5 : ∀ i, σ.1 5 i = τ.1 5 i) : ∀ n, zm_lies σ at' leg n = zm_lies τ at' leg n
  | 0 => rfl
  | n + 1 => by rw [zm_lies, zm_lies, zm_lies_eq h3 h4 h5 n, h3, h4, h5]
set_option maxRecDepth 100000 in
set_option maxHeartbeats 4000000 in
theorem zM_sold (l : Launch) (D : va_G) (A : Nat → ClassId) (base : Nat) (mo sz : Nat) (w0 : zg_w) (σ : zm_S) (s leg T : Nat) (hs : s < 4) (hg : leg < 4) (hT8 : T ≤ 80) (hT : σ.1 25 2 = nI T) (hq : ∀ t, t < T → ∃ p, p ≤ 4 ∧ σ.1 8 t = nI p) : zg_Met l zm_M_sold zc_M_sold 5 (some .int) 1 0 0 D A base [.ref mo, .int (nI s), .int (nI leg)] (zm_P A mo w0 sz σ) (some (.int (zm_sold σ (4 * s + leg) T))) (zm_P A mo w0 sz (zm_f σ 0)) := by
  refine zg_met (by decide) (Nat.le_of_ble_eq_true rfl) ?_
  intro K hl hD hA hz hn hnm F E
  subst hl hD hA hz
  show zg_G K (zm_P (zk_A K) mo w0 sz σ) 0 0 0 [(0, .ref mo), (1, .int (nI s)), (2, .int (nI leg))] []
  refine zg_aload_n F 0 rfl rfl dM_sold_0 ?_
  refine zg_iload_n F 1 rfl rfl dM_sold_1 ?_
  refine zg_callS F (zM_isFour _ _ _ _ _ _) zv_M_isFour zu_M_isFour zk_632 rfl ⟨by decide, by decide⟩ ⟨by decide, by decide⟩ rfl (Nat.le_of_ble_eq_true rfl) dM_sold_2 ?_
  refine zg_eqi (y := nI 1) (zb_t (zz4_of hs)) ?_
  refine zg_if_eqF F dM_sold_5 (tgt := 19) (by decide) (by decide) ?_
  refine zg_iload_n F 2 rfl rfl dM_sold_8 ?_
  refine zg_callS F (zM_isFour _ _ _ _ _ _) zv_M_isFour zu_M_isFour zk_632 rfl ⟨by decide, by decide⟩ ⟨by decide, by decide⟩ rfl (Nat.le_of_ble_eq_true rfl) dM_sold_9 ?_
  refine zg_eqi (y := nI 1) (zb_t (zz4_of hg)) ?_
  refine zg_if_eqF F dM_sold_12 (tgt := 19) (by decide) (by decide) ?_
  refine zg_iconst F (v := nI 0) (by decide) dM_sold_15 ?_
  refine zg_goto F (tgt := 20) dM_sold_16 (by decide) ?_
  refine zg_callV F (zM_refused _ _ _ _ _ _ _ _ _) zv_M_refused zu_M_refused zk_635 (fun _ _ h => h.2.1.1) rfl rfl ⟨by decide, by decide⟩ ⟨by decide, by decide⟩ rfl (Nat.le_of_ble_eq_true rfl) dM_sold_20 ?_
  refine zg_eqi zb_0 ?_
  refine zg_if_eqT F (tgt := 28) dM_sold_23 (by decide) (rfl) ?_
  refine zg_iconst F (v := nI 0) (by decide) dM_sold_28 ?_
  refine zg_istore_n F rfl (by rw [hn]; decide) (L' := [(3, _), (0, _), (1, _), (2, _)]) rfl dM_sold_29 ?_
  refine zg_iconst F (v := nI 0) (by decide) dM_sold_30 ?_
  refine zg_istore F (by rw [hn]; decide) (L' := [(4, _), (3, _), (0, _), (1, _), (2, _)]) rfl dM_sold_31 ?_
  have loop : ∀ r i, i + r = T → zg_G K (zm_P (zk_A K) mo w0 sz (zm_f σ 0)) 0 0 33 [(4, .int (nI i)), (3, .int (zm_sold σ (4 * s + leg) i)), (0, .ref mo), (1, .int (nI s)), (2, .int (nI leg))] [] := by
    intro r
    induction r with
    | zero =>
      intro i hi
      obtain rfl : i = T := by omega
      refine zg_iload F 0 rfl dM_sold_33 ?_
      refine zg_aload_n F 2 rfl rfl dM_sold_35 ?_
      refine zg_get F (fun _ _ h => h.2.1.1) rfl zi_M 8 (by decide) rfl zk_546 rfl dM_sold_36 ?_
      refine zg_eqi (hT) ?_
      refine zg_icmp_geT F (tgt := 95) dM_sold_39 (by decide) (nI_le (by omega) (by omega)) ?_
      refine zg_iload_n F 1 rfl rfl dM_sold_95 ?_
      exact zg_iret F E (Nat.zero_le _) (Nat.zero_le _) (fun _ _ h => h) dM_sold_96
    | succ r ih =>
      intro i hi
      obtain ⟨p, hp4, hpe⟩ := hq i (by omega)
      have hz : zn (σ.1 8 i) = p := by rw [hpe]; exact zn_nI (by omega)
      have hgo := ih (i + 1) (by omega)
      rw [zm_sold, hz] at hgo
      refine zg_iload F 0 rfl dM_sold_33 ?_
      refine zg_aload_n F 2 rfl rfl dM_sold_35 ?_
      refine zg_get F (fun _ _ h => h.2.1.1) rfl zi_M 8 (by decide) rfl zk_546 rfl dM_sold_36 ?_
      refine zg_eqi (hT) ?_
      refine zg_icmp_geF F dM_sold_39 (tgt := 95) (by decide) (nI_ge (by omega) (by omega)) ?_
      refine zg_aload_n F 2 rfl rfl dM_sold_42 ?_
      refine zg_get F (fun _ _ h => h.2.1.1) rfl zi_M 13 (by decide) rfl zk_551 rfl dM_sold_43 ?_
      refine zg_iload F 0 rfl dM_sold_46 ?_
      refine zm_zald F 10 (by decide) rfl (by show _ < 80; omega) rfl dM_sold_48 ?_
      by_cases h1 : σ.1 10 i = 0
      · rw [if_pos h1] at hgo
        refine zg_if_eqT F (tgt := 87) dM_sold_49 (by decide) (h1) ?_
        refine zg_iload_n F 1 rfl rfl dM_sold_87 ?_
        refine zg_istore_n F rfl (by rw [hn]; decide) (L' := [(3, _), (4, _), (0, _), (1, _), (2, _)]) rfl dM_sold_88 ?_
        refine zg_iinc F 1 rfl (by first | exact zc_inc _ | rfl) (by rw [hn]; decide) (L' := [(4, _), (3, _), (0, _), (1, _), (2, _)]) rfl dM_sold_89 ?_
        refine zg_goto F (tgt := 33) dM_sold_92 (by decide) ?_
        exact hgo
      · rw [if_neg h1] at hgo
        refine zg_if_eqF F dM_sold_49 (tgt := 87) (by decide) (h1) ?_
        refine zg_iload_n F 1 rfl rfl dM_sold_52 ?_
        refine zg_aload_n F 2 rfl rfl dM_sold_53 ?_
        refine zg_get F (fun _ _ h => h.2.1.1) rfl zi_M 10 (by decide) rfl zk_548 rfl dM_sold_54 ?_
        refine zg_iload F 0 rfl dM_sold_57 ?_
        refine zm_iald F 7 (by decide) rfl (by show _ < 80; omega) rfl dM_sold_59 ?_
        refine zg_aload_n F 2 rfl rfl dM_sold_60 ?_
        refine zg_iconst F (v := nI 4) (by decide) dM_sold_61 ?_
        refine zg_iconst F (v := nI 4) (by decide) dM_sold_62 ?_
        refine zg_iload F 0 rfl dM_sold_63 ?_
        refine zg_imul F (by first | exact pk_mul _ _ | rfl) dM_sold_65 ?_
        refine zg_iadd F (by first | exact nI_add _ _ | rfl) dM_sold_66 ?_
        refine zg_aload_n F 2 rfl rfl dM_sold_67 ?_
        refine zg_get F (fun _ _ h => h.2.1.1) rfl zi_M 11 (by decide) rfl zk_549 rfl dM_sold_68 ?_
        refine zg_iload F 0 rfl dM_sold_71 ?_
        refine zm_iald F 8 (by decide) rfl (by show _ < 80; omega) rfl dM_sold_73 ?_
        refine zg_eqi (hpe) ?_
        refine zg_iconst F (v := nI 4) (by decide) dM_sold_74 ?_
        refine zg_iload_n F 3 rfl rfl dM_sold_75 ?_
        refine zg_imul F (by first | exact pk_mul _ _ | rfl) dM_sold_76 ?_
        refine zg_iload_n F 4 rfl rfl dM_sold_77 ?_
        refine zg_iadd F (by first | exact nI_add _ _ | rfl) dM_sold_78 ?_
        refine zg_callV F (zM_lies _ _ _ _ _ _ _ _ (4 + 4 * i) p (4 * s + leg) (by omega) (by omega)) zv_M_lies zu_M_lies zk_656 (fun _ _ h => h.2.1.1) rfl rfl ⟨by decide, by decide⟩ ⟨by decide, by decide⟩ rfl (Nat.le_of_ble_eq_true rfl) dM_sold_79 ?_
        refine zg_eqi (y := zm_lies σ (4 + 4 * i) (4 * s + leg) p) (zm_lies_eq (σ := zm_f σ 0) (τ := σ) (fun _ => rfl) (fun _ => rfl) (fun _ => rfl) _) ?_
        refine zg_imul F (by first | exact pk_mul _ _ | rfl) dM_sold_82 ?_
        refine zg_iadd F (by first | exact nI_add _ _ | rfl) dM_sold_83 ?_
        refine zg_goto F (tgt := 88) dM_sold_84 (by decide) ?_
        refine zg_istore_n F rfl (by rw [hn]; decide) (L' := [(3, _), (4, _), (0, _), (1, _), (2, _)]) rfl dM_sold_88 ?_
        refine zg_iinc F 1 rfl (by first | exact zc_inc _ | rfl) (by rw [hn]; decide) (L' := [(4, _), (3, _), (0, _), (1, _), (2, _)]) rfl dM_sold_89 ?_
        refine zg_goto F (tgt := 33) dM_sold_92 (by decide) ?_
        exact hgo
  exact loop T 0 (by omega)
set_option maxRecDepth 100000 in
set_option maxHeartbeats 4000000 in
theorem zM_air (l : Launch) (D : va_G) (A : Nat → ClassId) (base : Nat) (mo sz : Nat) (w0 : zg_w) (σ : zm_S) (s leg : Nat) (hs : s < 4) (hg : leg < 4) (hb : ∀ p, p < 16 → ∃ b, b ≤ 8 ∧ σ.1 16 p = nI b) : zg_Met l zm_M_air zc_M_air 6 (some .int) 1 0 0 D A base [.ref mo, .int (nI s), .int (nI leg)] (zm_P A mo w0 sz σ) (some (.int (zm_air σ (4 * s + leg) 16))) (zm_P A mo w0 sz (zm_f σ 0)) := by
  refine zg_met (by decide) (Nat.le_of_ble_eq_true rfl) ?_
  intro K hl hD hA hz hn hnm F E
  subst hl hD hA hz
  show zg_G K (zm_P (zk_A K) mo w0 sz σ) 0 0 0 [(0, .ref mo), (1, .int (nI s)), (2, .int (nI leg))] []
  refine zg_aload_n F 0 rfl rfl dM_air_0 ?_
  refine zg_iload_n F 1 rfl rfl dM_air_1 ?_
  refine zg_callS F (zM_isFour _ _ _ _ _ _) zv_M_isFour zu_M_isFour zk_632 rfl ⟨by decide, by decide⟩ ⟨by decide, by decide⟩ rfl (Nat.le_of_ble_eq_true rfl) dM_air_2 ?_
  refine zg_eqi (y := nI 1) (zb_t (zz4_of hs)) ?_
  refine zg_if_eqF F dM_air_5 (tgt := 19) (by decide) (by decide) ?_
  refine zg_iload_n F 2 rfl rfl dM_air_8 ?_
  refine zg_callS F (zM_isFour _ _ _ _ _ _) zv_M_isFour zu_M_isFour zk_632 rfl ⟨by decide, by decide⟩ ⟨by decide, by decide⟩ rfl (Nat.le_of_ble_eq_true rfl) dM_air_9 ?_
  refine zg_eqi (y := nI 1) (zb_t (zz4_of hg)) ?_
  refine zg_if_eqF F dM_air_12 (tgt := 19) (by decide) (by decide) ?_
  refine zg_iconst F (v := nI 0) (by decide) dM_air_15 ?_
  refine zg_goto F (tgt := 20) dM_air_16 (by decide) ?_
  refine zg_callV F (zM_refused _ _ _ _ _ _ _ _ _) zv_M_refused zu_M_refused zk_635 (fun _ _ h => h.2.1.1) rfl rfl ⟨by decide, by decide⟩ ⟨by decide, by decide⟩ rfl (Nat.le_of_ble_eq_true rfl) dM_air_20 ?_
  refine zg_eqi zb_0 ?_
  refine zg_if_eqT F (tgt := 28) dM_air_23 (by decide) (rfl) ?_
  refine zg_iconst F (v := nI 0) (by decide) dM_air_28 ?_
  refine zg_istore_n F rfl (by rw [hn]; decide) (L' := [(3, _), (0, _), (1, _), (2, _)]) rfl dM_air_29 ?_
  refine zg_iconst F (v := nI 0) (by decide) dM_air_30 ?_
  refine zg_istore F (by rw [hn]; decide) (L' := [(4, _), (3, _), (0, _), (1, _), (2, _)]) rfl dM_air_31 ?_
  have loop : ∀ r i, i + r = 16 → zg_G K (zm_P (zk_A K) mo w0 sz (zm_f σ 0)) 0 0 33 [(4, .int (nI i)), (3, .int (zm_air σ (4 * s + leg) i)), (0, .ref mo), (1, .int (nI s)), (2, .int (nI leg))] [] := by
    intro r
    induction r with
    | zero =>
      intro i hi
      obtain rfl : i = 16 := by omega
      refine zg_iload F 0 rfl dM_air_33 ?_
      refine zg_bipush F (v := nI 16) (by decide) dM_air_35 ?_
      refine zg_icmp_geT F (tgt := 123) dM_air_37 (by decide) (nI_le (by omega) (by omega)) ?_
      refine zg_iload_n F 1 rfl rfl dM_air_123 ?_
      exact zg_iret F E (Nat.zero_le _) (Nat.zero_le _) (fun _ _ h => h) dM_air_124
    | succ r ih =>
      intro i hi
      obtain ⟨b, hb8, hbe⟩ := hb i (by omega)
      have hz : zn (σ.1 16 i) = b := by rw [hbe]; exact zn_nI (by omega)
      have hgo := ih (i + 1) (by omega)
      rw [zm_air, hz] at hgo
      refine zg_iload F 0 rfl dM_air_33 ?_
      refine zg_bipush F (v := nI 16) (by decide) dM_air_35 ?_
      refine zg_icmp_geF F dM_air_37 (tgt := 123) (by decide) (nI_ge (by omega) (by omega)) ?_
      refine zg_bipush F (v := nI 8) (by decide) dM_air_40 ?_
      refine zg_iload F 0 rfl dM_air_42 ?_
      refine zg_imul F (by first | exact pk_mul _ _ | rfl) dM_air_44 ?_
      refine zg_istore F (by rw [hn]; decide) (L' := [(5, _), (4, _), (3, _), (0, _), (1, _), (2, _)]) rfl dM_air_45 ?_
      have loop2 : ∀ r k, k + r = b → zg_G K (zm_P (zk_A K) mo w0 sz (zm_f σ 0)) 0 0 47 [(5, .int (nI (8 * i + k))), (4, .int (nI i)), (3, .int (zm_air1 σ (4 * s + leg) i (zm_air σ (4 * s + leg) i) k)), (0, .ref mo), (1, .int (nI s)), (2, .int (nI leg))] [] := by
        intro r
        induction r with
        | zero =>
          intro k hi
          obtain rfl : k = b := by omega
          refine zg_iload F 0 rfl dM_air_47 ?_
          refine zg_bipush F (v := nI 8) (by decide) dM_air_49 ?_
          refine zg_iload F 1 rfl dM_air_51 ?_
          refine zg_imul F (by first | exact pk_mul _ _ | rfl) dM_air_53 ?_
          refine zg_aload_n F 3 rfl rfl dM_air_54 ?_
          refine zg_get F (fun _ _ h => h.2.1.1) rfl zi_M 19 (by decide) rfl zk_557 rfl dM_air_55 ?_
          refine zg_iload F 1 rfl dM_air_58 ?_
          refine zm_iald F 16 (by decide) rfl (by show _ < 16; omega) rfl dM_air_60 ?_
          refine zg_eqi (hbe) ?_
          refine zg_iadd F (by first | exact nI_add _ _ | rfl) dM_air_61 ?_
          refine zg_icmp_geT F (tgt := 117) dM_air_62 (by decide) (nI_le (by omega) (by omega)) ?_
          refine zg_iinc F 1 rfl (by first | exact zc_inc _ | rfl) (by rw [hn]; decide) (L' := [(4, _), (5, _), (3, _), (0, _), (1, _), (2, _)]) rfl dM_air_117 ?_
          refine zg_goto F (tgt := 33) dM_air_120 (by decide) ?_
          refine zg_sub [0, 2, 3, 4, 5] (L' := [(4, _), (3, _), (0, _), (1, _), (2, _)]) rfl ?_
          exact hgo
        | succ r ih =>
          intro k hi
          have hgo2 := ih (k + 1) (by omega)
          rw [zm_air1] at hgo2
          refine zg_iload F 0 rfl dM_air_47 ?_
          refine zg_bipush F (v := nI 8) (by decide) dM_air_49 ?_
          refine zg_iload F 1 rfl dM_air_51 ?_
          refine zg_imul F (by first | exact pk_mul _ _ | rfl) dM_air_53 ?_
          refine zg_aload_n F 3 rfl rfl dM_air_54 ?_
          refine zg_get F (fun _ _ h => h.2.1.1) rfl zi_M 19 (by decide) rfl zk_557 rfl dM_air_55 ?_
          refine zg_iload F 1 rfl dM_air_58 ?_
          refine zm_iald F 16 (by decide) rfl (by show _ < 16; omega) rfl dM_air_60 ?_
          refine zg_eqi (hbe) ?_
          refine zg_iadd F (by first | exact nI_add _ _ | rfl) dM_air_61 ?_
          refine zg_icmp_geF F dM_air_62 (tgt := 117) (by decide) (nI_ge (by omega) (by omega)) ?_
          refine zg_aload_n F 3 rfl rfl dM_air_65 ?_
          refine zg_get F (fun _ _ h => h.2.1.1) rfl zi_M 24 (by decide) rfl zk_562 rfl dM_air_66 ?_
          refine zg_iload F 0 rfl dM_air_69 ?_
          refine zm_iald F 21 (by decide) rfl (by show _ < 128; omega) rfl dM_air_71 ?_
          refine zg_iconst F (v := nI 4) (by decide) dM_air_72 ?_
          refine zg_iload_n F 4 rfl rfl dM_air_73 ?_
          refine zg_imul F (by first | exact pk_mul _ _ | rfl) dM_air_74 ?_
          refine zg_iload_n F 5 rfl rfl dM_air_75 ?_
          refine zg_iadd F (by first | exact nI_add _ _ | rfl) dM_air_76 ?_
          by_cases h1 : σ.1 21 (8 * i + k) = nI (4 * s + leg)
          · refine zg_icmp_neF F dM_air_77 (tgt := 109) (by decide) (h1) ?_
            refine zg_aload_n F 3 rfl rfl dM_air_80 ?_
            refine zg_get F (fun _ _ h => h.2.1.1) rfl zi_M 23 (by decide) rfl zk_561 rfl dM_air_81 ?_
            refine zg_iload F 0 rfl dM_air_84 ?_
            refine zm_iald F 20 (by decide) rfl (by show _ < 128; omega) rfl dM_air_86 ?_
            refine zg_aload_n F 3 rfl rfl dM_air_87 ?_
            refine zg_get F (fun _ _ h => h.2.1.1) rfl zi_M 21 (by decide) rfl zk_559 rfl dM_air_88 ?_
            refine zg_iload F 1 rfl dM_air_91 ?_
            refine zm_iald F 18 (by decide) rfl (by show _ < 16; omega) rfl dM_air_93 ?_
            by_cases h2 : σ.1 18 i < σ.1 20 (8 * i + k)
            · rw [if_pos ⟨h1, h2⟩] at hgo2
              refine zg_icmp_leF F dM_air_94 (tgt := 109) (by decide) (Int32.not_le.mpr h2) ?_
              refine zg_iload_n F 2 rfl rfl dM_air_97 ?_
              refine zg_aload_n F 3 rfl rfl dM_air_98 ?_
              refine zg_get F (fun _ _ h => h.2.1.1) rfl zi_M 25 (by decide) rfl zk_563 rfl dM_air_99 ?_
              refine zg_iload F 0 rfl dM_air_102 ?_
              refine zm_iald F 22 (by decide) rfl (by show _ < 128; omega) rfl dM_air_104 ?_
              refine zg_iadd F (by first | exact nI_add _ _ | rfl) dM_air_105 ?_
              refine zg_goto F (tgt := 110) dM_air_106 (by decide) ?_
              refine zg_istore_n F rfl (by rw [hn]; decide) (L' := [(3, _), (5, _), (4, _), (0, _), (1, _), (2, _)]) rfl dM_air_110 ?_
              refine zg_iinc F 1 rfl (by first | exact zc_inc _ | rfl) (by rw [hn]; decide) (L' := [(5, _), (3, _), (4, _), (0, _), (1, _), (2, _)]) rfl dM_air_111 ?_
              refine zg_goto F (tgt := 47) dM_air_114 (by decide) ?_
              refine zg_sub [0, 2, 1, 3, 4, 5] (L' := [(5, _), (4, _), (3, _), (0, _), (1, _), (2, _)]) rfl ?_
              exact hgo2
            · rw [if_neg (fun q => h2 q.2)] at hgo2
              refine zg_icmp_leT F (tgt := 109) dM_air_94 (by decide) (Int32.not_lt.mp h2) ?_
              refine zg_iload_n F 2 rfl rfl dM_air_109 ?_
              refine zg_istore_n F rfl (by rw [hn]; decide) (L' := [(3, _), (5, _), (4, _), (0, _), (1, _), (2, _)]) rfl dM_air_110 ?_
              refine zg_iinc F 1 rfl (by first | exact zc_inc _ | rfl) (by rw [hn]; decide) (L' := [(5, _), (3, _), (4, _), (0, _), (1, _), (2, _)]) rfl dM_air_111 ?_
              refine zg_goto F (tgt := 47) dM_air_114 (by decide) ?_
              refine zg_sub [0, 2, 1, 3, 4, 5] (L' := [(5, _), (4, _), (3, _), (0, _), (1, _), (2, _)]) rfl ?_
              exact hgo2
          · rw [if_neg (fun q => h1 q.1)] at hgo2
            refine zg_icmp_neT F (tgt := 109) dM_air_77 (by decide) (h1) ?_
            refine zg_iload_n F 2 rfl rfl dM_air_109 ?_
            refine zg_istore_n F rfl (by rw [hn]; decide) (L' := [(3, _), (5, _), (4, _), (0, _), (1, _), (2, _)]) rfl dM_air_110 ?_
            refine zg_iinc F 1 rfl (by first | exact zc_inc _ | rfl) (by rw [hn]; decide) (L' := [(5, _), (3, _), (4, _), (0, _), (1, _), (2, _)]) rfl dM_air_111 ?_
            refine zg_goto F (tgt := 47) dM_air_114 (by decide) ?_
            refine zg_sub [0, 2, 1, 3, 4, 5] (L' := [(5, _), (4, _), (3, _), (0, _), (1, _), (2, _)]) rfl ?_
            exact hgo2
      exact loop2 b 0 (by omega)
  exact loop 16 0 (by omega)
set_option maxRecDepth 100000 in
set_option maxHeartbeats 4000000 in
theorem zM_crash (l : Launch) (D : va_G) (A : Nat → ClassId) (base : Nat) (mo sz : Nat) (w0 : zg_w) (σ : zm_S) (port : Nat) (hp : port < 4) : zg_Met l zm_M_crash zc_M_crash 4 (some .int) 1 0 0 D A base [.ref mo, .int (nI port)] (zm_P A mo w0 sz σ) (some (.int (zm_cra (zm_f σ 0) port 4).2)) (zm_P A mo w0 sz (zm_cra (zm_f σ 0) port 4).1) := by
  refine zg_met (by decide) (Nat.le_of_ble_eq_true rfl) ?_
  intro K hl hD hA hz hn hnm F E
  subst hl hD hA hz
  show zg_G K (zm_P (zk_A K) mo w0 sz σ) 0 0 0 [(0, .ref mo), (1, .int (nI port))] []
  refine zg_aload_n F 0 rfl rfl dM_crash_0 ?_
  refine zg_iload_n F 1 rfl rfl dM_crash_1 ?_
  refine zg_callS F (zM_isFour _ _ _ _ _ _) zv_M_isFour zu_M_isFour zk_632 rfl ⟨by decide, by decide⟩ ⟨by decide, by decide⟩ rfl (Nat.le_of_ble_eq_true rfl) dM_crash_2 ?_
  refine zg_eqi (y := nI 1) (zb_t (zz4_of hp)) ?_
  refine zg_if_eqF F dM_crash_5 (tgt := 12) (by decide) (by decide) ?_
  refine zg_iconst F (v := nI 0) (by decide) dM_crash_8 ?_
  refine zg_goto F (tgt := 13) dM_crash_9 (by decide) ?_
  refine zg_callV F (zM_refused _ _ _ _ _ _ _ _ _) zv_M_refused zu_M_refused zk_635 (fun _ _ h => h.2.1.1) rfl rfl ⟨by decide, by decide⟩ ⟨by decide, by decide⟩ rfl (Nat.le_of_ble_eq_true rfl) dM_crash_13 ?_
  refine zg_eqi zb_0 ?_
  refine zg_if_eqT F (tgt := 21) dM_crash_16 (by decide) (rfl) ?_
  refine zg_iconst F (v := nI 0) (by decide) dM_crash_21 ?_
  refine zg_istore_n F rfl (by rw [hn]; decide) (L' := [(2, _), (0, _), (1, _)]) rfl dM_crash_22 ?_
  refine zg_iconst F (v := nI 0) (by decide) dM_crash_23 ?_
  refine zg_istore_n F rfl (by rw [hn]; decide) (L' := [(3, _), (2, _), (0, _), (1, _)]) rfl dM_crash_24 ?_
  have loop : ∀ r i, i + r = 4 → zg_G K (zm_P (zk_A K) mo w0 sz (zm_cra (zm_f σ 0) port i).1) 0 0 25 [(3, .int (nI i)), (2, .int (zm_cra (zm_f σ 0) port i).2), (0, .ref mo), (1, .int (nI port))] [] := by
    intro r
    induction r with
    | zero =>
      intro i hi
      obtain rfl : i = 4 := by omega
      refine zg_iload_n F 0 rfl rfl dM_crash_25 ?_
      refine zg_iconst F (v := nI 4) (by decide) dM_crash_26 ?_
      refine zg_icmp_geT F (tgt := 63) dM_crash_27 (by decide) (nI_le (by omega) (by omega)) ?_
      refine zg_iload_n F 1 rfl rfl dM_crash_63 ?_
      exact zg_iret F E (Nat.zero_le _) (Nat.zero_le _) (fun _ _ h => h) dM_crash_64
    | succ r ih =>
      intro i hi
      have hgo := ih (i + 1) (by omega)
      rw [zm_cra] at hgo
      generalize zm_cra (zm_f σ 0) port i = q at hgo ⊢
      obtain ⟨S, m⟩ := q
      dsimp only at hgo ⊢
      refine zg_iload_n F 0 rfl rfl dM_crash_25 ?_
      refine zg_iconst F (v := nI 4) (by decide) dM_crash_26 ?_
      refine zg_icmp_geF F dM_crash_27 (tgt := 63) (by decide) (nI_ge (by omega) (by omega)) ?_
      refine zg_iload_n F 0 rfl rfl dM_crash_30 ?_
      refine zg_iload_n F 3 rfl rfl dM_crash_31 ?_
      by_cases h1 : i = port
      · rw [if_pos h1] at hgo
        refine zg_icmp_eqT F (tgt := 57) dM_crash_32 (by decide) (by rw [h1]) ?_
        refine zg_iinc F 0 rfl (by first | exact zc_inc _ | rfl) (by rw [hn]; decide) (L' := [(3, _), (2, _), (0, _), (1, _)]) rfl dM_crash_57 ?_
        refine zg_goto F (tgt := 25) dM_crash_60 (by decide) ?_
        exact hgo
      · rw [if_neg h1] at hgo
        refine zg_icmp_eqF F dM_crash_32 (tgt := 57) (by decide) (fun q => h1 ((nI_eq (by omega) (by omega)).mp q)) ?_
        refine zg_iload_n F 1 rfl rfl dM_crash_35 ?_
        refine zg_aload_n F 2 rfl rfl dM_crash_36 ?_
        refine zg_iconst F (v := nI 4) (by decide) dM_crash_37 ?_
        refine zg_iload_n F 3 rfl rfl dM_crash_38 ?_
        refine zg_imul F (by first | exact pk_mul _ _ | rfl) dM_crash_39 ?_
        refine zg_iload_n F 0 rfl rfl dM_crash_40 ?_
        refine zg_iadd F (by first | exact nI_add _ _ | rfl) dM_crash_41 ?_
        refine zg_callV F (zM_loseOne _ _ _ _ _ _ _ S (4 * port + i) (by omega)) zv_M_loseOne zu_M_loseOne zk_727 (fun _ _ h => h.2.1.1) rfl rfl ⟨by decide, by decide⟩ ⟨by decide, by decide⟩ rfl (Nat.le_of_ble_eq_true rfl) dM_crash_42 ?_
        refine zg_iadd F rfl dM_crash_45 ?_
        refine zg_aload_n F 2 rfl rfl dM_crash_46 ?_
        refine zg_iconst F (v := nI 4) (by decide) dM_crash_47 ?_
        refine zg_iload_n F 0 rfl rfl dM_crash_48 ?_
        refine zg_imul F (by first | exact pk_mul _ _ | rfl) dM_crash_49 ?_
        refine zg_iload_n F 3 rfl rfl dM_crash_50 ?_
        refine zg_iadd F (by first | exact nI_add _ _ | rfl) dM_crash_51 ?_
        refine zg_callV F (zM_loseOne _ _ _ _ _ _ _ (zm_lose1 S (4 * port + i)) (4 * i + port) (by omega)) zv_M_loseOne zu_M_loseOne zk_727 (fun _ _ h => h.2.1.1) rfl rfl ⟨by decide, by decide⟩ ⟨by decide, by decide⟩ rfl (Nat.le_of_ble_eq_true rfl) dM_crash_52 ?_
        refine zg_iadd F rfl dM_crash_55 ?_
        refine zg_istore_n F rfl (by rw [hn]; decide) (L' := [(2, _), (3, _), (0, _), (1, _)]) rfl dM_crash_56 ?_
        refine zg_iinc F 1 rfl (by first | exact zc_inc _ | rfl) (by rw [hn]; decide) (L' := [(3, _), (2, _), (0, _), (1, _)]) rfl dM_crash_57 ?_
        refine zg_goto F (tgt := 25) dM_crash_60 (by decide) ?_
        exact hgo
  exact loop 4 0 rfl
set_option maxRecDepth 100000 in
set_option maxHeartbeats 4000000 in
theorem zM_share_bad1 (l : Launch) (D : va_G) (A : Nat → ClassId) (base : Nat) (mo sz : Nat) (w0 : zg_w) (σ : zm_S) (a b s : Int32) (h : ¬ zz4 s) : zg_Met l zm_M_share zc_M_share 7 (some .int) 2 0 0 D A base [.ref mo, .int a, .int b, .int s] (zm_P A mo w0 sz σ) (some (.int (nI 0))) (zm_P A mo w0 sz (zm_f σ 1)) := by
  refine zg_met (by decide) (Nat.le_of_ble_eq_true rfl) ?_
  intro K hl hD hA hz hn hnm F E
  subst hl hD hA hz
  show zg_G K (zm_P (zk_A K) mo w0 sz σ) 0 0 0 [(0, .ref mo), (1, .int a), (2, .int b), (3, .int s)] []
  refine zg_aload_n F 0 rfl rfl dM_share_0 ?_
  refine zg_iload_n F 3 rfl rfl dM_share_1 ?_
  refine zg_callS F (zM_isFour _ _ _ _ _ _) zv_M_isFour zu_M_isFour zk_632 rfl ⟨by decide, by decide⟩ ⟨by decide, by decide⟩ rfl (Nat.le_of_ble_eq_true rfl) dM_share_2 ?_
  refine zg_eqi (y := nI 0) (zb_f (h)) ?_
  refine zg_if_neF F dM_share_5 (tgt := 12) (by decide) (rfl) ?_
  refine zg_iconst F (v := nI 1) (by decide) dM_share_8 ?_
  refine zg_goto F (tgt := 17) dM_share_9 (by decide) ?_
  refine zg_callV F (zM_refused _ _ _ _ _ _ _ _ _) zv_M_refused zu_M_refused zk_635 (fun _ _ h => h.2.1.1) rfl rfl ⟨by decide, by decide⟩ ⟨by decide, by decide⟩ rfl (Nat.le_of_ble_eq_true rfl) dM_share_17 ?_
  refine zg_eqi (zb_1 (by omega) (by omega)) ?_
  refine zg_if_eqF F dM_share_20 (tgt := 25) (by decide) (by decide) ?_
  refine zg_iconst F (v := nI 0) (by decide) dM_share_23 ?_
  exact zg_iret F E (Nat.zero_le _) (Nat.zero_le _) (fun _ _ h => h) dM_share_24
set_option maxRecDepth 100000 in
set_option maxHeartbeats 4000000 in
theorem zM_share_bad2 (l : Launch) (D : va_G) (A : Nat → ClassId) (base : Nat) (mo sz : Nat) (w0 : zg_w) (σ : zm_S) (a b s : Int32) (c : Nat) (h : zz4 s) (hc : zc_wrong a b = c) (h0 : 0 < c) (h3 : c < 3) : zg_Met l zm_M_share zc_M_share 7 (some .int) 2 0 0 D A base [.ref mo, .int a, .int b, .int s] (zm_P A mo w0 sz σ) (some (.int (nI 0))) (zm_P A mo w0 sz (zm_f σ c)) := by
  refine zg_met (by decide) (Nat.le_of_ble_eq_true rfl) ?_
  intro K hl hD hA hz hn hnm F E
  subst hl hD hA hz
  show zg_G K (zm_P (zk_A K) mo w0 sz σ) 0 0 0 [(0, .ref mo), (1, .int a), (2, .int b), (3, .int s)] []
  subst hc
  refine zg_aload_n F 0 rfl rfl dM_share_0 ?_
  refine zg_iload_n F 3 rfl rfl dM_share_1 ?_
  refine zg_callS F (zM_isFour _ _ _ _ _ _) zv_M_isFour zu_M_isFour zk_632 rfl ⟨by decide, by decide⟩ ⟨by decide, by decide⟩ rfl (Nat.le_of_ble_eq_true rfl) dM_share_2 ?_
  refine zg_eqi (y := nI 1) (zb_t (h)) ?_
  refine zg_if_neT F (tgt := 12) dM_share_5 (by decide) (by decide) ?_
  refine zg_iload_n F 1 rfl rfl dM_share_12 ?_
  refine zg_iload_n F 2 rfl rfl dM_share_13 ?_
  refine zg_callS F (zM_wrong _ _ _ _ _ _ _) zv_M_wrong zu_M_wrong zk_708 rfl ⟨by decide, by decide⟩ ⟨by decide, by decide⟩ rfl (Nat.le_of_ble_eq_true rfl) dM_share_14 ?_
  refine zg_callV F (zM_refused _ _ _ _ _ _ _ _ _) zv_M_refused zu_M_refused zk_635 (fun _ _ h => h.2.1.1) rfl rfl ⟨by decide, by decide⟩ ⟨by decide, by decide⟩ rfl (Nat.le_of_ble_eq_true rfl) dM_share_17 ?_
  refine zg_eqi (zb_1 (by omega) (by omega)) ?_
  refine zg_if_eqF F dM_share_20 (tgt := 25) (by decide) (by decide) ?_
  refine zg_iconst F (v := nI 0) (by decide) dM_share_23 ?_
  exact zg_iret F E (Nat.zero_le _) (Nat.zero_le _) (fun _ _ h => h) dM_share_24
theorem zm_encl_16 {σ : zm_S} {a b leg bx : Nat} {n : Int32} : (zm_encl σ a b leg bx n).1 16 (4 * a + b) = nI (bx + 1) := by
  unfold zm_encl
  dsimp only
  rw [zm_set_o (by decide), zm_set_s]
theorem zm_shr_16 {σ : zm_S} {a b s bx : Nat} (he : σ.1 16 (4 * a + b) = nI bx) (hx : bx ≤ 8) : ∀ i, (zm_shr σ a b s bx i).1.1 16 (4 * a + b) = nI (bx + (zm_shr σ a b s bx i).2) ∧ bx + (zm_shr σ a b s bx i).2 ≤ 8 ∧ (zm_shr σ a b s bx i).2 ≤ i
  | 0 => ⟨he, hx, Nat.le_refl _⟩
  | i + 1 => by
    obtain ⟨h1, h2, h3⟩ := zm_shr_16 (s := s) he hx i
    rw [zm_shr]
    split
    · rename_i h
      exact ⟨zm_encl_16, h.2, Nat.succ_le_succ h3⟩
    · exact ⟨h1, h2, Nat.le_succ_of_le h3⟩
theorem zm_rcp_le {σ : zm_S} {p : Nat} {u : Int32} : ∀ i, (zm_rcp σ p u i).2 ≤ i
  | 0 => Nat.le_refl _
  | i + 1 => by
    have h := zm_rcp_le (σ := σ) (p := p) (u := u) i
    rw [zm_rcp]
    split
    · exact Nat.succ_le_succ h
    · exact Nat.le_succ_of_le h
set_option maxRecDepth 100000 in
set_option maxHeartbeats 4000000 in
theorem zM_share (l : Launch) (D : va_G) (A : Nat → ClassId) (base : Nat) (mo sz : Nat) (w0 : zg_w) (σ : zm_S) (a b : Nat) (ha : a < 4) (hb : b < 4) (hn0 : a ≠ b) (s bx : Nat) (hs : s < 4) (hx : bx ≤ 8) (he : σ.1 16 (4 * a + b) = nI bx) : zg_Met l zm_M_share zc_M_share 7 (some .int) 2 0 0 D A base [.ref mo, .int (nI a), .int (nI b), .int (nI s)] (zm_P A mo w0 sz σ) (some (.int (nI (zm_shr (zm_f σ 0) a b s bx 4).2))) (zm_P A mo w0 sz (zm_shr (zm_f σ 0) a b s bx 4).1) := by
  refine zg_met (by decide) (Nat.le_of_ble_eq_true rfl) ?_
  intro K hl hD hA hz hn hnm F E
  subst hl hD hA hz
  show zg_G K (zm_P (zk_A K) mo w0 sz σ) 0 0 0 [(0, .ref mo), (1, .int (nI a)), (2, .int (nI b)), (3, .int (nI s))] []
  refine zg_aload_n F 0 rfl rfl dM_share_0 ?_
  refine zg_iload_n F 3 rfl rfl dM_share_1 ?_
  refine zg_callS F (zM_isFour _ _ _ _ _ _) zv_M_isFour zu_M_isFour zk_632 rfl ⟨by decide, by decide⟩ ⟨by decide, by decide⟩ rfl (Nat.le_of_ble_eq_true rfl) dM_share_2 ?_
  refine zg_eqi (y := nI 1) (zb_t (zz4_of hs)) ?_
  refine zg_if_neT F (tgt := 12) dM_share_5 (by decide) (by decide) ?_
  refine zg_iload_n F 1 rfl rfl dM_share_12 ?_
  refine zg_iload_n F 2 rfl rfl dM_share_13 ?_
  refine zg_callS F (zM_wrong _ _ _ _ _ _ _) zv_M_wrong zu_M_wrong zk_708 rfl ⟨by decide, by decide⟩ ⟨by decide, by decide⟩ rfl (Nat.le_of_ble_eq_true rfl) dM_share_14 ?_
  refine zg_eqi (y := nI 0) (congrArg nI (zc_wrong0 ha hb hn0)) ?_
  refine zg_callV F (zM_refused _ _ _ _ _ _ _ _ _) zv_M_refused zu_M_refused zk_635 (fun _ _ h => h.2.1.1) rfl rfl ⟨by decide, by decide⟩ ⟨by decide, by decide⟩ rfl (Nat.le_of_ble_eq_true rfl) dM_share_17 ?_
  refine zg_eqi zb_0 ?_
  refine zg_if_eqT F (tgt := 25) dM_share_20 (by decide) (rfl) ?_
  refine zg_iconst F (v := nI 0) (by decide) dM_share_25 ?_
  refine zg_istore F (by rw [hn]; decide) (L' := [(4, _), (0, _), (1, _), (2, _), (3, _)]) rfl dM_share_26 ?_
  refine zg_iconst F (v := nI 4) (by decide) dM_share_28 ?_
  refine zg_iload_n F 4 rfl rfl dM_share_29 ?_
  refine zg_imul F (by first | exact pk_mul _ _ | rfl) dM_share_30 ?_
  refine zg_istore F (by rw [hn]; decide) (L' := [(5, _), (4, _), (0, _), (1, _), (2, _), (3, _)]) rfl dM_share_31 ?_
  have loop : ∀ r i, i + r = 4 → zg_G K (zm_P (zk_A K) mo w0 sz (zm_shr (zm_f σ 0) a b s bx i).1) 0 0 33 [(5, .int (nI (4 * s + i))), (4, .int (nI (zm_shr (zm_f σ 0) a b s bx i).2)), (0, .ref mo), (1, .int (nI a)), (2, .int (nI b)), (3, .int (nI s))] [] := by
    intro r
    induction r with
    | zero =>
      intro i hi
      obtain rfl : i = 4 := by omega
      refine zg_iload F 0 rfl dM_share_33 ?_
      refine zg_iconst F (v := nI 4) (by decide) dM_share_35 ?_
      refine zg_iload_n F 5 rfl rfl dM_share_36 ?_
      refine zg_imul F (by first | exact pk_mul _ _ | rfl) dM_share_37 ?_
      refine zg_iconst F (v := nI 4) (by decide) dM_share_38 ?_
      refine zg_iadd F (by first | exact nI_add _ _ | rfl) dM_share_39 ?_
      refine zg_icmp_geT F (tgt := 112) dM_share_40 (by decide) (nI_le (by omega) (by omega)) ?_
      refine zg_iload F 1 rfl dM_share_112 ?_
      exact zg_iret F E (Nat.zero_le _) (Nat.zero_le _) (fun _ _ h => h) dM_share_114
    | succ r ih =>
      intro i hi
      obtain ⟨g1, g2, g3⟩ := zm_shr_16 (σ := zm_f σ 0) (s := s) he hx i
      have hgo := ih (i + 1) (by omega)
      rw [zm_shr] at hgo
      generalize zm_shr (zm_f σ 0) a b s bx i = q at hgo g1 g2 g3 ⊢
      obtain ⟨S, m⟩ := q
      dsimp only at hgo g1 g2 g3 ⊢
      refine zg_iload F 0 rfl dM_share_33 ?_
      refine zg_iconst F (v := nI 4) (by decide) dM_share_35 ?_
      refine zg_iload_n F 5 rfl rfl dM_share_36 ?_
      refine zg_imul F (by first | exact pk_mul _ _ | rfl) dM_share_37 ?_
      refine zg_iconst F (v := nI 4) (by decide) dM_share_38 ?_
      refine zg_iadd F (by first | exact nI_add _ _ | rfl) dM_share_39 ?_
      refine zg_icmp_geF F dM_share_40 (tgt := 112) (by decide) (nI_ge (by omega) (by omega)) ?_
      refine zg_aload_n F 2 rfl rfl dM_share_43 ?_
      refine zg_get F (fun _ _ h => h.2.1.1) rfl zi_M 3 (by decide) rfl zk_541 rfl dM_share_44 ?_
      refine zg_bipush F (v := nI 16) (by decide) dM_share_47 ?_
      refine zg_iload_n F 3 rfl rfl dM_share_49 ?_
      refine zg_imul F (by first | exact pk_mul _ _ | rfl) dM_share_50 ?_
      refine zg_iload F 0 rfl dM_share_51 ?_
      refine zg_iadd F (by first | exact nI_add _ _ | rfl) dM_share_53 ?_
      refine zm_iald F 2 (by decide) rfl (by show _ < 64; omega) rfl dM_share_54 ?_
      refine zg_aload_n F 2 rfl rfl dM_share_55 ?_
      refine zg_get F (fun _ _ h => h.2.1.1) rfl zi_M 3 (by decide) rfl zk_541 rfl dM_share_56 ?_
      refine zg_bipush F (v := nI 16) (by decide) dM_share_59 ?_
      refine zg_iload_n F 4 rfl rfl dM_share_61 ?_
      refine zg_imul F (by first | exact pk_mul _ _ | rfl) dM_share_62 ?_
      refine zg_iload F 0 rfl dM_share_63 ?_
      refine zg_iadd F (by first | exact nI_add _ _ | rfl) dM_share_65 ?_
      refine zm_iald F 2 (by decide) rfl (by show _ < 64; omega) rfl dM_share_66 ?_
      refine zg_isub F rfl dM_share_67 ?_
      refine zg_iconst F (v := nI 2) (by decide) dM_share_68 ?_
      refine zg_idiv F (by decide) rfl dM_share_69 ?_
      refine zg_istore F (by rw [hn]; decide) (L' := [(6, _), (5, _), (4, _), (0, _), (1, _), (2, _), (3, _)]) rfl dM_share_70 ?_
      refine zg_iload F 0 rfl dM_share_72 ?_
      by_cases h1 : 0 < zm_half S a b (4 * s + i)
      · refine zg_if_leF F dM_share_74 (tgt := 106) (by decide) (Int32.not_le.mpr h1) ?_
        refine zg_aload_n F 3 rfl rfl dM_share_77 ?_
        refine zg_get F (fun _ _ h => h.2.1.1) rfl zi_M 19 (by decide) rfl zk_557 rfl dM_share_78 ?_
        refine zg_iconst F (v := nI 4) (by decide) dM_share_81 ?_
        refine zg_iload_n F 4 rfl rfl dM_share_82 ?_
        refine zg_imul F (by first | exact pk_mul _ _ | rfl) dM_share_83 ?_
        refine zg_iload_n F 5 rfl rfl dM_share_84 ?_
        refine zg_iadd F (by first | exact nI_add _ _ | rfl) dM_share_85 ?_
        refine zm_iald F 16 (by decide) rfl (by show _ < 16; omega) rfl dM_share_86 ?_
        refine zg_eqi (g1) ?_
        refine zg_bipush F (v := nI 8) (by decide) dM_share_87 ?_
        by_cases h2 : bx + m < 8
        · rw [if_pos ⟨h1, h2⟩] at hgo
          refine zg_icmp_geF F dM_share_89 (tgt := 106) (by decide) (nI_ge h2 (by decide)) ?_
          refine zg_aload_n F 3 rfl rfl dM_share_92 ?_
          refine zg_iload_n F 4 rfl rfl dM_share_93 ?_
          refine zg_iload_n F 5 rfl rfl dM_share_94 ?_
          refine zg_iload F 1 rfl dM_share_95 ?_
          refine zg_iload F 0 rfl dM_share_97 ?_
          refine zg_callV F (zM_enclose _ _ _ _ _ _ _ S a b (4 * s + i) (bx + m) (zm_half S a b (4 * s + i)) ha hb (by omega) h2 g1) zv_M_enclose zu_M_enclose zk_700 (fun _ _ h => h.2.1.1) rfl rfl ⟨by decide, by decide⟩ ⟨by decide, by decide⟩ rfl (Nat.le_of_ble_eq_true rfl) dM_share_99 ?_
          refine zg_pop F rfl dM_share_102 ?_
          refine zg_iinc F 2 rfl (by first | exact zc_inc _ | rfl) (by rw [hn]; decide) (L' := [(4, _), (6, _), (5, _), (0, _), (1, _), (2, _), (3, _)]) rfl dM_share_103 ?_
          refine zg_iinc F 2 rfl (by first | exact zc_inc _ | rfl) (by rw [hn]; decide) (L' := [(5, _), (4, _), (6, _), (0, _), (1, _), (2, _), (3, _)]) rfl dM_share_106 ?_
          refine zg_goto F (tgt := 33) dM_share_109 (by decide) ?_
          refine zg_sub [0, 1, 3, 4, 5, 6] (L' := [(5, _), (4, _), (0, _), (1, _), (2, _), (3, _)]) rfl ?_
          exact hgo
        · rw [if_neg (fun q => h2 q.2)] at hgo
          refine zg_icmp_geT F (tgt := 106) dM_share_89 (by decide) (nI_le (by omega) (by omega)) ?_
          refine zg_iinc F 1 rfl (by first | exact zc_inc _ | rfl) (by rw [hn]; decide) (L' := [(5, _), (6, _), (4, _), (0, _), (1, _), (2, _), (3, _)]) rfl dM_share_106 ?_
          refine zg_goto F (tgt := 33) dM_share_109 (by decide) ?_
          refine zg_sub [0, 2, 3, 4, 5, 6] (L' := [(5, _), (4, _), (0, _), (1, _), (2, _), (3, _)]) rfl ?_
          exact hgo
      · rw [if_neg (fun q => h1 q.1)] at hgo
        refine zg_if_leT F (tgt := 106) dM_share_74 (by decide) (Int32.not_lt.mp h1) ?_
        refine zg_iinc F 1 rfl (by first | exact zc_inc _ | rfl) (by rw [hn]; decide) (L' := [(5, _), (6, _), (4, _), (0, _), (1, _), (2, _), (3, _)]) rfl dM_share_106 ?_
        refine zg_goto F (tgt := 33) dM_share_109 (by decide) ?_
        refine zg_sub [0, 2, 3, 4, 5, 6] (L' := [(5, _), (4, _), (0, _), (1, _), (2, _), (3, _)]) rfl ?_
        exact hgo
  exact loop 4 0 rfl
set_option maxRecDepth 100000 in
set_option maxHeartbeats 4000000 in
theorem zM_receipt (l : Launch) (D : va_G) (A : Nat → ClassId) (base : Nat) (mo sz : Nat) (w0 : zg_w) (σ : zm_S) (a b : Nat) (ha : a < 4) (hb : b < 4) (hn0 : a ≠ b) (bx : Nat) (hx : bx ≤ 8) (he : σ.1 16 (4 * a + b) = nI bx) : zg_Met l zm_M_receipt zc_M_receipt 8 (some .int) 2 0 0 D A base [.ref mo, .int (nI a), .int (nI b)] (zm_P A mo w0 sz σ) (some (.int (zo_receipt σ (4 * a + b) bx).2)) (zm_P A mo w0 sz (zo_receipt σ (4 * a + b) bx).1) := by
  refine zg_met (by decide) (Nat.le_of_ble_eq_true rfl) ?_
  intro K hl hD hA hz hn hnm F E
  subst hl hD hA hz
  show zg_G K (zm_P (zk_A K) mo w0 sz σ) 0 0 0 [(0, .ref mo), (1, .int (nI a)), (2, .int (nI b))] []
  refine zg_aload_n F 0 rfl rfl dM_receipt_0 ?_
  refine zg_iload_n F 1 rfl rfl dM_receipt_1 ?_
  refine zg_iload_n F 2 rfl rfl dM_receipt_2 ?_
  refine zg_callS F (zM_wrong _ _ _ _ _ _ _) zv_M_wrong zu_M_wrong zk_708 rfl ⟨by decide, by decide⟩ ⟨by decide, by decide⟩ rfl (Nat.le_of_ble_eq_true rfl) dM_receipt_3 ?_
  refine zg_eqi (y := nI 0) (congrArg nI (zc_wrong0 ha hb hn0)) ?_
  refine zg_callV F (zM_refused _ _ _ _ _ _ _ _ _) zv_M_refused zu_M_refused zk_635 (fun _ _ h => h.2.1.1) rfl rfl ⟨by decide, by decide⟩ ⟨by decide, by decide⟩ rfl (Nat.le_of_ble_eq_true rfl) dM_receipt_6 ?_
  refine zg_eqi zb_0 ?_
  refine zg_if_eqT F (tgt := 14) dM_receipt_9 (by decide) (rfl) ?_
  refine zg_iconst F (v := nI 4) (by decide) dM_receipt_14 ?_
  refine zg_iload_n F 1 rfl rfl dM_receipt_15 ?_
  refine zg_imul F (by first | exact pk_mul _ _ | rfl) dM_receipt_16 ?_
  refine zg_iload_n F 2 rfl rfl dM_receipt_17 ?_
  refine zg_iadd F (by first | exact nI_add _ _ | rfl) dM_receipt_18 ?_
  refine zg_istore_n F rfl (by rw [hn]; decide) (L' := [(3, _), (0, _), (1, _), (2, _)]) rfl dM_receipt_19 ?_
  refine zg_aload_n F 1 rfl rfl dM_receipt_20 ?_
  refine zg_get F (fun _ _ h => h.2.1.1) rfl zi_M 22 (by decide) rfl zk_560 rfl dM_receipt_21 ?_
  refine zg_iload_n F 0 rfl rfl dM_receipt_24 ?_
  refine zm_iald F 19 (by decide) rfl (by show _ < 16; omega) rfl dM_receipt_25 ?_
  refine zg_istore F (by rw [hn]; decide) (L' := [(4, _), (3, _), (0, _), (1, _), (2, _)]) rfl dM_receipt_26 ?_
  refine zg_iload F 0 rfl dM_receipt_28 ?_
  by_cases h1 : σ.1 19 (4 * a + b) < 0
  · rw [zo_receipt, if_pos h1] at E
    refine zg_if_geF F dM_receipt_30 (tgt := 35) (by decide) (Int32.not_le.mpr h1) ?_
    refine zg_iconst F (v := -1) (by decide) dM_receipt_33 ?_
    exact zg_iret F E (Nat.zero_le _) (Nat.zero_le _) (fun _ _ h => h) dM_receipt_34
  · rw [zo_receipt, if_neg h1] at E
    refine zg_if_geT F (tgt := 35) dM_receipt_30 (by decide) (Int32.not_lt.mp h1) ?_
    refine zg_aload_n F 2 rfl rfl dM_receipt_35 ?_
    refine zg_get F (fun _ _ h => h.2.1.1) rfl zi_M 22 (by decide) rfl zk_560 rfl dM_receipt_36 ?_
    refine zg_iload_n F 1 rfl rfl dM_receipt_39 ?_
    refine zg_iconst F (v := -1) (by decide) dM_receipt_40 ?_
    refine zm_iast F 19 (by decide) rfl (by show _ < 16; omega) dM_receipt_41 ?_
    refine zg_iconst F (v := nI 0) (by decide) dM_receipt_42 ?_
    refine zg_istore F (by rw [hn]; decide) (L' := [(5, _), (4, _), (3, _), (0, _), (1, _), (2, _)]) rfl dM_receipt_43 ?_
    refine zg_aload_n F 3 rfl rfl dM_receipt_45 ?_
    refine zg_get F (fun _ _ h => h.2.1.1) rfl zi_M 19 (by decide) rfl zk_557 rfl dM_receipt_46 ?_
    refine zg_iload_n F 2 rfl rfl dM_receipt_49 ?_
    refine zm_iald F 16 (by decide) rfl (by show _ < 16; omega) rfl dM_receipt_50 ?_
    refine zg_eqi (he) ?_
    refine zg_istore F (by rw [hn]; decide) (L' := [(6, _), (5, _), (4, _), (3, _), (0, _), (1, _), (2, _)]) rfl dM_receipt_51 ?_
    refine zg_bipush F (v := nI 8) (by decide) dM_receipt_53 ?_
    refine zg_iload_n F 3 rfl rfl dM_receipt_55 ?_
    refine zg_imul F (by first | exact pk_mul _ _ | rfl) dM_receipt_56 ?_
    refine zg_istore F (by rw [hn]; decide) (L' := [(7, _), (6, _), (5, _), (4, _), (3, _), (0, _), (1, _), (2, _)]) rfl dM_receipt_57 ?_
    have loop : ∀ r i, i + r = bx → zg_G K (zm_P (zk_A K) mo w0 sz (zm_rcp (zm_set (zm_f σ 0) 19 (4 * a + b) (-1)) (4 * a + b) (σ.1 19 (4 * a + b)) i).1) 0 0 59 [(7, .int (nI (8 * (4 * a + b) + i))), (6, .int (nI bx)), (5, .int (nI (zm_rcp (zm_set (zm_f σ 0) 19 (4 * a + b) (-1)) (4 * a + b) (σ.1 19 (4 * a + b)) i).2)), (4, .int (σ.1 19 (4 * a + b))), (3, .int (nI (4 * a + b))), (0, .ref mo), (1, .int (nI a)), (2, .int (nI b))] [] := by
      intro r
      induction r with
      | zero =>
        intro i hi
        obtain rfl : i = bx := by omega
        refine zg_iload F 0 rfl dM_receipt_59 ?_
        refine zg_bipush F (v := nI 8) (by decide) dM_receipt_61 ?_
        refine zg_iload_n F 4 rfl rfl dM_receipt_63 ?_
        refine zg_imul F (by first | exact pk_mul _ _ | rfl) dM_receipt_64 ?_
        refine zg_iload F 1 rfl dM_receipt_65 ?_
        refine zg_iadd F (by first | exact nI_add _ _ | rfl) dM_receipt_67 ?_
        refine zg_icmp_geT F (tgt := 149) dM_receipt_68 (by decide) (nI_le (by omega) (by omega)) ?_
        refine zg_aload_n F 5 rfl rfl dM_receipt_149 ?_
        refine zg_get F (fun _ _ h => h.2.1.1) rfl zi_M 19 (by decide) rfl zk_557 rfl dM_receipt_150 ?_
        refine zg_iload_n F 4 rfl rfl dM_receipt_153 ?_
        refine zg_iload F 2 rfl dM_receipt_154 ?_
        refine zm_iast F 16 (by decide) rfl (by show _ < 16; omega) dM_receipt_156 ?_
        refine zg_iload F 1 rfl dM_receipt_157 ?_
        refine zg_iload F 2 rfl dM_receipt_159 ?_
        refine zg_isub F rfl dM_receipt_161 ?_
        exact zg_iret F E (Nat.zero_le _) (Nat.zero_le _) (fun _ _ h => h) dM_receipt_162
      | succ r ih =>
        intro i hi
        have g3 := zm_rcp_le (σ := zm_set (zm_f σ 0) 19 (4 * a + b) (-1)) (p := 4 * a + b) (u := σ.1 19 (4 * a + b)) i
        have hgo := ih (i + 1) (by omega)
        rw [zm_rcp] at hgo
        generalize zm_rcp (zm_set (zm_f σ 0) 19 (4 * a + b) (-1)) (4 * a + b) (σ.1 19 (4 * a + b)) i = q at hgo g3 ⊢
        obtain ⟨S, m⟩ := q
        dsimp only at hgo g3 ⊢
        refine zg_iload F 0 rfl dM_receipt_59 ?_
        refine zg_bipush F (v := nI 8) (by decide) dM_receipt_61 ?_
        refine zg_iload_n F 4 rfl rfl dM_receipt_63 ?_
        refine zg_imul F (by first | exact pk_mul _ _ | rfl) dM_receipt_64 ?_
        refine zg_iload F 1 rfl dM_receipt_65 ?_
        refine zg_iadd F (by first | exact nI_add _ _ | rfl) dM_receipt_67 ?_
        refine zg_icmp_geF F dM_receipt_68 (tgt := 149) (by decide) (nI_ge (by omega) (by omega)) ?_
        refine zg_aload_n F 5 rfl rfl dM_receipt_71 ?_
        refine zg_get F (fun _ _ h => h.2.1.1) rfl zi_M 23 (by decide) rfl zk_561 rfl dM_receipt_72 ?_
        refine zg_iload F 0 rfl dM_receipt_75 ?_
        refine zm_iald F 20 (by decide) rfl (by show _ < 128; omega) rfl dM_receipt_77 ?_
        refine zg_iload F 3 rfl dM_receipt_78 ?_
        by_cases h2 : σ.1 19 (4 * a + b) < S.1 20 (8 * (4 * a + b) + i)
        · rw [if_pos h2] at hgo
          refine zg_icmp_leF F dM_receipt_80 (tgt := 143) (by decide) (Int32.not_le.mpr h2) ?_
          refine zg_aload_n F 5 rfl rfl dM_receipt_83 ?_
          refine zg_get F (fun _ _ h => h.2.1.1) rfl zi_M 23 (by decide) rfl zk_561 rfl dM_receipt_84 ?_
          refine zg_bipush F (v := nI 8) (by decide) dM_receipt_87 ?_
          refine zg_iload_n F 4 rfl rfl dM_receipt_89 ?_
          refine zg_imul F (by first | exact pk_mul _ _ | rfl) dM_receipt_90 ?_
          refine zg_iload F 2 rfl dM_receipt_91 ?_
          refine zg_iadd F (by first | exact nI_add _ _ | rfl) dM_receipt_93 ?_
          refine zg_aload_n F 5 rfl rfl dM_receipt_94 ?_
          refine zg_get F (fun _ _ h => h.2.1.1) rfl zi_M 23 (by decide) rfl zk_561 rfl dM_receipt_95 ?_
          refine zg_iload F 0 rfl dM_receipt_98 ?_
          refine zm_iald F 20 (by decide) rfl (by show _ < 128; omega) rfl dM_receipt_100 ?_
          refine zm_iast F 20 (by decide) rfl (by show _ < 128; omega) dM_receipt_101 ?_
          refine zg_aload_n F 5 rfl rfl dM_receipt_102 ?_
          refine zg_get F (fun _ _ h => h.2.1.1) rfl zi_M 24 (by decide) rfl zk_562 rfl dM_receipt_103 ?_
          refine zg_bipush F (v := nI 8) (by decide) dM_receipt_106 ?_
          refine zg_iload_n F 4 rfl rfl dM_receipt_108 ?_
          refine zg_imul F (by first | exact pk_mul _ _ | rfl) dM_receipt_109 ?_
          refine zg_iload F 2 rfl dM_receipt_110 ?_
          refine zg_iadd F (by first | exact nI_add _ _ | rfl) dM_receipt_112 ?_
          refine zg_aload_n F 5 rfl rfl dM_receipt_113 ?_
          refine zg_get F (fun _ _ h => h.2.1.1) rfl zi_M 24 (by decide) rfl zk_562 rfl dM_receipt_114 ?_
          refine zg_iload F 0 rfl dM_receipt_117 ?_
          refine zm_iald F 21 (by decide) rfl (by show _ < 128; omega) rfl dM_receipt_119 ?_
          refine zm_iast F 21 (by decide) rfl (by show _ < 128; omega) dM_receipt_120 ?_
          refine zg_aload_n F 5 rfl rfl dM_receipt_121 ?_
          refine zg_get F (fun _ _ h => h.2.1.1) rfl zi_M 25 (by decide) rfl zk_563 rfl dM_receipt_122 ?_
          refine zg_bipush F (v := nI 8) (by decide) dM_receipt_125 ?_
          refine zg_iload_n F 4 rfl rfl dM_receipt_127 ?_
          refine zg_imul F (by first | exact pk_mul _ _ | rfl) dM_receipt_128 ?_
          refine zg_iload F 2 rfl dM_receipt_129 ?_
          refine zg_iadd F (by first | exact nI_add _ _ | rfl) dM_receipt_131 ?_
          refine zg_aload_n F 5 rfl rfl dM_receipt_132 ?_
          refine zg_get F (fun _ _ h => h.2.1.1) rfl zi_M 25 (by decide) rfl zk_563 rfl dM_receipt_133 ?_
          refine zg_iload F 0 rfl dM_receipt_136 ?_
          refine zm_iald F 22 (by decide) rfl (by show _ < 128; omega) rfl dM_receipt_138 ?_
          refine zm_iast F 22 (by decide) rfl (by show _ < 128; omega) dM_receipt_139 ?_
          refine zg_iinc F 2 rfl (by first | exact zc_inc _ | rfl) (by rw [hn]; decide) (L' := [(5, _), (7, _), (6, _), (4, _), (3, _), (0, _), (1, _), (2, _)]) rfl dM_receipt_140 ?_
          refine zg_iinc F 1 rfl (by first | exact zc_inc _ | rfl) (by rw [hn]; decide) (L' := [(7, _), (5, _), (6, _), (4, _), (3, _), (0, _), (1, _), (2, _)]) rfl dM_receipt_143 ?_
          refine zg_goto F (tgt := 59) dM_receipt_146 (by decide) ?_
          refine zg_sub [0, 2, 1, 3, 4, 5, 6, 7] (L' := [(7, _), (6, _), (5, _), (4, _), (3, _), (0, _), (1, _), (2, _)]) rfl ?_
          exact hgo
        · rw [if_neg h2] at hgo
          refine zg_icmp_leT F (tgt := 143) dM_receipt_80 (by decide) (Int32.not_lt.mp h2) ?_
          refine zg_iinc F 0 rfl (by first | exact zc_inc _ | rfl) (by rw [hn]; decide) (L' := [(7, _), (6, _), (5, _), (4, _), (3, _), (0, _), (1, _), (2, _)]) rfl dM_receipt_143 ?_
          refine zg_goto F (tgt := 59) dM_receipt_146 (by decide) ?_
          refine zg_sub [0, 1, 2, 3, 4, 5, 6, 7] (L' := [(7, _), (6, _), (5, _), (4, _), (3, _), (0, _), (1, _), (2, _)]) rfl ?_
          exact hgo
    exact loop bx 0 (by omega)
