set_option maxRecDepth 100000 in
set_option maxHeartbeats 4000000 in
theorem zM_cancel_bad (l : Launch) (D : va_G) (A : Nat → ClassId) (base : Nat) (mo sz : Nat) (w0 : zg_w) (σ : zm_S) (t : Int32) (h : ¬ (¬ t < 0 ∧ ¬ σ.1 25 2 ≤ t)) : zg_Met l zm_M_cancel zc_M_cancel 2 (some .int) 1 0 0 D A base [.ref mo, .int t] (zm_P A mo w0 sz σ) (some (.int (nI 0))) (zm_P A mo w0 sz (zm_f σ 1)) := by
  refine zg_met (by decide) (Nat.le_of_ble_eq_true rfl) ?_
  intro K hl hD hA hz hn hnm F E
  subst hl hD hA hz
  show zg_G K (zm_P (zk_A K) mo w0 sz σ) 0 0 0 [(0, .ref mo), (1, .int t)] []
  refine zg_aload_n F 0 rfl rfl dM_cancel_0 ?_
  refine zg_aload_n F 0 rfl rfl dM_cancel_1 ?_
  refine zg_iload_n F 1 rfl rfl dM_cancel_2 ?_
  refine zg_callV F (zM_isTicket _ _ _ _ _ _ _ _ _) zv_M_isTicket zu_M_isTicket zk_684 (fun _ _ h => h.2.1.1) rfl rfl ⟨by decide, by decide⟩ ⟨by decide, by decide⟩ rfl (Nat.le_of_ble_eq_true rfl) dM_cancel_3 ?_
  refine zg_eqi (y := nI 0) (zb_f (h)) ?_
  refine zg_if_neF F dM_cancel_6 (tgt := 13) (by decide) (rfl) ?_
  refine zg_iconst F (v := nI 1) (by decide) dM_cancel_9 ?_
  refine zg_goto F (tgt := 27) dM_cancel_10 (by decide) ?_
  refine zg_callV F (zM_refused _ _ _ _ _ _ _ _ _) zv_M_refused zu_M_refused zk_635 (fun _ _ h => h.2.1.1) rfl rfl ⟨by decide, by decide⟩ ⟨by decide, by decide⟩ rfl (Nat.le_of_ble_eq_true rfl) dM_cancel_27 ?_
  refine zg_eqi (zb_1 (by omega) (by omega)) ?_
  refine zg_if_eqF F dM_cancel_30 (tgt := 35) (by decide) (by decide) ?_
  refine zg_iconst F (v := nI 0) (by decide) dM_cancel_33 ?_
  exact zg_iret F E (Nat.zero_le _) (Nat.zero_le _) (fun _ _ h => h) dM_cancel_34
set_option maxRecDepth 100000 in
set_option maxHeartbeats 4000000 in
theorem zM_ticket_bad (l : Launch) (D : va_G) (A : Nat → ClassId) (base : Nat) (mo sz : Nat) (w0 : zg_w) (σ : zm_S) (t what : Int32) (h : ¬ (¬ t < 0 ∧ ¬ σ.1 25 2 ≤ t)) : zg_Met l zm_M_ticket zc_M_ticket 3 (some .int) 1 0 0 D A base [.ref mo, .int t, .int what] (zm_P A mo w0 sz σ) (some (.int (nI 0))) (zm_P A mo w0 sz (zm_f σ 1)) := by
  refine zg_met (by decide) (Nat.le_of_ble_eq_true rfl) ?_
  intro K hl hD hA hz hn hnm F E
  subst hl hD hA hz
  show zg_G K (zm_P (zk_A K) mo w0 sz σ) 0 0 0 [(0, .ref mo), (1, .int t), (2, .int what)] []
  refine zg_aload_n F 0 rfl rfl dM_ticket_0 ?_
  refine zg_aload_n F 0 rfl rfl dM_ticket_1 ?_
  refine zg_iload_n F 1 rfl rfl dM_ticket_2 ?_
  refine zg_callV F (zM_isTicket _ _ _ _ _ _ _ _ _) zv_M_isTicket zu_M_isTicket zk_684 (fun _ _ h => h.2.1.1) rfl rfl ⟨by decide, by decide⟩ ⟨by decide, by decide⟩ rfl (Nat.le_of_ble_eq_true rfl) dM_ticket_3 ?_
  refine zg_eqi (y := nI 0) (zb_f (h)) ?_
  refine zg_if_neF F dM_ticket_6 (tgt := 13) (by decide) (rfl) ?_
  refine zg_iconst F (v := nI 1) (by decide) dM_ticket_9 ?_
  refine zg_goto F (tgt := 27) dM_ticket_10 (by decide) ?_
  refine zg_callV F (zM_refused _ _ _ _ _ _ _ _ _) zv_M_refused zu_M_refused zk_635 (fun _ _ h => h.2.1.1) rfl rfl ⟨by decide, by decide⟩ ⟨by decide, by decide⟩ rfl (Nat.le_of_ble_eq_true rfl) dM_ticket_27 ?_
  refine zg_eqi (zb_1 (by omega) (by omega)) ?_
  refine zg_if_eqF F dM_ticket_30 (tgt := 35) (by decide) (by decide) ?_
  refine zg_iconst F (v := nI 0) (by decide) dM_ticket_33 ?_
  exact zg_iret F E (Nat.zero_le _) (Nat.zero_le _) (fun _ _ h => h) dM_ticket_34
set_option maxRecDepth 100000 in
set_option maxHeartbeats 4000000 in
theorem zM_price_bad (l : Launch) (D : va_G) (A : Nat → ClassId) (base : Nat) (mo sz : Nat) (w0 : zg_w) (σ : zm_S) (t : Int32) (h : ¬ (¬ t < 0 ∧ ¬ σ.1 25 2 ≤ t)) : zg_Met l zm_M_price zc_M_price 2 (some .long) 1 0 0 D A base [.ref mo, .int t] (zm_P A mo w0 sz σ) (some (.long 0)) (zm_P A mo w0 sz (zm_f σ 1)) := by
  refine zg_met (by decide) (Nat.le_of_ble_eq_true rfl) ?_
  intro K hl hD hA hz hn hnm F E
  subst hl hD hA hz
  show zg_G K (zm_P (zk_A K) mo w0 sz σ) 0 0 0 [(0, .ref mo), (1, .int t)] []
  refine zg_aload_n F 0 rfl rfl dM_price_0 ?_
  refine zg_aload_n F 0 rfl rfl dM_price_1 ?_
  refine zg_iload_n F 1 rfl rfl dM_price_2 ?_
  refine zg_callV F (zM_isTicket _ _ _ _ _ _ _ _ _) zv_M_isTicket zu_M_isTicket zk_684 (fun _ _ h => h.2.1.1) rfl rfl ⟨by decide, by decide⟩ ⟨by decide, by decide⟩ rfl (Nat.le_of_ble_eq_true rfl) dM_price_3 ?_
  refine zg_eqi (y := nI 0) (zb_f (h)) ?_
  refine zg_if_eqT F (tgt := 13) dM_price_6 (by decide) (rfl) ?_
  refine zg_iconst F (v := nI 1) (by decide) dM_price_13 ?_
  refine zg_callV F (zM_refused _ _ _ _ _ _ _ _ _) zv_M_refused zu_M_refused zk_635 (fun _ _ h => h.2.1.1) rfl rfl ⟨by decide, by decide⟩ ⟨by decide, by decide⟩ rfl (Nat.le_of_ble_eq_true rfl) dM_price_14 ?_
  refine zg_eqi (zb_1 (by omega) (by omega)) ?_
  refine zg_if_eqF F dM_price_17 (tgt := 24) (by decide) (by decide) ?_
  refine zg_lconst F (v := 0) rfl dM_price_20 ?_
  refine zg_goto F (tgt := 30) dM_price_21 (by decide) ?_
  exact zg_lret F E (Nat.zero_le _) (Nat.zero_le _) (fun _ _ h => h) dM_price_30
set_option maxRecDepth 100000 in
set_option maxHeartbeats 4000000 in
theorem zM_price (l : Launch) (D : va_G) (A : Nat → ClassId) (base : Nat) (mo sz : Nat) (w0 : zg_w) (σ : zm_S) (t T : Nat) (ht : t < T) (hT8 : T ≤ 80) (hT : σ.1 25 2 = nI T) : zg_Met l zm_M_price zc_M_price 2 (some .long) 1 0 0 D A base [.ref mo, .int (nI t)] (zm_P A mo w0 sz σ) (some (.long (σ.2 9 t))) (zm_P A mo w0 sz (zm_f σ 0)) := by
  refine zg_met (by decide) (Nat.le_of_ble_eq_true rfl) ?_
  intro K hl hD hA hz hn hnm F E
  subst hl hD hA hz
  show zg_G K (zm_P (zk_A K) mo w0 sz σ) 0 0 0 [(0, .ref mo), (1, .int (nI t))] []
  refine zg_aload_n F 0 rfl rfl dM_price_0 ?_
  refine zg_aload_n F 0 rfl rfl dM_price_1 ?_
  refine zg_iload_n F 1 rfl rfl dM_price_2 ?_
  refine zg_callV F (zM_isTicket _ _ _ _ _ _ _ _ _) zv_M_isTicket zu_M_isTicket zk_684 (fun _ _ h => h.2.1.1) rfl rfl ⟨by decide, by decide⟩ ⟨by decide, by decide⟩ rfl (Nat.le_of_ble_eq_true rfl) dM_price_3 ?_
  refine zg_eqi (y := nI 1) (zb_t (by rw [hT]; exact ⟨nI_pos (by omega), nI_ge ht (by omega)⟩)) ?_
  refine zg_if_eqF F dM_price_6 (tgt := 13) (by decide) (by decide) ?_
  refine zg_iconst F (v := nI 0) (by decide) dM_price_9 ?_
  refine zg_goto F (tgt := 14) dM_price_10 (by decide) ?_
  refine zg_callV F (zM_refused _ _ _ _ _ _ _ _ _) zv_M_refused zu_M_refused zk_635 (fun _ _ h => h.2.1.1) rfl rfl ⟨by decide, by decide⟩ ⟨by decide, by decide⟩ rfl (Nat.le_of_ble_eq_true rfl) dM_price_14 ?_
  refine zg_eqi zb_0 ?_
  refine zg_if_eqT F (tgt := 24) dM_price_17 (by decide) (rfl) ?_
  refine zg_aload_n F 0 rfl rfl dM_price_24 ?_
  refine zg_get F (fun _ _ h => h.2.1.1) rfl zi_M 12 (by decide) rfl zk_550 rfl dM_price_25 ?_
  refine zg_iload_n F 1 rfl rfl dM_price_28 ?_
  refine zm_lald F 9 (by decide) rfl (by show _ < 80; omega) rfl dM_price_29 ?_
  exact zg_lret F E (Nat.zero_le _) (Nat.zero_le _) (fun _ _ h => h) dM_price_30
set_option maxRecDepth 100000 in
set_option maxHeartbeats 4000000 in
theorem zM_ticket (l : Launch) (D : va_G) (A : Nat → ClassId) (base : Nat) (mo sz : Nat) (w0 : zg_w) (σ : zm_S) (t T : Nat) (what : Int32) (ht : t < T) (hT8 : T ≤ 80) (hT : σ.1 25 2 = nI T) : zg_Met l zm_M_ticket zc_M_ticket 3 (some .int) 1 0 0 D A base [.ref mo, .int (nI t), .int what] (zm_P A mo w0 sz σ) (some (.int (zr_ticket σ t what))) (zm_P A mo w0 sz (zm_f σ (zc_ticket what))) := by
  refine zg_met (by decide) (Nat.le_of_ble_eq_true rfl) ?_
  intro K hl hD hA hz hn hnm F E
  subst hl hD hA hz
  show zg_G K (zm_P (zk_A K) mo w0 sz σ) 0 0 0 [(0, .ref mo), (1, .int (nI t)), (2, .int what)] []
  refine zg_aload_n F 0 rfl rfl dM_ticket_0 ?_
  refine zg_aload_n F 0 rfl rfl dM_ticket_1 ?_
  refine zg_iload_n F 1 rfl rfl dM_ticket_2 ?_
  refine zg_callV F (zM_isTicket _ _ _ _ _ _ _ _ _) zv_M_isTicket zu_M_isTicket zk_684 (fun _ _ h => h.2.1.1) rfl rfl ⟨by decide, by decide⟩ ⟨by decide, by decide⟩ rfl (Nat.le_of_ble_eq_true rfl) dM_ticket_3 ?_
  refine zg_eqi (y := nI 1) (zb_t (by rw [hT]; exact ⟨nI_pos (by omega), nI_ge ht (by omega)⟩)) ?_
  refine zg_if_neT F (tgt := 13) dM_ticket_6 (by decide) (by decide) ?_
  refine zg_iload_n F 2 rfl rfl dM_ticket_13 ?_
  by_cases h1 : what < 0
  · refine zg_if_ltT F (tgt := 22) dM_ticket_14 (by decide) (h1) ?_
    refine zg_iconst F (v := nI 2) (by decide) dM_ticket_22 ?_
    refine zg_goto F (tgt := 27) dM_ticket_23 (by decide) ?_
    have hc : zc_ticket what = 2 := if_pos (Or.inl h1)
    rw [zr_ticket, hc, if_neg (by decide)] at E
    refine zg_callV F (zM_refused _ _ _ _ _ _ _ _ _) zv_M_refused zu_M_refused zk_635 (fun _ _ h => h.2.1.1) rfl rfl ⟨by decide, by decide⟩ ⟨by decide, by decide⟩ rfl (Nat.le_of_ble_eq_true rfl) dM_ticket_27 ?_
    refine zg_eqi (zb_1 (by omega) (by omega)) ?_
    refine zg_if_eqF F dM_ticket_30 (tgt := 35) (by decide) (by decide) ?_
    refine zg_iconst F (v := nI 0) (by decide) dM_ticket_33 ?_
    exact zg_iret F E (Nat.zero_le _) (Nat.zero_le _) (fun _ _ h => h) dM_ticket_34
  · refine zg_if_ltF F dM_ticket_14 (tgt := 22) (by decide) (h1) ?_
    refine zg_iload_n F 2 rfl rfl dM_ticket_17 ?_
    refine zg_iconst F (v := nI 3) (by decide) dM_ticket_18 ?_
    by_cases h2 : nI 3 < what
    · refine zg_icmp_leF F dM_ticket_19 (tgt := 26) (by decide) (Int32.not_le.mpr h2) ?_
      refine zg_iconst F (v := nI 2) (by decide) dM_ticket_22 ?_
      refine zg_goto F (tgt := 27) dM_ticket_23 (by decide) ?_
      have hc : zc_ticket what = 2 := if_pos (Or.inr h2)
      rw [zr_ticket, hc, if_neg (by decide)] at E
      refine zg_callV F (zM_refused _ _ _ _ _ _ _ _ _) zv_M_refused zu_M_refused zk_635 (fun _ _ h => h.2.1.1) rfl rfl ⟨by decide, by decide⟩ ⟨by decide, by decide⟩ rfl (Nat.le_of_ble_eq_true rfl) dM_ticket_27 ?_
      refine zg_eqi (zb_1 (by omega) (by omega)) ?_
      refine zg_if_eqF F dM_ticket_30 (tgt := 35) (by decide) (by decide) ?_
      refine zg_iconst F (v := nI 0) (by decide) dM_ticket_33 ?_
      exact zg_iret F E (Nat.zero_le _) (Nat.zero_le _) (fun _ _ h => h) dM_ticket_34
    · refine zg_icmp_leT F (tgt := 26) dM_ticket_19 (by decide) (Int32.not_lt.mp h2) ?_
      refine zg_iconst F (v := nI 0) (by decide) dM_ticket_26 ?_
      have hc : zc_ticket what = 0 := if_neg (fun q => q.elim h1 h2)
      rw [zr_ticket, hc, if_pos rfl] at E
      refine zg_callV F (zM_refused _ _ _ _ _ _ _ _ _) zv_M_refused zu_M_refused zk_635 (fun _ _ h => h.2.1.1) rfl rfl ⟨by decide, by decide⟩ ⟨by decide, by decide⟩ rfl (Nat.le_of_ble_eq_true rfl) dM_ticket_27 ?_
      refine zg_eqi zb_0 ?_
      refine zg_if_eqT F (tgt := 35) dM_ticket_30 (by decide) (rfl) ?_
      refine zg_iload_n F 2 rfl rfl dM_ticket_35 ?_
      by_cases h3 : what = 0
      · rw [if_pos h3] at E
        refine zg_if_neF F dM_ticket_36 (tgt := 48) (by decide) (h3) ?_
        refine zg_aload_n F 0 rfl rfl dM_ticket_39 ?_
        refine zg_get F (fun _ _ h => h.2.1.1) rfl zi_M 9 (by decide) rfl zk_547 rfl dM_ticket_40 ?_
        refine zg_iload_n F 1 rfl rfl dM_ticket_43 ?_
        refine zm_iald F 6 (by decide) rfl (by show _ < 80; omega) rfl dM_ticket_44 ?_
        refine zg_goto F (tgt := 90) dM_ticket_45 (by decide) ?_
        exact zg_iret F E (Nat.zero_le _) (Nat.zero_le _) (fun _ _ h => h) dM_ticket_90
      · rw [if_neg h3] at E
        refine zg_if_neT F (tgt := 48) dM_ticket_36 (by decide) (h3) ?_
        refine zg_iload_n F 2 rfl rfl dM_ticket_48 ?_
        refine zg_iconst F (v := nI 1) (by decide) dM_ticket_49 ?_
        by_cases h4 : what = nI 1
        · rw [if_pos h4] at E
          refine zg_icmp_neF F dM_ticket_50 (tgt := 62) (by decide) (h4) ?_
          refine zg_aload_n F 0 rfl rfl dM_ticket_53 ?_
          refine zg_get F (fun _ _ h => h.2.1.1) rfl zi_M 10 (by decide) rfl zk_548 rfl dM_ticket_54 ?_
          refine zg_iload_n F 1 rfl rfl dM_ticket_57 ?_
          refine zm_iald F 7 (by decide) rfl (by show _ < 80; omega) rfl dM_ticket_58 ?_
          refine zg_goto F (tgt := 90) dM_ticket_59 (by decide) ?_
          exact zg_iret F E (Nat.zero_le _) (Nat.zero_le _) (fun _ _ h => h) dM_ticket_90
        · rw [if_neg h4] at E
          refine zg_icmp_neT F (tgt := 62) dM_ticket_50 (by decide) (h4) ?_
          refine zg_iload_n F 2 rfl rfl dM_ticket_62 ?_
          refine zg_iconst F (v := nI 2) (by decide) dM_ticket_63 ?_
          by_cases h5 : what = nI 2
          · rw [if_pos h5] at E
            refine zg_icmp_neF F dM_ticket_64 (tgt := 76) (by decide) (h5) ?_
            refine zg_aload_n F 0 rfl rfl dM_ticket_67 ?_
            refine zg_get F (fun _ _ h => h.2.1.1) rfl zi_M 11 (by decide) rfl zk_549 rfl dM_ticket_68 ?_
            refine zg_iload_n F 1 rfl rfl dM_ticket_71 ?_
            refine zm_iald F 8 (by decide) rfl (by show _ < 80; omega) rfl dM_ticket_72 ?_
            refine zg_goto F (tgt := 90) dM_ticket_73 (by decide) ?_
            exact zg_iret F E (Nat.zero_le _) (Nat.zero_le _) (fun _ _ h => h) dM_ticket_90
          · rw [if_neg h5] at E
            refine zg_icmp_neT F (tgt := 76) dM_ticket_64 (by decide) (h5) ?_
            refine zg_aload_n F 0 rfl rfl dM_ticket_76 ?_
            refine zg_get F (fun _ _ h => h.2.1.1) rfl zi_M 13 (by decide) rfl zk_551 rfl dM_ticket_77 ?_
            refine zg_iload_n F 1 rfl rfl dM_ticket_80 ?_
            refine zm_zald F 10 (by decide) rfl (by show _ < 80; omega) rfl dM_ticket_81 ?_
            by_cases h6 : σ.1 10 t = 0
            · rw [if_pos h6] at E
              refine zg_if_eqT F (tgt := 89) dM_ticket_82 (by decide) (h6) ?_
              refine zg_iconst F (v := nI 0) (by decide) dM_ticket_89 ?_
              exact zg_iret F E (Nat.zero_le _) (Nat.zero_le _) (fun _ _ h => h) dM_ticket_90
            · rw [if_neg h6] at E
              refine zg_if_eqF F dM_ticket_82 (tgt := 89) (by decide) (h6) ?_
              refine zg_iconst F (v := nI 1) (by decide) dM_ticket_85 ?_
              refine zg_goto F (tgt := 90) dM_ticket_86 (by decide) ?_
              exact zg_iret F E (Nat.zero_le _) (Nat.zero_le _) (fun _ _ h => h) dM_ticket_90
set_option maxRecDepth 100000 in
set_option maxHeartbeats 4000000 in
theorem zM_cancel (l : Launch) (D : va_G) (A : Nat → ClassId) (base : Nat) (mo sz : Nat) (w0 : zg_w) (σ : zm_S) (t T port parts had : Nat) (ht : t < T) (hT8 : T ≤ 80) (hT : σ.1 25 2 = nI T) (h0 : port < 4) (h4 : parts ≤ 4) (hh : had ≤ 6) (ho : σ.1 6 t = nI port) (hq : σ.1 8 t = nI parts) (hw : σ.1 12 port = nI had) (hp : ∀ k, k < had → ∃ p, p ≤ 4 ∧ σ.1 14 (6 * port + k) = nI p) : zg_Met l zm_M_cancel zc_M_cancel 2 (some .int) 4 0 0 D A base [.ref mo, .int (nI t)] (zm_P A mo w0 sz σ) (some (.int (zo_cancel σ T t port parts had).2)) (zm_P A mo w0 sz (zo_cancel σ T t port parts had).1) := by
  refine zg_met (by decide) (Nat.le_of_ble_eq_true rfl) ?_
  intro K hl hD hA hz hn hnm F E
  subst hl hD hA hz
  show zg_G K (zm_P (zk_A K) mo w0 sz σ) 0 0 0 [(0, .ref mo), (1, .int (nI t))] []
  refine zg_aload_n F 0 rfl rfl dM_cancel_0 ?_
  refine zg_aload_n F 0 rfl rfl dM_cancel_1 ?_
  refine zg_iload_n F 1 rfl rfl dM_cancel_2 ?_
  refine zg_callV F (zM_isTicket _ _ _ _ _ _ _ _ _) zv_M_isTicket zu_M_isTicket zk_684 (fun _ _ h => h.2.1.1) rfl rfl ⟨by decide, by decide⟩ ⟨by decide, by decide⟩ rfl (Nat.le_of_ble_eq_true rfl) dM_cancel_3 ?_
  refine zg_eqi (y := nI 1) (zb_t (by rw [hT]; exact ⟨nI_pos (by omega), nI_ge ht (by omega)⟩)) ?_
  refine zg_if_neT F (tgt := 13) dM_cancel_6 (by decide) (by decide) ?_
  refine zg_aload_n F 0 rfl rfl dM_cancel_13 ?_
  refine zg_get F (fun _ _ h => h.2.1.1) rfl zi_M 13 (by decide) rfl zk_551 rfl dM_cancel_14 ?_
  refine zg_iload_n F 1 rfl rfl dM_cancel_17 ?_
  refine zm_zald F 10 (by decide) rfl (by show _ < 80; omega) rfl dM_cancel_18 ?_
  by_cases h1 : σ.1 10 t = 0
  · rw [zo_cancel, if_pos h1] at E
    refine zg_if_neF F dM_cancel_19 (tgt := 26) (by decide) (h1) ?_
    refine zg_iconst F (v := nI 2) (by decide) dM_cancel_22 ?_
    refine zg_goto F (tgt := 27) dM_cancel_23 (by decide) ?_
    refine zg_callV F (zM_refused _ _ _ _ _ _ _ _ _) zv_M_refused zu_M_refused zk_635 (fun _ _ h => h.2.1.1) rfl rfl ⟨by decide, by decide⟩ ⟨by decide, by decide⟩ rfl (Nat.le_of_ble_eq_true rfl) dM_cancel_27 ?_
    refine zg_eqi (zb_1 (by omega) (by omega)) ?_
    refine zg_if_eqF F dM_cancel_30 (tgt := 35) (by decide) (by decide) ?_
    refine zg_iconst F (v := nI 0) (by decide) dM_cancel_33 ?_
    exact zg_iret F E (Nat.zero_le _) (Nat.zero_le _) (fun _ _ h => h) dM_cancel_34
  · rw [zo_cancel, if_neg h1] at E
    refine zg_if_neT F (tgt := 26) dM_cancel_19 (by decide) (h1) ?_
    refine zg_iconst F (v := nI 0) (by decide) dM_cancel_26 ?_
    refine zg_callV F (zM_refused _ _ _ _ _ _ _ _ _) zv_M_refused zu_M_refused zk_635 (fun _ _ h => h.2.1.1) rfl rfl ⟨by decide, by decide⟩ ⟨by decide, by decide⟩ rfl (Nat.le_of_ble_eq_true rfl) dM_cancel_27 ?_
    refine zg_eqi zb_0 ?_
    refine zg_if_eqT F (tgt := 35) dM_cancel_30 (by decide) (rfl) ?_
    refine zg_aload_n F 0 rfl rfl dM_cancel_35 ?_
    refine zg_get F (fun _ _ h => h.2.1.1) rfl zi_M 13 (by decide) rfl zk_551 rfl dM_cancel_36 ?_
    refine zg_iload_n F 1 rfl rfl dM_cancel_39 ?_
    refine zg_iconst F (v := nI 0) (by decide) dM_cancel_40 ?_
    refine zm_zast F 10 (by decide) rfl (by show _ < 80; omega) (by decide) dM_cancel_41 ?_
    refine zg_aload_n F 0 rfl rfl dM_cancel_42 ?_
    refine zg_aload_n F 0 rfl rfl dM_cancel_43 ?_
    refine zg_get F (fun _ _ h => h.2.1.1) rfl zi_M 9 (by decide) rfl zk_547 rfl dM_cancel_44 ?_
    refine zg_iload_n F 1 rfl rfl dM_cancel_47 ?_
    refine zm_iald F 6 (by decide) rfl (by show _ < 80; omega) rfl dM_cancel_48 ?_
    refine zg_eqi (ho) ?_
    refine zg_iconst F (v := nI 4) (by decide) dM_cancel_49 ?_
    refine zg_iconst F (v := nI 4) (by decide) dM_cancel_50 ?_
    refine zg_iload_n F 1 rfl rfl dM_cancel_51 ?_
    refine zg_imul F (by first | exact pk_mul _ _ | rfl) dM_cancel_52 ?_
    refine zg_iadd F (by first | exact nI_add _ _ | rfl) dM_cancel_53 ?_
    refine zg_aload_n F 0 rfl rfl dM_cancel_54 ?_
    refine zg_get F (fun _ _ h => h.2.1.1) rfl zi_M 11 (by decide) rfl zk_549 rfl dM_cancel_55 ?_
    refine zg_iload_n F 1 rfl rfl dM_cancel_58 ?_
    refine zm_iald F 8 (by decide) rfl (by show _ < 80; omega) rfl dM_cancel_59 ?_
    refine zg_eqi (hq) ?_
    refine zg_aload_n F 0 rfl rfl dM_cancel_60 ?_
    refine zg_get F (fun _ _ h => h.2.1.1) rfl zi_M 10 (by decide) rfl zk_548 rfl dM_cancel_61 ?_
    refine zg_iload_n F 1 rfl rfl dM_cancel_64 ?_
    refine zm_iald F 7 (by decide) rfl (by show _ < 80; omega) rfl dM_cancel_65 ?_
    refine zg_callV F (zM_give _ _ _ _ _ _ _ (zm_set (zm_f σ 0) 10 t (nI 0)) port (4 + 4 * t) parts (σ.1 7 t) h0 (by omega)) zv_M_give zu_M_give zk_664 (fun _ _ h => h.2.1.1) rfl rfl ⟨by decide, by decide⟩ ⟨by decide, by decide⟩ rfl (Nat.le_of_ble_eq_true rfl) dM_cancel_66 ?_
    have hg : ∀ j, j ≠ 2 → (zm_give (zm_set (zm_f σ 0) 10 t (nI 0)) port (4 + 4 * t) parts (σ.1 7 t) 16).1 j = (zm_set (zm_f σ 0) 10 t (nI 0)).1 j := fun j hj => zm_give_o hj 16
    have hE : zm_cnc σ t port parts = zm_setL (zm_give (zm_set (zm_f σ 0) 10 t (nI 0)) port (4 + 4 * t) parts (σ.1 7 t) 16) 11 port ((zm_give (zm_set (zm_f σ 0) 10 t (nI 0)) port (4 + 4 * t) parts (σ.1 7 t) 16).2 11 port - (zm_give (zm_set (zm_f σ 0) 10 t (nI 0)) port (4 + 4 * t) parts (σ.1 7 t) 16).2 9 t) := rfl
    rw [hE] at E
    generalize zm_give (zm_set (zm_f σ 0) 10 t (nI 0)) port (4 + 4 * t) parts (σ.1 7 t) 16 = G at hg E ⊢
    have hg6 : G.1 6 t = nI port := by rw [hg 6 (by decide)]; exact ho
    have s1 : (zm_setL G 11 port (G.2 11 port - G.2 9 t)).1 12 port = nI had := by show G.1 12 port = _; rw [hg 12 (by decide)]; exact hw
    have s2 : (zm_setL G 11 port (G.2 11 port - G.2 9 t)).1 25 2 = nI T := by show G.1 25 2 = _; rw [hg 25 (by decide)]; exact hT
    have s3 : ∀ k, k < had → ∃ p, p ≤ 4 ∧ (zm_setL G 11 port (G.2 11 port - G.2 9 t)).1 14 (6 * port + k) = nI p := by
      intro k hk
      show ∃ p, p ≤ 4 ∧ G.1 14 (6 * port + k) = nI p
      rw [hg 14 (by decide)]; exact hp k hk
    refine zg_aload_n F 0 rfl rfl dM_cancel_69 ?_
    refine zg_get F (fun _ _ h => h.2.1.1) rfl zi_M 14 (by decide) rfl zk_552 rfl dM_cancel_70 ?_
    refine zg_aload_n F 0 rfl rfl dM_cancel_73 ?_
    refine zg_get F (fun _ _ h => h.2.1.1) rfl zi_M 9 (by decide) rfl zk_547 rfl dM_cancel_74 ?_
    refine zg_iload_n F 1 rfl rfl dM_cancel_77 ?_
    refine zm_iald F 6 (by decide) rfl (by show _ < 80; omega) rfl dM_cancel_78 ?_
    refine zg_eqi (hg6) ?_
    refine zg_aload_n F 0 rfl rfl dM_cancel_79 ?_
    refine zg_get F (fun _ _ h => h.2.1.1) rfl zi_M 14 (by decide) rfl zk_552 rfl dM_cancel_80 ?_
    refine zg_aload_n F 0 rfl rfl dM_cancel_83 ?_
    refine zg_get F (fun _ _ h => h.2.1.1) rfl zi_M 9 (by decide) rfl zk_547 rfl dM_cancel_84 ?_
    refine zg_iload_n F 1 rfl rfl dM_cancel_87 ?_
    refine zm_iald F 6 (by decide) rfl (by show _ < 80; omega) rfl dM_cancel_88 ?_
    refine zg_eqi (hg6) ?_
    refine zm_lald F 11 (by decide) rfl (by show _ < 4; omega) rfl dM_cancel_89 ?_
    refine zg_aload_n F 0 rfl rfl dM_cancel_90 ?_
    refine zg_get F (fun _ _ h => h.2.1.1) rfl zi_M 12 (by decide) rfl zk_550 rfl dM_cancel_91 ?_
    refine zg_iload_n F 1 rfl rfl dM_cancel_94 ?_
    refine zm_lald F 9 (by decide) rfl (by show _ < 80; omega) rfl dM_cancel_95 ?_
    refine zg_lsub F rfl dM_cancel_96 ?_
    refine zm_last F 11 (by decide) rfl (by show _ < 4; omega) dM_cancel_97 ?_
    refine zg_aload_n F 0 rfl rfl dM_cancel_98 ?_
    refine zg_aload_n F 0 rfl rfl dM_cancel_99 ?_
    refine zg_get F (fun _ _ h => h.2.1.1) rfl zi_M 9 (by decide) rfl zk_547 rfl dM_cancel_100 ?_
    refine zg_iload_n F 1 rfl rfl dM_cancel_103 ?_
    refine zm_iald F 6 (by decide) rfl (by show _ < 80; omega) rfl dM_cancel_104 ?_
    refine zg_eqi (hg6) ?_
    refine zg_callV F (zM_serve _ _ _ _ _ _ _ (zm_setL G 11 port (G.2 11 port - G.2 9 t)) T port had h0 hh hT8 s1 s2 s3) zv_M_serve zu_M_serve zk_676 (fun _ _ h => h.2.1.1) rfl rfl ⟨by decide, by decide⟩ ⟨by decide, by decide⟩ rfl (Nat.le_of_ble_eq_true rfl) dM_cancel_105 ?_
    exact zg_iret F E (Nat.zero_le _) (Nat.zero_le _) (fun _ _ h => h) dM_cancel_108
set_option maxRecDepth 100000 in
set_option maxHeartbeats 4000000 in
theorem zM_hand_bad (l : Launch) (D : va_G) (A : Nat → ClassId) (base : Nat) (mo sz : Nat) (w0 : zg_w) (σ : zm_S) (a b s leg n : Int32) (h : ¬ (zz4 a ∧ zz4 b ∧ zz4 s ∧ zz4 leg)) : zg_Met l zm_M_hand zc_M_hand 7 (some .int) 1 0 0 D A base [.ref mo, .int a, .int b, .int s, .int leg, .int n] (zm_P A mo w0 sz σ) (some (.int (nI 0))) (zm_P A mo w0 sz (zm_f σ 1)) := by
  refine zg_met (by decide) (Nat.le_of_ble_eq_true rfl) ?_
  intro K hl hD hA hz hn hnm F E
  subst hl hD hA hz
  show zg_G K (zm_P (zk_A K) mo w0 sz σ) 0 0 0 [(0, .ref mo), (1, .int a), (2, .int b), (3, .int s), (4, .int leg), (5, .int n)] []
  refine zg_iload_n F 1 rfl rfl dM_hand_0 ?_
  by_cases h0 : zz4 a
  · refine zg_callS F (zM_isFour _ _ _ _ _ _) zv_M_isFour zu_M_isFour zk_632 rfl ⟨by decide, by decide⟩ ⟨by decide, by decide⟩ rfl (Nat.le_of_ble_eq_true rfl) dM_hand_1 ?_
    refine zg_eqi (y := nI 1) (zb_t (h0)) ?_
    refine zg_if_eqF F dM_hand_4 (tgt := 33) (by decide) (by decide) ?_
    refine zg_iload_n F 2 rfl rfl dM_hand_7 ?_
    by_cases h1 : zz4 b
    · refine zg_callS F (zM_isFour _ _ _ _ _ _) zv_M_isFour zu_M_isFour zk_632 rfl ⟨by decide, by decide⟩ ⟨by decide, by decide⟩ rfl (Nat.le_of_ble_eq_true rfl) dM_hand_8 ?_
      refine zg_eqi (y := nI 1) (zb_t (h1)) ?_
      refine zg_if_eqF F dM_hand_11 (tgt := 33) (by decide) (by decide) ?_
      refine zg_iload_n F 3 rfl rfl dM_hand_14 ?_
      by_cases h2 : zz4 s
      · refine zg_callS F (zM_isFour _ _ _ _ _ _) zv_M_isFour zu_M_isFour zk_632 rfl ⟨by decide, by decide⟩ ⟨by decide, by decide⟩ rfl (Nat.le_of_ble_eq_true rfl) dM_hand_15 ?_
        refine zg_eqi (y := nI 1) (zb_t (h2)) ?_
        refine zg_if_eqF F dM_hand_18 (tgt := 33) (by decide) (by decide) ?_
        refine zg_iload F 4 rfl dM_hand_21 ?_
        refine zg_callS F (zM_isFour _ _ _ _ _ _) zv_M_isFour zu_M_isFour zk_632 rfl ⟨by decide, by decide⟩ ⟨by decide, by decide⟩ rfl (Nat.le_of_ble_eq_true rfl) dM_hand_23 ?_
        refine zg_eqi (y := nI 0) (zb_f (fun q => h ⟨h0, h1, h2, q⟩)) ?_
        refine zg_if_eqT F (tgt := 33) dM_hand_26 (by decide) (rfl) ?_
        refine zg_iconst F (v := nI 0) (by decide) dM_hand_33 ?_
        refine zg_istore F (by rw [hn]; decide) (L' := [(6, _), (0, _), (1, _), (2, _), (3, _), (4, _), (5, _)]) rfl dM_hand_34 ?_
        refine zg_aload_n F 1 rfl rfl dM_hand_36 ?_
        refine zg_iload F 0 rfl dM_hand_37 ?_
        refine zg_if_neF F dM_hand_39 (tgt := 46) (by decide) (rfl) ?_
        refine zg_iconst F (v := nI 1) (by decide) dM_hand_42 ?_
        refine zg_goto F (tgt := 88) dM_hand_43 (by decide) ?_
        refine zg_callV F (zM_refused _ _ _ _ _ _ _ _ _) zv_M_refused zu_M_refused zk_635 (fun _ _ h => h.2.1.1) rfl rfl ⟨by decide, by decide⟩ ⟨by decide, by decide⟩ rfl (Nat.le_of_ble_eq_true rfl) dM_hand_88 ?_
        refine zg_eqi (zb_1 (by omega) (by omega)) ?_
        refine zg_if_eqF F dM_hand_91 (tgt := 96) (by decide) (by decide) ?_
        refine zg_iconst F (v := nI 0) (by decide) dM_hand_94 ?_
        exact zg_iret F E (Nat.zero_le _) (Nat.zero_le _) (fun _ _ h => h) dM_hand_95
      · refine zg_callS F (zM_isFour _ _ _ _ _ _) zv_M_isFour zu_M_isFour zk_632 rfl ⟨by decide, by decide⟩ ⟨by decide, by decide⟩ rfl (Nat.le_of_ble_eq_true rfl) dM_hand_15 ?_
        refine zg_eqi (y := nI 0) (zb_f (h2)) ?_
        refine zg_if_eqT F (tgt := 33) dM_hand_18 (by decide) (rfl) ?_
        refine zg_iconst F (v := nI 0) (by decide) dM_hand_33 ?_
        refine zg_istore F (by rw [hn]; decide) (L' := [(6, _), (0, _), (1, _), (2, _), (3, _), (4, _), (5, _)]) rfl dM_hand_34 ?_
        refine zg_aload_n F 1 rfl rfl dM_hand_36 ?_
        refine zg_iload F 0 rfl dM_hand_37 ?_
        refine zg_if_neF F dM_hand_39 (tgt := 46) (by decide) (rfl) ?_
        refine zg_iconst F (v := nI 1) (by decide) dM_hand_42 ?_
        refine zg_goto F (tgt := 88) dM_hand_43 (by decide) ?_
        refine zg_callV F (zM_refused _ _ _ _ _ _ _ _ _) zv_M_refused zu_M_refused zk_635 (fun _ _ h => h.2.1.1) rfl rfl ⟨by decide, by decide⟩ ⟨by decide, by decide⟩ rfl (Nat.le_of_ble_eq_true rfl) dM_hand_88 ?_
        refine zg_eqi (zb_1 (by omega) (by omega)) ?_
        refine zg_if_eqF F dM_hand_91 (tgt := 96) (by decide) (by decide) ?_
        refine zg_iconst F (v := nI 0) (by decide) dM_hand_94 ?_
        exact zg_iret F E (Nat.zero_le _) (Nat.zero_le _) (fun _ _ h => h) dM_hand_95
    · refine zg_callS F (zM_isFour _ _ _ _ _ _) zv_M_isFour zu_M_isFour zk_632 rfl ⟨by decide, by decide⟩ ⟨by decide, by decide⟩ rfl (Nat.le_of_ble_eq_true rfl) dM_hand_8 ?_
      refine zg_eqi (y := nI 0) (zb_f (h1)) ?_
      refine zg_if_eqT F (tgt := 33) dM_hand_11 (by decide) (rfl) ?_
      refine zg_iconst F (v := nI 0) (by decide) dM_hand_33 ?_
      refine zg_istore F (by rw [hn]; decide) (L' := [(6, _), (0, _), (1, _), (2, _), (3, _), (4, _), (5, _)]) rfl dM_hand_34 ?_
      refine zg_aload_n F 1 rfl rfl dM_hand_36 ?_
      refine zg_iload F 0 rfl dM_hand_37 ?_
      refine zg_if_neF F dM_hand_39 (tgt := 46) (by decide) (rfl) ?_
      refine zg_iconst F (v := nI 1) (by decide) dM_hand_42 ?_
      refine zg_goto F (tgt := 88) dM_hand_43 (by decide) ?_
      refine zg_callV F (zM_refused _ _ _ _ _ _ _ _ _) zv_M_refused zu_M_refused zk_635 (fun _ _ h => h.2.1.1) rfl rfl ⟨by decide, by decide⟩ ⟨by decide, by decide⟩ rfl (Nat.le_of_ble_eq_true rfl) dM_hand_88 ?_
      refine zg_eqi (zb_1 (by omega) (by omega)) ?_
      refine zg_if_eqF F dM_hand_91 (tgt := 96) (by decide) (by decide) ?_
      refine zg_iconst F (v := nI 0) (by decide) dM_hand_94 ?_
      exact zg_iret F E (Nat.zero_le _) (Nat.zero_le _) (fun _ _ h => h) dM_hand_95
  · refine zg_callS F (zM_isFour _ _ _ _ _ _) zv_M_isFour zu_M_isFour zk_632 rfl ⟨by decide, by decide⟩ ⟨by decide, by decide⟩ rfl (Nat.le_of_ble_eq_true rfl) dM_hand_1 ?_
    refine zg_eqi (y := nI 0) (zb_f (h0)) ?_
    refine zg_if_eqT F (tgt := 33) dM_hand_4 (by decide) (rfl) ?_
    refine zg_iconst F (v := nI 0) (by decide) dM_hand_33 ?_
    refine zg_istore F (by rw [hn]; decide) (L' := [(6, _), (0, _), (1, _), (2, _), (3, _), (4, _), (5, _)]) rfl dM_hand_34 ?_
    refine zg_aload_n F 1 rfl rfl dM_hand_36 ?_
    refine zg_iload F 0 rfl dM_hand_37 ?_
    refine zg_if_neF F dM_hand_39 (tgt := 46) (by decide) (rfl) ?_
    refine zg_iconst F (v := nI 1) (by decide) dM_hand_42 ?_
    refine zg_goto F (tgt := 88) dM_hand_43 (by decide) ?_
    refine zg_callV F (zM_refused _ _ _ _ _ _ _ _ _) zv_M_refused zu_M_refused zk_635 (fun _ _ h => h.2.1.1) rfl rfl ⟨by decide, by decide⟩ ⟨by decide, by decide⟩ rfl (Nat.le_of_ble_eq_true rfl) dM_hand_88 ?_
    refine zg_eqi (zb_1 (by omega) (by omega)) ?_
    refine zg_if_eqF F dM_hand_91 (tgt := 96) (by decide) (by decide) ?_
    refine zg_iconst F (v := nI 0) (by decide) dM_hand_94 ?_
    exact zg_iret F E (Nat.zero_le _) (Nat.zero_le _) (fun _ _ h => h) dM_hand_95
set_option maxRecDepth 100000 in
set_option maxHeartbeats 4000000 in
theorem zM_hand (l : Launch) (D : va_G) (A : Nat → ClassId) (base : Nat) (mo sz : Nat) (w0 : zg_w) (σ : zm_S) (a b s leg bx : Nat) (n : Int32) (ha : a < 4) (hb : b < 4) (hs : s < 4) (hg : leg < 4) (hx : bx ≤ 8) (he : σ.1 16 (4 * a + b) = nI bx) : zg_Met l zm_M_hand zc_M_hand 7 (some .int) 1 0 0 D A base [.ref mo, .int (nI a), .int (nI b), .int (nI s), .int (nI leg), .int n] (zm_P A mo w0 sz σ) (some (.int (zo_hand σ a b s leg bx n).2)) (zm_P A mo w0 sz (zo_hand σ a b s leg bx n).1) := by
  refine zg_met (by decide) (Nat.le_of_ble_eq_true rfl) ?_
  intro K hl hD hA hz hn hnm F E
  subst hl hD hA hz
  show zg_G K (zm_P (zk_A K) mo w0 sz σ) 0 0 0 [(0, .ref mo), (1, .int (nI a)), (2, .int (nI b)), (3, .int (nI s)), (4, .int (nI leg)), (5, .int n)] []
  refine zg_iload_n F 1 rfl rfl dM_hand_0 ?_
  refine zg_callS F (zM_isFour _ _ _ _ _ _) zv_M_isFour zu_M_isFour zk_632 rfl ⟨by decide, by decide⟩ ⟨by decide, by decide⟩ rfl (Nat.le_of_ble_eq_true rfl) dM_hand_1 ?_
  refine zg_eqi (y := nI 1) (zb_t (zz4_of ha)) ?_
  refine zg_if_eqF F dM_hand_4 (tgt := 33) (by decide) (by decide) ?_
  refine zg_iload_n F 2 rfl rfl dM_hand_7 ?_
  refine zg_callS F (zM_isFour _ _ _ _ _ _) zv_M_isFour zu_M_isFour zk_632 rfl ⟨by decide, by decide⟩ ⟨by decide, by decide⟩ rfl (Nat.le_of_ble_eq_true rfl) dM_hand_8 ?_
  refine zg_eqi (y := nI 1) (zb_t (zz4_of hb)) ?_
  refine zg_if_eqF F dM_hand_11 (tgt := 33) (by decide) (by decide) ?_
  refine zg_iload_n F 3 rfl rfl dM_hand_14 ?_
  refine zg_callS F (zM_isFour _ _ _ _ _ _) zv_M_isFour zu_M_isFour zk_632 rfl ⟨by decide, by decide⟩ ⟨by decide, by decide⟩ rfl (Nat.le_of_ble_eq_true rfl) dM_hand_15 ?_
  refine zg_eqi (y := nI 1) (zb_t (zz4_of hs)) ?_
  refine zg_if_eqF F dM_hand_18 (tgt := 33) (by decide) (by decide) ?_
  refine zg_iload F 4 rfl dM_hand_21 ?_
  refine zg_callS F (zM_isFour _ _ _ _ _ _) zv_M_isFour zu_M_isFour zk_632 rfl ⟨by decide, by decide⟩ ⟨by decide, by decide⟩ rfl (Nat.le_of_ble_eq_true rfl) dM_hand_23 ?_
  refine zg_eqi (y := nI 1) (zb_t (zz4_of hg)) ?_
  refine zg_if_eqF F dM_hand_26 (tgt := 33) (by decide) (by decide) ?_
  refine zg_iconst F (v := nI 1) (by decide) dM_hand_29 ?_
  refine zg_goto F (tgt := 34) dM_hand_30 (by decide) ?_
  refine zg_istore F (by rw [hn]; decide) (L' := [(6, _), (0, _), (1, _), (2, _), (3, _), (4, _), (5, _)]) rfl dM_hand_34 ?_
  refine zg_aload_n F 1 rfl rfl dM_hand_36 ?_
  refine zg_iload F 0 rfl dM_hand_37 ?_
  refine zg_if_neT F (tgt := 46) dM_hand_39 (by decide) (by decide) ?_
  refine zg_iload_n F 2 rfl rfl dM_hand_46 ?_
  refine zg_iload_n F 3 rfl rfl dM_hand_47 ?_
  by_cases h1 : a = b
  · refine zg_icmp_eqT F (tgt := 64) dM_hand_48 (by decide) (by rw [h1]) ?_
    refine zg_iconst F (v := nI 2) (by decide) dM_hand_64 ?_
    refine zg_goto F (tgt := 88) dM_hand_65 (by decide) ?_
    have hc : zc_hand a b bx n = 2 := if_pos (Or.inl h1)
    rw [zo_hand, hc, if_neg (by decide)] at E
    refine zg_callV F (zM_refused _ _ _ _ _ _ _ _ _) zv_M_refused zu_M_refused zk_635 (fun _ _ h => h.2.1.1) rfl rfl ⟨by decide, by decide⟩ ⟨by decide, by decide⟩ rfl (Nat.le_of_ble_eq_true rfl) dM_hand_88 ?_
    refine zg_eqi (zb_1 (by omega) (by omega)) ?_
    refine zg_if_eqF F dM_hand_91 (tgt := 96) (by decide) (by decide) ?_
    refine zg_iconst F (v := nI 0) (by decide) dM_hand_94 ?_
    exact zg_iret F E (Nat.zero_le _) (Nat.zero_le _) (fun _ _ h => h) dM_hand_95
  · refine zg_icmp_eqF F dM_hand_48 (tgt := 64) (by decide) (fun q => h1 ((nI_eq (by omega) (by omega)).mp q)) ?_
    refine zg_iload F 6 rfl dM_hand_51 ?_
    refine zg_iconst F (v := nI 1) (by decide) dM_hand_53 ?_
    by_cases h2 : n < nI 1
    · refine zg_icmp_ltT F (tgt := 64) dM_hand_54 (by decide) (h2) ?_
      refine zg_iconst F (v := nI 2) (by decide) dM_hand_64 ?_
      refine zg_goto F (tgt := 88) dM_hand_65 (by decide) ?_
      have hc : zc_hand a b bx n = 2 := if_pos (Or.inr (Or.inl h2))
      rw [zo_hand, hc, if_neg (by decide)] at E
      refine zg_callV F (zM_refused _ _ _ _ _ _ _ _ _) zv_M_refused zu_M_refused zk_635 (fun _ _ h => h.2.1.1) rfl rfl ⟨by decide, by decide⟩ ⟨by decide, by decide⟩ rfl (Nat.le_of_ble_eq_true rfl) dM_hand_88 ?_
      refine zg_eqi (zb_1 (by omega) (by omega)) ?_
      refine zg_if_eqF F dM_hand_91 (tgt := 96) (by decide) (by decide) ?_
      refine zg_iconst F (v := nI 0) (by decide) dM_hand_94 ?_
      exact zg_iret F E (Nat.zero_le _) (Nat.zero_le _) (fun _ _ h => h) dM_hand_95
    · refine zg_icmp_ltF F dM_hand_54 (tgt := 64) (by decide) (h2) ?_
      refine zg_iload F 6 rfl dM_hand_57 ?_
      refine zg_bipush F (v := nI 100) (by decide) dM_hand_59 ?_
      by_cases h3 : nI 100 < n
      · refine zg_icmp_leF F dM_hand_61 (tgt := 68) (by decide) (Int32.not_le.mpr h3) ?_
        refine zg_iconst F (v := nI 2) (by decide) dM_hand_64 ?_
        refine zg_goto F (tgt := 88) dM_hand_65 (by decide) ?_
        have hc : zc_hand a b bx n = 2 := if_pos (Or.inr (Or.inr h3))
        rw [zo_hand, hc, if_neg (by decide)] at E
        refine zg_callV F (zM_refused _ _ _ _ _ _ _ _ _) zv_M_refused zu_M_refused zk_635 (fun _ _ h => h.2.1.1) rfl rfl ⟨by decide, by decide⟩ ⟨by decide, by decide⟩ rfl (Nat.le_of_ble_eq_true rfl) dM_hand_88 ?_
        refine zg_eqi (zb_1 (by omega) (by omega)) ?_
        refine zg_if_eqF F dM_hand_91 (tgt := 96) (by decide) (by decide) ?_
        refine zg_iconst F (v := nI 0) (by decide) dM_hand_94 ?_
        exact zg_iret F E (Nat.zero_le _) (Nat.zero_le _) (fun _ _ h => h) dM_hand_95
      · refine zg_icmp_leT F (tgt := 68) dM_hand_61 (by decide) (Int32.not_lt.mp h3) ?_
        refine zg_aload_n F 1 rfl rfl dM_hand_68 ?_
        refine zg_get F (fun _ _ h => h.2.1.1) rfl zi_M 19 (by decide) rfl zk_557 rfl dM_hand_69 ?_
        refine zg_iconst F (v := nI 4) (by decide) dM_hand_72 ?_
        refine zg_iload_n F 2 rfl rfl dM_hand_73 ?_
        refine zg_imul F (by first | exact pk_mul _ _ | rfl) dM_hand_74 ?_
        refine zg_iload_n F 3 rfl rfl dM_hand_75 ?_
        refine zg_iadd F (by first | exact nI_add _ _ | rfl) dM_hand_76 ?_
        refine zm_iald F 16 (by decide) rfl (by show _ < 16; omega) rfl dM_hand_77 ?_
        refine zg_eqi (he) ?_
        refine zg_bipush F (v := nI 8) (by decide) dM_hand_78 ?_
        by_cases h4 : bx = 8
        · refine zg_icmp_neF F dM_hand_80 (tgt := 87) (by decide) (by rw [h4]) ?_
          refine zg_iconst F (v := nI 3) (by decide) dM_hand_83 ?_
          refine zg_goto F (tgt := 88) dM_hand_84 (by decide) ?_
          have hc : zc_hand a b bx n = 3 := by rw [zc_hand, if_neg (fun q => q.elim h1 (fun q => q.elim h2 h3)), if_pos h4]
          rw [zo_hand, hc, if_neg (by decide)] at E
          refine zg_callV F (zM_refused _ _ _ _ _ _ _ _ _) zv_M_refused zu_M_refused zk_635 (fun _ _ h => h.2.1.1) rfl rfl ⟨by decide, by decide⟩ ⟨by decide, by decide⟩ rfl (Nat.le_of_ble_eq_true rfl) dM_hand_88 ?_
          refine zg_eqi (zb_1 (by omega) (by omega)) ?_
          refine zg_if_eqF F dM_hand_91 (tgt := 96) (by decide) (by decide) ?_
          refine zg_iconst F (v := nI 0) (by decide) dM_hand_94 ?_
          exact zg_iret F E (Nat.zero_le _) (Nat.zero_le _) (fun _ _ h => h) dM_hand_95
        · refine zg_icmp_neT F (tgt := 87) dM_hand_80 (by decide) (fun q => h4 ((nI_eq (by omega) (by omega)).mp q)) ?_
          refine zg_iconst F (v := nI 0) (by decide) dM_hand_87 ?_
          have hc : zc_hand a b bx n = 0 := by rw [zc_hand, if_neg (fun q => q.elim h1 (fun q => q.elim h2 h3)), if_neg h4]
          rw [zo_hand, hc, if_pos rfl] at E
          refine zg_callV F (zM_refused _ _ _ _ _ _ _ _ _) zv_M_refused zu_M_refused zk_635 (fun _ _ h => h.2.1.1) rfl rfl ⟨by decide, by decide⟩ ⟨by decide, by decide⟩ rfl (Nat.le_of_ble_eq_true rfl) dM_hand_88 ?_
          refine zg_eqi zb_0 ?_
          refine zg_if_eqT F (tgt := 96) dM_hand_91 (by decide) (rfl) ?_
          refine zg_aload_n F 1 rfl rfl dM_hand_96 ?_
          refine zg_get F (fun _ _ h => h.2.1.1) rfl zi_M 3 (by decide) rfl zk_541 rfl dM_hand_97 ?_
          refine zg_bipush F (v := nI 16) (by decide) dM_hand_100 ?_
          refine zg_iload_n F 2 rfl rfl dM_hand_102 ?_
          refine zg_imul F (by first | exact pk_mul _ _ | rfl) dM_hand_103 ?_
          refine zg_iconst F (v := nI 4) (by decide) dM_hand_104 ?_
          refine zg_iload_n F 4 rfl rfl dM_hand_105 ?_
          refine zg_imul F (by first | exact pk_mul _ _ | rfl) dM_hand_106 ?_
          refine zg_iadd F (by first | exact nI_add _ _ | rfl) dM_hand_107 ?_
          refine zg_iload F 5 rfl dM_hand_108 ?_
          refine zg_iadd F (by first | exact nI_add _ _ | rfl) dM_hand_110 ?_
          refine zm_iald F 2 (by decide) rfl (by show _ < 64; omega) rfl dM_hand_111 ?_
          refine zg_iload F 6 rfl dM_hand_112 ?_
          by_cases h5 : σ.1 2 (16 * a + 4 * s + leg) < n
          · rw [if_pos h5] at E
            refine zg_icmp_geF F dM_hand_114 (tgt := 121) (by decide) (Int32.not_le.mpr h5) ?_
            refine zg_iconst F (v := -1) (by decide) dM_hand_117 ?_
            refine zg_goto F (tgt := 135) dM_hand_118 (by decide) ?_
            exact zg_iret F E (Nat.zero_le _) (Nat.zero_le _) (fun _ _ h => h) dM_hand_135
          · rw [if_neg h5] at E
            refine zg_icmp_geT F (tgt := 121) dM_hand_114 (by decide) (Int32.not_lt.mp h5) ?_
            refine zg_aload_n F 1 rfl rfl dM_hand_121 ?_
            refine zg_iload_n F 2 rfl rfl dM_hand_122 ?_
            refine zg_iload_n F 3 rfl rfl dM_hand_123 ?_
            refine zg_iconst F (v := nI 4) (by decide) dM_hand_124 ?_
            refine zg_iload_n F 4 rfl rfl dM_hand_125 ?_
            refine zg_imul F (by first | exact pk_mul _ _ | rfl) dM_hand_126 ?_
            refine zg_iload F 5 rfl dM_hand_127 ?_
            refine zg_iadd F (by first | exact nI_add _ _ | rfl) dM_hand_129 ?_
            refine zg_iload F 6 rfl dM_hand_130 ?_
            refine zg_callV F (zM_enclose _ _ _ _ _ _ _ (zm_f σ 0) a b (4 * s + leg) bx n ha hb (by omega) (by omega) he) zv_M_enclose zu_M_enclose zk_700 (fun _ _ h => h.2.1.1) rfl rfl ⟨by decide, by decide⟩ ⟨by decide, by decide⟩ rfl (Nat.le_of_ble_eq_true rfl) dM_hand_132 ?_
            exact zg_iret F E (Nat.zero_le _) (Nat.zero_le _) (fun _ _ h => h) dM_hand_135
set_option maxRecDepth 100000 in
set_option maxHeartbeats 4000000 in
theorem zM_send_bad (l : Launch) (D : va_G) (A : Nat → ClassId) (base : Nat) (mo sz : Nat) (w0 : zg_w) (σ : zm_S) (a b : Int32) (c : Nat) (hc : zc_wrong a b = c) (h0 : 0 < c) (h3 : c < 3) : zg_Met l zm_M_send zc_M_send 4 (some .int) 2 0 0 D A base [.ref mo, .int a, .int b] (zm_P A mo w0 sz σ) (some (.int (nI 0))) (zm_P A mo w0 sz (zm_f σ c)) := by
  refine zg_met (by decide) (Nat.le_of_ble_eq_true rfl) ?_
  intro K hl hD hA hz hn hnm F E
  subst hl hD hA hz
  show zg_G K (zm_P (zk_A K) mo w0 sz σ) 0 0 0 [(0, .ref mo), (1, .int a), (2, .int b)] []
  subst hc
  refine zg_aload_n F 0 rfl rfl dM_send_0 ?_
  refine zg_iload_n F 1 rfl rfl dM_send_1 ?_
  refine zg_iload_n F 2 rfl rfl dM_send_2 ?_
  refine zg_callS F (zM_wrong _ _ _ _ _ _ _) zv_M_wrong zu_M_wrong zk_708 rfl ⟨by decide, by decide⟩ ⟨by decide, by decide⟩ rfl (Nat.le_of_ble_eq_true rfl) dM_send_3 ?_
  refine zg_callV F (zM_refused _ _ _ _ _ _ _ _ _) zv_M_refused zu_M_refused zk_635 (fun _ _ h => h.2.1.1) rfl rfl ⟨by decide, by decide⟩ ⟨by decide, by decide⟩ rfl (Nat.le_of_ble_eq_true rfl) dM_send_6 ?_
  refine zg_eqi (zb_1 (by omega) (by omega)) ?_
  refine zg_if_eqF F dM_send_9 (tgt := 14) (by decide) (by decide) ?_
  refine zg_iconst F (v := nI 0) (by decide) dM_send_12 ?_
  exact zg_iret F E (Nat.zero_le _) (Nat.zero_le _) (fun _ _ h => h) dM_send_13
set_option maxRecDepth 100000 in
set_option maxHeartbeats 4000000 in
theorem zM_arrive_bad (l : Launch) (D : va_G) (A : Nat → ClassId) (base : Nat) (mo sz : Nat) (w0 : zg_w) (σ : zm_S) (a b : Int32) (c : Nat) (hc : zc_wrong a b = c) (h0 : 0 < c) (h3 : c < 3) : zg_Met l zm_M_arrive zc_M_arrive 6 (some .int) 2 0 0 D A base [.ref mo, .int a, .int b] (zm_P A mo w0 sz σ) (some (.int (nI 0))) (zm_P A mo w0 sz (zm_f σ c)) := by
  refine zg_met (by decide) (Nat.le_of_ble_eq_true rfl) ?_
  intro K hl hD hA hz hn hnm F E
  subst hl hD hA hz
  show zg_G K (zm_P (zk_A K) mo w0 sz σ) 0 0 0 [(0, .ref mo), (1, .int a), (2, .int b)] []
  subst hc
  refine zg_aload_n F 0 rfl rfl dM_arrive_0 ?_
  refine zg_iload_n F 1 rfl rfl dM_arrive_1 ?_
  refine zg_iload_n F 2 rfl rfl dM_arrive_2 ?_
  refine zg_callS F (zM_wrong _ _ _ _ _ _ _) zv_M_wrong zu_M_wrong zk_708 rfl ⟨by decide, by decide⟩ ⟨by decide, by decide⟩ rfl (Nat.le_of_ble_eq_true rfl) dM_arrive_3 ?_
  refine zg_callV F (zM_refused _ _ _ _ _ _ _ _ _) zv_M_refused zu_M_refused zk_635 (fun _ _ h => h.2.1.1) rfl rfl ⟨by decide, by decide⟩ ⟨by decide, by decide⟩ rfl (Nat.le_of_ble_eq_true rfl) dM_arrive_6 ?_
  refine zg_eqi (zb_1 (by omega) (by omega)) ?_
  refine zg_if_eqF F dM_arrive_9 (tgt := 14) (by decide) (by decide) ?_
  refine zg_iconst F (v := nI 0) (by decide) dM_arrive_12 ?_
  exact zg_iret F E (Nat.zero_le _) (Nat.zero_le _) (fun _ _ h => h) dM_arrive_13
set_option maxRecDepth 100000 in
set_option maxHeartbeats 4000000 in
theorem zM_receipt_bad (l : Launch) (D : va_G) (A : Nat → ClassId) (base : Nat) (mo sz : Nat) (w0 : zg_w) (σ : zm_S) (a b : Int32) (c : Nat) (hc : zc_wrong a b = c) (h0 : 0 < c) (h3 : c < 3) : zg_Met l zm_M_receipt zc_M_receipt 8 (some .int) 2 0 0 D A base [.ref mo, .int a, .int b] (zm_P A mo w0 sz σ) (some (.int (nI 0))) (zm_P A mo w0 sz (zm_f σ c)) := by
  refine zg_met (by decide) (Nat.le_of_ble_eq_true rfl) ?_
  intro K hl hD hA hz hn hnm F E
  subst hl hD hA hz
  show zg_G K (zm_P (zk_A K) mo w0 sz σ) 0 0 0 [(0, .ref mo), (1, .int a), (2, .int b)] []
  subst hc
  refine zg_aload_n F 0 rfl rfl dM_receipt_0 ?_
  refine zg_iload_n F 1 rfl rfl dM_receipt_1 ?_
  refine zg_iload_n F 2 rfl rfl dM_receipt_2 ?_
  refine zg_callS F (zM_wrong _ _ _ _ _ _ _) zv_M_wrong zu_M_wrong zk_708 rfl ⟨by decide, by decide⟩ ⟨by decide, by decide⟩ rfl (Nat.le_of_ble_eq_true rfl) dM_receipt_3 ?_
  refine zg_callV F (zM_refused _ _ _ _ _ _ _ _ _) zv_M_refused zu_M_refused zk_635 (fun _ _ h => h.2.1.1) rfl rfl ⟨by decide, by decide⟩ ⟨by decide, by decide⟩ rfl (Nat.le_of_ble_eq_true rfl) dM_receipt_6 ?_
  refine zg_eqi (zb_1 (by omega) (by omega)) ?_
  refine zg_if_eqF F dM_receipt_9 (tgt := 14) (by decide) (by decide) ?_
  refine zg_iconst F (v := nI 0) (by decide) dM_receipt_12 ?_
  exact zg_iret F E (Nat.zero_le _) (Nat.zero_le _) (fun _ _ h => h) dM_receipt_13
set_option maxRecDepth 100000 in
set_option maxHeartbeats 4000000 in
theorem zM_lose_bad (l : Launch) (D : va_G) (A : Nat → ClassId) (base : Nat) (mo sz : Nat) (w0 : zg_w) (σ : zm_S) (a b : Int32) (c : Nat) (hc : zc_wrong a b = c) (h0 : 0 < c) (h3 : c < 3) : zg_Met l zm_M_lose zc_M_lose 3 (some .int) 2 0 0 D A base [.ref mo, .int a, .int b] (zm_P A mo w0 sz σ) (some (.int (nI 0))) (zm_P A mo w0 sz (zm_f σ c)) := by
  refine zg_met (by decide) (Nat.le_of_ble_eq_true rfl) ?_
  intro K hl hD hA hz hn hnm F E
  subst hl hD hA hz
  show zg_G K (zm_P (zk_A K) mo w0 sz σ) 0 0 0 [(0, .ref mo), (1, .int a), (2, .int b)] []
  subst hc
  refine zg_aload_n F 0 rfl rfl dM_lose_0 ?_
  refine zg_iload_n F 1 rfl rfl dM_lose_1 ?_
  refine zg_iload_n F 2 rfl rfl dM_lose_2 ?_
  refine zg_callS F (zM_wrong _ _ _ _ _ _ _) zv_M_wrong zu_M_wrong zk_708 rfl ⟨by decide, by decide⟩ ⟨by decide, by decide⟩ rfl (Nat.le_of_ble_eq_true rfl) dM_lose_3 ?_
  refine zg_callV F (zM_refused _ _ _ _ _ _ _ _ _) zv_M_refused zu_M_refused zk_635 (fun _ _ h => h.2.1.1) rfl rfl ⟨by decide, by decide⟩ ⟨by decide, by decide⟩ rfl (Nat.le_of_ble_eq_true rfl) dM_lose_6 ?_
  refine zg_eqi (zb_1 (by omega) (by omega)) ?_
  refine zg_if_eqF F dM_lose_9 (tgt := 16) (by decide) (by decide) ?_
  refine zg_iconst F (v := nI 0) (by decide) dM_lose_12 ?_
  refine zg_goto F (tgt := 25) dM_lose_13 (by decide) ?_
  exact zg_iret F E (Nat.zero_le _) (Nat.zero_le _) (fun _ _ h => h) dM_lose_25
theorem zc_wrong0 {a b : Nat} (ha : a < 4) (hb : b < 4) (hn : a ≠ b) : zc_wrong (nI a) (nI b) = 0 := by
  rw [zc_wrong, if_pos ⟨zz4_of ha, zz4_of hb⟩, if_neg (fun q => hn ((nI_eq (by omega) (by omega)).mp q))]
set_option maxRecDepth 100000 in
set_option maxHeartbeats 4000000 in
theorem zM_lose (l : Launch) (D : va_G) (A : Nat → ClassId) (base : Nat) (mo sz : Nat) (w0 : zg_w) (σ : zm_S) (a b : Nat) (ha : a < 4) (hb : b < 4) (hn0 : a ≠ b) : zg_Met l zm_M_lose zc_M_lose 3 (some .int) 2 0 0 D A base [.ref mo, .int (nI a), .int (nI b)] (zm_P A mo w0 sz σ) (some (.int (zm_loseN (zm_f σ 0) (4 * a + b)))) (zm_P A mo w0 sz (zm_lose1 (zm_f σ 0) (4 * a + b))) := by
  refine zg_met (by decide) (Nat.le_of_ble_eq_true rfl) ?_
  intro K hl hD hA hz hn hnm F E
  subst hl hD hA hz
  show zg_G K (zm_P (zk_A K) mo w0 sz σ) 0 0 0 [(0, .ref mo), (1, .int (nI a)), (2, .int (nI b))] []
  refine zg_aload_n F 0 rfl rfl dM_lose_0 ?_
  refine zg_iload_n F 1 rfl rfl dM_lose_1 ?_
  refine zg_iload_n F 2 rfl rfl dM_lose_2 ?_
  refine zg_callS F (zM_wrong _ _ _ _ _ _ _) zv_M_wrong zu_M_wrong zk_708 rfl ⟨by decide, by decide⟩ ⟨by decide, by decide⟩ rfl (Nat.le_of_ble_eq_true rfl) dM_lose_3 ?_
  refine zg_eqi (y := nI 0) (congrArg nI (zc_wrong0 ha hb hn0)) ?_
  refine zg_callV F (zM_refused _ _ _ _ _ _ _ _ _) zv_M_refused zu_M_refused zk_635 (fun _ _ h => h.2.1.1) rfl rfl ⟨by decide, by decide⟩ ⟨by decide, by decide⟩ rfl (Nat.le_of_ble_eq_true rfl) dM_lose_6 ?_
  refine zg_eqi zb_0 ?_
  refine zg_if_eqT F (tgt := 16) dM_lose_9 (by decide) (rfl) ?_
  refine zg_aload_n F 0 rfl rfl dM_lose_16 ?_
  refine zg_iconst F (v := nI 4) (by decide) dM_lose_17 ?_
  refine zg_iload_n F 1 rfl rfl dM_lose_18 ?_
  refine zg_imul F (by first | exact pk_mul _ _ | rfl) dM_lose_19 ?_
  refine zg_iload_n F 2 rfl rfl dM_lose_20 ?_
  refine zg_iadd F (by first | exact nI_add _ _ | rfl) dM_lose_21 ?_
  refine zg_callV F (zM_loseOne _ _ _ _ _ _ _ (zm_f σ 0) (4 * a + b) (by omega)) zv_M_loseOne zu_M_loseOne zk_727 (fun _ _ h => h.2.1.1) rfl rfl ⟨by decide, by decide⟩ ⟨by decide, by decide⟩ rfl (Nat.le_of_ble_eq_true rfl) dM_lose_22 ?_
  exact zg_iret F E (Nat.zero_le _) (Nat.zero_le _) (fun _ _ h => h) dM_lose_25
theorem zm_send_e {σ : zm_S} {p i j : Nat} {x y z : Int32} : (zm_set (zm_set (zm_set σ 17 p x) 23 i y) 24 j z).1 17 p = x := by rw [zm_set_o (by decide), zm_set_o (by decide), zm_set_s]
set_option maxRecDepth 100000 in
set_option maxHeartbeats 4000000 in
theorem zM_send (l : Launch) (D : va_G) (A : Nat → ClassId) (base : Nat) (mo sz : Nat) (w0 : zg_w) (σ : zm_S) (a b : Nat) (ha : a < 4) (hb : b < 4) (hn0 : a ≠ b) (bx : Nat) (hx : bx ≤ 8) (he : σ.1 16 (4 * a + b) = nI bx) : zg_Met l zm_M_send zc_M_send 4 (some .int) 2 0 0 D A base [.ref mo, .int (nI a), .int (nI b)] (zm_P A mo w0 sz σ) (some (.int (zo_send σ (4 * a + b) bx).2)) (zm_P A mo w0 sz (zo_send σ (4 * a + b) bx).1) := by
  refine zg_met (by decide) (Nat.le_of_ble_eq_true rfl) ?_
  intro K hl hD hA hz hn hnm F E
  subst hl hD hA hz
  show zg_G K (zm_P (zk_A K) mo w0 sz σ) 0 0 0 [(0, .ref mo), (1, .int (nI a)), (2, .int (nI b))] []
  refine zg_aload_n F 0 rfl rfl dM_send_0 ?_
  refine zg_iload_n F 1 rfl rfl dM_send_1 ?_
  refine zg_iload_n F 2 rfl rfl dM_send_2 ?_
  refine zg_callS F (zM_wrong _ _ _ _ _ _ _) zv_M_wrong zu_M_wrong zk_708 rfl ⟨by decide, by decide⟩ ⟨by decide, by decide⟩ rfl (Nat.le_of_ble_eq_true rfl) dM_send_3 ?_
  refine zg_eqi (y := nI 0) (congrArg nI (zc_wrong0 ha hb hn0)) ?_
  refine zg_callV F (zM_refused _ _ _ _ _ _ _ _ _) zv_M_refused zu_M_refused zk_635 (fun _ _ h => h.2.1.1) rfl rfl ⟨by decide, by decide⟩ ⟨by decide, by decide⟩ rfl (Nat.le_of_ble_eq_true rfl) dM_send_6 ?_
  refine zg_eqi zb_0 ?_
  refine zg_if_eqT F (tgt := 14) dM_send_9 (by decide) (rfl) ?_
  refine zg_iconst F (v := nI 4) (by decide) dM_send_14 ?_
  refine zg_iload_n F 1 rfl rfl dM_send_15 ?_
  refine zg_imul F (by first | exact pk_mul _ _ | rfl) dM_send_16 ?_
  refine zg_iload_n F 2 rfl rfl dM_send_17 ?_
  refine zg_iadd F (by first | exact nI_add _ _ | rfl) dM_send_18 ?_
  refine zg_istore_n F rfl (by rw [hn]; decide) (L' := [(3, _), (0, _), (1, _), (2, _)]) rfl dM_send_19 ?_
  refine zg_aload_n F 1 rfl rfl dM_send_20 ?_
  refine zg_get F (fun _ _ h => h.2.1.1) rfl zi_M 19 (by decide) rfl zk_557 rfl dM_send_21 ?_
  refine zg_iload_n F 0 rfl rfl dM_send_24 ?_
  refine zm_iald F 16 (by decide) rfl (by show _ < 16; omega) rfl dM_send_25 ?_
  refine zg_eqi (he) ?_
  by_cases h1 : bx = 0
  · rw [zo_send, if_pos h1] at E
    refine zg_if_neF F dM_send_26 (tgt := 31) (by decide) (by rw [h1]; rfl) ?_
    refine zg_iconst F (v := nI 0) (by decide) dM_send_29 ?_
    exact zg_iret F E (Nat.zero_le _) (Nat.zero_le _) (fun _ _ h => h) dM_send_30
  · rw [zo_send, if_neg h1] at E
    refine zg_if_neT F (tgt := 31) dM_send_26 (by decide) (nI_ne0 (by omega) (by omega)) ?_
    refine zg_aload_n F 1 rfl rfl dM_send_31 ?_
    refine zg_get F (fun _ _ h => h.2.1.1) rfl zi_M 20 (by decide) rfl zk_558 rfl dM_send_32 ?_
    refine zg_iload_n F 0 rfl rfl dM_send_35 ?_
    refine zg_aload_n F 1 rfl rfl dM_send_36 ?_
    refine zg_get F (fun _ _ h => h.2.1.1) rfl zi_M 23 (by decide) rfl zk_561 rfl dM_send_37 ?_
    refine zg_bipush F (v := nI 8) (by decide) dM_send_40 ?_
    refine zg_iload_n F 0 rfl rfl dM_send_42 ?_
    refine zg_imul F (by first | exact pk_mul _ _ | rfl) dM_send_43 ?_
    refine zm_iald F 20 (by decide) rfl (by show _ < 128; omega) rfl dM_send_44 ?_
    refine zm_iast F 17 (by decide) rfl (by show _ < 16; omega) dM_send_45 ?_
    refine zg_aload_n F 1 rfl rfl dM_send_46 ?_
    refine zg_get F (fun _ _ h => h.2.1.1) rfl zi_M 26 (by decide) rfl zk_564 rfl dM_send_47 ?_
    refine zg_iload_n F 0 rfl rfl dM_send_50 ?_
    refine zg_aload_n F 1 rfl rfl dM_send_51 ?_
    refine zg_get F (fun _ _ h => h.2.1.1) rfl zi_M 24 (by decide) rfl zk_562 rfl dM_send_52 ?_
    refine zg_bipush F (v := nI 8) (by decide) dM_send_55 ?_
    refine zg_iload_n F 0 rfl rfl dM_send_57 ?_
    refine zg_imul F (by first | exact pk_mul _ _ | rfl) dM_send_58 ?_
    refine zm_iald F 21 (by decide) rfl (by show _ < 128; omega) rfl dM_send_59 ?_
    refine zm_iast F 23 (by decide) rfl (by show _ < 16; omega) dM_send_60 ?_
    refine zg_aload_n F 1 rfl rfl dM_send_61 ?_
    refine zg_get F (fun _ _ h => h.2.1.1) rfl zi_M 27 (by decide) rfl zk_565 rfl dM_send_62 ?_
    refine zg_iload_n F 0 rfl rfl dM_send_65 ?_
    refine zg_aload_n F 1 rfl rfl dM_send_66 ?_
    refine zg_get F (fun _ _ h => h.2.1.1) rfl zi_M 25 (by decide) rfl zk_563 rfl dM_send_67 ?_
    refine zg_bipush F (v := nI 8) (by decide) dM_send_70 ?_
    refine zg_iload_n F 0 rfl rfl dM_send_72 ?_
    refine zg_imul F (by first | exact pk_mul _ _ | rfl) dM_send_73 ?_
    refine zm_iald F 22 (by decide) rfl (by show _ < 128; omega) rfl dM_send_74 ?_
    refine zm_iast F 24 (by decide) rfl (by show _ < 16; omega) dM_send_75 ?_
    refine zg_aload_n F 1 rfl rfl dM_send_76 ?_
    refine zg_get F (fun _ _ h => h.2.1.1) rfl zi_M 20 (by decide) rfl zk_558 rfl dM_send_77 ?_
    refine zg_iload_n F 0 rfl rfl dM_send_80 ?_
    refine zm_iald F 17 (by decide) rfl (by show _ < 16; omega) rfl dM_send_81 ?_
    refine zg_eqi (zm_send_e) ?_
    exact zg_iret F E (Nat.zero_le _) (Nat.zero_le _) (fun _ _ h => h) dM_send_82
set_option maxRecDepth 100000 in
set_option maxHeartbeats 4000000 in
theorem zM_arrive (l : Launch) (D : va_G) (A : Nat → ClassId) (base : Nat) (mo sz : Nat) (w0 : zg_w) (σ : zm_S) (a b : Nat) (ha : a < 4) (hb : b < 4) (hn0 : a ≠ b) (lg T had : Nat) (hl : lg < 16) (hT8 : T ≤ 80) (hh : had ≤ 6) (hT : σ.1 25 2 = nI T) (hg : σ.1 23 (4 * a + b) = nI lg) (hw : σ.1 12 b = nI had) (hp : ∀ k, k < had → ∃ p, p ≤ 4 ∧ σ.1 14 (6 * b + k) = nI p) : zg_Met l zm_M_arrive zc_M_arrive 6 (some .int) 4 0 0 D A base [.ref mo, .int (nI a), .int (nI b)] (zm_P A mo w0 sz σ) (some (.int (zo_arrive σ (4 * a + b) b lg T had).2)) (zm_P A mo w0 sz (zo_arrive σ (4 * a + b) b lg T had).1) := by
  refine zg_met (by decide) (Nat.le_of_ble_eq_true rfl) ?_
  intro K hl0 hD hA hz hn hnm F E
  subst hl0 hD hA hz
  show zg_G K (zm_P (zk_A K) mo w0 sz σ) 0 0 0 [(0, .ref mo), (1, .int (nI a)), (2, .int (nI b))] []
  refine zg_aload_n F 0 rfl rfl dM_arrive_0 ?_
  refine zg_iload_n F 1 rfl rfl dM_arrive_1 ?_
  refine zg_iload_n F 2 rfl rfl dM_arrive_2 ?_
  refine zg_callS F (zM_wrong _ _ _ _ _ _ _) zv_M_wrong zu_M_wrong zk_708 rfl ⟨by decide, by decide⟩ ⟨by decide, by decide⟩ rfl (Nat.le_of_ble_eq_true rfl) dM_arrive_3 ?_
  refine zg_eqi (y := nI 0) (congrArg nI (zc_wrong0 ha hb hn0)) ?_
  refine zg_callV F (zM_refused _ _ _ _ _ _ _ _ _) zv_M_refused zu_M_refused zk_635 (fun _ _ h => h.2.1.1) rfl rfl ⟨by decide, by decide⟩ ⟨by decide, by decide⟩ rfl (Nat.le_of_ble_eq_true rfl) dM_arrive_6 ?_
  refine zg_eqi zb_0 ?_
  refine zg_if_eqT F (tgt := 14) dM_arrive_9 (by decide) (rfl) ?_
  refine zg_iconst F (v := nI 4) (by decide) dM_arrive_14 ?_
  refine zg_iload_n F 1 rfl rfl dM_arrive_15 ?_
  refine zg_imul F (by first | exact pk_mul _ _ | rfl) dM_arrive_16 ?_
  refine zg_iload_n F 2 rfl rfl dM_arrive_17 ?_
  refine zg_iadd F (by first | exact nI_add _ _ | rfl) dM_arrive_18 ?_
  refine zg_istore_n F rfl (by rw [hn]; decide) (L' := [(3, _), (0, _), (1, _), (2, _)]) rfl dM_arrive_19 ?_
  refine zg_aload_n F 1 rfl rfl dM_arrive_20 ?_
  refine zg_get F (fun _ _ h => h.2.1.1) rfl zi_M 20 (by decide) rfl zk_558 rfl dM_arrive_21 ?_
  refine zg_iload_n F 0 rfl rfl dM_arrive_24 ?_
  refine zm_iald F 17 (by decide) rfl (by show _ < 16; omega) rfl dM_arrive_25 ?_
  refine zg_istore F (by rw [hn]; decide) (L' := [(4, _), (3, _), (0, _), (1, _), (2, _)]) rfl dM_arrive_26 ?_
  refine zg_iload F 0 rfl dM_arrive_28 ?_
  by_cases h1 : σ.1 17 (4 * a + b) = 0
  · rw [zo_arrive, if_pos h1] at E
    refine zg_if_neF F dM_arrive_30 (tgt := 35) (by decide) (h1) ?_
    refine zg_iconst F (v := -1) (by decide) dM_arrive_33 ?_
    exact zg_iret F E (Nat.zero_le _) (Nat.zero_le _) (fun _ _ h => h) dM_arrive_34
  · rw [zo_arrive, if_neg h1] at E
    refine zg_if_neT F (tgt := 35) dM_arrive_30 (by decide) (h1) ?_
    refine zg_aload_n F 2 rfl rfl dM_arrive_35 ?_
    refine zg_get F (fun _ _ h => h.2.1.1) rfl zi_M 20 (by decide) rfl zk_558 rfl dM_arrive_36 ?_
    refine zg_iload_n F 1 rfl rfl dM_arrive_39 ?_
    refine zg_iconst F (v := nI 0) (by decide) dM_arrive_40 ?_
    refine zm_iast F 17 (by decide) rfl (by show _ < 16; omega) dM_arrive_41 ?_
    refine zg_iconst F (v := nI 0) (by decide) dM_arrive_42 ?_
    refine zg_istore F (by rw [hn]; decide) (L' := [(5, _), (4, _), (3, _), (0, _), (1, _), (2, _)]) rfl dM_arrive_43 ?_
    refine zg_iload F 1 rfl dM_arrive_45 ?_
    refine zg_aload_n F 3 rfl rfl dM_arrive_47 ?_
    refine zg_get F (fun _ _ h => h.2.1.1) rfl zi_M 21 (by decide) rfl zk_559 rfl dM_arrive_48 ?_
    refine zg_iload_n F 2 rfl rfl dM_arrive_51 ?_
    refine zm_iald F 18 (by decide) rfl (by show _ < 16; omega) rfl dM_arrive_52 ?_
    refine zg_iconst F (v := nI 1) (by decide) dM_arrive_53 ?_
    refine zg_iadd F (by first | exact nI_add _ _ | rfl) dM_arrive_54 ?_
    by_cases h2 : σ.1 17 (4 * a + b) = σ.1 18 (4 * a + b) + nI 1
    · rw [if_pos h2] at E
      refine zg_icmp_neF F dM_arrive_55 (tgt := 112) (by decide) (h2) ?_
      refine zg_aload_n F 3 rfl rfl dM_arrive_58 ?_
      refine zg_get F (fun _ _ h => h.2.1.1) rfl zi_M 21 (by decide) rfl zk_559 rfl dM_arrive_59 ?_
      refine zg_iload_n F 2 rfl rfl dM_arrive_62 ?_
      refine zg_iload F 1 rfl dM_arrive_63 ?_
      refine zm_iast F 18 (by decide) rfl (by show _ < 16; omega) dM_arrive_65 ?_
      refine zg_aload_n F 3 rfl rfl dM_arrive_66 ?_
      refine zg_get F (fun _ _ h => h.2.1.1) rfl zi_M 3 (by decide) rfl zk_541 rfl dM_arrive_67 ?_
      refine zg_bipush F (v := nI 16) (by decide) dM_arrive_70 ?_
      refine zg_iload_n F 5 rfl rfl dM_arrive_72 ?_
      refine zg_imul F (by first | exact pk_mul _ _ | rfl) dM_arrive_73 ?_
      refine zg_aload_n F 3 rfl rfl dM_arrive_74 ?_
      refine zg_get F (fun _ _ h => h.2.1.1) rfl zi_M 26 (by decide) rfl zk_564 rfl dM_arrive_75 ?_
      refine zg_iload_n F 2 rfl rfl dM_arrive_78 ?_
      refine zm_iald F 23 (by decide) rfl (by show _ < 16; omega) rfl dM_arrive_79 ?_
      refine zg_eqi (hg) ?_
      refine zg_iadd F (by first | exact nI_add _ _ | rfl) dM_arrive_80 ?_
      refine zg_aload_n F 3 rfl rfl dM_arrive_81 ?_
      refine zg_get F (fun _ _ h => h.2.1.1) rfl zi_M 3 (by decide) rfl zk_541 rfl dM_arrive_82 ?_
      refine zg_bipush F (v := nI 16) (by decide) dM_arrive_85 ?_
      refine zg_iload_n F 5 rfl rfl dM_arrive_87 ?_
      refine zg_imul F (by first | exact pk_mul _ _ | rfl) dM_arrive_88 ?_
      refine zg_aload_n F 3 rfl rfl dM_arrive_89 ?_
      refine zg_get F (fun _ _ h => h.2.1.1) rfl zi_M 26 (by decide) rfl zk_564 rfl dM_arrive_90 ?_
      refine zg_iload_n F 2 rfl rfl dM_arrive_93 ?_
      refine zm_iald F 23 (by decide) rfl (by show _ < 16; omega) rfl dM_arrive_94 ?_
      refine zg_eqi (hg) ?_
      refine zg_iadd F (by first | exact nI_add _ _ | rfl) dM_arrive_95 ?_
      refine zm_iald F 2 (by decide) rfl (by show _ < 64; omega) rfl dM_arrive_96 ?_
      refine zg_aload_n F 3 rfl rfl dM_arrive_97 ?_
      refine zg_get F (fun _ _ h => h.2.1.1) rfl zi_M 27 (by decide) rfl zk_565 rfl dM_arrive_98 ?_
      refine zg_iload_n F 2 rfl rfl dM_arrive_101 ?_
      refine zm_iald F 24 (by decide) rfl (by show _ < 16; omega) rfl dM_arrive_102 ?_
      refine zg_iadd F (by first | exact nI_add _ _ | rfl) dM_arrive_103 ?_
      refine zm_iast F 2 (by decide) rfl (by show _ < 64; omega) dM_arrive_104 ?_
      refine zg_aload_n F 3 rfl rfl dM_arrive_105 ?_
      refine zg_iload_n F 5 rfl rfl dM_arrive_106 ?_
      have s1 : (zm_tak σ (4 * a + b) b lg).1 12 b = nI had := hw
      have s2 : (zm_tak σ (4 * a + b) b lg).1 25 2 = nI T := hT
      have s3 : ∀ k, k < had → ∃ p, p ≤ 4 ∧ (zm_tak σ (4 * a + b) b lg).1 14 (6 * b + k) = nI p := hp
      refine zg_callV F (zM_serve _ _ _ _ _ _ _ (zm_tak σ (4 * a + b) b lg) T b had hb hh hT8 s1 s2 s3) zv_M_serve zu_M_serve zk_676 (fun _ _ h => h.2.1.1) rfl rfl ⟨by decide, by decide⟩ ⟨by decide, by decide⟩ rfl (Nat.le_of_ble_eq_true rfl) dM_arrive_107 ?_
      refine zg_istore F (by rw [hn]; decide) (L' := [(5, _), (4, _), (3, _), (0, _), (1, _), (2, _)]) rfl dM_arrive_110 ?_
      refine zg_aload_n F 3 rfl rfl dM_arrive_112 ?_
      refine zg_get F (fun _ _ h => h.2.1.1) rfl zi_M 22 (by decide) rfl zk_560 rfl dM_arrive_113 ?_
      refine zg_iload_n F 2 rfl rfl dM_arrive_116 ?_
      refine zg_aload_n F 3 rfl rfl dM_arrive_117 ?_
      refine zg_get F (fun _ _ h => h.2.1.1) rfl zi_M 21 (by decide) rfl zk_559 rfl dM_arrive_118 ?_
      refine zg_iload_n F 2 rfl rfl dM_arrive_121 ?_
      refine zm_iald F 18 (by decide) rfl (by show _ < 16; omega) rfl dM_arrive_122 ?_
      refine zm_iast F 19 (by decide) rfl (by show _ < 16; omega) dM_arrive_123 ?_
      refine zg_iload F 0 rfl dM_arrive_124 ?_
      exact zg_iret F E (Nat.zero_le _) (Nat.zero_le _) (fun _ _ h => h) dM_arrive_126
    · rw [if_neg h2] at E
      refine zg_icmp_neT F (tgt := 112) dM_arrive_55 (by decide) (h2) ?_
      refine zg_aload_n F 3 rfl rfl dM_arrive_112 ?_
      refine zg_get F (fun _ _ h => h.2.1.1) rfl zi_M 22 (by decide) rfl zk_560 rfl dM_arrive_113 ?_
      refine zg_iload_n F 2 rfl rfl dM_arrive_116 ?_
      refine zg_aload_n F 3 rfl rfl dM_arrive_117 ?_
      refine zg_get F (fun _ _ h => h.2.1.1) rfl zi_M 21 (by decide) rfl zk_559 rfl dM_arrive_118 ?_
      refine zg_iload_n F 2 rfl rfl dM_arrive_121 ?_
      refine zm_iald F 18 (by decide) rfl (by show _ < 16; omega) rfl dM_arrive_122 ?_
      refine zm_iast F 19 (by decide) rfl (by show _ < 16; omega) dM_arrive_123 ?_
      refine zg_iload F 0 rfl dM_arrive_124 ?_
      exact zg_iret F E (Nat.zero_le _) (Nat.zero_le _) (fun _ _ h => h) dM_arrive_126
