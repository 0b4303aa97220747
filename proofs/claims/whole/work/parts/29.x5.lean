theorem zt_iob : ∀ w ∈ vx_atS "IslandRights" 213 "java/lang/IndexOutOfBoundsException" zt_names, w ∈ zw_A ∨ (∃ x ∈ zn_decl, w = .declares x) ∨ ∃ q ∈ zn_cast, w = .castable q.1 q.2 := by decide +kernel
theorem zo_iob : ∀ w ∈ Cond.classLink "IslandRights" 209 "java/lang/IndexOutOfBoundsException" :: Cond.initialized "java/lang/IndexOutOfBoundsException" :: vx_atS "IslandRights" 213 "java/lang/IndexOutOfBoundsException" zt_names, vx_ot w = true := by decide +kernel
theorem zt_iae : ∀ w ∈ vx_atS "IslandRights" 83 "java/lang/IllegalArgumentException" zt_names, w ∈ zw_A ∨ (∃ x ∈ zn_decl, w = .declares x) ∨ ∃ q ∈ zn_cast, w = .castable q.1 q.2 := by decide +kernel
theorem zo_iae : ∀ w ∈ Cond.classLink "IslandRights" 79 "java/lang/IllegalArgumentException" :: Cond.initialized "java/lang/IllegalArgumentException" :: vx_atS "IslandRights" 83 "java/lang/IllegalArgumentException" zt_names, vx_ot w = true := by decide +kernel
theorem zt_ise : ∀ w ∈ vx_atS "IslandRights" 65 "java/lang/IllegalStateException" zt_names, w ∈ zw_A ∨ (∃ x ∈ zn_decl, w = .declares x) ∨ ∃ q ∈ zn_cast, w = .castable q.1 q.2 := by decide +kernel
theorem zo_ise : ∀ w ∈ Cond.classLink "IslandRights" 61 "java/lang/IllegalStateException" :: Cond.initialized "java/lang/IllegalStateException" :: vx_atS "IslandRights" 65 "java/lang/IllegalStateException" zt_names, vx_ot w = true := by decide +kernel
set_option maxRecDepth 100000 in
set_option maxHeartbeats 4000000 in
theorem zX_checkPort (l : Launch) (D : va_G) (A : Nat → ClassId) (base : Nat) (P : zg_P) (k : Nat) (hk : k < 4) : zg_Met l zm_X_checkPort zc_X_checkPort 1 none 0 0 0 D A base [.int (nI k)] (P) none (P) := by
  refine zg_met (by decide) (Nat.le_of_ble_eq_true rfl) ?_
  intro K hl0 hD0 hA0 hz0 hn hnm F E
  subst hl0 hD0 hA0 hz0
  show zg_G K (P) 0 0 0 [(0, .int (nI k))] []
  refine zg_iload_n F 0 rfl rfl dX_checkPort_0 ?_
  refine zg_if_ltF F dX_checkPort_1 (tgt := 9) (by decide) (nI_pos (by omega)) ?_
  refine zg_iload_n F 0 rfl rfl dX_checkPort_4 ?_
  refine zg_iconst F (v := nI 4) (by decide) dX_checkPort_5 ?_
  refine zg_icmp_ltT F (tgt := 19) dX_checkPort_6 (by decide) (nI_lt hk (by decide)) ?_
  exact zg_vret F E (Nat.zero_le _) (Nat.zero_le _) (fun _ _ h => h) dX_checkPort_19
set_option maxRecDepth 100000 in
set_option maxHeartbeats 4000000 in
theorem zX_checkPort_x (l : Launch) (D : va_G) (A : Nat → ClassId) (base : Nat) (hl : l.stackTraces = false) (P : zg_P) (k : Int32) (h : ¬ (¬ k < 0 ∧ ¬ nI 4 ≤ k)) : zg_XMet l zm_X_checkPort zc_X_checkPort 1 none 6 1 6 D A base [.int k] (P) "java/lang/IndexOutOfBoundsException" (P) := by
  refine zg_xmet (by decide) (Nat.le_of_ble_eq_true rfl) ?_
  intro K hl0 hD0 hA0 hz0 hn hnm F EX
  subst hl0 hD0 hA0 hz0
  show zg_G K (P) 0 0 0 [(0, .int k)] []
  refine zg_iload_n F 0 rfl rfl dX_checkPort_0 ?_
  by_cases h1 : k < 0
  · refine zg_if_ltT F (tgt := 9) dX_checkPort_1 (by decide) (h1) ?_
    exact zg_throw F (text := "there is no such port") EX hl (by decide +kernel) zk_146 zk_9 (by decide +kernel) zt_iob zo_iob ⟨by decide, by decide⟩ ⟨by decide, by decide⟩ ⟨by decide, by decide⟩ (fun _ _ h => h) dX_checkPort_9 dX_checkPort_12 dX_checkPort_13 dX_checkPort_15 dX_checkPort_18
  · refine zg_if_ltF F dX_checkPort_1 (tgt := 9) (by decide) (h1) ?_
    refine zg_iload_n F 0 rfl rfl dX_checkPort_4 ?_
    refine zg_iconst F (v := nI 4) (by decide) dX_checkPort_5 ?_
    refine zg_icmp_ltF F dX_checkPort_6 (tgt := 19) (by decide) (fun q => h ⟨h1, Int32.not_le.mpr q⟩) ?_
    exact zg_throw F (text := "there is no such port") EX hl (by decide +kernel) zk_146 zk_9 (by decide +kernel) zt_iob zo_iob ⟨by decide, by decide⟩ ⟨by decide, by decide⟩ ⟨by decide, by decide⟩ (fun _ _ h => h) dX_checkPort_9 dX_checkPort_12 dX_checkPort_13 dX_checkPort_15 dX_checkPort_18
set_option maxRecDepth 100000 in
set_option maxHeartbeats 4000000 in
theorem zX_checkSailing (l : Launch) (D : va_G) (A : Nat → ClassId) (base : Nat) (P : zg_P) (k : Nat) (hk : k < 4) : zg_Met l zm_X_checkSailing zc_X_checkSailing 1 none 0 0 0 D A base [.int (nI k)] (P) none (P) := by
  refine zg_met (by decide) (Nat.le_of_ble_eq_true rfl) ?_
  intro K hl0 hD0 hA0 hz0 hn hnm F E
  subst hl0 hD0 hA0 hz0
  show zg_G K (P) 0 0 0 [(0, .int (nI k))] []
  refine zg_iload_n F 0 rfl rfl dX_checkSailing_0 ?_
  refine zg_if_ltF F dX_checkSailing_1 (tgt := 9) (by decide) (nI_pos (by omega)) ?_
  refine zg_iload_n F 0 rfl rfl dX_checkSailing_4 ?_
  refine zg_iconst F (v := nI 4) (by decide) dX_checkSailing_5 ?_
  refine zg_icmp_ltT F (tgt := 19) dX_checkSailing_6 (by decide) (nI_lt hk (by decide)) ?_
  exact zg_vret F E (Nat.zero_le _) (Nat.zero_le _) (fun _ _ h => h) dX_checkSailing_19
set_option maxRecDepth 100000 in
set_option maxHeartbeats 4000000 in
theorem zX_checkSailing_x (l : Launch) (D : va_G) (A : Nat → ClassId) (base : Nat) (hl : l.stackTraces = false) (P : zg_P) (k : Int32) (h : ¬ (¬ k < 0 ∧ ¬ nI 4 ≤ k)) : zg_XMet l zm_X_checkSailing zc_X_checkSailing 1 none 6 1 6 D A base [.int k] (P) "java/lang/IndexOutOfBoundsException" (P) := by
  refine zg_xmet (by decide) (Nat.le_of_ble_eq_true rfl) ?_
  intro K hl0 hD0 hA0 hz0 hn hnm F EX
  subst hl0 hD0 hA0 hz0
  show zg_G K (P) 0 0 0 [(0, .int k)] []
  refine zg_iload_n F 0 rfl rfl dX_checkSailing_0 ?_
  by_cases h1 : k < 0
  · refine zg_if_ltT F (tgt := 9) dX_checkSailing_1 (by decide) (h1) ?_
    exact zg_throw F (text := "there is no such sailing") EX hl (by decide +kernel) zk_146 zk_9 (by decide +kernel) zt_iob zo_iob ⟨by decide, by decide⟩ ⟨by decide, by decide⟩ ⟨by decide, by decide⟩ (fun _ _ h => h) dX_checkSailing_9 dX_checkSailing_12 dX_checkSailing_13 dX_checkSailing_15 dX_checkSailing_18
  · refine zg_if_ltF F dX_checkSailing_1 (tgt := 9) (by decide) (h1) ?_
    refine zg_iload_n F 0 rfl rfl dX_checkSailing_4 ?_
    refine zg_iconst F (v := nI 4) (by decide) dX_checkSailing_5 ?_
    refine zg_icmp_ltF F dX_checkSailing_6 (tgt := 19) (by decide) (fun q => h ⟨h1, Int32.not_le.mpr q⟩) ?_
    exact zg_throw F (text := "there is no such sailing") EX hl (by decide +kernel) zk_146 zk_9 (by decide +kernel) zt_iob zo_iob ⟨by decide, by decide⟩ ⟨by decide, by decide⟩ ⟨by decide, by decide⟩ (fun _ _ h => h) dX_checkSailing_9 dX_checkSailing_12 dX_checkSailing_13 dX_checkSailing_15 dX_checkSailing_18
set_option maxRecDepth 100000 in
set_option maxHeartbeats 4000000 in
theorem zX_checkLeg (l : Launch) (D : va_G) (A : Nat → ClassId) (base : Nat) (P : zg_P) (k : Nat) (hk : k < 4) : zg_Met l zm_X_checkLeg zc_X_checkLeg 1 none 0 0 0 D A base [.int (nI k)] (P) none (P) := by
  refine zg_met (by decide) (Nat.le_of_ble_eq_true rfl) ?_
  intro K hl0 hD0 hA0 hz0 hn hnm F E
  subst hl0 hD0 hA0 hz0
  show zg_G K (P) 0 0 0 [(0, .int (nI k))] []
  refine zg_iload_n F 0 rfl rfl dX_checkLeg_0 ?_
  refine zg_if_ltF F dX_checkLeg_1 (tgt := 9) (by decide) (nI_pos (by omega)) ?_
  refine zg_iload_n F 0 rfl rfl dX_checkLeg_4 ?_
  refine zg_iconst F (v := nI 4) (by decide) dX_checkLeg_5 ?_
  refine zg_icmp_ltT F (tgt := 19) dX_checkLeg_6 (by decide) (nI_lt hk (by decide)) ?_
  exact zg_vret F E (Nat.zero_le _) (Nat.zero_le _) (fun _ _ h => h) dX_checkLeg_19
set_option maxRecDepth 100000 in
set_option maxHeartbeats 4000000 in
theorem zX_checkLeg_x (l : Launch) (D : va_G) (A : Nat → ClassId) (base : Nat) (hl : l.stackTraces = false) (P : zg_P) (k : Int32) (h : ¬ (¬ k < 0 ∧ ¬ nI 4 ≤ k)) : zg_XMet l zm_X_checkLeg zc_X_checkLeg 1 none 6 1 6 D A base [.int k] (P) "java/lang/IndexOutOfBoundsException" (P) := by
  refine zg_xmet (by decide) (Nat.le_of_ble_eq_true rfl) ?_
  intro K hl0 hD0 hA0 hz0 hn hnm F EX
  subst hl0 hD0 hA0 hz0
  show zg_G K (P) 0 0 0 [(0, .int k)] []
  refine zg_iload_n F 0 rfl rfl dX_checkLeg_0 ?_
  by_cases h1 : k < 0
  · refine zg_if_ltT F (tgt := 9) dX_checkLeg_1 (by decide) (h1) ?_
    exact zg_throw F (text := "there is no such leg") EX hl (by decide +kernel) zk_146 zk_9 (by decide +kernel) zt_iob zo_iob ⟨by decide, by decide⟩ ⟨by decide, by decide⟩ ⟨by decide, by decide⟩ (fun _ _ h => h) dX_checkLeg_9 dX_checkLeg_12 dX_checkLeg_13 dX_checkLeg_15 dX_checkLeg_18
  · refine zg_if_ltF F dX_checkLeg_1 (tgt := 9) (by decide) (h1) ?_
    refine zg_iload_n F 0 rfl rfl dX_checkLeg_4 ?_
    refine zg_iconst F (v := nI 4) (by decide) dX_checkLeg_5 ?_
    refine zg_icmp_ltF F dX_checkLeg_6 (tgt := 19) (by decide) (fun q => h ⟨h1, Int32.not_le.mpr q⟩) ?_
    exact zg_throw F (text := "there is no such leg") EX hl (by decide +kernel) zk_146 zk_9 (by decide +kernel) zt_iob zo_iob ⟨by decide, by decide⟩ ⟨by decide, by decide⟩ ⟨by decide, by decide⟩ (fun _ _ h => h) dX_checkLeg_9 dX_checkLeg_12 dX_checkLeg_13 dX_checkLeg_15 dX_checkLeg_18
set_option maxRecDepth 100000 in
set_option maxHeartbeats 4000000 in
theorem zX_checkStop (l : Launch) (D : va_G) (A : Nat → ClassId) (base : Nat) (P : zg_P) (k : Nat) (hk : k < 5) : zg_Met l zm_X_checkStop zc_X_checkStop 1 none 0 0 0 D A base [.int (nI k)] (P) none (P) := by
  refine zg_met (by decide) (Nat.le_of_ble_eq_true rfl) ?_
  intro K hl0 hD0 hA0 hz0 hn hnm F E
  subst hl0 hD0 hA0 hz0
  show zg_G K (P) 0 0 0 [(0, .int (nI k))] []
  refine zg_iload_n F 0 rfl rfl dX_checkStop_0 ?_
  refine zg_if_ltF F dX_checkStop_1 (tgt := 9) (by decide) (nI_pos (by omega)) ?_
  refine zg_iload_n F 0 rfl rfl dX_checkStop_4 ?_
  refine zg_iconst F (v := nI 5) (by decide) dX_checkStop_5 ?_
  refine zg_icmp_ltT F (tgt := 19) dX_checkStop_6 (by decide) (nI_lt hk (by decide)) ?_
  exact zg_vret F E (Nat.zero_le _) (Nat.zero_le _) (fun _ _ h => h) dX_checkStop_19
set_option maxRecDepth 100000 in
set_option maxHeartbeats 4000000 in
theorem zX_checkStop_x (l : Launch) (D : va_G) (A : Nat → ClassId) (base : Nat) (hl : l.stackTraces = false) (P : zg_P) (k : Int32) (h : ¬ (¬ k < 0 ∧ ¬ nI 5 ≤ k)) : zg_XMet l zm_X_checkStop zc_X_checkStop 1 none 6 1 6 D A base [.int k] (P) "java/lang/IndexOutOfBoundsException" (P) := by
  refine zg_xmet (by decide) (Nat.le_of_ble_eq_true rfl) ?_
  intro K hl0 hD0 hA0 hz0 hn hnm F EX
  subst hl0 hD0 hA0 hz0
  show zg_G K (P) 0 0 0 [(0, .int k)] []
  refine zg_iload_n F 0 rfl rfl dX_checkStop_0 ?_
  by_cases h1 : k < 0
  · refine zg_if_ltT F (tgt := 9) dX_checkStop_1 (by decide) (h1) ?_
    exact zg_throw F (text := "there is no such stop") EX hl (by decide +kernel) zk_146 zk_9 (by decide +kernel) zt_iob zo_iob ⟨by decide, by decide⟩ ⟨by decide, by decide⟩ ⟨by decide, by decide⟩ (fun _ _ h => h) dX_checkStop_9 dX_checkStop_12 dX_checkStop_13 dX_checkStop_15 dX_checkStop_18
  · refine zg_if_ltF F dX_checkStop_1 (tgt := 9) (by decide) (h1) ?_
    refine zg_iload_n F 0 rfl rfl dX_checkStop_4 ?_
    refine zg_iconst F (v := nI 5) (by decide) dX_checkStop_5 ?_
    refine zg_icmp_ltF F dX_checkStop_6 (tgt := 19) (by decide) (fun q => h ⟨h1, Int32.not_le.mpr q⟩) ?_
    exact zg_throw F (text := "there is no such stop") EX hl (by decide +kernel) zk_146 zk_9 (by decide +kernel) zt_iob zo_iob ⟨by decide, by decide⟩ ⟨by decide, by decide⟩ ⟨by decide, by decide⟩ (fun _ _ h => h) dX_checkStop_9 dX_checkStop_12 dX_checkStop_13 dX_checkStop_15 dX_checkStop_18
set_option maxRecDepth 100000 in
set_option maxHeartbeats 4000000 in
theorem zX_checkTicket (l : Launch) (D : va_G) (A : Nat → ClassId) (base : Nat) (x sz : Nat) (v : zg_w) (τ : zx_S) (t T : Nat) (ht : t < T) (hT8 : T ≤ 80) (hT : (τ 0).1 7 = nI T) : zg_Met l zm_X_checkTicket zc_X_checkTicket 2 none 0 0 0 D A base [.ref x, .int (nI t)] (zx_P A x v sz τ) none (zx_P A x v sz τ) := by
  refine zg_met (by decide) (Nat.le_of_ble_eq_true rfl) ?_
  intro K hl0 hD0 hA0 hz0 hn hnm F E
  subst hl0 hD0 hA0 hz0
  show zg_G K (zx_P (zk_A K) x v sz τ) 0 0 0 [(0, .ref x), (1, .int (nI t))] []
  refine zg_iload_n F 1 rfl rfl dX_checkTicket_0 ?_
  refine zg_if_ltF F dX_checkTicket_1 (tgt := 12) (by decide) (nI_pos (by omega)) ?_
  refine zg_iload_n F 1 rfl rfl dX_checkTicket_4 ?_
  refine zg_aload_n F 0 rfl rfl dX_checkTicket_5 ?_
  refine zg_get F (fun _ _ h => zx_g0 h) rfl zi_X 7 (by decide) rfl zk_112 rfl dX_checkTicket_6 ?_
  refine zg_eqi (hT) ?_
  refine zg_icmp_ltT F (tgt := 22) dX_checkTicket_9 (by decide) (nI_lt ht (by omega)) ?_
  exact zg_vret F E (Nat.zero_le _) (Nat.zero_le _) (fun _ _ h => h) dX_checkTicket_22
set_option maxRecDepth 100000 in
set_option maxHeartbeats 4000000 in
theorem zX_checkTicket_x (l : Launch) (D : va_G) (A : Nat → ClassId) (base : Nat) (hl : l.stackTraces = false) (x sz : Nat) (v : zg_w) (τ : zx_S) (t : Int32) (h : ¬ (¬ t < 0 ∧ ¬ (τ 0).1 7 ≤ t)) : zg_XMet l zm_X_checkTicket zc_X_checkTicket 2 none 6 1 6 D A base [.ref x, .int t] (zx_P A x v sz τ) "java/lang/IndexOutOfBoundsException" (zx_P A x v sz τ) := by
  refine zg_xmet (by decide) (Nat.le_of_ble_eq_true rfl) ?_
  intro K hl0 hD0 hA0 hz0 hn hnm F EX
  subst hl0 hD0 hA0 hz0
  show zg_G K (zx_P (zk_A K) x v sz τ) 0 0 0 [(0, .ref x), (1, .int t)] []
  refine zg_iload_n F 1 rfl rfl dX_checkTicket_0 ?_
  by_cases h1 : t < 0
  · refine zg_if_ltT F (tgt := 12) dX_checkTicket_1 (by decide) (h1) ?_
    exact zg_throw F (text := "there is no such ticket") EX hl (by decide +kernel) zk_146 zk_9 (by decide +kernel) zt_iob zo_iob ⟨by decide, by decide⟩ ⟨by decide, by decide⟩ ⟨by decide, by decide⟩ (fun _ _ h => h) dX_checkTicket_12 dX_checkTicket_15 dX_checkTicket_16 dX_checkTicket_18 dX_checkTicket_21
  · refine zg_if_ltF F dX_checkTicket_1 (tgt := 12) (by decide) (h1) ?_
    refine zg_iload_n F 1 rfl rfl dX_checkTicket_4 ?_
    refine zg_aload_n F 0 rfl rfl dX_checkTicket_5 ?_
    refine zg_get F (fun _ _ h => zx_g0 h) rfl zi_X 7 (by decide) rfl zk_112 rfl dX_checkTicket_6 ?_
    refine zg_icmp_ltF F dX_checkTicket_9 (tgt := 22) (by decide) (fun q => h ⟨h1, Int32.not_le.mpr q⟩) ?_
    exact zg_throw F (text := "there is no such ticket") EX hl (by decide +kernel) zk_146 zk_9 (by decide +kernel) zt_iob zo_iob ⟨by decide, by decide⟩ ⟨by decide, by decide⟩ ⟨by decide, by decide⟩ (fun _ _ h => h) dX_checkTicket_12 dX_checkTicket_15 dX_checkTicket_16 dX_checkTicket_18 dX_checkTicket_21
set_option maxRecDepth 100000 in
set_option maxHeartbeats 4000000 in
theorem zX_checkDifferent (l : Launch) (D : va_G) (A : Nat → ClassId) (base : Nat) (P : zg_P) (a b : Nat) (ha : a < 4) (hb : b < 4) (hn0 : a ≠ b) : zg_Met l zm_X_checkDifferent zc_X_checkDifferent 2 none 0 0 0 D A base [.int (nI a), .int (nI b)] (P) none (P) := by
  refine zg_met (by decide) (Nat.le_of_ble_eq_true rfl) ?_
  intro K hl0 hD0 hA0 hz0 hn hnm F E
  subst hl0 hD0 hA0 hz0
  show zg_G K (P) 0 0 0 [(0, .int (nI a)), (1, .int (nI b))] []
  refine zg_iload_n F 0 rfl rfl dX_checkDifferent_0 ?_
  refine zg_iload_n F 1 rfl rfl dX_checkDifferent_1 ?_
  refine zg_icmp_neT F (tgt := 15) dX_checkDifferent_2 (by decide) (fun q => hn0 ((nI_eq (by omega) (by omega)).mp q)) ?_
  exact zg_vret F E (Nat.zero_le _) (Nat.zero_le _) (fun _ _ h => h) dX_checkDifferent_15
set_option maxRecDepth 100000 in
set_option maxHeartbeats 4000000 in
theorem zX_checkDifferent_x (l : Launch) (D : va_G) (A : Nat → ClassId) (base : Nat) (hl : l.stackTraces = false) (P : zg_P) (a : Int32) : zg_XMet l zm_X_checkDifferent zc_X_checkDifferent 2 none 6 1 6 D A base [.int a, .int a] (P) "java/lang/IllegalArgumentException" (P) := by
  refine zg_xmet (by decide) (Nat.le_of_ble_eq_true rfl) ?_
  intro K hl0 hD0 hA0 hz0 hn hnm F EX
  subst hl0 hD0 hA0 hz0
  show zg_G K (P) 0 0 0 [(0, .int a), (1, .int a)] []
  refine zg_iload_n F 0 rfl rfl dX_checkDifferent_0 ?_
  refine zg_iload_n F 1 rfl rfl dX_checkDifferent_1 ?_
  refine zg_icmp_neF F dX_checkDifferent_2 (tgt := 15) (by decide) (rfl) ?_
  exact zg_throw F (text := "both ports are the same") EX hl (by decide +kernel) zk_217 zk_10 (by decide +kernel) zt_iae zo_iae ⟨by decide, by decide⟩ ⟨by decide, by decide⟩ ⟨by decide, by decide⟩ (fun _ _ h => h) dX_checkDifferent_5 dX_checkDifferent_8 dX_checkDifferent_9 dX_checkDifferent_11 dX_checkDifferent_14
set_option maxRecDepth 100000 in
set_option maxHeartbeats 4000000 in
theorem zX_checkSeats (l : Launch) (D : va_G) (A : Nat → ClassId) (base : Nat) (P : zg_P) (n : Int32) (h1 : ¬ n < nI 1) (h2 : ¬ nI 100 < n) : zg_Met l zm_X_checkSeats zc_X_checkSeats 1 none 0 0 0 D A base [.int n] (P) none (P) := by
  refine zg_met (by decide) (Nat.le_of_ble_eq_true rfl) ?_
  intro K hl0 hD0 hA0 hz0 hn hnm F E
  subst hl0 hD0 hA0 hz0
  show zg_G K (P) 0 0 0 [(0, .int n)] []
  refine zg_iload_n F 0 rfl rfl dX_checkSeats_0 ?_
  refine zg_iconst F (v := nI 1) (by decide) dX_checkSeats_1 ?_
  refine zg_icmp_ltF F dX_checkSeats_2 (tgt := 11) (by decide) (h1) ?_
  refine zg_iload_n F 0 rfl rfl dX_checkSeats_5 ?_
  refine zg_bipush F (v := nI 100) (by decide) dX_checkSeats_6 ?_
  refine zg_icmp_leT F (tgt := 21) dX_checkSeats_8 (by decide) (Int32.not_lt.mp h2) ?_
  exact zg_vret F E (Nat.zero_le _) (Nat.zero_le _) (fun _ _ h => h) dX_checkSeats_21
set_option maxRecDepth 100000 in
set_option maxHeartbeats 4000000 in
theorem zX_checkSeats_x (l : Launch) (D : va_G) (A : Nat → ClassId) (base : Nat) (hl : l.stackTraces = false) (P : zg_P) (n : Int32) (h : n < nI 1 ∨ nI 100 < n) : zg_XMet l zm_X_checkSeats zc_X_checkSeats 1 none 6 1 6 D A base [.int n] (P) "java/lang/IllegalArgumentException" (P) := by
  refine zg_xmet (by decide) (Nat.le_of_ble_eq_true rfl) ?_
  intro K hl0 hD0 hA0 hz0 hn hnm F EX
  subst hl0 hD0 hA0 hz0
  show zg_G K (P) 0 0 0 [(0, .int n)] []
  refine zg_iload_n F 0 rfl rfl dX_checkSeats_0 ?_
  refine zg_iconst F (v := nI 1) (by decide) dX_checkSeats_1 ?_
  by_cases h1 : n < nI 1
  · refine zg_icmp_ltT F (tgt := 11) dX_checkSeats_2 (by decide) (h1) ?_
    exact zg_throw F (text := "a number of seats is 1 to 100") EX hl (by decide +kernel) zk_217 zk_10 (by decide +kernel) zt_iae zo_iae ⟨by decide, by decide⟩ ⟨by decide, by decide⟩ ⟨by decide, by decide⟩ (fun _ _ h => h) dX_checkSeats_11 dX_checkSeats_14 dX_checkSeats_15 dX_checkSeats_17 dX_checkSeats_20
  · refine zg_icmp_ltF F dX_checkSeats_2 (tgt := 11) (by decide) (h1) ?_
    refine zg_iload_n F 0 rfl rfl dX_checkSeats_5 ?_
    refine zg_bipush F (v := nI 100) (by decide) dX_checkSeats_6 ?_
    refine zg_icmp_leF F dX_checkSeats_8 (tgt := 21) (by decide) (Int32.not_le.mpr (h.resolve_left h1)) ?_
    exact zg_throw F (text := "a number of seats is 1 to 100") EX hl (by decide +kernel) zk_217 zk_10 (by decide +kernel) zt_iae zo_iae ⟨by decide, by decide⟩ ⟨by decide, by decide⟩ ⟨by decide, by decide⟩ (fun _ _ h => h) dX_checkSeats_11 dX_checkSeats_14 dX_checkSeats_15 dX_checkSeats_17 dX_checkSeats_20
set_option maxRecDepth 100000 in
set_option maxHeartbeats 4000000 in
theorem zX_checkDraft (l : Launch) (D : va_G) (A : Nat → ClassId) (base : Nat) (x sz : Nat) (v : zg_w) (τ : zx_S) (f : Nat → Int32) (d : Nat) (hd : d ≤ 4) (hj : zx_J A x v (τ 0).2.2.2 f (nI d)) (h0 : d ≠ 0) : zg_Met l zm_X_checkDraft zc_X_checkDraft 1 none 0 0 0 D A base [.ref x] (zx_P A x v sz τ) none (zx_P A x v sz τ) := by
  refine zg_met (by decide) (Nat.le_of_ble_eq_true rfl) ?_
  intro K hl0 hD0 hA0 hz0 hn hnm F E
  subst hl0 hD0 hA0 hz0
  show zg_G K (zx_P (zk_A K) x v sz τ) 0 0 0 [(0, .ref x)] []
  refine zg_aload_n F 0 rfl rfl dX_checkDraft_0 ?_
  refine zg_get F (fun _ _ h => zx_g0 h) rfl zi_X 8 (by decide) rfl zk_113 rfl dX_checkDraft_1 ?_
  refine zg_get F (fun _ _ h => zx_J1 hj h) rfl zi_J 1 (by decide) rfl zk_39 rfl dX_checkDraft_4 ?_
  refine zg_if_neT F (tgt := 20) dX_checkDraft_7 (by decide) (nI_ne0 (by omega) (by omega)) ?_
  exact zg_vret F E (Nat.zero_le _) (Nat.zero_le _) (fun _ _ h => h) dX_checkDraft_20
set_option maxRecDepth 100000 in
set_option maxHeartbeats 4000000 in
theorem zX_checkDraft_x (l : Launch) (D : va_G) (A : Nat → ClassId) (base : Nat) (hl : l.stackTraces = false) (x sz : Nat) (v : zg_w) (τ : zx_S) (f : Nat → Int32) (hj : zx_J A x v (τ 0).2.2.2 f (nI 0)) : zg_XMet l zm_X_checkDraft zc_X_checkDraft 1 none 6 1 6 D A base [.ref x] (zx_P A x v sz τ) "java/lang/IllegalStateException" (zx_P A x v sz τ) := by
  refine zg_xmet (by decide) (Nat.le_of_ble_eq_true rfl) ?_
  intro K hl0 hD0 hA0 hz0 hn hnm F EX
  subst hl0 hD0 hA0 hz0
  show zg_G K (zx_P (zk_A K) x v sz τ) 0 0 0 [(0, .ref x)] []
  refine zg_aload_n F 0 rfl rfl dX_checkDraft_0 ?_
  refine zg_get F (fun _ _ h => zx_g0 h) rfl zi_X 8 (by decide) rfl zk_113 rfl dX_checkDraft_1 ?_
  refine zg_get F (fun _ _ h => zx_J1 hj h) rfl zi_J 1 (by decide) rfl zk_39 rfl dX_checkDraft_4 ?_
  refine zg_if_neF F dX_checkDraft_7 (tgt := 20) (by decide) (rfl) ?_
  exact zg_throw F (text := "the draft is empty") EX hl (by decide +kernel) zk_233 zk_11 (by decide +kernel) zt_ise zo_ise ⟨by decide, by decide⟩ ⟨by decide, by decide⟩ ⟨by decide, by decide⟩ (fun _ _ h => h) dX_checkDraft_10 dX_checkDraft_13 dX_checkDraft_14 dX_checkDraft_16 dX_checkDraft_19
set_option maxRecDepth 100000 in
set_option maxHeartbeats 4000000 in
theorem zX_checkTwoPorts (l : Launch) (D : va_G) (A : Nat → ClassId) (base : Nat) (P : zg_P) (a b : Nat) (ha : a < 4) (hb : b < 4) (hn0 : a ≠ b) : zg_Met l zm_X_checkTwoPorts zc_X_checkTwoPorts 2 none 1 0 0 D A base [.int (nI a), .int (nI b)] (P) none (P) := by
  refine zg_met (by decide) (Nat.le_of_ble_eq_true rfl) ?_
  intro K hl0 hD0 hA0 hz0 hn hnm F E
  subst hl0 hD0 hA0 hz0
  show zg_G K (P) 0 0 0 [(0, .int (nI a)), (1, .int (nI b))] []
  refine zg_iload_n F 0 rfl rfl dX_checkTwoPorts_0 ?_
  refine zg_callS F (zX_checkPort _ _ _ _ _ a ha) zv_X_checkPort zu_X_checkPort zk_291 rfl ⟨by decide, by decide⟩ ⟨by decide, by decide⟩ rfl (Nat.le_of_ble_eq_true rfl) dX_checkTwoPorts_1 ?_
  refine zg_iload_n F 1 rfl rfl dX_checkTwoPorts_4 ?_
  refine zg_callS F (zX_checkPort _ _ _ _ _ b hb) zv_X_checkPort zu_X_checkPort zk_291 rfl ⟨by decide, by decide⟩ ⟨by decide, by decide⟩ rfl (Nat.le_of_ble_eq_true rfl) dX_checkTwoPorts_5 ?_
  refine zg_iload_n F 0 rfl rfl dX_checkTwoPorts_8 ?_
  refine zg_iload_n F 1 rfl rfl dX_checkTwoPorts_9 ?_
  refine zg_callS F (zX_checkDifferent _ _ _ _ _ a b ha hb hn0) zv_X_checkDifferent zu_X_checkDifferent zk_412 rfl ⟨by decide, by decide⟩ ⟨by decide, by decide⟩ rfl (Nat.le_of_ble_eq_true rfl) dX_checkTwoPorts_10 ?_
  exact zg_vret F E (Nat.zero_le _) (Nat.zero_le _) (fun _ _ h => h) dX_checkTwoPorts_13
set_option maxRecDepth 100000 in
set_option maxHeartbeats 4000000 in
theorem zX_checkTwoPorts_x1 (l : Launch) (D : va_G) (A : Nat → ClassId) (base : Nat) (hl : l.stackTraces = false) (P : zg_P) (a b : Int32) (h : ¬ (zz4 a ∧ zz4 b)) : zg_XMet l zm_X_checkTwoPorts zc_X_checkTwoPorts 2 none 7 1 6 D A base [.int a, .int b] (P) "java/lang/IndexOutOfBoundsException" (P) := by
  refine zg_xmet (by decide) (Nat.le_of_ble_eq_true rfl) ?_
  intro K hl0 hD0 hA0 hz0 hn hnm F EX
  subst hl0 hD0 hA0 hz0
  show zg_G K (P) 0 0 0 [(0, .int a), (1, .int b)] []
  refine zg_iload_n F 0 rfl rfl dX_checkTwoPorts_0 ?_
  by_cases h1 : zz4 a
  · obtain ⟨a, ha, rfl⟩ := zz_nI (by decide) h1
    refine zg_callS F (zX_checkPort _ _ _ _ _ a ha) zv_X_checkPort zu_X_checkPort zk_291 rfl ⟨by decide, by decide⟩ ⟨by decide, by decide⟩ rfl (Nat.le_of_ble_eq_true rfl) dX_checkTwoPorts_1 ?_
    refine zg_iload_n F 1 rfl rfl dX_checkTwoPorts_4 ?_
    exact zg_xcallS F (zX_checkPort_x _ _ _ _ hl P b (fun q => h ⟨h1, q⟩)) zv_X_checkPort zu_X_checkPort zk_291 rfl ⟨by decide, by decide⟩ ⟨by decide, by decide⟩ rfl (Nat.le_of_ble_eq_true rfl) dX_checkTwoPorts_5 (zg_xout EX (by decide) (by decide) (fun _ _ h => h))
  · exact zg_xcallS F (zX_checkPort_x _ _ _ _ hl P a h1) zv_X_checkPort zu_X_checkPort zk_291 rfl ⟨by decide, by decide⟩ ⟨by decide, by decide⟩ rfl (Nat.le_of_ble_eq_true rfl) dX_checkTwoPorts_1 (zg_xout EX (by decide) (by decide) (fun _ _ h => h))
set_option maxRecDepth 100000 in
set_option maxHeartbeats 4000000 in
theorem zX_checkTwoPorts_x2 (l : Launch) (D : va_G) (A : Nat → ClassId) (base : Nat) (hl : l.stackTraces = false) (P : zg_P) (a : Nat) (ha : a < 4) : zg_XMet l zm_X_checkTwoPorts zc_X_checkTwoPorts 2 none 7 1 6 D A base [.int (nI a), .int (nI a)] (P) "java/lang/IllegalArgumentException" (P) := by
  refine zg_xmet (by decide) (Nat.le_of_ble_eq_true rfl) ?_
  intro K hl0 hD0 hA0 hz0 hn hnm F EX
  subst hl0 hD0 hA0 hz0
  show zg_G K (P) 0 0 0 [(0, .int (nI a)), (1, .int (nI a))] []
  refine zg_iload_n F 0 rfl rfl dX_checkTwoPorts_0 ?_
  refine zg_callS F (zX_checkPort _ _ _ _ _ a ha) zv_X_checkPort zu_X_checkPort zk_291 rfl ⟨by decide, by decide⟩ ⟨by decide, by decide⟩ rfl (Nat.le_of_ble_eq_true rfl) dX_checkTwoPorts_1 ?_
  refine zg_iload_n F 1 rfl rfl dX_checkTwoPorts_4 ?_
  refine zg_callS F (zX_checkPort _ _ _ _ _ a ha) zv_X_checkPort zu_X_checkPort zk_291 rfl ⟨by decide, by decide⟩ ⟨by decide, by decide⟩ rfl (Nat.le_of_ble_eq_true rfl) dX_checkTwoPorts_5 ?_
  refine zg_iload_n F 0 rfl rfl dX_checkTwoPorts_8 ?_
  refine zg_iload_n F 1 rfl rfl dX_checkTwoPorts_9 ?_
  exact zg_xcallS F (zX_checkDifferent_x _ _ _ _ hl P (nI a)) zv_X_checkDifferent zu_X_checkDifferent zk_412 rfl ⟨by decide, by decide⟩ ⟨by decide, by decide⟩ rfl (Nat.le_of_ble_eq_true rfl) dX_checkTwoPorts_10 (zg_xout EX (by decide) (by decide) (fun _ _ h => h))
