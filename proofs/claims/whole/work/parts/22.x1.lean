abbrev zc_F_floorMod : ByteArray := prog_13_method_50_code
def zm_F_floorMod : MethodName := ⟨"java/lang/Math", "floorMod", "(II)I"⟩
theorem dF_floorMod_0 : decode zc_F_floorMod 0 = .ok (.iload_n 0, 1) := by decide +kernel
theorem dF_floorMod_1 : decode zc_F_floorMod 1 = .ok (.iload_n 1, 1) := by decide +kernel
theorem dF_floorMod_2 : decode zc_F_floorMod 2 = .ok (.irem, 1) := by decide +kernel
theorem dF_floorMod_3 : decode zc_F_floorMod 3 = .ok (.istore_n 2, 1) := by decide +kernel
theorem dF_floorMod_4 : decode zc_F_floorMod 4 = .ok (.iload_n 0, 1) := by decide +kernel
theorem dF_floorMod_5 : decode zc_F_floorMod 5 = .ok (.iload_n 1, 1) := by decide +kernel
theorem dF_floorMod_6 : decode zc_F_floorMod 6 = .ok (.ixor, 1) := by decide +kernel
theorem dF_floorMod_7 : decode zc_F_floorMod 7 = .ok (.ifCond .ge 11, 3) := by decide +kernel
theorem dF_floorMod_10 : decode zc_F_floorMod 10 = .ok (.iload_n 2, 1) := by decide +kernel
theorem dF_floorMod_11 : decode zc_F_floorMod 11 = .ok (.ifCond .eq 7, 3) := by decide +kernel
theorem dF_floorMod_14 : decode zc_F_floorMod 14 = .ok (.iload_n 2, 1) := by decide +kernel
theorem dF_floorMod_15 : decode zc_F_floorMod 15 = .ok (.iload_n 1, 1) := by decide +kernel
theorem dF_floorMod_16 : decode zc_F_floorMod 16 = .ok (.iadd, 1) := by decide +kernel
theorem dF_floorMod_17 : decode zc_F_floorMod 17 = .ok (.ireturn, 1) := by decide +kernel
theorem dF_floorMod_18 : decode zc_F_floorMod 18 = .ok (.iload_n 2, 1) := by decide +kernel
theorem dF_floorMod_19 : decode zc_F_floorMod 19 = .ok (.ireturn, 1) := by decide +kernel
theorem zv_F_floorMod : zg_V zm_F_floorMod zc_F_floorMod 3 (some .int) 2 := ⟨zw_t (i := 438) (by decide +kernel) (by decide +kernel), zw_t (i := 14) (by decide +kernel) (by decide +kernel), by decide +kernel⟩
theorem zu_F_floorMod : Cond.static zm_F_floorMod ∈ zw_A := zw_t (i := 437) (by decide +kernel) (by decide +kernel)
theorem zl_F_floorMod : Cond.methodLink "IslandRights$Lane" 34 zm_F_floorMod ∈ zw_A := zw_t (i := 436) (by decide +kernel) (by decide +kernel)
theorem zg_ixor {K : zg_K} {P : zg_P} {cells slots pc : Nat} {L : List (Nat × Value)} {st : List Value} {cc : ByteArray} {own : String} {rm : Room} (F : zg_F K cc own rm) {x y v : Int32} (hv : x ^^^ y = v) (d : decode cc pc = .ok (.ixor, 1)) (k : zg_G K P cells slots (pc + 1) L (.int v :: st)) : zg_G K P cells slots pc L (.int y :: .int x :: st) := fun w H locs ls h1 h2 h3 h4 => lv_ixor F.1 F.2.1 d (by rw [hv]; exact k w H locs ls h1 h2 h3 h4)
theorem nx_xor (a b : Nat) : nI a ^^^ nI b = nI (a ^^^ b) := by
  apply Int32.toBitVec_inj.mp
  show BitVec.ofNat 32 a ^^^ BitVec.ofNat 32 b = BitVec.ofNat 32 (a ^^^ b)
  exact BitVec.ofNat_xor.symm
theorem zx_xor {n : Nat} (h : n < 2 ^ 31) : ¬ (nI n ^^^ nI 8) < 0 := by rw [nx_xor]; exact nI_pos (Nat.xor_lt_two_pow h (by decide))
theorem zg_metF {l : Launch} {y : MethodName} {d mc ms maxL base : Nat} {D : va_G} {A : Nat → ClassId} {av : List Value} {P P' : zg_P} {r : Option Value} {cc : ByteArray} {ret : Option FieldType} (hy : plainFor y = true) (hlen : (lg_sl av).length ≤ maxL)
    (body : ∀ K : zg_K, zk_l K = l → zk_D K = D → zk_A K = A → zk_z K = base → zk_n K = maxL → (zk_t K).name = y.name → zg_F K cc y.cls (zg_rm d mc ms) → zg_E K ret mc ms r P' → zg_G K P 0 0 0 (lv_args 0 av) []) : zg_Met l y cc maxL ret d mc ms D A base av P r P' := by
  refine va_MetF (cc := cc) (maxL := maxL) (ret := ret) hy rfl ?_
  intro p e s m args below meth c s₁ B hml hv
  obtain ⟨rfl, hbase, hK, hN, w, hP, hH⟩ := hv
  have hts := atoms_spec (ws := zw_ y cc maxL ret) B.pre
  have hown : s.vm.findClass y.cls = some m.cls := findClass_of_methodNamed B.named
  have hk := body (p, l, e, (headSpec (zw_ y cc maxL ret) (zg_rm d mc ms)).room, s, m, av.toArray, below, meth, c, MQ below (zg_Qc D base r P') av.toArray s mc ms (fun q => base ≤ q), D, A, base, maxL) rfl rfl rfl rfl rfl (name_of_methodNamed B.named B.method).1
    ⟨B.exec, B.bytes, hml, hown, fun w hw => hts w (List.mem_cons_of_mem _ hw), hK, hN, hbase, rfl⟩ ⟨B.returns, B.notSynchronized, fun t h => h⟩
  rw [lg_entry_eq]
  exact hk w s.heap [] _ hP hH va_S.rf (lv_entry av hlen)
set_option maxRecDepth 100000 in
set_option maxHeartbeats 4000000 in
theorem zF_floorMod (l : Launch) (D : va_G) (A : Nat → ClassId) (base : Nat) (P : zg_P) (n : Nat) (hn8 : n < 2 ^ 31) : zg_Met l zm_F_floorMod zc_F_floorMod 3 (some .int) 0 0 0 D A base [.int (nI n), .int (nI 8)] (P) (some (.int (nI (n % 8)))) (P) := by
  refine zg_metF (by decide +kernel) (Nat.le_of_ble_eq_true rfl) ?_
  intro K hl hD hA hz hn hnm F E
  subst hl hD hA hz
  show zg_G K (P) 0 0 0 [(0, .int (nI n)), (1, .int (nI 8))] []
  refine zg_iload_n F 0 rfl rfl dF_floorMod_0 ?_
  refine zg_iload_n F 1 rfl rfl dF_floorMod_1 ?_
  refine zg_irem F (by decide) (pk_rem hn8 (by decide) (by decide)) dF_floorMod_2 ?_
  refine zg_istore_n F rfl (by rw [hn]; decide) (L' := [(2, _), (0, _), (1, _)]) rfl dF_floorMod_3 ?_
  refine zg_iload_n F 1 rfl rfl dF_floorMod_4 ?_
  refine zg_iload_n F 2 rfl rfl dF_floorMod_5 ?_
  refine zg_ixor F rfl dF_floorMod_6 ?_
  refine zg_if_geT F (tgt := 18) dF_floorMod_7 (by decide) (Int32.not_lt.mp (zx_xor hn8)) ?_
  refine zg_iload_n F 0 rfl rfl dF_floorMod_18 ?_
  exact zg_iret F E (Nat.zero_le _) (Nat.zero_le _) (fun _ _ h => h) dF_floorMod_19
set_option maxRecDepth 100000 in
set_option maxHeartbeats 4000000 in
theorem zN_cellOf (l : Launch) (D : va_G) (A : Nat → ClassId) (base : Nat) (P : zg_P) (n : Nat) (hn8 : n < 2 ^ 31) : zg_Met l zm_N_cellOf zc_N_cellOf 1 (some .int) 1 0 0 D A base [.int (nI n)] (P) (some (.int (nI (n % 8)))) (P) := by
  refine zg_met (by decide) (Nat.le_of_ble_eq_true rfl) ?_
  intro K hl hD hA hz hn hnm F E
  subst hl hD hA hz
  show zg_G K (P) 0 0 0 [(0, .int (nI n))] []
  refine zg_iload_n F 0 rfl rfl dN_cellOf_0 ?_
  refine zg_bipush F (v := nI 8) (by decide) dN_cellOf_1 ?_
  refine zg_callS F (zF_floorMod _ _ _ _ _ n hn8) zv_F_floorMod zu_F_floorMod zl_F_floorMod rfl ⟨by decide, by decide⟩ ⟨by decide, by decide⟩ rfl (Nat.le_of_ble_eq_true rfl) dN_cellOf_3 ?_
  exact zg_iret F E (Nat.zero_le _) (Nat.zero_le _) (fun _ _ h => h) dN_cellOf_6
set_option maxRecDepth 100000 in
set_option maxHeartbeats 4000000 in
theorem zX_placeOf (l : Launch) (D : va_G) (A : Nat → ClassId) (base : Nat) (P : zg_P) (s leg : Nat) : zg_Met l zm_X_placeOf zc_X_placeOf 2 (some .int) 0 0 0 D A base [.int (nI s), .int (nI leg)] (P) (some (.int (nI (s * 4 + leg)))) (P) := by
  refine zg_met (by decide) (Nat.le_of_ble_eq_true rfl) ?_
  intro K hl hD hA hz hn hnm F E
  subst hl hD hA hz
  show zg_G K (P) 0 0 0 [(0, .int (nI s)), (1, .int (nI leg))] []
  refine zg_iload_n F 0 rfl rfl dX_placeOf_0 ?_
  refine zg_iconst F (v := nI 4) (by decide) dX_placeOf_1 ?_
  refine zg_imul F (by first | exact pk_mul _ _ | rfl) dX_placeOf_2 ?_
  refine zg_iload_n F 1 rfl rfl dX_placeOf_3 ?_
  refine zg_iadd F (by first | exact nI_add _ _ | rfl) dX_placeOf_4 ?_
  exact zg_iret F E (Nat.zero_le _) (Nat.zero_le _) (fun _ _ h => h) dX_placeOf_5
set_option maxRecDepth 100000 in
set_option maxHeartbeats 4000000 in
theorem zN_isFull (l : Launch) (D : va_G) (A : Nat → ClassId) (base : Nat) (x sz : Nat) (v : zg_w) (τ : zx_S) (p : Nat) (hp : p < 16) : zg_Met l zm_N_isFull zc_N_isFull 1 (some .boolean) 0 0 0 D A base [.ref (x + (22 + 3 * p))] (zx_P A x v sz τ) (some (.int (zb ((τ (22 + 3 * p)).1 3 = nI 8)))) (zx_P A x v sz τ) := by
  refine zg_met (by decide) (Nat.le_of_ble_eq_true rfl) ?_
  intro K hl hD hA hz hn hnm F E
  subst hl hD hA hz
  show zg_G K (zx_P (zk_A K) x v sz τ) 0 0 0 [(0, .ref (x + (22 + 3 * p)))] []
  refine zg_aload_n F 0 rfl rfl dN_isFull_0 ?_
  refine zg_get F (fun _ _ h => zx_gl h (by omega)) rfl zi_N 3 (by decide) rfl zk_82 rfl dN_isFull_1 ?_
  refine zg_bipush F (v := nI 8) (by decide) dN_isFull_4 ?_
  by_cases h1 : (τ (22 + 3 * p)).1 3 = nI 8
  · have e : zb ((τ (22 + 3 * p)).1 3 = nI 8) = nI 1 := if_pos h1
    rw [e] at E
    refine zg_icmp_neF F dN_isFull_6 (tgt := 13) (by decide) (h1) ?_
    refine zg_iconst F (v := nI 1) (by decide) dN_isFull_9 ?_
    refine zg_goto F (tgt := 14) dN_isFull_10 (by decide) ?_
    exact zg_zret F E rfl (Nat.zero_le _) (Nat.zero_le _) (fun _ _ h => h) dN_isFull_14
  · have e : zb ((τ (22 + 3 * p)).1 3 = nI 8) = nI 0 := if_neg h1
    rw [e] at E
    refine zg_icmp_neT F (tgt := 13) dN_isFull_6 (by decide) (h1) ?_
    refine zg_iconst F (v := nI 0) (by decide) dN_isFull_13 ?_
    exact zg_zret F E rfl (Nat.zero_le _) (Nat.zero_le _) (fun _ _ h => h) dN_isFull_14
theorem zxI_s {τ : zx_S} {o i : Nat} {n : Int32} : (zxI τ o i n o).1 i = n := by simp [zxI, zx_up, upd]
theorem zxI_n {τ : zx_S} {o i j : Nat} {n : Int32} (h : j ≠ i) : (zxI τ o i n o).1 j = (τ o).1 j := by simp [zxI, zx_up, upd, h]
theorem zxI_o {τ : zx_S} {o i q : Nat} {n : Int32} (h : q ≠ o) : zxI τ o i n q = τ q := by simp [zxI, zx_up, h]
theorem zxI_g {τ : zx_S} {o : Nat} {n a : Int32} (h : (τ o).1 2 = a) : (zxI τ o 3 n o).1 2 = a := by rw [zxI_n (by decide)]; exact h
set_option maxRecDepth 100000 in
set_option maxHeartbeats 4000000 in
theorem zN_add (l : Launch) (D : va_G) (A : Nat → ClassId) (base : Nat) (x sz : Nat) (v : zg_w) (τ : zx_S) (p g b place : Nat) (n : Int32) (hp : p < 16) (hg : (τ (22 + 3 * p)).1 2 = nI g) (hb : (τ (22 + 3 * p)).1 3 = nI b) (hs : g + (b + 1) < 2 ^ 31) : zg_Met l zm_N_add zc_N_add 4 (some .int) 2 0 0 D A base [.ref (x + (22 + 3 * p)), .int (nI place), .int n] (zx_P A x v sz τ) (some (.int (nI (g + (b + 1))))) (zx_P A x v sz (zx_add τ p g b place n)) := by
  refine zg_met (by decide) (Nat.le_of_ble_eq_true rfl) ?_
  intro K hl hD hA hz hn hnm F E
  subst hl hD hA hz
  show zg_G K (zx_P (zk_A K) x v sz τ) 0 0 0 [(0, .ref (x + (22 + 3 * p))), (1, .int (nI place)), (2, .int n)] []
  refine zg_aload_n F 0 rfl rfl dN_add_0 ?_
  refine zg_dup F rfl dN_add_1 ?_
  refine zg_get F (fun _ _ h => zx_gl h (by omega)) rfl zi_N 3 (by decide) rfl zk_82 rfl dN_add_2 ?_
  refine zg_eqi (hb) ?_
  refine zg_iconst F (v := nI 1) (by decide) dN_add_5 ?_
  refine zg_iadd F (by first | exact nI_add _ _ | rfl) dN_add_6 ?_
  refine zg_put F (fun _ _ h => zx_gl h (by omega)) rfl zi_N zy_N zt_N zn_N 3 (by decide) rfl zk_82 rfl rfl rfl rfl (Nat.le_of_ble_eq_true rfl) (fun w z h => zx_pl (by omega) 3 (by decide) _ w z h) dN_add_7 ?_
  refine zg_aload_n F 0 rfl rfl dN_add_10 ?_
  refine zg_get F (fun _ _ h => zx_gl h (by omega)) rfl zi_N 2 (by decide) rfl zk_80 rfl dN_add_11 ?_
  refine zg_eqi ((zxI_g hg)) ?_
  refine zg_aload_n F 0 rfl rfl dN_add_14 ?_
  refine zg_get F (fun _ _ h => zx_gl h (by omega)) rfl zi_N 3 (by decide) rfl zk_82 rfl dN_add_15 ?_
  refine zg_eqi (zxI_s) ?_
  refine zg_iadd F (by first | exact nI_add _ _ | rfl) dN_add_18 ?_
  refine zg_istore_n F rfl (by rw [hn]; decide) (L' := [(3, _), (0, _), (1, _), (2, _)]) rfl dN_add_19 ?_
  refine zg_aload_n F 1 rfl rfl dN_add_20 ?_
  refine zg_get F (fun _ _ h => zx_gl h (by omega)) rfl zi_N 0 (by decide) rfl zk_76 rfl dN_add_21 ?_
  refine zg_iload_n F 0 rfl rfl dN_add_24 ?_
  refine zg_callS F (zN_cellOf _ _ _ _ _ (g + (b + 1)) hs) zv_N_cellOf zu_N_cellOf zk_433 rfl ⟨by decide, by decide⟩ ⟨by decide, by decide⟩ rfl (Nat.le_of_ble_eq_true rfl) dN_add_25 ?_
  refine zg_iload_n F 2 rfl rfl dN_add_28 ?_
  refine zg_iast F (fun _ _ h => zx_gk h 1 (Or.inl rfl) (by omega)) (by show _ < 8; omega) (by decide) (fun w z h => zx_wk 1 (Or.inl rfl) (by omega) _ _ w z h) dN_add_29 ?_
  refine zg_aload_n F 1 rfl rfl dN_add_30 ?_
  refine zg_get F (fun _ _ h => zx_gl h (by omega)) rfl zi_N 1 (by decide) rfl zk_78 rfl dN_add_31 ?_
  refine zg_iload_n F 0 rfl rfl dN_add_34 ?_
  refine zg_callS F (zN_cellOf _ _ _ _ _ (g + (b + 1)) hs) zv_N_cellOf zu_N_cellOf zk_433 rfl ⟨by decide, by decide⟩ ⟨by decide, by decide⟩ rfl (Nat.le_of_ble_eq_true rfl) dN_add_35 ?_
  refine zg_iload_n F 3 rfl rfl dN_add_38 ?_
  refine zg_iast F (fun _ _ h => zx_gk h 2 (Or.inr rfl) (by omega)) (by show _ < 8; omega) (by decide) (fun w z h => zx_wk 2 (Or.inr rfl) (by omega) _ _ w z h) dN_add_39 ?_
  refine zg_iload_n F 0 rfl rfl dN_add_40 ?_
  exact zg_iret F E (Nat.zero_le _) (Nat.zero_le _) (fun _ _ h => h) dN_add_41
set_option maxRecDepth 100000 in
set_option maxHeartbeats 4000000 in
theorem zN_removeUpTo (l : Launch) (D : va_G) (A : Nat → ClassId) (base : Nat) (x sz : Nat) (v : zg_w) (τ : zx_S) (p : Nat) (u : Int32) (hp : p < 16) : zg_Met l zm_N_removeUpTo zc_N_removeUpTo 3 (some .int) 0 0 0 D A base [.ref (x + (22 + 3 * p)), .int u] (zx_P A x v sz τ) (some (.int (u - (τ (22 + 3 * p)).1 2))) (zx_P A x v sz (zx_rem τ p u)) := by
  refine zg_met (by decide) (Nat.le_of_ble_eq_true rfl) ?_
  intro K hl hD hA hz hn hnm F E
  subst hl hD hA hz
  show zg_G K (zx_P (zk_A K) x v sz τ) 0 0 0 [(0, .ref (x + (22 + 3 * p))), (1, .int u)] []
  refine zg_iload_n F 1 rfl rfl dN_removeUpTo_0 ?_
  refine zg_aload_n F 0 rfl rfl dN_removeUpTo_1 ?_
  refine zg_get F (fun _ _ h => zx_gl h (by omega)) rfl zi_N 2 (by decide) rfl zk_80 rfl dN_removeUpTo_2 ?_
  refine zg_isub F rfl dN_removeUpTo_5 ?_
  refine zg_istore_n F rfl (by rw [hn]; decide) (L' := [(2, _), (0, _), (1, _)]) rfl dN_removeUpTo_6 ?_
  refine zg_aload_n F 1 rfl rfl dN_removeUpTo_7 ?_
  refine zg_dup F rfl dN_removeUpTo_8 ?_
  refine zg_get F (fun _ _ h => zx_gl h (by omega)) rfl zi_N 3 (by decide) rfl zk_82 rfl dN_removeUpTo_9 ?_
  refine zg_iload_n F 0 rfl rfl dN_removeUpTo_12 ?_
  refine zg_isub F rfl dN_removeUpTo_13 ?_
  refine zg_put F (fun _ _ h => zx_gl h (by omega)) rfl zi_N zy_N zt_N zn_N 3 (by decide) rfl zk_82 rfl rfl rfl rfl (Nat.le_of_ble_eq_true rfl) (fun w z h => zx_pl (by omega) 3 (by decide) _ w z h) dN_removeUpTo_14 ?_
  refine zg_aload_n F 1 rfl rfl dN_removeUpTo_17 ?_
  refine zg_iload_n F 2 rfl rfl dN_removeUpTo_18 ?_
  refine zg_put F (fun _ _ h => zx_gl h (by omega)) rfl zi_N zy_N zt_N zn_N 2 (by decide) rfl zk_80 rfl rfl rfl rfl (Nat.le_of_ble_eq_true rfl) (fun w z h => zx_pl (by omega) 2 (by decide) _ w z h) dN_removeUpTo_19 ?_
  refine zg_iload_n F 0 rfl rfl dN_removeUpTo_22 ?_
  exact zg_iret F E (Nat.zero_le _) (Nat.zero_le _) (fun _ _ h => h) dN_removeUpTo_23
set_option maxRecDepth 100000 in
set_option maxHeartbeats 4000000 in
theorem zN_loseAll (l : Launch) (D : va_G) (A : Nat → ClassId) (base : Nat) (x sz : Nat) (v : zg_w) (τ : zx_S) (p : Nat) (hp : p < 16) : zg_Met l zm_N_loseAll zc_N_loseAll 2 (some .int) 0 0 0 D A base [.ref (x + (22 + 3 * p))] (zx_P A x v sz τ) (some (.int (zx_lost τ p))) (zx_P A x v sz (zx_los τ p)) := by
  refine zg_met (by decide) (Nat.le_of_ble_eq_true rfl) ?_
  intro K hl hD hA hz hn hnm F E
  subst hl hD hA hz
  show zg_G K (zx_P (zk_A K) x v sz τ) 0 0 0 [(0, .ref (x + (22 + 3 * p)))] []
  refine zg_aload_n F 0 rfl rfl dN_loseAll_0 ?_
  refine zg_get F (fun _ _ h => zx_gl h (by omega)) rfl zi_N 5 (by decide) rfl zk_86 rfl dN_loseAll_1 ?_
  by_cases h1 : (τ (22 + 3 * p)).1 5 = 0
  · refine zg_if_neF F dN_loseAll_4 (tgt := 11) (by decide) (h1) ?_
    refine zg_iconst F (v := nI 0) (by decide) dN_loseAll_7 ?_
    refine zg_goto F (tgt := 12) dN_loseAll_8 (by decide) ?_
    refine zg_aload_n F 0 rfl rfl dN_loseAll_12 ?_
    refine zg_get F (fun _ _ h => zx_gl h (by omega)) rfl zi_N 6 (by decide) rfl zk_88 rfl dN_loseAll_13 ?_
    by_cases h2 : (τ (22 + 3 * p)).1 6 = 0
    · refine zg_if_neF F dN_loseAll_16 (tgt := 23) (by decide) (h2) ?_
      rw [zx_lost, if_pos h1, if_pos h2] at E
      refine zg_iconst F (v := nI 0) (by decide) dN_loseAll_19 ?_
      refine zg_goto F (tgt := 24) dN_loseAll_20 (by decide) ?_
      refine zg_iadd F rfl dN_loseAll_24 ?_
      refine zg_istore_n F rfl (by rw [hn]; decide) (L' := [(1, _), (0, _)]) rfl dN_loseAll_25 ?_
      refine zg_aload_n F 1 rfl rfl dN_loseAll_26 ?_
      refine zg_iconst F (v := nI 0) (by decide) dN_loseAll_27 ?_
      refine zg_put F (fun _ _ h => zx_gl h (by omega)) rfl zi_N zy_N zt_N zn_N 5 (by decide) rfl zk_86 rfl rfl rfl rfl (Nat.le_of_ble_eq_true rfl) (fun w z h => zx_pl (by omega) 5 (by decide) _ w z h) dN_loseAll_28 ?_
      refine zg_aload_n F 1 rfl rfl dN_loseAll_31 ?_
      refine zg_iconst F (v := nI 0) (by decide) dN_loseAll_32 ?_
      refine zg_put F (fun _ _ h => zx_gl h (by omega)) rfl zi_N zy_N zt_N zn_N 6 (by decide) rfl zk_88 rfl rfl rfl rfl (Nat.le_of_ble_eq_true rfl) (fun w z h => zx_pl (by omega) 6 (by decide) _ w z h) dN_loseAll_33 ?_
      refine zg_iload_n F 0 rfl rfl dN_loseAll_36 ?_
      exact zg_iret F E (Nat.zero_le _) (Nat.zero_le _) (fun _ _ h => h) dN_loseAll_37
    · refine zg_if_neT F (tgt := 23) dN_loseAll_16 (by decide) (h2) ?_
      rw [zx_lost, if_pos h1, if_neg h2] at E
      refine zg_iconst F (v := nI 1) (by decide) dN_loseAll_23 ?_
      refine zg_iadd F rfl dN_loseAll_24 ?_
      refine zg_istore_n F rfl (by rw [hn]; decide) (L' := [(1, _), (0, _)]) rfl dN_loseAll_25 ?_
      refine zg_aload_n F 1 rfl rfl dN_loseAll_26 ?_
      refine zg_iconst F (v := nI 0) (by decide) dN_loseAll_27 ?_
      refine zg_put F (fun _ _ h => zx_gl h (by omega)) rfl zi_N zy_N zt_N zn_N 5 (by decide) rfl zk_86 rfl rfl rfl rfl (Nat.le_of_ble_eq_true rfl) (fun w z h => zx_pl (by omega) 5 (by decide) _ w z h) dN_loseAll_28 ?_
      refine zg_aload_n F 1 rfl rfl dN_loseAll_31 ?_
      refine zg_iconst F (v := nI 0) (by decide) dN_loseAll_32 ?_
      refine zg_put F (fun _ _ h => zx_gl h (by omega)) rfl zi_N zy_N zt_N zn_N 6 (by decide) rfl zk_88 rfl rfl rfl rfl (Nat.le_of_ble_eq_true rfl) (fun w z h => zx_pl (by omega) 6 (by decide) _ w z h) dN_loseAll_33 ?_
      refine zg_iload_n F 0 rfl rfl dN_loseAll_36 ?_
      exact zg_iret F E (Nat.zero_le _) (Nat.zero_le _) (fun _ _ h => h) dN_loseAll_37
  · refine zg_if_neT F (tgt := 11) dN_loseAll_4 (by decide) (h1) ?_
    refine zg_iconst F (v := nI 1) (by decide) dN_loseAll_11 ?_
    refine zg_aload_n F 0 rfl rfl dN_loseAll_12 ?_
    refine zg_get F (fun _ _ h => zx_gl h (by omega)) rfl zi_N 6 (by decide) rfl zk_88 rfl dN_loseAll_13 ?_
    by_cases h2 : (τ (22 + 3 * p)).1 6 = 0
    · refine zg_if_neF F dN_loseAll_16 (tgt := 23) (by decide) (h2) ?_
      rw [zx_lost, if_neg h1, if_pos h2] at E
      refine zg_iconst F (v := nI 0) (by decide) dN_loseAll_19 ?_
      refine zg_goto F (tgt := 24) dN_loseAll_20 (by decide) ?_
      refine zg_iadd F rfl dN_loseAll_24 ?_
      refine zg_istore_n F rfl (by rw [hn]; decide) (L' := [(1, _), (0, _)]) rfl dN_loseAll_25 ?_
      refine zg_aload_n F 1 rfl rfl dN_loseAll_26 ?_
      refine zg_iconst F (v := nI 0) (by decide) dN_loseAll_27 ?_
      refine zg_put F (fun _ _ h => zx_gl h (by omega)) rfl zi_N zy_N zt_N zn_N 5 (by decide) rfl zk_86 rfl rfl rfl rfl (Nat.le_of_ble_eq_true rfl) (fun w z h => zx_pl (by omega) 5 (by decide) _ w z h) dN_loseAll_28 ?_
      refine zg_aload_n F 1 rfl rfl dN_loseAll_31 ?_
      refine zg_iconst F (v := nI 0) (by decide) dN_loseAll_32 ?_
      refine zg_put F (fun _ _ h => zx_gl h (by omega)) rfl zi_N zy_N zt_N zn_N 6 (by decide) rfl zk_88 rfl rfl rfl rfl (Nat.le_of_ble_eq_true rfl) (fun w z h => zx_pl (by omega) 6 (by decide) _ w z h) dN_loseAll_33 ?_
      refine zg_iload_n F 0 rfl rfl dN_loseAll_36 ?_
      exact zg_iret F E (Nat.zero_le _) (Nat.zero_le _) (fun _ _ h => h) dN_loseAll_37
    · refine zg_if_neT F (tgt := 23) dN_loseAll_16 (by decide) (h2) ?_
      rw [zx_lost, if_neg h1, if_neg h2] at E
      refine zg_iconst F (v := nI 1) (by decide) dN_loseAll_23 ?_
      refine zg_iadd F rfl dN_loseAll_24 ?_
      refine zg_istore_n F rfl (by rw [hn]; decide) (L' := [(1, _), (0, _)]) rfl dN_loseAll_25 ?_
      refine zg_aload_n F 1 rfl rfl dN_loseAll_26 ?_
      refine zg_iconst F (v := nI 0) (by decide) dN_loseAll_27 ?_
      refine zg_put F (fun _ _ h => zx_gl h (by omega)) rfl zi_N zy_N zt_N zn_N 5 (by decide) rfl zk_86 rfl rfl rfl rfl (Nat.le_of_ble_eq_true rfl) (fun w z h => zx_pl (by omega) 5 (by decide) _ w z h) dN_loseAll_28 ?_
      refine zg_aload_n F 1 rfl rfl dN_loseAll_31 ?_
      refine zg_iconst F (v := nI 0) (by decide) dN_loseAll_32 ?_
      refine zg_put F (fun _ _ h => zx_gl h (by omega)) rfl zi_N zy_N zt_N zn_N 6 (by decide) rfl zk_88 rfl rfl rfl rfl (Nat.le_of_ble_eq_true rfl) (fun w z h => zx_pl (by omega) 6 (by decide) _ w z h) dN_loseAll_33 ?_
      refine zg_iload_n F 0 rfl rfl dN_loseAll_36 ?_
      exact zg_iret F E (Nat.zero_le _) (Nat.zero_le _) (fun _ _ h => h) dN_loseAll_37
set_option maxRecDepth 100000 in
set_option maxHeartbeats 4000000 in
theorem zX_laneOf (l : Launch) (D : va_G) (A : Nat → ClassId) (base : Nat) (x sz : Nat) (v : zg_w) (τ : zx_S) (a b : Nat) (ha : a < 4) (hb : b < 4) : zg_Met l zm_X_laneOf zc_X_laneOf 3 (some (.object "IslandRights$Lane")) 0 0 0 D A base [.ref x, .int (nI a), .int (nI b)] (zx_P A x v sz τ) (some (.ref (x + (22 + 3 * (a * 4 + b))))) (zx_P A x v sz τ) := by
  refine zg_met (by decide) (Nat.le_of_ble_eq_true rfl) ?_
  intro K hl hD hA hz hn hnm F E
  subst hl hD hA hz
  show zg_G K (zx_P (zk_A K) x v sz τ) 0 0 0 [(0, .ref x), (1, .int (nI a)), (2, .int (nI b))] []
  refine zg_aload_n F 0 rfl rfl dX_laneOf_0 ?_
  refine zg_get F (fun _ _ h => zx_g0 h) rfl zi_X 5 (by decide) rfl zk_110 rfl dX_laneOf_1 ?_
  refine zg_iload_n F 1 rfl rfl dX_laneOf_4 ?_
  refine zg_iconst F (v := nI 4) (by decide) dX_laneOf_5 ?_
  refine zg_imul F (by first | exact pk_mul _ _ | rfl) dX_laneOf_6 ?_
  refine zg_iload_n F 2 rfl rfl dX_laneOf_7 ?_
  refine zg_iadd F (by first | exact nI_add _ _ | rfl) dX_laneOf_8 ?_
  refine zg_aald F (t0 := 4) (C := "IslandRights$Lane") (fun _ _ h => zx_g6 h) rfl (by show _ < 16; omega) (by decide) (if_pos (by omega)) dX_laneOf_9 ?_
  exact zg_aret F E (Nat.zero_le _) (Nat.zero_le _) (fun _ _ h => h) dX_laneOf_10
set_option maxRecDepth 100000 in
set_option maxHeartbeats 4000000 in
theorem zP_fits (l : Launch) (D : va_G) (A : Nat → ClassId) (base : Nat) (x sz : Nat) (v : zg_w) (τ : zx_S) (i : Nat) (hi4 : i < 4) (j : Nat) (f : Nat → Int32) (pn n : Int32) (hj : zx_J A x v j f pn) : zg_Met l zm_P_fits zc_P_fits 4 (some .boolean) 0 0 0 D A base [.ref (x + (10 + 3 * i)), .ref j, .int n] (zx_P A x v sz τ) (some (.int (zx_fit τ i f n))) (zx_P A x v sz τ) := by
  refine zg_met (by decide) (Nat.le_of_ble_eq_true rfl) ?_
  intro K hl hD hA hz hn hnm F E
  subst hl hD hA hz
  show zg_G K (zx_P (zk_A K) x v sz τ) 0 0 0 [(0, .ref (x + (10 + 3 * i))), (1, .ref j), (2, .int n)] []
  refine zg_iconst F (v := nI 0) (by decide) dP_fits_0 ?_
  refine zg_istore_n F rfl (by rw [hn]; decide) (L' := [(3, _), (0, _), (1, _), (2, _)]) rfl dP_fits_1 ?_
  have loop : ∀ r k, k + r = 16 → (∀ q, q < k → ¬ (τ (10 + 3 * i + 1)).1 q < n * f q) → zg_G K (zx_P (zk_A K) x v sz τ) 0 0 2 [(3, .int (nI k)), (0, .ref (x + (10 + 3 * i))), (1, .ref j), (2, .int n)] [] := by
    intro r
    induction r with
    | zero =>
      intro k hk hq
      obtain rfl : k = 16 := by omega
      have e : zx_fit τ i f n = nI 1 := if_pos hq
      rw [e] at E
      refine zg_iload_n F 0 rfl rfl dP_fits_2 ?_
      refine zg_bipush F (v := nI 16) (by decide) dP_fits_3 ?_
      refine zg_icmp_geT F (tgt := 33) dP_fits_5 (by decide) (nI_le (by omega) (by omega)) ?_
      refine zg_iconst F (v := nI 1) (by decide) dP_fits_33 ?_
      exact zg_zret F E rfl (Nat.zero_le _) (Nat.zero_le _) (fun _ _ h => h) dP_fits_34
    | succ r ih =>
      intro k hk hq
      refine zg_iload_n F 0 rfl rfl dP_fits_2 ?_
      refine zg_bipush F (v := nI 16) (by decide) dP_fits_3 ?_
      refine zg_icmp_geF F dP_fits_5 (tgt := 33) (by decide) (nI_ge (by omega) (by omega)) ?_
      refine zg_aload_n F 1 rfl rfl dP_fits_8 ?_
      refine zg_get F (fun _ _ h => zx_gp h (by omega)) rfl zi_P 0 (by decide) rfl zk_54 rfl dP_fits_9 ?_
      refine zg_iload_n F 0 rfl rfl dP_fits_12 ?_
      refine zg_iald F (fun _ _ h => zx_go h (by omega)) (by show _ < 16; omega) (by decide) rfl dP_fits_13 ?_
      refine zg_iload_n F 3 rfl rfl dP_fits_14 ?_
      refine zg_aload_n F 2 rfl rfl dP_fits_15 ?_
      refine zg_get F (fun _ _ h => zx_J1 hj h) rfl zi_J 0 (by decide) rfl zk_36 rfl dP_fits_16 ?_
      refine zg_iload_n F 0 rfl rfl dP_fits_19 ?_
      refine zg_iald F (fun _ _ h => zx_J2 hj h) (by show _ < 16; omega) (by decide) rfl dP_fits_20 ?_
      refine zg_imul F rfl dP_fits_21 ?_
      by_cases h1 : (τ (10 + 3 * i + 1)).1 k < n * f k
      · have e : zx_fit τ i f n = nI 0 := if_neg (fun q => q k (by omega) h1)
        rw [e] at E
        refine zg_icmp_geF F dP_fits_22 (tgt := 27) (by decide) (Int32.not_le.mpr h1) ?_
        refine zg_iconst F (v := nI 0) (by decide) dP_fits_25 ?_
        exact zg_zret F E rfl (Nat.zero_le _) (Nat.zero_le _) (fun _ _ h => h) dP_fits_26
      · refine zg_icmp_geT F (tgt := 27) dP_fits_22 (by decide) (Int32.not_lt.mp h1) ?_
        refine zg_iinc F 0 rfl (by first | exact zc_inc _ | rfl) (by rw [hn]; decide) (L' := [(3, _), (0, _), (1, _), (2, _)]) rfl dP_fits_27 ?_
        refine zg_goto F (tgt := 2) dP_fits_30 (by decide) ?_
        exact ih (k + 1) (by omega) (lt_s hq h1)
  exact loop 16 0 rfl (fun q h => absurd h (by omega))
set_option maxRecDepth 100000 in
set_option maxHeartbeats 4000000 in
theorem zX_costOf (l : Launch) (D : va_G) (A : Nat → ClassId) (base : Nat) (x sz : Nat) (v : zg_w) (τ : zx_S) (j : Nat) (f : Nat → Int32) (pn n : Int32) (hj : zx_J A x v j f pn) : zg_Met l zm_X_costOf zc_X_costOf 6 (some .long) 0 0 0 D A base [.ref x, .ref j, .int n] (zx_P A x v sz τ) (some (.long (zx_sum τ f 16 * n.toInt64))) (zx_P A x v sz τ) := by
  refine zg_met (by decide) (Nat.le_of_ble_eq_true rfl) ?_
  intro K hl hD hA hz hn hnm F E
  subst hl hD hA hz
  show zg_G K (zx_P (zk_A K) x v sz τ) 0 0 0 [(0, .ref x), (1, .ref j), (2, .int n)] []
  refine zg_lconst F (v := 0) rfl dX_costOf_0 ?_
  refine zg_lstore_n F rfl (by rw [hn]; decide) (L' := [(3, _), (0, _), (1, _), (2, _)]) rfl dX_costOf_1 ?_
  refine zg_iconst F (v := nI 0) (by decide) dX_costOf_2 ?_
  refine zg_istore F (by rw [hn]; decide) (L' := [(5, _), (3, _), (0, _), (1, _), (2, _)]) rfl dX_costOf_3 ?_
  have loop : ∀ r i, i + r = 16 → zg_G K (zx_P (zk_A K) x v sz τ) 0 0 5 [(5, .int (nI i)), (3, .long (zx_sum τ f i)), (0, .ref x), (1, .ref j), (2, .int n)] [] := by
    intro r
    induction r with
    | zero =>
      intro i hi
      obtain rfl : i = 16 := by omega
      refine zg_iload F 0 rfl dX_costOf_5 ?_
      refine zg_bipush F (v := nI 16) (by decide) dX_costOf_7 ?_
      refine zg_icmp_geT F (tgt := 38) dX_costOf_9 (by decide) (nI_le (by omega) (by omega)) ?_
      refine zg_lload_n F 1 rfl rfl dX_costOf_38 ?_
      refine zg_iload_n F 4 rfl rfl dX_costOf_39 ?_
      refine zg_i2l F rfl dX_costOf_40 ?_
      refine zg_lmul F rfl dX_costOf_41 ?_
      exact zg_lret F E (Nat.zero_le _) (Nat.zero_le _) (fun _ _ h => h) dX_costOf_42
    | succ r ih =>
      intro i hi
      refine zg_iload F 0 rfl dX_costOf_5 ?_
      refine zg_bipush F (v := nI 16) (by decide) dX_costOf_7 ?_
      refine zg_icmp_geF F dX_costOf_9 (tgt := 38) (by decide) (nI_ge (by omega) (by omega)) ?_
      refine zg_lload_n F 1 rfl rfl dX_costOf_12 ?_
      refine zg_aload_n F 3 rfl rfl dX_costOf_13 ?_
      refine zg_get F (fun _ _ h => zx_J1 hj h) rfl zi_J 0 (by decide) rfl zk_37 rfl dX_costOf_14 ?_
      refine zg_iload F 0 rfl dX_costOf_17 ?_
      refine zg_iald F (fun _ _ h => zx_J2 hj h) (by show _ < 16; omega) (by decide) rfl dX_costOf_19 ?_
      refine zg_i2l F rfl dX_costOf_20 ?_
      refine zg_aload_n F 2 rfl rfl dX_costOf_21 ?_
      refine zg_get F (fun _ _ h => zx_g0 h) rfl zi_X 1 (by decide) rfl zk_106 rfl dX_costOf_22 ?_
      refine zg_iload F 0 rfl dX_costOf_25 ?_
      refine zg_iald F (fun _ _ h => zx_ga h 2 (by decide)) (by show _ < 16; omega) (by decide) rfl dX_costOf_27 ?_
      refine zg_i2l F rfl dX_costOf_28 ?_
      refine zg_lmul F rfl dX_costOf_29 ?_
      refine zg_ladd F rfl dX_costOf_30 ?_
      refine zg_lstore_n F rfl (by rw [hn]; decide) (L' := [(3, _), (5, _), (0, _), (1, _), (2, _)]) rfl dX_costOf_31 ?_
      refine zg_iinc F 1 rfl (by first | exact zc_inc _ | rfl) (by rw [hn]; decide) (L' := [(5, _), (3, _), (0, _), (1, _), (2, _)]) rfl dX_costOf_32 ?_
      refine zg_goto F (tgt := 5) dX_costOf_35 (by decide) ?_
      refine zg_sub [0, 1, 2, 3, 4] (L' := [(5, _), (3, _), (0, _), (1, _), (2, _)]) rfl ?_
      exact ih (i + 1) (by omega)
  exact loop 16 0 rfl
set_option maxRecDepth 100000 in
set_option maxHeartbeats 4000000 in
theorem zX_moveToSold (l : Launch) (D : va_G) (A : Nat → ClassId) (base : Nat) (x sz : Nat) (v : zg_w) (τ : zx_S) (port : Nat) (h0 : port < 4) (j : Nat) (f : Nat → Int32) (pn n : Int32) (hj : zx_J A x v j f pn) : zg_Met l zm_X_moveToSold zc_X_moveToSold 7 none 0 0 0 D A base [.ref x, .int (nI port), .ref j, .int n] (zx_P A x v sz τ) none (zx_P A x v sz (zx_mov τ port f n 16)) := by
  refine zg_met (by decide) (Nat.le_of_ble_eq_true rfl) ?_
  intro K hl hD hA hz hn hnm F E
  subst hl hD hA hz
  show zg_G K (zx_P (zk_A K) x v sz τ) 0 0 0 [(0, .ref x), (1, .int (nI port)), (2, .ref j), (3, .int n)] []
  refine zg_aload_n F 0 rfl rfl dX_moveToSold_0 ?_
  refine zg_get F (fun _ _ h => zx_g0 h) rfl zi_X 4 (by decide) rfl zk_109 rfl dX_moveToSold_1 ?_
  refine zg_iload_n F 1 rfl rfl dX_moveToSold_4 ?_
  refine zg_aald F (t0 := 3) (C := "IslandRights$Port") (fun _ _ h => zx_g5 h) rfl (by show _ < 4; omega) (by decide) (if_pos (by omega)) dX_moveToSold_5 ?_
  refine zg_get F (fun _ _ h => zx_gp h (by omega)) rfl zi_P 0 (by decide) rfl zk_55 rfl dX_moveToSold_6 ?_
  refine zg_astore F (by rw [hn]; decide) (L' := [(4, _), (0, _), (1, _), (2, _), (3, _)]) rfl dX_moveToSold_9 ?_
  refine zg_iconst F (v := nI 0) (by decide) dX_moveToSold_11 ?_
  refine zg_istore F (by rw [hn]; decide) (L' := [(5, _), (4, _), (0, _), (1, _), (2, _), (3, _)]) rfl dX_moveToSold_12 ?_
  have loop : ∀ r i, i + r = 16 → zg_G K (zx_P (zk_A K) x v sz (zx_mov τ port f n i)) 0 0 14 [(5, .int (nI i)), (4, .ref (x + (10 + 3 * port + 1))), (0, .ref x), (1, .int (nI port)), (2, .ref j), (3, .int n)] [] := by
    intro r
    induction r with
    | zero =>
      intro i hi
      obtain rfl : i = 16 := by omega
      refine zg_iload F 0 rfl dX_moveToSold_14 ?_
      refine zg_bipush F (v := nI 16) (by decide) dX_moveToSold_16 ?_
      refine zg_icmp_geT F (tgt := 60) dX_moveToSold_18 (by decide) (nI_le (by omega) (by omega)) ?_
      exact zg_vret F E (Nat.zero_le _) (Nat.zero_le _) (fun _ _ h => h) dX_moveToSold_60
    | succ r ih =>
      intro i hi
      refine zg_iload F 0 rfl dX_moveToSold_14 ?_
      refine zg_bipush F (v := nI 16) (by decide) dX_moveToSold_16 ?_
      refine zg_icmp_geF F dX_moveToSold_18 (tgt := 60) (by decide) (nI_ge (by omega) (by omega)) ?_
      refine zg_iload_n F 5 rfl rfl dX_moveToSold_21 ?_
      refine zg_aload_n F 4 rfl rfl dX_moveToSold_22 ?_
      refine zg_get F (fun _ _ h => zx_J1 hj h) rfl zi_J 0 (by decide) rfl zk_37 rfl dX_moveToSold_23 ?_
      refine zg_iload F 0 rfl dX_moveToSold_26 ?_
      refine zg_iald F (fun _ _ h => zx_J2 hj h) (by show _ < 16; omega) (by decide) rfl dX_moveToSold_28 ?_
      refine zg_imul F rfl dX_moveToSold_29 ?_
      refine zg_istore F (by rw [hn]; decide) (L' := [(6, _), (5, _), (4, _), (0, _), (1, _), (2, _), (3, _)]) rfl dX_moveToSold_30 ?_
      refine zg_aload F 2 rfl dX_moveToSold_32 ?_
      refine zg_iload F 1 rfl dX_moveToSold_34 ?_
      refine zg_dup2 F rfl rfl dX_moveToSold_36 ?_
      refine zg_iald F (fun _ _ h => zx_go h (by omega)) (by show _ < 16; omega) (by decide) rfl dX_moveToSold_37 ?_
      refine zg_iload F 0 rfl dX_moveToSold_38 ?_
      refine zg_isub F rfl dX_moveToSold_40 ?_
      refine zg_iast F (fun _ _ h => zx_go h (by omega)) (by show _ < 16; omega) (by decide) (fun w z h => zx_wo (by omega) _ _ w z h) dX_moveToSold_41 ?_
      refine zg_aload_n F 3 rfl rfl dX_moveToSold_42 ?_
      refine zg_get F (fun _ _ h => zx_g0 h) rfl zi_X 2 (by decide) rfl zk_107 rfl dX_moveToSold_43 ?_
      refine zg_iload F 1 rfl dX_moveToSold_46 ?_
      refine zg_dup2 F rfl rfl dX_moveToSold_48 ?_
      refine zg_iald F (fun _ _ h => zx_ga h 3 (by decide)) (by show _ < 16; omega) (by decide) rfl dX_moveToSold_49 ?_
      refine zg_iload F 0 rfl dX_moveToSold_50 ?_
      refine zg_iadd F rfl dX_moveToSold_52 ?_
      refine zg_iast F (fun _ _ h => zx_ga h 3 (by decide)) (by show _ < 16; omega) (by decide) (fun w z h => zx_wa (o := 3) (by decide) _ _ w z h) dX_moveToSold_53 ?_
      refine zg_iinc F 1 rfl (by first | exact zc_inc _ | rfl) (by rw [hn]; decide) (L' := [(5, _), (6, _), (4, _), (0, _), (1, _), (2, _), (3, _)]) rfl dX_moveToSold_54 ?_
      refine zg_goto F (tgt := 14) dX_moveToSold_57 (by decide) ?_
      refine zg_sub [0, 2, 3, 4, 5, 6] (L' := [(5, _), (4, _), (0, _), (1, _), (2, _), (3, _)]) rfl ?_
      exact ih (i + 1) (by omega)
  exact loop 16 0 rfl
set_option maxRecDepth 100000 in
set_option maxHeartbeats 4000000 in
theorem zX_putInOutbox (l : Launch) (D : va_G) (A : Nat → ClassId) (base : Nat) (x sz : Nat) (v : zg_w) (τ : zx_S) (a b place g bx : Nat) (n : Int32) (ha : a < 4) (hb : b < 4) (hp : place < 16) (hg : (τ (22 + 3 * (a * 4 + b))).1 2 = nI g) (hbx : (τ (22 + 3 * (a * 4 + b))).1 3 = nI bx) (hs : g + (bx + 1) < 2 ^ 31) : zg_Met l zm_X_putInOutbox zc_X_putInOutbox 5 (some .int) 3 0 0 D A base [.ref x, .int (nI a), .int (nI b), .int (nI place), .int n] (zx_P A x v sz τ) (some (.int (nI (g + (bx + 1))))) (zx_P A x v sz (zx_add (zx_put τ a place n) (a * 4 + b) g bx place n)) := by
  refine zg_met (by decide) (Nat.le_of_ble_eq_true rfl) ?_
  intro K hl hD hA hz hn hnm F E
  subst hl hD hA hz
  show zg_G K (zx_P (zk_A K) x v sz τ) 0 0 0 [(0, .ref x), (1, .int (nI a)), (2, .int (nI b)), (3, .int (nI place)), (4, .int n)] []
  refine zg_aload_n F 0 rfl rfl dX_putInOutbox_0 ?_
  refine zg_get F (fun _ _ h => zx_g0 h) rfl zi_X 4 (by decide) rfl zk_109 rfl dX_putInOutbox_1 ?_
  refine zg_iload_n F 1 rfl rfl dX_putInOutbox_4 ?_
  refine zg_aald F (t0 := 3) (C := "IslandRights$Port") (fun _ _ h => zx_g5 h) rfl (by show _ < 4; omega) (by decide) (if_pos (by omega)) dX_putInOutbox_5 ?_
  refine zg_get F (fun _ _ h => zx_gp h (by omega)) rfl zi_P 0 (by decide) rfl zk_55 rfl dX_putInOutbox_6 ?_
  refine zg_iload_n F 3 rfl rfl dX_putInOutbox_9 ?_
  refine zg_dup2 F rfl rfl dX_putInOutbox_10 ?_
  refine zg_iald F (fun _ _ h => zx_go h (by omega)) (by show _ < 16; omega) (by decide) rfl dX_putInOutbox_11 ?_
  refine zg_iload F 4 rfl dX_putInOutbox_12 ?_
  refine zg_isub F rfl dX_putInOutbox_14 ?_
  refine zg_iast F (fun _ _ h => zx_go h (by omega)) (by show _ < 16; omega) (by decide) (fun w z h => zx_wo (by omega) _ _ w z h) dX_putInOutbox_15 ?_
  refine zg_aload_n F 0 rfl rfl dX_putInOutbox_16 ?_
  refine zg_get F (fun _ _ h => zx_g0 h) rfl zi_X 3 (by decide) rfl zk_108 rfl dX_putInOutbox_17 ?_
  refine zg_iload_n F 3 rfl rfl dX_putInOutbox_20 ?_
  refine zg_dup2 F rfl rfl dX_putInOutbox_21 ?_
  refine zg_iald F (fun _ _ h => zx_ga h 4 (by decide)) (by show _ < 16; omega) (by decide) rfl dX_putInOutbox_22 ?_
  refine zg_iload F 4 rfl dX_putInOutbox_23 ?_
  refine zg_iadd F rfl dX_putInOutbox_25 ?_
  refine zg_iast F (fun _ _ h => zx_ga h 4 (by decide)) (by show _ < 16; omega) (by decide) (fun w z h => zx_wa (o := 4) (by decide) _ _ w z h) dX_putInOutbox_26 ?_
  refine zg_aload_n F 0 rfl rfl dX_putInOutbox_27 ?_
  refine zg_iload_n F 1 rfl rfl dX_putInOutbox_28 ?_
  refine zg_iload_n F 2 rfl rfl dX_putInOutbox_29 ?_
  refine zg_callV F (zX_laneOf _ _ _ _ _ _ _ _ a b ha hb) zv_X_laneOf zu_X_laneOf zk_416 (fun _ _ h => zx_g0 h) rfl rfl ⟨by decide, by decide⟩ ⟨by decide, by decide⟩ rfl (Nat.le_of_ble_eq_true rfl) dX_putInOutbox_30 ?_
  refine zg_iload_n F 3 rfl rfl dX_putInOutbox_33 ?_
  refine zg_iload F 4 rfl dX_putInOutbox_34 ?_
  have e1 : zx_put τ a place n (22 + 3 * (a * 4 + b)) = τ (22 + 3 * (a * 4 + b)) := by unfold zx_put; rw [zxI_o (by omega), zxI_o (by omega)]
  refine zg_callV F (zN_add _ _ _ _ _ _ _ (zx_put τ a place n) (a * 4 + b) g bx place n (by omega) (by rw [e1]; exact hg) (by rw [e1]; exact hbx) hs) zv_N_add zu_N_add zk_429 (fun _ _ h => zx_gl h (by omega)) rfl rfl ⟨by decide, by decide⟩ ⟨by decide, by decide⟩ rfl (Nat.le_of_ble_eq_true rfl) dX_putInOutbox_36 ?_
  exact zg_iret F E (Nat.zero_le _) (Nat.zero_le _) (fun _ _ h => h) dX_putInOutbox_39
