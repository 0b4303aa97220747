set_option maxRecDepth 100000 in
set_option maxHeartbeats 4000000 in
theorem zM_sell (l : Launch) (D : va_G) (A : Nat → ClassId) (base : Nat) (mo sz : Nat) (w0 : zg_w) (σ : zm_S) (T port at' parts : Nat) (n : Int32) (h0 : port < 4) (h1 : at' + parts ≤ 420) (h2 : T < 80) (h3 : parts ≤ 4) (hT : σ.1 25 2 = nI T) : zg_Met l zm_M_sell zc_M_sell 8 (some .int) 2 0 0 D A base [.ref mo, .int (nI port), .int (nI at'), .int (nI parts), .int n] (zm_P A mo w0 sz σ) (some (.int (nI T))) (zm_P A mo w0 sz (zm_sell σ T port at' parts n)) := by
  refine zg_met (by decide) (Nat.le_of_ble_eq_true rfl) ?_
  intro K hl hD hA hz hn hnm F E
  subst hl hD hA hz
  show zg_G K (zm_P (zk_A K) mo w0 sz σ) 0 0 0 [(0, .ref mo), (1, .int (nI port)), (2, .int (nI at')), (3, .int (nI parts)), (4, .int n)] []
  refine zg_lconst F (v := 0) rfl dM_sell_0 ?_
  refine zg_lstore F (by rw [hn]; decide) (L' := [(5, _), (0, _), (1, _), (2, _), (3, _), (4, _)]) rfl dM_sell_1 ?_
  refine zg_iconst F (v := nI 0) (by decide) dM_sell_3 ?_
  refine zg_istore F (by rw [hn]; decide) (L' := [(7, _), (5, _), (0, _), (1, _), (2, _), (3, _), (4, _)]) rfl dM_sell_4 ?_
  have loop : ∀ r i, i + r = 16 → zg_G K (zm_P (zk_A K) mo w0 sz σ) 0 0 6 [(7, .int (nI i)), (5, .long (zm_sum σ at' parts i)), (0, .ref mo), (1, .int (nI port)), (2, .int (nI at')), (3, .int (nI parts)), (4, .int n)] [] := by
    intro r
    induction r with
    | zero =>
      intro i hi
      obtain rfl : i = 16 := by omega
      refine zg_iload F 0 rfl dM_sell_6 ?_
      refine zg_bipush F (v := nI 16) (by decide) dM_sell_8 ?_
      refine zg_icmp_geT F (tgt := 42) dM_sell_10 (by decide) (nI_le (by omega) (by omega)) ?_
      refine zg_aload_n F 2 rfl rfl dM_sell_42 ?_
      refine zg_iload_n F 3 rfl rfl dM_sell_43 ?_
      refine zg_iload_n F 4 rfl rfl dM_sell_44 ?_
      refine zg_iload_n F 5 rfl rfl dM_sell_45 ?_
      refine zg_iload F 6 rfl dM_sell_46 ?_
      refine zg_ineg F rfl dM_sell_48 ?_
      refine zg_callV F (zM_give _ _ _ _ _ _ _ _ port at' parts (-n) h0 h1) zv_M_give zu_M_give zk_664 (fun _ _ h => h.2.1.1) rfl rfl ⟨by decide, by decide⟩ ⟨by decide, by decide⟩ rfl (Nat.le_of_ble_eq_true rfl) dM_sell_49 ?_
      have hT1 : (zm_give σ port at' parts (-n) 16).1 25 2 = nI T := by rw [zm_give_o (by decide)]; exact hT
      have hT2 : (zm_copy (zm_give σ port at' parts (-n) 16) (4 + 4 * T) at' parts).1 25 2 = nI T := by rw [zm_copy_o (by decide)]; exact hT1
      refine zg_aload_n F 2 rfl rfl dM_sell_52 ?_
      refine zg_iconst F (v := nI 4) (by decide) dM_sell_53 ?_
      refine zg_iconst F (v := nI 4) (by decide) dM_sell_54 ?_
      refine zg_aload_n F 2 rfl rfl dM_sell_55 ?_
      refine zg_get F (fun _ _ h => h.2.1.1) rfl zi_M 8 (by decide) rfl zk_546 rfl dM_sell_56 ?_
      refine zg_eqi (hT1) ?_
      refine zg_imul F (by first | exact pk_mul _ _ | rfl) dM_sell_59 ?_
      refine zg_iadd F (by first | exact nI_add _ _ | rfl) dM_sell_60 ?_
      refine zg_iload_n F 4 rfl rfl dM_sell_61 ?_
      refine zg_iload_n F 5 rfl rfl dM_sell_62 ?_
      refine zg_callV F (zM_copy _ _ _ _ _ _ _ _ (4 + 4 * T) at' parts (by omega) h1) zv_M_copy zu_M_copy zk_668 (fun _ _ h => h.2.1.1) rfl rfl ⟨by decide, by decide⟩ ⟨by decide, by decide⟩ rfl (Nat.le_of_ble_eq_true rfl) dM_sell_63 ?_
      refine zg_aload_n F 2 rfl rfl dM_sell_66 ?_
      refine zg_get F (fun _ _ h => h.2.1.1) rfl zi_M 9 (by decide) rfl zk_547 rfl dM_sell_67 ?_
      refine zg_aload_n F 2 rfl rfl dM_sell_70 ?_
      refine zg_get F (fun _ _ h => h.2.1.1) rfl zi_M 8 (by decide) rfl zk_546 rfl dM_sell_71 ?_
      refine zg_eqi (hT2) ?_
      refine zg_iload_n F 3 rfl rfl dM_sell_74 ?_
      refine zm_iast F 6 (by decide) rfl (by show _ < 80; omega) dM_sell_75 ?_
      refine zg_aload_n F 2 rfl rfl dM_sell_76 ?_
      refine zg_get F (fun _ _ h => h.2.1.1) rfl zi_M 10 (by decide) rfl zk_548 rfl dM_sell_77 ?_
      refine zg_aload_n F 2 rfl rfl dM_sell_80 ?_
      refine zg_get F (fun _ _ h => h.2.1.1) rfl zi_M 8 (by decide) rfl zk_546 rfl dM_sell_81 ?_
      refine zg_eqi (hT2) ?_
      refine zg_iload F 6 rfl dM_sell_84 ?_
      refine zm_iast F 7 (by decide) rfl (by show _ < 80; omega) dM_sell_86 ?_
      refine zg_aload_n F 2 rfl rfl dM_sell_87 ?_
      refine zg_get F (fun _ _ h => h.2.1.1) rfl zi_M 11 (by decide) rfl zk_549 rfl dM_sell_88 ?_
      refine zg_aload_n F 2 rfl rfl dM_sell_91 ?_
      refine zg_get F (fun _ _ h => h.2.1.1) rfl zi_M 8 (by decide) rfl zk_546 rfl dM_sell_92 ?_
      refine zg_eqi (hT2) ?_
      refine zg_iload_n F 5 rfl rfl dM_sell_95 ?_
      refine zm_iast F 8 (by decide) rfl (by show _ < 80; omega) dM_sell_96 ?_
      refine zg_aload_n F 2 rfl rfl dM_sell_97 ?_
      refine zg_get F (fun _ _ h => h.2.1.1) rfl zi_M 12 (by decide) rfl zk_550 rfl dM_sell_98 ?_
      refine zg_aload_n F 2 rfl rfl dM_sell_101 ?_
      refine zg_get F (fun _ _ h => h.2.1.1) rfl zi_M 8 (by decide) rfl zk_546 rfl dM_sell_102 ?_
      refine zg_eqi (hT2) ?_
      refine zg_iload F 6 rfl dM_sell_105 ?_
      refine zg_i2l F rfl dM_sell_107 ?_
      refine zg_lload F 1 rfl dM_sell_108 ?_
      refine zg_lmul F rfl dM_sell_110 ?_
      refine zm_last F 9 (by decide) rfl (by show _ < 80; omega) dM_sell_111 ?_
      refine zg_aload_n F 2 rfl rfl dM_sell_112 ?_
      refine zg_get F (fun _ _ h => h.2.1.1) rfl zi_M 13 (by decide) rfl zk_551 rfl dM_sell_113 ?_
      refine zg_aload_n F 2 rfl rfl dM_sell_116 ?_
      refine zg_get F (fun _ _ h => h.2.1.1) rfl zi_M 8 (by decide) rfl zk_546 rfl dM_sell_117 ?_
      refine zg_eqi (hT2) ?_
      refine zg_iconst F (v := nI 1) (by decide) dM_sell_120 ?_
      refine zm_zast F 10 (by decide) rfl (by show _ < 80; omega) (by decide) dM_sell_121 ?_
      refine zg_aload_n F 2 rfl rfl dM_sell_122 ?_
      refine zg_get F (fun _ _ h => h.2.1.1) rfl zi_M 14 (by decide) rfl zk_552 rfl dM_sell_123 ?_
      refine zg_iload_n F 3 rfl rfl dM_sell_126 ?_
      refine zg_aload_n F 2 rfl rfl dM_sell_127 ?_
      refine zg_get F (fun _ _ h => h.2.1.1) rfl zi_M 14 (by decide) rfl zk_552 rfl dM_sell_128 ?_
      refine zg_iload_n F 3 rfl rfl dM_sell_131 ?_
      refine zm_lald F 11 (by decide) rfl (by show _ < 4; omega) rfl dM_sell_132 ?_
      refine zg_iload F 6 rfl dM_sell_133 ?_
      refine zg_i2l F rfl dM_sell_135 ?_
      refine zg_lload F 1 rfl dM_sell_136 ?_
      refine zg_lmul F rfl dM_sell_138 ?_
      refine zg_ladd F rfl dM_sell_139 ?_
      refine zm_last F 11 (by decide) rfl (by show _ < 4; omega) dM_sell_140 ?_
      refine zg_aload_n F 2 rfl rfl dM_sell_141 ?_
      refine zg_dup F rfl dM_sell_142 ?_
      refine zg_get F (fun _ _ h => h.2.1.1) rfl zi_M 8 (by decide) rfl zk_546 rfl dM_sell_143 ?_
      refine zg_eqi (hT2) ?_
      refine zg_iconst F (v := nI 1) (by decide) dM_sell_146 ?_
      refine zg_iadd F (by first | exact nI_add _ _ | rfl) dM_sell_147 ?_
      refine zg_put F (fun _ _ h => h.2.1.1) rfl zi_M zy_M zt_M zn_M 8 (by decide) rfl zk_546 rfl rfl rfl rfl (Nat.le_of_ble_eq_true rfl) (fun w z h => zm_P.pt (i := 2) (by decide) w z h) dM_sell_148 ?_
      refine zg_aload_n F 2 rfl rfl dM_sell_151 ?_
      refine zg_get F (fun _ _ h => h.2.1.1) rfl zi_M 8 (by decide) rfl zk_546 rfl dM_sell_152 ?_
      refine zg_eqi (zm_set_s) ?_
      refine zg_iconst F (v := nI 1) (by decide) dM_sell_155 ?_
      refine zg_isub F (pk_sub (a := T + 1) (b := 1) (by omega)) dM_sell_156 ?_
      exact zg_iret F E (Nat.zero_le _) (Nat.zero_le _) (fun _ _ h => h) dM_sell_157
    | succ r ih =>
      intro i hi
      refine zg_iload F 0 rfl dM_sell_6 ?_
      refine zg_bipush F (v := nI 16) (by decide) dM_sell_8 ?_
      refine zg_icmp_geF F dM_sell_10 (tgt := 42) (by decide) (nI_ge (by omega) (by omega)) ?_
      refine zg_lload F 1 rfl dM_sell_13 ?_
      refine zg_aload_n F 2 rfl rfl dM_sell_15 ?_
      refine zg_iload_n F 4 rfl rfl dM_sell_16 ?_
      refine zg_iload_n F 5 rfl rfl dM_sell_17 ?_
      refine zg_iload F 0 rfl dM_sell_18 ?_
      refine zg_callV F (zM_lies _ _ _ _ _ _ _ _ at' parts i (by omega) (by omega)) zv_M_lies zu_M_lies zk_656 (fun _ _ h => h.2.1.1) rfl rfl ⟨by decide, by decide⟩ ⟨by decide, by decide⟩ rfl (Nat.le_of_ble_eq_true rfl) dM_sell_20 ?_
      refine zg_i2l F rfl dM_sell_23 ?_
      refine zg_aload_n F 2 rfl rfl dM_sell_24 ?_
      refine zg_get F (fun _ _ h => h.2.1.1) rfl zi_M 2 (by decide) rfl zk_540 rfl dM_sell_25 ?_
      refine zg_iload F 0 rfl dM_sell_28 ?_
      refine zm_iald F 1 (by decide) rfl (by show _ < 16; omega) rfl dM_sell_30 ?_
      refine zg_i2l F rfl dM_sell_31 ?_
      refine zg_lmul F rfl dM_sell_32 ?_
      refine zg_ladd F rfl dM_sell_33 ?_
      refine zg_lstore F (by rw [hn]; decide) (L' := [(5, _), (7, _), (0, _), (1, _), (2, _), (3, _), (4, _)]) rfl dM_sell_34 ?_
      refine zg_iinc F 1 rfl (by first | exact zc_inc _ | rfl) (by rw [hn]; decide) (L' := [(7, _), (5, _), (0, _), (1, _), (2, _), (3, _), (4, _)]) rfl dM_sell_36 ?_
      refine zg_goto F (tgt := 6) dM_sell_39 (by decide) ?_
      exact ih (i + 1) (by omega)
  exact loop 16 0 rfl
