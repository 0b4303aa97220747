set_option maxRecDepth 100000 in
set_option maxHeartbeats 4000000 in
theorem zM_serve (l : Launch) (D : va_G) (A : Nat → ClassId) (base : Nat) (mo sz : Nat) (w0 : zg_w) (σ : zm_S) (T port had : Nat) (h0 : port < 4) (hh : had ≤ 6) (hT8 : T ≤ 80) (hw : σ.1 12 port = nI had) (hT : σ.1 25 2 = nI T) (hp : ∀ k, k < had → ∃ p, p ≤ 4 ∧ σ.1 14 (6 * port + k) = nI p) : zg_Met l zm_M_serve zc_M_serve 9 (some .int) 3 0 0 D A base [.ref mo, .int (nI port)] (zm_P A mo w0 sz σ) (some (.int (nI (had - (zm_sv σ port T had).2)))) (zm_P A mo w0 sz (zm_serve σ port T had)) := by
  refine zg_met (by decide) (Nat.le_of_ble_eq_true rfl) ?_
  intro K hl hD hA hz hn hnm F E
  subst hl hD hA hz
  show zg_G K (zm_P (zk_A K) mo w0 sz σ) 0 0 0 [(0, .ref mo), (1, .int (nI port))] []
  refine zg_iconst F (v := nI 0) (by decide) dM_serve_0 ?_
  refine zg_istore_n F rfl (by rw [hn]; decide) (L' := [(2, _), (0, _), (1, _)]) rfl dM_serve_1 ?_
  refine zg_iconst F (v := nI 0) (by decide) dM_serve_2 ?_
  refine zg_istore_n F rfl (by rw [hn]; decide) (L' := [(3, _), (2, _), (0, _), (1, _)]) rfl dM_serve_3 ?_
  refine zg_aload_n F 2 rfl rfl dM_serve_4 ?_
  refine zg_get F (fun _ _ h => h.2.1.1) rfl zi_M 15 (by decide) rfl zk_553 rfl dM_serve_5 ?_
  refine zg_iload_n F 3 rfl rfl dM_serve_8 ?_
  refine zm_iald F 12 (by decide) rfl (by show _ < 4; omega) rfl dM_serve_9 ?_
  refine zg_eqi (hw) ?_
  refine zg_istore F (by rw [hn]; decide) (L' := [(4, _), (3, _), (2, _), (0, _), (1, _)]) rfl dM_serve_10 ?_
  refine zg_iconst F (v := nI 0) (by decide) dM_serve_12 ?_
  refine zg_istore F (by rw [hn]; decide) (L' := [(5, _), (4, _), (3, _), (2, _), (0, _), (1, _)]) rfl dM_serve_13 ?_
  have loop : ∀ r i, i + r = had → zg_G K (zm_P (zk_A K) mo w0 sz (zm_sv σ port T i).1) 0 0 15 [(5, .int (nI i)), (4, .int (nI had)), (3, .int (nI (zm_sv σ port T i).2)), (2, .int (nI (i - (zm_sv σ port T i).2))), (0, .ref mo), (1, .int (nI port))] [] := by
    intro r
    induction r with
    | zero =>
      intro i hi
      obtain rfl : i = had := by omega
      refine zg_iload F 0 rfl dM_serve_15 ?_
      refine zg_iload F 1 rfl dM_serve_17 ?_
      refine zg_icmp_geT F (tgt := 168) dM_serve_19 (by decide) (nI_le (by omega) (by omega)) ?_
      refine zg_aload_n F 4 rfl rfl dM_serve_168 ?_
      refine zg_get F (fun _ _ h => h.2.1.1) rfl zi_M 15 (by decide) rfl zk_553 rfl dM_serve_169 ?_
      refine zg_iload_n F 5 rfl rfl dM_serve_172 ?_
      refine zg_iload_n F 2 rfl rfl dM_serve_173 ?_
      refine zm_iast F 12 (by decide) rfl (by show _ < 4; omega) dM_serve_174 ?_
      refine zg_iload_n F 3 rfl rfl dM_serve_175 ?_
      exact zg_iret F E (Nat.zero_le _) (Nat.zero_le _) (fun _ _ h => h) dM_serve_176
    | succ r ih =>
      intro i hi
      have hle := zm_sv_le σ port T i
      have hT' := zm_sv_T σ port T hT i
      have h80 := zm_sv_80 σ port T hT8 i
      have h14 := zm_sv_14 σ port T i i (Nat.le_refl _)
      obtain ⟨p, hp4, hpe⟩ := hp i (by omega)
      rw [hpe] at h14
      have hz : zn (σ.1 14 (6 * port + i)) = p := by rw [hpe]; exact zn_nI (by omega)
      have hg := ih (i + 1) (by omega)
      rw [zm_sv, hz] at hg
      generalize zm_sv σ port T i = q at hle hT' h80 h14 hg ⊢
      obtain ⟨S, lf⟩ := q
      dsimp only at hle hT' h80 h14 hg ⊢
      refine zg_iload F 0 rfl dM_serve_15 ?_
      refine zg_iload F 1 rfl dM_serve_17 ?_
      refine zg_icmp_geF F dM_serve_19 (tgt := 168) (by decide) (nI_ge (by omega) (by omega)) ?_
      refine zg_bipush F (v := nI 6) (by decide) dM_serve_22 ?_
      refine zg_iload_n F 5 rfl rfl dM_serve_24 ?_
      refine zg_imul F (by first | exact pk_mul _ _ | rfl) dM_serve_25 ?_
      refine zg_iload F 0 rfl dM_serve_26 ?_
      refine zg_iadd F (by first | exact nI_add _ _ | rfl) dM_serve_28 ?_
      refine zg_istore F (by rw [hn]; decide) (L' := [(6, _), (5, _), (4, _), (3, _), (2, _), (0, _), (1, _)]) rfl dM_serve_29 ?_
      refine zg_sipush F (v := nI 324) (by decide) dM_serve_31 ?_
      refine zg_iconst F (v := nI 4) (by decide) dM_serve_34 ?_
      refine zg_iload F 0 rfl dM_serve_35 ?_
      refine zg_imul F (by first | exact pk_mul _ _ | rfl) dM_serve_37 ?_
      refine zg_iadd F (by first | exact nI_add _ _ | rfl) dM_serve_38 ?_
      refine zg_istore F (by rw [hn]; decide) (L' := [(7, _), (6, _), (5, _), (4, _), (3, _), (2, _), (0, _), (1, _)]) rfl dM_serve_39 ?_
      refine zg_aload_n F 6 rfl rfl dM_serve_41 ?_
      refine zg_get F (fun _ _ h => h.2.1.1) rfl zi_M 8 (by decide) rfl zk_546 rfl dM_serve_42 ?_
      refine zg_eqi (hT') ?_
      refine zg_bipush F (v := nI 80) (by decide) dM_serve_45 ?_
      by_cases g1 : T + (i - lf) < 80
      · refine zg_icmp_geF F dM_serve_47 (tgt := 102) (by decide) (nI_ge (by omega) (by omega)) ?_
        refine zg_aload_n F 6 rfl rfl dM_serve_50 ?_
        refine zg_iload_n F 7 rfl rfl dM_serve_51 ?_
        refine zg_iload F 0 rfl dM_serve_52 ?_
        refine zg_aload_n F 6 rfl rfl dM_serve_54 ?_
        refine zg_get F (fun _ _ h => h.2.1.1) rfl zi_M 17 (by decide) rfl zk_555 rfl dM_serve_55 ?_
        refine zg_iload F 1 rfl dM_serve_58 ?_
        refine zm_iald F 14 (by decide) rfl (by show _ < 24; omega) rfl dM_serve_60 ?_
        refine zg_eqi (h14) ?_
        refine zg_aload_n F 6 rfl rfl dM_serve_61 ?_
        refine zg_get F (fun _ _ h => h.2.1.1) rfl zi_M 16 (by decide) rfl zk_554 rfl dM_serve_62 ?_
        refine zg_iload F 1 rfl dM_serve_65 ?_
        refine zm_iald F 13 (by decide) rfl (by show _ < 24; omega) rfl dM_serve_67 ?_
        refine zg_callV F (zM_fits _ _ _ _ _ _ _ _ port (324 + 4 * (6 * port + i)) p _ h0 (by omega)) zv_M_fits zu_M_fits zk_652 (fun _ _ h => h.2.1.1) rfl rfl ⟨by decide, by decide⟩ ⟨by decide, by decide⟩ rfl (Nat.le_of_ble_eq_true rfl) dM_serve_68 ?_
        by_cases g2 : zm_fits S port (324 + 4 * (6 * port + i)) p (S.1 13 (6 * port + i)) 16 = 0
        · rw [if_neg (fun q => q.2 g2)] at hg
          refine zg_if_eqT F (tgt := 102) dM_serve_71 (by decide) (g2) ?_
          refine zg_bipush F (v := nI 6) (by decide) dM_serve_102 ?_
          refine zg_iload_n F 7 rfl rfl dM_serve_104 ?_
          refine zg_imul F (by first | exact pk_mul _ _ | rfl) dM_serve_105 ?_
          refine zg_iload_n F 4 rfl rfl dM_serve_106 ?_
          refine zg_iadd F (by first | exact nI_add _ _ | rfl) dM_serve_107 ?_
          refine zg_istore F (by rw [hn]; decide) (L' := [(8, _), (7, _), (6, _), (5, _), (4, _), (3, _), (2, _), (0, _), (1, _)]) rfl dM_serve_108 ?_
          refine zg_aload_n F 7 rfl rfl dM_serve_110 ?_
          refine zg_sipush F (v := nI 324) (by decide) dM_serve_111 ?_
          refine zg_iconst F (v := nI 4) (by decide) dM_serve_114 ?_
          refine zg_iload F 0 rfl dM_serve_115 ?_
          refine zg_imul F (by first | exact pk_mul _ _ | rfl) dM_serve_117 ?_
          refine zg_iadd F (by first | exact nI_add _ _ | rfl) dM_serve_118 ?_
          refine zg_iload F 1 rfl dM_serve_119 ?_
          refine zg_aload_n F 7 rfl rfl dM_serve_121 ?_
          refine zg_get F (fun _ _ h => h.2.1.1) rfl zi_M 17 (by decide) rfl zk_555 rfl dM_serve_122 ?_
          refine zg_iload F 2 rfl dM_serve_125 ?_
          refine zm_iald F 14 (by decide) rfl (by show _ < 24; omega) rfl dM_serve_127 ?_
          refine zg_eqi (h14) ?_
          refine zg_callV F (zM_copy _ _ _ _ _ _ _ _ (324 + 4 * (6 * port + lf)) (324 + 4 * (6 * port + i)) p (by omega) (by omega)) zv_M_copy zu_M_copy zk_668 (fun _ _ h => h.2.1.1) rfl rfl ⟨by decide, by decide⟩ ⟨by decide, by decide⟩ rfl (Nat.le_of_ble_eq_true rfl) dM_serve_128 ?_
          refine zg_aload_n F 7 rfl rfl dM_serve_131 ?_
          refine zg_get F (fun _ _ h => h.2.1.1) rfl zi_M 16 (by decide) rfl zk_554 rfl dM_serve_132 ?_
          refine zg_iload F 0 rfl dM_serve_135 ?_
          refine zg_aload_n F 7 rfl rfl dM_serve_137 ?_
          refine zg_get F (fun _ _ h => h.2.1.1) rfl zi_M 16 (by decide) rfl zk_554 rfl dM_serve_138 ?_
          refine zg_iload F 2 rfl dM_serve_141 ?_
          refine zm_iald F 13 (by decide) rfl (by show _ < 24; omega) rfl dM_serve_143 ?_
          refine zm_iast F 13 (by decide) rfl (by show _ < 24; omega) dM_serve_144 ?_
          refine zg_aload_n F 7 rfl rfl dM_serve_145 ?_
          refine zg_get F (fun _ _ h => h.2.1.1) rfl zi_M 17 (by decide) rfl zk_555 rfl dM_serve_146 ?_
          refine zg_iload F 0 rfl dM_serve_149 ?_
          refine zg_aload_n F 7 rfl rfl dM_serve_151 ?_
          refine zg_get F (fun _ _ h => h.2.1.1) rfl zi_M 17 (by decide) rfl zk_555 rfl dM_serve_152 ?_
          refine zg_iload F 2 rfl dM_serve_155 ?_
          refine zm_iald F 14 (by decide) rfl (by show _ < 24; omega) rfl dM_serve_157 ?_
          refine zm_iast F 14 (by decide) rfl (by show _ < 24; omega) dM_serve_158 ?_
          refine zg_iinc F 5 rfl (by first | exact zc_inc _ | rfl) (by rw [hn]; decide) (L' := [(3, _), (8, _), (7, _), (6, _), (5, _), (4, _), (2, _), (0, _), (1, _)]) rfl dM_serve_159 ?_
          refine zg_iinc F 4 rfl (by first | exact zc_inc _ | rfl) (by rw [hn]; decide) (L' := [(5, _), (3, _), (8, _), (7, _), (6, _), (4, _), (2, _), (0, _), (1, _)]) rfl dM_serve_162 ?_
          refine zg_goto F (tgt := 15) dM_serve_165 (by decide) ?_
          refine zg_sub [0, 5, 1, 6, 7, 8] (L' := [(5, _), (4, _), (3, _), (2, _), (0, _), (1, _)]) rfl ?_
          have e : i + 1 - (lf + 1) = i - lf := by omega
          dsimp only at hg
          rw [e] at hg
          exact hg
        · rw [if_pos ⟨g1, g2⟩] at hg
          refine zg_if_eqF F dM_serve_71 (tgt := 102) (by decide) (g2) ?_
          refine zg_aload_n F 6 rfl rfl dM_serve_74 ?_
          refine zg_iload_n F 7 rfl rfl dM_serve_75 ?_
          refine zg_iload F 0 rfl dM_serve_76 ?_
          refine zg_aload_n F 6 rfl rfl dM_serve_78 ?_
          refine zg_get F (fun _ _ h => h.2.1.1) rfl zi_M 17 (by decide) rfl zk_555 rfl dM_serve_79 ?_
          refine zg_iload F 1 rfl dM_serve_82 ?_
          refine zm_iald F 14 (by decide) rfl (by show _ < 24; omega) rfl dM_serve_84 ?_
          refine zg_eqi (h14) ?_
          refine zg_aload_n F 6 rfl rfl dM_serve_85 ?_
          refine zg_get F (fun _ _ h => h.2.1.1) rfl zi_M 16 (by decide) rfl zk_554 rfl dM_serve_86 ?_
          refine zg_iload F 1 rfl dM_serve_89 ?_
          refine zm_iald F 13 (by decide) rfl (by show _ < 24; omega) rfl dM_serve_91 ?_
          refine zg_callV F (zM_sell _ _ _ _ _ _ _ _ (T + (i - lf)) port (324 + 4 * (6 * port + i)) p _ h0 (by omega) g1 hp4 hT') zv_M_sell zu_M_sell zk_660 (fun _ _ h => h.2.1.1) rfl rfl ⟨by decide, by decide⟩ ⟨by decide, by decide⟩ rfl (Nat.le_of_ble_eq_true rfl) dM_serve_92 ?_
          refine zg_pop F rfl dM_serve_95 ?_
          refine zg_iinc F 5 rfl (by first | exact zc_inc _ | rfl) (by rw [hn]; decide) (L' := [(2, _), (7, _), (6, _), (5, _), (4, _), (3, _), (0, _), (1, _)]) rfl dM_serve_96 ?_
          refine zg_goto F (tgt := 162) dM_serve_99 (by decide) ?_
          refine zg_iinc F 3 rfl (by first | exact zc_inc _ | rfl) (by rw [hn]; decide) (L' := [(5, _), (2, _), (7, _), (6, _), (4, _), (3, _), (0, _), (1, _)]) rfl dM_serve_162 ?_
          refine zg_goto F (tgt := 15) dM_serve_165 (by decide) ?_
          refine zg_sub [0, 4, 5, 1, 6, 7] (L' := [(5, _), (4, _), (3, _), (2, _), (0, _), (1, _)]) rfl ?_
          have e : i + 1 - lf = i - lf + 1 := by omega
          dsimp only at hg
          rw [e] at hg
          exact hg
      · rw [if_neg (fun q => g1 q.1)] at hg
        refine zg_icmp_geT F (tgt := 102) dM_serve_47 (by decide) (nI_le (by omega) (by omega)) ?_
        refine zg_bipush F (v := nI 6) (by decide) dM_serve_102 ?_
        refine zg_iload_n F 7 rfl rfl dM_serve_104 ?_
        refine zg_imul F (by first | exact pk_mul _ _ | rfl) dM_serve_105 ?_
        refine zg_iload_n F 4 rfl rfl dM_serve_106 ?_
        refine zg_iadd F (by first | exact nI_add _ _ | rfl) dM_serve_107 ?_
        refine zg_istore F (by rw [hn]; decide) (L' := [(8, _), (7, _), (6, _), (5, _), (4, _), (3, _), (2, _), (0, _), (1, _)]) rfl dM_serve_108 ?_
        refine zg_aload_n F 7 rfl rfl dM_serve_110 ?_
        refine zg_sipush F (v := nI 324) (by decide) dM_serve_111 ?_
        refine zg_iconst F (v := nI 4) (by decide) dM_serve_114 ?_
        refine zg_iload F 0 rfl dM_serve_115 ?_
        refine zg_imul F (by first | exact pk_mul _ _ | rfl) dM_serve_117 ?_
        refine zg_iadd F (by first | exact nI_add _ _ | rfl) dM_serve_118 ?_
        refine zg_iload F 1 rfl dM_serve_119 ?_
        refine zg_aload_n F 7 rfl rfl dM_serve_121 ?_
        refine zg_get F (fun _ _ h => h.2.1.1) rfl zi_M 17 (by decide) rfl zk_555 rfl dM_serve_122 ?_
        refine zg_iload F 2 rfl dM_serve_125 ?_
        refine zm_iald F 14 (by decide) rfl (by show _ < 24; omega) rfl dM_serve_127 ?_
        refine zg_eqi (h14) ?_
        refine zg_callV F (zM_copy _ _ _ _ _ _ _ _ (324 + 4 * (6 * port + lf)) (324 + 4 * (6 * port + i)) p (by omega) (by omega)) zv_M_copy zu_M_copy zk_668 (fun _ _ h => h.2.1.1) rfl rfl ⟨by decide, by decide⟩ ⟨by decide, by decide⟩ rfl (Nat.le_of_ble_eq_true rfl) dM_serve_128 ?_
        refine zg_aload_n F 7 rfl rfl dM_serve_131 ?_
        refine zg_get F (fun _ _ h => h.2.1.1) rfl zi_M 16 (by decide) rfl zk_554 rfl dM_serve_132 ?_
        refine zg_iload F 0 rfl dM_serve_135 ?_
        refine zg_aload_n F 7 rfl rfl dM_serve_137 ?_
        refine zg_get F (fun _ _ h => h.2.1.1) rfl zi_M 16 (by decide) rfl zk_554 rfl dM_serve_138 ?_
        refine zg_iload F 2 rfl dM_serve_141 ?_
        refine zm_iald F 13 (by decide) rfl (by show _ < 24; omega) rfl dM_serve_143 ?_
        refine zm_iast F 13 (by decide) rfl (by show _ < 24; omega) dM_serve_144 ?_
        refine zg_aload_n F 7 rfl rfl dM_serve_145 ?_
        refine zg_get F (fun _ _ h => h.2.1.1) rfl zi_M 17 (by decide) rfl zk_555 rfl dM_serve_146 ?_
        refine zg_iload F 0 rfl dM_serve_149 ?_
        refine zg_aload_n F 7 rfl rfl dM_serve_151 ?_
        refine zg_get F (fun _ _ h => h.2.1.1) rfl zi_M 17 (by decide) rfl zk_555 rfl dM_serve_152 ?_
        refine zg_iload F 2 rfl dM_serve_155 ?_
        refine zm_iald F 14 (by decide) rfl (by show _ < 24; omega) rfl dM_serve_157 ?_
        refine zm_iast F 14 (by decide) rfl (by show _ < 24; omega) dM_serve_158 ?_
        refine zg_iinc F 5 rfl (by first | exact zc_inc _ | rfl) (by rw [hn]; decide) (L' := [(3, _), (8, _), (7, _), (6, _), (5, _), (4, _), (2, _), (0, _), (1, _)]) rfl dM_serve_159 ?_
        refine zg_iinc F 4 rfl (by first | exact zc_inc _ | rfl) (by rw [hn]; decide) (L' := [(5, _), (3, _), (8, _), (7, _), (6, _), (4, _), (2, _), (0, _), (1, _)]) rfl dM_serve_162 ?_
        refine zg_goto F (tgt := 15) dM_serve_165 (by decide) ?_
        refine zg_sub [0, 5, 1, 6, 7, 8] (L' := [(5, _), (4, _), (3, _), (2, _), (0, _), (1, _)]) rfl ?_
        have e : i + 1 - (lf + 1) = i - lf := by omega
        dsimp only at hg
        rw [e] at hg
        exact hg
  exact loop had 0 (by omega)
