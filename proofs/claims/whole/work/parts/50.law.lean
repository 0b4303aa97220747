/-! the law's body: one turn -/
theorem zg_pt {K : zg_K} {P : zg_P} {cells slots pc : Nat} {L : List (Nat × Value)} {st : List Value} (k : ∀ w z, P w z → zg_G K (fun w' z' => w' = w ∧ z' = z) cells slots pc L st) : zg_G K P cells slots pc L st := fun w H locs ls h1 h2 h3 h4 => k w H.size h1 w H locs ls ⟨rfl, rfl⟩ h2 h3 h4
/-- the script: N ints xs in a cell that was there before -/
def zg_Xs (K : zg_K) (b N : Nat) (xs : Nat → Int32) : Prop := va_X b N xs (zk_s K) (zk_s K).heap ∧ b < (zk_s K).heap.size ∧ ¬ zk_z K ≤ b ∧ N ≤ 3072
section ZLS
variable {K : zg_K} {P : zg_P} {cells slots pc : Nat} {L : List (Nat × Value)} {st : List Value} {cc : ByteArray} {own : String} {rm : Room} {b N : Nat} {xs : Nat → Int32}
theorem zg_sld (F : zg_F K cc own rm) (X : zg_Xs K b N xs) {j : Nat} (hj : j < N) (d : decode cc pc = .ok (.iaload, 1)) (k : zg_G K P cells slots (pc + 1) L (.int (xs j) :: st)) : zg_G K P cells slots pc L (.int (nI j) :: .ref b :: st) := fun w H locs ls h1 h2 h3 h4 =>
  va_sld F.1 F.2.1 X.1 X.2.1 X.2.2.1 h3 (vp_in_nI hj (by have := X.2.2.2; omega)) d (by rw [nI_clamp (by have := X.2.2.2; omega)]; exact k w H locs ls h1 h2 h3 h4)
theorem zg_slen (F : zg_F K cc own rm) (X : zg_Xs K b N xs) (d : decode cc pc = .ok (.arraylength, 1)) (k : zg_G K P cells slots (pc + 1) L (.int (nI N) :: st)) : zg_G K P cells slots pc L (.ref b :: st) := fun w H locs ls h1 h2 h3 h4 =>
  va_slen F.1 F.2.1 X.1 X.2.1 X.2.2.1 h3 d (k w H locs ls h1 h2 h3 h4)
end ZLS
abbrev zl_L (x b i : Nat) : List (Nat × Value) := [(4, .int (nI i)), (3, .ref (x + 96)), (2, .ref (x + 70)), (1, .ref x), (0, .ref b)]
set_option maxRecDepth 100000 in
set_option maxHeartbeats 4000000 in
theorem zT_open {K : zg_K} (F : zg_F K zc_L_law "IslandRightsLaw" room_1) (hn : zk_n K = 8) (hl : (zk_l K).stackTraces = false) {b N : Nat} {xs : Nat → Int32} (X : zg_Xs K b N xs) {x i n cells slots : Nat} (hi : i + 5 < N) (hn2 : 4 * (n + 1) < 2 ^ 30) (hc : cells + 9 ≤ 601024) (hs : slots + 50 ≤ 7293034) (kk : zg_G K (zl_Inv (zk_A K) x (n + 1)) (cells + 9) (slots + 50) 1478 (zl_L x b i) []) : zg_G K (zl_Inv (zk_A K) x n) cells slots 136 (zl_L x b i) [] := by
  refine zg_pt (fun w z hI => ?_)
  obtain ⟨σ, τ, hI⟩ := hI
  obtain ⟨k, mc, ms, P0, P1, ⟨hk4, hmc, hms⟩, hP0, hx0, hXW, hrest⟩ := zO_open (zk_l K) (zk_D K) (zk_A K) (zk_z K) hl hI hn2 (xs (i + 1)) (xs (i + 2))
  refine zg_mono (P' := P0) (fun w' z' q => by rw [q.1, q.2]; exact hP0) ?_
  refine zg_aload_n F 3 rfl rfl dL_law_136 ?_
  refine zg_aload_n F 4 rfl rfl dL_law_137 ?_
  refine zg_iload F 0 rfl dL_law_138 ?_
  refine zg_iconst F (v := nI 1) (by decide) dL_law_140 ?_
  refine zg_iadd F (by first | exact nI_add _ _ | rfl) dL_law_141 ?_
  refine zg_sld F X (by omega) dL_law_142 ?_
  refine zg_aload_n F 4 rfl rfl dL_law_143 ?_
  refine zg_iload F 0 rfl dL_law_144 ?_
  refine zg_iconst F (v := nI 2) (by decide) dL_law_146 ?_
  refine zg_iadd F (by first | exact nI_add _ _ | rfl) dL_law_147 ?_
  refine zg_sld F X (by omega) dL_law_148 ?_
  refine zg_callSW F hXW zv_L_open zk_133 rfl ⟨by decide, by decide⟩ ⟨by show _ ≤ 601024; omega, by show _ ≤ 7293034; omega⟩ rfl (Nat.le_of_ble_eq_true rfl) dL_law_149 ?_
  refine zg_wid (c2 := cells + 9) (s2 := slots + 50) (by omega) (by omega) ?_
  refine zg_istore F (by rw [hn]; decide) (L' := [(5, _), (4, _), (3, _), (2, _), (1, _), (0, _)]) rfl dL_law_152 ?_
  refine zg_pt (fun w1 z1 h1 => ?_)
  obtain ⟨σ1, σ2, r, d, hd, hm0, hMM, h25, ⟨fo, hfo, hr⟩, hend⟩ := hrest w1 z1 h1
  refine zg_mono (P' := zm_P (zk_A K) (x + 70) w1 z1 σ1) (fun w' z' q => by rw [q.1, q.2]; exact hm0) ?_
  refine zg_aload_n F 3 rfl rfl dL_law_154 ?_
  refine zg_aload_n F 5 rfl rfl dL_law_155 ?_
  refine zg_iload F 1 rfl dL_law_156 ?_
  refine zg_iconst F (v := nI 1) (by decide) dL_law_158 ?_
  refine zg_iadd F (by first | exact nI_add _ _ | rfl) dL_law_159 ?_
  refine zg_sld F X (by omega) dL_law_160 ?_
  refine zg_aload_n F 5 rfl rfl dL_law_161 ?_
  refine zg_iload F 1 rfl dL_law_162 ?_
  refine zg_iconst F (v := nI 2) (by decide) dL_law_164 ?_
  refine zg_iadd F (by first | exact nI_add _ _ | rfl) dL_law_165 ?_
  refine zg_sld F X (by omega) dL_law_166 ?_
  refine zg_callV F (hMM) zv_M_open zu_M_open zk_628 (fun _ _ h => h.2.1.1) rfl rfl ⟨by show d + 1 ≤ 12; omega, by show 8 + (4 + 11) + 32 * d ≤ 432; omega⟩ ⟨by show _ ≤ 601024; omega, by show _ ≤ 7293034; omega⟩ rfl (Nat.le_of_ble_eq_true rfl) dL_law_167 ?_
  refine zg_aload_n F 3 rfl rfl dL_law_170 ?_
  refine zg_callV F (zM_thrown _ _ _ _ (x + 70) z1 w1 σ2) zv_M_thrown zu_M_thrown zk_624 (fun _ _ h => h.2.1.1) rfl rfl ⟨by decide, by decide⟩ ⟨by show _ ≤ 601024; omega, by show _ ≤ 7293034; omega⟩ rfl (Nat.le_of_ble_eq_true rfl) dL_law_171 ?_
  refine zg_eqi h25 ?_
  refine zg_iload F 0 rfl dL_law_174 ?_
  refine zg_icmp_eqT F (tgt := 181) dL_law_176 (by decide) (rfl) ?_
  refine zg_goto F (tgt := 1478) dL_law_181 (by decide) ?_
  refine zg_sub [1, 2, 3, 4, 5] (L' := [(4, _), (3, _), (2, _), (1, _), (0, _)]) rfl ?_
  exact zg_mono (fun w z h => hend w z h) kk
set_option maxRecDepth 100000 in
set_option maxHeartbeats 4000000 in
theorem zT_fare {K : zg_K} (F : zg_F K zc_L_law "IslandRightsLaw" room_1) (hn : zk_n K = 8) (hl : (zk_l K).stackTraces = false) {b N : Nat} {xs : Nat → Int32} (X : zg_Xs K b N xs) {x i n cells slots : Nat} (hi : i + 5 < N) (hn2 : 4 * (n + 1) < 2 ^ 30) (hc : cells + 9 ≤ 601024) (hs : slots + 50 ≤ 7293034) (kk : zg_G K (zl_Inv (zk_A K) x (n + 1)) (cells + 9) (slots + 50) 1478 (zl_L x b i) []) : zg_G K (zl_Inv (zk_A K) x n) cells slots 184 (zl_L x b i) [] := by
  refine zg_pt (fun w z hI => ?_)
  obtain ⟨σ, τ, hI⟩ := hI
  obtain ⟨k, mc, ms, P0, P1, ⟨hk4, hmc, hms⟩, hP0, hx0, hXW, hrest⟩ := zO_fare (zk_l K) (zk_D K) (zk_A K) (zk_z K) hl hI hn2 (xs (i + 1)) (xs (i + 2)) (xs (i + 3))
  refine zg_mono (P' := P0) (fun w' z' q => by rw [q.1, q.2]; exact hP0) ?_
  refine zg_aload_n F 3 rfl rfl dL_law_184 ?_
  refine zg_aload_n F 4 rfl rfl dL_law_185 ?_
  refine zg_iload F 0 rfl dL_law_186 ?_
  refine zg_iconst F (v := nI 1) (by decide) dL_law_188 ?_
  refine zg_iadd F (by first | exact nI_add _ _ | rfl) dL_law_189 ?_
  refine zg_sld F X (by omega) dL_law_190 ?_
  refine zg_aload_n F 4 rfl rfl dL_law_191 ?_
  refine zg_iload F 0 rfl dL_law_192 ?_
  refine zg_iconst F (v := nI 2) (by decide) dL_law_194 ?_
  refine zg_iadd F (by first | exact nI_add _ _ | rfl) dL_law_195 ?_
  refine zg_sld F X (by omega) dL_law_196 ?_
  refine zg_aload_n F 4 rfl rfl dL_law_197 ?_
  refine zg_iload F 0 rfl dL_law_198 ?_
  refine zg_iconst F (v := nI 3) (by decide) dL_law_200 ?_
  refine zg_iadd F (by first | exact nI_add _ _ | rfl) dL_law_201 ?_
  refine zg_sld F X (by omega) dL_law_202 ?_
  refine zg_callSW F hXW zv_L_fare zk_252 rfl ⟨by decide, by decide⟩ ⟨by show _ ≤ 601024; omega, by show _ ≤ 7293034; omega⟩ rfl (Nat.le_of_ble_eq_true rfl) dL_law_203 ?_
  refine zg_wid (c2 := cells + 9) (s2 := slots + 50) (by omega) (by omega) ?_
  refine zg_istore F (by rw [hn]; decide) (L' := [(5, _), (4, _), (3, _), (2, _), (1, _), (0, _)]) rfl dL_law_206 ?_
  refine zg_pt (fun w1 z1 h1 => ?_)
  obtain ⟨σ1, σ2, r, d, hd, hm0, hMM, h25, ⟨fo, hfo, hr⟩, hend⟩ := hrest w1 z1 h1
  refine zg_mono (P' := zm_P (zk_A K) (x + 70) w1 z1 σ1) (fun w' z' q => by rw [q.1, q.2]; exact hm0) ?_
  refine zg_aload_n F 3 rfl rfl dL_law_208 ?_
  refine zg_aload_n F 5 rfl rfl dL_law_209 ?_
  refine zg_iload F 1 rfl dL_law_210 ?_
  refine zg_iconst F (v := nI 1) (by decide) dL_law_212 ?_
  refine zg_iadd F (by first | exact nI_add _ _ | rfl) dL_law_213 ?_
  refine zg_sld F X (by omega) dL_law_214 ?_
  refine zg_aload_n F 5 rfl rfl dL_law_215 ?_
  refine zg_iload F 1 rfl dL_law_216 ?_
  refine zg_iconst F (v := nI 2) (by decide) dL_law_218 ?_
  refine zg_iadd F (by first | exact nI_add _ _ | rfl) dL_law_219 ?_
  refine zg_sld F X (by omega) dL_law_220 ?_
  refine zg_aload_n F 5 rfl rfl dL_law_221 ?_
  refine zg_iload F 1 rfl dL_law_222 ?_
  refine zg_iconst F (v := nI 3) (by decide) dL_law_224 ?_
  refine zg_iadd F (by first | exact nI_add _ _ | rfl) dL_law_225 ?_
  refine zg_sld F X (by omega) dL_law_226 ?_
  refine zg_callV F (hMM) zv_M_fare zu_M_fare zk_639 (fun _ _ h => h.2.1.1) rfl rfl ⟨by show d + 1 ≤ 12; omega, by show 8 + (4 + 11) + 32 * d ≤ 432; omega⟩ ⟨by show _ ≤ 601024; omega, by show _ ≤ 7293034; omega⟩ rfl (Nat.le_of_ble_eq_true rfl) dL_law_227 ?_
  refine zg_aload_n F 3 rfl rfl dL_law_230 ?_
  refine zg_callV F (zM_thrown _ _ _ _ (x + 70) z1 w1 σ2) zv_M_thrown zu_M_thrown zk_624 (fun _ _ h => h.2.1.1) rfl rfl ⟨by decide, by decide⟩ ⟨by show _ ≤ 601024; omega, by show _ ≤ 7293034; omega⟩ rfl (Nat.le_of_ble_eq_true rfl) dL_law_231 ?_
  refine zg_eqi h25 ?_
  refine zg_iload F 0 rfl dL_law_234 ?_
  refine zg_icmp_eqT F (tgt := 241) dL_law_236 (by decide) (rfl) ?_
  refine zg_goto F (tgt := 1478) dL_law_241 (by decide) ?_
  refine zg_sub [1, 2, 3, 4, 5] (L' := [(4, _), (3, _), (2, _), (1, _), (0, _)]) rfl ?_
  exact zg_mono (fun w z h => hend w z h) kk
set_option maxRecDepth 100000 in
set_option maxHeartbeats 4000000 in
theorem zT_part {K : zg_K} (F : zg_F K zc_L_law "IslandRightsLaw" room_1) (hn : zk_n K = 8) (hl : (zk_l K).stackTraces = false) {b N : Nat} {xs : Nat → Int32} (X : zg_Xs K b N xs) {x i n cells slots : Nat} (hi : i + 5 < N) (hn2 : 4 * (n + 1) < 2 ^ 30) (hc : cells + 9 ≤ 601024) (hs : slots + 50 ≤ 7293034) (kk : zg_G K (zl_Inv (zk_A K) x (n + 1)) (cells + 9) (slots + 50) 1478 (zl_L x b i) []) : zg_G K (zl_Inv (zk_A K) x n) cells slots 244 (zl_L x b i) [] := by
  refine zg_pt (fun w z hI => ?_)
  obtain ⟨σ, τ, hI⟩ := hI
  obtain ⟨k, mc, ms, P0, P1, ⟨hk4, hmc, hms⟩, hP0, hx0, hXW, hrest⟩ := zO_part (zk_l K) (zk_D K) (zk_A K) (zk_z K) hl hI hn2 (xs (i + 1)) (xs (i + 2)) (xs (i + 3))
  refine zg_mono (P' := P0) (fun w' z' q => by rw [q.1, q.2]; exact hP0) ?_
  refine zg_aload_n F 3 rfl rfl dL_law_244 ?_
  refine zg_aload_n F 4 rfl rfl dL_law_245 ?_
  refine zg_iload F 0 rfl dL_law_246 ?_
  refine zg_iconst F (v := nI 1) (by decide) dL_law_248 ?_
  refine zg_iadd F (by first | exact nI_add _ _ | rfl) dL_law_249 ?_
  refine zg_sld F X (by omega) dL_law_250 ?_
  refine zg_aload_n F 4 rfl rfl dL_law_251 ?_
  refine zg_iload F 0 rfl dL_law_252 ?_
  refine zg_iconst F (v := nI 2) (by decide) dL_law_254 ?_
  refine zg_iadd F (by first | exact nI_add _ _ | rfl) dL_law_255 ?_
  refine zg_sld F X (by omega) dL_law_256 ?_
  refine zg_aload_n F 4 rfl rfl dL_law_257 ?_
  refine zg_iload F 0 rfl dL_law_258 ?_
  refine zg_iconst F (v := nI 3) (by decide) dL_law_260 ?_
  refine zg_iadd F (by first | exact nI_add _ _ | rfl) dL_law_261 ?_
  refine zg_sld F X (by omega) dL_law_262 ?_
  refine zg_aload_n F 1 rfl rfl dL_law_263 ?_
  refine zg_callSW F hXW zv_L_part zk_265 rfl ⟨by decide, by decide⟩ ⟨by show _ ≤ 601024; omega, by show _ ≤ 7293034; omega⟩ rfl (Nat.le_of_ble_eq_true rfl) dL_law_264 ?_
  refine zg_wid (c2 := cells + 9) (s2 := slots + 50) (by omega) (by omega) ?_
  refine zg_istore F (by rw [hn]; decide) (L' := [(5, _), (4, _), (3, _), (2, _), (1, _), (0, _)]) rfl dL_law_267 ?_
  refine zg_pt (fun w1 z1 h1 => ?_)
  obtain ⟨σ1, σ2, r, d, hd, hm0, hMM, h25, ⟨fo, hfo, hr⟩, hend⟩ := hrest w1 z1 h1
  refine zg_mono (P' := zm_P (zk_A K) (x + 70) w1 z1 σ1) (fun w' z' q => by rw [q.1, q.2]; exact hm0) ?_
  obtain ⟨r32, er, hMM⟩ := hMM
  refine zg_aload_n F 3 rfl rfl dL_law_269 ?_
  refine zg_aload_n F 5 rfl rfl dL_law_270 ?_
  refine zg_iload F 1 rfl dL_law_271 ?_
  refine zg_iconst F (v := nI 1) (by decide) dL_law_273 ?_
  refine zg_iadd F (by first | exact nI_add _ _ | rfl) dL_law_274 ?_
  refine zg_sld F X (by omega) dL_law_275 ?_
  refine zg_aload_n F 5 rfl rfl dL_law_276 ?_
  refine zg_iload F 1 rfl dL_law_277 ?_
  refine zg_iconst F (v := nI 2) (by decide) dL_law_279 ?_
  refine zg_iadd F (by first | exact nI_add _ _ | rfl) dL_law_280 ?_
  refine zg_sld F X (by omega) dL_law_281 ?_
  refine zg_aload_n F 5 rfl rfl dL_law_282 ?_
  refine zg_iload F 1 rfl dL_law_283 ?_
  refine zg_iconst F (v := nI 3) (by decide) dL_law_285 ?_
  refine zg_iadd F (by first | exact nI_add _ _ | rfl) dL_law_286 ?_
  refine zg_sld F X (by omega) dL_law_287 ?_
  refine zg_callV F (hMM) zv_M_part zu_M_part zk_644 (fun _ _ h => h.2.1.1) rfl rfl ⟨by show d + 1 ≤ 12; omega, by show 8 + (5 + 11) + 32 * d ≤ 432; omega⟩ ⟨by show _ ≤ 601024; omega, by show _ ≤ 7293034; omega⟩ rfl (Nat.le_of_ble_eq_true rfl) dL_law_288 ?_
  refine zg_istore F (by rw [hn]; decide) (L' := [(6, _), (5, _), (4, _), (3, _), (2, _), (1, _), (0, _)]) rfl dL_law_291 ?_
  refine zg_aload_n F 4 rfl rfl dL_law_293 ?_
  refine zg_callV F (zM_thrown _ _ _ _ (x + 70) z1 w1 σ2) zv_M_thrown zu_M_thrown zk_624 (fun _ _ h => h.2.1.1) rfl rfl ⟨by decide, by decide⟩ ⟨by show _ ≤ 601024; omega, by show _ ≤ 7293034; omega⟩ rfl (Nat.le_of_ble_eq_true rfl) dL_law_294 ?_
  refine zg_eqi h25 ?_
  refine zg_iload F 1 rfl dL_law_297 ?_
  refine zg_icmp_eqT F (tgt := 304) dL_law_299 (by decide) (rfl) ?_
  refine zg_iload F 1 rfl dL_law_304 ?_
  by_cases hk0 : k = 0
  · refine zg_if_neF F dL_law_306 (tgt := 321) (by decide) (by rw [hk0]; rfl) ?_
    refine zg_aload_n F 3 rfl rfl dL_law_309 ?_
    refine zg_iconst F (v := nI 0) (by decide) dL_law_310 ?_
    refine zg_lald F (fun _ _ h => by rw [h.2.2 _ (by omega)]; exact hfo) (by decide) (by decide) (hr hk0) dL_law_311 ?_
    refine zg_iload F 0 rfl dL_law_312 ?_
    refine zg_i2l F rfl dL_law_314 ?_
    refine zg_lcmp F rfl dL_law_315 ?_
    refine zg_if_eqT F (tgt := 321) dL_law_316 (by decide) ((lg_cmp_eq _ _).mpr er.symm) ?_
    refine zg_goto F (tgt := 1478) dL_law_321 (by decide) ?_
    refine zg_sub [2, 3, 4, 5, 6] (L' := [(4, _), (3, _), (2, _), (1, _), (0, _)]) rfl ?_
    exact zg_mono (fun w z h => hend w z h) kk
  · refine zg_if_neT F (tgt := 321) dL_law_306 (by decide) (nI_ne0 (by omega) (by omega)) ?_
    refine zg_goto F (tgt := 1478) dL_law_321 (by decide) ?_
    refine zg_sub [2, 3, 4, 5, 6] (L' := [(4, _), (3, _), (2, _), (1, _), (0, _)]) rfl ?_
    exact zg_mono (fun w z h => hend w z h) kk
set_option maxRecDepth 100000 in
set_option maxHeartbeats 4000000 in
theorem zT_buy {K : zg_K} (F : zg_F K zc_L_law "IslandRightsLaw" room_1) (hn : zk_n K = 8) (hl : (zk_l K).stackTraces = false) {b N : Nat} {xs : Nat → Int32} (X : zg_Xs K b N xs) {x i n cells slots : Nat} (hi : i + 5 < N) (hn2 : 4 * (n + 1) < 2 ^ 30) (hc : cells + 9 ≤ 601024) (hs : slots + 50 ≤ 7293034) (kk : zg_G K (zl_Inv (zk_A K) x (n + 1)) (cells + 9) (slots + 50) 1478 (zl_L x b i) []) : zg_G K (zl_Inv (zk_A K) x n) cells slots 324 (zl_L x b i) [] := by
  refine zg_pt (fun w z hI => ?_)
  obtain ⟨σ, τ, hI⟩ := hI
  obtain ⟨k, mc, ms, P0, P1, ⟨hk4, hmc, hms⟩, hP0, hx0, hXW, hrest⟩ := zO_buy (zk_l K) (zk_D K) (zk_A K) (zk_z K) hl hI hn2 (xs (i + 1)) (xs (i + 2))
  refine zg_mono (P' := P0) (fun w' z' q => by rw [q.1, q.2]; exact hP0) ?_
  refine zg_aload_n F 3 rfl rfl dL_law_324 ?_
  refine zg_aload_n F 4 rfl rfl dL_law_325 ?_
  refine zg_iload F 0 rfl dL_law_326 ?_
  refine zg_iconst F (v := nI 1) (by decide) dL_law_328 ?_
  refine zg_iadd F (by first | exact nI_add _ _ | rfl) dL_law_329 ?_
  refine zg_sld F X (by omega) dL_law_330 ?_
  refine zg_aload_n F 4 rfl rfl dL_law_331 ?_
  refine zg_iload F 0 rfl dL_law_332 ?_
  refine zg_iconst F (v := nI 2) (by decide) dL_law_334 ?_
  refine zg_iadd F (by first | exact nI_add _ _ | rfl) dL_law_335 ?_
  refine zg_sld F X (by omega) dL_law_336 ?_
  refine zg_aload_n F 1 rfl rfl dL_law_337 ?_
  refine zg_callSW F hXW zv_L_buy zk_284 rfl ⟨by decide, by decide⟩ ⟨by show _ ≤ 601024; omega, by show _ ≤ 7293034; omega⟩ rfl (Nat.le_of_ble_eq_true rfl) dL_law_338 ?_
  refine zg_wid (c2 := cells + 9) (s2 := slots + 50) (by omega) (by omega) ?_
  refine zg_istore F (by rw [hn]; decide) (L' := [(5, _), (4, _), (3, _), (2, _), (1, _), (0, _)]) rfl dL_law_341 ?_
  refine zg_pt (fun w1 z1 h1 => ?_)
  obtain ⟨σ1, σ2, r, d, hd, hm0, hMM, h25, ⟨fo, hfo, hr⟩, hend⟩ := hrest w1 z1 h1
  refine zg_mono (P' := zm_P (zk_A K) (x + 70) w1 z1 σ1) (fun w' z' q => by rw [q.1, q.2]; exact hm0) ?_
  obtain ⟨r32, er, hMM⟩ := hMM
  refine zg_aload_n F 3 rfl rfl dL_law_343 ?_
  refine zg_aload_n F 5 rfl rfl dL_law_344 ?_
  refine zg_iload F 1 rfl dL_law_345 ?_
  refine zg_iconst F (v := nI 1) (by decide) dL_law_347 ?_
  refine zg_iadd F (by first | exact nI_add _ _ | rfl) dL_law_348 ?_
  refine zg_sld F X (by omega) dL_law_349 ?_
  refine zg_aload_n F 5 rfl rfl dL_law_350 ?_
  refine zg_iload F 1 rfl dL_law_351 ?_
  refine zg_iconst F (v := nI 2) (by decide) dL_law_353 ?_
  refine zg_iadd F (by first | exact nI_add _ _ | rfl) dL_law_354 ?_
  refine zg_sld F X (by omega) dL_law_355 ?_
  refine zg_callV F (hMM) zv_M_buy zu_M_buy zk_648 (fun _ _ h => h.2.1.1) rfl rfl ⟨by show d + 1 ≤ 12; omega, by show 8 + (4 + 11) + 32 * d ≤ 432; omega⟩ ⟨by show _ ≤ 601024; omega, by show _ ≤ 7293034; omega⟩ rfl (Nat.le_of_ble_eq_true rfl) dL_law_356 ?_
  refine zg_istore F (by rw [hn]; decide) (L' := [(6, _), (5, _), (4, _), (3, _), (2, _), (1, _), (0, _)]) rfl dL_law_359 ?_
  refine zg_aload_n F 4 rfl rfl dL_law_361 ?_
  refine zg_callV F (zM_thrown _ _ _ _ (x + 70) z1 w1 σ2) zv_M_thrown zu_M_thrown zk_624 (fun _ _ h => h.2.1.1) rfl rfl ⟨by decide, by decide⟩ ⟨by show _ ≤ 601024; omega, by show _ ≤ 7293034; omega⟩ rfl (Nat.le_of_ble_eq_true rfl) dL_law_362 ?_
  refine zg_eqi h25 ?_
  refine zg_iload F 1 rfl dL_law_365 ?_
  refine zg_icmp_eqT F (tgt := 372) dL_law_367 (by decide) (rfl) ?_
  refine zg_iload F 1 rfl dL_law_372 ?_
  by_cases hk0 : k = 0
  · refine zg_if_neF F dL_law_374 (tgt := 389) (by decide) (by rw [hk0]; rfl) ?_
    refine zg_aload_n F 3 rfl rfl dL_law_377 ?_
    refine zg_iconst F (v := nI 0) (by decide) dL_law_378 ?_
    refine zg_lald F (fun _ _ h => by rw [h.2.2 _ (by omega)]; exact hfo) (by decide) (by decide) (hr hk0) dL_law_379 ?_
    refine zg_iload F 0 rfl dL_law_380 ?_
    refine zg_i2l F rfl dL_law_382 ?_
    refine zg_lcmp F rfl dL_law_383 ?_
    refine zg_if_eqT F (tgt := 389) dL_law_384 (by decide) ((lg_cmp_eq _ _).mpr er.symm) ?_
    refine zg_goto F (tgt := 1478) dL_law_389 (by decide) ?_
    refine zg_sub [2, 3, 4, 5, 6] (L' := [(4, _), (3, _), (2, _), (1, _), (0, _)]) rfl ?_
    exact zg_mono (fun w z h => hend w z h) kk
  · refine zg_if_neT F (tgt := 389) dL_law_374 (by decide) (nI_ne0 (by omega) (by omega)) ?_
    refine zg_goto F (tgt := 1478) dL_law_389 (by decide) ?_
    refine zg_sub [2, 3, 4, 5, 6] (L' := [(4, _), (3, _), (2, _), (1, _), (0, _)]) rfl ?_
    exact zg_mono (fun w z h => hend w z h) kk
set_option maxRecDepth 100000 in
set_option maxHeartbeats 4000000 in
theorem zT_wish {K : zg_K} (F : zg_F K zc_L_law "IslandRightsLaw" room_1) (hn : zk_n K = 8) (hl : (zk_l K).stackTraces = false) {b N : Nat} {xs : Nat → Int32} (X : zg_Xs K b N xs) {x i n cells slots : Nat} (hi : i + 5 < N) (hn2 : 4 * (n + 1) < 2 ^ 30) (hc : cells + 9 ≤ 601024) (hs : slots + 50 ≤ 7293034) (kk : zg_G K (zl_Inv (zk_A K) x (n + 1)) (cells + 9) (slots + 50) 1478 (zl_L x b i) []) : zg_G K (zl_Inv (zk_A K) x n) cells slots 392 (zl_L x b i) [] := by
  refine zg_pt (fun w z hI => ?_)
  obtain ⟨σ, τ, hI⟩ := hI
  obtain ⟨k, mc, ms, P0, P1, ⟨hk4, hmc, hms⟩, hP0, hx0, hXW, hrest⟩ := zO_wish (zk_l K) (zk_D K) (zk_A K) (zk_z K) hl hI hn2 (xs (i + 1)) (xs (i + 2))
  refine zg_mono (P' := P0) (fun w' z' q => by rw [q.1, q.2]; exact hP0) ?_
  refine zg_aload_n F 3 rfl rfl dL_law_392 ?_
  refine zg_aload_n F 4 rfl rfl dL_law_393 ?_
  refine zg_iload F 0 rfl dL_law_394 ?_
  refine zg_iconst F (v := nI 1) (by decide) dL_law_396 ?_
  refine zg_iadd F (by first | exact nI_add _ _ | rfl) dL_law_397 ?_
  refine zg_sld F X (by omega) dL_law_398 ?_
  refine zg_aload_n F 4 rfl rfl dL_law_399 ?_
  refine zg_iload F 0 rfl dL_law_400 ?_
  refine zg_iconst F (v := nI 2) (by decide) dL_law_402 ?_
  refine zg_iadd F (by first | exact nI_add _ _ | rfl) dL_law_403 ?_
  refine zg_sld F X (by omega) dL_law_404 ?_
  refine zg_aload_n F 1 rfl rfl dL_law_405 ?_
  refine zg_callSW F hXW zv_L_wish zk_347 rfl ⟨by decide, by decide⟩ ⟨by show _ ≤ 601024; omega, by show _ ≤ 7293034; omega⟩ rfl (Nat.le_of_ble_eq_true rfl) dL_law_406 ?_
  refine zg_wid (c2 := cells + 9) (s2 := slots + 50) (by omega) (by omega) ?_
  refine zg_istore F (by rw [hn]; decide) (L' := [(5, _), (4, _), (3, _), (2, _), (1, _), (0, _)]) rfl dL_law_409 ?_
  refine zg_pt (fun w1 z1 h1 => ?_)
  obtain ⟨σ1, σ2, r, d, hd, hm0, hMM, h25, ⟨fo, hfo, hr⟩, hend⟩ := hrest w1 z1 h1
  refine zg_mono (P' := zm_P (zk_A K) (x + 70) w1 z1 σ1) (fun w' z' q => by rw [q.1, q.2]; exact hm0) ?_
  obtain ⟨r32, er, hMM⟩ := hMM
  refine zg_aload_n F 3 rfl rfl dL_law_411 ?_
  refine zg_aload_n F 5 rfl rfl dL_law_412 ?_
  refine zg_iload F 1 rfl dL_law_413 ?_
  refine zg_iconst F (v := nI 1) (by decide) dL_law_415 ?_
  refine zg_iadd F (by first | exact nI_add _ _ | rfl) dL_law_416 ?_
  refine zg_sld F X (by omega) dL_law_417 ?_
  refine zg_aload_n F 5 rfl rfl dL_law_418 ?_
  refine zg_iload F 1 rfl dL_law_419 ?_
  refine zg_iconst F (v := nI 2) (by decide) dL_law_421 ?_
  refine zg_iadd F (by first | exact nI_add _ _ | rfl) dL_law_422 ?_
  refine zg_sld F X (by omega) dL_law_423 ?_
  refine zg_callV F (hMM) zv_M_wish zu_M_wish zk_672 (fun _ _ h => h.2.1.1) rfl rfl ⟨by show d + 1 ≤ 12; omega, by show 8 + (4 + 11) + 32 * d ≤ 432; omega⟩ ⟨by show _ ≤ 601024; omega, by show _ ≤ 7293034; omega⟩ rfl (Nat.le_of_ble_eq_true rfl) dL_law_424 ?_
  refine zg_istore F (by rw [hn]; decide) (L' := [(6, _), (5, _), (4, _), (3, _), (2, _), (1, _), (0, _)]) rfl dL_law_427 ?_
  refine zg_aload_n F 4 rfl rfl dL_law_429 ?_
  refine zg_callV F (zM_thrown _ _ _ _ (x + 70) z1 w1 σ2) zv_M_thrown zu_M_thrown zk_624 (fun _ _ h => h.2.1.1) rfl rfl ⟨by decide, by decide⟩ ⟨by show _ ≤ 601024; omega, by show _ ≤ 7293034; omega⟩ rfl (Nat.le_of_ble_eq_true rfl) dL_law_430 ?_
  refine zg_eqi h25 ?_
  refine zg_iload F 1 rfl dL_law_433 ?_
  refine zg_icmp_eqT F (tgt := 440) dL_law_435 (by decide) (rfl) ?_
  refine zg_iload F 1 rfl dL_law_440 ?_
  by_cases hk0 : k = 0
  · refine zg_if_neF F dL_law_442 (tgt := 457) (by decide) (by rw [hk0]; rfl) ?_
    refine zg_aload_n F 3 rfl rfl dL_law_445 ?_
    refine zg_iconst F (v := nI 0) (by decide) dL_law_446 ?_
    refine zg_lald F (fun _ _ h => by rw [h.2.2 _ (by omega)]; exact hfo) (by decide) (by decide) (hr hk0) dL_law_447 ?_
    refine zg_iload F 0 rfl dL_law_448 ?_
    refine zg_i2l F rfl dL_law_450 ?_
    refine zg_lcmp F rfl dL_law_451 ?_
    refine zg_if_eqT F (tgt := 457) dL_law_452 (by decide) ((lg_cmp_eq _ _).mpr er.symm) ?_
    refine zg_goto F (tgt := 1478) dL_law_457 (by decide) ?_
    refine zg_sub [2, 3, 4, 5, 6] (L' := [(4, _), (3, _), (2, _), (1, _), (0, _)]) rfl ?_
    exact zg_mono (fun w z h => hend w z h) kk
  · refine zg_if_neT F (tgt := 457) dL_law_442 (by decide) (nI_ne0 (by omega) (by omega)) ?_
    refine zg_goto F (tgt := 1478) dL_law_457 (by decide) ?_
    refine zg_sub [2, 3, 4, 5, 6] (L' := [(4, _), (3, _), (2, _), (1, _), (0, _)]) rfl ?_
    exact zg_mono (fun w z h => hend w z h) kk
set_option maxRecDepth 100000 in
set_option maxHeartbeats 4000000 in
theorem zT_cancel {K : zg_K} (F : zg_F K zc_L_law "IslandRightsLaw" room_1) (hn : zk_n K = 8) (hl : (zk_l K).stackTraces = false) {b N : Nat} {xs : Nat → Int32} (X : zg_Xs K b N xs) {x i n cells slots : Nat} (hi : i + 5 < N) (hn2 : 4 * (n + 1) < 2 ^ 30) (hc : cells + 9 ≤ 601024) (hs : slots + 50 ≤ 7293034) (kk : zg_G K (zl_Inv (zk_A K) x (n + 1)) (cells + 9) (slots + 50) 1478 (zl_L x b i) []) : zg_G K (zl_Inv (zk_A K) x n) cells slots 460 (zl_L x b i) [] := by
  refine zg_pt (fun w z hI => ?_)
  obtain ⟨σ, τ, hI⟩ := hI
  obtain ⟨k, mc, ms, P0, P1, ⟨hk4, hmc, hms⟩, hP0, hx0, hXW, hrest⟩ := zO_cancel (zk_l K) (zk_D K) (zk_A K) (zk_z K) hl hI hn2 (xs (i + 1))
  refine zg_mono (P' := P0) (fun w' z' q => by rw [q.1, q.2]; exact hP0) ?_
  refine zg_aload_n F 3 rfl rfl dL_law_460 ?_
  refine zg_aload_n F 4 rfl rfl dL_law_461 ?_
  refine zg_iload F 0 rfl dL_law_462 ?_
  refine zg_iconst F (v := nI 1) (by decide) dL_law_464 ?_
  refine zg_iadd F (by first | exact nI_add _ _ | rfl) dL_law_465 ?_
  refine zg_sld F X (by omega) dL_law_466 ?_
  refine zg_aload_n F 1 rfl rfl dL_law_467 ?_
  refine zg_callSW F hXW zv_L_cancel zk_377 rfl ⟨by decide, by decide⟩ ⟨by show _ ≤ 601024; omega, by show _ ≤ 7293034; omega⟩ rfl (Nat.le_of_ble_eq_true rfl) dL_law_468 ?_
  refine zg_wid (c2 := cells + 9) (s2 := slots + 50) (by omega) (by omega) ?_
  refine zg_istore F (by rw [hn]; decide) (L' := [(5, _), (4, _), (3, _), (2, _), (1, _), (0, _)]) rfl dL_law_471 ?_
  refine zg_pt (fun w1 z1 h1 => ?_)
  obtain ⟨σ1, σ2, r, d, hd, hm0, hMM, h25, ⟨fo, hfo, hr⟩, hend⟩ := hrest w1 z1 h1
  refine zg_mono (P' := zm_P (zk_A K) (x + 70) w1 z1 σ1) (fun w' z' q => by rw [q.1, q.2]; exact hm0) ?_
  obtain ⟨r32, er, hMM⟩ := hMM
  refine zg_aload_n F 3 rfl rfl dL_law_473 ?_
  refine zg_aload_n F 5 rfl rfl dL_law_474 ?_
  refine zg_iload F 1 rfl dL_law_475 ?_
  refine zg_iconst F (v := nI 1) (by decide) dL_law_477 ?_
  refine zg_iadd F (by first | exact nI_add _ _ | rfl) dL_law_478 ?_
  refine zg_sld F X (by omega) dL_law_479 ?_
  refine zg_callV F (hMM) zv_M_cancel zu_M_cancel zk_680 (fun _ _ h => h.2.1.1) rfl rfl ⟨by show d + 1 ≤ 12; omega, by show 8 + (2 + 11) + 32 * d ≤ 432; omega⟩ ⟨by show _ ≤ 601024; omega, by show _ ≤ 7293034; omega⟩ rfl (Nat.le_of_ble_eq_true rfl) dL_law_480 ?_
  refine zg_istore F (by rw [hn]; decide) (L' := [(6, _), (5, _), (4, _), (3, _), (2, _), (1, _), (0, _)]) rfl dL_law_483 ?_
  refine zg_aload_n F 4 rfl rfl dL_law_485 ?_
  refine zg_callV F (zM_thrown _ _ _ _ (x + 70) z1 w1 σ2) zv_M_thrown zu_M_thrown zk_624 (fun _ _ h => h.2.1.1) rfl rfl ⟨by decide, by decide⟩ ⟨by show _ ≤ 601024; omega, by show _ ≤ 7293034; omega⟩ rfl (Nat.le_of_ble_eq_true rfl) dL_law_486 ?_
  refine zg_eqi h25 ?_
  refine zg_iload F 1 rfl dL_law_489 ?_
  refine zg_icmp_eqT F (tgt := 496) dL_law_491 (by decide) (rfl) ?_
  refine zg_iload F 1 rfl dL_law_496 ?_
  by_cases hk0 : k = 0
  · refine zg_if_neF F dL_law_498 (tgt := 513) (by decide) (by rw [hk0]; rfl) ?_
    refine zg_aload_n F 3 rfl rfl dL_law_501 ?_
    refine zg_iconst F (v := nI 0) (by decide) dL_law_502 ?_
    refine zg_lald F (fun _ _ h => by rw [h.2.2 _ (by omega)]; exact hfo) (by decide) (by decide) (hr hk0) dL_law_503 ?_
    refine zg_iload F 0 rfl dL_law_504 ?_
    refine zg_i2l F rfl dL_law_506 ?_
    refine zg_lcmp F rfl dL_law_507 ?_
    refine zg_if_eqT F (tgt := 513) dL_law_508 (by decide) ((lg_cmp_eq _ _).mpr er.symm) ?_
    refine zg_goto F (tgt := 1478) dL_law_513 (by decide) ?_
    refine zg_sub [2, 3, 4, 5, 6] (L' := [(4, _), (3, _), (2, _), (1, _), (0, _)]) rfl ?_
    exact zg_mono (fun w z h => hend w z h) kk
  · refine zg_if_neT F (tgt := 513) dL_law_498 (by decide) (nI_ne0 (by omega) (by omega)) ?_
    refine zg_goto F (tgt := 1478) dL_law_513 (by decide) ?_
    refine zg_sub [2, 3, 4, 5, 6] (L' := [(4, _), (3, _), (2, _), (1, _), (0, _)]) rfl ?_
    exact zg_mono (fun w z h => hend w z h) kk
set_option maxRecDepth 100000 in
set_option maxHeartbeats 4000000 in
theorem zT_ticket {K : zg_K} (F : zg_F K zc_L_law "IslandRightsLaw" room_1) (hn : zk_n K = 8) (hl : (zk_l K).stackTraces = false) {b N : Nat} {xs : Nat → Int32} (X : zg_Xs K b N xs) {x i n cells slots : Nat} (hi : i + 5 < N) (hn2 : 4 * (n + 1) < 2 ^ 30) (hc : cells + 9 ≤ 601024) (hs : slots + 50 ≤ 7293034) (kk : zg_G K (zl_Inv (zk_A K) x (n + 1)) (cells + 9) (slots + 50) 1478 (zl_L x b i) []) : zg_G K (zl_Inv (zk_A K) x n) cells slots 516 (zl_L x b i) [] := by
  refine zg_pt (fun w z hI => ?_)
  obtain ⟨σ, τ, hI⟩ := hI
  obtain ⟨k, mc, ms, P0, P1, ⟨hk4, hmc, hms⟩, hP0, hx0, hXW, hrest⟩ := zO_ticket (zk_l K) (zk_D K) (zk_A K) (zk_z K) hl hI hn2 (xs (i + 1)) (xs (i + 2))
  refine zg_mono (P' := P0) (fun w' z' q => by rw [q.1, q.2]; exact hP0) ?_
  refine zg_aload_n F 3 rfl rfl dL_law_516 ?_
  refine zg_aload_n F 4 rfl rfl dL_law_517 ?_
  refine zg_iload F 0 rfl dL_law_518 ?_
  refine zg_iconst F (v := nI 1) (by decide) dL_law_520 ?_
  refine zg_iadd F (by first | exact nI_add _ _ | rfl) dL_law_521 ?_
  refine zg_sld F X (by omega) dL_law_522 ?_
  refine zg_aload_n F 4 rfl rfl dL_law_523 ?_
  refine zg_iload F 0 rfl dL_law_524 ?_
  refine zg_iconst F (v := nI 2) (by decide) dL_law_526 ?_
  refine zg_iadd F (by first | exact nI_add _ _ | rfl) dL_law_527 ?_
  refine zg_sld F X (by omega) dL_law_528 ?_
  refine zg_aload_n F 1 rfl rfl dL_law_529 ?_
  refine zg_callSW F hXW zv_L_ticket zk_390 rfl ⟨by decide, by decide⟩ ⟨by show _ ≤ 601024; omega, by show _ ≤ 7293034; omega⟩ rfl (Nat.le_of_ble_eq_true rfl) dL_law_530 ?_
  refine zg_wid (c2 := cells + 9) (s2 := slots + 50) (by omega) (by omega) ?_
  refine zg_istore F (by rw [hn]; decide) (L' := [(5, _), (4, _), (3, _), (2, _), (1, _), (0, _)]) rfl dL_law_533 ?_
  refine zg_pt (fun w1 z1 h1 => ?_)
  obtain ⟨σ1, σ2, r, d, hd, hm0, hMM, h25, ⟨fo, hfo, hr⟩, hend⟩ := hrest w1 z1 h1
  refine zg_mono (P' := zm_P (zk_A K) (x + 70) w1 z1 σ1) (fun w' z' q => by rw [q.1, q.2]; exact hm0) ?_
  obtain ⟨r32, er, hMM⟩ := hMM
  refine zg_aload_n F 3 rfl rfl dL_law_535 ?_
  refine zg_aload_n F 5 rfl rfl dL_law_536 ?_
  refine zg_iload F 1 rfl dL_law_537 ?_
  refine zg_iconst F (v := nI 1) (by decide) dL_law_539 ?_
  refine zg_iadd F (by first | exact nI_add _ _ | rfl) dL_law_540 ?_
  refine zg_sld F X (by omega) dL_law_541 ?_
  refine zg_aload_n F 5 rfl rfl dL_law_542 ?_
  refine zg_iload F 1 rfl dL_law_543 ?_
  refine zg_iconst F (v := nI 2) (by decide) dL_law_545 ?_
  refine zg_iadd F (by first | exact nI_add _ _ | rfl) dL_law_546 ?_
  refine zg_sld F X (by omega) dL_law_547 ?_
  refine zg_callV F (hMM) zv_M_ticket zu_M_ticket zk_688 (fun _ _ h => h.2.1.1) rfl rfl ⟨by show d + 1 ≤ 12; omega, by show 8 + (3 + 11) + 32 * d ≤ 432; omega⟩ ⟨by show _ ≤ 601024; omega, by show _ ≤ 7293034; omega⟩ rfl (Nat.le_of_ble_eq_true rfl) dL_law_548 ?_
  refine zg_istore F (by rw [hn]; decide) (L' := [(6, _), (5, _), (4, _), (3, _), (2, _), (1, _), (0, _)]) rfl dL_law_551 ?_
  refine zg_aload_n F 4 rfl rfl dL_law_553 ?_
  refine zg_callV F (zM_thrown _ _ _ _ (x + 70) z1 w1 σ2) zv_M_thrown zu_M_thrown zk_624 (fun _ _ h => h.2.1.1) rfl rfl ⟨by decide, by decide⟩ ⟨by show _ ≤ 601024; omega, by show _ ≤ 7293034; omega⟩ rfl (Nat.le_of_ble_eq_true rfl) dL_law_554 ?_
  refine zg_eqi h25 ?_
  refine zg_iload F 1 rfl dL_law_557 ?_
  refine zg_icmp_eqT F (tgt := 564) dL_law_559 (by decide) (rfl) ?_
  refine zg_iload F 1 rfl dL_law_564 ?_
  by_cases hk0 : k = 0
  · refine zg_if_neF F dL_law_566 (tgt := 581) (by decide) (by rw [hk0]; rfl) ?_
    refine zg_aload_n F 3 rfl rfl dL_law_569 ?_
    refine zg_iconst F (v := nI 0) (by decide) dL_law_570 ?_
    refine zg_lald F (fun _ _ h => by rw [h.2.2 _ (by omega)]; exact hfo) (by decide) (by decide) (hr hk0) dL_law_571 ?_
    refine zg_iload F 0 rfl dL_law_572 ?_
    refine zg_i2l F rfl dL_law_574 ?_
    refine zg_lcmp F rfl dL_law_575 ?_
    refine zg_if_eqT F (tgt := 581) dL_law_576 (by decide) ((lg_cmp_eq _ _).mpr er.symm) ?_
    refine zg_goto F (tgt := 1478) dL_law_581 (by decide) ?_
    refine zg_sub [2, 3, 4, 5, 6] (L' := [(4, _), (3, _), (2, _), (1, _), (0, _)]) rfl ?_
    exact zg_mono (fun w z h => hend w z h) kk
  · refine zg_if_neT F (tgt := 581) dL_law_566 (by decide) (nI_ne0 (by omega) (by omega)) ?_
    refine zg_goto F (tgt := 1478) dL_law_581 (by decide) ?_
    refine zg_sub [2, 3, 4, 5, 6] (L' := [(4, _), (3, _), (2, _), (1, _), (0, _)]) rfl ?_
    exact zg_mono (fun w z h => hend w z h) kk
set_option maxRecDepth 100000 in
set_option maxHeartbeats 4000000 in
theorem zT_price {K : zg_K} (F : zg_F K zc_L_law "IslandRightsLaw" room_1) (hn : zk_n K = 8) (hl : (zk_l K).stackTraces = false) {b N : Nat} {xs : Nat → Int32} (X : zg_Xs K b N xs) {x i n cells slots : Nat} (hi : i + 5 < N) (hn2 : 4 * (n + 1) < 2 ^ 30) (hc : cells + 9 ≤ 601024) (hs : slots + 50 ≤ 7293034) (kk : zg_G K (zl_Inv (zk_A K) x (n + 1)) (cells + 9) (slots + 50) 1478 (zl_L x b i) []) : zg_G K (zl_Inv (zk_A K) x n) cells slots 584 (zl_L x b i) [] := by
  refine zg_pt (fun w z hI => ?_)
  obtain ⟨σ, τ, hI⟩ := hI
  obtain ⟨k, mc, ms, P0, P1, ⟨hk4, hmc, hms⟩, hP0, hx0, hXW, hrest⟩ := zO_price (zk_l K) (zk_D K) (zk_A K) (zk_z K) hl hI hn2 (xs (i + 1))
  refine zg_mono (P' := P0) (fun w' z' q => by rw [q.1, q.2]; exact hP0) ?_
  refine zg_aload_n F 3 rfl rfl dL_law_584 ?_
  refine zg_aload_n F 4 rfl rfl dL_law_585 ?_
  refine zg_iload F 0 rfl dL_law_586 ?_
  refine zg_iconst F (v := nI 1) (by decide) dL_law_588 ?_
  refine zg_iadd F (by first | exact nI_add _ _ | rfl) dL_law_589 ?_
  refine zg_sld F X (by omega) dL_law_590 ?_
  refine zg_aload_n F 1 rfl rfl dL_law_591 ?_
  refine zg_callSW F hXW zv_L_price zk_398 rfl ⟨by decide, by decide⟩ ⟨by show _ ≤ 601024; omega, by show _ ≤ 7293034; omega⟩ rfl (Nat.le_of_ble_eq_true rfl) dL_law_592 ?_
  refine zg_wid (c2 := cells + 9) (s2 := slots + 50) (by omega) (by omega) ?_
  refine zg_istore F (by rw [hn]; decide) (L' := [(5, _), (4, _), (3, _), (2, _), (1, _), (0, _)]) rfl dL_law_595 ?_
  refine zg_pt (fun w1 z1 h1 => ?_)
  obtain ⟨σ1, σ2, r, d, hd, hm0, hMM, h25, ⟨fo, hfo, hr⟩, hend⟩ := hrest w1 z1 h1
  refine zg_mono (P' := zm_P (zk_A K) (x + 70) w1 z1 σ1) (fun w' z' q => by rw [q.1, q.2]; exact hm0) ?_
  refine zg_aload_n F 3 rfl rfl dL_law_597 ?_
  refine zg_aload_n F 5 rfl rfl dL_law_598 ?_
  refine zg_iload F 1 rfl dL_law_599 ?_
  refine zg_iconst F (v := nI 1) (by decide) dL_law_601 ?_
  refine zg_iadd F (by first | exact nI_add _ _ | rfl) dL_law_602 ?_
  refine zg_sld F X (by omega) dL_law_603 ?_
  refine zg_callV F (hMM) zv_M_price zu_M_price zk_692 (fun _ _ h => h.2.1.1) rfl rfl ⟨by show d + 1 ≤ 12; omega, by show 8 + (2 + 11) + 32 * d ≤ 432; omega⟩ ⟨by show _ ≤ 601024; omega, by show _ ≤ 7293034; omega⟩ rfl (Nat.le_of_ble_eq_true rfl) dL_law_604 ?_
  refine zg_lstore F (by rw [hn]; decide) (L' := [(6, _), (5, _), (4, _), (3, _), (2, _), (1, _), (0, _)]) rfl dL_law_607 ?_
  refine zg_aload_n F 4 rfl rfl dL_law_609 ?_
  refine zg_callV F (zM_thrown _ _ _ _ (x + 70) z1 w1 σ2) zv_M_thrown zu_M_thrown zk_624 (fun _ _ h => h.2.1.1) rfl rfl ⟨by decide, by decide⟩ ⟨by show _ ≤ 601024; omega, by show _ ≤ 7293034; omega⟩ rfl (Nat.le_of_ble_eq_true rfl) dL_law_610 ?_
  refine zg_eqi h25 ?_
  refine zg_iload F 1 rfl dL_law_613 ?_
  refine zg_icmp_eqT F (tgt := 620) dL_law_615 (by decide) (rfl) ?_
  refine zg_iload F 1 rfl dL_law_620 ?_
  by_cases hk0 : k = 0
  · refine zg_if_neF F dL_law_622 (tgt := 636) (by decide) (by rw [hk0]; rfl) ?_
    refine zg_aload_n F 3 rfl rfl dL_law_625 ?_
    refine zg_iconst F (v := nI 0) (by decide) dL_law_626 ?_
    refine zg_lald F (fun _ _ h => by rw [h.2.2 _ (by omega)]; exact hfo) (by decide) (by decide) (hr hk0) dL_law_627 ?_
    refine zg_lload F 0 rfl dL_law_628 ?_
    refine zg_lcmp F rfl dL_law_630 ?_
    refine zg_if_eqT F (tgt := 636) dL_law_631 (by decide) ((lg_cmp_eq _ _).mpr rfl) ?_
    refine zg_goto F (tgt := 1478) dL_law_636 (by decide) ?_
    refine zg_sub [2, 3, 4, 5, 6] (L' := [(4, _), (3, _), (2, _), (1, _), (0, _)]) rfl ?_
    exact zg_mono (fun w z h => hend w z h) kk
  · refine zg_if_neT F (tgt := 636) dL_law_622 (by decide) (nI_ne0 (by omega) (by omega)) ?_
    refine zg_goto F (tgt := 1478) dL_law_636 (by decide) ?_
    refine zg_sub [2, 3, 4, 5, 6] (L' := [(4, _), (3, _), (2, _), (1, _), (0, _)]) rfl ?_
    exact zg_mono (fun w z h => hend w z h) kk
set_option maxRecDepth 100000 in
set_option maxHeartbeats 4000000 in
theorem zT_hand {K : zg_K} (F : zg_F K zc_L_law "IslandRightsLaw" room_1) (hn : zk_n K = 8) (hl : (zk_l K).stackTraces = false) {b N : Nat} {xs : Nat → Int32} (X : zg_Xs K b N xs) {x i n cells slots : Nat} (hi : i + 5 < N) (hn2 : 4 * (n + 1) < 2 ^ 30) (hc : cells + 9 ≤ 601024) (hs : slots + 50 ≤ 7293034) (kk : zg_G K (zl_Inv (zk_A K) x (n + 1)) (cells + 9) (slots + 50) 1478 (zl_L x b i) []) : zg_G K (zl_Inv (zk_A K) x n) cells slots 639 (zl_L x b i) [] := by
  refine zg_pt (fun w z hI => ?_)
  obtain ⟨σ, τ, hI⟩ := hI
  obtain ⟨k, mc, ms, P0, P1, ⟨hk4, hmc, hms⟩, hP0, hx0, hXW, hrest⟩ := zO_hand (zk_l K) (zk_D K) (zk_A K) (zk_z K) hl hI hn2 (xs (i + 1)) (xs (i + 2)) (xs (i + 3)) (xs (i + 4)) (xs (i + 5))
  refine zg_mono (P' := P0) (fun w' z' q => by rw [q.1, q.2]; exact hP0) ?_
  refine zg_aload_n F 3 rfl rfl dL_law_639 ?_
  refine zg_aload_n F 4 rfl rfl dL_law_640 ?_
  refine zg_iload F 0 rfl dL_law_641 ?_
  refine zg_iconst F (v := nI 1) (by decide) dL_law_643 ?_
  refine zg_iadd F (by first | exact nI_add _ _ | rfl) dL_law_644 ?_
  refine zg_sld F X (by omega) dL_law_645 ?_
  refine zg_aload_n F 4 rfl rfl dL_law_646 ?_
  refine zg_iload F 0 rfl dL_law_647 ?_
  refine zg_iconst F (v := nI 2) (by decide) dL_law_649 ?_
  refine zg_iadd F (by first | exact nI_add _ _ | rfl) dL_law_650 ?_
  refine zg_sld F X (by omega) dL_law_651 ?_
  refine zg_aload_n F 4 rfl rfl dL_law_652 ?_
  refine zg_iload F 0 rfl dL_law_653 ?_
  refine zg_iconst F (v := nI 3) (by decide) dL_law_655 ?_
  refine zg_iadd F (by first | exact nI_add _ _ | rfl) dL_law_656 ?_
  refine zg_sld F X (by omega) dL_law_657 ?_
  refine zg_aload_n F 4 rfl rfl dL_law_658 ?_
  refine zg_iload F 0 rfl dL_law_659 ?_
  refine zg_iconst F (v := nI 4) (by decide) dL_law_661 ?_
  refine zg_iadd F (by first | exact nI_add _ _ | rfl) dL_law_662 ?_
  refine zg_sld F X (by omega) dL_law_663 ?_
  refine zg_aload_n F 4 rfl rfl dL_law_664 ?_
  refine zg_iload F 0 rfl dL_law_665 ?_
  refine zg_iconst F (v := nI 5) (by decide) dL_law_667 ?_
  refine zg_iadd F (by first | exact nI_add _ _ | rfl) dL_law_668 ?_
  refine zg_sld F X (by omega) dL_law_669 ?_
  refine zg_aload_n F 1 rfl rfl dL_law_670 ?_
  refine zg_callSW F hXW zv_L_hand zk_405 rfl ⟨by decide, by decide⟩ ⟨by show _ ≤ 601024; omega, by show _ ≤ 7293034; omega⟩ rfl (Nat.le_of_ble_eq_true rfl) dL_law_671 ?_
  refine zg_wid (c2 := cells + 9) (s2 := slots + 50) (by omega) (by omega) ?_
  refine zg_istore F (by rw [hn]; decide) (L' := [(5, _), (4, _), (3, _), (2, _), (1, _), (0, _)]) rfl dL_law_674 ?_
  refine zg_pt (fun w1 z1 h1 => ?_)
  obtain ⟨σ1, σ2, r, d, hd, hm0, hMM, h25, ⟨fo, hfo, hr⟩, hend⟩ := hrest w1 z1 h1
  refine zg_mono (P' := zm_P (zk_A K) (x + 70) w1 z1 σ1) (fun w' z' q => by rw [q.1, q.2]; exact hm0) ?_
  obtain ⟨r32, er, hMM⟩ := hMM
  refine zg_aload_n F 3 rfl rfl dL_law_676 ?_
  refine zg_aload_n F 5 rfl rfl dL_law_677 ?_
  refine zg_iload F 1 rfl dL_law_678 ?_
  refine zg_iconst F (v := nI 1) (by decide) dL_law_680 ?_
  refine zg_iadd F (by first | exact nI_add _ _ | rfl) dL_law_681 ?_
  refine zg_sld F X (by omega) dL_law_682 ?_
  refine zg_aload_n F 5 rfl rfl dL_law_683 ?_
  refine zg_iload F 1 rfl dL_law_684 ?_
  refine zg_iconst F (v := nI 2) (by decide) dL_law_686 ?_
  refine zg_iadd F (by first | exact nI_add _ _ | rfl) dL_law_687 ?_
  refine zg_sld F X (by omega) dL_law_688 ?_
  refine zg_aload_n F 5 rfl rfl dL_law_689 ?_
  refine zg_iload F 1 rfl dL_law_690 ?_
  refine zg_iconst F (v := nI 3) (by decide) dL_law_692 ?_
  refine zg_iadd F (by first | exact nI_add _ _ | rfl) dL_law_693 ?_
  refine zg_sld F X (by omega) dL_law_694 ?_
  refine zg_aload_n F 5 rfl rfl dL_law_695 ?_
  refine zg_iload F 1 rfl dL_law_696 ?_
  refine zg_iconst F (v := nI 4) (by decide) dL_law_698 ?_
  refine zg_iadd F (by first | exact nI_add _ _ | rfl) dL_law_699 ?_
  refine zg_sld F X (by omega) dL_law_700 ?_
  refine zg_aload_n F 5 rfl rfl dL_law_701 ?_
  refine zg_iload F 1 rfl dL_law_702 ?_
  refine zg_iconst F (v := nI 5) (by decide) dL_law_704 ?_
  refine zg_iadd F (by first | exact nI_add _ _ | rfl) dL_law_705 ?_
  refine zg_sld F X (by omega) dL_law_706 ?_
  refine zg_callV F (hMM) zv_M_hand zu_M_hand zk_696 (fun _ _ h => h.2.1.1) rfl rfl ⟨by show d + 1 ≤ 12; omega, by show 8 + (7 + 11) + 32 * d ≤ 432; omega⟩ ⟨by show _ ≤ 601024; omega, by show _ ≤ 7293034; omega⟩ rfl (Nat.le_of_ble_eq_true rfl) dL_law_707 ?_
  refine zg_istore F (by rw [hn]; decide) (L' := [(6, _), (5, _), (4, _), (3, _), (2, _), (1, _), (0, _)]) rfl dL_law_710 ?_
  refine zg_aload_n F 4 rfl rfl dL_law_712 ?_
  refine zg_callV F (zM_thrown _ _ _ _ (x + 70) z1 w1 σ2) zv_M_thrown zu_M_thrown zk_624 (fun _ _ h => h.2.1.1) rfl rfl ⟨by decide, by decide⟩ ⟨by show _ ≤ 601024; omega, by show _ ≤ 7293034; omega⟩ rfl (Nat.le_of_ble_eq_true rfl) dL_law_713 ?_
  refine zg_eqi h25 ?_
  refine zg_iload F 1 rfl dL_law_716 ?_
  refine zg_icmp_eqT F (tgt := 723) dL_law_718 (by decide) (rfl) ?_
  refine zg_iload F 1 rfl dL_law_723 ?_
  by_cases hk0 : k = 0
  · refine zg_if_neF F dL_law_725 (tgt := 740) (by decide) (by rw [hk0]; rfl) ?_
    refine zg_aload_n F 3 rfl rfl dL_law_728 ?_
    refine zg_iconst F (v := nI 0) (by decide) dL_law_729 ?_
    refine zg_lald F (fun _ _ h => by rw [h.2.2 _ (by omega)]; exact hfo) (by decide) (by decide) (hr hk0) dL_law_730 ?_
    refine zg_iload F 0 rfl dL_law_731 ?_
    refine zg_i2l F rfl dL_law_733 ?_
    refine zg_lcmp F rfl dL_law_734 ?_
    refine zg_if_eqT F (tgt := 740) dL_law_735 (by decide) ((lg_cmp_eq _ _).mpr er.symm) ?_
    refine zg_goto F (tgt := 1478) dL_law_740 (by decide) ?_
    refine zg_sub [2, 3, 4, 5, 6] (L' := [(4, _), (3, _), (2, _), (1, _), (0, _)]) rfl ?_
    exact zg_mono (fun w z h => hend w z h) kk
  · refine zg_if_neT F (tgt := 740) dL_law_725 (by decide) (nI_ne0 (by omega) (by omega)) ?_
    refine zg_goto F (tgt := 1478) dL_law_740 (by decide) ?_
    refine zg_sub [2, 3, 4, 5, 6] (L' := [(4, _), (3, _), (2, _), (1, _), (0, _)]) rfl ?_
    exact zg_mono (fun w z h => hend w z h) kk
set_option maxRecDepth 100000 in
set_option maxHeartbeats 4000000 in
theorem zT_share {K : zg_K} (F : zg_F K zc_L_law "IslandRightsLaw" room_1) (hn : zk_n K = 8) (hl : (zk_l K).stackTraces = false) {b N : Nat} {xs : Nat → Int32} (X : zg_Xs K b N xs) {x i n cells slots : Nat} (hi : i + 5 < N) (hn2 : 4 * (n + 1) < 2 ^ 30) (hc : cells + 9 ≤ 601024) (hs : slots + 50 ≤ 7293034) (kk : zg_G K (zl_Inv (zk_A K) x (n + 1)) (cells + 9) (slots + 50) 1478 (zl_L x b i) []) : zg_G K (zl_Inv (zk_A K) x n) cells slots 743 (zl_L x b i) [] := by
  refine zg_pt (fun w z hI => ?_)
  obtain ⟨σ, τ, hI⟩ := hI
  obtain ⟨k, mc, ms, P0, P1, ⟨hk4, hmc, hms⟩, hP0, hx0, hXW, hrest⟩ := zO_share (zk_l K) (zk_D K) (zk_A K) (zk_z K) hl hI hn2 (xs (i + 1)) (xs (i + 2)) (xs (i + 3))
  refine zg_mono (P' := P0) (fun w' z' q => by rw [q.1, q.2]; exact hP0) ?_
  refine zg_aload_n F 3 rfl rfl dL_law_743 ?_
  refine zg_aload_n F 4 rfl rfl dL_law_744 ?_
  refine zg_iload F 0 rfl dL_law_745 ?_
  refine zg_iconst F (v := nI 1) (by decide) dL_law_747 ?_
  refine zg_iadd F (by first | exact nI_add _ _ | rfl) dL_law_748 ?_
  refine zg_sld F X (by omega) dL_law_749 ?_
  refine zg_aload_n F 4 rfl rfl dL_law_750 ?_
  refine zg_iload F 0 rfl dL_law_751 ?_
  refine zg_iconst F (v := nI 2) (by decide) dL_law_753 ?_
  refine zg_iadd F (by first | exact nI_add _ _ | rfl) dL_law_754 ?_
  refine zg_sld F X (by omega) dL_law_755 ?_
  refine zg_aload_n F 4 rfl rfl dL_law_756 ?_
  refine zg_iload F 0 rfl dL_law_757 ?_
  refine zg_iconst F (v := nI 3) (by decide) dL_law_759 ?_
  refine zg_iadd F (by first | exact nI_add _ _ | rfl) dL_law_760 ?_
  refine zg_sld F X (by omega) dL_law_761 ?_
  refine zg_aload_n F 1 rfl rfl dL_law_762 ?_
  refine zg_callSW F hXW zv_L_share zk_439 rfl ⟨by decide, by decide⟩ ⟨by show _ ≤ 601024; omega, by show _ ≤ 7293034; omega⟩ rfl (Nat.le_of_ble_eq_true rfl) dL_law_763 ?_
  refine zg_wid (c2 := cells + 9) (s2 := slots + 50) (by omega) (by omega) ?_
  refine zg_istore F (by rw [hn]; decide) (L' := [(5, _), (4, _), (3, _), (2, _), (1, _), (0, _)]) rfl dL_law_766 ?_
  refine zg_pt (fun w1 z1 h1 => ?_)
  obtain ⟨σ1, σ2, r, d, hd, hm0, hMM, h25, ⟨fo, hfo, hr⟩, hend⟩ := hrest w1 z1 h1
  refine zg_mono (P' := zm_P (zk_A K) (x + 70) w1 z1 σ1) (fun w' z' q => by rw [q.1, q.2]; exact hm0) ?_
  obtain ⟨r32, er, hMM⟩ := hMM
  refine zg_aload_n F 3 rfl rfl dL_law_768 ?_
  refine zg_aload_n F 5 rfl rfl dL_law_769 ?_
  refine zg_iload F 1 rfl dL_law_770 ?_
  refine zg_iconst F (v := nI 1) (by decide) dL_law_772 ?_
  refine zg_iadd F (by first | exact nI_add _ _ | rfl) dL_law_773 ?_
  refine zg_sld F X (by omega) dL_law_774 ?_
  refine zg_aload_n F 5 rfl rfl dL_law_775 ?_
  refine zg_iload F 1 rfl dL_law_776 ?_
  refine zg_iconst F (v := nI 2) (by decide) dL_law_778 ?_
  refine zg_iadd F (by first | exact nI_add _ _ | rfl) dL_law_779 ?_
  refine zg_sld F X (by omega) dL_law_780 ?_
  refine zg_aload_n F 5 rfl rfl dL_law_781 ?_
  refine zg_iload F 1 rfl dL_law_782 ?_
  refine zg_iconst F (v := nI 3) (by decide) dL_law_784 ?_
  refine zg_iadd F (by first | exact nI_add _ _ | rfl) dL_law_785 ?_
  refine zg_sld F X (by omega) dL_law_786 ?_
  refine zg_callV F (hMM) zv_M_share zu_M_share zk_704 (fun _ _ h => h.2.1.1) rfl rfl ⟨by show d + 1 ≤ 12; omega, by show 8 + (7 + 11) + 32 * d ≤ 432; omega⟩ ⟨by show _ ≤ 601024; omega, by show _ ≤ 7293034; omega⟩ rfl (Nat.le_of_ble_eq_true rfl) dL_law_787 ?_
  refine zg_istore F (by rw [hn]; decide) (L' := [(6, _), (5, _), (4, _), (3, _), (2, _), (1, _), (0, _)]) rfl dL_law_790 ?_
  refine zg_aload_n F 4 rfl rfl dL_law_792 ?_
  refine zg_callV F (zM_thrown _ _ _ _ (x + 70) z1 w1 σ2) zv_M_thrown zu_M_thrown zk_624 (fun _ _ h => h.2.1.1) rfl rfl ⟨by decide, by decide⟩ ⟨by show _ ≤ 601024; omega, by show _ ≤ 7293034; omega⟩ rfl (Nat.le_of_ble_eq_true rfl) dL_law_793 ?_
  refine zg_eqi h25 ?_
  refine zg_iload F 1 rfl dL_law_796 ?_
  refine zg_icmp_eqT F (tgt := 803) dL_law_798 (by decide) (rfl) ?_
  refine zg_iload F 1 rfl dL_law_803 ?_
  by_cases hk0 : k = 0
  · refine zg_if_neF F dL_law_805 (tgt := 820) (by decide) (by rw [hk0]; rfl) ?_
    refine zg_aload_n F 3 rfl rfl dL_law_808 ?_
    refine zg_iconst F (v := nI 0) (by decide) dL_law_809 ?_
    refine zg_lald F (fun _ _ h => by rw [h.2.2 _ (by omega)]; exact hfo) (by decide) (by decide) (hr hk0) dL_law_810 ?_
    refine zg_iload F 0 rfl dL_law_811 ?_
    refine zg_i2l F rfl dL_law_813 ?_
    refine zg_lcmp F rfl dL_law_814 ?_
    refine zg_if_eqT F (tgt := 820) dL_law_815 (by decide) ((lg_cmp_eq _ _).mpr er.symm) ?_
    refine zg_goto F (tgt := 1478) dL_law_820 (by decide) ?_
    refine zg_sub [2, 3, 4, 5, 6] (L' := [(4, _), (3, _), (2, _), (1, _), (0, _)]) rfl ?_
    exact zg_mono (fun w z h => hend w z h) kk
  · refine zg_if_neT F (tgt := 820) dL_law_805 (by decide) (nI_ne0 (by omega) (by omega)) ?_
    refine zg_goto F (tgt := 1478) dL_law_820 (by decide) ?_
    refine zg_sub [2, 3, 4, 5, 6] (L' := [(4, _), (3, _), (2, _), (1, _), (0, _)]) rfl ?_
    exact zg_mono (fun w z h => hend w z h) kk
set_option maxRecDepth 100000 in
set_option maxHeartbeats 4000000 in
theorem zT_send {K : zg_K} (F : zg_F K zc_L_law "IslandRightsLaw" room_1) (hn : zk_n K = 8) (hl : (zk_l K).stackTraces = false) {b N : Nat} {xs : Nat → Int32} (X : zg_Xs K b N xs) {x i n cells slots : Nat} (hi : i + 5 < N) (hn2 : 4 * (n + 1) < 2 ^ 30) (hc : cells + 9 ≤ 601024) (hs : slots + 50 ≤ 7293034) (kk : zg_G K (zl_Inv (zk_A K) x (n + 1)) (cells + 9) (slots + 50) 1478 (zl_L x b i) []) : zg_G K (zl_Inv (zk_A K) x n) cells slots 823 (zl_L x b i) [] := by
  refine zg_pt (fun w z hI => ?_)
  obtain ⟨σ, τ, hI⟩ := hI
  obtain ⟨k, mc, ms, P0, P1, ⟨hk4, hmc, hms⟩, hP0, hx0, hXW, hrest⟩ := zO_send (zk_l K) (zk_D K) (zk_A K) (zk_z K) hl hI hn2 (xs (i + 1)) (xs (i + 2))
  refine zg_mono (P' := P0) (fun w' z' q => by rw [q.1, q.2]; exact hP0) ?_
  refine zg_aload_n F 3 rfl rfl dL_law_823 ?_
  refine zg_aload_n F 4 rfl rfl dL_law_824 ?_
  refine zg_iload F 0 rfl dL_law_825 ?_
  refine zg_iconst F (v := nI 1) (by decide) dL_law_827 ?_
  refine zg_iadd F (by first | exact nI_add _ _ | rfl) dL_law_828 ?_
  refine zg_sld F X (by omega) dL_law_829 ?_
  refine zg_aload_n F 4 rfl rfl dL_law_830 ?_
  refine zg_iload F 0 rfl dL_law_831 ?_
  refine zg_iconst F (v := nI 2) (by decide) dL_law_833 ?_
  refine zg_iadd F (by first | exact nI_add _ _ | rfl) dL_law_834 ?_
  refine zg_sld F X (by omega) dL_law_835 ?_
  refine zg_aload_n F 1 rfl rfl dL_law_836 ?_
  refine zg_callSW F hXW zv_L_send zk_446 rfl ⟨by decide, by decide⟩ ⟨by show _ ≤ 601024; omega, by show _ ≤ 7293034; omega⟩ rfl (Nat.le_of_ble_eq_true rfl) dL_law_837 ?_
  refine zg_wid (c2 := cells + 9) (s2 := slots + 50) (by omega) (by omega) ?_
  refine zg_istore F (by rw [hn]; decide) (L' := [(5, _), (4, _), (3, _), (2, _), (1, _), (0, _)]) rfl dL_law_840 ?_
  refine zg_pt (fun w1 z1 h1 => ?_)
  obtain ⟨σ1, σ2, r, d, hd, hm0, hMM, h25, ⟨fo, hfo, hr⟩, hend⟩ := hrest w1 z1 h1
  refine zg_mono (P' := zm_P (zk_A K) (x + 70) w1 z1 σ1) (fun w' z' q => by rw [q.1, q.2]; exact hm0) ?_
  obtain ⟨r32, er, hMM⟩ := hMM
  refine zg_aload_n F 3 rfl rfl dL_law_842 ?_
  refine zg_aload_n F 5 rfl rfl dL_law_843 ?_
  refine zg_iload F 1 rfl dL_law_844 ?_
  refine zg_iconst F (v := nI 1) (by decide) dL_law_846 ?_
  refine zg_iadd F (by first | exact nI_add _ _ | rfl) dL_law_847 ?_
  refine zg_sld F X (by omega) dL_law_848 ?_
  refine zg_aload_n F 5 rfl rfl dL_law_849 ?_
  refine zg_iload F 1 rfl dL_law_850 ?_
  refine zg_iconst F (v := nI 2) (by decide) dL_law_852 ?_
  refine zg_iadd F (by first | exact nI_add _ _ | rfl) dL_law_853 ?_
  refine zg_sld F X (by omega) dL_law_854 ?_
  refine zg_callV F (hMM) zv_M_send zu_M_send zk_711 (fun _ _ h => h.2.1.1) rfl rfl ⟨by show d + 1 ≤ 12; omega, by show 8 + (4 + 11) + 32 * d ≤ 432; omega⟩ ⟨by show _ ≤ 601024; omega, by show _ ≤ 7293034; omega⟩ rfl (Nat.le_of_ble_eq_true rfl) dL_law_855 ?_
  refine zg_istore F (by rw [hn]; decide) (L' := [(6, _), (5, _), (4, _), (3, _), (2, _), (1, _), (0, _)]) rfl dL_law_858 ?_
  refine zg_aload_n F 4 rfl rfl dL_law_860 ?_
  refine zg_callV F (zM_thrown _ _ _ _ (x + 70) z1 w1 σ2) zv_M_thrown zu_M_thrown zk_624 (fun _ _ h => h.2.1.1) rfl rfl ⟨by decide, by decide⟩ ⟨by show _ ≤ 601024; omega, by show _ ≤ 7293034; omega⟩ rfl (Nat.le_of_ble_eq_true rfl) dL_law_861 ?_
  refine zg_eqi h25 ?_
  refine zg_iload F 1 rfl dL_law_864 ?_
  refine zg_icmp_eqT F (tgt := 871) dL_law_866 (by decide) (rfl) ?_
  refine zg_iload F 1 rfl dL_law_871 ?_
  by_cases hk0 : k = 0
  · refine zg_if_neF F dL_law_873 (tgt := 888) (by decide) (by rw [hk0]; rfl) ?_
    refine zg_aload_n F 3 rfl rfl dL_law_876 ?_
    refine zg_iconst F (v := nI 0) (by decide) dL_law_877 ?_
    refine zg_lald F (fun _ _ h => by rw [h.2.2 _ (by omega)]; exact hfo) (by decide) (by decide) (hr hk0) dL_law_878 ?_
    refine zg_iload F 0 rfl dL_law_879 ?_
    refine zg_i2l F rfl dL_law_881 ?_
    refine zg_lcmp F rfl dL_law_882 ?_
    refine zg_if_eqT F (tgt := 888) dL_law_883 (by decide) ((lg_cmp_eq _ _).mpr er.symm) ?_
    refine zg_goto F (tgt := 1478) dL_law_888 (by decide) ?_
    refine zg_sub [2, 3, 4, 5, 6] (L' := [(4, _), (3, _), (2, _), (1, _), (0, _)]) rfl ?_
    exact zg_mono (fun w z h => hend w z h) kk
  · refine zg_if_neT F (tgt := 888) dL_law_873 (by decide) (nI_ne0 (by omega) (by omega)) ?_
    refine zg_goto F (tgt := 1478) dL_law_888 (by decide) ?_
    refine zg_sub [2, 3, 4, 5, 6] (L' := [(4, _), (3, _), (2, _), (1, _), (0, _)]) rfl ?_
    exact zg_mono (fun w z h => hend w z h) kk
set_option maxRecDepth 100000 in
set_option maxHeartbeats 4000000 in
theorem zT_arrive {K : zg_K} (F : zg_F K zc_L_law "IslandRightsLaw" room_1) (hn : zk_n K = 8) (hl : (zk_l K).stackTraces = false) {b N : Nat} {xs : Nat → Int32} (X : zg_Xs K b N xs) {x i n cells slots : Nat} (hi : i + 5 < N) (hn2 : 4 * (n + 1) < 2 ^ 30) (hc : cells + 9 ≤ 601024) (hs : slots + 50 ≤ 7293034) (kk : zg_G K (zl_Inv (zk_A K) x (n + 1)) (cells + 9) (slots + 50) 1478 (zl_L x b i) []) : zg_G K (zl_Inv (zk_A K) x n) cells slots 891 (zl_L x b i) [] := by
  refine zg_pt (fun w z hI => ?_)
  obtain ⟨σ, τ, hI⟩ := hI
  obtain ⟨k, mc, ms, P0, P1, ⟨hk4, hmc, hms⟩, hP0, hx0, hXW, hrest⟩ := zO_arrive (zk_l K) (zk_D K) (zk_A K) (zk_z K) hl hI hn2 (xs (i + 1)) (xs (i + 2))
  refine zg_mono (P' := P0) (fun w' z' q => by rw [q.1, q.2]; exact hP0) ?_
  refine zg_aload_n F 3 rfl rfl dL_law_891 ?_
  refine zg_aload_n F 4 rfl rfl dL_law_892 ?_
  refine zg_iload F 0 rfl dL_law_893 ?_
  refine zg_iconst F (v := nI 1) (by decide) dL_law_895 ?_
  refine zg_iadd F (by first | exact nI_add _ _ | rfl) dL_law_896 ?_
  refine zg_sld F X (by omega) dL_law_897 ?_
  refine zg_aload_n F 4 rfl rfl dL_law_898 ?_
  refine zg_iload F 0 rfl dL_law_899 ?_
  refine zg_iconst F (v := nI 2) (by decide) dL_law_901 ?_
  refine zg_iadd F (by first | exact nI_add _ _ | rfl) dL_law_902 ?_
  refine zg_sld F X (by omega) dL_law_903 ?_
  refine zg_aload_n F 1 rfl rfl dL_law_904 ?_
  refine zg_callSW F hXW zv_L_arrive zk_456 rfl ⟨by decide, by decide⟩ ⟨by show _ ≤ 601024; omega, by show _ ≤ 7293034; omega⟩ rfl (Nat.le_of_ble_eq_true rfl) dL_law_905 ?_
  refine zg_wid (c2 := cells + 9) (s2 := slots + 50) (by omega) (by omega) ?_
  refine zg_istore F (by rw [hn]; decide) (L' := [(5, _), (4, _), (3, _), (2, _), (1, _), (0, _)]) rfl dL_law_908 ?_
  refine zg_pt (fun w1 z1 h1 => ?_)
  obtain ⟨σ1, σ2, r, d, hd, hm0, hMM, h25, ⟨fo, hfo, hr⟩, hend⟩ := hrest w1 z1 h1
  refine zg_mono (P' := zm_P (zk_A K) (x + 70) w1 z1 σ1) (fun w' z' q => by rw [q.1, q.2]; exact hm0) ?_
  obtain ⟨r32, er, hMM⟩ := hMM
  refine zg_aload_n F 3 rfl rfl dL_law_910 ?_
  refine zg_aload_n F 5 rfl rfl dL_law_911 ?_
  refine zg_iload F 1 rfl dL_law_912 ?_
  refine zg_iconst F (v := nI 1) (by decide) dL_law_914 ?_
  refine zg_iadd F (by first | exact nI_add _ _ | rfl) dL_law_915 ?_
  refine zg_sld F X (by omega) dL_law_916 ?_
  refine zg_aload_n F 5 rfl rfl dL_law_917 ?_
  refine zg_iload F 1 rfl dL_law_918 ?_
  refine zg_iconst F (v := nI 2) (by decide) dL_law_920 ?_
  refine zg_iadd F (by first | exact nI_add _ _ | rfl) dL_law_921 ?_
  refine zg_sld F X (by omega) dL_law_922 ?_
  refine zg_callV F (hMM) zv_M_arrive zu_M_arrive zk_715 (fun _ _ h => h.2.1.1) rfl rfl ⟨by show d + 1 ≤ 12; omega, by show 8 + (6 + 11) + 32 * d ≤ 432; omega⟩ ⟨by show _ ≤ 601024; omega, by show _ ≤ 7293034; omega⟩ rfl (Nat.le_of_ble_eq_true rfl) dL_law_923 ?_
  refine zg_istore F (by rw [hn]; decide) (L' := [(6, _), (5, _), (4, _), (3, _), (2, _), (1, _), (0, _)]) rfl dL_law_926 ?_
  refine zg_aload_n F 4 rfl rfl dL_law_928 ?_
  refine zg_callV F (zM_thrown _ _ _ _ (x + 70) z1 w1 σ2) zv_M_thrown zu_M_thrown zk_624 (fun _ _ h => h.2.1.1) rfl rfl ⟨by decide, by decide⟩ ⟨by show _ ≤ 601024; omega, by show _ ≤ 7293034; omega⟩ rfl (Nat.le_of_ble_eq_true rfl) dL_law_929 ?_
  refine zg_eqi h25 ?_
  refine zg_iload F 1 rfl dL_law_932 ?_
  refine zg_icmp_eqT F (tgt := 939) dL_law_934 (by decide) (rfl) ?_
  refine zg_iload F 1 rfl dL_law_939 ?_
  by_cases hk0 : k = 0
  · refine zg_if_neF F dL_law_941 (tgt := 956) (by decide) (by rw [hk0]; rfl) ?_
    refine zg_aload_n F 3 rfl rfl dL_law_944 ?_
    refine zg_iconst F (v := nI 0) (by decide) dL_law_945 ?_
    refine zg_lald F (fun _ _ h => by rw [h.2.2 _ (by omega)]; exact hfo) (by decide) (by decide) (hr hk0) dL_law_946 ?_
    refine zg_iload F 0 rfl dL_law_947 ?_
    refine zg_i2l F rfl dL_law_949 ?_
    refine zg_lcmp F rfl dL_law_950 ?_
    refine zg_if_eqT F (tgt := 956) dL_law_951 (by decide) ((lg_cmp_eq _ _).mpr er.symm) ?_
    refine zg_goto F (tgt := 1478) dL_law_956 (by decide) ?_
    refine zg_sub [2, 3, 4, 5, 6] (L' := [(4, _), (3, _), (2, _), (1, _), (0, _)]) rfl ?_
    exact zg_mono (fun w z h => hend w z h) kk
  · refine zg_if_neT F (tgt := 956) dL_law_941 (by decide) (nI_ne0 (by omega) (by omega)) ?_
    refine zg_goto F (tgt := 1478) dL_law_956 (by decide) ?_
    refine zg_sub [2, 3, 4, 5, 6] (L' := [(4, _), (3, _), (2, _), (1, _), (0, _)]) rfl ?_
    exact zg_mono (fun w z h => hend w z h) kk
set_option maxRecDepth 100000 in
set_option maxHeartbeats 4000000 in
theorem zT_receipt {K : zg_K} (F : zg_F K zc_L_law "IslandRightsLaw" room_1) (hn : zk_n K = 8) (hl : (zk_l K).stackTraces = false) {b N : Nat} {xs : Nat → Int32} (X : zg_Xs K b N xs) {x i n cells slots : Nat} (hi : i + 5 < N) (hn2 : 4 * (n + 1) < 2 ^ 30) (hc : cells + 9 ≤ 601024) (hs : slots + 50 ≤ 7293034) (kk : zg_G K (zl_Inv (zk_A K) x (n + 1)) (cells + 9) (slots + 50) 1478 (zl_L x b i) []) : zg_G K (zl_Inv (zk_A K) x n) cells slots 959 (zl_L x b i) [] := by
  refine zg_pt (fun w z hI => ?_)
  obtain ⟨σ, τ, hI⟩ := hI
  obtain ⟨k, mc, ms, P0, P1, ⟨hk4, hmc, hms⟩, hP0, hx0, hXW, hrest⟩ := zO_receipt (zk_l K) (zk_D K) (zk_A K) (zk_z K) hl hI hn2 (xs (i + 1)) (xs (i + 2))
  refine zg_mono (P' := P0) (fun w' z' q => by rw [q.1, q.2]; exact hP0) ?_
  refine zg_aload_n F 3 rfl rfl dL_law_959 ?_
  refine zg_aload_n F 4 rfl rfl dL_law_960 ?_
  refine zg_iload F 0 rfl dL_law_961 ?_
  refine zg_iconst F (v := nI 1) (by decide) dL_law_963 ?_
  refine zg_iadd F (by first | exact nI_add _ _ | rfl) dL_law_964 ?_
  refine zg_sld F X (by omega) dL_law_965 ?_
  refine zg_aload_n F 4 rfl rfl dL_law_966 ?_
  refine zg_iload F 0 rfl dL_law_967 ?_
  refine zg_iconst F (v := nI 2) (by decide) dL_law_969 ?_
  refine zg_iadd F (by first | exact nI_add _ _ | rfl) dL_law_970 ?_
  refine zg_sld F X (by omega) dL_law_971 ?_
  refine zg_aload_n F 1 rfl rfl dL_law_972 ?_
  refine zg_callSW F hXW zv_L_receipt zk_468 rfl ⟨by decide, by decide⟩ ⟨by show _ ≤ 601024; omega, by show _ ≤ 7293034; omega⟩ rfl (Nat.le_of_ble_eq_true rfl) dL_law_973 ?_
  refine zg_wid (c2 := cells + 9) (s2 := slots + 50) (by omega) (by omega) ?_
  refine zg_istore F (by rw [hn]; decide) (L' := [(5, _), (4, _), (3, _), (2, _), (1, _), (0, _)]) rfl dL_law_976 ?_
  refine zg_pt (fun w1 z1 h1 => ?_)
  obtain ⟨σ1, σ2, r, d, hd, hm0, hMM, h25, ⟨fo, hfo, hr⟩, hend⟩ := hrest w1 z1 h1
  refine zg_mono (P' := zm_P (zk_A K) (x + 70) w1 z1 σ1) (fun w' z' q => by rw [q.1, q.2]; exact hm0) ?_
  obtain ⟨r32, er, hMM⟩ := hMM
  refine zg_aload_n F 3 rfl rfl dL_law_978 ?_
  refine zg_aload_n F 5 rfl rfl dL_law_979 ?_
  refine zg_iload F 1 rfl dL_law_980 ?_
  refine zg_iconst F (v := nI 1) (by decide) dL_law_982 ?_
  refine zg_iadd F (by first | exact nI_add _ _ | rfl) dL_law_983 ?_
  refine zg_sld F X (by omega) dL_law_984 ?_
  refine zg_aload_n F 5 rfl rfl dL_law_985 ?_
  refine zg_iload F 1 rfl dL_law_986 ?_
  refine zg_iconst F (v := nI 2) (by decide) dL_law_988 ?_
  refine zg_iadd F (by first | exact nI_add _ _ | rfl) dL_law_989 ?_
  refine zg_sld F X (by omega) dL_law_990 ?_
  refine zg_callV F (hMM) zv_M_receipt zu_M_receipt zk_719 (fun _ _ h => h.2.1.1) rfl rfl ⟨by show d + 1 ≤ 12; omega, by show 8 + (8 + 11) + 32 * d ≤ 432; omega⟩ ⟨by show _ ≤ 601024; omega, by show _ ≤ 7293034; omega⟩ rfl (Nat.le_of_ble_eq_true rfl) dL_law_991 ?_
  refine zg_istore F (by rw [hn]; decide) (L' := [(6, _), (5, _), (4, _), (3, _), (2, _), (1, _), (0, _)]) rfl dL_law_994 ?_
  refine zg_aload_n F 4 rfl rfl dL_law_996 ?_
  refine zg_callV F (zM_thrown _ _ _ _ (x + 70) z1 w1 σ2) zv_M_thrown zu_M_thrown zk_624 (fun _ _ h => h.2.1.1) rfl rfl ⟨by decide, by decide⟩ ⟨by show _ ≤ 601024; omega, by show _ ≤ 7293034; omega⟩ rfl (Nat.le_of_ble_eq_true rfl) dL_law_997 ?_
  refine zg_eqi h25 ?_
  refine zg_iload F 1 rfl dL_law_1000 ?_
  refine zg_icmp_eqT F (tgt := 1007) dL_law_1002 (by decide) (rfl) ?_
  refine zg_iload F 1 rfl dL_law_1007 ?_
  by_cases hk0 : k = 0
  · refine zg_if_neF F dL_law_1009 (tgt := 1024) (by decide) (by rw [hk0]; rfl) ?_
    refine zg_aload_n F 3 rfl rfl dL_law_1012 ?_
    refine zg_iconst F (v := nI 0) (by decide) dL_law_1013 ?_
    refine zg_lald F (fun _ _ h => by rw [h.2.2 _ (by omega)]; exact hfo) (by decide) (by decide) (hr hk0) dL_law_1014 ?_
    refine zg_iload F 0 rfl dL_law_1015 ?_
    refine zg_i2l F rfl dL_law_1017 ?_
    refine zg_lcmp F rfl dL_law_1018 ?_
    refine zg_if_eqT F (tgt := 1024) dL_law_1019 (by decide) ((lg_cmp_eq _ _).mpr er.symm) ?_
    refine zg_goto F (tgt := 1478) dL_law_1024 (by decide) ?_
    refine zg_sub [2, 3, 4, 5, 6] (L' := [(4, _), (3, _), (2, _), (1, _), (0, _)]) rfl ?_
    exact zg_mono (fun w z h => hend w z h) kk
  · refine zg_if_neT F (tgt := 1024) dL_law_1009 (by decide) (nI_ne0 (by omega) (by omega)) ?_
    refine zg_goto F (tgt := 1478) dL_law_1024 (by decide) ?_
    refine zg_sub [2, 3, 4, 5, 6] (L' := [(4, _), (3, _), (2, _), (1, _), (0, _)]) rfl ?_
    exact zg_mono (fun w z h => hend w z h) kk
set_option maxRecDepth 100000 in
set_option maxHeartbeats 4000000 in
theorem zT_lose {K : zg_K} (F : zg_F K zc_L_law "IslandRightsLaw" room_1) (hn : zk_n K = 8) (hl : (zk_l K).stackTraces = false) {b N : Nat} {xs : Nat → Int32} (X : zg_Xs K b N xs) {x i n cells slots : Nat} (hi : i + 5 < N) (hn2 : 4 * (n + 1) < 2 ^ 30) (hc : cells + 9 ≤ 601024) (hs : slots + 50 ≤ 7293034) (kk : zg_G K (zl_Inv (zk_A K) x (n + 1)) (cells + 9) (slots + 50) 1478 (zl_L x b i) []) : zg_G K (zl_Inv (zk_A K) x n) cells slots 1027 (zl_L x b i) [] := by
  refine zg_pt (fun w z hI => ?_)
  obtain ⟨σ, τ, hI⟩ := hI
  obtain ⟨k, mc, ms, P0, P1, ⟨hk4, hmc, hms⟩, hP0, hx0, hXW, hrest⟩ := zO_lose (zk_l K) (zk_D K) (zk_A K) (zk_z K) hl hI hn2 (xs (i + 1)) (xs (i + 2))
  refine zg_mono (P' := P0) (fun w' z' q => by rw [q.1, q.2]; exact hP0) ?_
  refine zg_aload_n F 3 rfl rfl dL_law_1027 ?_
  refine zg_aload_n F 4 rfl rfl dL_law_1028 ?_
  refine zg_iload F 0 rfl dL_law_1029 ?_
  refine zg_iconst F (v := nI 1) (by decide) dL_law_1031 ?_
  refine zg_iadd F (by first | exact nI_add _ _ | rfl) dL_law_1032 ?_
  refine zg_sld F X (by omega) dL_law_1033 ?_
  refine zg_aload_n F 4 rfl rfl dL_law_1034 ?_
  refine zg_iload F 0 rfl dL_law_1035 ?_
  refine zg_iconst F (v := nI 2) (by decide) dL_law_1037 ?_
  refine zg_iadd F (by first | exact nI_add _ _ | rfl) dL_law_1038 ?_
  refine zg_sld F X (by omega) dL_law_1039 ?_
  refine zg_aload_n F 1 rfl rfl dL_law_1040 ?_
  refine zg_callSW F hXW zv_L_lose zk_479 rfl ⟨by decide, by decide⟩ ⟨by show _ ≤ 601024; omega, by show _ ≤ 7293034; omega⟩ rfl (Nat.le_of_ble_eq_true rfl) dL_law_1041 ?_
  refine zg_wid (c2 := cells + 9) (s2 := slots + 50) (by omega) (by omega) ?_
  refine zg_istore F (by rw [hn]; decide) (L' := [(5, _), (4, _), (3, _), (2, _), (1, _), (0, _)]) rfl dL_law_1044 ?_
  refine zg_pt (fun w1 z1 h1 => ?_)
  obtain ⟨σ1, σ2, r, d, hd, hm0, hMM, h25, ⟨fo, hfo, hr⟩, hend⟩ := hrest w1 z1 h1
  refine zg_mono (P' := zm_P (zk_A K) (x + 70) w1 z1 σ1) (fun w' z' q => by rw [q.1, q.2]; exact hm0) ?_
  obtain ⟨r32, er, hMM⟩ := hMM
  refine zg_aload_n F 3 rfl rfl dL_law_1046 ?_
  refine zg_aload_n F 5 rfl rfl dL_law_1047 ?_
  refine zg_iload F 1 rfl dL_law_1048 ?_
  refine zg_iconst F (v := nI 1) (by decide) dL_law_1050 ?_
  refine zg_iadd F (by first | exact nI_add _ _ | rfl) dL_law_1051 ?_
  refine zg_sld F X (by omega) dL_law_1052 ?_
  refine zg_aload_n F 5 rfl rfl dL_law_1053 ?_
  refine zg_iload F 1 rfl dL_law_1054 ?_
  refine zg_iconst F (v := nI 2) (by decide) dL_law_1056 ?_
  refine zg_iadd F (by first | exact nI_add _ _ | rfl) dL_law_1057 ?_
  refine zg_sld F X (by omega) dL_law_1058 ?_
  refine zg_callV F (hMM) zv_M_lose zu_M_lose zk_723 (fun _ _ h => h.2.1.1) rfl rfl ⟨by show d + 1 ≤ 12; omega, by show 8 + (3 + 11) + 32 * d ≤ 432; omega⟩ ⟨by show _ ≤ 601024; omega, by show _ ≤ 7293034; omega⟩ rfl (Nat.le_of_ble_eq_true rfl) dL_law_1059 ?_
  refine zg_istore F (by rw [hn]; decide) (L' := [(6, _), (5, _), (4, _), (3, _), (2, _), (1, _), (0, _)]) rfl dL_law_1062 ?_
  refine zg_aload_n F 4 rfl rfl dL_law_1064 ?_
  refine zg_callV F (zM_thrown _ _ _ _ (x + 70) z1 w1 σ2) zv_M_thrown zu_M_thrown zk_624 (fun _ _ h => h.2.1.1) rfl rfl ⟨by decide, by decide⟩ ⟨by show _ ≤ 601024; omega, by show _ ≤ 7293034; omega⟩ rfl (Nat.le_of_ble_eq_true rfl) dL_law_1065 ?_
  refine zg_eqi h25 ?_
  refine zg_iload F 1 rfl dL_law_1068 ?_
  refine zg_icmp_eqT F (tgt := 1075) dL_law_1070 (by decide) (rfl) ?_
  refine zg_iload F 1 rfl dL_law_1075 ?_
  by_cases hk0 : k = 0
  · refine zg_if_neF F dL_law_1077 (tgt := 1092) (by decide) (by rw [hk0]; rfl) ?_
    refine zg_aload_n F 3 rfl rfl dL_law_1080 ?_
    refine zg_iconst F (v := nI 0) (by decide) dL_law_1081 ?_
    refine zg_lald F (fun _ _ h => by rw [h.2.2 _ (by omega)]; exact hfo) (by decide) (by decide) (hr hk0) dL_law_1082 ?_
    refine zg_iload F 0 rfl dL_law_1083 ?_
    refine zg_i2l F rfl dL_law_1085 ?_
    refine zg_lcmp F rfl dL_law_1086 ?_
    refine zg_if_eqT F (tgt := 1092) dL_law_1087 (by decide) ((lg_cmp_eq _ _).mpr er.symm) ?_
    refine zg_goto F (tgt := 1478) dL_law_1092 (by decide) ?_
    refine zg_sub [2, 3, 4, 5, 6] (L' := [(4, _), (3, _), (2, _), (1, _), (0, _)]) rfl ?_
    exact zg_mono (fun w z h => hend w z h) kk
  · refine zg_if_neT F (tgt := 1092) dL_law_1077 (by decide) (nI_ne0 (by omega) (by omega)) ?_
    refine zg_goto F (tgt := 1478) dL_law_1092 (by decide) ?_
    refine zg_sub [2, 3, 4, 5, 6] (L' := [(4, _), (3, _), (2, _), (1, _), (0, _)]) rfl ?_
    exact zg_mono (fun w z h => hend w z h) kk
set_option maxRecDepth 100000 in
set_option maxHeartbeats 4000000 in
theorem zT_crash {K : zg_K} (F : zg_F K zc_L_law "IslandRightsLaw" room_1) (hn : zk_n K = 8) (hl : (zk_l K).stackTraces = false) {b N : Nat} {xs : Nat → Int32} (X : zg_Xs K b N xs) {x i n cells slots : Nat} (hi : i + 5 < N) (hn2 : 4 * (n + 1) < 2 ^ 30) (hc : cells + 9 ≤ 601024) (hs : slots + 50 ≤ 7293034) (kk : zg_G K (zl_Inv (zk_A K) x (n + 1)) (cells + 9) (slots + 50) 1478 (zl_L x b i) []) : zg_G K (zl_Inv (zk_A K) x n) cells slots 1095 (zl_L x b i) [] := by
  refine zg_pt (fun w z hI => ?_)
  obtain ⟨σ, τ, hI⟩ := hI
  obtain ⟨k, mc, ms, P0, P1, ⟨hk4, hmc, hms⟩, hP0, hx0, hXW, hrest⟩ := zO_crash (zk_l K) (zk_D K) (zk_A K) (zk_z K) hl hI hn2 (xs (i + 1))
  refine zg_mono (P' := P0) (fun w' z' q => by rw [q.1, q.2]; exact hP0) ?_
  refine zg_aload_n F 3 rfl rfl dL_law_1095 ?_
  refine zg_aload_n F 4 rfl rfl dL_law_1096 ?_
  refine zg_iload F 0 rfl dL_law_1097 ?_
  refine zg_iconst F (v := nI 1) (by decide) dL_law_1099 ?_
  refine zg_iadd F (by first | exact nI_add _ _ | rfl) dL_law_1100 ?_
  refine zg_sld F X (by omega) dL_law_1101 ?_
  refine zg_aload_n F 1 rfl rfl dL_law_1102 ?_
  refine zg_callSW F hXW zv_L_crash zk_490 rfl ⟨by decide, by decide⟩ ⟨by show _ ≤ 601024; omega, by show _ ≤ 7293034; omega⟩ rfl (Nat.le_of_ble_eq_true rfl) dL_law_1103 ?_
  refine zg_wid (c2 := cells + 9) (s2 := slots + 50) (by omega) (by omega) ?_
  refine zg_istore F (by rw [hn]; decide) (L' := [(5, _), (4, _), (3, _), (2, _), (1, _), (0, _)]) rfl dL_law_1106 ?_
  refine zg_pt (fun w1 z1 h1 => ?_)
  obtain ⟨σ1, σ2, r, d, hd, hm0, hMM, h25, ⟨fo, hfo, hr⟩, hend⟩ := hrest w1 z1 h1
  refine zg_mono (P' := zm_P (zk_A K) (x + 70) w1 z1 σ1) (fun w' z' q => by rw [q.1, q.2]; exact hm0) ?_
  obtain ⟨r32, er, hMM⟩ := hMM
  refine zg_aload_n F 3 rfl rfl dL_law_1108 ?_
  refine zg_aload_n F 5 rfl rfl dL_law_1109 ?_
  refine zg_iload F 1 rfl dL_law_1110 ?_
  refine zg_iconst F (v := nI 1) (by decide) dL_law_1112 ?_
  refine zg_iadd F (by first | exact nI_add _ _ | rfl) dL_law_1113 ?_
  refine zg_sld F X (by omega) dL_law_1114 ?_
  refine zg_callV F (hMM) zv_M_crash zu_M_crash zk_731 (fun _ _ h => h.2.1.1) rfl rfl ⟨by show d + 1 ≤ 12; omega, by show 8 + (4 + 11) + 32 * d ≤ 432; omega⟩ ⟨by show _ ≤ 601024; omega, by show _ ≤ 7293034; omega⟩ rfl (Nat.le_of_ble_eq_true rfl) dL_law_1115 ?_
  refine zg_istore F (by rw [hn]; decide) (L' := [(6, _), (5, _), (4, _), (3, _), (2, _), (1, _), (0, _)]) rfl dL_law_1118 ?_
  refine zg_aload_n F 4 rfl rfl dL_law_1120 ?_
  refine zg_callV F (zM_thrown _ _ _ _ (x + 70) z1 w1 σ2) zv_M_thrown zu_M_thrown zk_624 (fun _ _ h => h.2.1.1) rfl rfl ⟨by decide, by decide⟩ ⟨by show _ ≤ 601024; omega, by show _ ≤ 7293034; omega⟩ rfl (Nat.le_of_ble_eq_true rfl) dL_law_1121 ?_
  refine zg_eqi h25 ?_
  refine zg_iload F 1 rfl dL_law_1124 ?_
  refine zg_icmp_eqT F (tgt := 1131) dL_law_1126 (by decide) (rfl) ?_
  refine zg_iload F 1 rfl dL_law_1131 ?_
  by_cases hk0 : k = 0
  · refine zg_if_neF F dL_law_1133 (tgt := 1148) (by decide) (by rw [hk0]; rfl) ?_
    refine zg_aload_n F 3 rfl rfl dL_law_1136 ?_
    refine zg_iconst F (v := nI 0) (by decide) dL_law_1137 ?_
    refine zg_lald F (fun _ _ h => by rw [h.2.2 _ (by omega)]; exact hfo) (by decide) (by decide) (hr hk0) dL_law_1138 ?_
    refine zg_iload F 0 rfl dL_law_1139 ?_
    refine zg_i2l F rfl dL_law_1141 ?_
    refine zg_lcmp F rfl dL_law_1142 ?_
    refine zg_if_eqT F (tgt := 1148) dL_law_1143 (by decide) ((lg_cmp_eq _ _).mpr er.symm) ?_
    refine zg_goto F (tgt := 1478) dL_law_1148 (by decide) ?_
    refine zg_sub [2, 3, 4, 5, 6] (L' := [(4, _), (3, _), (2, _), (1, _), (0, _)]) rfl ?_
    exact zg_mono (fun w z h => hend w z h) kk
  · refine zg_if_neT F (tgt := 1148) dL_law_1133 (by decide) (nI_ne0 (by omega) (by omega)) ?_
    refine zg_goto F (tgt := 1478) dL_law_1148 (by decide) ?_
    refine zg_sub [2, 3, 4, 5, 6] (L' := [(4, _), (3, _), (2, _), (1, _), (0, _)]) rfl ?_
    exact zg_mono (fun w z h => hend w z h) kk
set_option maxRecDepth 100000 in
set_option maxHeartbeats 4000000 in
theorem zT_rights {K : zg_K} (F : zg_F K zc_L_law "IslandRightsLaw" room_1) (hn : zk_n K = 8) (hl : (zk_l K).stackTraces = false) {b N : Nat} {xs : Nat → Int32} (X : zg_Xs K b N xs) {x i n cells slots : Nat} (hi : i + 5 < N) (hn2 : 4 * (n + 1) < 2 ^ 30) (hc : cells + 9 ≤ 601024) (hs : slots + 50 ≤ 7293034) (kk : zg_G K (zl_Inv (zk_A K) x (n + 1)) (cells + 9) (slots + 50) 1478 (zl_L x b i) []) : zg_G K (zl_Inv (zk_A K) x n) cells slots 1151 (zl_L x b i) [] := by
  refine zg_pt (fun w z hI => ?_)
  obtain ⟨σ, τ, hI⟩ := hI
  obtain ⟨k, mc, ms, P0, P1, ⟨hk4, hmc, hms⟩, hP0, hx0, hXW, hrest⟩ := zO_rights (zk_l K) (zk_D K) (zk_A K) (zk_z K) hl hI hn2 (xs (i + 1)) (xs (i + 2)) (xs (i + 3))
  refine zg_mono (P' := P0) (fun w' z' q => by rw [q.1, q.2]; exact hP0) ?_
  refine zg_aload_n F 3 rfl rfl dL_law_1151 ?_
  refine zg_aload_n F 4 rfl rfl dL_law_1152 ?_
  refine zg_iload F 0 rfl dL_law_1153 ?_
  refine zg_iconst F (v := nI 1) (by decide) dL_law_1155 ?_
  refine zg_iadd F (by first | exact nI_add _ _ | rfl) dL_law_1156 ?_
  refine zg_sld F X (by omega) dL_law_1157 ?_
  refine zg_aload_n F 4 rfl rfl dL_law_1158 ?_
  refine zg_iload F 0 rfl dL_law_1159 ?_
  refine zg_iconst F (v := nI 2) (by decide) dL_law_1161 ?_
  refine zg_iadd F (by first | exact nI_add _ _ | rfl) dL_law_1162 ?_
  refine zg_sld F X (by omega) dL_law_1163 ?_
  refine zg_aload_n F 4 rfl rfl dL_law_1164 ?_
  refine zg_iload F 0 rfl dL_law_1165 ?_
  refine zg_iconst F (v := nI 3) (by decide) dL_law_1167 ?_
  refine zg_iadd F (by first | exact nI_add _ _ | rfl) dL_law_1168 ?_
  refine zg_sld F X (by omega) dL_law_1169 ?_
  refine zg_aload_n F 1 rfl rfl dL_law_1170 ?_
  refine zg_callSW F hXW zv_L_rights zk_497 rfl ⟨by decide, by decide⟩ ⟨by show _ ≤ 601024; omega, by show _ ≤ 7293034; omega⟩ rfl (Nat.le_of_ble_eq_true rfl) dL_law_1171 ?_
  refine zg_wid (c2 := cells + 9) (s2 := slots + 50) (by omega) (by omega) ?_
  refine zg_istore F (by rw [hn]; decide) (L' := [(5, _), (4, _), (3, _), (2, _), (1, _), (0, _)]) rfl dL_law_1174 ?_
  refine zg_pt (fun w1 z1 h1 => ?_)
  obtain ⟨σ1, σ2, r, d, hd, hm0, hMM, h25, ⟨fo, hfo, hr⟩, hend⟩ := hrest w1 z1 h1
  refine zg_mono (P' := zm_P (zk_A K) (x + 70) w1 z1 σ1) (fun w' z' q => by rw [q.1, q.2]; exact hm0) ?_
  obtain ⟨r32, er, hMM⟩ := hMM
  refine zg_aload_n F 3 rfl rfl dL_law_1176 ?_
  refine zg_aload_n F 5 rfl rfl dL_law_1177 ?_
  refine zg_iload F 1 rfl dL_law_1178 ?_
  refine zg_iconst F (v := nI 1) (by decide) dL_law_1180 ?_
  refine zg_iadd F (by first | exact nI_add _ _ | rfl) dL_law_1181 ?_
  refine zg_sld F X (by omega) dL_law_1182 ?_
  refine zg_aload_n F 5 rfl rfl dL_law_1183 ?_
  refine zg_iload F 1 rfl dL_law_1184 ?_
  refine zg_iconst F (v := nI 2) (by decide) dL_law_1186 ?_
  refine zg_iadd F (by first | exact nI_add _ _ | rfl) dL_law_1187 ?_
  refine zg_sld F X (by omega) dL_law_1188 ?_
  refine zg_aload_n F 5 rfl rfl dL_law_1189 ?_
  refine zg_iload F 1 rfl dL_law_1190 ?_
  refine zg_iconst F (v := nI 3) (by decide) dL_law_1192 ?_
  refine zg_iadd F (by first | exact nI_add _ _ | rfl) dL_law_1193 ?_
  refine zg_sld F X (by omega) dL_law_1194 ?_
  refine zg_callV F (hMM) zv_M_rights zu_M_rights zk_735 (fun _ _ h => h.2.1.1) rfl rfl ⟨by show d + 1 ≤ 12; omega, by show 8 + (5 + 11) + 32 * d ≤ 432; omega⟩ ⟨by show _ ≤ 601024; omega, by show _ ≤ 7293034; omega⟩ rfl (Nat.le_of_ble_eq_true rfl) dL_law_1195 ?_
  refine zg_istore F (by rw [hn]; decide) (L' := [(6, _), (5, _), (4, _), (3, _), (2, _), (1, _), (0, _)]) rfl dL_law_1198 ?_
  refine zg_aload_n F 4 rfl rfl dL_law_1200 ?_
  refine zg_callV F (zM_thrown _ _ _ _ (x + 70) z1 w1 σ2) zv_M_thrown zu_M_thrown zk_624 (fun _ _ h => h.2.1.1) rfl rfl ⟨by decide, by decide⟩ ⟨by show _ ≤ 601024; omega, by show _ ≤ 7293034; omega⟩ rfl (Nat.le_of_ble_eq_true rfl) dL_law_1201 ?_
  refine zg_eqi h25 ?_
  refine zg_iload F 1 rfl dL_law_1204 ?_
  refine zg_icmp_eqT F (tgt := 1211) dL_law_1206 (by decide) (rfl) ?_
  refine zg_iload F 1 rfl dL_law_1211 ?_
  by_cases hk0 : k = 0
  · refine zg_if_neF F dL_law_1213 (tgt := 1228) (by decide) (by rw [hk0]; rfl) ?_
    refine zg_aload_n F 3 rfl rfl dL_law_1216 ?_
    refine zg_iconst F (v := nI 0) (by decide) dL_law_1217 ?_
    refine zg_lald F (fun _ _ h => by rw [h.2.2 _ (by omega)]; exact hfo) (by decide) (by decide) (hr hk0) dL_law_1218 ?_
    refine zg_iload F 0 rfl dL_law_1219 ?_
    refine zg_i2l F rfl dL_law_1221 ?_
    refine zg_lcmp F rfl dL_law_1222 ?_
    refine zg_if_eqT F (tgt := 1228) dL_law_1223 (by decide) ((lg_cmp_eq _ _).mpr er.symm) ?_
    refine zg_goto F (tgt := 1478) dL_law_1228 (by decide) ?_
    refine zg_sub [2, 3, 4, 5, 6] (L' := [(4, _), (3, _), (2, _), (1, _), (0, _)]) rfl ?_
    exact zg_mono (fun w z h => hend w z h) kk
  · refine zg_if_neT F (tgt := 1228) dL_law_1213 (by decide) (nI_ne0 (by omega) (by omega)) ?_
    refine zg_goto F (tgt := 1478) dL_law_1228 (by decide) ?_
    refine zg_sub [2, 3, 4, 5, 6] (L' := [(4, _), (3, _), (2, _), (1, _), (0, _)]) rfl ?_
    exact zg_mono (fun w z h => hend w z h) kk
set_option maxRecDepth 100000 in
set_option maxHeartbeats 4000000 in
theorem zT_air {K : zg_K} (F : zg_F K zc_L_law "IslandRightsLaw" room_1) (hn : zk_n K = 8) (hl : (zk_l K).stackTraces = false) {b N : Nat} {xs : Nat → Int32} (X : zg_Xs K b N xs) {x i n cells slots : Nat} (hi : i + 5 < N) (hn2 : 4 * (n + 1) < 2 ^ 30) (hc : cells + 9 ≤ 601024) (hs : slots + 50 ≤ 7293034) (kk : zg_G K (zl_Inv (zk_A K) x (n + 1)) (cells + 9) (slots + 50) 1478 (zl_L x b i) []) : zg_G K (zl_Inv (zk_A K) x n) cells slots 1231 (zl_L x b i) [] := by
  refine zg_pt (fun w z hI => ?_)
  obtain ⟨σ, τ, hI⟩ := hI
  obtain ⟨k, mc, ms, P0, P1, ⟨hk4, hmc, hms⟩, hP0, hx0, hXW, hrest⟩ := zO_air (zk_l K) (zk_D K) (zk_A K) (zk_z K) hl hI hn2 (xs (i + 1)) (xs (i + 2))
  refine zg_mono (P' := P0) (fun w' z' q => by rw [q.1, q.2]; exact hP0) ?_
  refine zg_aload_n F 3 rfl rfl dL_law_1231 ?_
  refine zg_aload_n F 4 rfl rfl dL_law_1232 ?_
  refine zg_iload F 0 rfl dL_law_1233 ?_
  refine zg_iconst F (v := nI 1) (by decide) dL_law_1235 ?_
  refine zg_iadd F (by first | exact nI_add _ _ | rfl) dL_law_1236 ?_
  refine zg_sld F X (by omega) dL_law_1237 ?_
  refine zg_aload_n F 4 rfl rfl dL_law_1238 ?_
  refine zg_iload F 0 rfl dL_law_1239 ?_
  refine zg_iconst F (v := nI 2) (by decide) dL_law_1241 ?_
  refine zg_iadd F (by first | exact nI_add _ _ | rfl) dL_law_1242 ?_
  refine zg_sld F X (by omega) dL_law_1243 ?_
  refine zg_aload_n F 1 rfl rfl dL_law_1244 ?_
  refine zg_callSW F hXW zv_L_air zk_504 rfl ⟨by decide, by decide⟩ ⟨by show _ ≤ 601024; omega, by show _ ≤ 7293034; omega⟩ rfl (Nat.le_of_ble_eq_true rfl) dL_law_1245 ?_
  refine zg_wid (c2 := cells + 9) (s2 := slots + 50) (by omega) (by omega) ?_
  refine zg_istore F (by rw [hn]; decide) (L' := [(5, _), (4, _), (3, _), (2, _), (1, _), (0, _)]) rfl dL_law_1248 ?_
  refine zg_pt (fun w1 z1 h1 => ?_)
  obtain ⟨σ1, σ2, r, d, hd, hm0, hMM, h25, ⟨fo, hfo, hr⟩, hend⟩ := hrest w1 z1 h1
  refine zg_mono (P' := zm_P (zk_A K) (x + 70) w1 z1 σ1) (fun w' z' q => by rw [q.1, q.2]; exact hm0) ?_
  obtain ⟨r32, er, hMM⟩ := hMM
  refine zg_aload_n F 3 rfl rfl dL_law_1250 ?_
  refine zg_aload_n F 5 rfl rfl dL_law_1251 ?_
  refine zg_iload F 1 rfl dL_law_1252 ?_
  refine zg_iconst F (v := nI 1) (by decide) dL_law_1254 ?_
  refine zg_iadd F (by first | exact nI_add _ _ | rfl) dL_law_1255 ?_
  refine zg_sld F X (by omega) dL_law_1256 ?_
  refine zg_aload_n F 5 rfl rfl dL_law_1257 ?_
  refine zg_iload F 1 rfl dL_law_1258 ?_
  refine zg_iconst F (v := nI 2) (by decide) dL_law_1260 ?_
  refine zg_iadd F (by first | exact nI_add _ _ | rfl) dL_law_1261 ?_
  refine zg_sld F X (by omega) dL_law_1262 ?_
  refine zg_callV F (hMM) zv_M_air zu_M_air zk_739 (fun _ _ h => h.2.1.1) rfl rfl ⟨by show d + 1 ≤ 12; omega, by show 8 + (6 + 11) + 32 * d ≤ 432; omega⟩ ⟨by show _ ≤ 601024; omega, by show _ ≤ 7293034; omega⟩ rfl (Nat.le_of_ble_eq_true rfl) dL_law_1263 ?_
  refine zg_istore F (by rw [hn]; decide) (L' := [(6, _), (5, _), (4, _), (3, _), (2, _), (1, _), (0, _)]) rfl dL_law_1266 ?_
  refine zg_aload_n F 4 rfl rfl dL_law_1268 ?_
  refine zg_callV F (zM_thrown _ _ _ _ (x + 70) z1 w1 σ2) zv_M_thrown zu_M_thrown zk_624 (fun _ _ h => h.2.1.1) rfl rfl ⟨by decide, by decide⟩ ⟨by show _ ≤ 601024; omega, by show _ ≤ 7293034; omega⟩ rfl (Nat.le_of_ble_eq_true rfl) dL_law_1269 ?_
  refine zg_eqi h25 ?_
  refine zg_iload F 1 rfl dL_law_1272 ?_
  refine zg_icmp_eqT F (tgt := 1279) dL_law_1274 (by decide) (rfl) ?_
  refine zg_iload F 1 rfl dL_law_1279 ?_
  by_cases hk0 : k = 0
  · refine zg_if_neF F dL_law_1281 (tgt := 1296) (by decide) (by rw [hk0]; rfl) ?_
    refine zg_aload_n F 3 rfl rfl dL_law_1284 ?_
    refine zg_iconst F (v := nI 0) (by decide) dL_law_1285 ?_
    refine zg_lald F (fun _ _ h => by rw [h.2.2 _ (by omega)]; exact hfo) (by decide) (by decide) (hr hk0) dL_law_1286 ?_
    refine zg_iload F 0 rfl dL_law_1287 ?_
    refine zg_i2l F rfl dL_law_1289 ?_
    refine zg_lcmp F rfl dL_law_1290 ?_
    refine zg_if_eqT F (tgt := 1296) dL_law_1291 (by decide) ((lg_cmp_eq _ _).mpr er.symm) ?_
    refine zg_goto F (tgt := 1478) dL_law_1296 (by decide) ?_
    refine zg_sub [2, 3, 4, 5, 6] (L' := [(4, _), (3, _), (2, _), (1, _), (0, _)]) rfl ?_
    exact zg_mono (fun w z h => hend w z h) kk
  · refine zg_if_neT F (tgt := 1296) dL_law_1281 (by decide) (nI_ne0 (by omega) (by omega)) ?_
    refine zg_goto F (tgt := 1478) dL_law_1296 (by decide) ?_
    refine zg_sub [2, 3, 4, 5, 6] (L' := [(4, _), (3, _), (2, _), (1, _), (0, _)]) rfl ?_
    exact zg_mono (fun w z h => hend w z h) kk
set_option maxRecDepth 100000 in
set_option maxHeartbeats 4000000 in
theorem zT_sold {K : zg_K} (F : zg_F K zc_L_law "IslandRightsLaw" room_1) (hn : zk_n K = 8) (hl : (zk_l K).stackTraces = false) {b N : Nat} {xs : Nat → Int32} (X : zg_Xs K b N xs) {x i n cells slots : Nat} (hi : i + 5 < N) (hn2 : 4 * (n + 1) < 2 ^ 30) (hc : cells + 9 ≤ 601024) (hs : slots + 50 ≤ 7293034) (kk : zg_G K (zl_Inv (zk_A K) x (n + 1)) (cells + 9) (slots + 50) 1478 (zl_L x b i) []) : zg_G K (zl_Inv (zk_A K) x n) cells slots 1299 (zl_L x b i) [] := by
  refine zg_pt (fun w z hI => ?_)
  obtain ⟨σ, τ, hI⟩ := hI
  obtain ⟨k, mc, ms, P0, P1, ⟨hk4, hmc, hms⟩, hP0, hx0, hXW, hrest⟩ := zO_sold (zk_l K) (zk_D K) (zk_A K) (zk_z K) hl hI hn2 (xs (i + 1)) (xs (i + 2))
  refine zg_mono (P' := P0) (fun w' z' q => by rw [q.1, q.2]; exact hP0) ?_
  refine zg_aload_n F 3 rfl rfl dL_law_1299 ?_
  refine zg_aload_n F 4 rfl rfl dL_law_1300 ?_
  refine zg_iload F 0 rfl dL_law_1301 ?_
  refine zg_iconst F (v := nI 1) (by decide) dL_law_1303 ?_
  refine zg_iadd F (by first | exact nI_add _ _ | rfl) dL_law_1304 ?_
  refine zg_sld F X (by omega) dL_law_1305 ?_
  refine zg_aload_n F 4 rfl rfl dL_law_1306 ?_
  refine zg_iload F 0 rfl dL_law_1307 ?_
  refine zg_iconst F (v := nI 2) (by decide) dL_law_1309 ?_
  refine zg_iadd F (by first | exact nI_add _ _ | rfl) dL_law_1310 ?_
  refine zg_sld F X (by omega) dL_law_1311 ?_
  refine zg_aload_n F 1 rfl rfl dL_law_1312 ?_
  refine zg_callSW F hXW zv_L_sold zk_511 rfl ⟨by decide, by decide⟩ ⟨by show _ ≤ 601024; omega, by show _ ≤ 7293034; omega⟩ rfl (Nat.le_of_ble_eq_true rfl) dL_law_1313 ?_
  refine zg_wid (c2 := cells + 9) (s2 := slots + 50) (by omega) (by omega) ?_
  refine zg_istore F (by rw [hn]; decide) (L' := [(5, _), (4, _), (3, _), (2, _), (1, _), (0, _)]) rfl dL_law_1316 ?_
  refine zg_pt (fun w1 z1 h1 => ?_)
  obtain ⟨σ1, σ2, r, d, hd, hm0, hMM, h25, ⟨fo, hfo, hr⟩, hend⟩ := hrest w1 z1 h1
  refine zg_mono (P' := zm_P (zk_A K) (x + 70) w1 z1 σ1) (fun w' z' q => by rw [q.1, q.2]; exact hm0) ?_
  obtain ⟨r32, er, hMM⟩ := hMM
  refine zg_aload_n F 3 rfl rfl dL_law_1318 ?_
  refine zg_aload_n F 5 rfl rfl dL_law_1319 ?_
  refine zg_iload F 1 rfl dL_law_1320 ?_
  refine zg_iconst F (v := nI 1) (by decide) dL_law_1322 ?_
  refine zg_iadd F (by first | exact nI_add _ _ | rfl) dL_law_1323 ?_
  refine zg_sld F X (by omega) dL_law_1324 ?_
  refine zg_aload_n F 5 rfl rfl dL_law_1325 ?_
  refine zg_iload F 1 rfl dL_law_1326 ?_
  refine zg_iconst F (v := nI 2) (by decide) dL_law_1328 ?_
  refine zg_iadd F (by first | exact nI_add _ _ | rfl) dL_law_1329 ?_
  refine zg_sld F X (by omega) dL_law_1330 ?_
  refine zg_callV F (hMM) zv_M_sold zu_M_sold zk_743 (fun _ _ h => h.2.1.1) rfl rfl ⟨by show d + 1 ≤ 12; omega, by show 8 + (5 + 11) + 32 * d ≤ 432; omega⟩ ⟨by show _ ≤ 601024; omega, by show _ ≤ 7293034; omega⟩ rfl (Nat.le_of_ble_eq_true rfl) dL_law_1331 ?_
  refine zg_istore F (by rw [hn]; decide) (L' := [(6, _), (5, _), (4, _), (3, _), (2, _), (1, _), (0, _)]) rfl dL_law_1334 ?_
  refine zg_aload_n F 4 rfl rfl dL_law_1336 ?_
  refine zg_callV F (zM_thrown _ _ _ _ (x + 70) z1 w1 σ2) zv_M_thrown zu_M_thrown zk_624 (fun _ _ h => h.2.1.1) rfl rfl ⟨by decide, by decide⟩ ⟨by show _ ≤ 601024; omega, by show _ ≤ 7293034; omega⟩ rfl (Nat.le_of_ble_eq_true rfl) dL_law_1337 ?_
  refine zg_eqi h25 ?_
  refine zg_iload F 1 rfl dL_law_1340 ?_
  refine zg_icmp_eqT F (tgt := 1347) dL_law_1342 (by decide) (rfl) ?_
  refine zg_iload F 1 rfl dL_law_1347 ?_
  by_cases hk0 : k = 0
  · refine zg_if_neF F dL_law_1349 (tgt := 1364) (by decide) (by rw [hk0]; rfl) ?_
    refine zg_aload_n F 3 rfl rfl dL_law_1352 ?_
    refine zg_iconst F (v := nI 0) (by decide) dL_law_1353 ?_
    refine zg_lald F (fun _ _ h => by rw [h.2.2 _ (by omega)]; exact hfo) (by decide) (by decide) (hr hk0) dL_law_1354 ?_
    refine zg_iload F 0 rfl dL_law_1355 ?_
    refine zg_i2l F rfl dL_law_1357 ?_
    refine zg_lcmp F rfl dL_law_1358 ?_
    refine zg_if_eqT F (tgt := 1364) dL_law_1359 (by decide) ((lg_cmp_eq _ _).mpr er.symm) ?_
    refine zg_goto F (tgt := 1478) dL_law_1364 (by decide) ?_
    refine zg_sub [2, 3, 4, 5, 6] (L' := [(4, _), (3, _), (2, _), (1, _), (0, _)]) rfl ?_
    exact zg_mono (fun w z h => hend w z h) kk
  · refine zg_if_neT F (tgt := 1364) dL_law_1349 (by decide) (nI_ne0 (by omega) (by omega)) ?_
    refine zg_goto F (tgt := 1478) dL_law_1364 (by decide) ?_
    refine zg_sub [2, 3, 4, 5, 6] (L' := [(4, _), (3, _), (2, _), (1, _), (0, _)]) rfl ?_
    exact zg_mono (fun w z h => hend w z h) kk
set_option maxRecDepth 100000 in
set_option maxHeartbeats 4000000 in
theorem zT_wishes {K : zg_K} (F : zg_F K zc_L_law "IslandRightsLaw" room_1) (hn : zk_n K = 8) (hl : (zk_l K).stackTraces = false) {b N : Nat} {xs : Nat → Int32} (X : zg_Xs K b N xs) {x i n cells slots : Nat} (hi : i + 5 < N) (hn2 : 4 * (n + 1) < 2 ^ 30) (hc : cells + 9 ≤ 601024) (hs : slots + 50 ≤ 7293034) (kk : zg_G K (zl_Inv (zk_A K) x (n + 1)) (cells + 9) (slots + 50) 1478 (zl_L x b i) []) : zg_G K (zl_Inv (zk_A K) x n) cells slots 1367 (zl_L x b i) [] := by
  refine zg_pt (fun w z hI => ?_)
  obtain ⟨σ, τ, hI⟩ := hI
  obtain ⟨k, mc, ms, P0, P1, ⟨hk4, hmc, hms⟩, hP0, hx0, hXW, hrest⟩ := zO_wishes (zk_l K) (zk_D K) (zk_A K) (zk_z K) hl hI hn2 (xs (i + 1))
  refine zg_mono (P' := P0) (fun w' z' q => by rw [q.1, q.2]; exact hP0) ?_
  refine zg_aload_n F 3 rfl rfl dL_law_1367 ?_
  refine zg_aload_n F 4 rfl rfl dL_law_1368 ?_
  refine zg_iload F 0 rfl dL_law_1369 ?_
  refine zg_iconst F (v := nI 1) (by decide) dL_law_1371 ?_
  refine zg_iadd F (by first | exact nI_add _ _ | rfl) dL_law_1372 ?_
  refine zg_sld F X (by omega) dL_law_1373 ?_
  refine zg_aload_n F 1 rfl rfl dL_law_1374 ?_
  refine zg_callSW F hXW zv_L_wishes zk_518 rfl ⟨by decide, by decide⟩ ⟨by show _ ≤ 601024; omega, by show _ ≤ 7293034; omega⟩ rfl (Nat.le_of_ble_eq_true rfl) dL_law_1375 ?_
  refine zg_wid (c2 := cells + 9) (s2 := slots + 50) (by omega) (by omega) ?_
  refine zg_istore F (by rw [hn]; decide) (L' := [(5, _), (4, _), (3, _), (2, _), (1, _), (0, _)]) rfl dL_law_1378 ?_
  refine zg_pt (fun w1 z1 h1 => ?_)
  obtain ⟨σ1, σ2, r, d, hd, hm0, hMM, h25, ⟨fo, hfo, hr⟩, hend⟩ := hrest w1 z1 h1
  refine zg_mono (P' := zm_P (zk_A K) (x + 70) w1 z1 σ1) (fun w' z' q => by rw [q.1, q.2]; exact hm0) ?_
  obtain ⟨r32, er, hMM⟩ := hMM
  refine zg_aload_n F 3 rfl rfl dL_law_1380 ?_
  refine zg_aload_n F 5 rfl rfl dL_law_1381 ?_
  refine zg_iload F 1 rfl dL_law_1382 ?_
  refine zg_iconst F (v := nI 1) (by decide) dL_law_1384 ?_
  refine zg_iadd F (by first | exact nI_add _ _ | rfl) dL_law_1385 ?_
  refine zg_sld F X (by omega) dL_law_1386 ?_
  refine zg_callV F (hMM) zv_M_wishes zu_M_wishes zk_747 (fun _ _ h => h.2.1.1) rfl rfl ⟨by show d + 1 ≤ 12; omega, by show 8 + (2 + 11) + 32 * d ≤ 432; omega⟩ ⟨by show _ ≤ 601024; omega, by show _ ≤ 7293034; omega⟩ rfl (Nat.le_of_ble_eq_true rfl) dL_law_1387 ?_
  refine zg_istore F (by rw [hn]; decide) (L' := [(6, _), (5, _), (4, _), (3, _), (2, _), (1, _), (0, _)]) rfl dL_law_1390 ?_
  refine zg_aload_n F 4 rfl rfl dL_law_1392 ?_
  refine zg_callV F (zM_thrown _ _ _ _ (x + 70) z1 w1 σ2) zv_M_thrown zu_M_thrown zk_624 (fun _ _ h => h.2.1.1) rfl rfl ⟨by decide, by decide⟩ ⟨by show _ ≤ 601024; omega, by show _ ≤ 7293034; omega⟩ rfl (Nat.le_of_ble_eq_true rfl) dL_law_1393 ?_
  refine zg_eqi h25 ?_
  refine zg_iload F 1 rfl dL_law_1396 ?_
  refine zg_icmp_eqT F (tgt := 1403) dL_law_1398 (by decide) (rfl) ?_
  refine zg_iload F 1 rfl dL_law_1403 ?_
  by_cases hk0 : k = 0
  · refine zg_if_neF F dL_law_1405 (tgt := 1420) (by decide) (by rw [hk0]; rfl) ?_
    refine zg_aload_n F 3 rfl rfl dL_law_1408 ?_
    refine zg_iconst F (v := nI 0) (by decide) dL_law_1409 ?_
    refine zg_lald F (fun _ _ h => by rw [h.2.2 _ (by omega)]; exact hfo) (by decide) (by decide) (hr hk0) dL_law_1410 ?_
    refine zg_iload F 0 rfl dL_law_1411 ?_
    refine zg_i2l F rfl dL_law_1413 ?_
    refine zg_lcmp F rfl dL_law_1414 ?_
    refine zg_if_eqT F (tgt := 1420) dL_law_1415 (by decide) ((lg_cmp_eq _ _).mpr er.symm) ?_
    refine zg_goto F (tgt := 1478) dL_law_1420 (by decide) ?_
    refine zg_sub [2, 3, 4, 5, 6] (L' := [(4, _), (3, _), (2, _), (1, _), (0, _)]) rfl ?_
    exact zg_mono (fun w z h => hend w z h) kk
  · refine zg_if_neT F (tgt := 1420) dL_law_1405 (by decide) (nI_ne0 (by omega) (by omega)) ?_
    refine zg_goto F (tgt := 1478) dL_law_1420 (by decide) ?_
    refine zg_sub [2, 3, 4, 5, 6] (L' := [(4, _), (3, _), (2, _), (1, _), (0, _)]) rfl ?_
    exact zg_mono (fun w z h => hend w z h) kk
set_option maxRecDepth 100000 in
set_option maxHeartbeats 4000000 in
theorem zT_till {K : zg_K} (F : zg_F K zc_L_law "IslandRightsLaw" room_1) (hn : zk_n K = 8) (hl : (zk_l K).stackTraces = false) {b N : Nat} {xs : Nat → Int32} (X : zg_Xs K b N xs) {x i n cells slots : Nat} (hi : i + 5 < N) (hn2 : 4 * (n + 1) < 2 ^ 30) (hc : cells + 9 ≤ 601024) (hs : slots + 50 ≤ 7293034) (kk : zg_G K (zl_Inv (zk_A K) x (n + 1)) (cells + 9) (slots + 50) 1478 (zl_L x b i) []) : zg_G K (zl_Inv (zk_A K) x n) cells slots 1423 (zl_L x b i) [] := by
  refine zg_pt (fun w z hI => ?_)
  obtain ⟨σ, τ, hI⟩ := hI
  obtain ⟨k, mc, ms, P0, P1, ⟨hk4, hmc, hms⟩, hP0, hx0, hXW, hrest⟩ := zO_till (zk_l K) (zk_D K) (zk_A K) (zk_z K) hl hI hn2 (xs (i + 1))
  refine zg_mono (P' := P0) (fun w' z' q => by rw [q.1, q.2]; exact hP0) ?_
  refine zg_aload_n F 3 rfl rfl dL_law_1423 ?_
  refine zg_aload_n F 4 rfl rfl dL_law_1424 ?_
  refine zg_iload F 0 rfl dL_law_1425 ?_
  refine zg_iconst F (v := nI 1) (by decide) dL_law_1427 ?_
  refine zg_iadd F (by first | exact nI_add _ _ | rfl) dL_law_1428 ?_
  refine zg_sld F X (by omega) dL_law_1429 ?_
  refine zg_aload_n F 1 rfl rfl dL_law_1430 ?_
  refine zg_callSW F hXW zv_L_till zk_525 rfl ⟨by decide, by decide⟩ ⟨by show _ ≤ 601024; omega, by show _ ≤ 7293034; omega⟩ rfl (Nat.le_of_ble_eq_true rfl) dL_law_1431 ?_
  refine zg_wid (c2 := cells + 9) (s2 := slots + 50) (by omega) (by omega) ?_
  refine zg_istore F (by rw [hn]; decide) (L' := [(5, _), (4, _), (3, _), (2, _), (1, _), (0, _)]) rfl dL_law_1434 ?_
  refine zg_pt (fun w1 z1 h1 => ?_)
  obtain ⟨σ1, σ2, r, d, hd, hm0, hMM, h25, ⟨fo, hfo, hr⟩, hend⟩ := hrest w1 z1 h1
  refine zg_mono (P' := zm_P (zk_A K) (x + 70) w1 z1 σ1) (fun w' z' q => by rw [q.1, q.2]; exact hm0) ?_
  refine zg_aload_n F 3 rfl rfl dL_law_1436 ?_
  refine zg_aload_n F 5 rfl rfl dL_law_1437 ?_
  refine zg_iload F 1 rfl dL_law_1438 ?_
  refine zg_iconst F (v := nI 1) (by decide) dL_law_1440 ?_
  refine zg_iadd F (by first | exact nI_add _ _ | rfl) dL_law_1441 ?_
  refine zg_sld F X (by omega) dL_law_1442 ?_
  refine zg_callV F (hMM) zv_M_till zu_M_till zk_751 (fun _ _ h => h.2.1.1) rfl rfl ⟨by show d + 1 ≤ 12; omega, by show 8 + (2 + 11) + 32 * d ≤ 432; omega⟩ ⟨by show _ ≤ 601024; omega, by show _ ≤ 7293034; omega⟩ rfl (Nat.le_of_ble_eq_true rfl) dL_law_1443 ?_
  refine zg_lstore F (by rw [hn]; decide) (L' := [(6, _), (5, _), (4, _), (3, _), (2, _), (1, _), (0, _)]) rfl dL_law_1446 ?_
  refine zg_aload_n F 4 rfl rfl dL_law_1448 ?_
  refine zg_callV F (zM_thrown _ _ _ _ (x + 70) z1 w1 σ2) zv_M_thrown zu_M_thrown zk_624 (fun _ _ h => h.2.1.1) rfl rfl ⟨by decide, by decide⟩ ⟨by show _ ≤ 601024; omega, by show _ ≤ 7293034; omega⟩ rfl (Nat.le_of_ble_eq_true rfl) dL_law_1449 ?_
  refine zg_eqi h25 ?_
  refine zg_iload F 1 rfl dL_law_1452 ?_
  refine zg_icmp_eqT F (tgt := 1459) dL_law_1454 (by decide) (rfl) ?_
  refine zg_iload F 1 rfl dL_law_1459 ?_
  by_cases hk0 : k = 0
  · refine zg_if_neF F dL_law_1461 (tgt := 1475) (by decide) (by rw [hk0]; rfl) ?_
    refine zg_aload_n F 3 rfl rfl dL_law_1464 ?_
    refine zg_iconst F (v := nI 0) (by decide) dL_law_1465 ?_
    refine zg_lald F (fun _ _ h => by rw [h.2.2 _ (by omega)]; exact hfo) (by decide) (by decide) (hr hk0) dL_law_1466 ?_
    refine zg_lload F 0 rfl dL_law_1467 ?_
    refine zg_lcmp F rfl dL_law_1469 ?_
    refine zg_if_eqT F (tgt := 1475) dL_law_1470 (by decide) ((lg_cmp_eq _ _).mpr rfl) ?_
    refine zg_goto F (tgt := 1478) dL_law_1475 (by decide) ?_
    refine zg_sub [2, 3, 4, 5, 6] (L' := [(4, _), (3, _), (2, _), (1, _), (0, _)]) rfl ?_
    exact zg_mono (fun w z h => hend w z h) kk
  · refine zg_if_neT F (tgt := 1475) dL_law_1461 (by decide) (nI_ne0 (by omega) (by omega)) ?_
    refine zg_goto F (tgt := 1478) dL_law_1475 (by decide) ?_
    refine zg_sub [2, 3, 4, 5, 6] (L' := [(4, _), (3, _), (2, _), (1, _), (0, _)]) rfl ?_
    exact zg_mono (fun w z h => hend w z h) kk
