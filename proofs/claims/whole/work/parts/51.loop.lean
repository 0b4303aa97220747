/-! the law's loop, and its beginning -/
theorem zl_Inv.s {A : Nat → ClassId} {x n : Nat} (w : zg_w) (z : Nat) (h : zl_Inv A x n w z) : zl_Inv A x (n + 1) w z := by
  obtain ⟨σ, τ, h1, h2, h3, h4⟩ := h
  exact ⟨σ, τ, h1, h2, h3, h4.w (by omega) (Nat.le_refl _) (fun _ _ _ => rfl)⟩
theorem zl_go {N i : Nat} (hN : N ≤ 3072) (hi : i ≤ 4000) (h : ¬ nI N - nI 6 < nI i) : i + 6 ≤ N := Nat.le_of_not_lt fun q => h (Int32.lt_iff_toInt_lt.mpr (by rw [pk_sub_toInt (by omega) (by omega), nI_toInt (by omega)]; omega))
set_option maxRecDepth 100000 in
set_option maxHeartbeats 4000000 in
theorem zT_loop {K : zg_K} (F : zg_F K zc_L_law "IslandRightsLaw" room_1) (hn : zk_n K = 8) (hl : (zk_l K).stackTraces = false) {b N : Nat} {xs : Nat → Int32} (X : zg_Xs K b N xs) {x : Nat} (E : ∀ (H : Heap) (locs : List Loc) (ls : Array Slot), (∀ q ∈ locs, zk_z K ≤ q.base) → zg_W K H locs 601024 7293034 (F0 (zk_m K) 1485 ls [.int 1])) : ∀ r n, n + r = 513 → zg_G K (zl_Inv (zk_A K) x n) (97 + 9 * n) (2976 + 50 * n) 23 (zl_L x b (6 * n)) [] := by
  have hN := X.2.2.2
  have fin : ∀ n, n ≤ 513 → zg_G K (zl_Inv (zk_A K) x n) (97 + 9 * n) (2976 + 50 * n) 1484 (zl_L x b (6 * n)) [] := by
    intro n hn5
    refine zg_iconst F (v := 1) (by decide) dL_law_1484 ?_
    exact fun w H locs ls h1 h2 h3 h4 => W.widen (by omega) (by omega) (E H locs ls h3.2.2)
  intro r
  induction r with
  | zero =>
    intro n hr
    refine zg_iload F 0 rfl dL_law_23 ?_
    refine zg_aload_n F 4 rfl rfl dL_law_25 ?_
    refine zg_slen F X dL_law_26 ?_
    refine zg_bipush F (v := nI 6) (by decide) dL_law_27 ?_
    refine zg_isub F rfl dL_law_29 ?_
    refine zg_icmp_gt F (tgt := 1484) dL_law_30 (by decide) (fun hg => ?_) (fun hg => ?_)
    · exact fin n (by omega)
    · exact absurd (zl_go hN (by omega) hg) (by omega)
  | succ r ih =>
    intro n hr
    refine zg_iload F 0 rfl dL_law_23 ?_
    refine zg_aload_n F 4 rfl rfl dL_law_25 ?_
    refine zg_slen F X dL_law_26 ?_
    refine zg_bipush F (v := nI 6) (by decide) dL_law_27 ?_
    refine zg_isub F rfl dL_law_29 ?_
    refine zg_icmp_gt F (tgt := 1484) dL_law_30 (by decide) (fun hg => ?_) (fun hg => ?_)
    · exact fin n (by omega)
    · have hi := zl_go hN (by omega) hg
      refine zg_aload_n F 4 rfl rfl dL_law_33 ?_
      refine zg_iload F 0 rfl dL_law_34 ?_
      refine zg_sld F X (by omega) dL_law_36 ?_
      refine zg_bipush F (v := nI 31) (by decide) dL_law_37 ?_
      refine zg_iand F rfl dL_law_39 ?_
      have kk : zg_G K (zl_Inv (zk_A K) x (n + 1)) (97 + 9 * n + 9) (2976 + 50 * n + 50) 1478 (zl_L x b (6 * n)) [] := by
        refine zg_iinc F (n := 6) (v := nI (6 * (n + 1))) 0 rfl (show nI (6 * n) + Int32.ofInt 6 = nI (6 * (n + 1)) from nI_add (6 * n) 6) (by rw [hn]; decide) (L' := [(4, _), (3, _), (2, _), (1, _), (0, _)]) rfl dL_law_1478 ?_
        refine zg_goto F (tgt := 23) dL_law_1481 (by decide) ?_
        exact zg_wid (by omega) (by omega) (ih (n + 1) (by omega))
      obtain ⟨j, hj, e⟩ := pk_andE (xs (6 * n)) (m := nI 31) 5 (by decide)
      refine zg_eqi e ?_
      by_cases h20 : j < 20
      · rcases (show j = 0 ∨ j = 1 ∨ j = 2 ∨ j = 3 ∨ j = 4 ∨ j = 5 ∨ j = 6 ∨ j = 7 ∨ j = 8 ∨ j = 9 ∨ j = 10 ∨ j = 11 ∨ j = 12 ∨ j = 13 ∨ j = 14 ∨ j = 15 ∨ j = 16 ∨ j = 17 ∨ j = 18 ∨ j = 19 by omega) with rfl | rfl | rfl | rfl | rfl | rfl | rfl | rfl | rfl | rfl | rfl | rfl | rfl | rfl | rfl | rfl | rfl | rfl | rfl | rfl
        · exact zg_tabI F (off := 96) (tgt := 136) dL_law_40 (by decide) (by decide) (by decide) (by decide) (zT_open F hn hl X (by omega) (by omega) (by omega) (by omega) kk)
        · exact zg_tabI F (off := 144) (tgt := 184) dL_law_40 (by decide) (by decide) (by decide) (by decide) (zT_fare F hn hl X (by omega) (by omega) (by omega) (by omega) kk)
        · exact zg_tabI F (off := 204) (tgt := 244) dL_law_40 (by decide) (by decide) (by decide) (by decide) (zT_part F hn hl X (by omega) (by omega) (by omega) (by omega) kk)
        · exact zg_tabI F (off := 284) (tgt := 324) dL_law_40 (by decide) (by decide) (by decide) (by decide) (zT_buy F hn hl X (by omega) (by omega) (by omega) (by omega) kk)
        · exact zg_tabI F (off := 352) (tgt := 392) dL_law_40 (by decide) (by decide) (by decide) (by decide) (zT_wish F hn hl X (by omega) (by omega) (by omega) (by omega) kk)
        · exact zg_tabI F (off := 420) (tgt := 460) dL_law_40 (by decide) (by decide) (by decide) (by decide) (zT_cancel F hn hl X (by omega) (by omega) (by omega) (by omega) kk)
        · exact zg_tabI F (off := 476) (tgt := 516) dL_law_40 (by decide) (by decide) (by decide) (by decide) (zT_ticket F hn hl X (by omega) (by omega) (by omega) (by omega) kk)
        · exact zg_tabI F (off := 544) (tgt := 584) dL_law_40 (by decide) (by decide) (by decide) (by decide) (zT_price F hn hl X (by omega) (by omega) (by omega) (by omega) kk)
        · exact zg_tabI F (off := 599) (tgt := 639) dL_law_40 (by decide) (by decide) (by decide) (by decide) (zT_hand F hn hl X (by omega) (by omega) (by omega) (by omega) kk)
        · exact zg_tabI F (off := 703) (tgt := 743) dL_law_40 (by decide) (by decide) (by decide) (by decide) (zT_share F hn hl X (by omega) (by omega) (by omega) (by omega) kk)
        · exact zg_tabI F (off := 783) (tgt := 823) dL_law_40 (by decide) (by decide) (by decide) (by decide) (zT_send F hn hl X (by omega) (by omega) (by omega) (by omega) kk)
        · exact zg_tabI F (off := 851) (tgt := 891) dL_law_40 (by decide) (by decide) (by decide) (by decide) (zT_arrive F hn hl X (by omega) (by omega) (by omega) (by omega) kk)
        · exact zg_tabI F (off := 919) (tgt := 959) dL_law_40 (by decide) (by decide) (by decide) (by decide) (zT_receipt F hn hl X (by omega) (by omega) (by omega) (by omega) kk)
        · exact zg_tabI F (off := 987) (tgt := 1027) dL_law_40 (by decide) (by decide) (by decide) (by decide) (zT_lose F hn hl X (by omega) (by omega) (by omega) (by omega) kk)
        · exact zg_tabI F (off := 1055) (tgt := 1095) dL_law_40 (by decide) (by decide) (by decide) (by decide) (zT_crash F hn hl X (by omega) (by omega) (by omega) (by omega) kk)
        · exact zg_tabI F (off := 1111) (tgt := 1151) dL_law_40 (by decide) (by decide) (by decide) (by decide) (zT_rights F hn hl X (by omega) (by omega) (by omega) (by omega) kk)
        · exact zg_tabI F (off := 1191) (tgt := 1231) dL_law_40 (by decide) (by decide) (by decide) (by decide) (zT_air F hn hl X (by omega) (by omega) (by omega) (by omega) kk)
        · exact zg_tabI F (off := 1259) (tgt := 1299) dL_law_40 (by decide) (by decide) (by decide) (by decide) (zT_sold F hn hl X (by omega) (by omega) (by omega) (by omega) kk)
        · exact zg_tabI F (off := 1327) (tgt := 1367) dL_law_40 (by decide) (by decide) (by decide) (by decide) (zT_wishes F hn hl X (by omega) (by omega) (by omega) (by omega) kk)
        · exact zg_tabI F (off := 1383) (tgt := 1423) dL_law_40 (by decide) (by decide) (by decide) (by decide) (zT_till F hn hl X (by omega) (by omega) (by omega) (by omega) kk)
      · exact zg_tabO F (tgt := 1478) dL_law_40 (Or.inr (by rw [nI_toInt (by omega)]; omega)) (by decide) (zg_wid (by omega) (by omega) (zg_mono (fun w z h => zl_Inv.s w z h) kk))
theorem zl_first {A : Nat → ClassId} {x z0 : Nat} {w0 v : zg_w} (h : zx_P A x (zx_nj A v (x + 8)) (x + 70) (zx_0 x) w0 z0) (w : zg_w) (hm : zm_P A (x + 70) w0 (x + 70 + 26) (zm_ini 16) w (x + 96)) : zl_Inv A x 0 (zg_u w (x + 96) (.inl (A 2, 1, .inr (.inl (fun _ => 0))))) (x + 96 + 1) := by
  have hw : ∀ q, q < x + 70 → zg_u w (x + 96) (.inl (A 2, 1, .inr (.inl (fun _ => 0)))) q = w0 q := fun q hq => by rw [zg_un (by omega), hm.2.2 q (by omega)]
  refine ⟨zm_ini 16, zx_0 x, fun o ho => ?_, ⟨?_, fun k hk => ?_⟩, ⟨_, zg_us _ _ _⟩, zl_R0 ?_ ?_ (by omega)⟩
  · rw [hw _ (by omega)]; exact h.2.1 o ho
  · rw [zg_un (by omega)]; exact hm.2.1.1
  · rw [zg_un (by omega)]; exact hm.2.1.2 k hk
  · rw [hw _ (by omega), h.2.2 _ (fun o ho q => by omega)]
    unfold zx_nj
    rw [zg_us]
  · rw [hw _ (by omega), h.2.2 _ (fun o ho q => by omega)]
    unfold zx_nj
    rw [zg_un (by omega), zg_us]
set_option maxRecDepth 100000 in
set_option maxHeartbeats 4000000 in
theorem zT_start {K : zg_K} (F : zg_F K zc_L_law "IslandRightsLaw" room_1) (hn : zk_n K = 8) (hl : (zk_l K).stackTraces = false) {b N : Nat} {xs : Nat → Int32} (X : zg_Xs K b N xs) {x : Nat} (E : ∀ (H : Heap) (locs : List Loc) (ls : Array Slot), (∀ q ∈ locs, zk_z K ≤ q.base) → zg_W K H locs 601024 7293034 (F0 (zk_m K) 1485 ls [.int 1])) : zg_G K (fun w z => z = x ∧ w = fun _ => none) 0 0 0 [(0, .ref b)] [] := by
  refine zg_new F (sz := x) (P' := zx_O x (fun _ => none)) (ci := 5) (fs := [.null, .null, .null, .null, .null, .null, .null, .int 0, .null]) rfl zi_X zy_X zt_X zk_15 zk_16 zk_1 (fun j hj => by rcases (show j = 0 ∨ j = 1 ∨ j = 2 ∨ j = 3 ∨ j = 4 ∨ j = 5 ∨ j = 6 ∨ j = 7 ∨ j = 8 by omega) with rfl | rfl | rfl | rfl | rfl | rfl | rfl | rfl | rfl <;> rfl) (by decide) (by decide) (fun _ _ h => h.1) (fun w h _ => ⟨rfl, by rw [h.2]⟩) dL_law_0 ?_
  refine zg_dup F rfl dL_law_3 ?_
  refine zg_callI F (zX_init _ _ _ _ x (fun _ => none)) zv_X_init zu_X_init zk_17 rfl ⟨by decide, by decide⟩ ⟨by decide, by decide⟩ rfl (Nat.le_of_ble_eq_true rfl) dL_law_4 ?_
  refine zg_astore_n F rfl (by rw [hn]; decide) (L' := [(1, _), (0, _)]) rfl dL_law_7 ?_
  refine zg_pt (fun w0 z0 h0 => ?_)
  refine zg_new F (sz := x + 70) (P' := zm_I (zk_A K) (x + 70) w0 0 0) (ci := 6) (fs := [.int 0, .null, .null, .null, .null, .null, .null, .int 0, .int 0, .null, .null, .null, .null, .null, .null, .null, .null, .null, .null, .null, .null, .null, .null, .null, .null, .null, .null, .null]) rfl zi_M zy_M zt_M zk_532 zk_533 zk_5 (fun j hj => by rcases (show j = 0 ∨ j = 1 ∨ j = 2 ∨ j = 3 ∨ j = 4 ∨ j = 5 ∨ j = 6 ∨ j = 7 ∨ j = 8 ∨ j = 9 ∨ j = 10 ∨ j = 11 ∨ j = 12 ∨ j = 13 ∨ j = 14 ∨ j = 15 ∨ j = 16 ∨ j = 17 ∨ j = 18 ∨ j = 19 ∨ j = 20 ∨ j = 21 ∨ j = 22 ∨ j = 23 ∨ j = 24 ∨ j = 25 ∨ j = 26 ∨ j = 27 by omega) with rfl | rfl | rfl | rfl | rfl | rfl | rfl | rfl | rfl | rfl | rfl | rfl | rfl | rfl | rfl | rfl | rfl | rfl | rfl | rfl | rfl | rfl | rfl | rfl | rfl | rfl | rfl | rfl <;> rfl) (by decide) (by decide) (fun _ _ h => by rw [h.2]; exact h0.1) (fun w h _ => ⟨rfl, zg_us _ _ _, fun k hk => absurd hk (by omega), fun q hq => by rw [zg_un (by omega), h.1]⟩) dL_law_8 ?_
  refine zg_dup F rfl dL_law_11 ?_
  refine zg_callI F (zM_init _ _ _ _ (x + 70) w0) zv_M_init zu_M_init zk_534 rfl ⟨by decide, by decide⟩ ⟨by decide, by decide⟩ rfl (Nat.le_of_ble_eq_true rfl) dL_law_12 ?_
  refine zg_astore_n F rfl (by rw [hn]; decide) (L' := [(2, _), (1, _), (0, _)]) rfl dL_law_15 ?_
  refine zg_iconst F (v := nI 1) (by decide) dL_law_16 ?_
  refine zg_newL F (n := 1) (sz := x + 96) (P' := zl_Inv (zk_A K) x 0) zk_623 (by decide) (by decide) (by decide) (fun _ _ h => h.1) (fun w h _ => zl_first h0 w h) dL_law_17 ?_
  refine zg_astore_n F rfl (by rw [hn]; decide) (L' := [(3, _), (2, _), (1, _), (0, _)]) rfl dL_law_19 ?_
  refine zg_iconst F (v := nI 0) (by decide) dL_law_20 ?_
  refine zg_istore F (by rw [hn]; decide) (L' := [(4, _), (3, _), (2, _), (1, _), (0, _)]) rfl dL_law_21 ?_
  exact zg_wid (by decide) (by decide) (zT_loop F hn hl X E 513 0 rfl)
