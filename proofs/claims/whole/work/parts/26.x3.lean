set_option maxRecDepth 100000 in
set_option maxHeartbeats 4000000 in
theorem zX_takeDraft (l : Launch) (D : va_G) (A : Nat → ClassId) (base : Nat) (x sz : Nat) (v : zg_w) (τ : zx_S) (hsz : x + 70 ≤ sz) : zg_Met l zm_X_takeDraft zc_X_takeDraft 2 (some (.object "IslandRights$Journey")) 2 2 18 D A base [.ref x] (zx_P A x v sz τ) (some (.ref (τ 0).2.2.2)) (zx_P A x (zx_nj A v sz) (sz + 2) (zxD τ sz)) := by
  refine zg_met (by decide) (Nat.le_of_ble_eq_true rfl) ?_
  intro K hl hD hA hz hn hnm F E
  subst hl hD hA hz
  show zg_G K (zx_P (zk_A K) x v sz τ) 0 0 0 [(0, .ref x)] []
  refine zg_aload_n F 0 rfl rfl dX_takeDraft_0 ?_
  refine zg_get F (fun _ _ h => zx_g0 h) rfl zi_X 8 (by decide) rfl zk_113 rfl dX_takeDraft_1 ?_
  refine zg_astore_n F rfl (by rw [hn]; decide) (L' := [(1, _), (0, _)]) rfl dX_takeDraft_4 ?_
  refine zg_aload_n F 1 rfl rfl dX_takeDraft_5 ?_
  refine zg_new F (P' := zx_P (zk_A K) x (zg_u v sz (.inr (0, [.null, .int 0]))) (sz + 1) τ) (ci := 0) (fs := [.null, .int 0]) rfl zi_J zy_J zt_J zk_29 zk_30 zk_2 (fun j hj => by rcases (show j = 0 ∨ j = 1 by omega) with rfl | rfl <;> rfl) (by decide) (by decide) (fun _ _ h => h.1) (fun w h _ => zx_P.nw (zx_out_ge hsz) w h) dX_takeDraft_6 ?_
  refine zg_dup F rfl dX_takeDraft_9 ?_
  refine zg_callIN F (host := "IslandRights") (zJ_init _ _ _ _ (zx_P (zk_A K) x (zg_u v sz (.inr (0, [.null, .int 0]))) (sz + 1) τ) (zx_P (zk_A K) x (zx_nj (zk_A K) v sz) (sz + 2) τ) sz (fun w z h => ⟨h.1, by rw [zx_gv h (zx_out_ge hsz)]; exact zg_us _ _ _⟩) (fun w h => by
      have g := zx_P.dy (e := .inr (0, [.ref (sz + 1), .int (nI 0)])) (zx_out_ge hsz) _ _ (zx_P.nw (e := zx_z16 (zk_A K)) (zx_out_ge (by omega)) w h)
      rw [zg_uc (a := sz) (b := sz + 1) (by omega), zg_uu] at g
      exact g)) zv_J_init zu_J_init (by decide +kernel) rfl ⟨by decide, by decide⟩ ⟨by decide, by decide⟩ rfl (Nat.le_of_ble_eq_true rfl) dX_takeDraft_10 ?_
  refine zg_put F (fun _ _ h => zx_g0 h) rfl zi_X zy_X zt_X zn_X 8 (by decide) rfl zk_113 rfl rfl rfl rfl (Nat.le_of_ble_eq_true rfl) (fun w z h => zx_pd _ w z h) dX_takeDraft_13 ?_
  refine zg_aload_n F 0 rfl rfl dX_takeDraft_16 ?_
  exact zg_aret F E (by decide) (by decide) (fun _ _ h => h) dX_takeDraft_17
set_option maxRecDepth 100000 in
set_option maxHeartbeats 4000000 in
theorem zJ_addPart (l : Launch) (D : va_G) (A : Nat → ClassId) (base : Nat) (x sz : Nat) (v : zg_w) (τ : zx_S) (j s a b pn : Nat) (f : Nat → Int32) (hs : s < 4) (hab : a < b) (hb : b < 5) (hj : zx_J A x v j f (nI pn)) : zg_Met l zm_J_addPart zc_J_addPart 5 none 1 0 0 D A base [.ref j, .int (nI s), .int (nI a), .int (nI b)] (zx_P A x v sz τ) none (zx_P A x (zg_u (zg_u v (j + 1) (.inl (A 0, 16, .inl (zx_adp f s a (b - a))))) j (.inr (0, [.ref (j + 1), .int (nI (pn + 1))]))) sz τ) := by
  refine zg_met (by decide) (Nat.le_of_ble_eq_true rfl) ?_
  intro K hl hD hA hz hn hnm F E
  subst hl hD hA hz
  show zg_G K (zx_P (zk_A K) x v sz τ) 0 0 0 [(0, .ref j), (1, .int (nI s)), (2, .int (nI a)), (3, .int (nI b))] []
  refine zg_iload_n F 2 rfl rfl dJ_addPart_0 ?_
  refine zg_istore F (by rw [hn]; decide) (L' := [(4, _), (0, _), (1, _), (2, _), (3, _)]) rfl dJ_addPart_1 ?_
  have hjv : ∀ i, zx_J (zk_A K) x (zg_u v (j + 1) (.inl (zk_A K 0, 16, .inl (zx_adp f s a i)))) j (zx_adp f s a i) (nI pn) := fun i => ⟨hj.1, hj.2.1, by rw [zg_un (by omega)]; exact hj.2.2.1, zg_us _ _ _⟩
  have loop : ∀ r i, i + r = b - a → zg_G K (zx_P (zk_A K) x (zg_u v (j + 1) (.inl (zk_A K 0, 16, .inl (zx_adp f s a i)))) sz τ) 0 0 3 [(4, .int (nI (a + i))), (0, .ref j), (1, .int (nI s)), (2, .int (nI a)), (3, .int (nI b))] [] := by
    intro r
    induction r with
    | zero =>
      intro i hi
      obtain rfl : i = b - a := by omega
      refine zg_iload F 0 rfl dJ_addPart_3 ?_
      refine zg_iload_n F 4 rfl rfl dJ_addPart_5 ?_
      refine zg_icmp_geT F (tgt := 30) dJ_addPart_6 (by decide) (nI_le (by omega) (by omega)) ?_
      refine zg_aload_n F 1 rfl rfl dJ_addPart_30 ?_
      refine zg_dup F rfl dJ_addPart_31 ?_
      refine zg_get F (fun _ _ h => zx_J1 (hjv (b - a)) h) rfl zi_J 1 (by decide) rfl zk_38 rfl dJ_addPart_32 ?_
      refine zg_iconst F (v := nI 1) (by decide) dJ_addPart_35 ?_
      refine zg_iadd F (by first | exact nI_add _ _ | rfl) dJ_addPart_36 ?_
      refine zg_put F (fun _ _ h => zx_J1 (hjv (b - a)) h) rfl zi_J zy_J zt_J zn_J 1 (by decide) rfl zk_38 rfl rfl rfl rfl (Nat.le_of_ble_eq_true rfl) (fun w z h => zx_P.dy hj.1 w z h) dJ_addPart_37 ?_
      exact zg_vret F E (by decide) (by decide) (fun _ _ h => h) dJ_addPart_40
    | succ r ih =>
      intro i hi
      refine zg_iload F 0 rfl dJ_addPart_3 ?_
      refine zg_iload_n F 4 rfl rfl dJ_addPart_5 ?_
      refine zg_icmp_geF F dJ_addPart_6 (tgt := 30) (by decide) (nI_ge (by omega) (by omega)) ?_
      refine zg_aload_n F 1 rfl rfl dJ_addPart_9 ?_
      refine zg_get F (fun _ _ h => zx_J1 (hjv i) h) rfl zi_J 0 (by decide) rfl zk_35 rfl dJ_addPart_10 ?_
      refine zg_iload_n F 2 rfl rfl dJ_addPart_13 ?_
      refine zg_iload F 0 rfl dJ_addPart_14 ?_
      refine zg_callSN F (host := "IslandRights") (zX_placeOf _ _ _ _ _ s (a + i)) zv_X_placeOf zu_X_placeOf (by decide +kernel) rfl ⟨by decide, by decide⟩ ⟨by decide, by decide⟩ rfl (Nat.le_of_ble_eq_true rfl) dJ_addPart_16 ?_
      refine zg_dup2 F rfl rfl dJ_addPart_19 ?_
      refine zg_iald F (fun _ _ h => zx_J2 (hjv i) h) (by show _ < 16; omega) (by decide) rfl dJ_addPart_20 ?_
      refine zg_iconst F (v := nI 1) (by decide) dJ_addPart_21 ?_
      refine zg_iadd F rfl dJ_addPart_22 ?_
      refine zg_iast F (fun _ _ h => zx_J2 (hjv i) h) (by show _ < 16; omega) (by decide) (fun w z h => zx_P.dy hj.2.1 w z h) dJ_addPart_23 ?_
      rw [zg_uu]
      refine zg_iinc F 0 rfl (by first | exact zc_inc _ | rfl) (by rw [hn]; decide) (L' := [(4, _), (0, _), (1, _), (2, _), (3, _)]) rfl dJ_addPart_24 ?_
      refine zg_goto F (tgt := 3) dJ_addPart_27 (by decide) ?_
      exact ih (i + 1) (by omega)
  have hg := loop (b - a) 0 (by omega)
  rw [show zg_u v (j + 1) (.inl (zk_A K 0, 16, .inl (zx_adp f s a 0))) = v from zg_ui hj.2.2.2] at hg
  exact hg
set_option maxRecDepth 100000 in
set_option maxHeartbeats 4000000 in
theorem zP_addWish (l : Launch) (D : va_G) (A : Nat → ClassId) (base : Nat) (x sz : Nat) (v : zg_w) (τ : zx_S) (i k j : Nat) (n : Int32) (hi4 : i < 4) (hk : k < 6) (hw : (τ (10 + 3 * i)).1 2 = nI k) (hsz : x + 70 ≤ sz) : zg_Met l zm_P_addWish zc_P_addWish 3 none 2 1 2 D A base [.ref (x + (10 + 3 * i)), .ref j, .int n] (zx_P A x v sz τ) none (zx_P A x (zg_u v sz (.inr (4, [.ref j, .int n]))) (sz + 1) (zxI (zxG τ (10 + 3 * i + 2) k sz) (10 + 3 * i) 2 (nI (k + 1)))) := by
  refine zg_met (by decide) (Nat.le_of_ble_eq_true rfl) ?_
  intro K hl hD hA hz hn hnm F E
  subst hl hD hA hz
  show zg_G K (zx_P (zk_A K) x v sz τ) 0 0 0 [(0, .ref (x + (10 + 3 * i))), (1, .ref j), (2, .int n)] []
  refine zg_aload_n F 0 rfl rfl dP_addWish_0 ?_
  refine zg_get F (fun _ _ h => zx_gp h (by omega)) rfl zi_P 1 (by decide) rfl zk_56 rfl dP_addWish_1 ?_
  refine zg_aload_n F 0 rfl rfl dP_addWish_4 ?_
  refine zg_get F (fun _ _ h => zx_gp h (by omega)) rfl zi_P 2 (by decide) rfl zk_58 rfl dP_addWish_5 ?_
  refine zg_eqi (hw) ?_
  refine zg_new F (P' := zx_P (zk_A K) x (zg_u v sz (.inr (4, [.null, .int 0]))) (sz + 1) τ) (ci := 4) (fs := [.null, .int 0]) rfl zi_H zy_H zt_H zk_52 zk_359 zk_13 (fun j hj => by rcases (show j = 0 ∨ j = 1 by omega) with rfl | rfl <;> rfl) (by decide) (by decide) (fun _ _ h => h.1) (fun w h _ => zx_P.nw (zx_out_ge hsz) w h) dP_addWish_8 ?_
  refine zg_dup F rfl dP_addWish_11 ?_
  refine zg_aload_n F 1 rfl rfl dP_addWish_12 ?_
  refine zg_iload_n F 2 rfl rfl dP_addWish_13 ?_
  refine zg_callI F (zH_init _ _ _ _ (zx_P (zk_A K) x (zg_u v sz (.inr (4, [.null, .int 0]))) (sz + 1) τ) (zx_P (zk_A K) x (zg_u v sz (.inr (4, [.ref j, .int n]))) (sz + 1) τ) sz j n (fun w z h => ⟨h.1, by rw [zx_gv h (zx_out_ge hsz)]; exact zg_us _ _ _⟩) (fun w h => by
      have g := zx_P.dy (e := .inr (4, [.ref j, .int n])) (zx_out_ge hsz) _ _ h
      rw [zg_uu] at g
      exact g)) zv_H_init zu_H_init zk_360 rfl ⟨by decide, by decide⟩ ⟨by decide, by decide⟩ rfl (Nat.le_of_ble_eq_true rfl) dP_addWish_14 ?_
  refine zg_aast F (t0 := 6) (ci := 4) (r := (zR_H, zT_H, 2)) (fun _ _ h => zx_gr h hi4) rfl (fun _ _ h => (zx_gv h (zx_out_ge hsz)).trans (zg_us _ _ _)) rfl hk (by decide) (fun w z h => zx_wr hi4 _ _ w z h) dP_addWish_17 ?_
  refine zg_aload_n F 0 rfl rfl dP_addWish_18 ?_
  refine zg_dup F rfl dP_addWish_19 ?_
  refine zg_get F (fun _ _ h => zx_gp h (by omega)) rfl zi_P 2 (by decide) rfl zk_58 rfl dP_addWish_20 ?_
  refine zg_eqi ((show (zxG τ (10 + 3 * i + 2) k sz (10 + 3 * i)).1 2 = nI k by rw [zxG_o (by omega)]; exact hw)) ?_
  refine zg_iconst F (v := nI 1) (by decide) dP_addWish_23 ?_
  refine zg_iadd F (by first | exact nI_add _ _ | rfl) dP_addWish_24 ?_
  refine zg_put F (fun _ _ h => zx_gp h (by omega)) rfl zi_P zy_P zt_P zn_P 2 (by decide) rfl zk_58 rfl rfl rfl rfl (Nat.le_of_ble_eq_true rfl) (fun w z h => zx_pp (by omega) _ w z h) dP_addWish_25 ?_
  exact zg_vret F E (by decide) (by decide) (fun _ _ h => h) dP_addWish_28
set_option maxRecDepth 100000 in
set_option maxHeartbeats 4000000 in
theorem zX_sell (l : Launch) (D : va_G) (A : Nat → ClassId) (base : Nat) (x sz : Nat) (v : zg_w) (τ : zx_S) (port T : Nat) (h0 : port < 4) (hT8 : T < 80) (hT : (τ 0).1 7 = nI T) (hsz : x + 70 ≤ sz) (j : Nat) (f : Nat → Int32) (pn n : Int32) (hj : zx_J A x v j f pn) : zg_Met l zm_X_sell zc_X_sell 7 (some .int) 2 1 5 D A base [.ref x, .int (nI port), .ref j, .int n] (zx_P A x v sz τ) (some (.int (nI T))) (zx_P A x (zg_u v sz (zx_to port j n (zx_sum τ f 16 * n.toInt64))) (sz + 1) (zx_sel τ port f n T sz)) := by
  refine zg_met (by decide) (Nat.le_of_ble_eq_true rfl) ?_
  intro K hl hD hA hz hn hnm F E
  subst hl hD hA hz
  show zg_G K (zx_P (zk_A K) x v sz τ) 0 0 0 [(0, .ref x), (1, .int (nI port)), (2, .ref j), (3, .int n)] []
  refine zg_aload_n F 0 rfl rfl dX_sell_0 ?_
  refine zg_aload_n F 2 rfl rfl dX_sell_1 ?_
  refine zg_iload_n F 3 rfl rfl dX_sell_2 ?_
  refine zg_callV F (zX_costOf _ _ _ _ _ _ _ _ j f pn n hj) zv_X_costOf zu_X_costOf zk_313 (fun _ _ h => zx_g0 h) rfl rfl ⟨by decide, by decide⟩ ⟨by decide, by decide⟩ rfl (Nat.le_of_ble_eq_true rfl) dX_sell_3 ?_
  refine zg_lstore F (by rw [hn]; decide) (L' := [(4, _), (0, _), (1, _), (2, _), (3, _)]) rfl dX_sell_6 ?_
  refine zg_aload_n F 1 rfl rfl dX_sell_8 ?_
  refine zg_iload_n F 2 rfl rfl dX_sell_9 ?_
  refine zg_aload_n F 3 rfl rfl dX_sell_10 ?_
  refine zg_iload_n F 4 rfl rfl dX_sell_11 ?_
  refine zg_callV F (zX_moveToSold _ _ _ _ _ _ _ _ port h0 j f pn n hj) zv_X_moveToSold zu_X_moveToSold zk_317 (fun _ _ h => zx_g0 h) rfl rfl ⟨by decide, by decide⟩ ⟨by decide, by decide⟩ rfl (Nat.le_of_ble_eq_true rfl) dX_sell_12 ?_
  generalize hM : zx_mov τ port f n 16 = M
  have hM0 : M 0 = τ 0 := by rw [← hM, zx_mov_o (by omega)]
  have hT1 : (zxT M (10 + 3 * port) ((M (10 + 3 * port)).2.1 + zx_sum τ f 16 * n.toInt64) 0).1 7 = nI T := by rw [zxT_o (by omega), hM0]; exact hT
  have hE : zx_sel τ port f n T sz = zxI (zxG (zxT M (10 + 3 * port) ((M (10 + 3 * port)).2.1 + zx_sum τ f 16 * n.toInt64)) 7 T sz) 0 7 (nI (T + 1)) := by rw [zx_sel, hM]
  rw [hE] at E
  refine zg_aload_n F 1 rfl rfl dX_sell_15 ?_
  refine zg_get F (fun _ _ h => zx_g0 h) rfl zi_X 4 (by decide) rfl zk_109 rfl dX_sell_16 ?_
  refine zg_iload_n F 2 rfl rfl dX_sell_19 ?_
  refine zg_aald F (t0 := 3) (C := "IslandRights$Port") (fun _ _ h => zx_g5 h) rfl (by show _ < 4; omega) (by decide) (if_pos (by omega)) dX_sell_20 ?_
  refine zg_dup F rfl dX_sell_21 ?_
  refine zg_get F (fun _ _ h => zx_gp h (by omega)) rfl zi_P 3 (by decide) rfl zk_61 rfl dX_sell_22 ?_
  refine zg_lload F 0 rfl dX_sell_25 ?_
  refine zg_ladd F rfl dX_sell_27 ?_
  refine zg_put F (fun _ _ h => zx_gp h (by omega)) rfl zi_P zy_P zt_P zn_P 3 (by decide) rfl zk_61 rfl rfl rfl rfl (Nat.le_of_ble_eq_true rfl) (fun w z h => zx_pt (by omega) _ w z h) dX_sell_28 ?_
  refine zg_aload_n F 1 rfl rfl dX_sell_31 ?_
  refine zg_get F (fun _ _ h => zx_g0 h) rfl zi_X 7 (by decide) rfl zk_112 rfl dX_sell_32 ?_
  refine zg_eqi (hT1) ?_
  refine zg_istore F (by rw [hn]; decide) (L' := [(6, _), (4, _), (0, _), (1, _), (2, _), (3, _)]) rfl dX_sell_35 ?_
  refine zg_aload_n F 2 rfl rfl dX_sell_37 ?_
  refine zg_get F (fun _ _ h => zx_g0 h) rfl zi_X 6 (by decide) rfl zk_111 rfl dX_sell_38 ?_
  refine zg_iload F 0 rfl dX_sell_41 ?_
  refine zg_new F (P' := zx_P (zk_A K) x (zg_u v sz (.inr (3, [.int 0, .int 0, .null, .long 0, .int 0]))) (sz + 1) (zxT M (10 + 3 * port) ((M (10 + 3 * port)).2.1 + zx_sum τ f 16 * n.toInt64))) (ci := 3) (fs := [.int 0, .int 0, .null, .long 0, .int 0]) rfl zi_T zy_T zt_T zk_27 zk_321 zk_12 (fun j hj => by rcases (show j = 0 ∨ j = 1 ∨ j = 2 ∨ j = 3 ∨ j = 4 by omega) with rfl | rfl | rfl | rfl | rfl <;> rfl) (by decide) (by decide) (fun _ _ h => h.1) (fun w h _ => zx_P.nw (zx_out_ge hsz) w h) dX_sell_43 ?_
  refine zg_dup F rfl dX_sell_46 ?_
  refine zg_iload_n F 3 rfl rfl dX_sell_47 ?_
  refine zg_iload_n F 5 rfl rfl dX_sell_48 ?_
  refine zg_aload_n F 4 rfl rfl dX_sell_49 ?_
  refine zg_lload F 1 rfl dX_sell_50 ?_
  refine zg_callI F (zT_init _ _ _ _ (zx_P (zk_A K) x (zg_u v sz (.inr (3, [.int 0, .int 0, .null, .long 0, .int 0]))) (sz + 1) (zxT M (10 + 3 * port) ((M (10 + 3 * port)).2.1 + zx_sum τ f 16 * n.toInt64))) (zx_P (zk_A K) x (zg_u v sz (zx_to port j n (zx_sum τ f 16 * n.toInt64))) (sz + 1) (zxT M (10 + 3 * port) ((M (10 + 3 * port)).2.1 + zx_sum τ f 16 * n.toInt64))) sz (nI port) n j (zx_sum τ f 16 * n.toInt64) (fun w z h => ⟨h.1, by rw [zx_gv h (zx_out_ge hsz)]; exact zg_us _ _ _⟩) (fun w h => by
      have g := zx_P.dy (e := zx_to port j n (zx_sum τ f 16 * n.toInt64)) (zx_out_ge hsz) _ _ h
      rw [zg_uu] at g
      exact g)) zv_T_init zu_T_init zk_322 rfl ⟨by decide, by decide⟩ ⟨by decide, by decide⟩ rfl (Nat.le_of_ble_eq_true rfl) dX_sell_52 ?_
  refine zg_aast F (t0 := 5) (ci := 3) (r := (zR_T, zT_T, 5)) (fun _ _ h => zx_g7 h) rfl (fun _ _ h => (zx_gv h (zx_out_ge hsz)).trans (zg_us _ _ _)) rfl hT8 (by decide) (fun w z h => zx_w7 _ _ w z h) dX_sell_55 ?_
  refine zg_aload_n F 2 rfl rfl dX_sell_56 ?_
  refine zg_dup F rfl dX_sell_57 ?_
  refine zg_get F (fun _ _ h => zx_g0 h) rfl zi_X 7 (by decide) rfl zk_112 rfl dX_sell_58 ?_
  refine zg_eqi ((show (zxG (zxT M (10 + 3 * port) ((M (10 + 3 * port)).2.1 + zx_sum τ f 16 * n.toInt64)) 7 T sz 0).1 7 = nI T by rw [zxG_o (by decide)]; exact hT1)) ?_
  refine zg_iconst F (v := nI 1) (by decide) dX_sell_61 ?_
  refine zg_iadd F (by first | exact nI_add _ _ | rfl) dX_sell_62 ?_
  refine zg_put F (fun _ _ h => zx_g0 h) rfl zi_X zy_X zt_X zn_X 7 (by decide) rfl zk_112 rfl rfl rfl rfl (Nat.le_of_ble_eq_true rfl) (fun w z h => zx_p0 _ w z h) dX_sell_63 ?_
  refine zg_iload F 0 rfl dX_sell_66 ?_
  exact zg_iret F E (by decide) (by decide) (fun _ _ h => h) dX_sell_68
