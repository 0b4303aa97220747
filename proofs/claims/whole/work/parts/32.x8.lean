theorem zx_nj_o {A : Nat → ClassId} {v : zg_w} {j q : Nat} (h : q ≠ j ∧ q ≠ j + 1) : zx_nj A v j q = v q := by rw [zx_nj, zg_un h.1, zg_un h.2]
theorem zx_J.nj {A : Nat → ClassId} {x sz j : Nat} {v : zg_w} {f : Nat → Int32} {n : Int32} (h : zx_J A x v j f n) (hs : j + 1 < sz) : zx_J A x (zx_nj A v sz) j f n := h.kept (zx_nj_o (by omega)) (zx_nj_o (by omega))
set_option maxRecDepth 100000 in
set_option maxHeartbeats 4000000 in
theorem zX_buy0 (l : Launch) (D : va_G) (A : Nat → ClassId) (base : Nat) (x sz : Nat) (v : zg_w) (τ : zx_S) (port T : Nat) (n : Int32) (h0 : port < 4) (h1 : ¬ n < nI 1) (h2 : ¬ nI 100 < n) (hT8 : T < 80) (hT : (τ 0).1 7 = nI T) (f : Nat → Int32) (d : Nat) (hd : d ≤ 4) (hd0 : d ≠ 0) (hj : zx_J A x v (τ 0).2.2.2 f (nI d)) (hdr : (τ 0).2.2.2 + 1 < sz) (hsz : x + 70 ≤ sz) (h : zx_fit (zxD τ sz) port f n = 0) : zg_Met l zm_X_buy zc_X_buy 4 (some .int) 3 3 23 D A base [.ref x, .int (nI port), .int n] (zx_P A x v sz τ) (some (.int (-1))) (zx_P A x (zx_nj A v sz) (sz + 2) (zxD τ sz)) := by
  refine zg_met (by decide) (Nat.le_of_ble_eq_true rfl) ?_
  intro K hl0 hD0 hA0 hz0 hn hnm F E
  subst hl0 hD0 hA0 hz0
  show zg_G K (zx_P (zk_A K) x v sz τ) 0 0 0 [(0, .ref x), (1, .int (nI port)), (2, .int n)] []
  refine zg_iload_n F 1 rfl rfl dX_buy_0 ?_
  refine zg_callS F (zX_checkPort _ _ _ _ _ port h0) zv_X_checkPort zu_X_checkPort zk_291 rfl ⟨by decide, by decide⟩ ⟨by decide, by decide⟩ rfl (Nat.le_of_ble_eq_true rfl) dX_buy_1 ?_
  refine zg_iload_n F 2 rfl rfl dX_buy_4 ?_
  refine zg_callS F (zX_checkSeats _ _ _ _ _ n h1 h2) zv_X_checkSeats zu_X_checkSeats zk_214 rfl ⟨by decide, by decide⟩ ⟨by decide, by decide⟩ rfl (Nat.le_of_ble_eq_true rfl) dX_buy_5 ?_
  refine zg_aload_n F 0 rfl rfl dX_buy_8 ?_
  refine zg_callV F (zX_checkDraft _ _ _ _ x sz v τ f d hd hj hd0) zv_X_checkDraft zu_X_checkDraft zk_295 (fun _ _ h => zx_g0 h) rfl rfl ⟨by decide, by decide⟩ ⟨by decide, by decide⟩ rfl (Nat.le_of_ble_eq_true rfl) dX_buy_9 ?_
  refine zg_aload_n F 0 rfl rfl dX_buy_12 ?_
  refine zg_get F (fun _ _ h => zx_g0 h) rfl zi_X 7 (by decide) rfl zk_112 rfl dX_buy_13 ?_
  refine zg_eqi (hT) ?_
  refine zg_bipush F (v := nI 80) (by decide) dX_buy_16 ?_
  refine zg_icmp_neT F (tgt := 31) dX_buy_18 (by decide) (fun q => by have g := (nI_eq (by omega) (by omega)).mp q; omega) ?_
  refine zg_aload_n F 0 rfl rfl dX_buy_31 ?_
  refine zg_callV F (zX_takeDraft _ _ _ _ x sz v τ hsz) zv_X_takeDraft zu_X_takeDraft zk_301 (fun _ _ h => zx_g0 h) rfl rfl ⟨by decide, by decide⟩ ⟨by decide, by decide⟩ rfl (Nat.le_of_ble_eq_true rfl) dX_buy_32 ?_
  have hj1 := hj.nj hdr
  refine zg_astore_n F rfl (by rw [hn]; decide) (L' := [(3, _), (0, _), (1, _), (2, _)]) rfl dX_buy_35 ?_
  refine zg_aload_n F 1 rfl rfl dX_buy_36 ?_
  refine zg_get F (fun _ _ h => zx_g0 h) rfl zi_X 4 (by decide) rfl zk_109 rfl dX_buy_37 ?_
  refine zg_iload_n F 2 rfl rfl dX_buy_40 ?_
  refine zg_aald F (t0 := 3) (C := "IslandRights$Port") (fun _ _ h => zx_g5 h) rfl (by show _ < 4; omega) (by decide) (if_pos (by omega)) dX_buy_41 ?_
  refine zg_aload_n F 0 rfl rfl dX_buy_42 ?_
  refine zg_iload_n F 3 rfl rfl dX_buy_43 ?_
  refine zg_callV F (zP_fits _ _ _ _ x (sz + 2) (zx_nj (zk_A K) v sz) (zxD τ sz) port h0 (τ 0).2.2.2 f (nI d) n hj1) zv_P_fits zu_P_fits zk_305 (fun _ _ h => zx_gp h (by omega)) rfl rfl ⟨by decide, by decide⟩ ⟨by decide, by decide⟩ rfl (Nat.le_of_ble_eq_true rfl) dX_buy_44 ?_
  refine zg_if_eqT F (tgt := 60) dX_buy_47 (by decide) (h) ?_
  refine zg_iconst F (v := -1) (by decide) dX_buy_60 ?_
  exact zg_iret F E (by decide) (by decide) (fun _ _ h => h) dX_buy_61
set_option maxRecDepth 100000 in
set_option maxHeartbeats 4000000 in
theorem zX_buy (l : Launch) (D : va_G) (A : Nat → ClassId) (base : Nat) (x sz : Nat) (v : zg_w) (τ : zx_S) (port T : Nat) (n : Int32) (h0 : port < 4) (h1 : ¬ n < nI 1) (h2 : ¬ nI 100 < n) (hT8 : T < 80) (hT : (τ 0).1 7 = nI T) (f : Nat → Int32) (d : Nat) (hd : d ≤ 4) (hd0 : d ≠ 0) (hj : zx_J A x v (τ 0).2.2.2 f (nI d)) (hdr : (τ 0).2.2.2 + 1 < sz) (hsz : x + 70 ≤ sz) (h : ¬ zx_fit (zxD τ sz) port f n = 0) : zg_Met l zm_X_buy zc_X_buy 4 (some .int) 3 3 23 D A base [.ref x, .int (nI port), .int n] (zx_P A x v sz τ) (some (.int (nI T))) (zx_P A x (zg_u (zx_nj A v sz) (sz + 2) (zx_to port (τ 0).2.2.2 n (zx_sum (zxD τ sz) f 16 * n.toInt64))) (sz + 3) (zx_sel (zxD τ sz) port f n T (sz + 2))) := by
  refine zg_met (by decide) (Nat.le_of_ble_eq_true rfl) ?_
  intro K hl0 hD0 hA0 hz0 hn hnm F E
  subst hl0 hD0 hA0 hz0
  show zg_G K (zx_P (zk_A K) x v sz τ) 0 0 0 [(0, .ref x), (1, .int (nI port)), (2, .int n)] []
  refine zg_iload_n F 1 rfl rfl dX_buy_0 ?_
  refine zg_callS F (zX_checkPort _ _ _ _ _ port h0) zv_X_checkPort zu_X_checkPort zk_291 rfl ⟨by decide, by decide⟩ ⟨by decide, by decide⟩ rfl (Nat.le_of_ble_eq_true rfl) dX_buy_1 ?_
  refine zg_iload_n F 2 rfl rfl dX_buy_4 ?_
  refine zg_callS F (zX_checkSeats _ _ _ _ _ n h1 h2) zv_X_checkSeats zu_X_checkSeats zk_214 rfl ⟨by decide, by decide⟩ ⟨by decide, by decide⟩ rfl (Nat.le_of_ble_eq_true rfl) dX_buy_5 ?_
  refine zg_aload_n F 0 rfl rfl dX_buy_8 ?_
  refine zg_callV F (zX_checkDraft _ _ _ _ x sz v τ f d hd hj hd0) zv_X_checkDraft zu_X_checkDraft zk_295 (fun _ _ h => zx_g0 h) rfl rfl ⟨by decide, by decide⟩ ⟨by decide, by decide⟩ rfl (Nat.le_of_ble_eq_true rfl) dX_buy_9 ?_
  refine zg_aload_n F 0 rfl rfl dX_buy_12 ?_
  refine zg_get F (fun _ _ h => zx_g0 h) rfl zi_X 7 (by decide) rfl zk_112 rfl dX_buy_13 ?_
  refine zg_eqi (hT) ?_
  refine zg_bipush F (v := nI 80) (by decide) dX_buy_16 ?_
  refine zg_icmp_neT F (tgt := 31) dX_buy_18 (by decide) (fun q => by have g := (nI_eq (by omega) (by omega)).mp q; omega) ?_
  refine zg_aload_n F 0 rfl rfl dX_buy_31 ?_
  refine zg_callV F (zX_takeDraft _ _ _ _ x sz v τ hsz) zv_X_takeDraft zu_X_takeDraft zk_301 (fun _ _ h => zx_g0 h) rfl rfl ⟨by decide, by decide⟩ ⟨by decide, by decide⟩ rfl (Nat.le_of_ble_eq_true rfl) dX_buy_32 ?_
  have hj1 := hj.nj hdr
  refine zg_astore_n F rfl (by rw [hn]; decide) (L' := [(3, _), (0, _), (1, _), (2, _)]) rfl dX_buy_35 ?_
  refine zg_aload_n F 1 rfl rfl dX_buy_36 ?_
  refine zg_get F (fun _ _ h => zx_g0 h) rfl zi_X 4 (by decide) rfl zk_109 rfl dX_buy_37 ?_
  refine zg_iload_n F 2 rfl rfl dX_buy_40 ?_
  refine zg_aald F (t0 := 3) (C := "IslandRights$Port") (fun _ _ h => zx_g5 h) rfl (by show _ < 4; omega) (by decide) (if_pos (by omega)) dX_buy_41 ?_
  refine zg_aload_n F 0 rfl rfl dX_buy_42 ?_
  refine zg_iload_n F 3 rfl rfl dX_buy_43 ?_
  refine zg_callV F (zP_fits _ _ _ _ x (sz + 2) (zx_nj (zk_A K) v sz) (zxD τ sz) port h0 (τ 0).2.2.2 f (nI d) n hj1) zv_P_fits zu_P_fits zk_305 (fun _ _ h => zx_gp h (by omega)) rfl rfl ⟨by decide, by decide⟩ ⟨by decide, by decide⟩ rfl (Nat.le_of_ble_eq_true rfl) dX_buy_44 ?_
  refine zg_if_eqF F dX_buy_47 (tgt := 60) (by decide) (h) ?_
  refine zg_aload_n F 1 rfl rfl dX_buy_50 ?_
  refine zg_iload_n F 2 rfl rfl dX_buy_51 ?_
  refine zg_aload_n F 0 rfl rfl dX_buy_52 ?_
  refine zg_iload_n F 3 rfl rfl dX_buy_53 ?_
  refine zg_callV F (zX_sell _ _ _ _ x (sz + 2) (zx_nj (zk_A K) v sz) (zxD τ sz) port T h0 hT8 hT (by omega) (τ 0).2.2.2 f (nI d) n hj1) zv_X_sell zu_X_sell zk_309 (fun _ _ h => zx_g0 h) rfl rfl ⟨by decide, by decide⟩ ⟨by decide, by decide⟩ rfl (Nat.le_of_ble_eq_true rfl) dX_buy_54 ?_
  refine zg_goto F (tgt := 61) dX_buy_57 (by decide) ?_
  exact zg_iret F E (by decide) (by decide) (fun _ _ h => h) dX_buy_61
def zx_wsh (τ : zx_S) (port k sz : Nat) : zx_S := zxI (zxG (zxD τ sz) (10 + 3 * port + 2) k (sz + 2)) (10 + 3 * port) 2 (nI (k + 1))
def zx_wv (A : Nat → ClassId) (τ : zx_S) (v : zg_w) (sz : Nat) (n : Int32) : zg_w := zg_u (zx_nj A v sz) (sz + 2) (.inr (4, [.ref (τ 0).2.2.2, .int n]))
set_option maxRecDepth 100000 in
set_option maxHeartbeats 4000000 in
theorem zX_wish (l : Launch) (D : va_G) (A : Nat → ClassId) (base : Nat) (x sz : Nat) (v : zg_w) (τ : zx_S) (port T k : Nat) (n : Int32) (h0 : port < 4) (h1 : ¬ n < nI 1) (h2 : ¬ nI 100 < n) (hT8 : T ≤ 80) (hT : (τ 0).1 7 = nI T) (hk : k < 6) (hw : (τ (10 + 3 * port)).1 2 = nI k) (f : Nat → Int32) (d : Nat) (hd : d ≤ 4) (hd0 : d ≠ 0) (hj : zx_J A x v (τ 0).2.2.2 f (nI d)) (hdr : (τ 0).2.2.2 + 1 < sz) (hsz : x + 70 ≤ sz) (Q J : Nat → Nat) (Fm : Nat → Nat → Int32) (Pn Nn : Nat → Int32) (hr : ∀ i, i < k + 1 → (zx_wsh τ port k sz (10 + 3 * port + 2)).2.2.1 i = some (Q i)) (hW : ∀ i, i < k + 1 → zx_W A x (zx_wv A τ v sz n) (sz + 3) (Q i) (J i) (Fm i) (Pn i) (Nn i)) : zg_Met l zm_X_wish zc_X_wish 3 (some .int) 4 9 50 D A base [.ref x, .int (nI port), .int n] (zx_P A x v sz τ) (some (.int (nI (k + 1 - (zx_sv A (zx_wsh τ port k sz) (zx_wv A τ v sz n) port T (sz + 3) Q J Fm Nn (k + 1)).2.1)))) (zx_P A x (zx_sv A (zx_wsh τ port k sz) (zx_wv A τ v sz n) port T (sz + 3) Q J Fm Nn (k + 1)).2.2 (sz + 3 + (k + 1 - (zx_sv A (zx_wsh τ port k sz) (zx_wv A τ v sz n) port T (sz + 3) Q J Fm Nn (k + 1)).2.1)) (zxI (zx_sv A (zx_wsh τ port k sz) (zx_wv A τ v sz n) port T (sz + 3) Q J Fm Nn (k + 1)).1 (10 + 3 * port) 2 (nI (zx_sv A (zx_wsh τ port k sz) (zx_wv A τ v sz n) port T (sz + 3) Q J Fm Nn (k + 1)).2.1))) := by
  refine zg_met (by decide) (Nat.le_of_ble_eq_true rfl) ?_
  intro K hl0 hD0 hA0 hz0 hn hnm F E
  subst hl0 hD0 hA0 hz0
  show zg_G K (zx_P (zk_A K) x v sz τ) 0 0 0 [(0, .ref x), (1, .int (nI port)), (2, .int n)] []
  refine zg_iload_n F 1 rfl rfl dX_wish_0 ?_
  refine zg_callS F (zX_checkPort _ _ _ _ _ port h0) zv_X_checkPort zu_X_checkPort zk_291 rfl ⟨by decide, by decide⟩ ⟨by decide, by decide⟩ rfl (Nat.le_of_ble_eq_true rfl) dX_wish_1 ?_
  refine zg_iload_n F 2 rfl rfl dX_wish_4 ?_
  refine zg_callS F (zX_checkSeats _ _ _ _ _ n h1 h2) zv_X_checkSeats zu_X_checkSeats zk_214 rfl ⟨by decide, by decide⟩ ⟨by decide, by decide⟩ rfl (Nat.le_of_ble_eq_true rfl) dX_wish_5 ?_
  refine zg_aload_n F 0 rfl rfl dX_wish_8 ?_
  refine zg_callV F (zX_checkDraft _ _ _ _ x sz v τ f d hd hj hd0) zv_X_checkDraft zu_X_checkDraft zk_295 (fun _ _ h => zx_g0 h) rfl rfl ⟨by decide, by decide⟩ ⟨by decide, by decide⟩ rfl (Nat.le_of_ble_eq_true rfl) dX_wish_9 ?_
  refine zg_aload_n F 0 rfl rfl dX_wish_12 ?_
  refine zg_get F (fun _ _ h => zx_g0 h) rfl zi_X 4 (by decide) rfl zk_109 rfl dX_wish_13 ?_
  refine zg_iload_n F 1 rfl rfl dX_wish_16 ?_
  refine zg_aald F (t0 := 3) (C := "IslandRights$Port") (fun _ _ h => zx_g5 h) rfl (by show _ < 4; omega) (by decide) (if_pos (by omega)) dX_wish_17 ?_
  refine zg_get F (fun _ _ h => zx_gp h (by omega)) rfl zi_P 2 (by decide) rfl zk_59 rfl dX_wish_18 ?_
  refine zg_eqi (hw) ?_
  refine zg_bipush F (v := nI 6) (by decide) dX_wish_21 ?_
  refine zg_icmp_neT F (tgt := 36) dX_wish_23 (by decide) (fun q => by have g := (nI_eq (by omega) (by omega)).mp q; omega) ?_
  refine zg_aload_n F 0 rfl rfl dX_wish_36 ?_
  refine zg_get F (fun _ _ h => zx_g0 h) rfl zi_X 4 (by decide) rfl zk_109 rfl dX_wish_37 ?_
  refine zg_iload_n F 1 rfl rfl dX_wish_40 ?_
  refine zg_aald F (t0 := 3) (C := "IslandRights$Port") (fun _ _ h => zx_g5 h) rfl (by show _ < 4; omega) (by decide) (if_pos (by omega)) dX_wish_41 ?_
  refine zg_aload_n F 0 rfl rfl dX_wish_42 ?_
  refine zg_callV F (zX_takeDraft _ _ _ _ x sz v τ hsz) zv_X_takeDraft zu_X_takeDraft zk_301 (fun _ _ h => zx_g0 h) rfl rfl ⟨by decide, by decide⟩ ⟨by decide, by decide⟩ rfl (Nat.le_of_ble_eq_true rfl) dX_wish_43 ?_
  refine zg_iload_n F 2 rfl rfl dX_wish_46 ?_
  have hw1 : (zxD τ sz (10 + 3 * port)).1 2 = nI k := by rw [zxD_o (by omega)]; exact hw
  refine zg_callV F (zP_addWish _ _ _ _ x (sz + 2) (zx_nj (zk_A K) v sz) (zxD τ sz) port k (τ 0).2.2.2 n h0 hk hw1 (by omega)) zv_P_addWish zu_P_addWish zk_355 (fun _ _ h => zx_gp h (by omega)) rfl rfl ⟨by decide, by decide⟩ ⟨by decide, by decide⟩ rfl (Nat.le_of_ble_eq_true rfl) dX_wish_47 ?_
  refine zg_aload_n F 0 rfl rfl dX_wish_50 ?_
  refine zg_iload_n F 1 rfl rfl dX_wish_51 ?_
  have s1 : (zx_wsh τ port k sz (10 + 3 * port)).1 2 = nI (k + 1) := by unfold zx_wsh; exact zxI_s
  have s2 : (zx_wsh τ port k sz 0).1 7 = nI T := by unfold zx_wsh; rw [zxI_o (by omega), zxG_o (by omega)]; exact hT
  refine zg_callV F (zX_serve _ _ _ _ x (sz + 3) (zx_wv (zk_A K) τ v sz n) (zx_wsh τ port k sz) port (k + 1) T h0 (by omega) s1 s2 hT8 (by omega) Q J Fm Pn Nn hr hW) zv_X_serve zu_X_serve zk_373 (fun _ _ h => zx_g0 h) rfl rfl ⟨by decide, by decide⟩ ⟨by decide, by decide⟩ rfl (Nat.le_of_ble_eq_true rfl) dX_wish_52 ?_
  exact zg_iret F E (by decide) (by decide) (fun _ _ h => h) dX_wish_55
def zx_cnc (τ : zx_S) (port : Nat) (f : Nat → Int32) (n : Int32) (c : Int64) : zx_S := zxT (zx_mov τ port f (-n) 16) (10 + 3 * port) ((zx_mov τ port f (-n) 16 (10 + 3 * port)).2.1 - c)
def zx_cv (v : zg_w) (q port j : Nat) (n : Int32) (c : Int64) : zg_w := zg_u v q (.inr (3, [.int (nI port), .int n, .ref j, .long c, .int (nI 1)]))
theorem zx_cnc_o {τ : zx_S} {port q : Nat} {f : Nat → Int32} {n : Int32} {c : Int64} (h : q ≠ 10 + 3 * port + 1 ∧ q ≠ 3 ∧ q ≠ 10 + 3 * port) : zx_cnc τ port f n c q = τ q := by rw [zx_cnc, zxT_o h.2.2, zx_mov_o ⟨h.1, h.2.1⟩]
set_option maxRecDepth 100000 in
set_option maxHeartbeats 4000000 in
theorem zX_cancel (l : Launch) (D : va_G) (A : Nat → ClassId) (base : Nat) (x sz : Nat) (v : zg_w) (τ : zx_S) (t T q : Nat) (ht : t < T) (hT8 : T ≤ 80) (hT : (τ 0).1 7 = nI T) (hq : (τ 7).2.2.1 t = some q) (port asked j : Nat) (n : Int32) (c : Int64) (f : Nat → Int32) (pn : Int32) (h0 : port < 4) (ha : asked ≤ 6) (hw : (τ (10 + 3 * port)).1 2 = nI asked) (hk : zx_K A x v q (nI port) n j c 0) (hj : zx_J A x v j f pn) (hqj : q ≠ j ∧ q ≠ j + 1) (hsz : x + 70 ≤ sz) (Q J : Nat → Nat) (Fm : Nat → Nat → Int32) (Pn Nn : Nat → Int32) (hr : ∀ i, i < asked → (τ (10 + 3 * port + 2)).2.2.1 i = some (Q i)) (hW : ∀ i, i < asked → zx_W A x (zx_cv v q port j n c) sz (Q i) (J i) (Fm i) (Pn i) (Nn i)) : zg_Met l zm_X_cancel zc_X_cancel 3 (some .int) 4 6 30 D A base [.ref x, .int (nI t)] (zx_P A x v sz τ) (some (.int (nI (asked - (zx_sv A (zx_cnc τ port f n c) (zx_cv v q port j n c) port T sz Q J Fm Nn asked).2.1)))) (zx_P A x (zx_sv A (zx_cnc τ port f n c) (zx_cv v q port j n c) port T sz Q J Fm Nn asked).2.2 (sz + (asked - (zx_sv A (zx_cnc τ port f n c) (zx_cv v q port j n c) port T sz Q J Fm Nn asked).2.1)) (zxI (zx_sv A (zx_cnc τ port f n c) (zx_cv v q port j n c) port T sz Q J Fm Nn asked).1 (10 + 3 * port) 2 (nI (zx_sv A (zx_cnc τ port f n c) (zx_cv v q port j n c) port T sz Q J Fm Nn asked).2.1))) := by
  refine zg_met (by decide) (Nat.le_of_ble_eq_true rfl) ?_
  intro K hl0 hD0 hA0 hz0 hn hnm F E
  subst hl0 hD0 hA0 hz0
  show zg_G K (zx_P (zk_A K) x v sz τ) 0 0 0 [(0, .ref x), (1, .int (nI t))] []
  refine zg_aload_n F 0 rfl rfl dX_cancel_0 ?_
  refine zg_iload_n F 1 rfl rfl dX_cancel_1 ?_
  refine zg_callV F (zX_checkTicket _ _ _ _ x sz v τ t T ht hT8 hT) zv_X_checkTicket zu_X_checkTicket zk_384 (fun _ _ h => zx_g0 h) rfl rfl ⟨by decide, by decide⟩ ⟨by decide, by decide⟩ rfl (Nat.le_of_ble_eq_true rfl) dX_cancel_2 ?_
  refine zg_aload_n F 0 rfl rfl dX_cancel_5 ?_
  refine zg_get F (fun _ _ h => zx_g0 h) rfl zi_X 6 (by decide) rfl zk_111 rfl dX_cancel_6 ?_
  refine zg_iload_n F 1 rfl rfl dX_cancel_9 ?_
  refine zg_aald F (t0 := 5) (C := "IslandRights$Ticket") (fun _ _ h => zx_g7 h) rfl (by show _ < 80; omega) (by decide) hq dX_cancel_10 ?_
  refine zg_astore_n F rfl (by rw [hn]; decide) (L' := [(2, _), (0, _), (1, _)]) rfl dX_cancel_11 ?_
  refine zg_aload_n F 0 rfl rfl dX_cancel_12 ?_
  refine zg_get F (fun _ _ h => zx_K1 hk h) rfl zi_T 4 (by decide) rfl zk_335 rfl dX_cancel_13 ?_
  refine zg_if_eqT F (tgt := 29) dX_cancel_16 (by decide) (rfl) ?_
  refine zg_aload_n F 0 rfl rfl dX_cancel_29 ?_
  refine zg_iconst F (v := nI 1) (by decide) dX_cancel_30 ?_
  refine zg_put F (P' := zx_P (zk_A K) x (zx_cv v q port j n c) sz τ) (fun _ _ h => zx_K1 hk h) rfl zi_T zy_T zt_T zn_T 4 (by decide) rfl zk_335 rfl rfl rfl rfl (Nat.le_of_ble_eq_true rfl) (fun w z h => zx_P.dy hk.1 w z h) dX_cancel_31 ?_
  have hk1 : zx_K (zk_A K) x (zx_cv v q port j n c) q (nI port) n j c (nI 1) := ⟨hk.1, zg_us _ _ _⟩
  have hj1 : zx_J (zk_A K) x (zx_cv v q port j n c) j f pn := hj.kept (zg_un (fun e => hqj.1 e.symm)) (zg_un (fun e => hqj.2 e.symm))
  refine zg_aload_n F 1 rfl rfl dX_cancel_34 ?_
  refine zg_aload_n F 0 rfl rfl dX_cancel_35 ?_
  refine zg_get F (fun _ _ h => zx_K1 hk1 h) rfl zi_T 0 (by decide) rfl zk_327 rfl dX_cancel_36 ?_
  refine zg_aload_n F 0 rfl rfl dX_cancel_39 ?_
  refine zg_get F (fun _ _ h => zx_K1 hk1 h) rfl zi_T 2 (by decide) rfl zk_331 rfl dX_cancel_40 ?_
  refine zg_aload_n F 0 rfl rfl dX_cancel_43 ?_
  refine zg_get F (fun _ _ h => zx_K1 hk1 h) rfl zi_T 1 (by decide) rfl zk_329 rfl dX_cancel_44 ?_
  refine zg_ineg F rfl dX_cancel_47 ?_
  refine zg_callV F (zX_moveToSold _ _ _ _ x sz (zx_cv v q port j n c) τ port h0 j f pn (-n) hj1) zv_X_moveToSold zu_X_moveToSold zk_317 (fun _ _ h => zx_g0 h) rfl rfl ⟨by decide, by decide⟩ ⟨by decide, by decide⟩ rfl (Nat.le_of_ble_eq_true rfl) dX_cancel_48 ?_
  refine zg_aload_n F 1 rfl rfl dX_cancel_51 ?_
  refine zg_get F (fun _ _ h => zx_g0 h) rfl zi_X 4 (by decide) rfl zk_109 rfl dX_cancel_52 ?_
  refine zg_aload_n F 0 rfl rfl dX_cancel_55 ?_
  refine zg_get F (fun _ _ h => zx_K1 hk1 h) rfl zi_T 0 (by decide) rfl zk_327 rfl dX_cancel_56 ?_
  refine zg_aald F (t0 := 3) (C := "IslandRights$Port") (fun _ _ h => zx_g5 h) rfl (by show _ < 4; omega) (by decide) (if_pos (by omega)) dX_cancel_59 ?_
  refine zg_dup F rfl dX_cancel_60 ?_
  refine zg_get F (fun _ _ h => zx_gp h (by omega)) rfl zi_P 3 (by decide) rfl zk_61 rfl dX_cancel_61 ?_
  refine zg_aload_n F 0 rfl rfl dX_cancel_64 ?_
  refine zg_get F (fun _ _ h => zx_K1 hk1 h) rfl zi_T 3 (by decide) rfl zk_333 rfl dX_cancel_65 ?_
  refine zg_lsub F rfl dX_cancel_68 ?_
  refine zg_put F (fun _ _ h => zx_gp h (by omega)) rfl zi_P zy_P zt_P zn_P 3 (by decide) rfl zk_61 rfl rfl rfl rfl (Nat.le_of_ble_eq_true rfl) (fun w z h => zx_pt (by omega) _ w z h) dX_cancel_69 ?_
  refine zg_aload_n F 1 rfl rfl dX_cancel_72 ?_
  refine zg_aload_n F 0 rfl rfl dX_cancel_73 ?_
  refine zg_get F (fun _ _ h => zx_K1 hk1 h) rfl zi_T 0 (by decide) rfl zk_327 rfl dX_cancel_74 ?_
  have e1 : ∀ q, (q ≠ 10 + 3 * port + 1 ∧ q ≠ 3 ∧ q ≠ 10 + 3 * port) → zx_cnc τ port f n c q = τ q := fun q hq => zx_cnc_o hq
  have s1 : (zx_cnc τ port f n c (10 + 3 * port)).1 2 = nI asked := by show (zxT _ _ _ _).1 2 = _; simp only [zxT, zx_up, if_pos]; rw [zx_mov_o (by omega)]; exact hw
  refine zg_callV F (zX_serve _ _ _ _ x sz (zx_cv v q port j n c) (zx_cnc τ port f n c) port asked T h0 ha s1 (by rw [e1 _ (by omega)]; exact hT) hT8 hsz Q J Fm Pn Nn (fun k hk => by rw [e1 _ (by omega)]; exact hr k hk) hW) zv_X_serve zu_X_serve zk_373 (fun _ _ h => zx_g0 h) rfl rfl ⟨by decide, by decide⟩ ⟨by decide, by decide⟩ rfl (Nat.le_of_ble_eq_true rfl) dX_cancel_77 ?_
  exact zg_iret F E (by decide) (by decide) (fun _ _ h => h) dX_cancel_80
set_option maxRecDepth 100000 in
set_option maxHeartbeats 4000000 in
theorem zX_arrive0 (l : Launch) (D : va_G) (A : Nat → ClassId) (base : Nat) (x sz : Nat) (v : zg_w) (τ : zx_S) (a b : Nat) (ha : a < 4) (hb : b < 4) (hn0 : a ≠ b) (h : (τ (22 + 3 * (a * 4 + b))).1 5 = 0) : zg_Met l zm_X_arrive zc_X_arrive 6 (some .int) 2 0 0 D A base [.ref x, .int (nI a), .int (nI b)] (zx_P A x v sz τ) (some (.int (-1))) (zx_P A x v sz τ) := by
  refine zg_met (by decide) (Nat.le_of_ble_eq_true rfl) ?_
  intro K hl0 hD0 hA0 hz0 hn hnm F E
  subst hl0 hD0 hA0 hz0
  show zg_G K (zx_P (zk_A K) x v sz τ) 0 0 0 [(0, .ref x), (1, .int (nI a)), (2, .int (nI b))] []
  refine zg_iload_n F 1 rfl rfl dX_arrive_0 ?_
  refine zg_iload_n F 2 rfl rfl dX_arrive_1 ?_
  refine zg_callS F (zX_checkTwoPorts _ _ _ _ _ a b ha hb hn0) zv_X_checkTwoPorts zu_X_checkTwoPorts zk_453 rfl ⟨by decide, by decide⟩ ⟨by decide, by decide⟩ rfl (Nat.le_of_ble_eq_true rfl) dX_arrive_2 ?_
  refine zg_aload_n F 0 rfl rfl dX_arrive_5 ?_
  refine zg_iload_n F 1 rfl rfl dX_arrive_6 ?_
  refine zg_iload_n F 2 rfl rfl dX_arrive_7 ?_
  refine zg_callV F (zX_laneOf _ _ _ _ x sz v τ a b ha hb) zv_X_laneOf zu_X_laneOf zk_416 (fun _ _ h => zx_g0 h) rfl rfl ⟨by decide, by decide⟩ ⟨by decide, by decide⟩ rfl (Nat.le_of_ble_eq_true rfl) dX_arrive_8 ?_
  refine zg_astore_n F rfl (by rw [hn]; decide) (L' := [(3, _), (0, _), (1, _), (2, _)]) rfl dX_arrive_11 ?_
  refine zg_aload_n F 0 rfl rfl dX_arrive_12 ?_
  refine zg_get F (fun _ _ h => zx_gl h (by omega)) rfl zi_N 5 (by decide) rfl zk_87 rfl dX_arrive_13 ?_
  refine zg_if_neF F dX_arrive_16 (tgt := 21) (by decide) (h) ?_
  refine zg_iconst F (v := -1) (by decide) dX_arrive_19 ?_
  exact zg_iret F E (by decide) (by decide) (fun _ _ h => h) dX_arrive_20
set_option maxRecDepth 100000 in
set_option maxHeartbeats 4000000 in
theorem zX_arrive1 (l : Launch) (D : va_G) (A : Nat → ClassId) (base : Nat) (x sz : Nat) (v : zg_w) (τ : zx_S) (a b : Nat) (ha : a < 4) (hb : b < 4) (hn0 : a ≠ b) (h : ¬ (τ (22 + 3 * (a * 4 + b))).1 5 = 0) (h2 : ¬ (τ (22 + 3 * (a * 4 + b))).1 5 = (τ (22 + 3 * (a * 4 + b))).1 4 + nI 1) : zg_Met l zm_X_arrive zc_X_arrive 6 (some .int) 2 0 0 D A base [.ref x, .int (nI a), .int (nI b)] (zx_P A x v sz τ) (some (.int (nI 0))) (zx_P A x v sz (zxI (zxI τ (22 + 3 * (a * 4 + b)) 5 (nI 0)) (22 + 3 * (a * 4 + b)) 6 ((zxI τ (22 + 3 * (a * 4 + b)) 5 (nI 0) (22 + 3 * (a * 4 + b))).1 4))) := by
  refine zg_met (by decide) (Nat.le_of_ble_eq_true rfl) ?_
  intro K hl0 hD0 hA0 hz0 hn hnm F E
  subst hl0 hD0 hA0 hz0
  show zg_G K (zx_P (zk_A K) x v sz τ) 0 0 0 [(0, .ref x), (1, .int (nI a)), (2, .int (nI b))] []
  refine zg_iload_n F 1 rfl rfl dX_arrive_0 ?_
  refine zg_iload_n F 2 rfl rfl dX_arrive_1 ?_
  refine zg_callS F (zX_checkTwoPorts _ _ _ _ _ a b ha hb hn0) zv_X_checkTwoPorts zu_X_checkTwoPorts zk_453 rfl ⟨by decide, by decide⟩ ⟨by decide, by decide⟩ rfl (Nat.le_of_ble_eq_true rfl) dX_arrive_2 ?_
  refine zg_aload_n F 0 rfl rfl dX_arrive_5 ?_
  refine zg_iload_n F 1 rfl rfl dX_arrive_6 ?_
  refine zg_iload_n F 2 rfl rfl dX_arrive_7 ?_
  refine zg_callV F (zX_laneOf _ _ _ _ x sz v τ a b ha hb) zv_X_laneOf zu_X_laneOf zk_416 (fun _ _ h => zx_g0 h) rfl rfl ⟨by decide, by decide⟩ ⟨by decide, by decide⟩ rfl (Nat.le_of_ble_eq_true rfl) dX_arrive_8 ?_
  refine zg_astore_n F rfl (by rw [hn]; decide) (L' := [(3, _), (0, _), (1, _), (2, _)]) rfl dX_arrive_11 ?_
  refine zg_aload_n F 0 rfl rfl dX_arrive_12 ?_
  refine zg_get F (fun _ _ h => zx_gl h (by omega)) rfl zi_N 5 (by decide) rfl zk_87 rfl dX_arrive_13 ?_
  refine zg_if_neT F (tgt := 21) dX_arrive_16 (by decide) (h) ?_
  refine zg_aload_n F 0 rfl rfl dX_arrive_21 ?_
  refine zg_get F (fun _ _ h => zx_gl h (by omega)) rfl zi_N 5 (by decide) rfl zk_87 rfl dX_arrive_22 ?_
  refine zg_aload_n F 0 rfl rfl dX_arrive_25 ?_
  refine zg_get F (fun _ _ h => zx_gl h (by omega)) rfl zi_N 4 (by decide) rfl zk_85 rfl dX_arrive_26 ?_
  refine zg_iconst F (v := nI 1) (by decide) dX_arrive_29 ?_
  refine zg_iadd F rfl dX_arrive_30 ?_
  refine zg_icmp_neT F (tgt := 38) dX_arrive_31 (by decide) (h2) ?_
  refine zg_iconst F (v := nI 0) (by decide) dX_arrive_38 ?_
  refine zg_istore F (by rw [hn]; decide) (L' := [(4, _), (3, _), (0, _), (1, _), (2, _)]) rfl dX_arrive_39 ?_
  refine zg_aload_n F 1 rfl rfl dX_arrive_41 ?_
  refine zg_iconst F (v := nI 0) (by decide) dX_arrive_42 ?_
  refine zg_put F (fun _ _ h => zx_gl h (by omega)) rfl zi_N zy_N zt_N zn_N 5 (by decide) rfl zk_87 rfl rfl rfl rfl (Nat.le_of_ble_eq_true rfl) (fun w z h => zx_pl (by omega) 5 (by decide) _ w z h) dX_arrive_43 ?_
  refine zg_iload F 0 rfl dX_arrive_46 ?_
  refine zg_if_eqT F (tgt := 60) dX_arrive_48 (by decide) (rfl) ?_
  refine zg_iconst F (v := nI 0) (by decide) dX_arrive_60 ?_
  refine zg_istore F (by rw [hn]; decide) (L' := [(5, _), (4, _), (3, _), (0, _), (1, _), (2, _)]) rfl dX_arrive_61 ?_
  refine zg_aload_n F 2 rfl rfl dX_arrive_63 ?_
  refine zg_aload_n F 2 rfl rfl dX_arrive_64 ?_
  refine zg_get F (fun _ _ h => zx_gl h (by omega)) rfl zi_N 4 (by decide) rfl zk_85 rfl dX_arrive_65 ?_
  refine zg_put F (fun _ _ h => zx_gl h (by omega)) rfl zi_N zy_N zt_N zn_N 6 (by decide) rfl zk_89 rfl rfl rfl rfl (Nat.le_of_ble_eq_true rfl) (fun w z h => zx_pl (by omega) 6 (by decide) _ w z h) dX_arrive_68 ?_
  refine zg_iload F 0 rfl dX_arrive_71 ?_
  exact zg_iret F E (by decide) (by decide) (fun _ _ h => h) dX_arrive_73
set_option maxRecDepth 100000 in
set_option maxHeartbeats 4000000 in
theorem zX_arrive (l : Launch) (D : va_G) (A : Nat → ClassId) (base : Nat) (x sz : Nat) (v : zg_w) (τ : zx_S) (a b : Nat) (ha : a < 4) (hb : b < 4) (hn0 : a ≠ b) (t place asked T : Nat) (n : Int32) (h : ¬ (τ (22 + 3 * (a * 4 + b))).1 5 = 0) (h2 : (τ (22 + 3 * (a * 4 + b))).1 5 = (τ (22 + 3 * (a * 4 + b))).1 4 + nI 1) (hpl : place < 16) (ht : (τ (22 + 3 * (a * 4 + b))).1 4 = nI t) (hts : t + 1 < 2 ^ 31) (hpe : (τ ((22 + 3 * (a * 4 + b)) + 1)).1 ((t + 1) % 8) = nI place) (hne : (τ ((22 + 3 * (a * 4 + b)) + 2)).1 ((t + 1) % 8) = n) (has : asked ≤ 6) (hw : (τ (10 + 3 * b)).1 2 = nI asked) (hT : (τ 0).1 7 = nI T) (hT8 : T ≤ 80) (hsz : x + 70 ≤ sz) (Q J : Nat → Nat) (Fm : Nat → Nat → Int32) (Pn Nn : Nat → Int32) (hr : ∀ i, i < asked → (τ (10 + 3 * b + 2)).2.2.1 i = some (Q i)) (hW : ∀ i, i < asked → zx_W A x v sz (Q i) (J i) (Fm i) (Pn i) (Nn i)) : zg_Met l zm_X_arrive zc_X_arrive 6 (some .int) 5 6 30 D A base [.ref x, .int (nI a), .int (nI b)] (zx_P A x v sz τ) (some (.int (nI (asked - (zx_sv A (zx_tkn (zxI τ (22 + 3 * (a * 4 + b)) 5 (nI 0)) (a * 4 + b) b place t n) v b T sz Q J Fm Nn asked).2.1)))) (zx_P A x (zx_sv A (zx_tkn (zxI τ (22 + 3 * (a * 4 + b)) 5 (nI 0)) (a * 4 + b) b place t n) v b T sz Q J Fm Nn asked).2.2 (sz + (asked - (zx_sv A (zx_tkn (zxI τ (22 + 3 * (a * 4 + b)) 5 (nI 0)) (a * 4 + b) b place t n) v b T sz Q J Fm Nn asked).2.1)) (zxI (zxI (zx_sv A (zx_tkn (zxI τ (22 + 3 * (a * 4 + b)) 5 (nI 0)) (a * 4 + b) b place t n) v b T sz Q J Fm Nn asked).1 (10 + 3 * b) 2 (nI (zx_sv A (zx_tkn (zxI τ (22 + 3 * (a * 4 + b)) 5 (nI 0)) (a * 4 + b) b place t n) v b T sz Q J Fm Nn asked).2.1)) (22 + 3 * (a * 4 + b)) 6 ((zxI (zx_sv A (zx_tkn (zxI τ (22 + 3 * (a * 4 + b)) 5 (nI 0)) (a * 4 + b) b place t n) v b T sz Q J Fm Nn asked).1 (10 + 3 * b) 2 (nI (zx_sv A (zx_tkn (zxI τ (22 + 3 * (a * 4 + b)) 5 (nI 0)) (a * 4 + b) b place t n) v b T sz Q J Fm Nn asked).2.1) (22 + 3 * (a * 4 + b))).1 4))) := by
  refine zg_met (by decide) (Nat.le_of_ble_eq_true rfl) ?_
  intro K hl0 hD0 hA0 hz0 hn hnm F E
  subst hl0 hD0 hA0 hz0
  show zg_G K (zx_P (zk_A K) x v sz τ) 0 0 0 [(0, .ref x), (1, .int (nI a)), (2, .int (nI b))] []
  refine zg_iload_n F 1 rfl rfl dX_arrive_0 ?_
  refine zg_iload_n F 2 rfl rfl dX_arrive_1 ?_
  refine zg_callS F (zX_checkTwoPorts _ _ _ _ _ a b ha hb hn0) zv_X_checkTwoPorts zu_X_checkTwoPorts zk_453 rfl ⟨by decide, by decide⟩ ⟨by decide, by decide⟩ rfl (Nat.le_of_ble_eq_true rfl) dX_arrive_2 ?_
  refine zg_aload_n F 0 rfl rfl dX_arrive_5 ?_
  refine zg_iload_n F 1 rfl rfl dX_arrive_6 ?_
  refine zg_iload_n F 2 rfl rfl dX_arrive_7 ?_
  refine zg_callV F (zX_laneOf _ _ _ _ x sz v τ a b ha hb) zv_X_laneOf zu_X_laneOf zk_416 (fun _ _ h => zx_g0 h) rfl rfl ⟨by decide, by decide⟩ ⟨by decide, by decide⟩ rfl (Nat.le_of_ble_eq_true rfl) dX_arrive_8 ?_
  refine zg_astore_n F rfl (by rw [hn]; decide) (L' := [(3, _), (0, _), (1, _), (2, _)]) rfl dX_arrive_11 ?_
  refine zg_aload_n F 0 rfl rfl dX_arrive_12 ?_
  refine zg_get F (fun _ _ h => zx_gl h (by omega)) rfl zi_N 5 (by decide) rfl zk_87 rfl dX_arrive_13 ?_
  refine zg_if_neT F (tgt := 21) dX_arrive_16 (by decide) (h) ?_
  refine zg_aload_n F 0 rfl rfl dX_arrive_21 ?_
  refine zg_get F (fun _ _ h => zx_gl h (by omega)) rfl zi_N 5 (by decide) rfl zk_87 rfl dX_arrive_22 ?_
  refine zg_aload_n F 0 rfl rfl dX_arrive_25 ?_
  refine zg_get F (fun _ _ h => zx_gl h (by omega)) rfl zi_N 4 (by decide) rfl zk_85 rfl dX_arrive_26 ?_
  refine zg_iconst F (v := nI 1) (by decide) dX_arrive_29 ?_
  refine zg_iadd F rfl dX_arrive_30 ?_
  refine zg_icmp_neF F dX_arrive_31 (tgt := 38) (by decide) (h2) ?_
  refine zg_iconst F (v := nI 1) (by decide) dX_arrive_34 ?_
  refine zg_goto F (tgt := 39) dX_arrive_35 (by decide) ?_
  refine zg_istore F (by rw [hn]; decide) (L' := [(4, _), (3, _), (0, _), (1, _), (2, _)]) rfl dX_arrive_39 ?_
  refine zg_aload_n F 1 rfl rfl dX_arrive_41 ?_
  refine zg_iconst F (v := nI 0) (by decide) dX_arrive_42 ?_
  refine zg_put F (fun _ _ h => zx_gl h (by omega)) rfl zi_N zy_N zt_N zn_N 5 (by decide) rfl zk_87 rfl rfl rfl rfl (Nat.le_of_ble_eq_true rfl) (fun w z h => zx_pl (by omega) 5 (by decide) _ w z h) dX_arrive_43 ?_
  refine zg_iload F 0 rfl dX_arrive_46 ?_
  refine zg_if_eqF F dX_arrive_48 (tgt := 60) (by decide) (by decide) ?_
  refine zg_aload_n F 2 rfl rfl dX_arrive_51 ?_
  refine zg_aload_n F 1 rfl rfl dX_arrive_52 ?_
  refine zg_iload_n F 4 rfl rfl dX_arrive_53 ?_
  have e1 : ∀ q, q ≠ (22 + 3 * (a * 4 + b)) → (zxI τ (22 + 3 * (a * 4 + b)) 5 (nI 0)) q = τ q := fun q hq => zxI_o hq
  refine zg_callV F (zX_takeNext _ _ _ _ x sz v (zxI τ (22 + 3 * (a * 4 + b)) 5 (nI 0)) (a * 4 + b) t place b asked T n (by omega) hpl (by rw [zxI_n (by decide)]; exact ht) hts (by rw [e1 _ (by omega)]; exact hpe) (by rw [e1 _ (by omega)]; exact hne) hb has (by rw [e1 _ (by omega)]; exact hw) (by rw [e1 _ (by omega)]; exact hT) hT8 hsz Q J Fm Pn Nn (fun k hk => by rw [e1 _ (by omega)]; exact hr k hk) hW) zv_X_takeNext zu_X_takeNext zk_463 (fun _ _ h => zx_g0 h) rfl rfl ⟨by decide, by decide⟩ ⟨by decide, by decide⟩ rfl (Nat.le_of_ble_eq_true rfl) dX_arrive_54 ?_
  refine zg_goto F (tgt := 61) dX_arrive_57 (by decide) ?_
  refine zg_istore F (by rw [hn]; decide) (L' := [(5, _), (4, _), (3, _), (0, _), (1, _), (2, _)]) rfl dX_arrive_61 ?_
  refine zg_aload_n F 2 rfl rfl dX_arrive_63 ?_
  refine zg_aload_n F 2 rfl rfl dX_arrive_64 ?_
  refine zg_get F (fun _ _ h => zx_gl h (by omega)) rfl zi_N 4 (by decide) rfl zk_85 rfl dX_arrive_65 ?_
  refine zg_put F (fun _ _ h => zx_gl h (by omega)) rfl zi_N zy_N zt_N zn_N 6 (by decide) rfl zk_89 rfl rfl rfl rfl (Nat.le_of_ble_eq_true rfl) (fun w z h => zx_pl (by omega) 6 (by decide) _ w z h) dX_arrive_68 ?_
  refine zg_iload F 0 rfl dX_arrive_71 ?_
  exact zg_iret F E (by decide) (by decide) (fun _ _ h => h) dX_arrive_73
