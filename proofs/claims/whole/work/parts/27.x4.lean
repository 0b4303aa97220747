set_option maxRecDepth 100000 in
set_option maxHeartbeats 4000000 in
theorem zX_serve (l : Launch) (D : va_G) (A : Nat → ClassId) (base : Nat) (x sz : Nat) (v : zg_w) (τ : zx_S) (port asked T : Nat) (h0 : port < 4) (ha : asked ≤ 6) (hw : (τ (10 + 3 * port)).1 2 = nI asked) (hT : (τ 0).1 7 = nI T) (hT8 : T ≤ 80) (hsz : x + 70 ≤ sz) (Q J : Nat → Nat) (Fm : Nat → Nat → Int32) (Pn Nn : Nat → Int32) (hr : ∀ k, k < asked → (τ (10 + 3 * port + 2)).2.2.1 k = some (Q k)) (hW : ∀ k, k < asked → zx_W A x v sz (Q k) (J k) (Fm k) (Pn k) (Nn k)) : zg_Met l zm_X_serve zc_X_serve 7 (some .int) 3 6 30 D A base [.ref x, .int (nI port)] (zx_P A x v sz τ) (some (.int (nI (asked - (zx_sv A τ v port T sz Q J Fm Nn asked).2.1)))) (zx_P A x (zx_sv A τ v port T sz Q J Fm Nn asked).2.2 (sz + (asked - (zx_sv A τ v port T sz Q J Fm Nn asked).2.1)) (zxI (zx_sv A τ v port T sz Q J Fm Nn asked).1 (10 + 3 * port) 2 (nI (zx_sv A τ v port T sz Q J Fm Nn asked).2.1))) := by
  refine zg_met (by decide) (Nat.le_of_ble_eq_true rfl) ?_
  intro K hl hD hA hz hn hnm F E
  subst hl hD hA hz
  show zg_G K (zx_P (zk_A K) x v sz τ) 0 0 0 [(0, .ref x), (1, .int (nI port))] []
  refine zg_aload_n F 0 rfl rfl dX_serve_0 ?_
  refine zg_get F (fun _ _ h => zx_g0 h) rfl zi_X 4 (by decide) rfl zk_109 rfl dX_serve_1 ?_
  refine zg_iload_n F 1 rfl rfl dX_serve_4 ?_
  refine zg_aald F (t0 := 3) (C := "IslandRights$Port") (fun _ _ h => zx_g5 h) rfl (by show _ < 4; omega) (by decide) (if_pos (by omega)) dX_serve_5 ?_
  refine zg_astore_n F rfl (by rw [hn]; decide) (L' := [(2, _), (0, _), (1, _)]) rfl dX_serve_6 ?_
  refine zg_aload_n F 0 rfl rfl dX_serve_7 ?_
  refine zg_get F (fun _ _ h => zx_gp h (by omega)) rfl zi_P 2 (by decide) rfl zk_59 rfl dX_serve_8 ?_
  refine zg_eqi (hw) ?_
  refine zg_istore_n F rfl (by rw [hn]; decide) (L' := [(3, _), (2, _), (0, _), (1, _)]) rfl dX_serve_11 ?_
  refine zg_iconst F (v := nI 0) (by decide) dX_serve_12 ?_
  refine zg_istore F (by rw [hn]; decide) (L' := [(4, _), (3, _), (2, _), (0, _), (1, _)]) rfl dX_serve_13 ?_
  refine zg_iconst F (v := nI 0) (by decide) dX_serve_15 ?_
  refine zg_istore F (by rw [hn]; decide) (L' := [(5, _), (4, _), (3, _), (2, _), (0, _), (1, _)]) rfl dX_serve_16 ?_
  have inv := fun k => zx_sv_i (A := zk_A K) (v := v) (sz := sz) (Q := Q) (J := J) (Fm := Fm) (Nn := Nn) h0 hT hT8 k
  have loop : ∀ r i, i + r = asked → zg_G K (zx_P (zk_A K) x (zx_sv (zk_A K) τ v port T sz Q J Fm Nn i).2.2 (sz + (i - (zx_sv (zk_A K) τ v port T sz Q J Fm Nn i).2.1)) (zx_sv (zk_A K) τ v port T sz Q J Fm Nn i).1) (i - (zx_sv (zk_A K) τ v port T sz Q J Fm Nn i).2.1) (5 * (i - (zx_sv (zk_A K) τ v port T sz Q J Fm Nn i).2.1)) 18 [(5, .int (nI i)), (4, .int (nI (zx_sv (zk_A K) τ v port T sz Q J Fm Nn i).2.1)), (3, .int (nI asked)), (2, .ref (x + (10 + 3 * port))), (0, .ref x), (1, .int (nI port))] [] := by
    intro r
    induction r with
    | zero =>
      intro i hi
      obtain rfl : i = asked := by omega
      obtain ⟨g1, -, -, -, -⟩ := inv i
      refine zg_iload F 0 rfl dX_serve_18 ?_
      refine zg_iload_n F 2 rfl rfl dX_serve_20 ?_
      refine zg_icmp_geT F (tgt := 96) dX_serve_21 (by decide) (nI_le (by omega) (by omega)) ?_
      refine zg_aload_n F 3 rfl rfl dX_serve_96 ?_
      refine zg_iload F 1 rfl dX_serve_97 ?_
      refine zg_put F (fun _ _ h => zx_gp h (by omega)) rfl zi_P zy_P zt_P zn_P 2 (by decide) rfl zk_59 rfl rfl rfl rfl (Nat.le_of_ble_eq_true rfl) (fun w z h => zx_pp (by omega) _ w z h) dX_serve_99 ?_
      refine zg_iload_n F 2 rfl rfl dX_serve_102 ?_
      refine zg_iload F 1 rfl dX_serve_103 ?_
      refine zg_isub F (pk_sub g1) dX_serve_105 ?_
      exact zg_iret F E (by omega) (by omega) (fun _ _ h => h) dX_serve_106
    | succ r ih =>
      intro i hi
      obtain ⟨g1, g2, g3, g4, g5⟩ := inv i
      have hq := (g4 i (Nat.le_refl _)).trans (hr i (by omega))
      have hgo := ih (i + 1) (by omega)
      rw [zx_sv] at hgo
      have hWi : zx_W (zk_A K) x (zx_sv (zk_A K) τ v port T sz Q J Fm Nn i).2.2 sz (Q i) (J i) (Fm i) (Pn i) (Nn i) := by
        obtain ⟨a1, a2, a3, a4, a5⟩ := hW i (by omega)
        exact ⟨a1, a2, a3, by rw [g5 _ a2]; exact a4, a5.kept (g5 _ (by omega)) (g5 _ a3)⟩
      generalize zx_sv (zk_A K) τ v port T sz Q J Fm Nn i = q at hgo g1 g2 g3 hq hWi ⊢
      obtain ⟨t, kp, vv⟩ := q
      dsimp only at hgo g1 g2 g3 hq hWi ⊢
      refine zg_iload F 0 rfl dX_serve_18 ?_
      refine zg_iload_n F 2 rfl rfl dX_serve_20 ?_
      refine zg_icmp_geF F dX_serve_21 (tgt := 96) (by decide) (nI_ge (by omega) (by omega)) ?_
      refine zg_aload_n F 3 rfl rfl dX_serve_24 ?_
      refine zg_get F (fun _ _ h => zx_gp h (by omega)) rfl zi_P 1 (by decide) rfl zk_57 rfl dX_serve_25 ?_
      refine zg_iload F 0 rfl dX_serve_28 ?_
      refine zg_aald F (t0 := 6) (C := "IslandRights$Wish") (fun _ _ h => zx_gr h h0) rfl (by show _ < 6; omega) (by decide) hq dX_serve_30 ?_
      refine zg_astore F (by rw [hn]; decide) (L' := [(6, _), (5, _), (4, _), (3, _), (2, _), (0, _), (1, _)]) rfl dX_serve_31 ?_
      refine zg_aload_n F 5 rfl rfl dX_serve_33 ?_
      refine zg_get F (fun _ _ h => zx_g0 h) rfl zi_X 7 (by decide) rfl zk_112 rfl dX_serve_34 ?_
      refine zg_eqi (g2) ?_
      refine zg_bipush F (v := nI 80) (by decide) dX_serve_37 ?_
      by_cases c1 : T + (i - kp) < 80
      · refine zg_icmp_geF F dX_serve_39 (tgt := 78) (by decide) (nI_ge (by omega) (by omega)) ?_
        refine zg_aload_n F 4 rfl rfl dX_serve_42 ?_
        refine zg_aload F 0 rfl dX_serve_43 ?_
        refine zg_get F (fun _ _ h => zx_W1 hWi h) rfl zi_H 0 (by decide) rfl zk_365 rfl dX_serve_45 ?_
        refine zg_aload F 0 rfl dX_serve_48 ?_
        refine zg_get F (fun _ _ h => zx_W1 hWi h) rfl zi_H 1 (by decide) rfl zk_367 rfl dX_serve_50 ?_
        refine zg_callV F (zP_fits _ _ _ _ x _ vv t port h0 (J i) (Fm i) (Pn i) (Nn i) hWi.2.2.2.2) zv_P_fits zu_P_fits zk_305 (fun _ _ h => zx_gp h (by omega)) rfl rfl ⟨by decide, by decide⟩ ⟨by show _ + 0 ≤ 6; omega, by show _ + 0 ≤ 30; omega⟩ rfl (Nat.le_of_ble_eq_true rfl) dX_serve_53 ?_
        by_cases c2 : zx_fit t port (Fm i) (Nn i) = 0
        · rw [if_neg (fun q => q.2 c2)] at hgo
          refine zg_if_eqT F (tgt := 78) dX_serve_56 (by decide) (c2) ?_
          refine zg_aload_n F 4 rfl rfl dX_serve_78 ?_
          refine zg_get F (fun _ _ h => zx_gp h (by omega)) rfl zi_P 1 (by decide) rfl zk_57 rfl dX_serve_79 ?_
          refine zg_iload F 2 rfl dX_serve_82 ?_
          refine zg_aload F 0 rfl dX_serve_84 ?_
          refine zg_aast F (t0 := 6) (ci := 4) (r := (zR_H, zT_H, 2)) (fun _ _ h => zx_gr h h0) rfl (fun _ _ h => zx_W1 hWi h) rfl (by show _ < 6; omega) (by decide) (fun w z h => zx_wr h0 _ _ w z h) dX_serve_86 ?_
          refine zg_iinc F 2 rfl (by first | exact zc_inc _ | rfl) (by rw [hn]; decide) (L' := [(4, _), (6, _), (5, _), (3, _), (2, _), (0, _), (1, _)]) rfl dX_serve_87 ?_
          refine zg_iinc F 2 rfl (by first | exact zc_inc _ | rfl) (by rw [hn]; decide) (L' := [(5, _), (4, _), (6, _), (3, _), (2, _), (0, _), (1, _)]) rfl dX_serve_90 ?_
          refine zg_goto F (tgt := 18) dX_serve_93 (by decide) ?_
          refine zg_sub [0, 1, 3, 4, 5, 6] (L' := [(5, _), (4, _), (3, _), (2, _), (0, _), (1, _)]) rfl ?_
          have e : i + 1 - (kp + 1) = i - kp := by omega
          dsimp only at hgo
          rw [e] at hgo
          exact hgo
        · rw [if_pos ⟨c1, c2⟩] at hgo
          refine zg_if_eqF F dX_serve_56 (tgt := 78) (by decide) (c2) ?_
          refine zg_aload_n F 5 rfl rfl dX_serve_59 ?_
          refine zg_iload_n F 6 rfl rfl dX_serve_60 ?_
          refine zg_aload F 0 rfl dX_serve_61 ?_
          refine zg_get F (fun _ _ h => zx_W1 hWi h) rfl zi_H 0 (by decide) rfl zk_365 rfl dX_serve_63 ?_
          refine zg_aload F 0 rfl dX_serve_66 ?_
          refine zg_get F (fun _ _ h => zx_W1 hWi h) rfl zi_H 1 (by decide) rfl zk_367 rfl dX_serve_68 ?_
          refine zg_callV F (zX_sell _ _ _ _ x (sz + (i - kp)) vv t port (T + (i - kp)) h0 c1 g2 (by omega) (J i) (Fm i) (Pn i) (Nn i) hWi.2.2.2.2) zv_X_sell zu_X_sell zk_309 (fun _ _ h => zx_g0 h) rfl rfl ⟨by decide, by decide⟩ ⟨by show _ + 1 ≤ 6; omega, by show _ + 5 ≤ 30; omega⟩ rfl (Nat.le_of_ble_eq_true rfl) dX_serve_71 ?_
          refine zg_pop F rfl dX_serve_74 ?_
          refine zg_goto F (tgt := 90) dX_serve_75 (by decide) ?_
          refine zg_iinc F 1 rfl (by first | exact zc_inc _ | rfl) (by rw [hn]; decide) (L' := [(5, _), (6, _), (4, _), (3, _), (2, _), (0, _), (1, _)]) rfl dX_serve_90 ?_
          refine zg_goto F (tgt := 18) dX_serve_93 (by decide) ?_
          refine zg_sub [0, 2, 3, 4, 5, 6] (L' := [(5, _), (4, _), (3, _), (2, _), (0, _), (1, _)]) rfl ?_
          have e : i + 1 - kp = i - kp + 1 := by omega
          dsimp only at hgo
          rw [e] at hgo
          exact hgo
      · rw [if_neg (fun q => c1 q.1)] at hgo
        refine zg_icmp_geT F (tgt := 78) dX_serve_39 (by decide) (nI_le (by omega) (by omega)) ?_
        refine zg_aload_n F 4 rfl rfl dX_serve_78 ?_
        refine zg_get F (fun _ _ h => zx_gp h (by omega)) rfl zi_P 1 (by decide) rfl zk_57 rfl dX_serve_79 ?_
        refine zg_iload F 2 rfl dX_serve_82 ?_
        refine zg_aload F 0 rfl dX_serve_84 ?_
        refine zg_aast F (t0 := 6) (ci := 4) (r := (zR_H, zT_H, 2)) (fun _ _ h => zx_gr h h0) rfl (fun _ _ h => zx_W1 hWi h) rfl (by show _ < 6; omega) (by decide) (fun w z h => zx_wr h0 _ _ w z h) dX_serve_86 ?_
        refine zg_iinc F 2 rfl (by first | exact zc_inc _ | rfl) (by rw [hn]; decide) (L' := [(4, _), (6, _), (5, _), (3, _), (2, _), (0, _), (1, _)]) rfl dX_serve_87 ?_
        refine zg_iinc F 2 rfl (by first | exact zc_inc _ | rfl) (by rw [hn]; decide) (L' := [(5, _), (4, _), (6, _), (3, _), (2, _), (0, _), (1, _)]) rfl dX_serve_90 ?_
        refine zg_goto F (tgt := 18) dX_serve_93 (by decide) ?_
        refine zg_sub [0, 1, 3, 4, 5, 6] (L' := [(5, _), (4, _), (3, _), (2, _), (0, _), (1, _)]) rfl ?_
        have e : i + 1 - (kp + 1) = i - kp := by omega
        dsimp only at hgo
        rw [e] at hgo
        exact hgo
  exact loop asked 0 (by omega)
def zx_tkn (τ : zx_S) (p port place t : Nat) (n : Int32) : zx_S :=
  zxI (zxI (zxI τ (22 + 3 * p) 4 (nI (t + 1))) 4 place ((zxI τ (22 + 3 * p) 4 (nI (t + 1)) 4).1 place - n)) (10 + 3 * port + 1) place ((zxI (zxI τ (22 + 3 * p) 4 (nI (t + 1))) 4 place ((zxI τ (22 + 3 * p) 4 (nI (t + 1)) 4).1 place - n) (10 + 3 * port + 1)).1 place + n)
theorem zx_tkn_o {τ : zx_S} {p port place t q : Nat} {n : Int32} (h : q ≠ 22 + 3 * p ∧ q ≠ 4 ∧ q ≠ 10 + 3 * port + 1) : zx_tkn τ p port place t n q = τ q := by rw [zx_tkn, zxI_o h.2.2, zxI_o h.2.1, zxI_o h.1]
set_option maxRecDepth 100000 in
set_option maxHeartbeats 4000000 in
theorem zX_takeNext (l : Launch) (D : va_G) (A : Nat → ClassId) (base : Nat) (x sz : Nat) (v : zg_w) (τ : zx_S) (p t place port asked T : Nat) (n : Int32) (hp : p < 16) (hpl : place < 16) (ht : (τ (22 + 3 * p)).1 4 = nI t) (hts : t + 1 < 2 ^ 31) (hpe : (τ (22 + 3 * p + 1)).1 ((t + 1) % 8) = nI place) (hne : (τ (22 + 3 * p + 2)).1 ((t + 1) % 8) = n) (h0 : port < 4) (ha : asked ≤ 6) (hw : (τ (10 + 3 * port)).1 2 = nI asked) (hT : (τ 0).1 7 = nI T) (hT8 : T ≤ 80) (hsz : x + 70 ≤ sz) (Q J : Nat → Nat) (Fm : Nat → Nat → Int32) (Pn Nn : Nat → Int32) (hr : ∀ k, k < asked → (τ (10 + 3 * port + 2)).2.2.1 k = some (Q k)) (hW : ∀ k, k < asked → zx_W A x v sz (Q k) (J k) (Fm k) (Pn k) (Nn k)) : zg_Met l zm_X_takeNext zc_X_takeNext 6 (some .int) 4 6 30 D A base [.ref x, .ref (x + (22 + 3 * p)), .int (nI port)] (zx_P A x v sz τ) (some (.int (nI (asked - (zx_sv A (zx_tkn τ p port place t n) v port T sz Q J Fm Nn asked).2.1)))) (zx_P A x (zx_sv A (zx_tkn τ p port place t n) v port T sz Q J Fm Nn asked).2.2 (sz + (asked - (zx_sv A (zx_tkn τ p port place t n) v port T sz Q J Fm Nn asked).2.1)) (zxI (zx_sv A (zx_tkn τ p port place t n) v port T sz Q J Fm Nn asked).1 (10 + 3 * port) 2 (nI (zx_sv A (zx_tkn τ p port place t n) v port T sz Q J Fm Nn asked).2.1))) := by
  refine zg_met (by decide) (Nat.le_of_ble_eq_true rfl) ?_
  intro K hl hD hA hz hn hnm F E
  subst hl hD hA hz
  show zg_G K (zx_P (zk_A K) x v sz τ) 0 0 0 [(0, .ref x), (1, .ref (x + (22 + 3 * p))), (2, .int (nI port))] []
  refine zg_aload_n F 1 rfl rfl dX_takeNext_0 ?_
  refine zg_dup F rfl dX_takeNext_1 ?_
  refine zg_get F (fun _ _ h => zx_gl h (by omega)) rfl zi_N 4 (by decide) rfl zk_85 rfl dX_takeNext_2 ?_
  refine zg_eqi (ht) ?_
  refine zg_iconst F (v := nI 1) (by decide) dX_takeNext_5 ?_
  refine zg_iadd F (by first | exact nI_add _ _ | rfl) dX_takeNext_6 ?_
  refine zg_put F (fun _ _ h => zx_gl h (by omega)) rfl zi_N zy_N zt_N zn_N 4 (by decide) rfl zk_85 rfl rfl rfl rfl (Nat.le_of_ble_eq_true rfl) (fun w z h => zx_pl (by omega) 4 (by decide) _ w z h) dX_takeNext_7 ?_
  refine zg_aload_n F 1 rfl rfl dX_takeNext_10 ?_
  refine zg_get F (fun _ _ h => zx_gl h (by omega)) rfl zi_N 4 (by decide) rfl zk_85 rfl dX_takeNext_11 ?_
  refine zg_eqi (zxI_s) ?_
  refine zg_callS F (zN_cellOf _ _ _ _ _ (t + 1) hts) zv_N_cellOf zu_N_cellOf zk_467 rfl ⟨by decide, by decide⟩ ⟨by decide, by decide⟩ rfl (Nat.le_of_ble_eq_true rfl) dX_takeNext_14 ?_
  refine zg_istore_n F rfl (by rw [hn]; decide) (L' := [(3, _), (0, _), (1, _), (2, _)]) rfl dX_takeNext_17 ?_
  refine zg_aload_n F 2 rfl rfl dX_takeNext_18 ?_
  refine zg_get F (fun _ _ h => zx_gl h (by omega)) rfl zi_N 0 (by decide) rfl zk_77 rfl dX_takeNext_19 ?_
  refine zg_iload_n F 0 rfl rfl dX_takeNext_22 ?_
  refine zg_iald F (fun _ _ h => zx_gk h 1 (Or.inl rfl) (by omega)) (by show _ < 8; omega) (by decide) rfl dX_takeNext_23 ?_
  refine zg_eqi ((show (zxI τ (22 + 3 * p) 4 (nI (t + 1)) (22 + 3 * p + 1)).1 ((t + 1) % 8) = nI place by rw [zxI_o (by omega)]; exact hpe)) ?_
  refine zg_istore F (by rw [hn]; decide) (L' := [(4, _), (3, _), (0, _), (1, _), (2, _)]) rfl dX_takeNext_24 ?_
  refine zg_aload_n F 3 rfl rfl dX_takeNext_26 ?_
  refine zg_get F (fun _ _ h => zx_gl h (by omega)) rfl zi_N 1 (by decide) rfl zk_79 rfl dX_takeNext_27 ?_
  refine zg_iload_n F 1 rfl rfl dX_takeNext_30 ?_
  refine zg_iald F (fun _ _ h => zx_gk h 2 (Or.inr rfl) (by omega)) (by show _ < 8; omega) (by decide) rfl dX_takeNext_31 ?_
  refine zg_eqi ((show (zxI τ (22 + 3 * p) 4 (nI (t + 1)) (22 + 3 * p + 2)).1 ((t + 1) % 8) = n by rw [zxI_o (by omega)]; exact hne)) ?_
  refine zg_istore F (by rw [hn]; decide) (L' := [(5, _), (4, _), (3, _), (0, _), (1, _), (2, _)]) rfl dX_takeNext_32 ?_
  refine zg_aload_n F 3 rfl rfl dX_takeNext_34 ?_
  refine zg_get F (fun _ _ h => zx_g0 h) rfl zi_X 3 (by decide) rfl zk_108 rfl dX_takeNext_35 ?_
  refine zg_iload F 1 rfl dX_takeNext_38 ?_
  refine zg_dup2 F rfl rfl dX_takeNext_40 ?_
  refine zg_iald F (fun _ _ h => zx_ga h 4 (by decide)) (by show _ < 16; omega) (by decide) rfl dX_takeNext_41 ?_
  refine zg_iload F 0 rfl dX_takeNext_42 ?_
  refine zg_isub F rfl dX_takeNext_44 ?_
  refine zg_iast F (fun _ _ h => zx_ga h 4 (by decide)) (by show _ < 16; omega) (by decide) (fun w z h => zx_wa (o := 4) (by decide) _ _ w z h) dX_takeNext_45 ?_
  refine zg_aload_n F 3 rfl rfl dX_takeNext_46 ?_
  refine zg_get F (fun _ _ h => zx_g0 h) rfl zi_X 4 (by decide) rfl zk_109 rfl dX_takeNext_47 ?_
  refine zg_iload_n F 5 rfl rfl dX_takeNext_50 ?_
  refine zg_aald F (t0 := 3) (C := "IslandRights$Port") (fun _ _ h => zx_g5 h) rfl (by show _ < 4; omega) (by decide) (if_pos (by omega)) dX_takeNext_51 ?_
  refine zg_get F (fun _ _ h => zx_gp h (by omega)) rfl zi_P 0 (by decide) rfl zk_55 rfl dX_takeNext_52 ?_
  refine zg_iload F 1 rfl dX_takeNext_55 ?_
  refine zg_dup2 F rfl rfl dX_takeNext_57 ?_
  refine zg_iald F (fun _ _ h => zx_go h (by omega)) (by show _ < 16; omega) (by decide) rfl dX_takeNext_58 ?_
  refine zg_iload F 0 rfl dX_takeNext_59 ?_
  refine zg_iadd F rfl dX_takeNext_61 ?_
  refine zg_iast F (fun _ _ h => zx_go h (by omega)) (by show _ < 16; omega) (by decide) (fun w z h => zx_wo (by omega) _ _ w z h) dX_takeNext_62 ?_
  refine zg_aload_n F 3 rfl rfl dX_takeNext_63 ?_
  refine zg_iload_n F 5 rfl rfl dX_takeNext_64 ?_
  have e1 : ∀ q, (q ≠ 22 + 3 * p ∧ q ≠ 4 ∧ q ≠ 10 + 3 * port + 1) → zx_tkn τ p port place t n q = τ q := fun q hq => zx_tkn_o hq
  refine zg_callV F (zX_serve _ _ _ _ x sz v (zx_tkn τ p port place t n) port asked T h0 ha (by rw [e1 _ (by omega)]; exact hw) (by rw [e1 _ (by omega)]; exact hT) hT8 hsz Q J Fm Pn Nn (fun k hk => by rw [e1 _ (by omega)]; exact hr k hk) hW) zv_X_serve zu_X_serve zk_373 (fun _ _ h => zx_g0 h) rfl rfl ⟨by decide, by decide⟩ ⟨by decide, by decide⟩ rfl (Nat.le_of_ble_eq_true rfl) dX_takeNext_65 ?_
  exact zg_iret F E (by decide) (by decide) (fun _ _ h => h) dX_takeNext_68
