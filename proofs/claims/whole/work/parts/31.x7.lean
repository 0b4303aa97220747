def zx_opn (τ : zx_S) (s : Nat) (seats : Int32) : Nat → zx_S
  | 0 => zxI τ 1 s (vp_nar .boolean (nI 1))
  | i + 1 => zxI (zx_opn τ s seats i) (10 + 3 * 0 + 1) (s * 4 + i) seats
def zx_half (τ : zx_S) (a b place : Nat) : Int32 := ((τ (10 + 3 * a + 1)).1 place - (τ (10 + 3 * b + 1)).1 place) / nI 2
def zx_shr (τ : zx_S) (a b s g bx : Nat) : Nat → zx_S × Nat
  | 0 => (τ, 0)
  | i + 1 => if 0 < zx_half (zx_shr τ a b s g bx i).1 a b (s * 4 + i) ∧ ¬ bx + (zx_shr τ a b s g bx i).2 = 8 then
      (zx_add (zx_put (zx_shr τ a b s g bx i).1 a (s * 4 + i) (zx_half (zx_shr τ a b s g bx i).1 a b (s * 4 + i))) (a * 4 + b) g (bx + (zx_shr τ a b s g bx i).2) (s * 4 + i) (zx_half (zx_shr τ a b s g bx i).1 a b (s * 4 + i)), (zx_shr τ a b s g bx i).2 + 1)
    else zx_shr τ a b s g bx i
theorem zx_put_l {τ : zx_S} {a place p : Nat} {n : Int32} (ha : a < 4) : zx_put τ a place n (22 + 3 * p) = τ (22 + 3 * p) := by unfold zx_put; rw [zxI_o (by omega), zxI_o (by omega)]
theorem zx_add_2 {τ : zx_S} {p g b place : Nat} {n : Int32} : (zx_add τ p g b place n (22 + 3 * p)).1 2 = (τ (22 + 3 * p)).1 2 ∧ (zx_add τ p g b place n (22 + 3 * p)).1 3 = nI (b + 1) := by
  unfold zx_add
  rw [zxI_o (by omega), zxI_o (by omega), zxI_n (by decide), zxI_s]
  exact ⟨rfl, rfl⟩
theorem zx_shr_i {τ : zx_S} {a b s g bx : Nat} (ha : a < 4) (hg : (τ (22 + 3 * (a * 4 + b))).1 2 = nI g) (hb : (τ (22 + 3 * (a * 4 + b))).1 3 = nI bx) (hx : bx ≤ 8) : ∀ i, ((zx_shr τ a b s g bx i).1 (22 + 3 * (a * 4 + b))).1 2 = nI g ∧ ((zx_shr τ a b s g bx i).1 (22 + 3 * (a * 4 + b))).1 3 = nI (bx + (zx_shr τ a b s g bx i).2) ∧ bx + (zx_shr τ a b s g bx i).2 ≤ 8
  | 0 => ⟨hg, hb, hx⟩
  | i + 1 => by
    obtain ⟨h1, h2, h3⟩ := zx_shr_i (s := s) ha hg hb hx i
    rw [zx_shr]
    split
    · rename_i hc
      refine ⟨?_, ?_, ?_⟩
      · dsimp only; rw [zx_add_2.1, zx_put_l ha]; exact h1
      · dsimp only; rw [zx_add_2.2]; rfl
      · dsimp only; omega
    · exact ⟨h1, h2, h3⟩
def zx_cra (τ : zx_S) (port : Nat) : Nat → zx_S × Int32
  | 0 => (τ, nI 0)
  | i + 1 => if i = port then zx_cra τ port i else
      (zx_los (zx_los (zx_cra τ port i).1 (port * 4 + i)) (i * 4 + port), (zx_cra τ port i).2 + (zx_lost (zx_cra τ port i).1 (port * 4 + i) + zx_lost (zx_los (zx_cra τ port i).1 (port * 4 + i)) (i * 4 + port)))
set_option maxRecDepth 100000 in
set_option maxHeartbeats 4000000 in
theorem zX_rights (l : Launch) (D : va_G) (A : Nat → ClassId) (base : Nat) (x sz : Nat) (v : zg_w) (τ : zx_S) (a s leg : Nat) (ha : a < 4) (hs : s < 4) (hg : leg < 4) : zg_Met l zm_X_rights zc_X_rights 4 (some .int) 1 0 0 D A base [.ref x, .int (nI a), .int (nI s), .int (nI leg)] (zx_P A x v sz τ) (some (.int ((τ (10 + 3 * a + 1)).1 (s * 4 + leg)))) (zx_P A x v sz τ) := by
  refine zg_met (by decide) (Nat.le_of_ble_eq_true rfl) ?_
  intro K hl0 hD0 hA0 hz0 hn hnm F E
  subst hl0 hD0 hA0 hz0
  show zg_G K (zx_P (zk_A K) x v sz τ) 0 0 0 [(0, .ref x), (1, .int (nI a)), (2, .int (nI s)), (3, .int (nI leg))] []
  refine zg_iload_n F 1 rfl rfl dX_rights_0 ?_
  refine zg_callS F (zX_checkPort _ _ _ _ _ a ha) zv_X_checkPort zu_X_checkPort zk_291 rfl ⟨by decide, by decide⟩ ⟨by decide, by decide⟩ rfl (Nat.le_of_ble_eq_true rfl) dX_rights_1 ?_
  refine zg_iload_n F 2 rfl rfl dX_rights_4 ?_
  refine zg_callS F (zX_checkSailing _ _ _ _ _ s hs) zv_X_checkSailing zu_X_checkSailing zk_143 rfl ⟨by decide, by decide⟩ ⟨by decide, by decide⟩ rfl (Nat.le_of_ble_eq_true rfl) dX_rights_5 ?_
  refine zg_iload_n F 3 rfl rfl dX_rights_8 ?_
  refine zg_callS F (zX_checkLeg _ _ _ _ _ leg hg) zv_X_checkLeg zu_X_checkLeg zk_259 rfl ⟨by decide, by decide⟩ ⟨by decide, by decide⟩ rfl (Nat.le_of_ble_eq_true rfl) dX_rights_9 ?_
  refine zg_aload_n F 0 rfl rfl dX_rights_12 ?_
  refine zg_get F (fun _ _ h => zx_g0 h) rfl zi_X 4 (by decide) rfl zk_109 rfl dX_rights_13 ?_
  refine zg_iload_n F 1 rfl rfl dX_rights_16 ?_
  refine zg_aald F (t0 := 3) (C := "IslandRights$Port") (fun _ _ h => zx_g5 h) rfl (by show _ < 4; omega) (by decide) (if_pos (by omega)) dX_rights_17 ?_
  refine zg_get F (fun _ _ h => zx_gp h (by omega)) rfl zi_P 0 (by decide) rfl zk_55 rfl dX_rights_18 ?_
  refine zg_iload_n F 2 rfl rfl dX_rights_21 ?_
  refine zg_iload_n F 3 rfl rfl dX_rights_22 ?_
  refine zg_callS F (zX_placeOf _ _ _ _ _ s leg) zv_X_placeOf zu_X_placeOf zk_249 rfl ⟨by decide, by decide⟩ ⟨by decide, by decide⟩ rfl (Nat.le_of_ble_eq_true rfl) dX_rights_23 ?_
  refine zg_iald F (fun _ _ h => zx_go h (i := a) (by omega)) (by show _ < 16; omega) (by decide) rfl dX_rights_26 ?_
  exact zg_iret F E (by decide) (by decide) (fun _ _ h => h) dX_rights_27
set_option maxRecDepth 100000 in
set_option maxHeartbeats 4000000 in
theorem zX_air (l : Launch) (D : va_G) (A : Nat → ClassId) (base : Nat) (x sz : Nat) (v : zg_w) (τ : zx_S) (s leg : Nat) (hs : s < 4) (hg : leg < 4) : zg_Met l zm_X_air zc_X_air 3 (some .int) 1 0 0 D A base [.ref x, .int (nI s), .int (nI leg)] (zx_P A x v sz τ) (some (.int ((τ 4).1 (s * 4 + leg)))) (zx_P A x v sz τ) := by
  refine zg_met (by decide) (Nat.le_of_ble_eq_true rfl) ?_
  intro K hl0 hD0 hA0 hz0 hn hnm F E
  subst hl0 hD0 hA0 hz0
  show zg_G K (zx_P (zk_A K) x v sz τ) 0 0 0 [(0, .ref x), (1, .int (nI s)), (2, .int (nI leg))] []
  refine zg_iload_n F 1 rfl rfl dX_air_0 ?_
  refine zg_callS F (zX_checkSailing _ _ _ _ _ s hs) zv_X_checkSailing zu_X_checkSailing zk_143 rfl ⟨by decide, by decide⟩ ⟨by decide, by decide⟩ rfl (Nat.le_of_ble_eq_true rfl) dX_air_1 ?_
  refine zg_iload_n F 2 rfl rfl dX_air_4 ?_
  refine zg_callS F (zX_checkLeg _ _ _ _ _ leg hg) zv_X_checkLeg zu_X_checkLeg zk_259 rfl ⟨by decide, by decide⟩ ⟨by decide, by decide⟩ rfl (Nat.le_of_ble_eq_true rfl) dX_air_5 ?_
  refine zg_aload_n F 0 rfl rfl dX_air_8 ?_
  refine zg_get F (fun _ _ h => zx_g0 h) rfl zi_X 3 (by decide) rfl zk_108 rfl dX_air_9 ?_
  refine zg_iload_n F 1 rfl rfl dX_air_12 ?_
  refine zg_iload_n F 2 rfl rfl dX_air_13 ?_
  refine zg_callS F (zX_placeOf _ _ _ _ _ s leg) zv_X_placeOf zu_X_placeOf zk_249 rfl ⟨by decide, by decide⟩ ⟨by decide, by decide⟩ rfl (Nat.le_of_ble_eq_true rfl) dX_air_14 ?_
  refine zg_iald F (fun _ _ h => zx_ga h 4 (by decide)) (by show _ < 16; omega) (by decide) rfl dX_air_17 ?_
  exact zg_iret F E (by decide) (by decide) (fun _ _ h => h) dX_air_18
set_option maxRecDepth 100000 in
set_option maxHeartbeats 4000000 in
theorem zX_sold (l : Launch) (D : va_G) (A : Nat → ClassId) (base : Nat) (x sz : Nat) (v : zg_w) (τ : zx_S) (s leg : Nat) (hs : s < 4) (hg : leg < 4) : zg_Met l zm_X_sold zc_X_sold 3 (some .int) 1 0 0 D A base [.ref x, .int (nI s), .int (nI leg)] (zx_P A x v sz τ) (some (.int ((τ 3).1 (s * 4 + leg)))) (zx_P A x v sz τ) := by
  refine zg_met (by decide) (Nat.le_of_ble_eq_true rfl) ?_
  intro K hl0 hD0 hA0 hz0 hn hnm F E
  subst hl0 hD0 hA0 hz0
  show zg_G K (zx_P (zk_A K) x v sz τ) 0 0 0 [(0, .ref x), (1, .int (nI s)), (2, .int (nI leg))] []
  refine zg_iload_n F 1 rfl rfl dX_sold_0 ?_
  refine zg_callS F (zX_checkSailing _ _ _ _ _ s hs) zv_X_checkSailing zu_X_checkSailing zk_143 rfl ⟨by decide, by decide⟩ ⟨by decide, by decide⟩ rfl (Nat.le_of_ble_eq_true rfl) dX_sold_1 ?_
  refine zg_iload_n F 2 rfl rfl dX_sold_4 ?_
  refine zg_callS F (zX_checkLeg _ _ _ _ _ leg hg) zv_X_checkLeg zu_X_checkLeg zk_259 rfl ⟨by decide, by decide⟩ ⟨by decide, by decide⟩ rfl (Nat.le_of_ble_eq_true rfl) dX_sold_5 ?_
  refine zg_aload_n F 0 rfl rfl dX_sold_8 ?_
  refine zg_get F (fun _ _ h => zx_g0 h) rfl zi_X 2 (by decide) rfl zk_107 rfl dX_sold_9 ?_
  refine zg_iload_n F 1 rfl rfl dX_sold_12 ?_
  refine zg_iload_n F 2 rfl rfl dX_sold_13 ?_
  refine zg_callS F (zX_placeOf _ _ _ _ _ s leg) zv_X_placeOf zu_X_placeOf zk_249 rfl ⟨by decide, by decide⟩ ⟨by decide, by decide⟩ rfl (Nat.le_of_ble_eq_true rfl) dX_sold_14 ?_
  refine zg_iald F (fun _ _ h => zx_ga h 3 (by decide)) (by show _ < 16; omega) (by decide) rfl dX_sold_17 ?_
  exact zg_iret F E (by decide) (by decide) (fun _ _ h => h) dX_sold_18
set_option maxRecDepth 100000 in
set_option maxHeartbeats 4000000 in
theorem zX_wishes (l : Launch) (D : va_G) (A : Nat → ClassId) (base : Nat) (x sz : Nat) (v : zg_w) (τ : zx_S) (port : Nat) (hp : port < 4) : zg_Met l zm_X_wishes zc_X_wishes 2 (some .int) 1 0 0 D A base [.ref x, .int (nI port)] (zx_P A x v sz τ) (some (.int ((τ (10 + 3 * port)).1 2))) (zx_P A x v sz τ) := by
  refine zg_met (by decide) (Nat.le_of_ble_eq_true rfl) ?_
  intro K hl0 hD0 hA0 hz0 hn hnm F E
  subst hl0 hD0 hA0 hz0
  show zg_G K (zx_P (zk_A K) x v sz τ) 0 0 0 [(0, .ref x), (1, .int (nI port))] []
  refine zg_iload_n F 1 rfl rfl dX_wishes_0 ?_
  refine zg_callS F (zX_checkPort _ _ _ _ _ port hp) zv_X_checkPort zu_X_checkPort zk_291 rfl ⟨by decide, by decide⟩ ⟨by decide, by decide⟩ rfl (Nat.le_of_ble_eq_true rfl) dX_wishes_1 ?_
  refine zg_aload_n F 0 rfl rfl dX_wishes_4 ?_
  refine zg_get F (fun _ _ h => zx_g0 h) rfl zi_X 4 (by decide) rfl zk_109 rfl dX_wishes_5 ?_
  refine zg_iload_n F 1 rfl rfl dX_wishes_8 ?_
  refine zg_aald F (t0 := 3) (C := "IslandRights$Port") (fun _ _ h => zx_g5 h) rfl (by show _ < 4; omega) (by decide) (if_pos (by omega)) dX_wishes_9 ?_
  refine zg_get F (fun _ _ h => zx_gp h (by omega)) rfl zi_P 2 (by decide) rfl zk_59 rfl dX_wishes_10 ?_
  exact zg_iret F E (by decide) (by decide) (fun _ _ h => h) dX_wishes_13
set_option maxRecDepth 100000 in
set_option maxHeartbeats 4000000 in
theorem zX_till (l : Launch) (D : va_G) (A : Nat → ClassId) (base : Nat) (x sz : Nat) (v : zg_w) (τ : zx_S) (port : Nat) (hp : port < 4) : zg_Met l zm_X_till zc_X_till 2 (some .long) 1 0 0 D A base [.ref x, .int (nI port)] (zx_P A x v sz τ) (some (.long (τ (10 + 3 * port)).2.1)) (zx_P A x v sz τ) := by
  refine zg_met (by decide) (Nat.le_of_ble_eq_true rfl) ?_
  intro K hl0 hD0 hA0 hz0 hn hnm F E
  subst hl0 hD0 hA0 hz0
  show zg_G K (zx_P (zk_A K) x v sz τ) 0 0 0 [(0, .ref x), (1, .int (nI port))] []
  refine zg_iload_n F 1 rfl rfl dX_till_0 ?_
  refine zg_callS F (zX_checkPort _ _ _ _ _ port hp) zv_X_checkPort zu_X_checkPort zk_291 rfl ⟨by decide, by decide⟩ ⟨by decide, by decide⟩ rfl (Nat.le_of_ble_eq_true rfl) dX_till_1 ?_
  refine zg_aload_n F 0 rfl rfl dX_till_4 ?_
  refine zg_get F (fun _ _ h => zx_g0 h) rfl zi_X 4 (by decide) rfl zk_109 rfl dX_till_5 ?_
  refine zg_iload_n F 1 rfl rfl dX_till_8 ?_
  refine zg_aald F (t0 := 3) (C := "IslandRights$Port") (fun _ _ h => zx_g5 h) rfl (by show _ < 4; omega) (by decide) (if_pos (by omega)) dX_till_9 ?_
  refine zg_get F (fun _ _ h => zx_gp h (by omega)) rfl zi_P 3 (by decide) rfl zk_61 rfl dX_till_10 ?_
  exact zg_lret F E (by decide) (by decide) (fun _ _ h => h) dX_till_13
set_option maxRecDepth 100000 in
set_option maxHeartbeats 4000000 in
theorem zX_open (l : Launch) (D : va_G) (A : Nat → ClassId) (base : Nat) (x sz : Nat) (v : zg_w) (τ : zx_S) (s : Nat) (seats : Int32) (hs : s < 4) (h1 : ¬ seats < nI 1) (h2 : ¬ nI 100 < seats) (h3 : (τ 1).1 s = 0) : zg_Met l zm_X_open zc_X_open 4 none 1 0 0 D A base [.ref x, .int (nI s), .int seats] (zx_P A x v sz τ) none (zx_P A x v sz (zx_opn τ s seats 4)) := by
  refine zg_met (by decide) (Nat.le_of_ble_eq_true rfl) ?_
  intro K hl0 hD0 hA0 hz0 hn hnm F E
  subst hl0 hD0 hA0 hz0
  show zg_G K (zx_P (zk_A K) x v sz τ) 0 0 0 [(0, .ref x), (1, .int (nI s)), (2, .int seats)] []
  refine zg_iload_n F 1 rfl rfl dX_open_0 ?_
  refine zg_callS F (zX_checkSailing _ _ _ _ _ s hs) zv_X_checkSailing zu_X_checkSailing zk_143 rfl ⟨by decide, by decide⟩ ⟨by decide, by decide⟩ rfl (Nat.le_of_ble_eq_true rfl) dX_open_1 ?_
  refine zg_iload_n F 2 rfl rfl dX_open_4 ?_
  refine zg_callS F (zX_checkSeats _ _ _ _ _ seats h1 h2) zv_X_checkSeats zu_X_checkSeats zk_214 rfl ⟨by decide, by decide⟩ ⟨by decide, by decide⟩ rfl (Nat.le_of_ble_eq_true rfl) dX_open_5 ?_
  refine zg_aload_n F 0 rfl rfl dX_open_8 ?_
  refine zg_get F (fun _ _ h => zx_g0 h) rfl zi_X 0 (by decide) rfl zk_105 rfl dX_open_9 ?_
  refine zg_iload_n F 1 rfl rfl dX_open_12 ?_
  refine zg_zald F (fun _ _ h => zx_g1 h) (by show _ < 4; omega) (by decide) rfl dX_open_13 ?_
  refine zg_if_eqT F (tgt := 27) dX_open_14 (by decide) (h3) ?_
  refine zg_aload_n F 0 rfl rfl dX_open_27 ?_
  refine zg_get F (fun _ _ h => zx_g0 h) rfl zi_X 0 (by decide) rfl zk_105 rfl dX_open_28 ?_
  refine zg_iload_n F 1 rfl rfl dX_open_31 ?_
  refine zg_iconst F (v := nI 1) (by decide) dX_open_32 ?_
  refine zg_zast F (fun _ _ h => zx_g1 h) (by show _ < 4; omega) (by decide) (fun w z h => zx_w1 _ _ w z h) dX_open_33 ?_
  refine zg_iconst F (v := nI 0) (by decide) dX_open_34 ?_
  refine zg_istore_n F rfl (by rw [hn]; decide) (L' := [(3, _), (0, _), (1, _), (2, _)]) rfl dX_open_35 ?_
  have loop : ∀ r i, i + r = 4 → zg_G K (zx_P (zk_A K) x v sz (zx_opn τ s seats i)) 0 0 36 [(3, .int (nI i)), (0, .ref x), (1, .int (nI s)), (2, .int seats)] [] := by
    intro r
    induction r with
    | zero =>
      intro i hi
      obtain rfl : i = 4 := by omega
      refine zg_iload_n F 0 rfl rfl dX_open_36 ?_
      refine zg_iconst F (v := nI 4) (by decide) dX_open_37 ?_
      refine zg_icmp_geT F (tgt := 63) dX_open_38 (by decide) (nI_le (by omega) (by omega)) ?_
      exact zg_vret F E (by decide) (by decide) (fun _ _ h => h) dX_open_63
    | succ r ih =>
      intro i hi
      refine zg_iload_n F 0 rfl rfl dX_open_36 ?_
      refine zg_iconst F (v := nI 4) (by decide) dX_open_37 ?_
      refine zg_icmp_geF F dX_open_38 (tgt := 63) (by decide) (nI_ge (by omega) (by omega)) ?_
      refine zg_aload_n F 1 rfl rfl dX_open_41 ?_
      refine zg_get F (fun _ _ h => zx_g0 h) rfl zi_X 4 (by decide) rfl zk_109 rfl dX_open_42 ?_
      refine zg_iconst F (v := nI 0) (by decide) dX_open_45 ?_
      refine zg_aald F (t0 := 3) (C := "IslandRights$Port") (fun _ _ h => zx_g5 h) rfl (by show _ < 4; omega) (by decide) (if_pos (by omega)) dX_open_46 ?_
      refine zg_get F (fun _ _ h => zx_gp h (by omega)) rfl zi_P 0 (by decide) rfl zk_55 rfl dX_open_47 ?_
      refine zg_iload_n F 2 rfl rfl dX_open_50 ?_
      refine zg_iload_n F 0 rfl rfl dX_open_51 ?_
      refine zg_callS F (zX_placeOf _ _ _ _ _ s i) zv_X_placeOf zu_X_placeOf zk_249 rfl ⟨by decide, by decide⟩ ⟨by decide, by decide⟩ rfl (Nat.le_of_ble_eq_true rfl) dX_open_52 ?_
      refine zg_iload_n F 3 rfl rfl dX_open_55 ?_
      refine zg_iast F (fun _ _ h => zx_go h (i := 0) (by omega)) (by show _ < 16; omega) (by decide) (fun w z h => zx_wo (i := 0) (by omega) _ _ w z h) dX_open_56 ?_
      refine zg_iinc F 0 rfl (by first | exact zc_inc _ | rfl) (by rw [hn]; decide) (L' := [(3, _), (0, _), (1, _), (2, _)]) rfl dX_open_57 ?_
      refine zg_goto F (tgt := 36) dX_open_60 (by decide) ?_
      exact ih (i + 1) (by omega)
  exact loop 4 0 rfl
set_option maxRecDepth 100000 in
set_option maxHeartbeats 4000000 in
theorem zX_fare (l : Launch) (D : va_G) (A : Nat → ClassId) (base : Nat) (x sz : Nat) (v : zg_w) (τ : zx_S) (s leg : Nat) (f : Int32) (hs : s < 4) (hg : leg < 4) (h1 : ¬ f < 0) (h2 : ¬ (1000000000 : Int32) < f) : zg_Met l zm_X_fare zc_X_fare 4 none 1 0 0 D A base [.ref x, .int (nI s), .int (nI leg), .int f] (zx_P A x v sz τ) none (zx_P A x v sz (zxI τ 2 (s * 4 + leg) f)) := by
  refine zg_met (by decide) (Nat.le_of_ble_eq_true rfl) ?_
  intro K hl0 hD0 hA0 hz0 hn hnm F E
  subst hl0 hD0 hA0 hz0
  show zg_G K (zx_P (zk_A K) x v sz τ) 0 0 0 [(0, .ref x), (1, .int (nI s)), (2, .int (nI leg)), (3, .int f)] []
  refine zg_iload_n F 1 rfl rfl dX_fare_0 ?_
  refine zg_callS F (zX_checkSailing _ _ _ _ _ s hs) zv_X_checkSailing zu_X_checkSailing zk_143 rfl ⟨by decide, by decide⟩ ⟨by decide, by decide⟩ rfl (Nat.le_of_ble_eq_true rfl) dX_fare_1 ?_
  refine zg_iload_n F 2 rfl rfl dX_fare_4 ?_
  refine zg_callS F (zX_checkLeg _ _ _ _ _ leg hg) zv_X_checkLeg zu_X_checkLeg zk_259 rfl ⟨by decide, by decide⟩ ⟨by decide, by decide⟩ rfl (Nat.le_of_ble_eq_true rfl) dX_fare_5 ?_
  refine zg_iload_n F 3 rfl rfl dX_fare_8 ?_
  refine zg_if_ltF F dX_fare_9 (tgt := 18) (by decide) (h1) ?_
  refine zg_iload_n F 3 rfl rfl dX_fare_12 ?_
  refine zg_ldcI F zk_263 dX_fare_13 ?_
  refine zg_icmp_leT F (tgt := 28) dX_fare_15 (by decide) (Int32.not_lt.mp h2) ?_
  refine zg_aload_n F 0 rfl rfl dX_fare_28 ?_
  refine zg_get F (fun _ _ h => zx_g0 h) rfl zi_X 1 (by decide) rfl zk_106 rfl dX_fare_29 ?_
  refine zg_iload_n F 1 rfl rfl dX_fare_32 ?_
  refine zg_iload_n F 2 rfl rfl dX_fare_33 ?_
  refine zg_callS F (zX_placeOf _ _ _ _ _ s leg) zv_X_placeOf zu_X_placeOf zk_249 rfl ⟨by decide, by decide⟩ ⟨by decide, by decide⟩ rfl (Nat.le_of_ble_eq_true rfl) dX_fare_34 ?_
  refine zg_iload_n F 3 rfl rfl dX_fare_37 ?_
  refine zg_iast F (fun _ _ h => zx_ga h 2 (by decide)) (by show _ < 16; omega) (by decide) (fun w z h => zx_wa (o := 2) (by decide) _ _ w z h) dX_fare_38 ?_
  exact zg_vret F E (by decide) (by decide) (fun _ _ h => h) dX_fare_39
set_option maxRecDepth 100000 in
set_option maxHeartbeats 4000000 in
theorem zX_part (l : Launch) (D : va_G) (A : Nat → ClassId) (base : Nat) (x sz : Nat) (v : zg_w) (τ : zx_S) (s a b d : Nat) (f : Nat → Int32) (hs : s < 4) (hab : a < b) (hb : b < 5) (hd : d < 4) (h3 : ¬ (τ 1).1 s = 0) (hj : zx_J A x v (τ 0).2.2.2 f (nI d)) : zg_Met l zm_X_part zc_X_part 4 (some .int) 2 0 0 D A base [.ref x, .int (nI s), .int (nI a), .int (nI b)] (zx_P A x v sz τ) (some (.int (nI (d + 1)))) (zx_P A x (zg_u (zg_u v ((τ 0).2.2.2 + 1) (.inl (A 0, 16, .inl (zx_adp f s a (b - a))))) (τ 0).2.2.2 (.inr (0, [.ref ((τ 0).2.2.2 + 1), .int (nI (d + 1))]))) sz τ) := by
  refine zg_met (by decide) (Nat.le_of_ble_eq_true rfl) ?_
  intro K hl0 hD0 hA0 hz0 hn hnm F E
  subst hl0 hD0 hA0 hz0
  show zg_G K (zx_P (zk_A K) x v sz τ) 0 0 0 [(0, .ref x), (1, .int (nI s)), (2, .int (nI a)), (3, .int (nI b))] []
  have ha : a < 5 := by omega
  refine zg_iload_n F 1 rfl rfl dX_part_0 ?_
  refine zg_callS F (zX_checkSailing _ _ _ _ _ s hs) zv_X_checkSailing zu_X_checkSailing zk_143 rfl ⟨by decide, by decide⟩ ⟨by decide, by decide⟩ rfl (Nat.le_of_ble_eq_true rfl) dX_part_1 ?_
  refine zg_iload_n F 2 rfl rfl dX_part_4 ?_
  refine zg_callS F (zX_checkStop _ _ _ _ _ a ha) zv_X_checkStop zu_X_checkStop zk_272 rfl ⟨by decide, by decide⟩ ⟨by decide, by decide⟩ rfl (Nat.le_of_ble_eq_true rfl) dX_part_5 ?_
  refine zg_iload_n F 3 rfl rfl dX_part_8 ?_
  refine zg_callS F (zX_checkStop _ _ _ _ _ b hb) zv_X_checkStop zu_X_checkStop zk_272 rfl ⟨by decide, by decide⟩ ⟨by decide, by decide⟩ rfl (Nat.le_of_ble_eq_true rfl) dX_part_9 ?_
  refine zg_iload_n F 2 rfl rfl dX_part_12 ?_
  refine zg_iload_n F 3 rfl rfl dX_part_13 ?_
  refine zg_icmp_ltT F (tgt := 27) dX_part_14 (by decide) (nI_lt hab (by omega)) ?_
  refine zg_aload_n F 0 rfl rfl dX_part_27 ?_
  refine zg_get F (fun _ _ h => zx_g0 h) rfl zi_X 0 (by decide) rfl zk_105 rfl dX_part_28 ?_
  refine zg_iload_n F 1 rfl rfl dX_part_31 ?_
  refine zg_zald F (fun _ _ h => zx_g1 h) (by show _ < 4; omega) (by decide) rfl dX_part_32 ?_
  refine zg_if_neT F (tgt := 46) dX_part_33 (by decide) (h3) ?_
  refine zg_aload_n F 0 rfl rfl dX_part_46 ?_
  refine zg_get F (fun _ _ h => zx_g0 h) rfl zi_X 8 (by decide) rfl zk_113 rfl dX_part_47 ?_
  refine zg_get F (fun _ _ h => zx_J1 hj h) rfl zi_J 1 (by decide) rfl zk_39 rfl dX_part_50 ?_
  refine zg_iconst F (v := nI 4) (by decide) dX_part_53 ?_
  refine zg_icmp_neT F (tgt := 67) dX_part_54 (by decide) (fun q => by have g := (nI_eq (by omega) (by omega)).mp q; omega) ?_
  refine zg_aload_n F 0 rfl rfl dX_part_67 ?_
  refine zg_get F (fun _ _ h => zx_g0 h) rfl zi_X 8 (by decide) rfl zk_113 rfl dX_part_68 ?_
  refine zg_iload_n F 1 rfl rfl dX_part_71 ?_
  refine zg_iload_n F 2 rfl rfl dX_part_72 ?_
  refine zg_iload_n F 3 rfl rfl dX_part_73 ?_
  refine zg_callV F (zJ_addPart _ _ _ _ x sz v τ (τ 0).2.2.2 s a b d f hs hab hb hj) zv_J_addPart zu_J_addPart zk_279 (fun _ _ h => zx_J1 hj h) rfl rfl ⟨by decide, by decide⟩ ⟨by decide, by decide⟩ rfl (Nat.le_of_ble_eq_true rfl) dX_part_74 ?_
  have hj2 : zx_J (zk_A K) x (zg_u (zg_u v ((τ 0).2.2.2 + 1) (.inl (zk_A K 0, 16, .inl (zx_adp f s a (b - a))))) (τ 0).2.2.2 (.inr (0, [.ref ((τ 0).2.2.2 + 1), .int (nI (d + 1))]))) (τ 0).2.2.2 (zx_adp f s a (b - a)) (nI (d + 1)) := ⟨hj.1, hj.2.1, zg_us _ _ _, by rw [zg_un (by omega)]; exact zg_us _ _ _⟩
  refine zg_aload_n F 0 rfl rfl dX_part_77 ?_
  refine zg_get F (fun _ _ h => zx_g0 h) rfl zi_X 8 (by decide) rfl zk_113 rfl dX_part_78 ?_
  refine zg_get F (fun _ _ h => zx_J1 hj2 h) rfl zi_J 1 (by decide) rfl zk_39 rfl dX_part_81 ?_
  exact zg_iret F E (by decide) (by decide) (fun _ _ h => h) dX_part_84
set_option maxRecDepth 100000 in
set_option maxHeartbeats 4000000 in
theorem zX_price (l : Launch) (D : va_G) (A : Nat → ClassId) (base : Nat) (x sz : Nat) (v : zg_w) (τ : zx_S) (t T q : Nat) (ht : t < T) (hT8 : T ≤ 80) (hT : (τ 0).1 7 = nI T) (hq : (τ 7).2.2.1 t = some q) (port n can : Int32) (j : Nat) (c : Int64) (hk : zx_K A x v q port n j c can) : zg_Met l zm_X_price zc_X_price 2 (some .long) 1 0 0 D A base [.ref x, .int (nI t)] (zx_P A x v sz τ) (some (.long c)) (zx_P A x v sz τ) := by
  refine zg_met (by decide) (Nat.le_of_ble_eq_true rfl) ?_
  intro K hl0 hD0 hA0 hz0 hn hnm F E
  subst hl0 hD0 hA0 hz0
  show zg_G K (zx_P (zk_A K) x v sz τ) 0 0 0 [(0, .ref x), (1, .int (nI t))] []
  refine zg_aload_n F 0 rfl rfl dX_price_0 ?_
  refine zg_iload_n F 1 rfl rfl dX_price_1 ?_
  refine zg_callV F (zX_checkTicket _ _ _ _ x sz v τ t T ht hT8 hT) zv_X_checkTicket zu_X_checkTicket zk_384 (fun _ _ h => zx_g0 h) rfl rfl ⟨by decide, by decide⟩ ⟨by decide, by decide⟩ rfl (Nat.le_of_ble_eq_true rfl) dX_price_2 ?_
  refine zg_aload_n F 0 rfl rfl dX_price_5 ?_
  refine zg_get F (fun _ _ h => zx_g0 h) rfl zi_X 6 (by decide) rfl zk_111 rfl dX_price_6 ?_
  refine zg_iload_n F 1 rfl rfl dX_price_9 ?_
  refine zg_aald F (t0 := 5) (C := "IslandRights$Ticket") (fun _ _ h => zx_g7 h) rfl (by show _ < 80; omega) (by decide) hq dX_price_10 ?_
  refine zg_get F (fun _ _ h => zx_K1 hk h) rfl zi_T 3 (by decide) rfl zk_333 rfl dX_price_11 ?_
  exact zg_lret F E (by decide) (by decide) (fun _ _ h => h) dX_price_14
set_option maxRecDepth 100000 in
set_option maxHeartbeats 4000000 in
theorem zX_ticket (l : Launch) (D : va_G) (A : Nat → ClassId) (base : Nat) (x sz : Nat) (v : zg_w) (τ : zx_S) (t T q : Nat) (ht : t < T) (hT8 : T ≤ 80) (hT : (τ 0).1 7 = nI T) (hq : (τ 7).2.2.1 t = some q) (port n can : Int32) (j : Nat) (c : Int64) (hk : zx_K A x v q port n j c can) (f : Nat → Int32) (pn : Int32) (hj : zx_J A x v j f pn) (what : Int32) (h1 : ¬ what < 0) (h2 : ¬ nI 3 < what) : zg_Met l zm_X_ticket zc_X_ticket 4 (some .int) 1 0 0 D A base [.ref x, .int (nI t), .int what] (zx_P A x v sz τ) (some (.int (if what = 0 then port else if what = nI 1 then n else if what = nI 2 then pn else if can = 0 then nI 1 else nI 0))) (zx_P A x v sz τ) := by
  refine zg_met (by decide) (Nat.le_of_ble_eq_true rfl) ?_
  intro K hl0 hD0 hA0 hz0 hn hnm F E
  subst hl0 hD0 hA0 hz0
  show zg_G K (zx_P (zk_A K) x v sz τ) 0 0 0 [(0, .ref x), (1, .int (nI t)), (2, .int what)] []
  refine zg_aload_n F 0 rfl rfl dX_ticket_0 ?_
  refine zg_iload_n F 1 rfl rfl dX_ticket_1 ?_
  refine zg_callV F (zX_checkTicket _ _ _ _ x sz v τ t T ht hT8 hT) zv_X_checkTicket zu_X_checkTicket zk_384 (fun _ _ h => zx_g0 h) rfl rfl ⟨by decide, by decide⟩ ⟨by decide, by decide⟩ rfl (Nat.le_of_ble_eq_true rfl) dX_ticket_2 ?_
  refine zg_aload_n F 0 rfl rfl dX_ticket_5 ?_
  refine zg_get F (fun _ _ h => zx_g0 h) rfl zi_X 6 (by decide) rfl zk_111 rfl dX_ticket_6 ?_
  refine zg_iload_n F 1 rfl rfl dX_ticket_9 ?_
  refine zg_aald F (t0 := 5) (C := "IslandRights$Ticket") (fun _ _ h => zx_g7 h) rfl (by show _ < 80; omega) (by decide) hq dX_ticket_10 ?_
  refine zg_astore_n F rfl (by rw [hn]; decide) (L' := [(3, _), (0, _), (1, _), (2, _)]) rfl dX_ticket_11 ?_
  refine zg_iload_n F 3 rfl rfl dX_ticket_12 ?_
  obtain ⟨u, hu, rfl⟩ : ∃ u, u ≤ 3 ∧ what = nI u := nI_of2 (M := nI 3) (n := 3) (by decide) h1 (Int32.not_lt.mp h2)
  have hti : (nI u).toInt = (u : Int) := nI_toInt (by omega)
  rcases (show u = 0 ∨ u = 1 ∨ u = 2 ∨ u = 3 by omega) with rfl | rfl | rfl | rfl
  · refine zg_tabI F (tgt := 44) dX_ticket_13 (by rw [hti]; decide) (by rw [hti]; decide) (off := 31) (by rw [hti]; rfl) (by decide) ?_
    rw [if_pos (by decide)] at E
    refine zg_aload_n F 0 rfl rfl dX_ticket_44 ?_
    refine zg_get F (fun _ _ h => zx_K1 hk h) rfl zi_T 0 (by decide) rfl zk_327 rfl dX_ticket_45 ?_
    exact zg_iret F E (by decide) (by decide) (fun _ _ h => h) dX_ticket_48
  · refine zg_tabI F (tgt := 49) dX_ticket_13 (by rw [hti]; decide) (by rw [hti]; decide) (off := 36) (by rw [hti]; rfl) (by decide) ?_
    rw [if_neg (by decide), if_pos (by decide)] at E
    refine zg_aload_n F 0 rfl rfl dX_ticket_49 ?_
    refine zg_get F (fun _ _ h => zx_K1 hk h) rfl zi_T 1 (by decide) rfl zk_329 rfl dX_ticket_50 ?_
    exact zg_iret F E (by decide) (by decide) (fun _ _ h => h) dX_ticket_53
  · refine zg_tabI F (tgt := 54) dX_ticket_13 (by rw [hti]; decide) (by rw [hti]; decide) (off := 41) (by rw [hti]; rfl) (by decide) ?_
    rw [if_neg (by decide), if_neg (by decide), if_pos (by decide)] at E
    refine zg_aload_n F 0 rfl rfl dX_ticket_54 ?_
    refine zg_get F (fun _ _ h => zx_K1 hk h) rfl zi_T 2 (by decide) rfl zk_331 rfl dX_ticket_55 ?_
    refine zg_get F (fun _ _ h => zx_J1 hj h) rfl zi_J 1 (by decide) rfl zk_39 rfl dX_ticket_58 ?_
    exact zg_iret F E (by decide) (by decide) (fun _ _ h => h) dX_ticket_61
  · refine zg_tabI F (tgt := 62) dX_ticket_13 (by rw [hti]; decide) (by rw [hti]; decide) (off := 49) (by rw [hti]; rfl) (by decide) ?_
    rw [if_neg (by decide), if_neg (by decide), if_neg (by decide)] at E
    refine zg_aload_n F 0 rfl rfl dX_ticket_62 ?_
    refine zg_get F (fun _ _ h => zx_K1 hk h) rfl zi_T 4 (by decide) rfl zk_335 rfl dX_ticket_63 ?_
    by_cases hc : can = 0
    · rw [if_pos hc] at E
      refine zg_if_eqT F (tgt := 73) dX_ticket_66 (by decide) (hc) ?_
      refine zg_iconst F (v := nI 1) (by decide) dX_ticket_73 ?_
      exact zg_iret F E (by decide) (by decide) (fun _ _ h => h) dX_ticket_74
    · rw [if_neg hc] at E
      refine zg_if_eqF F dX_ticket_66 (tgt := 73) (by decide) (hc) ?_
      refine zg_iconst F (v := nI 0) (by decide) dX_ticket_69 ?_
      refine zg_goto F (tgt := 74) dX_ticket_70 (by decide) ?_
      exact zg_iret F E (by decide) (by decide) (fun _ _ h => h) dX_ticket_74
set_option maxRecDepth 100000 in
set_option maxHeartbeats 4000000 in
theorem zX_lose (l : Launch) (D : va_G) (A : Nat → ClassId) (base : Nat) (x sz : Nat) (v : zg_w) (τ : zx_S) (a b : Nat) (ha : a < 4) (hb : b < 4) (hn0 : a ≠ b) : zg_Met l zm_X_lose zc_X_lose 3 (some .int) 2 0 0 D A base [.ref x, .int (nI a), .int (nI b)] (zx_P A x v sz τ) (some (.int (zx_lost τ (a * 4 + b)))) (zx_P A x v sz (zx_los τ (a * 4 + b))) := by
  refine zg_met (by decide) (Nat.le_of_ble_eq_true rfl) ?_
  intro K hl0 hD0 hA0 hz0 hn hnm F E
  subst hl0 hD0 hA0 hz0
  show zg_G K (zx_P (zk_A K) x v sz τ) 0 0 0 [(0, .ref x), (1, .int (nI a)), (2, .int (nI b))] []
  refine zg_iload_n F 1 rfl rfl dX_lose_0 ?_
  refine zg_iload_n F 2 rfl rfl dX_lose_1 ?_
  refine zg_callS F (zX_checkTwoPorts _ _ _ _ _ a b ha hb hn0) zv_X_checkTwoPorts zu_X_checkTwoPorts zk_453 rfl ⟨by decide, by decide⟩ ⟨by decide, by decide⟩ rfl (Nat.le_of_ble_eq_true rfl) dX_lose_2 ?_
  refine zg_aload_n F 0 rfl rfl dX_lose_5 ?_
  refine zg_iload_n F 1 rfl rfl dX_lose_6 ?_
  refine zg_iload_n F 2 rfl rfl dX_lose_7 ?_
  refine zg_callV F (zX_laneOf _ _ _ _ x sz v τ a b ha hb) zv_X_laneOf zu_X_laneOf zk_416 (fun _ _ h => zx_g0 h) rfl rfl ⟨by decide, by decide⟩ ⟨by decide, by decide⟩ rfl (Nat.le_of_ble_eq_true rfl) dX_lose_8 ?_
  refine zg_callV F (zN_loseAll _ _ _ _ x sz v τ (a * 4 + b) (by omega)) zv_N_loseAll zu_N_loseAll zk_486 (fun _ _ h => zx_gl h (by omega)) rfl rfl ⟨by decide, by decide⟩ ⟨by decide, by decide⟩ rfl (Nat.le_of_ble_eq_true rfl) dX_lose_11 ?_
  exact zg_iret F E (by decide) (by decide) (fun _ _ h => h) dX_lose_14
set_option maxRecDepth 100000 in
set_option maxHeartbeats 4000000 in
theorem zX_send0 (l : Launch) (D : va_G) (A : Nat → ClassId) (base : Nat) (x sz : Nat) (v : zg_w) (τ : zx_S) (a b : Nat) (ha : a < 4) (hb : b < 4) (hn0 : a ≠ b) (h : (τ (22 + 3 * (a * 4 + b))).1 3 = 0) : zg_Met l zm_X_send zc_X_send 4 (some .int) 2 0 0 D A base [.ref x, .int (nI a), .int (nI b)] (zx_P A x v sz τ) (some (.int (nI 0))) (zx_P A x v sz τ) := by
  refine zg_met (by decide) (Nat.le_of_ble_eq_true rfl) ?_
  intro K hl0 hD0 hA0 hz0 hn hnm F E
  subst hl0 hD0 hA0 hz0
  show zg_G K (zx_P (zk_A K) x v sz τ) 0 0 0 [(0, .ref x), (1, .int (nI a)), (2, .int (nI b))] []
  refine zg_iload_n F 1 rfl rfl dX_send_0 ?_
  refine zg_iload_n F 2 rfl rfl dX_send_1 ?_
  refine zg_callS F (zX_checkTwoPorts _ _ _ _ _ a b ha hb hn0) zv_X_checkTwoPorts zu_X_checkTwoPorts zk_453 rfl ⟨by decide, by decide⟩ ⟨by decide, by decide⟩ rfl (Nat.le_of_ble_eq_true rfl) dX_send_2 ?_
  refine zg_aload_n F 0 rfl rfl dX_send_5 ?_
  refine zg_iload_n F 1 rfl rfl dX_send_6 ?_
  refine zg_iload_n F 2 rfl rfl dX_send_7 ?_
  refine zg_callV F (zX_laneOf _ _ _ _ x sz v τ a b ha hb) zv_X_laneOf zu_X_laneOf zk_416 (fun _ _ h => zx_g0 h) rfl rfl ⟨by decide, by decide⟩ ⟨by decide, by decide⟩ rfl (Nat.le_of_ble_eq_true rfl) dX_send_8 ?_
  refine zg_astore_n F rfl (by rw [hn]; decide) (L' := [(3, _), (0, _), (1, _), (2, _)]) rfl dX_send_11 ?_
  refine zg_aload_n F 0 rfl rfl dX_send_12 ?_
  refine zg_get F (fun _ _ h => zx_gl h (by omega)) rfl zi_N 3 (by decide) rfl zk_83 rfl dX_send_13 ?_
  refine zg_if_neF F dX_send_16 (tgt := 21) (by decide) (h) ?_
  refine zg_iconst F (v := nI 0) (by decide) dX_send_19 ?_
  exact zg_iret F E (by decide) (by decide) (fun _ _ h => h) dX_send_20
set_option maxRecDepth 100000 in
set_option maxHeartbeats 4000000 in
theorem zX_send (l : Launch) (D : va_G) (A : Nat → ClassId) (base : Nat) (x sz : Nat) (v : zg_w) (τ : zx_S) (a b : Nat) (ha : a < 4) (hb : b < 4) (hn0 : a ≠ b) (h : ¬ (τ (22 + 3 * (a * 4 + b))).1 3 = 0) : zg_Met l zm_X_send zc_X_send 4 (some .int) 2 0 0 D A base [.ref x, .int (nI a), .int (nI b)] (zx_P A x v sz τ) (some (.int ((τ (22 + 3 * (a * 4 + b))).1 2 + nI 1))) (zx_P A x v sz (zxI τ (22 + 3 * (a * 4 + b)) 5 ((τ (22 + 3 * (a * 4 + b))).1 2 + nI 1))) := by
  refine zg_met (by decide) (Nat.le_of_ble_eq_true rfl) ?_
  intro K hl0 hD0 hA0 hz0 hn hnm F E
  subst hl0 hD0 hA0 hz0
  show zg_G K (zx_P (zk_A K) x v sz τ) 0 0 0 [(0, .ref x), (1, .int (nI a)), (2, .int (nI b))] []
  refine zg_iload_n F 1 rfl rfl dX_send_0 ?_
  refine zg_iload_n F 2 rfl rfl dX_send_1 ?_
  refine zg_callS F (zX_checkTwoPorts _ _ _ _ _ a b ha hb hn0) zv_X_checkTwoPorts zu_X_checkTwoPorts zk_453 rfl ⟨by decide, by decide⟩ ⟨by decide, by decide⟩ rfl (Nat.le_of_ble_eq_true rfl) dX_send_2 ?_
  refine zg_aload_n F 0 rfl rfl dX_send_5 ?_
  refine zg_iload_n F 1 rfl rfl dX_send_6 ?_
  refine zg_iload_n F 2 rfl rfl dX_send_7 ?_
  refine zg_callV F (zX_laneOf _ _ _ _ x sz v τ a b ha hb) zv_X_laneOf zu_X_laneOf zk_416 (fun _ _ h => zx_g0 h) rfl rfl ⟨by decide, by decide⟩ ⟨by decide, by decide⟩ rfl (Nat.le_of_ble_eq_true rfl) dX_send_8 ?_
  refine zg_astore_n F rfl (by rw [hn]; decide) (L' := [(3, _), (0, _), (1, _), (2, _)]) rfl dX_send_11 ?_
  refine zg_aload_n F 0 rfl rfl dX_send_12 ?_
  refine zg_get F (fun _ _ h => zx_gl h (by omega)) rfl zi_N 3 (by decide) rfl zk_83 rfl dX_send_13 ?_
  refine zg_if_neT F (tgt := 21) dX_send_16 (by decide) (h) ?_
  refine zg_aload_n F 0 rfl rfl dX_send_21 ?_
  refine zg_aload_n F 0 rfl rfl dX_send_22 ?_
  refine zg_get F (fun _ _ h => zx_gl h (by omega)) rfl zi_N 2 (by decide) rfl zk_81 rfl dX_send_23 ?_
  refine zg_iconst F (v := nI 1) (by decide) dX_send_26 ?_
  refine zg_iadd F rfl dX_send_27 ?_
  refine zg_put F (fun _ _ h => zx_gl h (by omega)) rfl zi_N zy_N zt_N zn_N 5 (by decide) rfl zk_87 rfl rfl rfl rfl (Nat.le_of_ble_eq_true rfl) (fun w z h => zx_pl (by omega) 5 (by decide) _ w z h) dX_send_28 ?_
  refine zg_aload_n F 0 rfl rfl dX_send_31 ?_
  refine zg_get F (fun _ _ h => zx_gl h (by omega)) rfl zi_N 5 (by decide) rfl zk_87 rfl dX_send_32 ?_
  refine zg_eqi (zxI_s) ?_
  exact zg_iret F E (by decide) (by decide) (fun _ _ h => h) dX_send_35
set_option maxRecDepth 100000 in
set_option maxHeartbeats 4000000 in
theorem zX_receipt0 (l : Launch) (D : va_G) (A : Nat → ClassId) (base : Nat) (x sz : Nat) (v : zg_w) (τ : zx_S) (a b : Nat) (ha : a < 4) (hb : b < 4) (hn0 : a ≠ b) (h : (τ (22 + 3 * (a * 4 + b))).1 6 = 0) : zg_Met l zm_X_receipt zc_X_receipt 5 (some .int) 2 0 0 D A base [.ref x, .int (nI a), .int (nI b)] (zx_P A x v sz τ) (some (.int (-1))) (zx_P A x v sz τ) := by
  refine zg_met (by decide) (Nat.le_of_ble_eq_true rfl) ?_
  intro K hl0 hD0 hA0 hz0 hn hnm F E
  subst hl0 hD0 hA0 hz0
  show zg_G K (zx_P (zk_A K) x v sz τ) 0 0 0 [(0, .ref x), (1, .int (nI a)), (2, .int (nI b))] []
  refine zg_iload_n F 1 rfl rfl dX_receipt_0 ?_
  refine zg_iload_n F 2 rfl rfl dX_receipt_1 ?_
  refine zg_callS F (zX_checkTwoPorts _ _ _ _ _ a b ha hb hn0) zv_X_checkTwoPorts zu_X_checkTwoPorts zk_453 rfl ⟨by decide, by decide⟩ ⟨by decide, by decide⟩ rfl (Nat.le_of_ble_eq_true rfl) dX_receipt_2 ?_
  refine zg_aload_n F 0 rfl rfl dX_receipt_5 ?_
  refine zg_iload_n F 1 rfl rfl dX_receipt_6 ?_
  refine zg_iload_n F 2 rfl rfl dX_receipt_7 ?_
  refine zg_callV F (zX_laneOf _ _ _ _ x sz v τ a b ha hb) zv_X_laneOf zu_X_laneOf zk_416 (fun _ _ h => zx_g0 h) rfl rfl ⟨by decide, by decide⟩ ⟨by decide, by decide⟩ rfl (Nat.le_of_ble_eq_true rfl) dX_receipt_8 ?_
  refine zg_astore_n F rfl (by rw [hn]; decide) (L' := [(3, _), (0, _), (1, _), (2, _)]) rfl dX_receipt_11 ?_
  refine zg_aload_n F 0 rfl rfl dX_receipt_12 ?_
  refine zg_get F (fun _ _ h => zx_gl h (by omega)) rfl zi_N 6 (by decide) rfl zk_89 rfl dX_receipt_13 ?_
  refine zg_if_neF F dX_receipt_16 (tgt := 21) (by decide) (h) ?_
  refine zg_iconst F (v := -1) (by decide) dX_receipt_19 ?_
  exact zg_iret F E (by decide) (by decide) (fun _ _ h => h) dX_receipt_20
set_option maxRecDepth 100000 in
set_option maxHeartbeats 4000000 in
theorem zX_receipt (l : Launch) (D : va_G) (A : Nat → ClassId) (base : Nat) (x sz : Nat) (v : zg_w) (τ : zx_S) (a b : Nat) (ha : a < 4) (hb : b < 4) (hn0 : a ≠ b) (h : ¬ (τ (22 + 3 * (a * 4 + b))).1 6 = 0) : zg_Met l zm_X_receipt zc_X_receipt 5 (some .int) 2 0 0 D A base [.ref x, .int (nI a), .int (nI b)] (zx_P A x v sz τ) (some (.int ((τ (22 + 3 * (a * 4 + b))).1 6 - (zxI τ (22 + 3 * (a * 4 + b)) 6 (nI 0) (22 + 3 * (a * 4 + b))).1 2))) (zx_P A x v sz (zx_rem (zxI τ (22 + 3 * (a * 4 + b)) 6 (nI 0)) (a * 4 + b) ((τ (22 + 3 * (a * 4 + b))).1 6))) := by
  refine zg_met (by decide) (Nat.le_of_ble_eq_true rfl) ?_
  intro K hl0 hD0 hA0 hz0 hn hnm F E
  subst hl0 hD0 hA0 hz0
  show zg_G K (zx_P (zk_A K) x v sz τ) 0 0 0 [(0, .ref x), (1, .int (nI a)), (2, .int (nI b))] []
  refine zg_iload_n F 1 rfl rfl dX_receipt_0 ?_
  refine zg_iload_n F 2 rfl rfl dX_receipt_1 ?_
  refine zg_callS F (zX_checkTwoPorts _ _ _ _ _ a b ha hb hn0) zv_X_checkTwoPorts zu_X_checkTwoPorts zk_453 rfl ⟨by decide, by decide⟩ ⟨by decide, by decide⟩ rfl (Nat.le_of_ble_eq_true rfl) dX_receipt_2 ?_
  refine zg_aload_n F 0 rfl rfl dX_receipt_5 ?_
  refine zg_iload_n F 1 rfl rfl dX_receipt_6 ?_
  refine zg_iload_n F 2 rfl rfl dX_receipt_7 ?_
  refine zg_callV F (zX_laneOf _ _ _ _ x sz v τ a b ha hb) zv_X_laneOf zu_X_laneOf zk_416 (fun _ _ h => zx_g0 h) rfl rfl ⟨by decide, by decide⟩ ⟨by decide, by decide⟩ rfl (Nat.le_of_ble_eq_true rfl) dX_receipt_8 ?_
  refine zg_astore_n F rfl (by rw [hn]; decide) (L' := [(3, _), (0, _), (1, _), (2, _)]) rfl dX_receipt_11 ?_
  refine zg_aload_n F 0 rfl rfl dX_receipt_12 ?_
  refine zg_get F (fun _ _ h => zx_gl h (by omega)) rfl zi_N 6 (by decide) rfl zk_89 rfl dX_receipt_13 ?_
  refine zg_if_neT F (tgt := 21) dX_receipt_16 (by decide) (h) ?_
  refine zg_aload_n F 0 rfl rfl dX_receipt_21 ?_
  refine zg_get F (fun _ _ h => zx_gl h (by omega)) rfl zi_N 6 (by decide) rfl zk_89 rfl dX_receipt_22 ?_
  refine zg_istore F (by rw [hn]; decide) (L' := [(4, _), (3, _), (0, _), (1, _), (2, _)]) rfl dX_receipt_25 ?_
  refine zg_aload_n F 1 rfl rfl dX_receipt_27 ?_
  refine zg_iconst F (v := nI 0) (by decide) dX_receipt_28 ?_
  refine zg_put F (fun _ _ h => zx_gl h (by omega)) rfl zi_N zy_N zt_N zn_N 6 (by decide) rfl zk_89 rfl rfl rfl rfl (Nat.le_of_ble_eq_true rfl) (fun w z h => zx_pl (by omega) 6 (by decide) _ w z h) dX_receipt_29 ?_
  refine zg_aload_n F 1 rfl rfl dX_receipt_32 ?_
  refine zg_iload F 0 rfl dX_receipt_33 ?_
  refine zg_callV F (zN_removeUpTo _ _ _ _ x sz v (zxI τ (22 + 3 * (a * 4 + b)) 6 (nI 0)) (a * 4 + b) _ (by omega)) zv_N_removeUpTo zu_N_removeUpTo zk_475 (fun _ _ h => zx_gl h (by omega)) rfl rfl ⟨by decide, by decide⟩ ⟨by decide, by decide⟩ rfl (Nat.le_of_ble_eq_true rfl) dX_receipt_35 ?_
  exact zg_iret F E (by decide) (by decide) (fun _ _ h => h) dX_receipt_38
set_option maxRecDepth 100000 in
set_option maxHeartbeats 4000000 in
theorem zX_hand0 (l : Launch) (D : va_G) (A : Nat → ClassId) (base : Nat) (x sz : Nat) (v : zg_w) (τ : zx_S) (a b s leg : Nat) (n : Int32) (ha : a < 4) (hb : b < 4) (hs : s < 4) (hg : leg < 4) (hn0 : a ≠ b) (h1 : ¬ n < nI 1) (h2 : ¬ nI 100 < n) (h8 : ¬ (τ (22 + 3 * (a * 4 + b))).1 3 = nI 8) (h : (τ (10 + 3 * a + 1)).1 (s * 4 + leg) < n) : zg_Met l zm_X_hand zc_X_hand 7 (some .int) 4 0 0 D A base [.ref x, .int (nI a), .int (nI b), .int (nI s), .int (nI leg), .int n] (zx_P A x v sz τ) (some (.int (-1))) (zx_P A x v sz τ) := by
  refine zg_met (by decide) (Nat.le_of_ble_eq_true rfl) ?_
  intro K hl0 hD0 hA0 hz0 hn hnm F E
  subst hl0 hD0 hA0 hz0
  show zg_G K (zx_P (zk_A K) x v sz τ) 0 0 0 [(0, .ref x), (1, .int (nI a)), (2, .int (nI b)), (3, .int (nI s)), (4, .int (nI leg)), (5, .int n)] []
  refine zg_iload_n F 1 rfl rfl dX_hand_0 ?_
  refine zg_callS F (zX_checkPort _ _ _ _ _ a ha) zv_X_checkPort zu_X_checkPort zk_291 rfl ⟨by decide, by decide⟩ ⟨by decide, by decide⟩ rfl (Nat.le_of_ble_eq_true rfl) dX_hand_1 ?_
  refine zg_iload_n F 2 rfl rfl dX_hand_4 ?_
  refine zg_callS F (zX_checkPort _ _ _ _ _ b hb) zv_X_checkPort zu_X_checkPort zk_291 rfl ⟨by decide, by decide⟩ ⟨by decide, by decide⟩ rfl (Nat.le_of_ble_eq_true rfl) dX_hand_5 ?_
  refine zg_iload_n F 3 rfl rfl dX_hand_8 ?_
  refine zg_callS F (zX_checkSailing _ _ _ _ _ s hs) zv_X_checkSailing zu_X_checkSailing zk_143 rfl ⟨by decide, by decide⟩ ⟨by decide, by decide⟩ rfl (Nat.le_of_ble_eq_true rfl) dX_hand_9 ?_
  refine zg_iload F 4 rfl dX_hand_12 ?_
  refine zg_callS F (zX_checkLeg _ _ _ _ _ leg hg) zv_X_checkLeg zu_X_checkLeg zk_259 rfl ⟨by decide, by decide⟩ ⟨by decide, by decide⟩ rfl (Nat.le_of_ble_eq_true rfl) dX_hand_14 ?_
  refine zg_iload_n F 1 rfl rfl dX_hand_17 ?_
  refine zg_iload_n F 2 rfl rfl dX_hand_18 ?_
  refine zg_callS F (zX_checkDifferent _ _ _ _ _ a b ha hb hn0) zv_X_checkDifferent zu_X_checkDifferent zk_412 rfl ⟨by decide, by decide⟩ ⟨by decide, by decide⟩ rfl (Nat.le_of_ble_eq_true rfl) dX_hand_19 ?_
  refine zg_iload F 5 rfl dX_hand_22 ?_
  refine zg_callS F (zX_checkSeats _ _ _ _ _ n h1 h2) zv_X_checkSeats zu_X_checkSeats zk_214 rfl ⟨by decide, by decide⟩ ⟨by decide, by decide⟩ rfl (Nat.le_of_ble_eq_true rfl) dX_hand_24 ?_
  refine zg_aload_n F 0 rfl rfl dX_hand_27 ?_
  refine zg_iload_n F 1 rfl rfl dX_hand_28 ?_
  refine zg_iload_n F 2 rfl rfl dX_hand_29 ?_
  refine zg_callV F (zX_laneOf _ _ _ _ x sz v τ a b ha hb) zv_X_laneOf zu_X_laneOf zk_416 (fun _ _ h => zx_g0 h) rfl rfl ⟨by decide, by decide⟩ ⟨by decide, by decide⟩ rfl (Nat.le_of_ble_eq_true rfl) dX_hand_30 ?_
  refine zg_callV F (zN_isFull _ _ _ _ x sz v τ (a * 4 + b) (by omega)) zv_N_isFull zu_N_isFull zk_420 (fun _ _ h => zx_gl h (by omega)) rfl rfl ⟨by decide, by decide⟩ ⟨by decide, by decide⟩ rfl (Nat.le_of_ble_eq_true rfl) dX_hand_33 ?_
  refine zg_eqi (y := nI 0) (zb_f h8) ?_
  refine zg_if_eqT F (tgt := 49) dX_hand_36 (by decide) (rfl) ?_
  refine zg_iload_n F 3 rfl rfl dX_hand_49 ?_
  refine zg_iload F 4 rfl dX_hand_50 ?_
  refine zg_callS F (zX_placeOf _ _ _ _ _ s leg) zv_X_placeOf zu_X_placeOf zk_249 rfl ⟨by decide, by decide⟩ ⟨by decide, by decide⟩ rfl (Nat.le_of_ble_eq_true rfl) dX_hand_52 ?_
  refine zg_istore F (by rw [hn]; decide) (L' := [(6, _), (0, _), (1, _), (2, _), (3, _), (4, _), (5, _)]) rfl dX_hand_55 ?_
  refine zg_aload_n F 1 rfl rfl dX_hand_57 ?_
  refine zg_get F (fun _ _ h => zx_g0 h) rfl zi_X 4 (by decide) rfl zk_109 rfl dX_hand_58 ?_
  refine zg_iload_n F 2 rfl rfl dX_hand_61 ?_
  refine zg_aald F (t0 := 3) (C := "IslandRights$Port") (fun _ _ h => zx_g5 h) rfl (by show _ < 4; omega) (by decide) (if_pos (by omega)) dX_hand_62 ?_
  refine zg_get F (fun _ _ h => zx_gp h (by omega)) rfl zi_P 0 (by decide) rfl zk_55 rfl dX_hand_63 ?_
  refine zg_iload F 0 rfl dX_hand_66 ?_
  refine zg_iald F (fun _ _ h => zx_go h (i := a) (by omega)) (by show _ < 16; omega) (by decide) rfl dX_hand_68 ?_
  refine zg_iload F 6 rfl dX_hand_69 ?_
  refine zg_icmp_geF F dX_hand_71 (tgt := 78) (by decide) (Int32.not_le.mpr h) ?_
  refine zg_iconst F (v := -1) (by decide) dX_hand_74 ?_
  refine zg_goto F (tgt := 88) dX_hand_75 (by decide) ?_
  exact zg_iret F E (by decide) (by decide) (fun _ _ h => h) dX_hand_88
set_option maxRecDepth 100000 in
set_option maxHeartbeats 4000000 in
theorem zX_hand (l : Launch) (D : va_G) (A : Nat → ClassId) (base : Nat) (x sz : Nat) (v : zg_w) (τ : zx_S) (a b s leg : Nat) (n : Int32) (ha : a < 4) (hb : b < 4) (hs : s < 4) (hg : leg < 4) (hn0 : a ≠ b) (h1 : ¬ n < nI 1) (h2 : ¬ nI 100 < n) (h8 : ¬ (τ (22 + 3 * (a * 4 + b))).1 3 = nI 8) (g bx : Nat) (h : ¬ (τ (10 + 3 * a + 1)).1 (s * 4 + leg) < n) (hgo : (τ (22 + 3 * (a * 4 + b))).1 2 = nI g) (hbx : (τ (22 + 3 * (a * 4 + b))).1 3 = nI bx) (hlt : g + (bx + 1) < 2 ^ 31) : zg_Met l zm_X_hand zc_X_hand 7 (some .int) 4 0 0 D A base [.ref x, .int (nI a), .int (nI b), .int (nI s), .int (nI leg), .int n] (zx_P A x v sz τ) (some (.int (nI (g + (bx + 1))))) (zx_P A x v sz (zx_add (zx_put τ a (s * 4 + leg) n) (a * 4 + b) g bx (s * 4 + leg) n)) := by
  refine zg_met (by decide) (Nat.le_of_ble_eq_true rfl) ?_
  intro K hl0 hD0 hA0 hz0 hn hnm F E
  subst hl0 hD0 hA0 hz0
  show zg_G K (zx_P (zk_A K) x v sz τ) 0 0 0 [(0, .ref x), (1, .int (nI a)), (2, .int (nI b)), (3, .int (nI s)), (4, .int (nI leg)), (5, .int n)] []
  refine zg_iload_n F 1 rfl rfl dX_hand_0 ?_
  refine zg_callS F (zX_checkPort _ _ _ _ _ a ha) zv_X_checkPort zu_X_checkPort zk_291 rfl ⟨by decide, by decide⟩ ⟨by decide, by decide⟩ rfl (Nat.le_of_ble_eq_true rfl) dX_hand_1 ?_
  refine zg_iload_n F 2 rfl rfl dX_hand_4 ?_
  refine zg_callS F (zX_checkPort _ _ _ _ _ b hb) zv_X_checkPort zu_X_checkPort zk_291 rfl ⟨by decide, by decide⟩ ⟨by decide, by decide⟩ rfl (Nat.le_of_ble_eq_true rfl) dX_hand_5 ?_
  refine zg_iload_n F 3 rfl rfl dX_hand_8 ?_
  refine zg_callS F (zX_checkSailing _ _ _ _ _ s hs) zv_X_checkSailing zu_X_checkSailing zk_143 rfl ⟨by decide, by decide⟩ ⟨by decide, by decide⟩ rfl (Nat.le_of_ble_eq_true rfl) dX_hand_9 ?_
  refine zg_iload F 4 rfl dX_hand_12 ?_
  refine zg_callS F (zX_checkLeg _ _ _ _ _ leg hg) zv_X_checkLeg zu_X_checkLeg zk_259 rfl ⟨by decide, by decide⟩ ⟨by decide, by decide⟩ rfl (Nat.le_of_ble_eq_true rfl) dX_hand_14 ?_
  refine zg_iload_n F 1 rfl rfl dX_hand_17 ?_
  refine zg_iload_n F 2 rfl rfl dX_hand_18 ?_
  refine zg_callS F (zX_checkDifferent _ _ _ _ _ a b ha hb hn0) zv_X_checkDifferent zu_X_checkDifferent zk_412 rfl ⟨by decide, by decide⟩ ⟨by decide, by decide⟩ rfl (Nat.le_of_ble_eq_true rfl) dX_hand_19 ?_
  refine zg_iload F 5 rfl dX_hand_22 ?_
  refine zg_callS F (zX_checkSeats _ _ _ _ _ n h1 h2) zv_X_checkSeats zu_X_checkSeats zk_214 rfl ⟨by decide, by decide⟩ ⟨by decide, by decide⟩ rfl (Nat.le_of_ble_eq_true rfl) dX_hand_24 ?_
  refine zg_aload_n F 0 rfl rfl dX_hand_27 ?_
  refine zg_iload_n F 1 rfl rfl dX_hand_28 ?_
  refine zg_iload_n F 2 rfl rfl dX_hand_29 ?_
  refine zg_callV F (zX_laneOf _ _ _ _ x sz v τ a b ha hb) zv_X_laneOf zu_X_laneOf zk_416 (fun _ _ h => zx_g0 h) rfl rfl ⟨by decide, by decide⟩ ⟨by decide, by decide⟩ rfl (Nat.le_of_ble_eq_true rfl) dX_hand_30 ?_
  refine zg_callV F (zN_isFull _ _ _ _ x sz v τ (a * 4 + b) (by omega)) zv_N_isFull zu_N_isFull zk_420 (fun _ _ h => zx_gl h (by omega)) rfl rfl ⟨by decide, by decide⟩ ⟨by decide, by decide⟩ rfl (Nat.le_of_ble_eq_true rfl) dX_hand_33 ?_
  refine zg_eqi (y := nI 0) (zb_f h8) ?_
  refine zg_if_eqT F (tgt := 49) dX_hand_36 (by decide) (rfl) ?_
  refine zg_iload_n F 3 rfl rfl dX_hand_49 ?_
  refine zg_iload F 4 rfl dX_hand_50 ?_
  refine zg_callS F (zX_placeOf _ _ _ _ _ s leg) zv_X_placeOf zu_X_placeOf zk_249 rfl ⟨by decide, by decide⟩ ⟨by decide, by decide⟩ rfl (Nat.le_of_ble_eq_true rfl) dX_hand_52 ?_
  refine zg_istore F (by rw [hn]; decide) (L' := [(6, _), (0, _), (1, _), (2, _), (3, _), (4, _), (5, _)]) rfl dX_hand_55 ?_
  refine zg_aload_n F 1 rfl rfl dX_hand_57 ?_
  refine zg_get F (fun _ _ h => zx_g0 h) rfl zi_X 4 (by decide) rfl zk_109 rfl dX_hand_58 ?_
  refine zg_iload_n F 2 rfl rfl dX_hand_61 ?_
  refine zg_aald F (t0 := 3) (C := "IslandRights$Port") (fun _ _ h => zx_g5 h) rfl (by show _ < 4; omega) (by decide) (if_pos (by omega)) dX_hand_62 ?_
  refine zg_get F (fun _ _ h => zx_gp h (by omega)) rfl zi_P 0 (by decide) rfl zk_55 rfl dX_hand_63 ?_
  refine zg_iload F 0 rfl dX_hand_66 ?_
  refine zg_iald F (fun _ _ h => zx_go h (i := a) (by omega)) (by show _ < 16; omega) (by decide) rfl dX_hand_68 ?_
  refine zg_iload F 6 rfl dX_hand_69 ?_
  refine zg_icmp_geT F (tgt := 78) dX_hand_71 (by decide) (Int32.not_lt.mp h) ?_
  refine zg_aload_n F 1 rfl rfl dX_hand_78 ?_
  refine zg_iload_n F 2 rfl rfl dX_hand_79 ?_
  refine zg_iload_n F 3 rfl rfl dX_hand_80 ?_
  refine zg_iload F 0 rfl dX_hand_81 ?_
  refine zg_iload F 6 rfl dX_hand_83 ?_
  refine zg_callV F (zX_putInOutbox _ _ _ _ x sz v τ a b (s * 4 + leg) g bx n ha hb (by omega) hgo hbx hlt) zv_X_putInOutbox zu_X_putInOutbox zk_425 (fun _ _ h => zx_g0 h) rfl rfl ⟨by decide, by decide⟩ ⟨by decide, by decide⟩ rfl (Nat.le_of_ble_eq_true rfl) dX_hand_85 ?_
  exact zg_iret F E (by decide) (by decide) (fun _ _ h => h) dX_hand_88
set_option maxRecDepth 100000 in
set_option maxHeartbeats 4000000 in
theorem zX_share (l : Launch) (D : va_G) (A : Nat → ClassId) (base : Nat) (x sz : Nat) (v : zg_w) (τ : zx_S) (a b s g bx : Nat) (ha : a < 4) (hb : b < 4) (hs : s < 4) (hn0 : a ≠ b) (hx : bx ≤ 8) (hgo : (τ (22 + 3 * (a * 4 + b))).1 2 = nI g) (hbx : (τ (22 + 3 * (a * 4 + b))).1 3 = nI bx) (hlt : g + 9 < 2 ^ 31) : zg_Met l zm_X_share zc_X_share 8 (some .int) 4 0 0 D A base [.ref x, .int (nI a), .int (nI b), .int (nI s)] (zx_P A x v sz τ) (some (.int (nI (zx_shr τ a b s g bx 4).2))) (zx_P A x v sz (zx_shr τ a b s g bx 4).1) := by
  refine zg_met (by decide) (Nat.le_of_ble_eq_true rfl) ?_
  intro K hl0 hD0 hA0 hz0 hn hnm F E
  subst hl0 hD0 hA0 hz0
  show zg_G K (zx_P (zk_A K) x v sz τ) 0 0 0 [(0, .ref x), (1, .int (nI a)), (2, .int (nI b)), (3, .int (nI s))] []
  refine zg_iload_n F 1 rfl rfl dX_share_0 ?_
  refine zg_callS F (zX_checkPort _ _ _ _ _ a ha) zv_X_checkPort zu_X_checkPort zk_291 rfl ⟨by decide, by decide⟩ ⟨by decide, by decide⟩ rfl (Nat.le_of_ble_eq_true rfl) dX_share_1 ?_
  refine zg_iload_n F 2 rfl rfl dX_share_4 ?_
  refine zg_callS F (zX_checkPort _ _ _ _ _ b hb) zv_X_checkPort zu_X_checkPort zk_291 rfl ⟨by decide, by decide⟩ ⟨by decide, by decide⟩ rfl (Nat.le_of_ble_eq_true rfl) dX_share_5 ?_
  refine zg_iload_n F 3 rfl rfl dX_share_8 ?_
  refine zg_callS F (zX_checkSailing _ _ _ _ _ s hs) zv_X_checkSailing zu_X_checkSailing zk_143 rfl ⟨by decide, by decide⟩ ⟨by decide, by decide⟩ rfl (Nat.le_of_ble_eq_true rfl) dX_share_9 ?_
  refine zg_iload_n F 1 rfl rfl dX_share_12 ?_
  refine zg_iload_n F 2 rfl rfl dX_share_13 ?_
  refine zg_callS F (zX_checkDifferent _ _ _ _ _ a b ha hb hn0) zv_X_checkDifferent zu_X_checkDifferent zk_412 rfl ⟨by decide, by decide⟩ ⟨by decide, by decide⟩ rfl (Nat.le_of_ble_eq_true rfl) dX_share_14 ?_
  refine zg_iconst F (v := nI 0) (by decide) dX_share_17 ?_
  refine zg_istore F (by rw [hn]; decide) (L' := [(4, _), (0, _), (1, _), (2, _), (3, _)]) rfl dX_share_18 ?_
  refine zg_iconst F (v := nI 0) (by decide) dX_share_20 ?_
  refine zg_istore F (by rw [hn]; decide) (L' := [(5, _), (4, _), (0, _), (1, _), (2, _), (3, _)]) rfl dX_share_21 ?_
  have loop : ∀ r i, i + r = 4 → zg_G K (zx_P (zk_A K) x v sz (zx_shr τ a b s g bx i).1) 0 0 23 [(5, .int (nI i)), (4, .int (nI (zx_shr τ a b s g bx i).2)), (0, .ref x), (1, .int (nI a)), (2, .int (nI b)), (3, .int (nI s))] [] := by
    intro r
    induction r with
    | zero =>
      intro i hi
      obtain rfl : i = 4 := by omega
      refine zg_iload F 0 rfl dX_share_23 ?_
      refine zg_iconst F (v := nI 4) (by decide) dX_share_25 ?_
      refine zg_icmp_geT F (tgt := 103) dX_share_26 (by decide) (nI_le (by omega) (by omega)) ?_
      refine zg_iload F 1 rfl dX_share_103 ?_
      exact zg_iret F E (by decide) (by decide) (fun _ _ h => h) dX_share_105
    | succ r ih =>
      intro i hi
      obtain ⟨g1, g2, g3⟩ := zx_shr_i (s := s) ha hgo hbx hx i
      have hgg := ih (i + 1) (by omega)
      rw [zx_shr] at hgg
      generalize zx_shr τ a b s g bx i = q at hgg g1 g2 g3 ⊢
      obtain ⟨S, m⟩ := q
      dsimp only at hgg g1 g2 g3 ⊢
      refine zg_iload F 0 rfl dX_share_23 ?_
      refine zg_iconst F (v := nI 4) (by decide) dX_share_25 ?_
      refine zg_icmp_geF F dX_share_26 (tgt := 103) (by decide) (nI_ge (by omega) (by omega)) ?_
      refine zg_iload_n F 5 rfl rfl dX_share_29 ?_
      refine zg_iload F 0 rfl dX_share_30 ?_
      refine zg_callS F (zX_placeOf _ _ _ _ _ s i) zv_X_placeOf zu_X_placeOf zk_249 rfl ⟨by decide, by decide⟩ ⟨by decide, by decide⟩ rfl (Nat.le_of_ble_eq_true rfl) dX_share_32 ?_
      refine zg_istore F (by rw [hn]; decide) (L' := [(6, _), (5, _), (4, _), (0, _), (1, _), (2, _), (3, _)]) rfl dX_share_35 ?_
      refine zg_aload_n F 3 rfl rfl dX_share_37 ?_
      refine zg_get F (fun _ _ h => zx_g0 h) rfl zi_X 4 (by decide) rfl zk_109 rfl dX_share_38 ?_
      refine zg_iload_n F 4 rfl rfl dX_share_41 ?_
      refine zg_aald F (t0 := 3) (C := "IslandRights$Port") (fun _ _ h => zx_g5 h) rfl (by show _ < 4; omega) (by decide) (if_pos (by omega)) dX_share_42 ?_
      refine zg_get F (fun _ _ h => zx_gp h (by omega)) rfl zi_P 0 (by decide) rfl zk_55 rfl dX_share_43 ?_
      refine zg_iload F 0 rfl dX_share_46 ?_
      refine zg_iald F (fun _ _ h => zx_go h (i := a) (by omega)) (by show _ < 16; omega) (by decide) rfl dX_share_48 ?_
      refine zg_aload_n F 3 rfl rfl dX_share_49 ?_
      refine zg_get F (fun _ _ h => zx_g0 h) rfl zi_X 4 (by decide) rfl zk_109 rfl dX_share_50 ?_
      refine zg_iload_n F 5 rfl rfl dX_share_53 ?_
      refine zg_aald F (t0 := 3) (C := "IslandRights$Port") (fun _ _ h => zx_g5 h) rfl (by show _ < 4; omega) (by decide) (if_pos (by omega)) dX_share_54 ?_
      refine zg_get F (fun _ _ h => zx_gp h (by omega)) rfl zi_P 0 (by decide) rfl zk_55 rfl dX_share_55 ?_
      refine zg_iload F 0 rfl dX_share_58 ?_
      refine zg_iald F (fun _ _ h => zx_go h (i := b) (by omega)) (by show _ < 16; omega) (by decide) rfl dX_share_60 ?_
      refine zg_isub F rfl dX_share_61 ?_
      refine zg_iconst F (v := nI 2) (by decide) dX_share_62 ?_
      refine zg_idiv F (by decide) rfl dX_share_63 ?_
      refine zg_istore F (by rw [hn]; decide) (L' := [(7, _), (6, _), (5, _), (4, _), (0, _), (1, _), (2, _), (3, _)]) rfl dX_share_64 ?_
      refine zg_iload F 0 rfl dX_share_66 ?_
      by_cases c1 : 0 < zx_half S a b (s * 4 + i)
      · refine zg_if_leF F dX_share_68 (tgt := 97) (by decide) (Int32.not_le.mpr c1) ?_
        refine zg_aload_n F 4 rfl rfl dX_share_71 ?_
        refine zg_iload_n F 5 rfl rfl dX_share_72 ?_
        refine zg_iload_n F 6 rfl rfl dX_share_73 ?_
        refine zg_callV F (zX_laneOf _ _ _ _ x sz v S a b ha hb) zv_X_laneOf zu_X_laneOf zk_416 (fun _ _ h => zx_g0 h) rfl rfl ⟨by decide, by decide⟩ ⟨by decide, by decide⟩ rfl (Nat.le_of_ble_eq_true rfl) dX_share_74 ?_
        refine zg_callV F (zN_isFull _ _ _ _ x sz v S (a * 4 + b) (by omega)) zv_N_isFull zu_N_isFull zk_420 (fun _ _ h => zx_gl h (by omega)) rfl rfl ⟨by decide, by decide⟩ ⟨by decide, by decide⟩ rfl (Nat.le_of_ble_eq_true rfl) dX_share_77 ?_
        by_cases c2 : bx + m = 8
        · refine zg_eqi (y := nI 1) (zb_t (by rw [g2, c2])) ?_
          rw [if_neg (fun q => q.2 c2)] at hgg
          refine zg_if_neT F (tgt := 97) dX_share_80 (by decide) (by decide) ?_
          refine zg_iinc F 2 rfl (by first | exact zc_inc _ | rfl) (by rw [hn]; decide) (L' := [(5, _), (7, _), (6, _), (4, _), (0, _), (1, _), (2, _), (3, _)]) rfl dX_share_97 ?_
          refine zg_goto F (tgt := 23) dX_share_100 (by decide) ?_
          refine zg_sub [0, 3, 4, 5, 6, 7] (L' := [(5, _), (4, _), (0, _), (1, _), (2, _), (3, _)]) rfl ?_
          exact hgg
        · refine zg_eqi (y := nI 0) (zb_f (by rw [g2]; exact fun q => c2 ((nI_eq (by omega) (by omega)).mp q))) ?_
          rw [if_pos ⟨c1, c2⟩] at hgg
          refine zg_if_neF F dX_share_80 (tgt := 97) (by decide) (rfl) ?_
          refine zg_aload_n F 4 rfl rfl dX_share_83 ?_
          refine zg_iload_n F 5 rfl rfl dX_share_84 ?_
          refine zg_iload_n F 6 rfl rfl dX_share_85 ?_
          refine zg_iload F 1 rfl dX_share_86 ?_
          refine zg_iload F 0 rfl dX_share_88 ?_
          refine zg_callV F (zX_putInOutbox _ _ _ _ x sz v S a b (s * 4 + i) g (bx + m) (zx_half S a b (s * 4 + i)) ha hb (by omega) g1 g2 (by omega)) zv_X_putInOutbox zu_X_putInOutbox zk_425 (fun _ _ h => zx_g0 h) rfl rfl ⟨by decide, by decide⟩ ⟨by decide, by decide⟩ rfl (Nat.le_of_ble_eq_true rfl) dX_share_90 ?_
          refine zg_pop F rfl dX_share_93 ?_
          refine zg_iinc F 3 rfl (by first | exact zc_inc _ | rfl) (by rw [hn]; decide) (L' := [(4, _), (7, _), (6, _), (5, _), (0, _), (1, _), (2, _), (3, _)]) rfl dX_share_94 ?_
          refine zg_iinc F 3 rfl (by first | exact zc_inc _ | rfl) (by rw [hn]; decide) (L' := [(5, _), (4, _), (7, _), (6, _), (0, _), (1, _), (2, _), (3, _)]) rfl dX_share_97 ?_
          refine zg_goto F (tgt := 23) dX_share_100 (by decide) ?_
          refine zg_sub [0, 1, 4, 5, 6, 7] (L' := [(5, _), (4, _), (0, _), (1, _), (2, _), (3, _)]) rfl ?_
          exact hgg
      · rw [if_neg (fun q => c1 q.1)] at hgg
        refine zg_if_leT F (tgt := 97) dX_share_68 (by decide) (Int32.not_lt.mp c1) ?_
        refine zg_iinc F 2 rfl (by first | exact zc_inc _ | rfl) (by rw [hn]; decide) (L' := [(5, _), (7, _), (6, _), (4, _), (0, _), (1, _), (2, _), (3, _)]) rfl dX_share_97 ?_
        refine zg_goto F (tgt := 23) dX_share_100 (by decide) ?_
        refine zg_sub [0, 3, 4, 5, 6, 7] (L' := [(5, _), (4, _), (0, _), (1, _), (2, _), (3, _)]) rfl ?_
        exact hgg
  exact loop 4 0 rfl
set_option maxRecDepth 100000 in
set_option maxHeartbeats 4000000 in
theorem zX_crash (l : Launch) (D : va_G) (A : Nat → ClassId) (base : Nat) (x sz : Nat) (v : zg_w) (τ : zx_S) (port : Nat) (hp : port < 4) : zg_Met l zm_X_crash zc_X_crash 4 (some .int) 2 0 0 D A base [.ref x, .int (nI port)] (zx_P A x v sz τ) (some (.int (zx_cra τ port 4).2)) (zx_P A x v sz (zx_cra τ port 4).1) := by
  refine zg_met (by decide) (Nat.le_of_ble_eq_true rfl) ?_
  intro K hl0 hD0 hA0 hz0 hn hnm F E
  subst hl0 hD0 hA0 hz0
  show zg_G K (zx_P (zk_A K) x v sz τ) 0 0 0 [(0, .ref x), (1, .int (nI port))] []
  refine zg_iload_n F 1 rfl rfl dX_crash_0 ?_
  refine zg_callS F (zX_checkPort _ _ _ _ _ port hp) zv_X_checkPort zu_X_checkPort zk_291 rfl ⟨by decide, by decide⟩ ⟨by decide, by decide⟩ rfl (Nat.le_of_ble_eq_true rfl) dX_crash_1 ?_
  refine zg_iconst F (v := nI 0) (by decide) dX_crash_4 ?_
  refine zg_istore_n F rfl (by rw [hn]; decide) (L' := [(2, _), (0, _), (1, _)]) rfl dX_crash_5 ?_
  refine zg_iconst F (v := nI 0) (by decide) dX_crash_6 ?_
  refine zg_istore_n F rfl (by rw [hn]; decide) (L' := [(3, _), (2, _), (0, _), (1, _)]) rfl dX_crash_7 ?_
  have loop : ∀ r i, i + r = 4 → zg_G K (zx_P (zk_A K) x v sz (zx_cra τ port i).1) 0 0 8 [(3, .int (nI i)), (2, .int (zx_cra τ port i).2), (0, .ref x), (1, .int (nI port))] [] := by
    intro r
    induction r with
    | zero =>
      intro i hi
      obtain rfl : i = 4 := by omega
      refine zg_iload_n F 0 rfl rfl dX_crash_8 ?_
      refine zg_iconst F (v := nI 4) (by decide) dX_crash_9 ?_
      refine zg_icmp_geT F (tgt := 46) dX_crash_10 (by decide) (nI_le (by omega) (by omega)) ?_
      refine zg_iload_n F 1 rfl rfl dX_crash_46 ?_
      exact zg_iret F E (by decide) (by decide) (fun _ _ h => h) dX_crash_47
    | succ r ih =>
      intro i hi
      have hgg := ih (i + 1) (by omega)
      rw [zx_cra] at hgg
      generalize zx_cra τ port i = q at hgg ⊢
      obtain ⟨S, m⟩ := q
      dsimp only at hgg ⊢
      refine zg_iload_n F 0 rfl rfl dX_crash_8 ?_
      refine zg_iconst F (v := nI 4) (by decide) dX_crash_9 ?_
      refine zg_icmp_geF F dX_crash_10 (tgt := 46) (by decide) (nI_ge (by omega) (by omega)) ?_
      refine zg_iload_n F 0 rfl rfl dX_crash_13 ?_
      refine zg_iload_n F 3 rfl rfl dX_crash_14 ?_
      by_cases c1 : i = port
      · rw [if_pos c1] at hgg
        refine zg_icmp_eqT F (tgt := 40) dX_crash_15 (by decide) (by rw [c1]) ?_
        refine zg_iinc F 0 rfl (by first | exact zc_inc _ | rfl) (by rw [hn]; decide) (L' := [(3, _), (2, _), (0, _), (1, _)]) rfl dX_crash_40 ?_
        refine zg_goto F (tgt := 8) dX_crash_43 (by decide) ?_
        exact hgg
      · rw [if_neg c1] at hgg
        refine zg_icmp_eqF F dX_crash_15 (tgt := 40) (by decide) (fun q => c1 ((nI_eq (by omega) (by omega)).mp q)) ?_
        refine zg_iload_n F 1 rfl rfl dX_crash_18 ?_
        refine zg_aload_n F 2 rfl rfl dX_crash_19 ?_
        refine zg_iload_n F 3 rfl rfl dX_crash_20 ?_
        refine zg_iload_n F 0 rfl rfl dX_crash_21 ?_
        refine zg_callV F (zX_laneOf _ _ _ _ x sz v S port i hp (by omega)) zv_X_laneOf zu_X_laneOf zk_416 (fun _ _ h => zx_g0 h) rfl rfl ⟨by decide, by decide⟩ ⟨by decide, by decide⟩ rfl (Nat.le_of_ble_eq_true rfl) dX_crash_22 ?_
        refine zg_callV F (zN_loseAll _ _ _ _ x sz v S (port * 4 + i) (by omega)) zv_N_loseAll zu_N_loseAll zk_486 (fun _ _ h => zx_gl h (by omega)) rfl rfl ⟨by decide, by decide⟩ ⟨by decide, by decide⟩ rfl (Nat.le_of_ble_eq_true rfl) dX_crash_25 ?_
        refine zg_aload_n F 2 rfl rfl dX_crash_28 ?_
        refine zg_iload_n F 0 rfl rfl dX_crash_29 ?_
        refine zg_iload_n F 3 rfl rfl dX_crash_30 ?_
        refine zg_callV F (zX_laneOf _ _ _ _ x sz v (zx_los S (port * 4 + i)) i port (by omega) hp) zv_X_laneOf zu_X_laneOf zk_416 (fun _ _ h => zx_g0 h) rfl rfl ⟨by decide, by decide⟩ ⟨by decide, by decide⟩ rfl (Nat.le_of_ble_eq_true rfl) dX_crash_31 ?_
        refine zg_callV F (zN_loseAll _ _ _ _ x sz v (zx_los S (port * 4 + i)) (i * 4 + port) (by omega)) zv_N_loseAll zu_N_loseAll zk_486 (fun _ _ h => zx_gl h (by omega)) rfl rfl ⟨by decide, by decide⟩ ⟨by decide, by decide⟩ rfl (Nat.le_of_ble_eq_true rfl) dX_crash_34 ?_
        refine zg_iadd F rfl dX_crash_37 ?_
        refine zg_iadd F rfl dX_crash_38 ?_
        refine zg_istore_n F rfl (by rw [hn]; decide) (L' := [(2, _), (3, _), (0, _), (1, _)]) rfl dX_crash_39 ?_
        refine zg_iinc F 1 rfl (by first | exact zc_inc _ | rfl) (by rw [hn]; decide) (L' := [(3, _), (2, _), (0, _), (1, _)]) rfl dX_crash_40 ?_
        refine zg_goto F (tgt := 8) dX_crash_43 (by decide) ?_
        exact hgg
  exact loop 4 0 rfl
