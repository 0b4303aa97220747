theorem zg_tabO {K : zg_K} {P : zg_P} {cells slots pc : Nat} {L : List (Nat × Value)} {st : List Value} {cc : ByteArray} {own : String} {rm : Room} (F : zg_F K cc own rm) {dflt lo hi : Int} {offs : Array Int} {len : Nat} {x : Int32} {tgt : Nat} (d : decode cc pc = .ok (.tableswitch dflt lo hi offs, len)) (h : x.toInt < lo ∨ hi < x.toInt) (ht : (pc : Int) + dflt = (tgt : Int)) (k : zg_G K P cells slots tgt L st) : zg_G K P cells slots pc L (.int x :: st) := fun w H locs ls h1 h2 h3 h4 => lv_tableOut F.1 F.2.1 d h ht (k w H locs ls h1 h2 h3 h4)
theorem zg_tabI {K : zg_K} {P : zg_P} {cells slots pc : Nat} {L : List (Nat × Value)} {st : List Value} {cc : ByteArray} {own : String} {rm : Room} (F : zg_F K cc own rm) {dflt lo hi : Int} {offs : Array Int} {len : Nat} {x : Int32} {off : Int} {tgt : Nat} (d : decode cc pc = .ok (.tableswitch dflt lo hi offs, len)) (g1 : ¬ x.toInt < lo) (g2 : ¬ hi < x.toInt) (ho : offs[(x.toInt - lo).toNat]? = some off) (ht : (pc : Int) + off = (tgt : Int)) (k : zg_G K P cells slots tgt L st) : zg_G K P cells slots pc L (.int x :: st) := fun w H locs ls h1 h2 h3 h4 => lv_tableIn F.1 F.2.1 d g1 g2 ho ht (k w H locs ls h1 h2 h3 h4)
set_option maxRecDepth 100000 in
set_option maxHeartbeats 4000000 in
theorem zX_open_x1 (l : Launch) (D : va_G) (A : Nat → ClassId) (base : Nat) (hl : l.stackTraces = false) (x sz : Nat) (v : zg_w) (τ : zx_S) (s seats : Int32) (h : ¬ ((¬ s < 0 ∧ ¬ nI 4 ≤ s))) : zg_XMet l zm_X_open zc_X_open 4 none 7 1 6 D A base [.ref x, .int s, .int seats] (zx_P A x v sz τ) "java/lang/IndexOutOfBoundsException" (zx_P A x v sz τ) := by
  refine zg_xmet (by decide) (Nat.le_of_ble_eq_true rfl) ?_
  intro K hl0 hD0 hA0 hz0 hn hnm F EX
  subst hl0 hD0 hA0 hz0
  show zg_G K (zx_P (zk_A K) x v sz τ) 0 0 0 [(0, .ref x), (1, .int s), (2, .int seats)] []
  refine zg_iload_n F 1 rfl rfl dX_open_0 ?_
  exact zg_xcallS F (zX_checkSailing_x _ _ _ _ hl _ s (h)) zv_X_checkSailing zu_X_checkSailing zk_143 rfl ⟨by decide, by decide⟩ ⟨by decide, by decide⟩ rfl (Nat.le_of_ble_eq_true rfl) dX_open_1 (zg_xout EX (by decide) (by decide) (fun _ _ h => h))
set_option maxRecDepth 100000 in
set_option maxHeartbeats 4000000 in
theorem zX_fare_x1 (l : Launch) (D : va_G) (A : Nat → ClassId) (base : Nat) (hl : l.stackTraces = false) (x sz : Nat) (v : zg_w) (τ : zx_S) (s leg f : Int32) (h : ¬ ((¬ s < 0 ∧ ¬ nI 4 ≤ s) ∧ (¬ leg < 0 ∧ ¬ nI 4 ≤ leg))) : zg_XMet l zm_X_fare zc_X_fare 4 none 7 1 6 D A base [.ref x, .int s, .int leg, .int f] (zx_P A x v sz τ) "java/lang/IndexOutOfBoundsException" (zx_P A x v sz τ) := by
  refine zg_xmet (by decide) (Nat.le_of_ble_eq_true rfl) ?_
  intro K hl0 hD0 hA0 hz0 hn hnm F EX
  subst hl0 hD0 hA0 hz0
  show zg_G K (zx_P (zk_A K) x v sz τ) 0 0 0 [(0, .ref x), (1, .int s), (2, .int leg), (3, .int f)] []
  refine zg_iload_n F 1 rfl rfl dX_fare_0 ?_
  by_cases g0 : ¬ s < 0 ∧ ¬ nI 4 ≤ s
  · obtain ⟨s0, hs, rfl⟩ := zz_nI (by decide) g0
    refine zg_callS F (zX_checkSailing _ _ _ _ _ s0 hs) zv_X_checkSailing zu_X_checkSailing zk_143 rfl ⟨by decide, by decide⟩ ⟨by decide, by decide⟩ rfl (Nat.le_of_ble_eq_true rfl) dX_fare_1 ?_
    refine zg_iload_n F 2 rfl rfl dX_fare_4 ?_
    exact zg_xcallS F (zX_checkLeg_x _ _ _ _ hl _ leg (fun q => h ⟨g0, q⟩)) zv_X_checkLeg zu_X_checkLeg zk_259 rfl ⟨by decide, by decide⟩ ⟨by decide, by decide⟩ rfl (Nat.le_of_ble_eq_true rfl) dX_fare_5 (zg_xout EX (by decide) (by decide) (fun _ _ h => h))
  · exact zg_xcallS F (zX_checkSailing_x _ _ _ _ hl _ s g0) zv_X_checkSailing zu_X_checkSailing zk_143 rfl ⟨by decide, by decide⟩ ⟨by decide, by decide⟩ rfl (Nat.le_of_ble_eq_true rfl) dX_fare_1 (zg_xout EX (by decide) (by decide) (fun _ _ h => h))
set_option maxRecDepth 100000 in
set_option maxHeartbeats 4000000 in
theorem zX_part_x1 (l : Launch) (D : va_G) (A : Nat → ClassId) (base : Nat) (hl : l.stackTraces = false) (x sz : Nat) (v : zg_w) (τ : zx_S) (s a b : Int32) (h : ¬ ((¬ s < 0 ∧ ¬ nI 4 ≤ s) ∧ (¬ a < 0 ∧ ¬ nI 5 ≤ a) ∧ (¬ b < 0 ∧ ¬ nI 5 ≤ b))) : zg_XMet l zm_X_part zc_X_part 4 (some .int) 7 1 6 D A base [.ref x, .int s, .int a, .int b] (zx_P A x v sz τ) "java/lang/IndexOutOfBoundsException" (zx_P A x v sz τ) := by
  refine zg_xmet (by decide) (Nat.le_of_ble_eq_true rfl) ?_
  intro K hl0 hD0 hA0 hz0 hn hnm F EX
  subst hl0 hD0 hA0 hz0
  show zg_G K (zx_P (zk_A K) x v sz τ) 0 0 0 [(0, .ref x), (1, .int s), (2, .int a), (3, .int b)] []
  refine zg_iload_n F 1 rfl rfl dX_part_0 ?_
  by_cases g0 : ¬ s < 0 ∧ ¬ nI 4 ≤ s
  · obtain ⟨s0, hs, rfl⟩ := zz_nI (by decide) g0
    refine zg_callS F (zX_checkSailing _ _ _ _ _ s0 hs) zv_X_checkSailing zu_X_checkSailing zk_143 rfl ⟨by decide, by decide⟩ ⟨by decide, by decide⟩ rfl (Nat.le_of_ble_eq_true rfl) dX_part_1 ?_
    refine zg_iload_n F 2 rfl rfl dX_part_4 ?_
    by_cases g1 : ¬ a < 0 ∧ ¬ nI 5 ≤ a
    · obtain ⟨a0, ha, rfl⟩ := zz_nI (by decide) g1
      refine zg_callS F (zX_checkStop _ _ _ _ _ a0 ha) zv_X_checkStop zu_X_checkStop zk_272 rfl ⟨by decide, by decide⟩ ⟨by decide, by decide⟩ rfl (Nat.le_of_ble_eq_true rfl) dX_part_5 ?_
      refine zg_iload_n F 3 rfl rfl dX_part_8 ?_
      exact zg_xcallS F (zX_checkStop_x _ _ _ _ hl _ b (fun q => h ⟨g0, g1, q⟩)) zv_X_checkStop zu_X_checkStop zk_272 rfl ⟨by decide, by decide⟩ ⟨by decide, by decide⟩ rfl (Nat.le_of_ble_eq_true rfl) dX_part_9 (zg_xout EX (by decide) (by decide) (fun _ _ h => h))
    · exact zg_xcallS F (zX_checkStop_x _ _ _ _ hl _ a g1) zv_X_checkStop zu_X_checkStop zk_272 rfl ⟨by decide, by decide⟩ ⟨by decide, by decide⟩ rfl (Nat.le_of_ble_eq_true rfl) dX_part_5 (zg_xout EX (by decide) (by decide) (fun _ _ h => h))
  · exact zg_xcallS F (zX_checkSailing_x _ _ _ _ hl _ s g0) zv_X_checkSailing zu_X_checkSailing zk_143 rfl ⟨by decide, by decide⟩ ⟨by decide, by decide⟩ rfl (Nat.le_of_ble_eq_true rfl) dX_part_1 (zg_xout EX (by decide) (by decide) (fun _ _ h => h))
set_option maxRecDepth 100000 in
set_option maxHeartbeats 4000000 in
theorem zX_buy_x1 (l : Launch) (D : va_G) (A : Nat → ClassId) (base : Nat) (hl : l.stackTraces = false) (x sz : Nat) (v : zg_w) (τ : zx_S) (port n : Int32) (h : ¬ ((¬ port < 0 ∧ ¬ nI 4 ≤ port))) : zg_XMet l zm_X_buy zc_X_buy 4 (some .int) 7 1 6 D A base [.ref x, .int port, .int n] (zx_P A x v sz τ) "java/lang/IndexOutOfBoundsException" (zx_P A x v sz τ) := by
  refine zg_xmet (by decide) (Nat.le_of_ble_eq_true rfl) ?_
  intro K hl0 hD0 hA0 hz0 hn hnm F EX
  subst hl0 hD0 hA0 hz0
  show zg_G K (zx_P (zk_A K) x v sz τ) 0 0 0 [(0, .ref x), (1, .int port), (2, .int n)] []
  refine zg_iload_n F 1 rfl rfl dX_buy_0 ?_
  exact zg_xcallS F (zX_checkPort_x _ _ _ _ hl _ port (h)) zv_X_checkPort zu_X_checkPort zk_291 rfl ⟨by decide, by decide⟩ ⟨by decide, by decide⟩ rfl (Nat.le_of_ble_eq_true rfl) dX_buy_1 (zg_xout EX (by decide) (by decide) (fun _ _ h => h))
set_option maxRecDepth 100000 in
set_option maxHeartbeats 4000000 in
theorem zX_wish_x1 (l : Launch) (D : va_G) (A : Nat → ClassId) (base : Nat) (hl : l.stackTraces = false) (x sz : Nat) (v : zg_w) (τ : zx_S) (port n : Int32) (h : ¬ ((¬ port < 0 ∧ ¬ nI 4 ≤ port))) : zg_XMet l zm_X_wish zc_X_wish 3 (some .int) 7 1 6 D A base [.ref x, .int port, .int n] (zx_P A x v sz τ) "java/lang/IndexOutOfBoundsException" (zx_P A x v sz τ) := by
  refine zg_xmet (by decide) (Nat.le_of_ble_eq_true rfl) ?_
  intro K hl0 hD0 hA0 hz0 hn hnm F EX
  subst hl0 hD0 hA0 hz0
  show zg_G K (zx_P (zk_A K) x v sz τ) 0 0 0 [(0, .ref x), (1, .int port), (2, .int n)] []
  refine zg_iload_n F 1 rfl rfl dX_wish_0 ?_
  exact zg_xcallS F (zX_checkPort_x _ _ _ _ hl _ port (h)) zv_X_checkPort zu_X_checkPort zk_291 rfl ⟨by decide, by decide⟩ ⟨by decide, by decide⟩ rfl (Nat.le_of_ble_eq_true rfl) dX_wish_1 (zg_xout EX (by decide) (by decide) (fun _ _ h => h))
set_option maxRecDepth 100000 in
set_option maxHeartbeats 4000000 in
theorem zX_hand_x1 (l : Launch) (D : va_G) (A : Nat → ClassId) (base : Nat) (hl : l.stackTraces = false) (x sz : Nat) (v : zg_w) (τ : zx_S) (a b s leg n : Int32) (h : ¬ ((¬ a < 0 ∧ ¬ nI 4 ≤ a) ∧ (¬ b < 0 ∧ ¬ nI 4 ≤ b) ∧ (¬ s < 0 ∧ ¬ nI 4 ≤ s) ∧ (¬ leg < 0 ∧ ¬ nI 4 ≤ leg))) : zg_XMet l zm_X_hand zc_X_hand 7 (some .int) 7 1 6 D A base [.ref x, .int a, .int b, .int s, .int leg, .int n] (zx_P A x v sz τ) "java/lang/IndexOutOfBoundsException" (zx_P A x v sz τ) := by
  refine zg_xmet (by decide) (Nat.le_of_ble_eq_true rfl) ?_
  intro K hl0 hD0 hA0 hz0 hn hnm F EX
  subst hl0 hD0 hA0 hz0
  show zg_G K (zx_P (zk_A K) x v sz τ) 0 0 0 [(0, .ref x), (1, .int a), (2, .int b), (3, .int s), (4, .int leg), (5, .int n)] []
  refine zg_iload_n F 1 rfl rfl dX_hand_0 ?_
  by_cases g0 : ¬ a < 0 ∧ ¬ nI 4 ≤ a
  · obtain ⟨a0, ha, rfl⟩ := zz_nI (by decide) g0
    refine zg_callS F (zX_checkPort _ _ _ _ _ a0 ha) zv_X_checkPort zu_X_checkPort zk_291 rfl ⟨by decide, by decide⟩ ⟨by decide, by decide⟩ rfl (Nat.le_of_ble_eq_true rfl) dX_hand_1 ?_
    refine zg_iload_n F 2 rfl rfl dX_hand_4 ?_
    by_cases g1 : ¬ b < 0 ∧ ¬ nI 4 ≤ b
    · obtain ⟨b0, hb, rfl⟩ := zz_nI (by decide) g1
      refine zg_callS F (zX_checkPort _ _ _ _ _ b0 hb) zv_X_checkPort zu_X_checkPort zk_291 rfl ⟨by decide, by decide⟩ ⟨by decide, by decide⟩ rfl (Nat.le_of_ble_eq_true rfl) dX_hand_5 ?_
      refine zg_iload_n F 3 rfl rfl dX_hand_8 ?_
      by_cases g2 : ¬ s < 0 ∧ ¬ nI 4 ≤ s
      · obtain ⟨s0, hs, rfl⟩ := zz_nI (by decide) g2
        refine zg_callS F (zX_checkSailing _ _ _ _ _ s0 hs) zv_X_checkSailing zu_X_checkSailing zk_143 rfl ⟨by decide, by decide⟩ ⟨by decide, by decide⟩ rfl (Nat.le_of_ble_eq_true rfl) dX_hand_9 ?_
        refine zg_iload F 4 rfl dX_hand_12 ?_
        exact zg_xcallS F (zX_checkLeg_x _ _ _ _ hl _ leg (fun q => h ⟨g0, g1, g2, q⟩)) zv_X_checkLeg zu_X_checkLeg zk_259 rfl ⟨by decide, by decide⟩ ⟨by decide, by decide⟩ rfl (Nat.le_of_ble_eq_true rfl) dX_hand_14 (zg_xout EX (by decide) (by decide) (fun _ _ h => h))
      · exact zg_xcallS F (zX_checkSailing_x _ _ _ _ hl _ s g2) zv_X_checkSailing zu_X_checkSailing zk_143 rfl ⟨by decide, by decide⟩ ⟨by decide, by decide⟩ rfl (Nat.le_of_ble_eq_true rfl) dX_hand_9 (zg_xout EX (by decide) (by decide) (fun _ _ h => h))
    · exact zg_xcallS F (zX_checkPort_x _ _ _ _ hl _ b g1) zv_X_checkPort zu_X_checkPort zk_291 rfl ⟨by decide, by decide⟩ ⟨by decide, by decide⟩ rfl (Nat.le_of_ble_eq_true rfl) dX_hand_5 (zg_xout EX (by decide) (by decide) (fun _ _ h => h))
  · exact zg_xcallS F (zX_checkPort_x _ _ _ _ hl _ a g0) zv_X_checkPort zu_X_checkPort zk_291 rfl ⟨by decide, by decide⟩ ⟨by decide, by decide⟩ rfl (Nat.le_of_ble_eq_true rfl) dX_hand_1 (zg_xout EX (by decide) (by decide) (fun _ _ h => h))
set_option maxRecDepth 100000 in
set_option maxHeartbeats 4000000 in
theorem zX_share_x1 (l : Launch) (D : va_G) (A : Nat → ClassId) (base : Nat) (hl : l.stackTraces = false) (x sz : Nat) (v : zg_w) (τ : zx_S) (a b s : Int32) (h : ¬ ((¬ a < 0 ∧ ¬ nI 4 ≤ a) ∧ (¬ b < 0 ∧ ¬ nI 4 ≤ b) ∧ (¬ s < 0 ∧ ¬ nI 4 ≤ s))) : zg_XMet l zm_X_share zc_X_share 8 (some .int) 7 1 6 D A base [.ref x, .int a, .int b, .int s] (zx_P A x v sz τ) "java/lang/IndexOutOfBoundsException" (zx_P A x v sz τ) := by
  refine zg_xmet (by decide) (Nat.le_of_ble_eq_true rfl) ?_
  intro K hl0 hD0 hA0 hz0 hn hnm F EX
  subst hl0 hD0 hA0 hz0
  show zg_G K (zx_P (zk_A K) x v sz τ) 0 0 0 [(0, .ref x), (1, .int a), (2, .int b), (3, .int s)] []
  refine zg_iload_n F 1 rfl rfl dX_share_0 ?_
  by_cases g0 : ¬ a < 0 ∧ ¬ nI 4 ≤ a
  · obtain ⟨a0, ha, rfl⟩ := zz_nI (by decide) g0
    refine zg_callS F (zX_checkPort _ _ _ _ _ a0 ha) zv_X_checkPort zu_X_checkPort zk_291 rfl ⟨by decide, by decide⟩ ⟨by decide, by decide⟩ rfl (Nat.le_of_ble_eq_true rfl) dX_share_1 ?_
    refine zg_iload_n F 2 rfl rfl dX_share_4 ?_
    by_cases g1 : ¬ b < 0 ∧ ¬ nI 4 ≤ b
    · obtain ⟨b0, hb, rfl⟩ := zz_nI (by decide) g1
      refine zg_callS F (zX_checkPort _ _ _ _ _ b0 hb) zv_X_checkPort zu_X_checkPort zk_291 rfl ⟨by decide, by decide⟩ ⟨by decide, by decide⟩ rfl (Nat.le_of_ble_eq_true rfl) dX_share_5 ?_
      refine zg_iload_n F 3 rfl rfl dX_share_8 ?_
      exact zg_xcallS F (zX_checkSailing_x _ _ _ _ hl _ s (fun q => h ⟨g0, g1, q⟩)) zv_X_checkSailing zu_X_checkSailing zk_143 rfl ⟨by decide, by decide⟩ ⟨by decide, by decide⟩ rfl (Nat.le_of_ble_eq_true rfl) dX_share_9 (zg_xout EX (by decide) (by decide) (fun _ _ h => h))
    · exact zg_xcallS F (zX_checkPort_x _ _ _ _ hl _ b g1) zv_X_checkPort zu_X_checkPort zk_291 rfl ⟨by decide, by decide⟩ ⟨by decide, by decide⟩ rfl (Nat.le_of_ble_eq_true rfl) dX_share_5 (zg_xout EX (by decide) (by decide) (fun _ _ h => h))
  · exact zg_xcallS F (zX_checkPort_x _ _ _ _ hl _ a g0) zv_X_checkPort zu_X_checkPort zk_291 rfl ⟨by decide, by decide⟩ ⟨by decide, by decide⟩ rfl (Nat.le_of_ble_eq_true rfl) dX_share_1 (zg_xout EX (by decide) (by decide) (fun _ _ h => h))
set_option maxRecDepth 100000 in
set_option maxHeartbeats 4000000 in
theorem zX_crash_x1 (l : Launch) (D : va_G) (A : Nat → ClassId) (base : Nat) (hl : l.stackTraces = false) (x sz : Nat) (v : zg_w) (τ : zx_S) (port : Int32) (h : ¬ ((¬ port < 0 ∧ ¬ nI 4 ≤ port))) : zg_XMet l zm_X_crash zc_X_crash 4 (some .int) 7 1 6 D A base [.ref x, .int port] (zx_P A x v sz τ) "java/lang/IndexOutOfBoundsException" (zx_P A x v sz τ) := by
  refine zg_xmet (by decide) (Nat.le_of_ble_eq_true rfl) ?_
  intro K hl0 hD0 hA0 hz0 hn hnm F EX
  subst hl0 hD0 hA0 hz0
  show zg_G K (zx_P (zk_A K) x v sz τ) 0 0 0 [(0, .ref x), (1, .int port)] []
  refine zg_iload_n F 1 rfl rfl dX_crash_0 ?_
  exact zg_xcallS F (zX_checkPort_x _ _ _ _ hl _ port (h)) zv_X_checkPort zu_X_checkPort zk_291 rfl ⟨by decide, by decide⟩ ⟨by decide, by decide⟩ rfl (Nat.le_of_ble_eq_true rfl) dX_crash_1 (zg_xout EX (by decide) (by decide) (fun _ _ h => h))
set_option maxRecDepth 100000 in
set_option maxHeartbeats 4000000 in
theorem zX_rights_x1 (l : Launch) (D : va_G) (A : Nat → ClassId) (base : Nat) (hl : l.stackTraces = false) (x sz : Nat) (v : zg_w) (τ : zx_S) (a s leg : Int32) (h : ¬ ((¬ a < 0 ∧ ¬ nI 4 ≤ a) ∧ (¬ s < 0 ∧ ¬ nI 4 ≤ s) ∧ (¬ leg < 0 ∧ ¬ nI 4 ≤ leg))) : zg_XMet l zm_X_rights zc_X_rights 4 (some .int) 7 1 6 D A base [.ref x, .int a, .int s, .int leg] (zx_P A x v sz τ) "java/lang/IndexOutOfBoundsException" (zx_P A x v sz τ) := by
  refine zg_xmet (by decide) (Nat.le_of_ble_eq_true rfl) ?_
  intro K hl0 hD0 hA0 hz0 hn hnm F EX
  subst hl0 hD0 hA0 hz0
  show zg_G K (zx_P (zk_A K) x v sz τ) 0 0 0 [(0, .ref x), (1, .int a), (2, .int s), (3, .int leg)] []
  refine zg_iload_n F 1 rfl rfl dX_rights_0 ?_
  by_cases g0 : ¬ a < 0 ∧ ¬ nI 4 ≤ a
  · obtain ⟨a0, ha, rfl⟩ := zz_nI (by decide) g0
    refine zg_callS F (zX_checkPort _ _ _ _ _ a0 ha) zv_X_checkPort zu_X_checkPort zk_291 rfl ⟨by decide, by decide⟩ ⟨by decide, by decide⟩ rfl (Nat.le_of_ble_eq_true rfl) dX_rights_1 ?_
    refine zg_iload_n F 2 rfl rfl dX_rights_4 ?_
    by_cases g1 : ¬ s < 0 ∧ ¬ nI 4 ≤ s
    · obtain ⟨s0, hs, rfl⟩ := zz_nI (by decide) g1
      refine zg_callS F (zX_checkSailing _ _ _ _ _ s0 hs) zv_X_checkSailing zu_X_checkSailing zk_143 rfl ⟨by decide, by decide⟩ ⟨by decide, by decide⟩ rfl (Nat.le_of_ble_eq_true rfl) dX_rights_5 ?_
      refine zg_iload_n F 3 rfl rfl dX_rights_8 ?_
      exact zg_xcallS F (zX_checkLeg_x _ _ _ _ hl _ leg (fun q => h ⟨g0, g1, q⟩)) zv_X_checkLeg zu_X_checkLeg zk_259 rfl ⟨by decide, by decide⟩ ⟨by decide, by decide⟩ rfl (Nat.le_of_ble_eq_true rfl) dX_rights_9 (zg_xout EX (by decide) (by decide) (fun _ _ h => h))
    · exact zg_xcallS F (zX_checkSailing_x _ _ _ _ hl _ s g1) zv_X_checkSailing zu_X_checkSailing zk_143 rfl ⟨by decide, by decide⟩ ⟨by decide, by decide⟩ rfl (Nat.le_of_ble_eq_true rfl) dX_rights_5 (zg_xout EX (by decide) (by decide) (fun _ _ h => h))
  · exact zg_xcallS F (zX_checkPort_x _ _ _ _ hl _ a g0) zv_X_checkPort zu_X_checkPort zk_291 rfl ⟨by decide, by decide⟩ ⟨by decide, by decide⟩ rfl (Nat.le_of_ble_eq_true rfl) dX_rights_1 (zg_xout EX (by decide) (by decide) (fun _ _ h => h))
set_option maxRecDepth 100000 in
set_option maxHeartbeats 4000000 in
theorem zX_air_x1 (l : Launch) (D : va_G) (A : Nat → ClassId) (base : Nat) (hl : l.stackTraces = false) (x sz : Nat) (v : zg_w) (τ : zx_S) (s leg : Int32) (h : ¬ ((¬ s < 0 ∧ ¬ nI 4 ≤ s) ∧ (¬ leg < 0 ∧ ¬ nI 4 ≤ leg))) : zg_XMet l zm_X_air zc_X_air 3 (some .int) 7 1 6 D A base [.ref x, .int s, .int leg] (zx_P A x v sz τ) "java/lang/IndexOutOfBoundsException" (zx_P A x v sz τ) := by
  refine zg_xmet (by decide) (Nat.le_of_ble_eq_true rfl) ?_
  intro K hl0 hD0 hA0 hz0 hn hnm F EX
  subst hl0 hD0 hA0 hz0
  show zg_G K (zx_P (zk_A K) x v sz τ) 0 0 0 [(0, .ref x), (1, .int s), (2, .int leg)] []
  refine zg_iload_n F 1 rfl rfl dX_air_0 ?_
  by_cases g0 : ¬ s < 0 ∧ ¬ nI 4 ≤ s
  · obtain ⟨s0, hs, rfl⟩ := zz_nI (by decide) g0
    refine zg_callS F (zX_checkSailing _ _ _ _ _ s0 hs) zv_X_checkSailing zu_X_checkSailing zk_143 rfl ⟨by decide, by decide⟩ ⟨by decide, by decide⟩ rfl (Nat.le_of_ble_eq_true rfl) dX_air_1 ?_
    refine zg_iload_n F 2 rfl rfl dX_air_4 ?_
    exact zg_xcallS F (zX_checkLeg_x _ _ _ _ hl _ leg (fun q => h ⟨g0, q⟩)) zv_X_checkLeg zu_X_checkLeg zk_259 rfl ⟨by decide, by decide⟩ ⟨by decide, by decide⟩ rfl (Nat.le_of_ble_eq_true rfl) dX_air_5 (zg_xout EX (by decide) (by decide) (fun _ _ h => h))
  · exact zg_xcallS F (zX_checkSailing_x _ _ _ _ hl _ s g0) zv_X_checkSailing zu_X_checkSailing zk_143 rfl ⟨by decide, by decide⟩ ⟨by decide, by decide⟩ rfl (Nat.le_of_ble_eq_true rfl) dX_air_1 (zg_xout EX (by decide) (by decide) (fun _ _ h => h))
set_option maxRecDepth 100000 in
set_option maxHeartbeats 4000000 in
theorem zX_sold_x1 (l : Launch) (D : va_G) (A : Nat → ClassId) (base : Nat) (hl : l.stackTraces = false) (x sz : Nat) (v : zg_w) (τ : zx_S) (s leg : Int32) (h : ¬ ((¬ s < 0 ∧ ¬ nI 4 ≤ s) ∧ (¬ leg < 0 ∧ ¬ nI 4 ≤ leg))) : zg_XMet l zm_X_sold zc_X_sold 3 (some .int) 7 1 6 D A base [.ref x, .int s, .int leg] (zx_P A x v sz τ) "java/lang/IndexOutOfBoundsException" (zx_P A x v sz τ) := by
  refine zg_xmet (by decide) (Nat.le_of_ble_eq_true rfl) ?_
  intro K hl0 hD0 hA0 hz0 hn hnm F EX
  subst hl0 hD0 hA0 hz0
  show zg_G K (zx_P (zk_A K) x v sz τ) 0 0 0 [(0, .ref x), (1, .int s), (2, .int leg)] []
  refine zg_iload_n F 1 rfl rfl dX_sold_0 ?_
  by_cases g0 : ¬ s < 0 ∧ ¬ nI 4 ≤ s
  · obtain ⟨s0, hs, rfl⟩ := zz_nI (by decide) g0
    refine zg_callS F (zX_checkSailing _ _ _ _ _ s0 hs) zv_X_checkSailing zu_X_checkSailing zk_143 rfl ⟨by decide, by decide⟩ ⟨by decide, by decide⟩ rfl (Nat.le_of_ble_eq_true rfl) dX_sold_1 ?_
    refine zg_iload_n F 2 rfl rfl dX_sold_4 ?_
    exact zg_xcallS F (zX_checkLeg_x _ _ _ _ hl _ leg (fun q => h ⟨g0, q⟩)) zv_X_checkLeg zu_X_checkLeg zk_259 rfl ⟨by decide, by decide⟩ ⟨by decide, by decide⟩ rfl (Nat.le_of_ble_eq_true rfl) dX_sold_5 (zg_xout EX (by decide) (by decide) (fun _ _ h => h))
  · exact zg_xcallS F (zX_checkSailing_x _ _ _ _ hl _ s g0) zv_X_checkSailing zu_X_checkSailing zk_143 rfl ⟨by decide, by decide⟩ ⟨by decide, by decide⟩ rfl (Nat.le_of_ble_eq_true rfl) dX_sold_1 (zg_xout EX (by decide) (by decide) (fun _ _ h => h))
set_option maxRecDepth 100000 in
set_option maxHeartbeats 4000000 in
theorem zX_wishes_x1 (l : Launch) (D : va_G) (A : Nat → ClassId) (base : Nat) (hl : l.stackTraces = false) (x sz : Nat) (v : zg_w) (τ : zx_S) (port : Int32) (h : ¬ ((¬ port < 0 ∧ ¬ nI 4 ≤ port))) : zg_XMet l zm_X_wishes zc_X_wishes 2 (some .int) 7 1 6 D A base [.ref x, .int port] (zx_P A x v sz τ) "java/lang/IndexOutOfBoundsException" (zx_P A x v sz τ) := by
  refine zg_xmet (by decide) (Nat.le_of_ble_eq_true rfl) ?_
  intro K hl0 hD0 hA0 hz0 hn hnm F EX
  subst hl0 hD0 hA0 hz0
  show zg_G K (zx_P (zk_A K) x v sz τ) 0 0 0 [(0, .ref x), (1, .int port)] []
  refine zg_iload_n F 1 rfl rfl dX_wishes_0 ?_
  exact zg_xcallS F (zX_checkPort_x _ _ _ _ hl _ port (h)) zv_X_checkPort zu_X_checkPort zk_291 rfl ⟨by decide, by decide⟩ ⟨by decide, by decide⟩ rfl (Nat.le_of_ble_eq_true rfl) dX_wishes_1 (zg_xout EX (by decide) (by decide) (fun _ _ h => h))
set_option maxRecDepth 100000 in
set_option maxHeartbeats 4000000 in
theorem zX_till_x1 (l : Launch) (D : va_G) (A : Nat → ClassId) (base : Nat) (hl : l.stackTraces = false) (x sz : Nat) (v : zg_w) (τ : zx_S) (port : Int32) (h : ¬ ((¬ port < 0 ∧ ¬ nI 4 ≤ port))) : zg_XMet l zm_X_till zc_X_till 2 (some .long) 7 1 6 D A base [.ref x, .int port] (zx_P A x v sz τ) "java/lang/IndexOutOfBoundsException" (zx_P A x v sz τ) := by
  refine zg_xmet (by decide) (Nat.le_of_ble_eq_true rfl) ?_
  intro K hl0 hD0 hA0 hz0 hn hnm F EX
  subst hl0 hD0 hA0 hz0
  show zg_G K (zx_P (zk_A K) x v sz τ) 0 0 0 [(0, .ref x), (1, .int port)] []
  refine zg_iload_n F 1 rfl rfl dX_till_0 ?_
  exact zg_xcallS F (zX_checkPort_x _ _ _ _ hl _ port (h)) zv_X_checkPort zu_X_checkPort zk_291 rfl ⟨by decide, by decide⟩ ⟨by decide, by decide⟩ rfl (Nat.le_of_ble_eq_true rfl) dX_till_1 (zg_xout EX (by decide) (by decide) (fun _ _ h => h))
set_option maxRecDepth 100000 in
set_option maxHeartbeats 4000000 in
theorem zX_send_x1 (l : Launch) (D : va_G) (A : Nat → ClassId) (base : Nat) (hl : l.stackTraces = false) (x sz : Nat) (v : zg_w) (τ : zx_S) (a b : Int32) (h : ¬ (zz4 a ∧ zz4 b)) : zg_XMet l zm_X_send zc_X_send 4 (some .int) 8 1 6 D A base [.ref x, .int a, .int b] (zx_P A x v sz τ) "java/lang/IndexOutOfBoundsException" (zx_P A x v sz τ) := by
  refine zg_xmet (by decide) (Nat.le_of_ble_eq_true rfl) ?_
  intro K hl0 hD0 hA0 hz0 hn hnm F EX
  subst hl0 hD0 hA0 hz0
  show zg_G K (zx_P (zk_A K) x v sz τ) 0 0 0 [(0, .ref x), (1, .int a), (2, .int b)] []
  refine zg_iload_n F 1 rfl rfl dX_send_0 ?_
  refine zg_iload_n F 2 rfl rfl dX_send_1 ?_
  exact zg_xcallS F (zX_checkTwoPorts_x1 _ _ _ _ hl _ a b h) zv_X_checkTwoPorts zu_X_checkTwoPorts zk_453 rfl ⟨by decide, by decide⟩ ⟨by decide, by decide⟩ rfl (Nat.le_of_ble_eq_true rfl) dX_send_2 (zg_xout EX (by decide) (by decide) (fun _ _ h => h))
set_option maxRecDepth 100000 in
set_option maxHeartbeats 4000000 in
theorem zX_send_x2 (l : Launch) (D : va_G) (A : Nat → ClassId) (base : Nat) (hl : l.stackTraces = false) (x sz : Nat) (v : zg_w) (τ : zx_S) (a : Nat) (ha : a < 4) : zg_XMet l zm_X_send zc_X_send 4 (some .int) 8 1 6 D A base [.ref x, .int (nI a), .int (nI a)] (zx_P A x v sz τ) "java/lang/IllegalArgumentException" (zx_P A x v sz τ) := by
  refine zg_xmet (by decide) (Nat.le_of_ble_eq_true rfl) ?_
  intro K hl0 hD0 hA0 hz0 hn hnm F EX
  subst hl0 hD0 hA0 hz0
  show zg_G K (zx_P (zk_A K) x v sz τ) 0 0 0 [(0, .ref x), (1, .int (nI a)), (2, .int (nI a))] []
  refine zg_iload_n F 1 rfl rfl dX_send_0 ?_
  refine zg_iload_n F 2 rfl rfl dX_send_1 ?_
  exact zg_xcallS F (zX_checkTwoPorts_x2 _ _ _ _ hl _ a ha) zv_X_checkTwoPorts zu_X_checkTwoPorts zk_453 rfl ⟨by decide, by decide⟩ ⟨by decide, by decide⟩ rfl (Nat.le_of_ble_eq_true rfl) dX_send_2 (zg_xout EX (by decide) (by decide) (fun _ _ h => h))
set_option maxRecDepth 100000 in
set_option maxHeartbeats 4000000 in
theorem zX_arrive_x1 (l : Launch) (D : va_G) (A : Nat → ClassId) (base : Nat) (hl : l.stackTraces = false) (x sz : Nat) (v : zg_w) (τ : zx_S) (a b : Int32) (h : ¬ (zz4 a ∧ zz4 b)) : zg_XMet l zm_X_arrive zc_X_arrive 6 (some .int) 8 1 6 D A base [.ref x, .int a, .int b] (zx_P A x v sz τ) "java/lang/IndexOutOfBoundsException" (zx_P A x v sz τ) := by
  refine zg_xmet (by decide) (Nat.le_of_ble_eq_true rfl) ?_
  intro K hl0 hD0 hA0 hz0 hn hnm F EX
  subst hl0 hD0 hA0 hz0
  show zg_G K (zx_P (zk_A K) x v sz τ) 0 0 0 [(0, .ref x), (1, .int a), (2, .int b)] []
  refine zg_iload_n F 1 rfl rfl dX_arrive_0 ?_
  refine zg_iload_n F 2 rfl rfl dX_arrive_1 ?_
  exact zg_xcallS F (zX_checkTwoPorts_x1 _ _ _ _ hl _ a b h) zv_X_checkTwoPorts zu_X_checkTwoPorts zk_453 rfl ⟨by decide, by decide⟩ ⟨by decide, by decide⟩ rfl (Nat.le_of_ble_eq_true rfl) dX_arrive_2 (zg_xout EX (by decide) (by decide) (fun _ _ h => h))
set_option maxRecDepth 100000 in
set_option maxHeartbeats 4000000 in
theorem zX_arrive_x2 (l : Launch) (D : va_G) (A : Nat → ClassId) (base : Nat) (hl : l.stackTraces = false) (x sz : Nat) (v : zg_w) (τ : zx_S) (a : Nat) (ha : a < 4) : zg_XMet l zm_X_arrive zc_X_arrive 6 (some .int) 8 1 6 D A base [.ref x, .int (nI a), .int (nI a)] (zx_P A x v sz τ) "java/lang/IllegalArgumentException" (zx_P A x v sz τ) := by
  refine zg_xmet (by decide) (Nat.le_of_ble_eq_true rfl) ?_
  intro K hl0 hD0 hA0 hz0 hn hnm F EX
  subst hl0 hD0 hA0 hz0
  show zg_G K (zx_P (zk_A K) x v sz τ) 0 0 0 [(0, .ref x), (1, .int (nI a)), (2, .int (nI a))] []
  refine zg_iload_n F 1 rfl rfl dX_arrive_0 ?_
  refine zg_iload_n F 2 rfl rfl dX_arrive_1 ?_
  exact zg_xcallS F (zX_checkTwoPorts_x2 _ _ _ _ hl _ a ha) zv_X_checkTwoPorts zu_X_checkTwoPorts zk_453 rfl ⟨by decide, by decide⟩ ⟨by decide, by decide⟩ rfl (Nat.le_of_ble_eq_true rfl) dX_arrive_2 (zg_xout EX (by decide) (by decide) (fun _ _ h => h))
set_option maxRecDepth 100000 in
set_option maxHeartbeats 4000000 in
theorem zX_receipt_x1 (l : Launch) (D : va_G) (A : Nat → ClassId) (base : Nat) (hl : l.stackTraces = false) (x sz : Nat) (v : zg_w) (τ : zx_S) (a b : Int32) (h : ¬ (zz4 a ∧ zz4 b)) : zg_XMet l zm_X_receipt zc_X_receipt 5 (some .int) 8 1 6 D A base [.ref x, .int a, .int b] (zx_P A x v sz τ) "java/lang/IndexOutOfBoundsException" (zx_P A x v sz τ) := by
  refine zg_xmet (by decide) (Nat.le_of_ble_eq_true rfl) ?_
  intro K hl0 hD0 hA0 hz0 hn hnm F EX
  subst hl0 hD0 hA0 hz0
  show zg_G K (zx_P (zk_A K) x v sz τ) 0 0 0 [(0, .ref x), (1, .int a), (2, .int b)] []
  refine zg_iload_n F 1 rfl rfl dX_receipt_0 ?_
  refine zg_iload_n F 2 rfl rfl dX_receipt_1 ?_
  exact zg_xcallS F (zX_checkTwoPorts_x1 _ _ _ _ hl _ a b h) zv_X_checkTwoPorts zu_X_checkTwoPorts zk_453 rfl ⟨by decide, by decide⟩ ⟨by decide, by decide⟩ rfl (Nat.le_of_ble_eq_true rfl) dX_receipt_2 (zg_xout EX (by decide) (by decide) (fun _ _ h => h))
set_option maxRecDepth 100000 in
set_option maxHeartbeats 4000000 in
theorem zX_receipt_x2 (l : Launch) (D : va_G) (A : Nat → ClassId) (base : Nat) (hl : l.stackTraces = false) (x sz : Nat) (v : zg_w) (τ : zx_S) (a : Nat) (ha : a < 4) : zg_XMet l zm_X_receipt zc_X_receipt 5 (some .int) 8 1 6 D A base [.ref x, .int (nI a), .int (nI a)] (zx_P A x v sz τ) "java/lang/IllegalArgumentException" (zx_P A x v sz τ) := by
  refine zg_xmet (by decide) (Nat.le_of_ble_eq_true rfl) ?_
  intro K hl0 hD0 hA0 hz0 hn hnm F EX
  subst hl0 hD0 hA0 hz0
  show zg_G K (zx_P (zk_A K) x v sz τ) 0 0 0 [(0, .ref x), (1, .int (nI a)), (2, .int (nI a))] []
  refine zg_iload_n F 1 rfl rfl dX_receipt_0 ?_
  refine zg_iload_n F 2 rfl rfl dX_receipt_1 ?_
  exact zg_xcallS F (zX_checkTwoPorts_x2 _ _ _ _ hl _ a ha) zv_X_checkTwoPorts zu_X_checkTwoPorts zk_453 rfl ⟨by decide, by decide⟩ ⟨by decide, by decide⟩ rfl (Nat.le_of_ble_eq_true rfl) dX_receipt_2 (zg_xout EX (by decide) (by decide) (fun _ _ h => h))
set_option maxRecDepth 100000 in
set_option maxHeartbeats 4000000 in
theorem zX_lose_x1 (l : Launch) (D : va_G) (A : Nat → ClassId) (base : Nat) (hl : l.stackTraces = false) (x sz : Nat) (v : zg_w) (τ : zx_S) (a b : Int32) (h : ¬ (zz4 a ∧ zz4 b)) : zg_XMet l zm_X_lose zc_X_lose 3 (some .int) 8 1 6 D A base [.ref x, .int a, .int b] (zx_P A x v sz τ) "java/lang/IndexOutOfBoundsException" (zx_P A x v sz τ) := by
  refine zg_xmet (by decide) (Nat.le_of_ble_eq_true rfl) ?_
  intro K hl0 hD0 hA0 hz0 hn hnm F EX
  subst hl0 hD0 hA0 hz0
  show zg_G K (zx_P (zk_A K) x v sz τ) 0 0 0 [(0, .ref x), (1, .int a), (2, .int b)] []
  refine zg_iload_n F 1 rfl rfl dX_lose_0 ?_
  refine zg_iload_n F 2 rfl rfl dX_lose_1 ?_
  exact zg_xcallS F (zX_checkTwoPorts_x1 _ _ _ _ hl _ a b h) zv_X_checkTwoPorts zu_X_checkTwoPorts zk_453 rfl ⟨by decide, by decide⟩ ⟨by decide, by decide⟩ rfl (Nat.le_of_ble_eq_true rfl) dX_lose_2 (zg_xout EX (by decide) (by decide) (fun _ _ h => h))
set_option maxRecDepth 100000 in
set_option maxHeartbeats 4000000 in
theorem zX_lose_x2 (l : Launch) (D : va_G) (A : Nat → ClassId) (base : Nat) (hl : l.stackTraces = false) (x sz : Nat) (v : zg_w) (τ : zx_S) (a : Nat) (ha : a < 4) : zg_XMet l zm_X_lose zc_X_lose 3 (some .int) 8 1 6 D A base [.ref x, .int (nI a), .int (nI a)] (zx_P A x v sz τ) "java/lang/IllegalArgumentException" (zx_P A x v sz τ) := by
  refine zg_xmet (by decide) (Nat.le_of_ble_eq_true rfl) ?_
  intro K hl0 hD0 hA0 hz0 hn hnm F EX
  subst hl0 hD0 hA0 hz0
  show zg_G K (zx_P (zk_A K) x v sz τ) 0 0 0 [(0, .ref x), (1, .int (nI a)), (2, .int (nI a))] []
  refine zg_iload_n F 1 rfl rfl dX_lose_0 ?_
  refine zg_iload_n F 2 rfl rfl dX_lose_1 ?_
  exact zg_xcallS F (zX_checkTwoPorts_x2 _ _ _ _ hl _ a ha) zv_X_checkTwoPorts zu_X_checkTwoPorts zk_453 rfl ⟨by decide, by decide⟩ ⟨by decide, by decide⟩ rfl (Nat.le_of_ble_eq_true rfl) dX_lose_2 (zg_xout EX (by decide) (by decide) (fun _ _ h => h))
set_option maxRecDepth 100000 in
set_option maxHeartbeats 4000000 in
theorem zX_cancel_x1 (l : Launch) (D : va_G) (A : Nat → ClassId) (base : Nat) (hl : l.stackTraces = false) (x sz : Nat) (v : zg_w) (τ : zx_S) (t : Int32) (h : ¬ (¬ t < 0 ∧ ¬ (τ 0).1 7 ≤ t)) : zg_XMet l zm_X_cancel zc_X_cancel 3 (some .int) 7 1 6 D A base [.ref x, .int t] (zx_P A x v sz τ) "java/lang/IndexOutOfBoundsException" (zx_P A x v sz τ) := by
  refine zg_xmet (by decide) (Nat.le_of_ble_eq_true rfl) ?_
  intro K hl0 hD0 hA0 hz0 hn hnm F EX
  subst hl0 hD0 hA0 hz0
  show zg_G K (zx_P (zk_A K) x v sz τ) 0 0 0 [(0, .ref x), (1, .int t)] []
  refine zg_aload_n F 0 rfl rfl dX_cancel_0 ?_
  refine zg_iload_n F 1 rfl rfl dX_cancel_1 ?_
  exact zg_xcallV F (zX_checkTicket_x _ _ _ _ hl x sz v τ t h) zv_X_checkTicket zu_X_checkTicket zk_384 (fun _ _ h => zx_g0 h) rfl rfl ⟨by decide, by decide⟩ ⟨by decide, by decide⟩ rfl (Nat.le_of_ble_eq_true rfl) dX_cancel_2 (zg_xout EX (by decide) (by decide) (fun _ _ h => h))
set_option maxRecDepth 100000 in
set_option maxHeartbeats 4000000 in
theorem zX_ticket_x1 (l : Launch) (D : va_G) (A : Nat → ClassId) (base : Nat) (hl : l.stackTraces = false) (x sz : Nat) (v : zg_w) (τ : zx_S) (t what : Int32) (h : ¬ (¬ t < 0 ∧ ¬ (τ 0).1 7 ≤ t)) : zg_XMet l zm_X_ticket zc_X_ticket 4 (some .int) 7 1 6 D A base [.ref x, .int t, .int what] (zx_P A x v sz τ) "java/lang/IndexOutOfBoundsException" (zx_P A x v sz τ) := by
  refine zg_xmet (by decide) (Nat.le_of_ble_eq_true rfl) ?_
  intro K hl0 hD0 hA0 hz0 hn hnm F EX
  subst hl0 hD0 hA0 hz0
  show zg_G K (zx_P (zk_A K) x v sz τ) 0 0 0 [(0, .ref x), (1, .int t), (2, .int what)] []
  refine zg_aload_n F 0 rfl rfl dX_ticket_0 ?_
  refine zg_iload_n F 1 rfl rfl dX_ticket_1 ?_
  exact zg_xcallV F (zX_checkTicket_x _ _ _ _ hl x sz v τ t h) zv_X_checkTicket zu_X_checkTicket zk_384 (fun _ _ h => zx_g0 h) rfl rfl ⟨by decide, by decide⟩ ⟨by decide, by decide⟩ rfl (Nat.le_of_ble_eq_true rfl) dX_ticket_2 (zg_xout EX (by decide) (by decide) (fun _ _ h => h))
set_option maxRecDepth 100000 in
set_option maxHeartbeats 4000000 in
theorem zX_price_x1 (l : Launch) (D : va_G) (A : Nat → ClassId) (base : Nat) (hl : l.stackTraces = false) (x sz : Nat) (v : zg_w) (τ : zx_S) (t : Int32) (h : ¬ (¬ t < 0 ∧ ¬ (τ 0).1 7 ≤ t)) : zg_XMet l zm_X_price zc_X_price 2 (some .long) 7 1 6 D A base [.ref x, .int t] (zx_P A x v sz τ) "java/lang/IndexOutOfBoundsException" (zx_P A x v sz τ) := by
  refine zg_xmet (by decide) (Nat.le_of_ble_eq_true rfl) ?_
  intro K hl0 hD0 hA0 hz0 hn hnm F EX
  subst hl0 hD0 hA0 hz0
  show zg_G K (zx_P (zk_A K) x v sz τ) 0 0 0 [(0, .ref x), (1, .int t)] []
  refine zg_aload_n F 0 rfl rfl dX_price_0 ?_
  refine zg_iload_n F 1 rfl rfl dX_price_1 ?_
  exact zg_xcallV F (zX_checkTicket_x _ _ _ _ hl x sz v τ t h) zv_X_checkTicket zu_X_checkTicket zk_384 (fun _ _ h => zx_g0 h) rfl rfl ⟨by decide, by decide⟩ ⟨by decide, by decide⟩ rfl (Nat.le_of_ble_eq_true rfl) dX_price_2 (zg_xout EX (by decide) (by decide) (fun _ _ h => h))
set_option maxRecDepth 100000 in
set_option maxHeartbeats 4000000 in
theorem zX_open_x2 (l : Launch) (D : va_G) (A : Nat → ClassId) (base : Nat) (hl : l.stackTraces = false) (x sz : Nat) (v : zg_w) (τ : zx_S) (s : Nat) (seats : Int32) (hs : s < 4) (h : seats < nI 1 ∨ nI 100 < seats) : zg_XMet l zm_X_open zc_X_open 4 none 7 1 6 D A base [.ref x, .int (nI s), .int seats] (zx_P A x v sz τ) "java/lang/IllegalArgumentException" (zx_P A x v sz τ) := by
  refine zg_xmet (by decide) (Nat.le_of_ble_eq_true rfl) ?_
  intro K hl0 hD0 hA0 hz0 hn hnm F EX
  subst hl0 hD0 hA0 hz0
  show zg_G K (zx_P (zk_A K) x v sz τ) 0 0 0 [(0, .ref x), (1, .int (nI s)), (2, .int seats)] []
  refine zg_iload_n F 1 rfl rfl dX_open_0 ?_
  refine zg_callS F (zX_checkSailing _ _ _ _ _ s hs) zv_X_checkSailing zu_X_checkSailing zk_143 rfl ⟨by decide, by decide⟩ ⟨by decide, by decide⟩ rfl (Nat.le_of_ble_eq_true rfl) dX_open_1 ?_
  refine zg_iload_n F 2 rfl rfl dX_open_4 ?_
  exact zg_xcallS F (zX_checkSeats_x _ _ _ _ hl _ seats h) zv_X_checkSeats zu_X_checkSeats zk_214 rfl ⟨by decide, by decide⟩ ⟨by decide, by decide⟩ rfl (Nat.le_of_ble_eq_true rfl) dX_open_5 (zg_xout EX (by decide) (by decide) (fun _ _ h => h))
set_option maxRecDepth 100000 in
set_option maxHeartbeats 4000000 in
theorem zX_open_x3 (l : Launch) (D : va_G) (A : Nat → ClassId) (base : Nat) (hl : l.stackTraces = false) (x sz : Nat) (v : zg_w) (τ : zx_S) (s : Nat) (seats : Int32) (hs : s < 4) (h1 : ¬ seats < nI 1) (h2 : ¬ nI 100 < seats) (h3 : ¬ (τ 1).1 s = 0) : zg_XMet l zm_X_open zc_X_open 4 none 7 1 6 D A base [.ref x, .int (nI s), .int seats] (zx_P A x v sz τ) "java/lang/IllegalStateException" (zx_P A x v sz τ) := by
  refine zg_xmet (by decide) (Nat.le_of_ble_eq_true rfl) ?_
  intro K hl0 hD0 hA0 hz0 hn hnm F EX
  subst hl0 hD0 hA0 hz0
  show zg_G K (zx_P (zk_A K) x v sz τ) 0 0 0 [(0, .ref x), (1, .int (nI s)), (2, .int seats)] []
  refine zg_iload_n F 1 rfl rfl dX_open_0 ?_
  refine zg_callS F (zX_checkSailing _ _ _ _ _ s hs) zv_X_checkSailing zu_X_checkSailing zk_143 rfl ⟨by decide, by decide⟩ ⟨by decide, by decide⟩ rfl (Nat.le_of_ble_eq_true rfl) dX_open_1 ?_
  refine zg_iload_n F 2 rfl rfl dX_open_4 ?_
  refine zg_callS F (zX_checkSeats _ _ _ _ _ seats h1 h2) zv_X_checkSeats zu_X_checkSeats zk_214 rfl ⟨by decide, by decide⟩ ⟨by decide, by decide⟩ rfl (Nat.le_of_ble_eq_true rfl) dX_open_5 ?_
  refine zg_aload_n F 0 rfl rfl dX_open_8 ?_
  refine zg_get F (fun _ _ h => zx_g0 h) rfl zi_X 0 (by decide) rfl zk_105 rfl dX_open_9 ?_
  refine zg_iload_n F 1 rfl rfl dX_open_12 ?_
  refine zg_zald F (fun _ _ h => zx_g1 h) (by show _ < 4; omega) (by decide) rfl dX_open_13 ?_
  refine zg_if_eqF F dX_open_14 (tgt := 27) (by decide) (h3) ?_
  exact zg_throw F (text := "the sailing was open") EX hl (by decide +kernel) zk_233 zk_11 (by decide +kernel) zt_ise zo_ise ⟨by decide, by decide⟩ ⟨by decide, by decide⟩ ⟨by decide, by decide⟩ (fun _ _ h => h) dX_open_17 dX_open_20 dX_open_21 dX_open_23 dX_open_26
set_option maxRecDepth 100000 in
set_option maxHeartbeats 4000000 in
theorem zX_fare_x2 (l : Launch) (D : va_G) (A : Nat → ClassId) (base : Nat) (hl : l.stackTraces = false) (x sz : Nat) (v : zg_w) (τ : zx_S) (s leg : Nat) (f : Int32) (hs : s < 4) (hg : leg < 4) (h : f < 0 ∨ (1000000000 : Int32) < f) : zg_XMet l zm_X_fare zc_X_fare 4 none 7 1 6 D A base [.ref x, .int (nI s), .int (nI leg), .int f] (zx_P A x v sz τ) "java/lang/IllegalArgumentException" (zx_P A x v sz τ) := by
  refine zg_xmet (by decide) (Nat.le_of_ble_eq_true rfl) ?_
  intro K hl0 hD0 hA0 hz0 hn hnm F EX
  subst hl0 hD0 hA0 hz0
  show zg_G K (zx_P (zk_A K) x v sz τ) 0 0 0 [(0, .ref x), (1, .int (nI s)), (2, .int (nI leg)), (3, .int f)] []
  refine zg_iload_n F 1 rfl rfl dX_fare_0 ?_
  refine zg_callS F (zX_checkSailing _ _ _ _ _ s hs) zv_X_checkSailing zu_X_checkSailing zk_143 rfl ⟨by decide, by decide⟩ ⟨by decide, by decide⟩ rfl (Nat.le_of_ble_eq_true rfl) dX_fare_1 ?_
  refine zg_iload_n F 2 rfl rfl dX_fare_4 ?_
  refine zg_callS F (zX_checkLeg _ _ _ _ _ leg hg) zv_X_checkLeg zu_X_checkLeg zk_259 rfl ⟨by decide, by decide⟩ ⟨by decide, by decide⟩ rfl (Nat.le_of_ble_eq_true rfl) dX_fare_5 ?_
  refine zg_iload_n F 3 rfl rfl dX_fare_8 ?_
  by_cases h1 : f < 0
  · refine zg_if_ltT F (tgt := 18) dX_fare_9 (by decide) (h1) ?_
    exact zg_throw F (text := "a fare is 0 to 1,000,000,000") EX hl (by decide +kernel) zk_217 zk_10 (by decide +kernel) zt_iae zo_iae ⟨by decide, by decide⟩ ⟨by decide, by decide⟩ ⟨by decide, by decide⟩ (fun _ _ h => h) dX_fare_18 dX_fare_21 dX_fare_22 dX_fare_24 dX_fare_27
  · refine zg_if_ltF F dX_fare_9 (tgt := 18) (by decide) (h1) ?_
    refine zg_iload_n F 3 rfl rfl dX_fare_12 ?_
    refine zg_ldcI F zk_263 dX_fare_13 ?_
    refine zg_icmp_leF F dX_fare_15 (tgt := 28) (by decide) (Int32.not_le.mpr (h.resolve_left h1)) ?_
    exact zg_throw F (text := "a fare is 0 to 1,000,000,000") EX hl (by decide +kernel) zk_217 zk_10 (by decide +kernel) zt_iae zo_iae ⟨by decide, by decide⟩ ⟨by decide, by decide⟩ ⟨by decide, by decide⟩ (fun _ _ h => h) dX_fare_18 dX_fare_21 dX_fare_22 dX_fare_24 dX_fare_27
set_option maxRecDepth 100000 in
set_option maxHeartbeats 4000000 in
theorem zX_part_x2 (l : Launch) (D : va_G) (A : Nat → ClassId) (base : Nat) (hl : l.stackTraces = false) (x sz : Nat) (v : zg_w) (τ : zx_S) (s a b : Nat) (hs : s < 4) (ha : a < 5) (hb : b < 5) (h : b ≤ a) : zg_XMet l zm_X_part zc_X_part 4 (some .int) 7 1 6 D A base [.ref x, .int (nI s), .int (nI a), .int (nI b)] (zx_P A x v sz τ) "java/lang/IllegalArgumentException" (zx_P A x v sz τ) := by
  refine zg_xmet (by decide) (Nat.le_of_ble_eq_true rfl) ?_
  intro K hl0 hD0 hA0 hz0 hn hnm F EX
  subst hl0 hD0 hA0 hz0
  show zg_G K (zx_P (zk_A K) x v sz τ) 0 0 0 [(0, .ref x), (1, .int (nI s)), (2, .int (nI a)), (3, .int (nI b))] []
  refine zg_iload_n F 1 rfl rfl dX_part_0 ?_
  refine zg_callS F (zX_checkSailing _ _ _ _ _ s hs) zv_X_checkSailing zu_X_checkSailing zk_143 rfl ⟨by decide, by decide⟩ ⟨by decide, by decide⟩ rfl (Nat.le_of_ble_eq_true rfl) dX_part_1 ?_
  refine zg_iload_n F 2 rfl rfl dX_part_4 ?_
  refine zg_callS F (zX_checkStop _ _ _ _ _ a ha) zv_X_checkStop zu_X_checkStop zk_272 rfl ⟨by decide, by decide⟩ ⟨by decide, by decide⟩ rfl (Nat.le_of_ble_eq_true rfl) dX_part_5 ?_
  refine zg_iload_n F 3 rfl rfl dX_part_8 ?_
  refine zg_callS F (zX_checkStop _ _ _ _ _ b hb) zv_X_checkStop zu_X_checkStop zk_272 rfl ⟨by decide, by decide⟩ ⟨by decide, by decide⟩ rfl (Nat.le_of_ble_eq_true rfl) dX_part_9 ?_
  refine zg_iload_n F 2 rfl rfl dX_part_12 ?_
  refine zg_iload_n F 3 rfl rfl dX_part_13 ?_
  refine zg_icmp_ltF F dX_part_14 (tgt := 27) (by decide) (nI_nlt h (by omega)) ?_
  exact zg_throw F (text := "a part goes to a later stop") EX hl (by decide +kernel) zk_217 zk_10 (by decide +kernel) zt_iae zo_iae ⟨by decide, by decide⟩ ⟨by decide, by decide⟩ ⟨by decide, by decide⟩ (fun _ _ h => h) dX_part_17 dX_part_20 dX_part_21 dX_part_23 dX_part_26
set_option maxRecDepth 100000 in
set_option maxHeartbeats 4000000 in
theorem zX_part_x3 (l : Launch) (D : va_G) (A : Nat → ClassId) (base : Nat) (hl : l.stackTraces = false) (x sz : Nat) (v : zg_w) (τ : zx_S) (s a b : Nat) (hs : s < 4) (ha : a < 5) (hb : b < 5) (h : a < b) (h3 : (τ 1).1 s = 0) : zg_XMet l zm_X_part zc_X_part 4 (some .int) 7 1 6 D A base [.ref x, .int (nI s), .int (nI a), .int (nI b)] (zx_P A x v sz τ) "java/lang/IllegalStateException" (zx_P A x v sz τ) := by
  refine zg_xmet (by decide) (Nat.le_of_ble_eq_true rfl) ?_
  intro K hl0 hD0 hA0 hz0 hn hnm F EX
  subst hl0 hD0 hA0 hz0
  show zg_G K (zx_P (zk_A K) x v sz τ) 0 0 0 [(0, .ref x), (1, .int (nI s)), (2, .int (nI a)), (3, .int (nI b))] []
  refine zg_iload_n F 1 rfl rfl dX_part_0 ?_
  refine zg_callS F (zX_checkSailing _ _ _ _ _ s hs) zv_X_checkSailing zu_X_checkSailing zk_143 rfl ⟨by decide, by decide⟩ ⟨by decide, by decide⟩ rfl (Nat.le_of_ble_eq_true rfl) dX_part_1 ?_
  refine zg_iload_n F 2 rfl rfl dX_part_4 ?_
  refine zg_callS F (zX_checkStop _ _ _ _ _ a ha) zv_X_checkStop zu_X_checkStop zk_272 rfl ⟨by decide, by decide⟩ ⟨by decide, by decide⟩ rfl (Nat.le_of_ble_eq_true rfl) dX_part_5 ?_
  refine zg_iload_n F 3 rfl rfl dX_part_8 ?_
  refine zg_callS F (zX_checkStop _ _ _ _ _ b hb) zv_X_checkStop zu_X_checkStop zk_272 rfl ⟨by decide, by decide⟩ ⟨by decide, by decide⟩ rfl (Nat.le_of_ble_eq_true rfl) dX_part_9 ?_
  refine zg_iload_n F 2 rfl rfl dX_part_12 ?_
  refine zg_iload_n F 3 rfl rfl dX_part_13 ?_
  refine zg_icmp_ltT F (tgt := 27) dX_part_14 (by decide) (nI_lt h (by omega)) ?_
  refine zg_aload_n F 0 rfl rfl dX_part_27 ?_
  refine zg_get F (fun _ _ h => zx_g0 h) rfl zi_X 0 (by decide) rfl zk_105 rfl dX_part_28 ?_
  refine zg_iload_n F 1 rfl rfl dX_part_31 ?_
  refine zg_zald F (fun _ _ h => zx_g1 h) (by show _ < 4; omega) (by decide) rfl dX_part_32 ?_
  refine zg_if_neF F dX_part_33 (tgt := 46) (by decide) (h3) ?_
  exact zg_throw F (text := "the sailing is not open") EX hl (by decide +kernel) zk_233 zk_11 (by decide +kernel) zt_ise zo_ise ⟨by decide, by decide⟩ ⟨by decide, by decide⟩ ⟨by decide, by decide⟩ (fun _ _ h => h) dX_part_36 dX_part_39 dX_part_40 dX_part_42 dX_part_45
set_option maxRecDepth 100000 in
set_option maxHeartbeats 4000000 in
theorem zX_part_x4 (l : Launch) (D : va_G) (A : Nat → ClassId) (base : Nat) (hl : l.stackTraces = false) (x sz : Nat) (v : zg_w) (τ : zx_S) (s a b : Nat) (hs : s < 4) (ha : a < 5) (hb : b < 5) (f : Nat → Int32) (h : a < b) (h3 : ¬ (τ 1).1 s = 0) (hj : zx_J A x v (τ 0).2.2.2 f (nI 4)) : zg_XMet l zm_X_part zc_X_part 4 (some .int) 7 1 6 D A base [.ref x, .int (nI s), .int (nI a), .int (nI b)] (zx_P A x v sz τ) "java/lang/IllegalStateException" (zx_P A x v sz τ) := by
  refine zg_xmet (by decide) (Nat.le_of_ble_eq_true rfl) ?_
  intro K hl0 hD0 hA0 hz0 hn hnm F EX
  subst hl0 hD0 hA0 hz0
  show zg_G K (zx_P (zk_A K) x v sz τ) 0 0 0 [(0, .ref x), (1, .int (nI s)), (2, .int (nI a)), (3, .int (nI b))] []
  refine zg_iload_n F 1 rfl rfl dX_part_0 ?_
  refine zg_callS F (zX_checkSailing _ _ _ _ _ s hs) zv_X_checkSailing zu_X_checkSailing zk_143 rfl ⟨by decide, by decide⟩ ⟨by decide, by decide⟩ rfl (Nat.le_of_ble_eq_true rfl) dX_part_1 ?_
  refine zg_iload_n F 2 rfl rfl dX_part_4 ?_
  refine zg_callS F (zX_checkStop _ _ _ _ _ a ha) zv_X_checkStop zu_X_checkStop zk_272 rfl ⟨by decide, by decide⟩ ⟨by decide, by decide⟩ rfl (Nat.le_of_ble_eq_true rfl) dX_part_5 ?_
  refine zg_iload_n F 3 rfl rfl dX_part_8 ?_
  refine zg_callS F (zX_checkStop _ _ _ _ _ b hb) zv_X_checkStop zu_X_checkStop zk_272 rfl ⟨by decide, by decide⟩ ⟨by decide, by decide⟩ rfl (Nat.le_of_ble_eq_true rfl) dX_part_9 ?_
  refine zg_iload_n F 2 rfl rfl dX_part_12 ?_
  refine zg_iload_n F 3 rfl rfl dX_part_13 ?_
  refine zg_icmp_ltT F (tgt := 27) dX_part_14 (by decide) (nI_lt h (by omega)) ?_
  refine zg_aload_n F 0 rfl rfl dX_part_27 ?_
  refine zg_get F (fun _ _ h => zx_g0 h) rfl zi_X 0 (by decide) rfl zk_105 rfl dX_part_28 ?_
  refine zg_iload_n F 1 rfl rfl dX_part_31 ?_
  refine zg_zald F (fun _ _ h => zx_g1 h) (by show _ < 4; omega) (by decide) rfl dX_part_32 ?_
  refine zg_if_neT F (tgt := 46) dX_part_33 (by decide) (h3) ?_
  refine zg_aload_n F 0 rfl rfl dX_part_46 ?_
  refine zg_get F (fun _ _ h => zx_g0 h) rfl zi_X 8 (by decide) rfl zk_113 rfl dX_part_47 ?_
  refine zg_get F (fun _ _ h => zx_J1 hj h) rfl zi_J 1 (by decide) rfl zk_39 rfl dX_part_50 ?_
  refine zg_iconst F (v := nI 4) (by decide) dX_part_53 ?_
  refine zg_icmp_neF F dX_part_54 (tgt := 67) (by decide) (rfl) ?_
  exact zg_throw F (text := "the draft is full") EX hl (by decide +kernel) zk_233 zk_11 (by decide +kernel) zt_ise zo_ise ⟨by decide, by decide⟩ ⟨by decide, by decide⟩ ⟨by decide, by decide⟩ (fun _ _ h => h) dX_part_57 dX_part_60 dX_part_61 dX_part_63 dX_part_66
set_option maxRecDepth 100000 in
set_option maxHeartbeats 4000000 in
theorem zX_buy_x2 (l : Launch) (D : va_G) (A : Nat → ClassId) (base : Nat) (hl : l.stackTraces = false) (x sz : Nat) (v : zg_w) (τ : zx_S) (port : Nat) (n : Int32) (h0 : port < 4) (h : n < nI 1 ∨ nI 100 < n) : zg_XMet l zm_X_buy zc_X_buy 4 (some .int) 7 1 6 D A base [.ref x, .int (nI port), .int n] (zx_P A x v sz τ) "java/lang/IllegalArgumentException" (zx_P A x v sz τ) := by
  refine zg_xmet (by decide) (Nat.le_of_ble_eq_true rfl) ?_
  intro K hl0 hD0 hA0 hz0 hn hnm F EX
  subst hl0 hD0 hA0 hz0
  show zg_G K (zx_P (zk_A K) x v sz τ) 0 0 0 [(0, .ref x), (1, .int (nI port)), (2, .int n)] []
  refine zg_iload_n F 1 rfl rfl dX_buy_0 ?_
  refine zg_callS F (zX_checkPort _ _ _ _ _ port h0) zv_X_checkPort zu_X_checkPort zk_291 rfl ⟨by decide, by decide⟩ ⟨by decide, by decide⟩ rfl (Nat.le_of_ble_eq_true rfl) dX_buy_1 ?_
  refine zg_iload_n F 2 rfl rfl dX_buy_4 ?_
  exact zg_xcallS F (zX_checkSeats_x _ _ _ _ hl _ n h) zv_X_checkSeats zu_X_checkSeats zk_214 rfl ⟨by decide, by decide⟩ ⟨by decide, by decide⟩ rfl (Nat.le_of_ble_eq_true rfl) dX_buy_5 (zg_xout EX (by decide) (by decide) (fun _ _ h => h))
set_option maxRecDepth 100000 in
set_option maxHeartbeats 4000000 in
theorem zX_buy_x3 (l : Launch) (D : va_G) (A : Nat → ClassId) (base : Nat) (hl : l.stackTraces = false) (x sz : Nat) (v : zg_w) (τ : zx_S) (port : Nat) (n : Int32) (h0 : port < 4) (h1 : ¬ n < nI 1) (h2 : ¬ nI 100 < n) (f : Nat → Int32) (hj : zx_J A x v (τ 0).2.2.2 f (nI 0)) : zg_XMet l zm_X_buy zc_X_buy 4 (some .int) 7 1 6 D A base [.ref x, .int (nI port), .int n] (zx_P A x v sz τ) "java/lang/IllegalStateException" (zx_P A x v sz τ) := by
  refine zg_xmet (by decide) (Nat.le_of_ble_eq_true rfl) ?_
  intro K hl0 hD0 hA0 hz0 hn hnm F EX
  subst hl0 hD0 hA0 hz0
  show zg_G K (zx_P (zk_A K) x v sz τ) 0 0 0 [(0, .ref x), (1, .int (nI port)), (2, .int n)] []
  refine zg_iload_n F 1 rfl rfl dX_buy_0 ?_
  refine zg_callS F (zX_checkPort _ _ _ _ _ port h0) zv_X_checkPort zu_X_checkPort zk_291 rfl ⟨by decide, by decide⟩ ⟨by decide, by decide⟩ rfl (Nat.le_of_ble_eq_true rfl) dX_buy_1 ?_
  refine zg_iload_n F 2 rfl rfl dX_buy_4 ?_
  refine zg_callS F (zX_checkSeats _ _ _ _ _ n h1 h2) zv_X_checkSeats zu_X_checkSeats zk_214 rfl ⟨by decide, by decide⟩ ⟨by decide, by decide⟩ rfl (Nat.le_of_ble_eq_true rfl) dX_buy_5 ?_
  refine zg_aload_n F 0 rfl rfl dX_buy_8 ?_
  exact zg_xcallV F (zX_checkDraft_x _ _ _ _ hl x sz v τ f hj) zv_X_checkDraft zu_X_checkDraft zk_295 (fun _ _ h => zx_g0 h) rfl rfl ⟨by decide, by decide⟩ ⟨by decide, by decide⟩ rfl (Nat.le_of_ble_eq_true rfl) dX_buy_9 (zg_xout EX (by decide) (by decide) (fun _ _ h => h))
set_option maxRecDepth 100000 in
set_option maxHeartbeats 4000000 in
theorem zX_buy_x4 (l : Launch) (D : va_G) (A : Nat → ClassId) (base : Nat) (hl : l.stackTraces = false) (x sz : Nat) (v : zg_w) (τ : zx_S) (port : Nat) (n : Int32) (h0 : port < 4) (h1 : ¬ n < nI 1) (h2 : ¬ nI 100 < n) (f : Nat → Int32) (d : Nat) (hd : d ≤ 4) (hj : zx_J A x v (τ 0).2.2.2 f (nI d)) (hd0 : d ≠ 0) (hT : (τ 0).1 7 = nI 80) : zg_XMet l zm_X_buy zc_X_buy 4 (some .int) 7 1 6 D A base [.ref x, .int (nI port), .int n] (zx_P A x v sz τ) "java/lang/IllegalStateException" (zx_P A x v sz τ) := by
  refine zg_xmet (by decide) (Nat.le_of_ble_eq_true rfl) ?_
  intro K hl0 hD0 hA0 hz0 hn hnm F EX
  subst hl0 hD0 hA0 hz0
  show zg_G K (zx_P (zk_A K) x v sz τ) 0 0 0 [(0, .ref x), (1, .int (nI port)), (2, .int n)] []
  refine zg_iload_n F 1 rfl rfl dX_buy_0 ?_
  refine zg_callS F (zX_checkPort _ _ _ _ _ port h0) zv_X_checkPort zu_X_checkPort zk_291 rfl ⟨by decide, by decide⟩ ⟨by decide, by decide⟩ rfl (Nat.le_of_ble_eq_true rfl) dX_buy_1 ?_
  refine zg_iload_n F 2 rfl rfl dX_buy_4 ?_
  refine zg_callS F (zX_checkSeats _ _ _ _ _ n h1 h2) zv_X_checkSeats zu_X_checkSeats zk_214 rfl ⟨by decide, by decide⟩ ⟨by decide, by decide⟩ rfl (Nat.le_of_ble_eq_true rfl) dX_buy_5 ?_
  refine zg_aload_n F 0 rfl rfl dX_buy_8 ?_
  refine zg_callV F (zX_checkDraft _ _ _ _ x sz v τ f d hd hj hd0) zv_X_checkDraft zu_X_checkDraft zk_295 (fun _ _ h => zx_g0 h) rfl rfl ⟨by decide, by decide⟩ ⟨by decide, by decide⟩ rfl (Nat.le_of_ble_eq_true rfl) dX_buy_9 ?_
  refine zg_aload_n F 0 rfl rfl dX_buy_12 ?_
  refine zg_get F (fun _ _ h => zx_g0 h) rfl zi_X 7 (by decide) rfl zk_112 rfl dX_buy_13 ?_
  refine zg_bipush F (v := nI 80) (by decide) dX_buy_16 ?_
  refine zg_icmp_neF F dX_buy_18 (tgt := 31) (by decide) (hT) ?_
  exact zg_throw F (text := "there are no tickets left") EX hl (by decide +kernel) zk_233 zk_11 (by decide +kernel) zt_ise zo_ise ⟨by decide, by decide⟩ ⟨by decide, by decide⟩ ⟨by decide, by decide⟩ (fun _ _ h => h) dX_buy_21 dX_buy_24 dX_buy_25 dX_buy_27 dX_buy_30
set_option maxRecDepth 100000 in
set_option maxHeartbeats 4000000 in
theorem zX_wish_x2 (l : Launch) (D : va_G) (A : Nat → ClassId) (base : Nat) (hl : l.stackTraces = false) (x sz : Nat) (v : zg_w) (τ : zx_S) (port : Nat) (n : Int32) (h0 : port < 4) (h : n < nI 1 ∨ nI 100 < n) : zg_XMet l zm_X_wish zc_X_wish 3 (some .int) 7 1 6 D A base [.ref x, .int (nI port), .int n] (zx_P A x v sz τ) "java/lang/IllegalArgumentException" (zx_P A x v sz τ) := by
  refine zg_xmet (by decide) (Nat.le_of_ble_eq_true rfl) ?_
  intro K hl0 hD0 hA0 hz0 hn hnm F EX
  subst hl0 hD0 hA0 hz0
  show zg_G K (zx_P (zk_A K) x v sz τ) 0 0 0 [(0, .ref x), (1, .int (nI port)), (2, .int n)] []
  refine zg_iload_n F 1 rfl rfl dX_wish_0 ?_
  refine zg_callS F (zX_checkPort _ _ _ _ _ port h0) zv_X_checkPort zu_X_checkPort zk_291 rfl ⟨by decide, by decide⟩ ⟨by decide, by decide⟩ rfl (Nat.le_of_ble_eq_true rfl) dX_wish_1 ?_
  refine zg_iload_n F 2 rfl rfl dX_wish_4 ?_
  exact zg_xcallS F (zX_checkSeats_x _ _ _ _ hl _ n h) zv_X_checkSeats zu_X_checkSeats zk_214 rfl ⟨by decide, by decide⟩ ⟨by decide, by decide⟩ rfl (Nat.le_of_ble_eq_true rfl) dX_wish_5 (zg_xout EX (by decide) (by decide) (fun _ _ h => h))
set_option maxRecDepth 100000 in
set_option maxHeartbeats 4000000 in
theorem zX_wish_x3 (l : Launch) (D : va_G) (A : Nat → ClassId) (base : Nat) (hl : l.stackTraces = false) (x sz : Nat) (v : zg_w) (τ : zx_S) (port : Nat) (n : Int32) (h0 : port < 4) (h1 : ¬ n < nI 1) (h2 : ¬ nI 100 < n) (f : Nat → Int32) (hj : zx_J A x v (τ 0).2.2.2 f (nI 0)) : zg_XMet l zm_X_wish zc_X_wish 3 (some .int) 7 1 6 D A base [.ref x, .int (nI port), .int n] (zx_P A x v sz τ) "java/lang/IllegalStateException" (zx_P A x v sz τ) := by
  refine zg_xmet (by decide) (Nat.le_of_ble_eq_true rfl) ?_
  intro K hl0 hD0 hA0 hz0 hn hnm F EX
  subst hl0 hD0 hA0 hz0
  show zg_G K (zx_P (zk_A K) x v sz τ) 0 0 0 [(0, .ref x), (1, .int (nI port)), (2, .int n)] []
  refine zg_iload_n F 1 rfl rfl dX_wish_0 ?_
  refine zg_callS F (zX_checkPort _ _ _ _ _ port h0) zv_X_checkPort zu_X_checkPort zk_291 rfl ⟨by decide, by decide⟩ ⟨by decide, by decide⟩ rfl (Nat.le_of_ble_eq_true rfl) dX_wish_1 ?_
  refine zg_iload_n F 2 rfl rfl dX_wish_4 ?_
  refine zg_callS F (zX_checkSeats _ _ _ _ _ n h1 h2) zv_X_checkSeats zu_X_checkSeats zk_214 rfl ⟨by decide, by decide⟩ ⟨by decide, by decide⟩ rfl (Nat.le_of_ble_eq_true rfl) dX_wish_5 ?_
  refine zg_aload_n F 0 rfl rfl dX_wish_8 ?_
  exact zg_xcallV F (zX_checkDraft_x _ _ _ _ hl x sz v τ f hj) zv_X_checkDraft zu_X_checkDraft zk_295 (fun _ _ h => zx_g0 h) rfl rfl ⟨by decide, by decide⟩ ⟨by decide, by decide⟩ rfl (Nat.le_of_ble_eq_true rfl) dX_wish_9 (zg_xout EX (by decide) (by decide) (fun _ _ h => h))
set_option maxRecDepth 100000 in
set_option maxHeartbeats 4000000 in
theorem zX_wish_x4 (l : Launch) (D : va_G) (A : Nat → ClassId) (base : Nat) (hl : l.stackTraces = false) (x sz : Nat) (v : zg_w) (τ : zx_S) (port : Nat) (n : Int32) (h0 : port < 4) (h1 : ¬ n < nI 1) (h2 : ¬ nI 100 < n) (f : Nat → Int32) (d : Nat) (hd : d ≤ 4) (hj : zx_J A x v (τ 0).2.2.2 f (nI d)) (hd0 : d ≠ 0) (hw : (τ (10 + 3 * port)).1 2 = nI 6) : zg_XMet l zm_X_wish zc_X_wish 3 (some .int) 7 1 6 D A base [.ref x, .int (nI port), .int n] (zx_P A x v sz τ) "java/lang/IllegalStateException" (zx_P A x v sz τ) := by
  refine zg_xmet (by decide) (Nat.le_of_ble_eq_true rfl) ?_
  intro K hl0 hD0 hA0 hz0 hn hnm F EX
  subst hl0 hD0 hA0 hz0
  show zg_G K (zx_P (zk_A K) x v sz τ) 0 0 0 [(0, .ref x), (1, .int (nI port)), (2, .int n)] []
  refine zg_iload_n F 1 rfl rfl dX_wish_0 ?_
  refine zg_callS F (zX_checkPort _ _ _ _ _ port h0) zv_X_checkPort zu_X_checkPort zk_291 rfl ⟨by decide, by decide⟩ ⟨by decide, by decide⟩ rfl (Nat.le_of_ble_eq_true rfl) dX_wish_1 ?_
  refine zg_iload_n F 2 rfl rfl dX_wish_4 ?_
  refine zg_callS F (zX_checkSeats _ _ _ _ _ n h1 h2) zv_X_checkSeats zu_X_checkSeats zk_214 rfl ⟨by decide, by decide⟩ ⟨by decide, by decide⟩ rfl (Nat.le_of_ble_eq_true rfl) dX_wish_5 ?_
  refine zg_aload_n F 0 rfl rfl dX_wish_8 ?_
  refine zg_callV F (zX_checkDraft _ _ _ _ x sz v τ f d hd hj hd0) zv_X_checkDraft zu_X_checkDraft zk_295 (fun _ _ h => zx_g0 h) rfl rfl ⟨by decide, by decide⟩ ⟨by decide, by decide⟩ rfl (Nat.le_of_ble_eq_true rfl) dX_wish_9 ?_
  refine zg_aload_n F 0 rfl rfl dX_wish_12 ?_
  refine zg_get F (fun _ _ h => zx_g0 h) rfl zi_X 4 (by decide) rfl zk_109 rfl dX_wish_13 ?_
  refine zg_iload_n F 1 rfl rfl dX_wish_16 ?_
  refine zg_aald F (t0 := 3) (C := "IslandRights$Port") (fun _ _ h => zx_g5 h) rfl (by show _ < 4; omega) (by decide) (if_pos (by omega)) dX_wish_17 ?_
  refine zg_get F (fun _ _ h => zx_gp h (by omega)) rfl zi_P 2 (by decide) rfl zk_59 rfl dX_wish_18 ?_
  refine zg_bipush F (v := nI 6) (by decide) dX_wish_21 ?_
  refine zg_icmp_neF F dX_wish_23 (tgt := 36) (by decide) (hw) ?_
  exact zg_throw F (text := "the port's row of wishes is full") EX hl (by decide +kernel) zk_233 zk_11 (by decide +kernel) zt_ise zo_ise ⟨by decide, by decide⟩ ⟨by decide, by decide⟩ ⟨by decide, by decide⟩ (fun _ _ h => h) dX_wish_26 dX_wish_29 dX_wish_30 dX_wish_32 dX_wish_35
set_option maxRecDepth 100000 in
set_option maxHeartbeats 4000000 in
theorem zX_hand_x2 (l : Launch) (D : va_G) (A : Nat → ClassId) (base : Nat) (hl : l.stackTraces = false) (x sz : Nat) (v : zg_w) (τ : zx_S) (a s leg : Nat) (n : Int32) (ha : a < 4) (hs : s < 4) (hg : leg < 4) : zg_XMet l zm_X_hand zc_X_hand 7 (some .int) 7 1 6 D A base [.ref x, .int (nI a), .int (nI a), .int (nI s), .int (nI leg), .int n] (zx_P A x v sz τ) "java/lang/IllegalArgumentException" (zx_P A x v sz τ) := by
  refine zg_xmet (by decide) (Nat.le_of_ble_eq_true rfl) ?_
  intro K hl0 hD0 hA0 hz0 hn hnm F EX
  subst hl0 hD0 hA0 hz0
  show zg_G K (zx_P (zk_A K) x v sz τ) 0 0 0 [(0, .ref x), (1, .int (nI a)), (2, .int (nI a)), (3, .int (nI s)), (4, .int (nI leg)), (5, .int n)] []
  refine zg_iload_n F 1 rfl rfl dX_hand_0 ?_
  refine zg_callS F (zX_checkPort _ _ _ _ _ a ha) zv_X_checkPort zu_X_checkPort zk_291 rfl ⟨by decide, by decide⟩ ⟨by decide, by decide⟩ rfl (Nat.le_of_ble_eq_true rfl) dX_hand_1 ?_
  refine zg_iload_n F 2 rfl rfl dX_hand_4 ?_
  refine zg_callS F (zX_checkPort _ _ _ _ _ a ha) zv_X_checkPort zu_X_checkPort zk_291 rfl ⟨by decide, by decide⟩ ⟨by decide, by decide⟩ rfl (Nat.le_of_ble_eq_true rfl) dX_hand_5 ?_
  refine zg_iload_n F 3 rfl rfl dX_hand_8 ?_
  refine zg_callS F (zX_checkSailing _ _ _ _ _ s hs) zv_X_checkSailing zu_X_checkSailing zk_143 rfl ⟨by decide, by decide⟩ ⟨by decide, by decide⟩ rfl (Nat.le_of_ble_eq_true rfl) dX_hand_9 ?_
  refine zg_iload F 4 rfl dX_hand_12 ?_
  refine zg_callS F (zX_checkLeg _ _ _ _ _ leg hg) zv_X_checkLeg zu_X_checkLeg zk_259 rfl ⟨by decide, by decide⟩ ⟨by decide, by decide⟩ rfl (Nat.le_of_ble_eq_true rfl) dX_hand_14 ?_
  refine zg_iload_n F 1 rfl rfl dX_hand_17 ?_
  refine zg_iload_n F 2 rfl rfl dX_hand_18 ?_
  exact zg_xcallS F (zX_checkDifferent_x _ _ _ _ hl _ (nI a)) zv_X_checkDifferent zu_X_checkDifferent zk_412 rfl ⟨by decide, by decide⟩ ⟨by decide, by decide⟩ rfl (Nat.le_of_ble_eq_true rfl) dX_hand_19 (zg_xout EX (by decide) (by decide) (fun _ _ h => h))
set_option maxRecDepth 100000 in
set_option maxHeartbeats 4000000 in
theorem zX_hand_x3 (l : Launch) (D : va_G) (A : Nat → ClassId) (base : Nat) (hl : l.stackTraces = false) (x sz : Nat) (v : zg_w) (τ : zx_S) (a b s leg : Nat) (n : Int32) (ha : a < 4) (hb : b < 4) (hs : s < 4) (hg : leg < 4) (hn0 : a ≠ b) (h : n < nI 1 ∨ nI 100 < n) : zg_XMet l zm_X_hand zc_X_hand 7 (some .int) 7 1 6 D A base [.ref x, .int (nI a), .int (nI b), .int (nI s), .int (nI leg), .int n] (zx_P A x v sz τ) "java/lang/IllegalArgumentException" (zx_P A x v sz τ) := by
  refine zg_xmet (by decide) (Nat.le_of_ble_eq_true rfl) ?_
  intro K hl0 hD0 hA0 hz0 hn hnm F EX
  subst hl0 hD0 hA0 hz0
  show zg_G K (zx_P (zk_A K) x v sz τ) 0 0 0 [(0, .ref x), (1, .int (nI a)), (2, .int (nI b)), (3, .int (nI s)), (4, .int (nI leg)), (5, .int n)] []
  refine zg_iload_n F 1 rfl rfl dX_hand_0 ?_
  refine zg_callS F (zX_checkPort _ _ _ _ _ a ha) zv_X_checkPort zu_X_checkPort zk_291 rfl ⟨by decide, by decide⟩ ⟨by decide, by decide⟩ rfl (Nat.le_of_ble_eq_true rfl) dX_hand_1 ?_
  refine zg_iload_n F 2 rfl rfl dX_hand_4 ?_
  refine zg_callS F (zX_checkPort _ _ _ _ _ b hb) zv_X_checkPort zu_X_checkPort zk_291 rfl ⟨by decide, by decide⟩ ⟨by decide, by decide⟩ rfl (Nat.le_of_ble_eq_true rfl) dX_hand_5 ?_
  refine zg_iload_n F 3 rfl rfl dX_hand_8 ?_
  refine zg_callS F (zX_checkSailing _ _ _ _ _ s hs) zv_X_checkSailing zu_X_checkSailing zk_143 rfl ⟨by decide, by decide⟩ ⟨by decide, by decide⟩ rfl (Nat.le_of_ble_eq_true rfl) dX_hand_9 ?_
  refine zg_iload F 4 rfl dX_hand_12 ?_
  refine zg_callS F (zX_checkLeg _ _ _ _ _ leg hg) zv_X_checkLeg zu_X_checkLeg zk_259 rfl ⟨by decide, by decide⟩ ⟨by decide, by decide⟩ rfl (Nat.le_of_ble_eq_true rfl) dX_hand_14 ?_
  refine zg_iload_n F 1 rfl rfl dX_hand_17 ?_
  refine zg_iload_n F 2 rfl rfl dX_hand_18 ?_
  refine zg_callS F (zX_checkDifferent _ _ _ _ _ a b ha hb hn0) zv_X_checkDifferent zu_X_checkDifferent zk_412 rfl ⟨by decide, by decide⟩ ⟨by decide, by decide⟩ rfl (Nat.le_of_ble_eq_true rfl) dX_hand_19 ?_
  refine zg_iload F 5 rfl dX_hand_22 ?_
  exact zg_xcallS F (zX_checkSeats_x _ _ _ _ hl _ n h) zv_X_checkSeats zu_X_checkSeats zk_214 rfl ⟨by decide, by decide⟩ ⟨by decide, by decide⟩ rfl (Nat.le_of_ble_eq_true rfl) dX_hand_24 (zg_xout EX (by decide) (by decide) (fun _ _ h => h))
set_option maxRecDepth 100000 in
set_option maxHeartbeats 4000000 in
theorem zX_hand_x4 (l : Launch) (D : va_G) (A : Nat → ClassId) (base : Nat) (hl : l.stackTraces = false) (x sz : Nat) (v : zg_w) (τ : zx_S) (a b s leg : Nat) (n : Int32) (ha : a < 4) (hb : b < 4) (hs : s < 4) (hg : leg < 4) (hn0 : a ≠ b) (h1 : ¬ n < nI 1) (h2 : ¬ nI 100 < n) (h8 : (τ (22 + 3 * (a * 4 + b))).1 3 = nI 8) : zg_XMet l zm_X_hand zc_X_hand 7 (some .int) 7 1 6 D A base [.ref x, .int (nI a), .int (nI b), .int (nI s), .int (nI leg), .int n] (zx_P A x v sz τ) "java/lang/IllegalStateException" (zx_P A x v sz τ) := by
  refine zg_xmet (by decide) (Nat.le_of_ble_eq_true rfl) ?_
  intro K hl0 hD0 hA0 hz0 hn hnm F EX
  subst hl0 hD0 hA0 hz0
  show zg_G K (zx_P (zk_A K) x v sz τ) 0 0 0 [(0, .ref x), (1, .int (nI a)), (2, .int (nI b)), (3, .int (nI s)), (4, .int (nI leg)), (5, .int n)] []
  refine zg_iload_n F 1 rfl rfl dX_hand_0 ?_
  refine zg_callS F (zX_checkPort _ _ _ _ _ a ha) zv_X_checkPort zu_X_checkPort zk_291 rfl ⟨by decide, by decide⟩ ⟨by decide, by decide⟩ rfl (Nat.le_of_ble_eq_true rfl) dX_hand_1 ?_
  refine zg_iload_n F 2 rfl rfl dX_hand_4 ?_
  refine zg_callS F (zX_checkPort _ _ _ _ _ b hb) zv_X_checkPort zu_X_checkPort zk_291 rfl ⟨by decide, by decide⟩ ⟨by decide, by decide⟩ rfl (Nat.le_of_ble_eq_true rfl) dX_hand_5 ?_
  refine zg_iload_n F 3 rfl rfl dX_hand_8 ?_
  refine zg_callS F (zX_checkSailing _ _ _ _ _ s hs) zv_X_checkSailing zu_X_checkSailing zk_143 rfl ⟨by decide, by decide⟩ ⟨by decide, by decide⟩ rfl (Nat.le_of_ble_eq_true rfl) dX_hand_9 ?_
  refine zg_iload F 4 rfl dX_hand_12 ?_
  refine zg_callS F (zX_checkLeg _ _ _ _ _ leg hg) zv_X_checkLeg zu_X_checkLeg zk_259 rfl ⟨by decide, by decide⟩ ⟨by decide, by decide⟩ rfl (Nat.le_of_ble_eq_true rfl) dX_hand_14 ?_
  refine zg_iload_n F 1 rfl rfl dX_hand_17 ?_
  refine zg_iload_n F 2 rfl rfl dX_hand_18 ?_
  refine zg_callS F (zX_checkDifferent _ _ _ _ _ a b ha hb hn0) zv_X_checkDifferent zu_X_checkDifferent zk_412 rfl ⟨by decide, by decide⟩ ⟨by decide, by decide⟩ rfl (Nat.le_of_ble_eq_true rfl) dX_hand_19 ?_
  refine zg_iload F 5 rfl dX_hand_22 ?_
  refine zg_callS F (zX_checkSeats _ _ _ _ _ n h1 h2) zv_X_checkSeats zu_X_checkSeats zk_214 rfl ⟨by decide, by decide⟩ ⟨by decide, by decide⟩ rfl (Nat.le_of_ble_eq_true rfl) dX_hand_24 ?_
  refine zg_aload_n F 0 rfl rfl dX_hand_27 ?_
  refine zg_iload_n F 1 rfl rfl dX_hand_28 ?_
  refine zg_iload_n F 2 rfl rfl dX_hand_29 ?_
  refine zg_callV F (zX_laneOf _ _ _ _ x sz v τ a b ha hb) zv_X_laneOf zu_X_laneOf zk_416 (fun _ _ h => zx_g0 h) rfl rfl ⟨by decide, by decide⟩ ⟨by decide, by decide⟩ rfl (Nat.le_of_ble_eq_true rfl) dX_hand_30 ?_
  refine zg_callV F (zN_isFull _ _ _ _ x sz v τ (a * 4 + b) (by omega)) zv_N_isFull zu_N_isFull zk_420 (fun _ _ h => zx_gl h (by omega)) rfl rfl ⟨by decide, by decide⟩ ⟨by decide, by decide⟩ rfl (Nat.le_of_ble_eq_true rfl) dX_hand_33 ?_
  refine zg_eqi (y := nI 1) (zb_t h8) ?_
  refine zg_if_eqF F dX_hand_36 (tgt := 49) (by decide) (by decide) ?_
  exact zg_throw F (text := "the outbox is full") EX hl (by decide +kernel) zk_233 zk_11 (by decide +kernel) zt_ise zo_ise ⟨by decide, by decide⟩ ⟨by decide, by decide⟩ ⟨by decide, by decide⟩ (fun _ _ h => h) dX_hand_39 dX_hand_42 dX_hand_43 dX_hand_45 dX_hand_48
set_option maxRecDepth 100000 in
set_option maxHeartbeats 4000000 in
theorem zX_share_x2 (l : Launch) (D : va_G) (A : Nat → ClassId) (base : Nat) (hl : l.stackTraces = false) (x sz : Nat) (v : zg_w) (τ : zx_S) (a s : Nat) (ha : a < 4) (hs : s < 4) : zg_XMet l zm_X_share zc_X_share 8 (some .int) 7 1 6 D A base [.ref x, .int (nI a), .int (nI a), .int (nI s)] (zx_P A x v sz τ) "java/lang/IllegalArgumentException" (zx_P A x v sz τ) := by
  refine zg_xmet (by decide) (Nat.le_of_ble_eq_true rfl) ?_
  intro K hl0 hD0 hA0 hz0 hn hnm F EX
  subst hl0 hD0 hA0 hz0
  show zg_G K (zx_P (zk_A K) x v sz τ) 0 0 0 [(0, .ref x), (1, .int (nI a)), (2, .int (nI a)), (3, .int (nI s))] []
  refine zg_iload_n F 1 rfl rfl dX_share_0 ?_
  refine zg_callS F (zX_checkPort _ _ _ _ _ a ha) zv_X_checkPort zu_X_checkPort zk_291 rfl ⟨by decide, by decide⟩ ⟨by decide, by decide⟩ rfl (Nat.le_of_ble_eq_true rfl) dX_share_1 ?_
  refine zg_iload_n F 2 rfl rfl dX_share_4 ?_
  refine zg_callS F (zX_checkPort _ _ _ _ _ a ha) zv_X_checkPort zu_X_checkPort zk_291 rfl ⟨by decide, by decide⟩ ⟨by decide, by decide⟩ rfl (Nat.le_of_ble_eq_true rfl) dX_share_5 ?_
  refine zg_iload_n F 3 rfl rfl dX_share_8 ?_
  refine zg_callS F (zX_checkSailing _ _ _ _ _ s hs) zv_X_checkSailing zu_X_checkSailing zk_143 rfl ⟨by decide, by decide⟩ ⟨by decide, by decide⟩ rfl (Nat.le_of_ble_eq_true rfl) dX_share_9 ?_
  refine zg_iload_n F 1 rfl rfl dX_share_12 ?_
  refine zg_iload_n F 2 rfl rfl dX_share_13 ?_
  exact zg_xcallS F (zX_checkDifferent_x _ _ _ _ hl _ (nI a)) zv_X_checkDifferent zu_X_checkDifferent zk_412 rfl ⟨by decide, by decide⟩ ⟨by decide, by decide⟩ rfl (Nat.le_of_ble_eq_true rfl) dX_share_14 (zg_xout EX (by decide) (by decide) (fun _ _ h => h))
/-- a ticket at q -/
def zx_K (A : Nat → ClassId) (x : Nat) (v : zg_w) (q : Nat) (port n : Int32) (j : Nat) (c : Int64) (can : Int32) : Prop := zx_out x q ∧ v q = some (.inr (3, [.int port, .int n, .ref j, .long c, .int can]))
theorem zx_K1 {A : Nat → ClassId} {x sz q j : Nat} {v w : zg_w} {τ : zx_S} {z : Nat} {port n can : Int32} {c : Int64} (hk : zx_K A x v q port n j c can) (h : zx_P A x v sz τ w z) : w q = some (.inr (3, [.int port, .int n, .ref j, .long c, .int can])) := by rw [zx_gv h hk.1]; exact hk.2
set_option maxRecDepth 100000 in
set_option maxHeartbeats 4000000 in
theorem zX_cancel_x2 (l : Launch) (D : va_G) (A : Nat → ClassId) (base : Nat) (hl : l.stackTraces = false) (x sz : Nat) (v : zg_w) (τ : zx_S) (t T q : Nat) (ht : t < T) (hT8 : T ≤ 80) (hT : (τ 0).1 7 = nI T) (hq : (τ 7).2.2.1 t = some q) (port n can : Int32) (j : Nat) (c : Int64) (hk : zx_K A x v q port n j c can) (h : ¬ can = 0) : zg_XMet l zm_X_cancel zc_X_cancel 3 (some .int) 7 1 6 D A base [.ref x, .int (nI t)] (zx_P A x v sz τ) "java/lang/IllegalStateException" (zx_P A x v sz τ) := by
  refine zg_xmet (by decide) (Nat.le_of_ble_eq_true rfl) ?_
  intro K hl0 hD0 hA0 hz0 hn hnm F EX
  subst hl0 hD0 hA0 hz0
  show zg_G K (zx_P (zk_A K) x v sz τ) 0 0 0 [(0, .ref x), (1, .int (nI t))] []
  refine zg_aload_n F 0 rfl rfl dX_cancel_0 ?_
  refine zg_iload_n F 1 rfl rfl dX_cancel_1 ?_
  refine zg_callV F (zX_checkTicket _ _ _ _ x sz v τ t T ht hT8 hT) zv_X_checkTicket zu_X_checkTicket zk_384 (fun _ _ h => zx_g0 h) rfl rfl ⟨by decide, by decide⟩ ⟨by decide, by decide⟩ rfl (Nat.le_of_ble_eq_true rfl) dX_cancel_2 ?_
  refine zg_aload_n F 0 rfl rfl dX_cancel_5 ?_
  refine zg_get F (fun _ _ h => zx_g0 h) rfl zi_X 6 (by decide) rfl zk_111 rfl dX_cancel_6 ?_
  refine zg_iload_n F 1 rfl rfl dX_cancel_9 ?_
  refine zg_aald F (t0 := 5) (C := "IslandRights$Ticket") (fun _ _ h => zx_g7 h) rfl (by show _ < 80; omega) (by decide) hq dX_cancel_10 ?_
  refine zg_astore_n F rfl (by rw [hn]; decide) (L' := [(2, _), (0, _), (1, _)]) rfl dX_cancel_11 ?_
  refine zg_aload_n F 0 rfl rfl dX_cancel_12 ?_
  refine zg_get F (fun _ _ h => zx_K1 hk h) rfl zi_T 4 (by decide) rfl zk_335 rfl dX_cancel_13 ?_
  refine zg_if_eqF F dX_cancel_16 (tgt := 29) (by decide) (h) ?_
  exact zg_throw F (text := "the ticket was cancelled") EX hl (by decide +kernel) zk_233 zk_11 (by decide +kernel) zt_ise zo_ise ⟨by decide, by decide⟩ ⟨by decide, by decide⟩ ⟨by decide, by decide⟩ (fun _ _ h => h) dX_cancel_19 dX_cancel_22 dX_cancel_23 dX_cancel_25 dX_cancel_28
set_option maxRecDepth 100000 in
set_option maxHeartbeats 4000000 in
theorem zX_ticket_x2 (l : Launch) (D : va_G) (A : Nat → ClassId) (base : Nat) (hl : l.stackTraces = false) (x sz : Nat) (v : zg_w) (τ : zx_S) (t T q : Nat) (ht : t < T) (hT8 : T ≤ 80) (hT : (τ 0).1 7 = nI T) (hq : (τ 7).2.2.1 t = some q) (port n can : Int32) (j : Nat) (c : Int64) (hk : zx_K A x v q port n j c can) (what : Int32) (h : what < 0 ∨ nI 3 < what) : zg_XMet l zm_X_ticket zc_X_ticket 4 (some .int) 7 1 6 D A base [.ref x, .int (nI t), .int what] (zx_P A x v sz τ) "java/lang/IllegalArgumentException" (zx_P A x v sz τ) := by
  refine zg_xmet (by decide) (Nat.le_of_ble_eq_true rfl) ?_
  intro K hl0 hD0 hA0 hz0 hn hnm F EX
  subst hl0 hD0 hA0 hz0
  show zg_G K (zx_P (zk_A K) x v sz τ) 0 0 0 [(0, .ref x), (1, .int (nI t)), (2, .int what)] []
  refine zg_aload_n F 0 rfl rfl dX_ticket_0 ?_
  refine zg_iload_n F 1 rfl rfl dX_ticket_1 ?_
  refine zg_callV F (zX_checkTicket _ _ _ _ x sz v τ t T ht hT8 hT) zv_X_checkTicket zu_X_checkTicket zk_384 (fun _ _ h => zx_g0 h) rfl rfl ⟨by decide, by decide⟩ ⟨by decide, by decide⟩ rfl (Nat.le_of_ble_eq_true rfl) dX_ticket_2 ?_
  refine zg_aload_n F 0 rfl rfl dX_ticket_5 ?_
  refine zg_get F (fun _ _ h => zx_g0 h) rfl zi_X 6 (by decide) rfl zk_111 rfl dX_ticket_6 ?_
  refine zg_iload_n F 1 rfl rfl dX_ticket_9 ?_
  refine zg_aald F (t0 := 5) (C := "IslandRights$Ticket") (fun _ _ h => zx_g7 h) rfl (by show _ < 80; omega) (by decide) hq dX_ticket_10 ?_
  refine zg_astore_n F rfl (by rw [hn]; decide) (L' := [(3, _), (0, _), (1, _), (2, _)]) rfl dX_ticket_11 ?_
  refine zg_iload_n F 3 rfl rfl dX_ticket_12 ?_
  refine zg_tabO F (tgt := 75) dX_ticket_13 (h.elim (fun h => Or.inl (by have g := Int32.lt_iff_toInt_lt.mp h; simpa using g)) (fun h => Or.inr (by have g := Int32.lt_iff_toInt_lt.mp h; rw [nI_toInt (by decide)] at g; exact g))) (by decide) ?_
  exact zg_throw F (text := "what is 0 to 3") EX hl (by decide +kernel) zk_217 zk_10 (by decide +kernel) zt_iae zo_iae ⟨by decide, by decide⟩ ⟨by decide, by decide⟩ ⟨by decide, by decide⟩ (fun _ _ h => h) dX_ticket_75 dX_ticket_78 dX_ticket_79 dX_ticket_81 dX_ticket_84
