set_option maxRecDepth 100000 in
theorem zL_open (l : Launch) (D : va_G) (A : Nat → ClassId) (base : Nat) (d mc ms : Nat) (hd : d ≤ 8) (P P' : zg_P) (x : Nat) (p0 p1 : Int32) (fs : List Value) (hx : ∀ w z, P w z → w x = some (.inr (5, fs))) (hM : zg_Met l zm_X_open zc_X_open 4 none d mc ms D A base [.ref x, .int p0, .int p1] P none P') : zg_MetW l zm_L_open zc_L_open 4 (some .int) [(0, 6, 9, 13), (0, 6, 12, 15), (0, 6, 15, 17)] 9 mc ms D A base [.ref x, .int p0, .int p1] P (some (.int (nI 0))) P' := by
  refine zg_metW (by decide) (Nat.le_of_ble_eq_true rfl) ?_
  intro K hl0 hD0 hA0 hz0 hn htab F E
  subst hl0 hD0 hA0 hz0
  show zg_G K P 0 0 0 [(0, .ref x), (1, .int p0), (2, .int p1)] []
  refine zg_aload_n F 0 rfl rfl dL_open_0 ?_
  refine zg_iload_n F 1 rfl rfl dL_open_1 ?_
  refine zg_iload_n F 2 rfl rfl dL_open_2 ?_
  refine zg_callV F hM zv_X_open zu_X_open zk_139 hx rfl rfl ⟨by show d + 1 ≤ 9; omega, by show 8 + (_ + 11) + 32 * d ≤ 288; omega⟩ ⟨Nat.le_of_eq (Nat.zero_add _), Nat.le_of_eq (Nat.zero_add _)⟩ rfl (Nat.le_of_ble_eq_true rfl) dL_open_3 ?_
  refine zg_goto F (tgt := 18) dL_open_6 (by decide) ?_
  refine zg_iconst F (v := nI 0) (by decide) dL_open_18 ?_
  exact zg_iret F E (Nat.le_of_eq (Nat.zero_add _)) (Nat.le_of_eq (Nat.zero_add _)) (fun _ _ h => h) dL_open_19
set_option maxRecDepth 100000 in
theorem zL_open_x1 (l : Launch) (D : va_G) (A : Nat → ClassId) (base : Nat) (d mc ms : Nat) (hd : d ≤ 8) (P P' : zg_P) (x : Nat) (p0 p1 : Int32) (fs : List Value) (hx : ∀ w z, P w z → w x = some (.inr (5, fs))) (hM : zg_XMet l zm_X_open zc_X_open 4 none d mc ms D A base [.ref x, .int p0, .int p1] P "java/lang/IndexOutOfBoundsException" P') : zg_MetW l zm_L_open zc_L_open 4 (some .int) [(0, 6, 9, 13), (0, 6, 12, 15), (0, 6, 15, 17)] 9 mc ms D A base [.ref x, .int p0, .int p1] P (some (.int (nI 1))) (zg_ge P') := by
  refine zg_metW (by decide) (Nat.le_of_ble_eq_true rfl) ?_
  intro K hl0 hD0 hA0 hz0 hn htab F E
  subst hl0 hD0 hA0 hz0
  show zg_G K P 0 0 0 [(0, .ref x), (1, .int p0), (2, .int p1)] []
  refine zg_aload_n F 0 rfl rfl dL_open_0 ?_
  refine zg_iload_n F 1 rfl rfl dL_open_1 ?_
  refine zg_iload_n F 2 rfl rfl dL_open_2 ?_
  refine zg_xcallV F hM zv_X_open zu_X_open zk_139 hx rfl rfl ⟨by show d + 1 ≤ 9; omega, by show 8 + (_ + 11) + 32 * d ≤ 288; omega⟩ ⟨Nat.le_of_eq (Nat.zero_add _), Nat.le_of_eq (Nat.zero_add _)⟩ rfl (Nat.le_of_ble_eq_true rfl) dL_open_3 ?_
  refine zg_catch F [] ⟨0, 6, 9, 13⟩ [⟨0, 6, 12, 15⟩, ⟨0, 6, 15, 17⟩] (htab.trans rfl) (fun z hz => absurd hz List.not_mem_nil) (by decide) (by decide) zk_136 (by decide) (tgt := 9) rfl (fun q => ?_)
  refine zg_astore_n F rfl (by rw [hn]; decide) (L' := [(3, _), (0, _), (1, _), (2, _)]) rfl dL_open_9 ?_
  refine zg_iconst F (v := nI 1) (by decide) dL_open_10 ?_
  exact zg_iret F E (Nat.le_of_eq (Nat.zero_add _)) (Nat.le_of_eq (Nat.zero_add _)) (fun _ _ h => h) dL_open_11
set_option maxRecDepth 100000 in
theorem zL_open_x2 (l : Launch) (D : va_G) (A : Nat → ClassId) (base : Nat) (d mc ms : Nat) (hd : d ≤ 8) (P P' : zg_P) (x : Nat) (p0 p1 : Int32) (fs : List Value) (hx : ∀ w z, P w z → w x = some (.inr (5, fs))) (hM : zg_XMet l zm_X_open zc_X_open 4 none d mc ms D A base [.ref x, .int p0, .int p1] P "java/lang/IllegalArgumentException" P') : zg_MetW l zm_L_open zc_L_open 4 (some .int) [(0, 6, 9, 13), (0, 6, 12, 15), (0, 6, 15, 17)] 9 mc ms D A base [.ref x, .int p0, .int p1] P (some (.int (nI 2))) (zg_ge P') := by
  refine zg_metW (by decide) (Nat.le_of_ble_eq_true rfl) ?_
  intro K hl0 hD0 hA0 hz0 hn htab F E
  subst hl0 hD0 hA0 hz0
  show zg_G K P 0 0 0 [(0, .ref x), (1, .int p0), (2, .int p1)] []
  refine zg_aload_n F 0 rfl rfl dL_open_0 ?_
  refine zg_iload_n F 1 rfl rfl dL_open_1 ?_
  refine zg_iload_n F 2 rfl rfl dL_open_2 ?_
  refine zg_xcallV F hM zv_X_open zu_X_open zk_139 hx rfl rfl ⟨by show d + 1 ≤ 9; omega, by show 8 + (_ + 11) + 32 * d ≤ 288; omega⟩ ⟨Nat.le_of_eq (Nat.zero_add _), Nat.le_of_eq (Nat.zero_add _)⟩ rfl (Nat.le_of_ble_eq_true rfl) dL_open_3 ?_
  refine zg_catch F [⟨0, 6, 9, 13⟩] ⟨0, 6, 12, 15⟩ [⟨0, 6, 15, 17⟩] (htab.trans rfl) (by
      intro z hz
      simp only [List.mem_cons, List.mem_nil_iff, or_false] at hz
      subst hz
      exact ⟨by decide, "java/lang/IndexOutOfBoundsException", zk_136, by decide⟩) (by decide) (by decide) zk_137 (by decide) (tgt := 12) rfl (fun q => ?_)
  refine zg_astore_n F rfl (by rw [hn]; decide) (L' := [(3, _), (0, _), (1, _), (2, _)]) rfl dL_open_12 ?_
  refine zg_iconst F (v := nI 2) (by decide) dL_open_13 ?_
  exact zg_iret F E (Nat.le_of_eq (Nat.zero_add _)) (Nat.le_of_eq (Nat.zero_add _)) (fun _ _ h => h) dL_open_14
set_option maxRecDepth 100000 in
theorem zL_open_x3 (l : Launch) (D : va_G) (A : Nat → ClassId) (base : Nat) (d mc ms : Nat) (hd : d ≤ 8) (P P' : zg_P) (x : Nat) (p0 p1 : Int32) (fs : List Value) (hx : ∀ w z, P w z → w x = some (.inr (5, fs))) (hM : zg_XMet l zm_X_open zc_X_open 4 none d mc ms D A base [.ref x, .int p0, .int p1] P "java/lang/IllegalStateException" P') : zg_MetW l zm_L_open zc_L_open 4 (some .int) [(0, 6, 9, 13), (0, 6, 12, 15), (0, 6, 15, 17)] 9 mc ms D A base [.ref x, .int p0, .int p1] P (some (.int (nI 3))) (zg_ge P') := by
  refine zg_metW (by decide) (Nat.le_of_ble_eq_true rfl) ?_
  intro K hl0 hD0 hA0 hz0 hn htab F E
  subst hl0 hD0 hA0 hz0
  show zg_G K P 0 0 0 [(0, .ref x), (1, .int p0), (2, .int p1)] []
  refine zg_aload_n F 0 rfl rfl dL_open_0 ?_
  refine zg_iload_n F 1 rfl rfl dL_open_1 ?_
  refine zg_iload_n F 2 rfl rfl dL_open_2 ?_
  refine zg_xcallV F hM zv_X_open zu_X_open zk_139 hx rfl rfl ⟨by show d + 1 ≤ 9; omega, by show 8 + (_ + 11) + 32 * d ≤ 288; omega⟩ ⟨Nat.le_of_eq (Nat.zero_add _), Nat.le_of_eq (Nat.zero_add _)⟩ rfl (Nat.le_of_ble_eq_true rfl) dL_open_3 ?_
  refine zg_catch F [⟨0, 6, 9, 13⟩, ⟨0, 6, 12, 15⟩] ⟨0, 6, 15, 17⟩ [] (htab.trans rfl) (by
      intro z hz
      simp only [List.mem_cons, List.mem_nil_iff, or_false] at hz
      rcases hz with rfl | rfl
      · exact ⟨by decide, "java/lang/IndexOutOfBoundsException", zk_136, by decide⟩
      · exact ⟨by decide, "java/lang/IllegalArgumentException", zk_137, by decide⟩) (by decide) (by decide) zk_138 (by decide) (tgt := 15) rfl (fun q => ?_)
  refine zg_astore_n F rfl (by rw [hn]; decide) (L' := [(3, _), (0, _), (1, _), (2, _)]) rfl dL_open_15 ?_
  refine zg_iconst F (v := nI 3) (by decide) dL_open_16 ?_
  exact zg_iret F E (Nat.le_of_eq (Nat.zero_add _)) (Nat.le_of_eq (Nat.zero_add _)) (fun _ _ h => h) dL_open_17
set_option maxRecDepth 100000 in
theorem zL_fare (l : Launch) (D : va_G) (A : Nat → ClassId) (base : Nat) (d mc ms : Nat) (hd : d ≤ 8) (P P' : zg_P) (x : Nat) (p0 p1 p2 : Int32) (fs : List Value) (hx : ∀ w z, P w z → w x = some (.inr (5, fs))) (hM : zg_Met l zm_X_fare zc_X_fare 4 none d mc ms D A base [.ref x, .int p0, .int p1, .int p2] P none P') : zg_MetW l zm_L_fare zc_L_fare 5 (some .int) [(0, 7, 10, 13), (0, 7, 14, 15)] 9 mc ms D A base [.ref x, .int p0, .int p1, .int p2] P (some (.int (nI 0))) P' := by
  refine zg_metW (by decide) (Nat.le_of_ble_eq_true rfl) ?_
  intro K hl0 hD0 hA0 hz0 hn htab F E
  subst hl0 hD0 hA0 hz0
  show zg_G K P 0 0 0 [(0, .ref x), (1, .int p0), (2, .int p1), (3, .int p2)] []
  refine zg_aload_n F 0 rfl rfl dL_fare_0 ?_
  refine zg_iload_n F 1 rfl rfl dL_fare_1 ?_
  refine zg_iload_n F 2 rfl rfl dL_fare_2 ?_
  refine zg_iload_n F 3 rfl rfl dL_fare_3 ?_
  refine zg_callV F hM zv_X_fare zu_X_fare zk_255 hx rfl rfl ⟨by show d + 1 ≤ 9; omega, by show 8 + (_ + 11) + 32 * d ≤ 288; omega⟩ ⟨Nat.le_of_eq (Nat.zero_add _), Nat.le_of_eq (Nat.zero_add _)⟩ rfl (Nat.le_of_ble_eq_true rfl) dL_fare_4 ?_
  refine zg_goto F (tgt := 18) dL_fare_7 (by decide) ?_
  refine zg_iconst F (v := nI 0) (by decide) dL_fare_18 ?_
  exact zg_iret F E (Nat.le_of_eq (Nat.zero_add _)) (Nat.le_of_eq (Nat.zero_add _)) (fun _ _ h => h) dL_fare_19
set_option maxRecDepth 100000 in
theorem zL_fare_x1 (l : Launch) (D : va_G) (A : Nat → ClassId) (base : Nat) (d mc ms : Nat) (hd : d ≤ 8) (P P' : zg_P) (x : Nat) (p0 p1 p2 : Int32) (fs : List Value) (hx : ∀ w z, P w z → w x = some (.inr (5, fs))) (hM : zg_XMet l zm_X_fare zc_X_fare 4 none d mc ms D A base [.ref x, .int p0, .int p1, .int p2] P "java/lang/IndexOutOfBoundsException" P') : zg_MetW l zm_L_fare zc_L_fare 5 (some .int) [(0, 7, 10, 13), (0, 7, 14, 15)] 9 mc ms D A base [.ref x, .int p0, .int p1, .int p2] P (some (.int (nI 1))) (zg_ge P') := by
  refine zg_metW (by decide) (Nat.le_of_ble_eq_true rfl) ?_
  intro K hl0 hD0 hA0 hz0 hn htab F E
  subst hl0 hD0 hA0 hz0
  show zg_G K P 0 0 0 [(0, .ref x), (1, .int p0), (2, .int p1), (3, .int p2)] []
  refine zg_aload_n F 0 rfl rfl dL_fare_0 ?_
  refine zg_iload_n F 1 rfl rfl dL_fare_1 ?_
  refine zg_iload_n F 2 rfl rfl dL_fare_2 ?_
  refine zg_iload_n F 3 rfl rfl dL_fare_3 ?_
  refine zg_xcallV F hM zv_X_fare zu_X_fare zk_255 hx rfl rfl ⟨by show d + 1 ≤ 9; omega, by show 8 + (_ + 11) + 32 * d ≤ 288; omega⟩ ⟨Nat.le_of_eq (Nat.zero_add _), Nat.le_of_eq (Nat.zero_add _)⟩ rfl (Nat.le_of_ble_eq_true rfl) dL_fare_4 ?_
  refine zg_catch F [] ⟨0, 7, 10, 13⟩ [⟨0, 7, 14, 15⟩] (htab.trans rfl) (fun z hz => absurd hz List.not_mem_nil) (by decide) (by decide) zk_136 (by decide) (tgt := 10) rfl (fun q => ?_)
  refine zg_astore F (by rw [hn]; decide) (L' := [(4, _), (0, _), (1, _), (2, _), (3, _)]) rfl dL_fare_10 ?_
  refine zg_iconst F (v := nI 1) (by decide) dL_fare_12 ?_
  exact zg_iret F E (Nat.le_of_eq (Nat.zero_add _)) (Nat.le_of_eq (Nat.zero_add _)) (fun _ _ h => h) dL_fare_13
set_option maxRecDepth 100000 in
theorem zL_fare_x2 (l : Launch) (D : va_G) (A : Nat → ClassId) (base : Nat) (d mc ms : Nat) (hd : d ≤ 8) (P P' : zg_P) (x : Nat) (p0 p1 p2 : Int32) (fs : List Value) (hx : ∀ w z, P w z → w x = some (.inr (5, fs))) (hM : zg_XMet l zm_X_fare zc_X_fare 4 none d mc ms D A base [.ref x, .int p0, .int p1, .int p2] P "java/lang/IllegalArgumentException" P') : zg_MetW l zm_L_fare zc_L_fare 5 (some .int) [(0, 7, 10, 13), (0, 7, 14, 15)] 9 mc ms D A base [.ref x, .int p0, .int p1, .int p2] P (some (.int (nI 2))) (zg_ge P') := by
  refine zg_metW (by decide) (Nat.le_of_ble_eq_true rfl) ?_
  intro K hl0 hD0 hA0 hz0 hn htab F E
  subst hl0 hD0 hA0 hz0
  show zg_G K P 0 0 0 [(0, .ref x), (1, .int p0), (2, .int p1), (3, .int p2)] []
  refine zg_aload_n F 0 rfl rfl dL_fare_0 ?_
  refine zg_iload_n F 1 rfl rfl dL_fare_1 ?_
  refine zg_iload_n F 2 rfl rfl dL_fare_2 ?_
  refine zg_iload_n F 3 rfl rfl dL_fare_3 ?_
  refine zg_xcallV F hM zv_X_fare zu_X_fare zk_255 hx rfl rfl ⟨by show d + 1 ≤ 9; omega, by show 8 + (_ + 11) + 32 * d ≤ 288; omega⟩ ⟨Nat.le_of_eq (Nat.zero_add _), Nat.le_of_eq (Nat.zero_add _)⟩ rfl (Nat.le_of_ble_eq_true rfl) dL_fare_4 ?_
  refine zg_catch F [⟨0, 7, 10, 13⟩] ⟨0, 7, 14, 15⟩ [] (htab.trans rfl) (by
      intro z hz
      simp only [List.mem_cons, List.mem_nil_iff, or_false] at hz
      subst hz
      exact ⟨by decide, "java/lang/IndexOutOfBoundsException", zk_136, by decide⟩) (by decide) (by decide) zk_137 (by decide) (tgt := 14) rfl (fun q => ?_)
  refine zg_astore F (by rw [hn]; decide) (L' := [(4, _), (0, _), (1, _), (2, _), (3, _)]) rfl dL_fare_14 ?_
  refine zg_iconst F (v := nI 2) (by decide) dL_fare_16 ?_
  exact zg_iret F E (Nat.le_of_eq (Nat.zero_add _)) (Nat.le_of_eq (Nat.zero_add _)) (fun _ _ h => h) dL_fare_17
set_option maxRecDepth 100000 in
theorem zL_part (l : Launch) (D : va_G) (A : Nat → ClassId) (base : Nat) (d mc ms : Nat) (hd : d ≤ 8) (P P' : zg_P) (x : Nat) (p0 p1 p2 : Int32) (fs : List Value) (hx : ∀ w z, P w z → w x = some (.inr (5, fs))) (oa : Nat) (r : Int32) (fo : Nat → Int64) (P'' : zg_P) (ho : ∀ w z, P' w z → w oa = some (.inl (A 2, 1, .inr (.inl fo)))) (hP : ∀ w z, P' w z → P'' (zg_u w oa (.inl (A 2, 1, .inr (.inl (vp_updL fo 0 (r.toInt64)))))) z) (hM : zg_Met l zm_X_part zc_X_part 4 (some .int) d mc ms D A base [.ref x, .int p0, .int p1, .int p2] P (some (.int r)) P') : zg_MetW l zm_L_part zc_L_part 6 (some .int) [(0, 12, 15, 13), (0, 12, 19, 15), (0, 12, 23, 17)] 9 mc ms D A base [.ref x, .int p0, .int p1, .int p2, .ref oa] P (some (.int (nI 0))) P'' := by
  refine zg_metW (by decide) (Nat.le_of_ble_eq_true rfl) ?_
  intro K hl0 hD0 hA0 hz0 hn htab F E
  subst hl0 hD0 hA0 hz0
  show zg_G K P 0 0 0 [(0, .ref x), (1, .int p0), (2, .int p1), (3, .int p2), (4, .ref oa)] []
  refine zg_aload F 4 rfl dL_part_0 ?_
  refine zg_iconst F (v := nI 0) (by decide) dL_part_2 ?_
  refine zg_aload_n F 0 rfl rfl dL_part_3 ?_
  refine zg_iload_n F 1 rfl rfl dL_part_4 ?_
  refine zg_iload_n F 2 rfl rfl dL_part_5 ?_
  refine zg_iload_n F 3 rfl rfl dL_part_6 ?_
  refine zg_callV F hM zv_X_part zu_X_part zk_268 hx rfl rfl ⟨by show d + 1 ≤ 9; omega, by show 8 + (_ + 11) + 32 * d ≤ 288; omega⟩ ⟨Nat.le_of_eq (Nat.zero_add _), Nat.le_of_eq (Nat.zero_add _)⟩ rfl (Nat.le_of_ble_eq_true rfl) dL_part_7 ?_
  refine zg_i2l F rfl dL_part_10 ?_
  refine zg_last F ho (by decide) (by decide) hP dL_part_11 ?_
  refine zg_goto F (tgt := 27) dL_part_12 (by decide) ?_
  refine zg_iconst F (v := nI 0) (by decide) dL_part_27 ?_
  exact zg_iret F E (Nat.le_of_eq (Nat.zero_add _)) (Nat.le_of_eq (Nat.zero_add _)) (fun _ _ h => h) dL_part_28
set_option maxRecDepth 100000 in
theorem zL_part_x1 (l : Launch) (D : va_G) (A : Nat → ClassId) (base : Nat) (d mc ms : Nat) (hd : d ≤ 8) (P P' : zg_P) (x : Nat) (p0 p1 p2 : Int32) (fs : List Value) (hx : ∀ w z, P w z → w x = some (.inr (5, fs))) (oa : Nat) (hM : zg_XMet l zm_X_part zc_X_part 4 (some .int) d mc ms D A base [.ref x, .int p0, .int p1, .int p2] P "java/lang/IndexOutOfBoundsException" P') : zg_MetW l zm_L_part zc_L_part 6 (some .int) [(0, 12, 15, 13), (0, 12, 19, 15), (0, 12, 23, 17)] 9 mc ms D A base [.ref x, .int p0, .int p1, .int p2, .ref oa] P (some (.int (nI 1))) (zg_ge P') := by
  refine zg_metW (by decide) (Nat.le_of_ble_eq_true rfl) ?_
  intro K hl0 hD0 hA0 hz0 hn htab F E
  subst hl0 hD0 hA0 hz0
  show zg_G K P 0 0 0 [(0, .ref x), (1, .int p0), (2, .int p1), (3, .int p2), (4, .ref oa)] []
  refine zg_aload F 4 rfl dL_part_0 ?_
  refine zg_iconst F (v := nI 0) (by decide) dL_part_2 ?_
  refine zg_aload_n F 0 rfl rfl dL_part_3 ?_
  refine zg_iload_n F 1 rfl rfl dL_part_4 ?_
  refine zg_iload_n F 2 rfl rfl dL_part_5 ?_
  refine zg_iload_n F 3 rfl rfl dL_part_6 ?_
  refine zg_xcallV F hM zv_X_part zu_X_part zk_268 hx rfl rfl ⟨by show d + 1 ≤ 9; omega, by show 8 + (_ + 11) + 32 * d ≤ 288; omega⟩ ⟨Nat.le_of_eq (Nat.zero_add _), Nat.le_of_eq (Nat.zero_add _)⟩ rfl (Nat.le_of_ble_eq_true rfl) dL_part_7 ?_
  refine zg_catch F [] ⟨0, 12, 15, 13⟩ [⟨0, 12, 19, 15⟩, ⟨0, 12, 23, 17⟩] (htab.trans rfl) (fun z hz => absurd hz List.not_mem_nil) (by decide) (by decide) zk_136 (by decide) (tgt := 15) rfl (fun q => ?_)
  refine zg_astore F (by rw [hn]; decide) (L' := [(5, _), (0, _), (1, _), (2, _), (3, _), (4, _)]) rfl dL_part_15 ?_
  refine zg_iconst F (v := nI 1) (by decide) dL_part_17 ?_
  exact zg_iret F E (Nat.le_of_eq (Nat.zero_add _)) (Nat.le_of_eq (Nat.zero_add _)) (fun _ _ h => h) dL_part_18
set_option maxRecDepth 100000 in
theorem zL_part_x2 (l : Launch) (D : va_G) (A : Nat → ClassId) (base : Nat) (d mc ms : Nat) (hd : d ≤ 8) (P P' : zg_P) (x : Nat) (p0 p1 p2 : Int32) (fs : List Value) (hx : ∀ w z, P w z → w x = some (.inr (5, fs))) (oa : Nat) (hM : zg_XMet l zm_X_part zc_X_part 4 (some .int) d mc ms D A base [.ref x, .int p0, .int p1, .int p2] P "java/lang/IllegalArgumentException" P') : zg_MetW l zm_L_part zc_L_part 6 (some .int) [(0, 12, 15, 13), (0, 12, 19, 15), (0, 12, 23, 17)] 9 mc ms D A base [.ref x, .int p0, .int p1, .int p2, .ref oa] P (some (.int (nI 2))) (zg_ge P') := by
  refine zg_metW (by decide) (Nat.le_of_ble_eq_true rfl) ?_
  intro K hl0 hD0 hA0 hz0 hn htab F E
  subst hl0 hD0 hA0 hz0
  show zg_G K P 0 0 0 [(0, .ref x), (1, .int p0), (2, .int p1), (3, .int p2), (4, .ref oa)] []
  refine zg_aload F 4 rfl dL_part_0 ?_
  refine zg_iconst F (v := nI 0) (by decide) dL_part_2 ?_
  refine zg_aload_n F 0 rfl rfl dL_part_3 ?_
  refine zg_iload_n F 1 rfl rfl dL_part_4 ?_
  refine zg_iload_n F 2 rfl rfl dL_part_5 ?_
  refine zg_iload_n F 3 rfl rfl dL_part_6 ?_
  refine zg_xcallV F hM zv_X_part zu_X_part zk_268 hx rfl rfl ⟨by show d + 1 ≤ 9; omega, by show 8 + (_ + 11) + 32 * d ≤ 288; omega⟩ ⟨Nat.le_of_eq (Nat.zero_add _), Nat.le_of_eq (Nat.zero_add _)⟩ rfl (Nat.le_of_ble_eq_true rfl) dL_part_7 ?_
  refine zg_catch F [⟨0, 12, 15, 13⟩] ⟨0, 12, 19, 15⟩ [⟨0, 12, 23, 17⟩] (htab.trans rfl) (by
      intro z hz
      simp only [List.mem_cons, List.mem_nil_iff, or_false] at hz
      subst hz
      exact ⟨by decide, "java/lang/IndexOutOfBoundsException", zk_136, by decide⟩) (by decide) (by decide) zk_137 (by decide) (tgt := 19) rfl (fun q => ?_)
  refine zg_astore F (by rw [hn]; decide) (L' := [(5, _), (0, _), (1, _), (2, _), (3, _), (4, _)]) rfl dL_part_19 ?_
  refine zg_iconst F (v := nI 2) (by decide) dL_part_21 ?_
  exact zg_iret F E (Nat.le_of_eq (Nat.zero_add _)) (Nat.le_of_eq (Nat.zero_add _)) (fun _ _ h => h) dL_part_22
set_option maxRecDepth 100000 in
theorem zL_part_x3 (l : Launch) (D : va_G) (A : Nat → ClassId) (base : Nat) (d mc ms : Nat) (hd : d ≤ 8) (P P' : zg_P) (x : Nat) (p0 p1 p2 : Int32) (fs : List Value) (hx : ∀ w z, P w z → w x = some (.inr (5, fs))) (oa : Nat) (hM : zg_XMet l zm_X_part zc_X_part 4 (some .int) d mc ms D A base [.ref x, .int p0, .int p1, .int p2] P "java/lang/IllegalStateException" P') : zg_MetW l zm_L_part zc_L_part 6 (some .int) [(0, 12, 15, 13), (0, 12, 19, 15), (0, 12, 23, 17)] 9 mc ms D A base [.ref x, .int p0, .int p1, .int p2, .ref oa] P (some (.int (nI 3))) (zg_ge P') := by
  refine zg_metW (by decide) (Nat.le_of_ble_eq_true rfl) ?_
  intro K hl0 hD0 hA0 hz0 hn htab F E
  subst hl0 hD0 hA0 hz0
  show zg_G K P 0 0 0 [(0, .ref x), (1, .int p0), (2, .int p1), (3, .int p2), (4, .ref oa)] []
  refine zg_aload F 4 rfl dL_part_0 ?_
  refine zg_iconst F (v := nI 0) (by decide) dL_part_2 ?_
  refine zg_aload_n F 0 rfl rfl dL_part_3 ?_
  refine zg_iload_n F 1 rfl rfl dL_part_4 ?_
  refine zg_iload_n F 2 rfl rfl dL_part_5 ?_
  refine zg_iload_n F 3 rfl rfl dL_part_6 ?_
  refine zg_xcallV F hM zv_X_part zu_X_part zk_268 hx rfl rfl ⟨by show d + 1 ≤ 9; omega, by show 8 + (_ + 11) + 32 * d ≤ 288; omega⟩ ⟨Nat.le_of_eq (Nat.zero_add _), Nat.le_of_eq (Nat.zero_add _)⟩ rfl (Nat.le_of_ble_eq_true rfl) dL_part_7 ?_
  refine zg_catch F [⟨0, 12, 15, 13⟩, ⟨0, 12, 19, 15⟩] ⟨0, 12, 23, 17⟩ [] (htab.trans rfl) (by
      intro z hz
      simp only [List.mem_cons, List.mem_nil_iff, or_false] at hz
      rcases hz with rfl | rfl
      · exact ⟨by decide, "java/lang/IndexOutOfBoundsException", zk_136, by decide⟩
      · exact ⟨by decide, "java/lang/IllegalArgumentException", zk_137, by decide⟩) (by decide) (by decide) zk_138 (by decide) (tgt := 23) rfl (fun q => ?_)
  refine zg_astore F (by rw [hn]; decide) (L' := [(5, _), (0, _), (1, _), (2, _), (3, _), (4, _)]) rfl dL_part_23 ?_
  refine zg_iconst F (v := nI 3) (by decide) dL_part_25 ?_
  exact zg_iret F E (Nat.le_of_eq (Nat.zero_add _)) (Nat.le_of_eq (Nat.zero_add _)) (fun _ _ h => h) dL_part_26
set_option maxRecDepth 100000 in
theorem zL_buy (l : Launch) (D : va_G) (A : Nat → ClassId) (base : Nat) (d mc ms : Nat) (hd : d ≤ 8) (P P' : zg_P) (x : Nat) (p0 p1 : Int32) (fs : List Value) (hx : ∀ w z, P w z → w x = some (.inr (5, fs))) (oa : Nat) (r : Int32) (fo : Nat → Int64) (P'' : zg_P) (ho : ∀ w z, P' w z → w oa = some (.inl (A 2, 1, .inr (.inl fo)))) (hP : ∀ w z, P' w z → P'' (zg_u w oa (.inl (A 2, 1, .inr (.inl (vp_updL fo 0 (r.toInt64)))))) z) (hM : zg_Met l zm_X_buy zc_X_buy 4 (some .int) d mc ms D A base [.ref x, .int p0, .int p1] P (some (.int r)) P') : zg_MetW l zm_L_buy zc_L_buy 5 (some .int) [(0, 10, 13, 13), (0, 10, 17, 15), (0, 10, 21, 17)] 9 mc ms D A base [.ref x, .int p0, .int p1, .ref oa] P (some (.int (nI 0))) P'' := by
  refine zg_metW (by decide) (Nat.le_of_ble_eq_true rfl) ?_
  intro K hl0 hD0 hA0 hz0 hn htab F E
  subst hl0 hD0 hA0 hz0
  show zg_G K P 0 0 0 [(0, .ref x), (1, .int p0), (2, .int p1), (3, .ref oa)] []
  refine zg_aload_n F 3 rfl rfl dL_buy_0 ?_
  refine zg_iconst F (v := nI 0) (by decide) dL_buy_1 ?_
  refine zg_aload_n F 0 rfl rfl dL_buy_2 ?_
  refine zg_iload_n F 1 rfl rfl dL_buy_3 ?_
  refine zg_iload_n F 2 rfl rfl dL_buy_4 ?_
  refine zg_callV F hM zv_X_buy zu_X_buy zk_287 hx rfl rfl ⟨by show d + 1 ≤ 9; omega, by show 8 + (_ + 11) + 32 * d ≤ 288; omega⟩ ⟨Nat.le_of_eq (Nat.zero_add _), Nat.le_of_eq (Nat.zero_add _)⟩ rfl (Nat.le_of_ble_eq_true rfl) dL_buy_5 ?_
  refine zg_i2l F rfl dL_buy_8 ?_
  refine zg_last F ho (by decide) (by decide) hP dL_buy_9 ?_
  refine zg_goto F (tgt := 25) dL_buy_10 (by decide) ?_
  refine zg_iconst F (v := nI 0) (by decide) dL_buy_25 ?_
  exact zg_iret F E (Nat.le_of_eq (Nat.zero_add _)) (Nat.le_of_eq (Nat.zero_add _)) (fun _ _ h => h) dL_buy_26
set_option maxRecDepth 100000 in
theorem zL_buy_x1 (l : Launch) (D : va_G) (A : Nat → ClassId) (base : Nat) (d mc ms : Nat) (hd : d ≤ 8) (P P' : zg_P) (x : Nat) (p0 p1 : Int32) (fs : List Value) (hx : ∀ w z, P w z → w x = some (.inr (5, fs))) (oa : Nat) (hM : zg_XMet l zm_X_buy zc_X_buy 4 (some .int) d mc ms D A base [.ref x, .int p0, .int p1] P "java/lang/IndexOutOfBoundsException" P') : zg_MetW l zm_L_buy zc_L_buy 5 (some .int) [(0, 10, 13, 13), (0, 10, 17, 15), (0, 10, 21, 17)] 9 mc ms D A base [.ref x, .int p0, .int p1, .ref oa] P (some (.int (nI 1))) (zg_ge P') := by
  refine zg_metW (by decide) (Nat.le_of_ble_eq_true rfl) ?_
  intro K hl0 hD0 hA0 hz0 hn htab F E
  subst hl0 hD0 hA0 hz0
  show zg_G K P 0 0 0 [(0, .ref x), (1, .int p0), (2, .int p1), (3, .ref oa)] []
  refine zg_aload_n F 3 rfl rfl dL_buy_0 ?_
  refine zg_iconst F (v := nI 0) (by decide) dL_buy_1 ?_
  refine zg_aload_n F 0 rfl rfl dL_buy_2 ?_
  refine zg_iload_n F 1 rfl rfl dL_buy_3 ?_
  refine zg_iload_n F 2 rfl rfl dL_buy_4 ?_
  refine zg_xcallV F hM zv_X_buy zu_X_buy zk_287 hx rfl rfl ⟨by show d + 1 ≤ 9; omega, by show 8 + (_ + 11) + 32 * d ≤ 288; omega⟩ ⟨Nat.le_of_eq (Nat.zero_add _), Nat.le_of_eq (Nat.zero_add _)⟩ rfl (Nat.le_of_ble_eq_true rfl) dL_buy_5 ?_
  refine zg_catch F [] ⟨0, 10, 13, 13⟩ [⟨0, 10, 17, 15⟩, ⟨0, 10, 21, 17⟩] (htab.trans rfl) (fun z hz => absurd hz List.not_mem_nil) (by decide) (by decide) zk_136 (by decide) (tgt := 13) rfl (fun q => ?_)
  refine zg_astore F (by rw [hn]; decide) (L' := [(4, _), (0, _), (1, _), (2, _), (3, _)]) rfl dL_buy_13 ?_
  refine zg_iconst F (v := nI 1) (by decide) dL_buy_15 ?_
  exact zg_iret F E (Nat.le_of_eq (Nat.zero_add _)) (Nat.le_of_eq (Nat.zero_add _)) (fun _ _ h => h) dL_buy_16
set_option maxRecDepth 100000 in
theorem zL_buy_x2 (l : Launch) (D : va_G) (A : Nat → ClassId) (base : Nat) (d mc ms : Nat) (hd : d ≤ 8) (P P' : zg_P) (x : Nat) (p0 p1 : Int32) (fs : List Value) (hx : ∀ w z, P w z → w x = some (.inr (5, fs))) (oa : Nat) (hM : zg_XMet l zm_X_buy zc_X_buy 4 (some .int) d mc ms D A base [.ref x, .int p0, .int p1] P "java/lang/IllegalArgumentException" P') : zg_MetW l zm_L_buy zc_L_buy 5 (some .int) [(0, 10, 13, 13), (0, 10, 17, 15), (0, 10, 21, 17)] 9 mc ms D A base [.ref x, .int p0, .int p1, .ref oa] P (some (.int (nI 2))) (zg_ge P') := by
  refine zg_metW (by decide) (Nat.le_of_ble_eq_true rfl) ?_
  intro K hl0 hD0 hA0 hz0 hn htab F E
  subst hl0 hD0 hA0 hz0
  show zg_G K P 0 0 0 [(0, .ref x), (1, .int p0), (2, .int p1), (3, .ref oa)] []
  refine zg_aload_n F 3 rfl rfl dL_buy_0 ?_
  refine zg_iconst F (v := nI 0) (by decide) dL_buy_1 ?_
  refine zg_aload_n F 0 rfl rfl dL_buy_2 ?_
  refine zg_iload_n F 1 rfl rfl dL_buy_3 ?_
  refine zg_iload_n F 2 rfl rfl dL_buy_4 ?_
  refine zg_xcallV F hM zv_X_buy zu_X_buy zk_287 hx rfl rfl ⟨by show d + 1 ≤ 9; omega, by show 8 + (_ + 11) + 32 * d ≤ 288; omega⟩ ⟨Nat.le_of_eq (Nat.zero_add _), Nat.le_of_eq (Nat.zero_add _)⟩ rfl (Nat.le_of_ble_eq_true rfl) dL_buy_5 ?_
  refine zg_catch F [⟨0, 10, 13, 13⟩] ⟨0, 10, 17, 15⟩ [⟨0, 10, 21, 17⟩] (htab.trans rfl) (by
      intro z hz
      simp only [List.mem_cons, List.mem_nil_iff, or_false] at hz
      subst hz
      exact ⟨by decide, "java/lang/IndexOutOfBoundsException", zk_136, by decide⟩) (by decide) (by decide) zk_137 (by decide) (tgt := 17) rfl (fun q => ?_)
  refine zg_astore F (by rw [hn]; decide) (L' := [(4, _), (0, _), (1, _), (2, _), (3, _)]) rfl dL_buy_17 ?_
  refine zg_iconst F (v := nI 2) (by decide) dL_buy_19 ?_
  exact zg_iret F E (Nat.le_of_eq (Nat.zero_add _)) (Nat.le_of_eq (Nat.zero_add _)) (fun _ _ h => h) dL_buy_20
set_option maxRecDepth 100000 in
theorem zL_buy_x3 (l : Launch) (D : va_G) (A : Nat → ClassId) (base : Nat) (d mc ms : Nat) (hd : d ≤ 8) (P P' : zg_P) (x : Nat) (p0 p1 : Int32) (fs : List Value) (hx : ∀ w z, P w z → w x = some (.inr (5, fs))) (oa : Nat) (hM : zg_XMet l zm_X_buy zc_X_buy 4 (some .int) d mc ms D A base [.ref x, .int p0, .int p1] P "java/lang/IllegalStateException" P') : zg_MetW l zm_L_buy zc_L_buy 5 (some .int) [(0, 10, 13, 13), (0, 10, 17, 15), (0, 10, 21, 17)] 9 mc ms D A base [.ref x, .int p0, .int p1, .ref oa] P (some (.int (nI 3))) (zg_ge P') := by
  refine zg_metW (by decide) (Nat.le_of_ble_eq_true rfl) ?_
  intro K hl0 hD0 hA0 hz0 hn htab F E
  subst hl0 hD0 hA0 hz0
  show zg_G K P 0 0 0 [(0, .ref x), (1, .int p0), (2, .int p1), (3, .ref oa)] []
  refine zg_aload_n F 3 rfl rfl dL_buy_0 ?_
  refine zg_iconst F (v := nI 0) (by decide) dL_buy_1 ?_
  refine zg_aload_n F 0 rfl rfl dL_buy_2 ?_
  refine zg_iload_n F 1 rfl rfl dL_buy_3 ?_
  refine zg_iload_n F 2 rfl rfl dL_buy_4 ?_
  refine zg_xcallV F hM zv_X_buy zu_X_buy zk_287 hx rfl rfl ⟨by show d + 1 ≤ 9; omega, by show 8 + (_ + 11) + 32 * d ≤ 288; omega⟩ ⟨Nat.le_of_eq (Nat.zero_add _), Nat.le_of_eq (Nat.zero_add _)⟩ rfl (Nat.le_of_ble_eq_true rfl) dL_buy_5 ?_
  refine zg_catch F [⟨0, 10, 13, 13⟩, ⟨0, 10, 17, 15⟩] ⟨0, 10, 21, 17⟩ [] (htab.trans rfl) (by
      intro z hz
      simp only [List.mem_cons, List.mem_nil_iff, or_false] at hz
      rcases hz with rfl | rfl
      · exact ⟨by decide, "java/lang/IndexOutOfBoundsException", zk_136, by decide⟩
      · exact ⟨by decide, "java/lang/IllegalArgumentException", zk_137, by decide⟩) (by decide) (by decide) zk_138 (by decide) (tgt := 21) rfl (fun q => ?_)
  refine zg_astore F (by rw [hn]; decide) (L' := [(4, _), (0, _), (1, _), (2, _), (3, _)]) rfl dL_buy_21 ?_
  refine zg_iconst F (v := nI 3) (by decide) dL_buy_23 ?_
  exact zg_iret F E (Nat.le_of_eq (Nat.zero_add _)) (Nat.le_of_eq (Nat.zero_add _)) (fun _ _ h => h) dL_buy_24
set_option maxRecDepth 100000 in
theorem zL_wish (l : Launch) (D : va_G) (A : Nat → ClassId) (base : Nat) (d mc ms : Nat) (hd : d ≤ 8) (P P' : zg_P) (x : Nat) (p0 p1 : Int32) (fs : List Value) (hx : ∀ w z, P w z → w x = some (.inr (5, fs))) (oa : Nat) (r : Int32) (fo : Nat → Int64) (P'' : zg_P) (ho : ∀ w z, P' w z → w oa = some (.inl (A 2, 1, .inr (.inl fo)))) (hP : ∀ w z, P' w z → P'' (zg_u w oa (.inl (A 2, 1, .inr (.inl (vp_updL fo 0 (r.toInt64)))))) z) (hM : zg_Met l zm_X_wish zc_X_wish 3 (some .int) d mc ms D A base [.ref x, .int p0, .int p1] P (some (.int r)) P') : zg_MetW l zm_L_wish zc_L_wish 5 (some .int) [(0, 10, 13, 13), (0, 10, 17, 15), (0, 10, 21, 17)] 9 mc ms D A base [.ref x, .int p0, .int p1, .ref oa] P (some (.int (nI 0))) P'' := by
  refine zg_metW (by decide) (Nat.le_of_ble_eq_true rfl) ?_
  intro K hl0 hD0 hA0 hz0 hn htab F E
  subst hl0 hD0 hA0 hz0
  show zg_G K P 0 0 0 [(0, .ref x), (1, .int p0), (2, .int p1), (3, .ref oa)] []
  refine zg_aload_n F 3 rfl rfl dL_wish_0 ?_
  refine zg_iconst F (v := nI 0) (by decide) dL_wish_1 ?_
  refine zg_aload_n F 0 rfl rfl dL_wish_2 ?_
  refine zg_iload_n F 1 rfl rfl dL_wish_3 ?_
  refine zg_iload_n F 2 rfl rfl dL_wish_4 ?_
  refine zg_callV F hM zv_X_wish zu_X_wish zk_350 hx rfl rfl ⟨by show d + 1 ≤ 9; omega, by show 8 + (_ + 11) + 32 * d ≤ 288; omega⟩ ⟨Nat.le_of_eq (Nat.zero_add _), Nat.le_of_eq (Nat.zero_add _)⟩ rfl (Nat.le_of_ble_eq_true rfl) dL_wish_5 ?_
  refine zg_i2l F rfl dL_wish_8 ?_
  refine zg_last F ho (by decide) (by decide) hP dL_wish_9 ?_
  refine zg_goto F (tgt := 25) dL_wish_10 (by decide) ?_
  refine zg_iconst F (v := nI 0) (by decide) dL_wish_25 ?_
  exact zg_iret F E (Nat.le_of_eq (Nat.zero_add _)) (Nat.le_of_eq (Nat.zero_add _)) (fun _ _ h => h) dL_wish_26
set_option maxRecDepth 100000 in
theorem zL_wish_x1 (l : Launch) (D : va_G) (A : Nat → ClassId) (base : Nat) (d mc ms : Nat) (hd : d ≤ 8) (P P' : zg_P) (x : Nat) (p0 p1 : Int32) (fs : List Value) (hx : ∀ w z, P w z → w x = some (.inr (5, fs))) (oa : Nat) (hM : zg_XMet l zm_X_wish zc_X_wish 3 (some .int) d mc ms D A base [.ref x, .int p0, .int p1] P "java/lang/IndexOutOfBoundsException" P') : zg_MetW l zm_L_wish zc_L_wish 5 (some .int) [(0, 10, 13, 13), (0, 10, 17, 15), (0, 10, 21, 17)] 9 mc ms D A base [.ref x, .int p0, .int p1, .ref oa] P (some (.int (nI 1))) (zg_ge P') := by
  refine zg_metW (by decide) (Nat.le_of_ble_eq_true rfl) ?_
  intro K hl0 hD0 hA0 hz0 hn htab F E
  subst hl0 hD0 hA0 hz0
  show zg_G K P 0 0 0 [(0, .ref x), (1, .int p0), (2, .int p1), (3, .ref oa)] []
  refine zg_aload_n F 3 rfl rfl dL_wish_0 ?_
  refine zg_iconst F (v := nI 0) (by decide) dL_wish_1 ?_
  refine zg_aload_n F 0 rfl rfl dL_wish_2 ?_
  refine zg_iload_n F 1 rfl rfl dL_wish_3 ?_
  refine zg_iload_n F 2 rfl rfl dL_wish_4 ?_
  refine zg_xcallV F hM zv_X_wish zu_X_wish zk_350 hx rfl rfl ⟨by show d + 1 ≤ 9; omega, by show 8 + (_ + 11) + 32 * d ≤ 288; omega⟩ ⟨Nat.le_of_eq (Nat.zero_add _), Nat.le_of_eq (Nat.zero_add _)⟩ rfl (Nat.le_of_ble_eq_true rfl) dL_wish_5 ?_
  refine zg_catch F [] ⟨0, 10, 13, 13⟩ [⟨0, 10, 17, 15⟩, ⟨0, 10, 21, 17⟩] (htab.trans rfl) (fun z hz => absurd hz List.not_mem_nil) (by decide) (by decide) zk_136 (by decide) (tgt := 13) rfl (fun q => ?_)
  refine zg_astore F (by rw [hn]; decide) (L' := [(4, _), (0, _), (1, _), (2, _), (3, _)]) rfl dL_wish_13 ?_
  refine zg_iconst F (v := nI 1) (by decide) dL_wish_15 ?_
  exact zg_iret F E (Nat.le_of_eq (Nat.zero_add _)) (Nat.le_of_eq (Nat.zero_add _)) (fun _ _ h => h) dL_wish_16
set_option maxRecDepth 100000 in
theorem zL_wish_x2 (l : Launch) (D : va_G) (A : Nat → ClassId) (base : Nat) (d mc ms : Nat) (hd : d ≤ 8) (P P' : zg_P) (x : Nat) (p0 p1 : Int32) (fs : List Value) (hx : ∀ w z, P w z → w x = some (.inr (5, fs))) (oa : Nat) (hM : zg_XMet l zm_X_wish zc_X_wish 3 (some .int) d mc ms D A base [.ref x, .int p0, .int p1] P "java/lang/IllegalArgumentException" P') : zg_MetW l zm_L_wish zc_L_wish 5 (some .int) [(0, 10, 13, 13), (0, 10, 17, 15), (0, 10, 21, 17)] 9 mc ms D A base [.ref x, .int p0, .int p1, .ref oa] P (some (.int (nI 2))) (zg_ge P') := by
  refine zg_metW (by decide) (Nat.le_of_ble_eq_true rfl) ?_
  intro K hl0 hD0 hA0 hz0 hn htab F E
  subst hl0 hD0 hA0 hz0
  show zg_G K P 0 0 0 [(0, .ref x), (1, .int p0), (2, .int p1), (3, .ref oa)] []
  refine zg_aload_n F 3 rfl rfl dL_wish_0 ?_
  refine zg_iconst F (v := nI 0) (by decide) dL_wish_1 ?_
  refine zg_aload_n F 0 rfl rfl dL_wish_2 ?_
  refine zg_iload_n F 1 rfl rfl dL_wish_3 ?_
  refine zg_iload_n F 2 rfl rfl dL_wish_4 ?_
  refine zg_xcallV F hM zv_X_wish zu_X_wish zk_350 hx rfl rfl ⟨by show d + 1 ≤ 9; omega, by show 8 + (_ + 11) + 32 * d ≤ 288; omega⟩ ⟨Nat.le_of_eq (Nat.zero_add _), Nat.le_of_eq (Nat.zero_add _)⟩ rfl (Nat.le_of_ble_eq_true rfl) dL_wish_5 ?_
  refine zg_catch F [⟨0, 10, 13, 13⟩] ⟨0, 10, 17, 15⟩ [⟨0, 10, 21, 17⟩] (htab.trans rfl) (by
      intro z hz
      simp only [List.mem_cons, List.mem_nil_iff, or_false] at hz
      subst hz
      exact ⟨by decide, "java/lang/IndexOutOfBoundsException", zk_136, by decide⟩) (by decide) (by decide) zk_137 (by decide) (tgt := 17) rfl (fun q => ?_)
  refine zg_astore F (by rw [hn]; decide) (L' := [(4, _), (0, _), (1, _), (2, _), (3, _)]) rfl dL_wish_17 ?_
  refine zg_iconst F (v := nI 2) (by decide) dL_wish_19 ?_
  exact zg_iret F E (Nat.le_of_eq (Nat.zero_add _)) (Nat.le_of_eq (Nat.zero_add _)) (fun _ _ h => h) dL_wish_20
set_option maxRecDepth 100000 in
theorem zL_wish_x3 (l : Launch) (D : va_G) (A : Nat → ClassId) (base : Nat) (d mc ms : Nat) (hd : d ≤ 8) (P P' : zg_P) (x : Nat) (p0 p1 : Int32) (fs : List Value) (hx : ∀ w z, P w z → w x = some (.inr (5, fs))) (oa : Nat) (hM : zg_XMet l zm_X_wish zc_X_wish 3 (some .int) d mc ms D A base [.ref x, .int p0, .int p1] P "java/lang/IllegalStateException" P') : zg_MetW l zm_L_wish zc_L_wish 5 (some .int) [(0, 10, 13, 13), (0, 10, 17, 15), (0, 10, 21, 17)] 9 mc ms D A base [.ref x, .int p0, .int p1, .ref oa] P (some (.int (nI 3))) (zg_ge P') := by
  refine zg_metW (by decide) (Nat.le_of_ble_eq_true rfl) ?_
  intro K hl0 hD0 hA0 hz0 hn htab F E
  subst hl0 hD0 hA0 hz0
  show zg_G K P 0 0 0 [(0, .ref x), (1, .int p0), (2, .int p1), (3, .ref oa)] []
  refine zg_aload_n F 3 rfl rfl dL_wish_0 ?_
  refine zg_iconst F (v := nI 0) (by decide) dL_wish_1 ?_
  refine zg_aload_n F 0 rfl rfl dL_wish_2 ?_
  refine zg_iload_n F 1 rfl rfl dL_wish_3 ?_
  refine zg_iload_n F 2 rfl rfl dL_wish_4 ?_
  refine zg_xcallV F hM zv_X_wish zu_X_wish zk_350 hx rfl rfl ⟨by show d + 1 ≤ 9; omega, by show 8 + (_ + 11) + 32 * d ≤ 288; omega⟩ ⟨Nat.le_of_eq (Nat.zero_add _), Nat.le_of_eq (Nat.zero_add _)⟩ rfl (Nat.le_of_ble_eq_true rfl) dL_wish_5 ?_
  refine zg_catch F [⟨0, 10, 13, 13⟩, ⟨0, 10, 17, 15⟩] ⟨0, 10, 21, 17⟩ [] (htab.trans rfl) (by
      intro z hz
      simp only [List.mem_cons, List.mem_nil_iff, or_false] at hz
      rcases hz with rfl | rfl
      · exact ⟨by decide, "java/lang/IndexOutOfBoundsException", zk_136, by decide⟩
      · exact ⟨by decide, "java/lang/IllegalArgumentException", zk_137, by decide⟩) (by decide) (by decide) zk_138 (by decide) (tgt := 21) rfl (fun q => ?_)
  refine zg_astore F (by rw [hn]; decide) (L' := [(4, _), (0, _), (1, _), (2, _), (3, _)]) rfl dL_wish_21 ?_
  refine zg_iconst F (v := nI 3) (by decide) dL_wish_23 ?_
  exact zg_iret F E (Nat.le_of_eq (Nat.zero_add _)) (Nat.le_of_eq (Nat.zero_add _)) (fun _ _ h => h) dL_wish_24
set_option maxRecDepth 100000 in
theorem zL_cancel (l : Launch) (D : va_G) (A : Nat → ClassId) (base : Nat) (d mc ms : Nat) (hd : d ≤ 8) (P P' : zg_P) (x : Nat) (p0 : Int32) (fs : List Value) (hx : ∀ w z, P w z → w x = some (.inr (5, fs))) (oa : Nat) (r : Int32) (fo : Nat → Int64) (P'' : zg_P) (ho : ∀ w z, P' w z → w oa = some (.inl (A 2, 1, .inr (.inl fo)))) (hP : ∀ w z, P' w z → P'' (zg_u w oa (.inl (A 2, 1, .inr (.inl (vp_updL fo 0 (r.toInt64)))))) z) (hM : zg_Met l zm_X_cancel zc_X_cancel 3 (some .int) d mc ms D A base [.ref x, .int p0] P (some (.int r)) P') : zg_MetW l zm_L_cancel zc_L_cancel 4 (some .int) [(0, 9, 12, 13), (0, 9, 15, 17)] 9 mc ms D A base [.ref x, .int p0, .ref oa] P (some (.int (nI 0))) P'' := by
  refine zg_metW (by decide) (Nat.le_of_ble_eq_true rfl) ?_
  intro K hl0 hD0 hA0 hz0 hn htab F E
  subst hl0 hD0 hA0 hz0
  show zg_G K P 0 0 0 [(0, .ref x), (1, .int p0), (2, .ref oa)] []
  refine zg_aload_n F 2 rfl rfl dL_cancel_0 ?_
  refine zg_iconst F (v := nI 0) (by decide) dL_cancel_1 ?_
  refine zg_aload_n F 0 rfl rfl dL_cancel_2 ?_
  refine zg_iload_n F 1 rfl rfl dL_cancel_3 ?_
  refine zg_callV F hM zv_X_cancel zu_X_cancel zk_380 hx rfl rfl ⟨by show d + 1 ≤ 9; omega, by show 8 + (_ + 11) + 32 * d ≤ 288; omega⟩ ⟨Nat.le_of_eq (Nat.zero_add _), Nat.le_of_eq (Nat.zero_add _)⟩ rfl (Nat.le_of_ble_eq_true rfl) dL_cancel_4 ?_
  refine zg_i2l F rfl dL_cancel_7 ?_
  refine zg_last F ho (by decide) (by decide) hP dL_cancel_8 ?_
  refine zg_goto F (tgt := 18) dL_cancel_9 (by decide) ?_
  refine zg_iconst F (v := nI 0) (by decide) dL_cancel_18 ?_
  exact zg_iret F E (Nat.le_of_eq (Nat.zero_add _)) (Nat.le_of_eq (Nat.zero_add _)) (fun _ _ h => h) dL_cancel_19
set_option maxRecDepth 100000 in
theorem zL_cancel_x1 (l : Launch) (D : va_G) (A : Nat → ClassId) (base : Nat) (d mc ms : Nat) (hd : d ≤ 8) (P P' : zg_P) (x : Nat) (p0 : Int32) (fs : List Value) (hx : ∀ w z, P w z → w x = some (.inr (5, fs))) (oa : Nat) (hM : zg_XMet l zm_X_cancel zc_X_cancel 3 (some .int) d mc ms D A base [.ref x, .int p0] P "java/lang/IndexOutOfBoundsException" P') : zg_MetW l zm_L_cancel zc_L_cancel 4 (some .int) [(0, 9, 12, 13), (0, 9, 15, 17)] 9 mc ms D A base [.ref x, .int p0, .ref oa] P (some (.int (nI 1))) (zg_ge P') := by
  refine zg_metW (by decide) (Nat.le_of_ble_eq_true rfl) ?_
  intro K hl0 hD0 hA0 hz0 hn htab F E
  subst hl0 hD0 hA0 hz0
  show zg_G K P 0 0 0 [(0, .ref x), (1, .int p0), (2, .ref oa)] []
  refine zg_aload_n F 2 rfl rfl dL_cancel_0 ?_
  refine zg_iconst F (v := nI 0) (by decide) dL_cancel_1 ?_
  refine zg_aload_n F 0 rfl rfl dL_cancel_2 ?_
  refine zg_iload_n F 1 rfl rfl dL_cancel_3 ?_
  refine zg_xcallV F hM zv_X_cancel zu_X_cancel zk_380 hx rfl rfl ⟨by show d + 1 ≤ 9; omega, by show 8 + (_ + 11) + 32 * d ≤ 288; omega⟩ ⟨Nat.le_of_eq (Nat.zero_add _), Nat.le_of_eq (Nat.zero_add _)⟩ rfl (Nat.le_of_ble_eq_true rfl) dL_cancel_4 ?_
  refine zg_catch F [] ⟨0, 9, 12, 13⟩ [⟨0, 9, 15, 17⟩] (htab.trans rfl) (fun z hz => absurd hz List.not_mem_nil) (by decide) (by decide) zk_136 (by decide) (tgt := 12) rfl (fun q => ?_)
  refine zg_astore_n F rfl (by rw [hn]; decide) (L' := [(3, _), (0, _), (1, _), (2, _)]) rfl dL_cancel_12 ?_
  refine zg_iconst F (v := nI 1) (by decide) dL_cancel_13 ?_
  exact zg_iret F E (Nat.le_of_eq (Nat.zero_add _)) (Nat.le_of_eq (Nat.zero_add _)) (fun _ _ h => h) dL_cancel_14
set_option maxRecDepth 100000 in
theorem zL_cancel_x2 (l : Launch) (D : va_G) (A : Nat → ClassId) (base : Nat) (d mc ms : Nat) (hd : d ≤ 8) (P P' : zg_P) (x : Nat) (p0 : Int32) (fs : List Value) (hx : ∀ w z, P w z → w x = some (.inr (5, fs))) (oa : Nat) (hM : zg_XMet l zm_X_cancel zc_X_cancel 3 (some .int) d mc ms D A base [.ref x, .int p0] P "java/lang/IllegalStateException" P') : zg_MetW l zm_L_cancel zc_L_cancel 4 (some .int) [(0, 9, 12, 13), (0, 9, 15, 17)] 9 mc ms D A base [.ref x, .int p0, .ref oa] P (some (.int (nI 2))) (zg_ge P') := by
  refine zg_metW (by decide) (Nat.le_of_ble_eq_true rfl) ?_
  intro K hl0 hD0 hA0 hz0 hn htab F E
  subst hl0 hD0 hA0 hz0
  show zg_G K P 0 0 0 [(0, .ref x), (1, .int p0), (2, .ref oa)] []
  refine zg_aload_n F 2 rfl rfl dL_cancel_0 ?_
  refine zg_iconst F (v := nI 0) (by decide) dL_cancel_1 ?_
  refine zg_aload_n F 0 rfl rfl dL_cancel_2 ?_
  refine zg_iload_n F 1 rfl rfl dL_cancel_3 ?_
  refine zg_xcallV F hM zv_X_cancel zu_X_cancel zk_380 hx rfl rfl ⟨by show d + 1 ≤ 9; omega, by show 8 + (_ + 11) + 32 * d ≤ 288; omega⟩ ⟨Nat.le_of_eq (Nat.zero_add _), Nat.le_of_eq (Nat.zero_add _)⟩ rfl (Nat.le_of_ble_eq_true rfl) dL_cancel_4 ?_
  refine zg_catch F [⟨0, 9, 12, 13⟩] ⟨0, 9, 15, 17⟩ [] (htab.trans rfl) (by
      intro z hz
      simp only [List.mem_cons, List.mem_nil_iff, or_false] at hz
      subst hz
      exact ⟨by decide, "java/lang/IndexOutOfBoundsException", zk_136, by decide⟩) (by decide) (by decide) zk_138 (by decide) (tgt := 15) rfl (fun q => ?_)
  refine zg_astore_n F rfl (by rw [hn]; decide) (L' := [(3, _), (0, _), (1, _), (2, _)]) rfl dL_cancel_15 ?_
  refine zg_iconst F (v := nI 2) (by decide) dL_cancel_16 ?_
  exact zg_iret F E (Nat.le_of_eq (Nat.zero_add _)) (Nat.le_of_eq (Nat.zero_add _)) (fun _ _ h => h) dL_cancel_17
set_option maxRecDepth 100000 in
theorem zL_ticket (l : Launch) (D : va_G) (A : Nat → ClassId) (base : Nat) (d mc ms : Nat) (hd : d ≤ 8) (P P' : zg_P) (x : Nat) (p0 p1 : Int32) (fs : List Value) (hx : ∀ w z, P w z → w x = some (.inr (5, fs))) (oa : Nat) (r : Int32) (fo : Nat → Int64) (P'' : zg_P) (ho : ∀ w z, P' w z → w oa = some (.inl (A 2, 1, .inr (.inl fo)))) (hP : ∀ w z, P' w z → P'' (zg_u w oa (.inl (A 2, 1, .inr (.inl (vp_updL fo 0 (r.toInt64)))))) z) (hM : zg_Met l zm_X_ticket zc_X_ticket 4 (some .int) d mc ms D A base [.ref x, .int p0, .int p1] P (some (.int r)) P') : zg_MetW l zm_L_ticket zc_L_ticket 5 (some .int) [(0, 10, 13, 13), (0, 10, 17, 15)] 9 mc ms D A base [.ref x, .int p0, .int p1, .ref oa] P (some (.int (nI 0))) P'' := by
  refine zg_metW (by decide) (Nat.le_of_ble_eq_true rfl) ?_
  intro K hl0 hD0 hA0 hz0 hn htab F E
  subst hl0 hD0 hA0 hz0
  show zg_G K P 0 0 0 [(0, .ref x), (1, .int p0), (2, .int p1), (3, .ref oa)] []
  refine zg_aload_n F 3 rfl rfl dL_ticket_0 ?_
  refine zg_iconst F (v := nI 0) (by decide) dL_ticket_1 ?_
  refine zg_aload_n F 0 rfl rfl dL_ticket_2 ?_
  refine zg_iload_n F 1 rfl rfl dL_ticket_3 ?_
  refine zg_iload_n F 2 rfl rfl dL_ticket_4 ?_
  refine zg_callV F hM zv_X_ticket zu_X_ticket zk_393 hx rfl rfl ⟨by show d + 1 ≤ 9; omega, by show 8 + (_ + 11) + 32 * d ≤ 288; omega⟩ ⟨Nat.le_of_eq (Nat.zero_add _), Nat.le_of_eq (Nat.zero_add _)⟩ rfl (Nat.le_of_ble_eq_true rfl) dL_ticket_5 ?_
  refine zg_i2l F rfl dL_ticket_8 ?_
  refine zg_last F ho (by decide) (by decide) hP dL_ticket_9 ?_
  refine zg_goto F (tgt := 21) dL_ticket_10 (by decide) ?_
  refine zg_iconst F (v := nI 0) (by decide) dL_ticket_21 ?_
  exact zg_iret F E (Nat.le_of_eq (Nat.zero_add _)) (Nat.le_of_eq (Nat.zero_add _)) (fun _ _ h => h) dL_ticket_22
set_option maxRecDepth 100000 in
theorem zL_ticket_x1 (l : Launch) (D : va_G) (A : Nat → ClassId) (base : Nat) (d mc ms : Nat) (hd : d ≤ 8) (P P' : zg_P) (x : Nat) (p0 p1 : Int32) (fs : List Value) (hx : ∀ w z, P w z → w x = some (.inr (5, fs))) (oa : Nat) (hM : zg_XMet l zm_X_ticket zc_X_ticket 4 (some .int) d mc ms D A base [.ref x, .int p0, .int p1] P "java/lang/IndexOutOfBoundsException" P') : zg_MetW l zm_L_ticket zc_L_ticket 5 (some .int) [(0, 10, 13, 13), (0, 10, 17, 15)] 9 mc ms D A base [.ref x, .int p0, .int p1, .ref oa] P (some (.int (nI 1))) (zg_ge P') := by
  refine zg_metW (by decide) (Nat.le_of_ble_eq_true rfl) ?_
  intro K hl0 hD0 hA0 hz0 hn htab F E
  subst hl0 hD0 hA0 hz0
  show zg_G K P 0 0 0 [(0, .ref x), (1, .int p0), (2, .int p1), (3, .ref oa)] []
  refine zg_aload_n F 3 rfl rfl dL_ticket_0 ?_
  refine zg_iconst F (v := nI 0) (by decide) dL_ticket_1 ?_
  refine zg_aload_n F 0 rfl rfl dL_ticket_2 ?_
  refine zg_iload_n F 1 rfl rfl dL_ticket_3 ?_
  refine zg_iload_n F 2 rfl rfl dL_ticket_4 ?_
  refine zg_xcallV F hM zv_X_ticket zu_X_ticket zk_393 hx rfl rfl ⟨by show d + 1 ≤ 9; omega, by show 8 + (_ + 11) + 32 * d ≤ 288; omega⟩ ⟨Nat.le_of_eq (Nat.zero_add _), Nat.le_of_eq (Nat.zero_add _)⟩ rfl (Nat.le_of_ble_eq_true rfl) dL_ticket_5 ?_
  refine zg_catch F [] ⟨0, 10, 13, 13⟩ [⟨0, 10, 17, 15⟩] (htab.trans rfl) (fun z hz => absurd hz List.not_mem_nil) (by decide) (by decide) zk_136 (by decide) (tgt := 13) rfl (fun q => ?_)
  refine zg_astore F (by rw [hn]; decide) (L' := [(4, _), (0, _), (1, _), (2, _), (3, _)]) rfl dL_ticket_13 ?_
  refine zg_iconst F (v := nI 1) (by decide) dL_ticket_15 ?_
  exact zg_iret F E (Nat.le_of_eq (Nat.zero_add _)) (Nat.le_of_eq (Nat.zero_add _)) (fun _ _ h => h) dL_ticket_16
set_option maxRecDepth 100000 in
theorem zL_ticket_x2 (l : Launch) (D : va_G) (A : Nat → ClassId) (base : Nat) (d mc ms : Nat) (hd : d ≤ 8) (P P' : zg_P) (x : Nat) (p0 p1 : Int32) (fs : List Value) (hx : ∀ w z, P w z → w x = some (.inr (5, fs))) (oa : Nat) (hM : zg_XMet l zm_X_ticket zc_X_ticket 4 (some .int) d mc ms D A base [.ref x, .int p0, .int p1] P "java/lang/IllegalArgumentException" P') : zg_MetW l zm_L_ticket zc_L_ticket 5 (some .int) [(0, 10, 13, 13), (0, 10, 17, 15)] 9 mc ms D A base [.ref x, .int p0, .int p1, .ref oa] P (some (.int (nI 2))) (zg_ge P') := by
  refine zg_metW (by decide) (Nat.le_of_ble_eq_true rfl) ?_
  intro K hl0 hD0 hA0 hz0 hn htab F E
  subst hl0 hD0 hA0 hz0
  show zg_G K P 0 0 0 [(0, .ref x), (1, .int p0), (2, .int p1), (3, .ref oa)] []
  refine zg_aload_n F 3 rfl rfl dL_ticket_0 ?_
  refine zg_iconst F (v := nI 0) (by decide) dL_ticket_1 ?_
  refine zg_aload_n F 0 rfl rfl dL_ticket_2 ?_
  refine zg_iload_n F 1 rfl rfl dL_ticket_3 ?_
  refine zg_iload_n F 2 rfl rfl dL_ticket_4 ?_
  refine zg_xcallV F hM zv_X_ticket zu_X_ticket zk_393 hx rfl rfl ⟨by show d + 1 ≤ 9; omega, by show 8 + (_ + 11) + 32 * d ≤ 288; omega⟩ ⟨Nat.le_of_eq (Nat.zero_add _), Nat.le_of_eq (Nat.zero_add _)⟩ rfl (Nat.le_of_ble_eq_true rfl) dL_ticket_5 ?_
  refine zg_catch F [⟨0, 10, 13, 13⟩] ⟨0, 10, 17, 15⟩ [] (htab.trans rfl) (by
      intro z hz
      simp only [List.mem_cons, List.mem_nil_iff, or_false] at hz
      subst hz
      exact ⟨by decide, "java/lang/IndexOutOfBoundsException", zk_136, by decide⟩) (by decide) (by decide) zk_137 (by decide) (tgt := 17) rfl (fun q => ?_)
  refine zg_astore F (by rw [hn]; decide) (L' := [(4, _), (0, _), (1, _), (2, _), (3, _)]) rfl dL_ticket_17 ?_
  refine zg_iconst F (v := nI 2) (by decide) dL_ticket_19 ?_
  exact zg_iret F E (Nat.le_of_eq (Nat.zero_add _)) (Nat.le_of_eq (Nat.zero_add _)) (fun _ _ h => h) dL_ticket_20
set_option maxRecDepth 100000 in
theorem zL_price (l : Launch) (D : va_G) (A : Nat → ClassId) (base : Nat) (d mc ms : Nat) (hd : d ≤ 8) (P P' : zg_P) (x : Nat) (p0 : Int32) (fs : List Value) (hx : ∀ w z, P w z → w x = some (.inr (5, fs))) (oa : Nat) (r : Int64) (fo : Nat → Int64) (P'' : zg_P) (ho : ∀ w z, P' w z → w oa = some (.inl (A 2, 1, .inr (.inl fo)))) (hP : ∀ w z, P' w z → P'' (zg_u w oa (.inl (A 2, 1, .inr (.inl (vp_updL fo 0 (r)))))) z) (hM : zg_Met l zm_X_price zc_X_price 2 (some .long) d mc ms D A base [.ref x, .int p0] P (some (.long r)) P') : zg_MetW l zm_L_price zc_L_price 4 (some .int) [(0, 8, 11, 13)] 9 mc ms D A base [.ref x, .int p0, .ref oa] P (some (.int (nI 0))) P'' := by
  refine zg_metW (by decide) (Nat.le_of_ble_eq_true rfl) ?_
  intro K hl0 hD0 hA0 hz0 hn htab F E
  subst hl0 hD0 hA0 hz0
  show zg_G K P 0 0 0 [(0, .ref x), (1, .int p0), (2, .ref oa)] []
  refine zg_aload_n F 2 rfl rfl dL_price_0 ?_
  refine zg_iconst F (v := nI 0) (by decide) dL_price_1 ?_
  refine zg_aload_n F 0 rfl rfl dL_price_2 ?_
  refine zg_iload_n F 1 rfl rfl dL_price_3 ?_
  refine zg_callV F hM zv_X_price zu_X_price zk_401 hx rfl rfl ⟨by show d + 1 ≤ 9; omega, by show 8 + (_ + 11) + 32 * d ≤ 288; omega⟩ ⟨Nat.le_of_eq (Nat.zero_add _), Nat.le_of_eq (Nat.zero_add _)⟩ rfl (Nat.le_of_ble_eq_true rfl) dL_price_4 ?_
  refine zg_last F ho (by decide) (by decide) hP dL_price_7 ?_
  refine zg_goto F (tgt := 14) dL_price_8 (by decide) ?_
  refine zg_iconst F (v := nI 0) (by decide) dL_price_14 ?_
  exact zg_iret F E (Nat.le_of_eq (Nat.zero_add _)) (Nat.le_of_eq (Nat.zero_add _)) (fun _ _ h => h) dL_price_15
set_option maxRecDepth 100000 in
theorem zL_price_x1 (l : Launch) (D : va_G) (A : Nat → ClassId) (base : Nat) (d mc ms : Nat) (hd : d ≤ 8) (P P' : zg_P) (x : Nat) (p0 : Int32) (fs : List Value) (hx : ∀ w z, P w z → w x = some (.inr (5, fs))) (oa : Nat) (hM : zg_XMet l zm_X_price zc_X_price 2 (some .long) d mc ms D A base [.ref x, .int p0] P "java/lang/IndexOutOfBoundsException" P') : zg_MetW l zm_L_price zc_L_price 4 (some .int) [(0, 8, 11, 13)] 9 mc ms D A base [.ref x, .int p0, .ref oa] P (some (.int (nI 1))) (zg_ge P') := by
  refine zg_metW (by decide) (Nat.le_of_ble_eq_true rfl) ?_
  intro K hl0 hD0 hA0 hz0 hn htab F E
  subst hl0 hD0 hA0 hz0
  show zg_G K P 0 0 0 [(0, .ref x), (1, .int p0), (2, .ref oa)] []
  refine zg_aload_n F 2 rfl rfl dL_price_0 ?_
  refine zg_iconst F (v := nI 0) (by decide) dL_price_1 ?_
  refine zg_aload_n F 0 rfl rfl dL_price_2 ?_
  refine zg_iload_n F 1 rfl rfl dL_price_3 ?_
  refine zg_xcallV F hM zv_X_price zu_X_price zk_401 hx rfl rfl ⟨by show d + 1 ≤ 9; omega, by show 8 + (_ + 11) + 32 * d ≤ 288; omega⟩ ⟨Nat.le_of_eq (Nat.zero_add _), Nat.le_of_eq (Nat.zero_add _)⟩ rfl (Nat.le_of_ble_eq_true rfl) dL_price_4 ?_
  refine zg_catch F [] ⟨0, 8, 11, 13⟩ [] (htab.trans rfl) (fun z hz => absurd hz List.not_mem_nil) (by decide) (by decide) zk_136 (by decide) (tgt := 11) rfl (fun q => ?_)
  refine zg_astore_n F rfl (by rw [hn]; decide) (L' := [(3, _), (0, _), (1, _), (2, _)]) rfl dL_price_11 ?_
  refine zg_iconst F (v := nI 1) (by decide) dL_price_12 ?_
  exact zg_iret F E (Nat.le_of_eq (Nat.zero_add _)) (Nat.le_of_eq (Nat.zero_add _)) (fun _ _ h => h) dL_price_13
set_option maxRecDepth 100000 in
theorem zL_hand (l : Launch) (D : va_G) (A : Nat → ClassId) (base : Nat) (d mc ms : Nat) (hd : d ≤ 8) (P P' : zg_P) (x : Nat) (p0 p1 p2 p3 p4 : Int32) (fs : List Value) (hx : ∀ w z, P w z → w x = some (.inr (5, fs))) (oa : Nat) (r : Int32) (fo : Nat → Int64) (P'' : zg_P) (ho : ∀ w z, P' w z → w oa = some (.inl (A 2, 1, .inr (.inl fo)))) (hP : ∀ w z, P' w z → P'' (zg_u w oa (.inl (A 2, 1, .inr (.inl (vp_updL fo 0 (r.toInt64)))))) z) (hM : zg_Met l zm_X_hand zc_X_hand 7 (some .int) d mc ms D A base [.ref x, .int p0, .int p1, .int p2, .int p3, .int p4] P (some (.int r)) P') : zg_MetW l zm_L_hand zc_L_hand 8 (some .int) [(0, 16, 19, 13), (0, 16, 23, 15), (0, 16, 27, 17)] 9 mc ms D A base [.ref x, .int p0, .int p1, .int p2, .int p3, .int p4, .ref oa] P (some (.int (nI 0))) P'' := by
  refine zg_metW (by decide) (Nat.le_of_ble_eq_true rfl) ?_
  intro K hl0 hD0 hA0 hz0 hn htab F E
  subst hl0 hD0 hA0 hz0
  show zg_G K P 0 0 0 [(0, .ref x), (1, .int p0), (2, .int p1), (3, .int p2), (4, .int p3), (5, .int p4), (6, .ref oa)] []
  refine zg_aload F 6 rfl dL_hand_0 ?_
  refine zg_iconst F (v := nI 0) (by decide) dL_hand_2 ?_
  refine zg_aload_n F 0 rfl rfl dL_hand_3 ?_
  refine zg_iload_n F 1 rfl rfl dL_hand_4 ?_
  refine zg_iload_n F 2 rfl rfl dL_hand_5 ?_
  refine zg_iload_n F 3 rfl rfl dL_hand_6 ?_
  refine zg_iload F 4 rfl dL_hand_7 ?_
  refine zg_iload F 5 rfl dL_hand_9 ?_
  refine zg_callV F hM zv_X_hand zu_X_hand zk_408 hx rfl rfl ⟨by show d + 1 ≤ 9; omega, by show 8 + (_ + 11) + 32 * d ≤ 288; omega⟩ ⟨Nat.le_of_eq (Nat.zero_add _), Nat.le_of_eq (Nat.zero_add _)⟩ rfl (Nat.le_of_ble_eq_true rfl) dL_hand_11 ?_
  refine zg_i2l F rfl dL_hand_14 ?_
  refine zg_last F ho (by decide) (by decide) hP dL_hand_15 ?_
  refine zg_goto F (tgt := 31) dL_hand_16 (by decide) ?_
  refine zg_iconst F (v := nI 0) (by decide) dL_hand_31 ?_
  exact zg_iret F E (Nat.le_of_eq (Nat.zero_add _)) (Nat.le_of_eq (Nat.zero_add _)) (fun _ _ h => h) dL_hand_32
set_option maxRecDepth 100000 in
theorem zL_hand_x1 (l : Launch) (D : va_G) (A : Nat → ClassId) (base : Nat) (d mc ms : Nat) (hd : d ≤ 8) (P P' : zg_P) (x : Nat) (p0 p1 p2 p3 p4 : Int32) (fs : List Value) (hx : ∀ w z, P w z → w x = some (.inr (5, fs))) (oa : Nat) (hM : zg_XMet l zm_X_hand zc_X_hand 7 (some .int) d mc ms D A base [.ref x, .int p0, .int p1, .int p2, .int p3, .int p4] P "java/lang/IndexOutOfBoundsException" P') : zg_MetW l zm_L_hand zc_L_hand 8 (some .int) [(0, 16, 19, 13), (0, 16, 23, 15), (0, 16, 27, 17)] 9 mc ms D A base [.ref x, .int p0, .int p1, .int p2, .int p3, .int p4, .ref oa] P (some (.int (nI 1))) (zg_ge P') := by
  refine zg_metW (by decide) (Nat.le_of_ble_eq_true rfl) ?_
  intro K hl0 hD0 hA0 hz0 hn htab F E
  subst hl0 hD0 hA0 hz0
  show zg_G K P 0 0 0 [(0, .ref x), (1, .int p0), (2, .int p1), (3, .int p2), (4, .int p3), (5, .int p4), (6, .ref oa)] []
  refine zg_aload F 6 rfl dL_hand_0 ?_
  refine zg_iconst F (v := nI 0) (by decide) dL_hand_2 ?_
  refine zg_aload_n F 0 rfl rfl dL_hand_3 ?_
  refine zg_iload_n F 1 rfl rfl dL_hand_4 ?_
  refine zg_iload_n F 2 rfl rfl dL_hand_5 ?_
  refine zg_iload_n F 3 rfl rfl dL_hand_6 ?_
  refine zg_iload F 4 rfl dL_hand_7 ?_
  refine zg_iload F 5 rfl dL_hand_9 ?_
  refine zg_xcallV F hM zv_X_hand zu_X_hand zk_408 hx rfl rfl ⟨by show d + 1 ≤ 9; omega, by show 8 + (_ + 11) + 32 * d ≤ 288; omega⟩ ⟨Nat.le_of_eq (Nat.zero_add _), Nat.le_of_eq (Nat.zero_add _)⟩ rfl (Nat.le_of_ble_eq_true rfl) dL_hand_11 ?_
  refine zg_catch F [] ⟨0, 16, 19, 13⟩ [⟨0, 16, 23, 15⟩, ⟨0, 16, 27, 17⟩] (htab.trans rfl) (fun z hz => absurd hz List.not_mem_nil) (by decide) (by decide) zk_136 (by decide) (tgt := 19) rfl (fun q => ?_)
  refine zg_astore F (by rw [hn]; decide) (L' := [(7, _), (0, _), (1, _), (2, _), (3, _), (4, _), (5, _), (6, _)]) rfl dL_hand_19 ?_
  refine zg_iconst F (v := nI 1) (by decide) dL_hand_21 ?_
  exact zg_iret F E (Nat.le_of_eq (Nat.zero_add _)) (Nat.le_of_eq (Nat.zero_add _)) (fun _ _ h => h) dL_hand_22
set_option maxRecDepth 100000 in
theorem zL_hand_x2 (l : Launch) (D : va_G) (A : Nat → ClassId) (base : Nat) (d mc ms : Nat) (hd : d ≤ 8) (P P' : zg_P) (x : Nat) (p0 p1 p2 p3 p4 : Int32) (fs : List Value) (hx : ∀ w z, P w z → w x = some (.inr (5, fs))) (oa : Nat) (hM : zg_XMet l zm_X_hand zc_X_hand 7 (some .int) d mc ms D A base [.ref x, .int p0, .int p1, .int p2, .int p3, .int p4] P "java/lang/IllegalArgumentException" P') : zg_MetW l zm_L_hand zc_L_hand 8 (some .int) [(0, 16, 19, 13), (0, 16, 23, 15), (0, 16, 27, 17)] 9 mc ms D A base [.ref x, .int p0, .int p1, .int p2, .int p3, .int p4, .ref oa] P (some (.int (nI 2))) (zg_ge P') := by
  refine zg_metW (by decide) (Nat.le_of_ble_eq_true rfl) ?_
  intro K hl0 hD0 hA0 hz0 hn htab F E
  subst hl0 hD0 hA0 hz0
  show zg_G K P 0 0 0 [(0, .ref x), (1, .int p0), (2, .int p1), (3, .int p2), (4, .int p3), (5, .int p4), (6, .ref oa)] []
  refine zg_aload F 6 rfl dL_hand_0 ?_
  refine zg_iconst F (v := nI 0) (by decide) dL_hand_2 ?_
  refine zg_aload_n F 0 rfl rfl dL_hand_3 ?_
  refine zg_iload_n F 1 rfl rfl dL_hand_4 ?_
  refine zg_iload_n F 2 rfl rfl dL_hand_5 ?_
  refine zg_iload_n F 3 rfl rfl dL_hand_6 ?_
  refine zg_iload F 4 rfl dL_hand_7 ?_
  refine zg_iload F 5 rfl dL_hand_9 ?_
  refine zg_xcallV F hM zv_X_hand zu_X_hand zk_408 hx rfl rfl ⟨by show d + 1 ≤ 9; omega, by show 8 + (_ + 11) + 32 * d ≤ 288; omega⟩ ⟨Nat.le_of_eq (Nat.zero_add _), Nat.le_of_eq (Nat.zero_add _)⟩ rfl (Nat.le_of_ble_eq_true rfl) dL_hand_11 ?_
  refine zg_catch F [⟨0, 16, 19, 13⟩] ⟨0, 16, 23, 15⟩ [⟨0, 16, 27, 17⟩] (htab.trans rfl) (by
      intro z hz
      simp only [List.mem_cons, List.mem_nil_iff, or_false] at hz
      subst hz
      exact ⟨by decide, "java/lang/IndexOutOfBoundsException", zk_136, by decide⟩) (by decide) (by decide) zk_137 (by decide) (tgt := 23) rfl (fun q => ?_)
  refine zg_astore F (by rw [hn]; decide) (L' := [(7, _), (0, _), (1, _), (2, _), (3, _), (4, _), (5, _), (6, _)]) rfl dL_hand_23 ?_
  refine zg_iconst F (v := nI 2) (by decide) dL_hand_25 ?_
  exact zg_iret F E (Nat.le_of_eq (Nat.zero_add _)) (Nat.le_of_eq (Nat.zero_add _)) (fun _ _ h => h) dL_hand_26
set_option maxRecDepth 100000 in
theorem zL_hand_x3 (l : Launch) (D : va_G) (A : Nat → ClassId) (base : Nat) (d mc ms : Nat) (hd : d ≤ 8) (P P' : zg_P) (x : Nat) (p0 p1 p2 p3 p4 : Int32) (fs : List Value) (hx : ∀ w z, P w z → w x = some (.inr (5, fs))) (oa : Nat) (hM : zg_XMet l zm_X_hand zc_X_hand 7 (some .int) d mc ms D A base [.ref x, .int p0, .int p1, .int p2, .int p3, .int p4] P "java/lang/IllegalStateException" P') : zg_MetW l zm_L_hand zc_L_hand 8 (some .int) [(0, 16, 19, 13), (0, 16, 23, 15), (0, 16, 27, 17)] 9 mc ms D A base [.ref x, .int p0, .int p1, .int p2, .int p3, .int p4, .ref oa] P (some (.int (nI 3))) (zg_ge P') := by
  refine zg_metW (by decide) (Nat.le_of_ble_eq_true rfl) ?_
  intro K hl0 hD0 hA0 hz0 hn htab F E
  subst hl0 hD0 hA0 hz0
  show zg_G K P 0 0 0 [(0, .ref x), (1, .int p0), (2, .int p1), (3, .int p2), (4, .int p3), (5, .int p4), (6, .ref oa)] []
  refine zg_aload F 6 rfl dL_hand_0 ?_
  refine zg_iconst F (v := nI 0) (by decide) dL_hand_2 ?_
  refine zg_aload_n F 0 rfl rfl dL_hand_3 ?_
  refine zg_iload_n F 1 rfl rfl dL_hand_4 ?_
  refine zg_iload_n F 2 rfl rfl dL_hand_5 ?_
  refine zg_iload_n F 3 rfl rfl dL_hand_6 ?_
  refine zg_iload F 4 rfl dL_hand_7 ?_
  refine zg_iload F 5 rfl dL_hand_9 ?_
  refine zg_xcallV F hM zv_X_hand zu_X_hand zk_408 hx rfl rfl ⟨by show d + 1 ≤ 9; omega, by show 8 + (_ + 11) + 32 * d ≤ 288; omega⟩ ⟨Nat.le_of_eq (Nat.zero_add _), Nat.le_of_eq (Nat.zero_add _)⟩ rfl (Nat.le_of_ble_eq_true rfl) dL_hand_11 ?_
  refine zg_catch F [⟨0, 16, 19, 13⟩, ⟨0, 16, 23, 15⟩] ⟨0, 16, 27, 17⟩ [] (htab.trans rfl) (by
      intro z hz
      simp only [List.mem_cons, List.mem_nil_iff, or_false] at hz
      rcases hz with rfl | rfl
      · exact ⟨by decide, "java/lang/IndexOutOfBoundsException", zk_136, by decide⟩
      · exact ⟨by decide, "java/lang/IllegalArgumentException", zk_137, by decide⟩) (by decide) (by decide) zk_138 (by decide) (tgt := 27) rfl (fun q => ?_)
  refine zg_astore F (by rw [hn]; decide) (L' := [(7, _), (0, _), (1, _), (2, _), (3, _), (4, _), (5, _), (6, _)]) rfl dL_hand_27 ?_
  refine zg_iconst F (v := nI 3) (by decide) dL_hand_29 ?_
  exact zg_iret F E (Nat.le_of_eq (Nat.zero_add _)) (Nat.le_of_eq (Nat.zero_add _)) (fun _ _ h => h) dL_hand_30
set_option maxRecDepth 100000 in
theorem zL_share (l : Launch) (D : va_G) (A : Nat → ClassId) (base : Nat) (d mc ms : Nat) (hd : d ≤ 8) (P P' : zg_P) (x : Nat) (p0 p1 p2 : Int32) (fs : List Value) (hx : ∀ w z, P w z → w x = some (.inr (5, fs))) (oa : Nat) (r : Int32) (fo : Nat → Int64) (P'' : zg_P) (ho : ∀ w z, P' w z → w oa = some (.inl (A 2, 1, .inr (.inl fo)))) (hP : ∀ w z, P' w z → P'' (zg_u w oa (.inl (A 2, 1, .inr (.inl (vp_updL fo 0 (r.toInt64)))))) z) (hM : zg_Met l zm_X_share zc_X_share 8 (some .int) d mc ms D A base [.ref x, .int p0, .int p1, .int p2] P (some (.int r)) P') : zg_MetW l zm_L_share zc_L_share 6 (some .int) [(0, 12, 15, 13), (0, 12, 19, 15)] 9 mc ms D A base [.ref x, .int p0, .int p1, .int p2, .ref oa] P (some (.int (nI 0))) P'' := by
  refine zg_metW (by decide) (Nat.le_of_ble_eq_true rfl) ?_
  intro K hl0 hD0 hA0 hz0 hn htab F E
  subst hl0 hD0 hA0 hz0
  show zg_G K P 0 0 0 [(0, .ref x), (1, .int p0), (2, .int p1), (3, .int p2), (4, .ref oa)] []
  refine zg_aload F 4 rfl dL_share_0 ?_
  refine zg_iconst F (v := nI 0) (by decide) dL_share_2 ?_
  refine zg_aload_n F 0 rfl rfl dL_share_3 ?_
  refine zg_iload_n F 1 rfl rfl dL_share_4 ?_
  refine zg_iload_n F 2 rfl rfl dL_share_5 ?_
  refine zg_iload_n F 3 rfl rfl dL_share_6 ?_
  refine zg_callV F hM zv_X_share zu_X_share zk_442 hx rfl rfl ⟨by show d + 1 ≤ 9; omega, by show 8 + (_ + 11) + 32 * d ≤ 288; omega⟩ ⟨Nat.le_of_eq (Nat.zero_add _), Nat.le_of_eq (Nat.zero_add _)⟩ rfl (Nat.le_of_ble_eq_true rfl) dL_share_7 ?_
  refine zg_i2l F rfl dL_share_10 ?_
  refine zg_last F ho (by decide) (by decide) hP dL_share_11 ?_
  refine zg_goto F (tgt := 23) dL_share_12 (by decide) ?_
  refine zg_iconst F (v := nI 0) (by decide) dL_share_23 ?_
  exact zg_iret F E (Nat.le_of_eq (Nat.zero_add _)) (Nat.le_of_eq (Nat.zero_add _)) (fun _ _ h => h) dL_share_24
set_option maxRecDepth 100000 in
theorem zL_share_x1 (l : Launch) (D : va_G) (A : Nat → ClassId) (base : Nat) (d mc ms : Nat) (hd : d ≤ 8) (P P' : zg_P) (x : Nat) (p0 p1 p2 : Int32) (fs : List Value) (hx : ∀ w z, P w z → w x = some (.inr (5, fs))) (oa : Nat) (hM : zg_XMet l zm_X_share zc_X_share 8 (some .int) d mc ms D A base [.ref x, .int p0, .int p1, .int p2] P "java/lang/IndexOutOfBoundsException" P') : zg_MetW l zm_L_share zc_L_share 6 (some .int) [(0, 12, 15, 13), (0, 12, 19, 15)] 9 mc ms D A base [.ref x, .int p0, .int p1, .int p2, .ref oa] P (some (.int (nI 1))) (zg_ge P') := by
  refine zg_metW (by decide) (Nat.le_of_ble_eq_true rfl) ?_
  intro K hl0 hD0 hA0 hz0 hn htab F E
  subst hl0 hD0 hA0 hz0
  show zg_G K P 0 0 0 [(0, .ref x), (1, .int p0), (2, .int p1), (3, .int p2), (4, .ref oa)] []
  refine zg_aload F 4 rfl dL_share_0 ?_
  refine zg_iconst F (v := nI 0) (by decide) dL_share_2 ?_
  refine zg_aload_n F 0 rfl rfl dL_share_3 ?_
  refine zg_iload_n F 1 rfl rfl dL_share_4 ?_
  refine zg_iload_n F 2 rfl rfl dL_share_5 ?_
  refine zg_iload_n F 3 rfl rfl dL_share_6 ?_
  refine zg_xcallV F hM zv_X_share zu_X_share zk_442 hx rfl rfl ⟨by show d + 1 ≤ 9; omega, by show 8 + (_ + 11) + 32 * d ≤ 288; omega⟩ ⟨Nat.le_of_eq (Nat.zero_add _), Nat.le_of_eq (Nat.zero_add _)⟩ rfl (Nat.le_of_ble_eq_true rfl) dL_share_7 ?_
  refine zg_catch F [] ⟨0, 12, 15, 13⟩ [⟨0, 12, 19, 15⟩] (htab.trans rfl) (fun z hz => absurd hz List.not_mem_nil) (by decide) (by decide) zk_136 (by decide) (tgt := 15) rfl (fun q => ?_)
  refine zg_astore F (by rw [hn]; decide) (L' := [(5, _), (0, _), (1, _), (2, _), (3, _), (4, _)]) rfl dL_share_15 ?_
  refine zg_iconst F (v := nI 1) (by decide) dL_share_17 ?_
  exact zg_iret F E (Nat.le_of_eq (Nat.zero_add _)) (Nat.le_of_eq (Nat.zero_add _)) (fun _ _ h => h) dL_share_18
set_option maxRecDepth 100000 in
theorem zL_share_x2 (l : Launch) (D : va_G) (A : Nat → ClassId) (base : Nat) (d mc ms : Nat) (hd : d ≤ 8) (P P' : zg_P) (x : Nat) (p0 p1 p2 : Int32) (fs : List Value) (hx : ∀ w z, P w z → w x = some (.inr (5, fs))) (oa : Nat) (hM : zg_XMet l zm_X_share zc_X_share 8 (some .int) d mc ms D A base [.ref x, .int p0, .int p1, .int p2] P "java/lang/IllegalArgumentException" P') : zg_MetW l zm_L_share zc_L_share 6 (some .int) [(0, 12, 15, 13), (0, 12, 19, 15)] 9 mc ms D A base [.ref x, .int p0, .int p1, .int p2, .ref oa] P (some (.int (nI 2))) (zg_ge P') := by
  refine zg_metW (by decide) (Nat.le_of_ble_eq_true rfl) ?_
  intro K hl0 hD0 hA0 hz0 hn htab F E
  subst hl0 hD0 hA0 hz0
  show zg_G K P 0 0 0 [(0, .ref x), (1, .int p0), (2, .int p1), (3, .int p2), (4, .ref oa)] []
  refine zg_aload F 4 rfl dL_share_0 ?_
  refine zg_iconst F (v := nI 0) (by decide) dL_share_2 ?_
  refine zg_aload_n F 0 rfl rfl dL_share_3 ?_
  refine zg_iload_n F 1 rfl rfl dL_share_4 ?_
  refine zg_iload_n F 2 rfl rfl dL_share_5 ?_
  refine zg_iload_n F 3 rfl rfl dL_share_6 ?_
  refine zg_xcallV F hM zv_X_share zu_X_share zk_442 hx rfl rfl ⟨by show d + 1 ≤ 9; omega, by show 8 + (_ + 11) + 32 * d ≤ 288; omega⟩ ⟨Nat.le_of_eq (Nat.zero_add _), Nat.le_of_eq (Nat.zero_add _)⟩ rfl (Nat.le_of_ble_eq_true rfl) dL_share_7 ?_
  refine zg_catch F [⟨0, 12, 15, 13⟩] ⟨0, 12, 19, 15⟩ [] (htab.trans rfl) (by
      intro z hz
      simp only [List.mem_cons, List.mem_nil_iff, or_false] at hz
      subst hz
      exact ⟨by decide, "java/lang/IndexOutOfBoundsException", zk_136, by decide⟩) (by decide) (by decide) zk_137 (by decide) (tgt := 19) rfl (fun q => ?_)
  refine zg_astore F (by rw [hn]; decide) (L' := [(5, _), (0, _), (1, _), (2, _), (3, _), (4, _)]) rfl dL_share_19 ?_
  refine zg_iconst F (v := nI 2) (by decide) dL_share_21 ?_
  exact zg_iret F E (Nat.le_of_eq (Nat.zero_add _)) (Nat.le_of_eq (Nat.zero_add _)) (fun _ _ h => h) dL_share_22
set_option maxRecDepth 100000 in
theorem zL_send (l : Launch) (D : va_G) (A : Nat → ClassId) (base : Nat) (d mc ms : Nat) (hd : d ≤ 8) (P P' : zg_P) (x : Nat) (p0 p1 : Int32) (fs : List Value) (hx : ∀ w z, P w z → w x = some (.inr (5, fs))) (oa : Nat) (r : Int32) (fo : Nat → Int64) (P'' : zg_P) (ho : ∀ w z, P' w z → w oa = some (.inl (A 2, 1, .inr (.inl fo)))) (hP : ∀ w z, P' w z → P'' (zg_u w oa (.inl (A 2, 1, .inr (.inl (vp_updL fo 0 (r.toInt64)))))) z) (hM : zg_Met l zm_X_send zc_X_send 4 (some .int) d mc ms D A base [.ref x, .int p0, .int p1] P (some (.int r)) P') : zg_MetW l zm_L_send zc_L_send 5 (some .int) [(0, 10, 13, 13), (0, 10, 17, 15)] 9 mc ms D A base [.ref x, .int p0, .int p1, .ref oa] P (some (.int (nI 0))) P'' := by
  refine zg_metW (by decide) (Nat.le_of_ble_eq_true rfl) ?_
  intro K hl0 hD0 hA0 hz0 hn htab F E
  subst hl0 hD0 hA0 hz0
  show zg_G K P 0 0 0 [(0, .ref x), (1, .int p0), (2, .int p1), (3, .ref oa)] []
  refine zg_aload_n F 3 rfl rfl dL_send_0 ?_
  refine zg_iconst F (v := nI 0) (by decide) dL_send_1 ?_
  refine zg_aload_n F 0 rfl rfl dL_send_2 ?_
  refine zg_iload_n F 1 rfl rfl dL_send_3 ?_
  refine zg_iload_n F 2 rfl rfl dL_send_4 ?_
  refine zg_callV F hM zv_X_send zu_X_send zk_449 hx rfl rfl ⟨by show d + 1 ≤ 9; omega, by show 8 + (_ + 11) + 32 * d ≤ 288; omega⟩ ⟨Nat.le_of_eq (Nat.zero_add _), Nat.le_of_eq (Nat.zero_add _)⟩ rfl (Nat.le_of_ble_eq_true rfl) dL_send_5 ?_
  refine zg_i2l F rfl dL_send_8 ?_
  refine zg_last F ho (by decide) (by decide) hP dL_send_9 ?_
  refine zg_goto F (tgt := 21) dL_send_10 (by decide) ?_
  refine zg_iconst F (v := nI 0) (by decide) dL_send_21 ?_
  exact zg_iret F E (Nat.le_of_eq (Nat.zero_add _)) (Nat.le_of_eq (Nat.zero_add _)) (fun _ _ h => h) dL_send_22
set_option maxRecDepth 100000 in
theorem zL_send_x1 (l : Launch) (D : va_G) (A : Nat → ClassId) (base : Nat) (d mc ms : Nat) (hd : d ≤ 8) (P P' : zg_P) (x : Nat) (p0 p1 : Int32) (fs : List Value) (hx : ∀ w z, P w z → w x = some (.inr (5, fs))) (oa : Nat) (hM : zg_XMet l zm_X_send zc_X_send 4 (some .int) d mc ms D A base [.ref x, .int p0, .int p1] P "java/lang/IndexOutOfBoundsException" P') : zg_MetW l zm_L_send zc_L_send 5 (some .int) [(0, 10, 13, 13), (0, 10, 17, 15)] 9 mc ms D A base [.ref x, .int p0, .int p1, .ref oa] P (some (.int (nI 1))) (zg_ge P') := by
  refine zg_metW (by decide) (Nat.le_of_ble_eq_true rfl) ?_
  intro K hl0 hD0 hA0 hz0 hn htab F E
  subst hl0 hD0 hA0 hz0
  show zg_G K P 0 0 0 [(0, .ref x), (1, .int p0), (2, .int p1), (3, .ref oa)] []
  refine zg_aload_n F 3 rfl rfl dL_send_0 ?_
  refine zg_iconst F (v := nI 0) (by decide) dL_send_1 ?_
  refine zg_aload_n F 0 rfl rfl dL_send_2 ?_
  refine zg_iload_n F 1 rfl rfl dL_send_3 ?_
  refine zg_iload_n F 2 rfl rfl dL_send_4 ?_
  refine zg_xcallV F hM zv_X_send zu_X_send zk_449 hx rfl rfl ⟨by show d + 1 ≤ 9; omega, by show 8 + (_ + 11) + 32 * d ≤ 288; omega⟩ ⟨Nat.le_of_eq (Nat.zero_add _), Nat.le_of_eq (Nat.zero_add _)⟩ rfl (Nat.le_of_ble_eq_true rfl) dL_send_5 ?_
  refine zg_catch F [] ⟨0, 10, 13, 13⟩ [⟨0, 10, 17, 15⟩] (htab.trans rfl) (fun z hz => absurd hz List.not_mem_nil) (by decide) (by decide) zk_136 (by decide) (tgt := 13) rfl (fun q => ?_)
  refine zg_astore F (by rw [hn]; decide) (L' := [(4, _), (0, _), (1, _), (2, _), (3, _)]) rfl dL_send_13 ?_
  refine zg_iconst F (v := nI 1) (by decide) dL_send_15 ?_
  exact zg_iret F E (Nat.le_of_eq (Nat.zero_add _)) (Nat.le_of_eq (Nat.zero_add _)) (fun _ _ h => h) dL_send_16
set_option maxRecDepth 100000 in
theorem zL_send_x2 (l : Launch) (D : va_G) (A : Nat → ClassId) (base : Nat) (d mc ms : Nat) (hd : d ≤ 8) (P P' : zg_P) (x : Nat) (p0 p1 : Int32) (fs : List Value) (hx : ∀ w z, P w z → w x = some (.inr (5, fs))) (oa : Nat) (hM : zg_XMet l zm_X_send zc_X_send 4 (some .int) d mc ms D A base [.ref x, .int p0, .int p1] P "java/lang/IllegalArgumentException" P') : zg_MetW l zm_L_send zc_L_send 5 (some .int) [(0, 10, 13, 13), (0, 10, 17, 15)] 9 mc ms D A base [.ref x, .int p0, .int p1, .ref oa] P (some (.int (nI 2))) (zg_ge P') := by
  refine zg_metW (by decide) (Nat.le_of_ble_eq_true rfl) ?_
  intro K hl0 hD0 hA0 hz0 hn htab F E
  subst hl0 hD0 hA0 hz0
  show zg_G K P 0 0 0 [(0, .ref x), (1, .int p0), (2, .int p1), (3, .ref oa)] []
  refine zg_aload_n F 3 rfl rfl dL_send_0 ?_
  refine zg_iconst F (v := nI 0) (by decide) dL_send_1 ?_
  refine zg_aload_n F 0 rfl rfl dL_send_2 ?_
  refine zg_iload_n F 1 rfl rfl dL_send_3 ?_
  refine zg_iload_n F 2 rfl rfl dL_send_4 ?_
  refine zg_xcallV F hM zv_X_send zu_X_send zk_449 hx rfl rfl ⟨by show d + 1 ≤ 9; omega, by show 8 + (_ + 11) + 32 * d ≤ 288; omega⟩ ⟨Nat.le_of_eq (Nat.zero_add _), Nat.le_of_eq (Nat.zero_add _)⟩ rfl (Nat.le_of_ble_eq_true rfl) dL_send_5 ?_
  refine zg_catch F [⟨0, 10, 13, 13⟩] ⟨0, 10, 17, 15⟩ [] (htab.trans rfl) (by
      intro z hz
      simp only [List.mem_cons, List.mem_nil_iff, or_false] at hz
      subst hz
      exact ⟨by decide, "java/lang/IndexOutOfBoundsException", zk_136, by decide⟩) (by decide) (by decide) zk_137 (by decide) (tgt := 17) rfl (fun q => ?_)
  refine zg_astore F (by rw [hn]; decide) (L' := [(4, _), (0, _), (1, _), (2, _), (3, _)]) rfl dL_send_17 ?_
  refine zg_iconst F (v := nI 2) (by decide) dL_send_19 ?_
  exact zg_iret F E (Nat.le_of_eq (Nat.zero_add _)) (Nat.le_of_eq (Nat.zero_add _)) (fun _ _ h => h) dL_send_20
set_option maxRecDepth 100000 in
theorem zL_arrive (l : Launch) (D : va_G) (A : Nat → ClassId) (base : Nat) (d mc ms : Nat) (hd : d ≤ 8) (P P' : zg_P) (x : Nat) (p0 p1 : Int32) (fs : List Value) (hx : ∀ w z, P w z → w x = some (.inr (5, fs))) (oa : Nat) (r : Int32) (fo : Nat → Int64) (P'' : zg_P) (ho : ∀ w z, P' w z → w oa = some (.inl (A 2, 1, .inr (.inl fo)))) (hP : ∀ w z, P' w z → P'' (zg_u w oa (.inl (A 2, 1, .inr (.inl (vp_updL fo 0 (r.toInt64)))))) z) (hM : zg_Met l zm_X_arrive zc_X_arrive 6 (some .int) d mc ms D A base [.ref x, .int p0, .int p1] P (some (.int r)) P') : zg_MetW l zm_L_arrive zc_L_arrive 5 (some .int) [(0, 10, 13, 13), (0, 10, 17, 15)] 9 mc ms D A base [.ref x, .int p0, .int p1, .ref oa] P (some (.int (nI 0))) P'' := by
  refine zg_metW (by decide) (Nat.le_of_ble_eq_true rfl) ?_
  intro K hl0 hD0 hA0 hz0 hn htab F E
  subst hl0 hD0 hA0 hz0
  show zg_G K P 0 0 0 [(0, .ref x), (1, .int p0), (2, .int p1), (3, .ref oa)] []
  refine zg_aload_n F 3 rfl rfl dL_arrive_0 ?_
  refine zg_iconst F (v := nI 0) (by decide) dL_arrive_1 ?_
  refine zg_aload_n F 0 rfl rfl dL_arrive_2 ?_
  refine zg_iload_n F 1 rfl rfl dL_arrive_3 ?_
  refine zg_iload_n F 2 rfl rfl dL_arrive_4 ?_
  refine zg_callV F hM zv_X_arrive zu_X_arrive zk_459 hx rfl rfl ⟨by show d + 1 ≤ 9; omega, by show 8 + (_ + 11) + 32 * d ≤ 288; omega⟩ ⟨Nat.le_of_eq (Nat.zero_add _), Nat.le_of_eq (Nat.zero_add _)⟩ rfl (Nat.le_of_ble_eq_true rfl) dL_arrive_5 ?_
  refine zg_i2l F rfl dL_arrive_8 ?_
  refine zg_last F ho (by decide) (by decide) hP dL_arrive_9 ?_
  refine zg_goto F (tgt := 21) dL_arrive_10 (by decide) ?_
  refine zg_iconst F (v := nI 0) (by decide) dL_arrive_21 ?_
  exact zg_iret F E (Nat.le_of_eq (Nat.zero_add _)) (Nat.le_of_eq (Nat.zero_add _)) (fun _ _ h => h) dL_arrive_22
set_option maxRecDepth 100000 in
theorem zL_arrive_x1 (l : Launch) (D : va_G) (A : Nat → ClassId) (base : Nat) (d mc ms : Nat) (hd : d ≤ 8) (P P' : zg_P) (x : Nat) (p0 p1 : Int32) (fs : List Value) (hx : ∀ w z, P w z → w x = some (.inr (5, fs))) (oa : Nat) (hM : zg_XMet l zm_X_arrive zc_X_arrive 6 (some .int) d mc ms D A base [.ref x, .int p0, .int p1] P "java/lang/IndexOutOfBoundsException" P') : zg_MetW l zm_L_arrive zc_L_arrive 5 (some .int) [(0, 10, 13, 13), (0, 10, 17, 15)] 9 mc ms D A base [.ref x, .int p0, .int p1, .ref oa] P (some (.int (nI 1))) (zg_ge P') := by
  refine zg_metW (by decide) (Nat.le_of_ble_eq_true rfl) ?_
  intro K hl0 hD0 hA0 hz0 hn htab F E
  subst hl0 hD0 hA0 hz0
  show zg_G K P 0 0 0 [(0, .ref x), (1, .int p0), (2, .int p1), (3, .ref oa)] []
  refine zg_aload_n F 3 rfl rfl dL_arrive_0 ?_
  refine zg_iconst F (v := nI 0) (by decide) dL_arrive_1 ?_
  refine zg_aload_n F 0 rfl rfl dL_arrive_2 ?_
  refine zg_iload_n F 1 rfl rfl dL_arrive_3 ?_
  refine zg_iload_n F 2 rfl rfl dL_arrive_4 ?_
  refine zg_xcallV F hM zv_X_arrive zu_X_arrive zk_459 hx rfl rfl ⟨by show d + 1 ≤ 9; omega, by show 8 + (_ + 11) + 32 * d ≤ 288; omega⟩ ⟨Nat.le_of_eq (Nat.zero_add _), Nat.le_of_eq (Nat.zero_add _)⟩ rfl (Nat.le_of_ble_eq_true rfl) dL_arrive_5 ?_
  refine zg_catch F [] ⟨0, 10, 13, 13⟩ [⟨0, 10, 17, 15⟩] (htab.trans rfl) (fun z hz => absurd hz List.not_mem_nil) (by decide) (by decide) zk_136 (by decide) (tgt := 13) rfl (fun q => ?_)
  refine zg_astore F (by rw [hn]; decide) (L' := [(4, _), (0, _), (1, _), (2, _), (3, _)]) rfl dL_arrive_13 ?_
  refine zg_iconst F (v := nI 1) (by decide) dL_arrive_15 ?_
  exact zg_iret F E (Nat.le_of_eq (Nat.zero_add _)) (Nat.le_of_eq (Nat.zero_add _)) (fun _ _ h => h) dL_arrive_16
set_option maxRecDepth 100000 in
theorem zL_arrive_x2 (l : Launch) (D : va_G) (A : Nat → ClassId) (base : Nat) (d mc ms : Nat) (hd : d ≤ 8) (P P' : zg_P) (x : Nat) (p0 p1 : Int32) (fs : List Value) (hx : ∀ w z, P w z → w x = some (.inr (5, fs))) (oa : Nat) (hM : zg_XMet l zm_X_arrive zc_X_arrive 6 (some .int) d mc ms D A base [.ref x, .int p0, .int p1] P "java/lang/IllegalArgumentException" P') : zg_MetW l zm_L_arrive zc_L_arrive 5 (some .int) [(0, 10, 13, 13), (0, 10, 17, 15)] 9 mc ms D A base [.ref x, .int p0, .int p1, .ref oa] P (some (.int (nI 2))) (zg_ge P') := by
  refine zg_metW (by decide) (Nat.le_of_ble_eq_true rfl) ?_
  intro K hl0 hD0 hA0 hz0 hn htab F E
  subst hl0 hD0 hA0 hz0
  show zg_G K P 0 0 0 [(0, .ref x), (1, .int p0), (2, .int p1), (3, .ref oa)] []
  refine zg_aload_n F 3 rfl rfl dL_arrive_0 ?_
  refine zg_iconst F (v := nI 0) (by decide) dL_arrive_1 ?_
  refine zg_aload_n F 0 rfl rfl dL_arrive_2 ?_
  refine zg_iload_n F 1 rfl rfl dL_arrive_3 ?_
  refine zg_iload_n F 2 rfl rfl dL_arrive_4 ?_
  refine zg_xcallV F hM zv_X_arrive zu_X_arrive zk_459 hx rfl rfl ⟨by show d + 1 ≤ 9; omega, by show 8 + (_ + 11) + 32 * d ≤ 288; omega⟩ ⟨Nat.le_of_eq (Nat.zero_add _), Nat.le_of_eq (Nat.zero_add _)⟩ rfl (Nat.le_of_ble_eq_true rfl) dL_arrive_5 ?_
  refine zg_catch F [⟨0, 10, 13, 13⟩] ⟨0, 10, 17, 15⟩ [] (htab.trans rfl) (by
      intro z hz
      simp only [List.mem_cons, List.mem_nil_iff, or_false] at hz
      subst hz
      exact ⟨by decide, "java/lang/IndexOutOfBoundsException", zk_136, by decide⟩) (by decide) (by decide) zk_137 (by decide) (tgt := 17) rfl (fun q => ?_)
  refine zg_astore F (by rw [hn]; decide) (L' := [(4, _), (0, _), (1, _), (2, _), (3, _)]) rfl dL_arrive_17 ?_
  refine zg_iconst F (v := nI 2) (by decide) dL_arrive_19 ?_
  exact zg_iret F E (Nat.le_of_eq (Nat.zero_add _)) (Nat.le_of_eq (Nat.zero_add _)) (fun _ _ h => h) dL_arrive_20
set_option maxRecDepth 100000 in
theorem zL_receipt (l : Launch) (D : va_G) (A : Nat → ClassId) (base : Nat) (d mc ms : Nat) (hd : d ≤ 8) (P P' : zg_P) (x : Nat) (p0 p1 : Int32) (fs : List Value) (hx : ∀ w z, P w z → w x = some (.inr (5, fs))) (oa : Nat) (r : Int32) (fo : Nat → Int64) (P'' : zg_P) (ho : ∀ w z, P' w z → w oa = some (.inl (A 2, 1, .inr (.inl fo)))) (hP : ∀ w z, P' w z → P'' (zg_u w oa (.inl (A 2, 1, .inr (.inl (vp_updL fo 0 (r.toInt64)))))) z) (hM : zg_Met l zm_X_receipt zc_X_receipt 5 (some .int) d mc ms D A base [.ref x, .int p0, .int p1] P (some (.int r)) P') : zg_MetW l zm_L_receipt zc_L_receipt 5 (some .int) [(0, 10, 13, 13), (0, 10, 17, 15)] 9 mc ms D A base [.ref x, .int p0, .int p1, .ref oa] P (some (.int (nI 0))) P'' := by
  refine zg_metW (by decide) (Nat.le_of_ble_eq_true rfl) ?_
  intro K hl0 hD0 hA0 hz0 hn htab F E
  subst hl0 hD0 hA0 hz0
  show zg_G K P 0 0 0 [(0, .ref x), (1, .int p0), (2, .int p1), (3, .ref oa)] []
  refine zg_aload_n F 3 rfl rfl dL_receipt_0 ?_
  refine zg_iconst F (v := nI 0) (by decide) dL_receipt_1 ?_
  refine zg_aload_n F 0 rfl rfl dL_receipt_2 ?_
  refine zg_iload_n F 1 rfl rfl dL_receipt_3 ?_
  refine zg_iload_n F 2 rfl rfl dL_receipt_4 ?_
  refine zg_callV F hM zv_X_receipt zu_X_receipt zk_471 hx rfl rfl ⟨by show d + 1 ≤ 9; omega, by show 8 + (_ + 11) + 32 * d ≤ 288; omega⟩ ⟨Nat.le_of_eq (Nat.zero_add _), Nat.le_of_eq (Nat.zero_add _)⟩ rfl (Nat.le_of_ble_eq_true rfl) dL_receipt_5 ?_
  refine zg_i2l F rfl dL_receipt_8 ?_
  refine zg_last F ho (by decide) (by decide) hP dL_receipt_9 ?_
  refine zg_goto F (tgt := 21) dL_receipt_10 (by decide) ?_
  refine zg_iconst F (v := nI 0) (by decide) dL_receipt_21 ?_
  exact zg_iret F E (Nat.le_of_eq (Nat.zero_add _)) (Nat.le_of_eq (Nat.zero_add _)) (fun _ _ h => h) dL_receipt_22
set_option maxRecDepth 100000 in
theorem zL_receipt_x1 (l : Launch) (D : va_G) (A : Nat → ClassId) (base : Nat) (d mc ms : Nat) (hd : d ≤ 8) (P P' : zg_P) (x : Nat) (p0 p1 : Int32) (fs : List Value) (hx : ∀ w z, P w z → w x = some (.inr (5, fs))) (oa : Nat) (hM : zg_XMet l zm_X_receipt zc_X_receipt 5 (some .int) d mc ms D A base [.ref x, .int p0, .int p1] P "java/lang/IndexOutOfBoundsException" P') : zg_MetW l zm_L_receipt zc_L_receipt 5 (some .int) [(0, 10, 13, 13), (0, 10, 17, 15)] 9 mc ms D A base [.ref x, .int p0, .int p1, .ref oa] P (some (.int (nI 1))) (zg_ge P') := by
  refine zg_metW (by decide) (Nat.le_of_ble_eq_true rfl) ?_
  intro K hl0 hD0 hA0 hz0 hn htab F E
  subst hl0 hD0 hA0 hz0
  show zg_G K P 0 0 0 [(0, .ref x), (1, .int p0), (2, .int p1), (3, .ref oa)] []
  refine zg_aload_n F 3 rfl rfl dL_receipt_0 ?_
  refine zg_iconst F (v := nI 0) (by decide) dL_receipt_1 ?_
  refine zg_aload_n F 0 rfl rfl dL_receipt_2 ?_
  refine zg_iload_n F 1 rfl rfl dL_receipt_3 ?_
  refine zg_iload_n F 2 rfl rfl dL_receipt_4 ?_
  refine zg_xcallV F hM zv_X_receipt zu_X_receipt zk_471 hx rfl rfl ⟨by show d + 1 ≤ 9; omega, by show 8 + (_ + 11) + 32 * d ≤ 288; omega⟩ ⟨Nat.le_of_eq (Nat.zero_add _), Nat.le_of_eq (Nat.zero_add _)⟩ rfl (Nat.le_of_ble_eq_true rfl) dL_receipt_5 ?_
  refine zg_catch F [] ⟨0, 10, 13, 13⟩ [⟨0, 10, 17, 15⟩] (htab.trans rfl) (fun z hz => absurd hz List.not_mem_nil) (by decide) (by decide) zk_136 (by decide) (tgt := 13) rfl (fun q => ?_)
  refine zg_astore F (by rw [hn]; decide) (L' := [(4, _), (0, _), (1, _), (2, _), (3, _)]) rfl dL_receipt_13 ?_
  refine zg_iconst F (v := nI 1) (by decide) dL_receipt_15 ?_
  exact zg_iret F E (Nat.le_of_eq (Nat.zero_add _)) (Nat.le_of_eq (Nat.zero_add _)) (fun _ _ h => h) dL_receipt_16
set_option maxRecDepth 100000 in
theorem zL_receipt_x2 (l : Launch) (D : va_G) (A : Nat → ClassId) (base : Nat) (d mc ms : Nat) (hd : d ≤ 8) (P P' : zg_P) (x : Nat) (p0 p1 : Int32) (fs : List Value) (hx : ∀ w z, P w z → w x = some (.inr (5, fs))) (oa : Nat) (hM : zg_XMet l zm_X_receipt zc_X_receipt 5 (some .int) d mc ms D A base [.ref x, .int p0, .int p1] P "java/lang/IllegalArgumentException" P') : zg_MetW l zm_L_receipt zc_L_receipt 5 (some .int) [(0, 10, 13, 13), (0, 10, 17, 15)] 9 mc ms D A base [.ref x, .int p0, .int p1, .ref oa] P (some (.int (nI 2))) (zg_ge P') := by
  refine zg_metW (by decide) (Nat.le_of_ble_eq_true rfl) ?_
  intro K hl0 hD0 hA0 hz0 hn htab F E
  subst hl0 hD0 hA0 hz0
  show zg_G K P 0 0 0 [(0, .ref x), (1, .int p0), (2, .int p1), (3, .ref oa)] []
  refine zg_aload_n F 3 rfl rfl dL_receipt_0 ?_
  refine zg_iconst F (v := nI 0) (by decide) dL_receipt_1 ?_
  refine zg_aload_n F 0 rfl rfl dL_receipt_2 ?_
  refine zg_iload_n F 1 rfl rfl dL_receipt_3 ?_
  refine zg_iload_n F 2 rfl rfl dL_receipt_4 ?_
  refine zg_xcallV F hM zv_X_receipt zu_X_receipt zk_471 hx rfl rfl ⟨by show d + 1 ≤ 9; omega, by show 8 + (_ + 11) + 32 * d ≤ 288; omega⟩ ⟨Nat.le_of_eq (Nat.zero_add _), Nat.le_of_eq (Nat.zero_add _)⟩ rfl (Nat.le_of_ble_eq_true rfl) dL_receipt_5 ?_
  refine zg_catch F [⟨0, 10, 13, 13⟩] ⟨0, 10, 17, 15⟩ [] (htab.trans rfl) (by
      intro z hz
      simp only [List.mem_cons, List.mem_nil_iff, or_false] at hz
      subst hz
      exact ⟨by decide, "java/lang/IndexOutOfBoundsException", zk_136, by decide⟩) (by decide) (by decide) zk_137 (by decide) (tgt := 17) rfl (fun q => ?_)
  refine zg_astore F (by rw [hn]; decide) (L' := [(4, _), (0, _), (1, _), (2, _), (3, _)]) rfl dL_receipt_17 ?_
  refine zg_iconst F (v := nI 2) (by decide) dL_receipt_19 ?_
  exact zg_iret F E (Nat.le_of_eq (Nat.zero_add _)) (Nat.le_of_eq (Nat.zero_add _)) (fun _ _ h => h) dL_receipt_20
set_option maxRecDepth 100000 in
theorem zL_lose (l : Launch) (D : va_G) (A : Nat → ClassId) (base : Nat) (d mc ms : Nat) (hd : d ≤ 8) (P P' : zg_P) (x : Nat) (p0 p1 : Int32) (fs : List Value) (hx : ∀ w z, P w z → w x = some (.inr (5, fs))) (oa : Nat) (r : Int32) (fo : Nat → Int64) (P'' : zg_P) (ho : ∀ w z, P' w z → w oa = some (.inl (A 2, 1, .inr (.inl fo)))) (hP : ∀ w z, P' w z → P'' (zg_u w oa (.inl (A 2, 1, .inr (.inl (vp_updL fo 0 (r.toInt64)))))) z) (hM : zg_Met l zm_X_lose zc_X_lose 3 (some .int) d mc ms D A base [.ref x, .int p0, .int p1] P (some (.int r)) P') : zg_MetW l zm_L_lose zc_L_lose 5 (some .int) [(0, 10, 13, 13), (0, 10, 17, 15)] 9 mc ms D A base [.ref x, .int p0, .int p1, .ref oa] P (some (.int (nI 0))) P'' := by
  refine zg_metW (by decide) (Nat.le_of_ble_eq_true rfl) ?_
  intro K hl0 hD0 hA0 hz0 hn htab F E
  subst hl0 hD0 hA0 hz0
  show zg_G K P 0 0 0 [(0, .ref x), (1, .int p0), (2, .int p1), (3, .ref oa)] []
  refine zg_aload_n F 3 rfl rfl dL_lose_0 ?_
  refine zg_iconst F (v := nI 0) (by decide) dL_lose_1 ?_
  refine zg_aload_n F 0 rfl rfl dL_lose_2 ?_
  refine zg_iload_n F 1 rfl rfl dL_lose_3 ?_
  refine zg_iload_n F 2 rfl rfl dL_lose_4 ?_
  refine zg_callV F hM zv_X_lose zu_X_lose zk_482 hx rfl rfl ⟨by show d + 1 ≤ 9; omega, by show 8 + (_ + 11) + 32 * d ≤ 288; omega⟩ ⟨Nat.le_of_eq (Nat.zero_add _), Nat.le_of_eq (Nat.zero_add _)⟩ rfl (Nat.le_of_ble_eq_true rfl) dL_lose_5 ?_
  refine zg_i2l F rfl dL_lose_8 ?_
  refine zg_last F ho (by decide) (by decide) hP dL_lose_9 ?_
  refine zg_goto F (tgt := 21) dL_lose_10 (by decide) ?_
  refine zg_iconst F (v := nI 0) (by decide) dL_lose_21 ?_
  exact zg_iret F E (Nat.le_of_eq (Nat.zero_add _)) (Nat.le_of_eq (Nat.zero_add _)) (fun _ _ h => h) dL_lose_22
set_option maxRecDepth 100000 in
theorem zL_lose_x1 (l : Launch) (D : va_G) (A : Nat → ClassId) (base : Nat) (d mc ms : Nat) (hd : d ≤ 8) (P P' : zg_P) (x : Nat) (p0 p1 : Int32) (fs : List Value) (hx : ∀ w z, P w z → w x = some (.inr (5, fs))) (oa : Nat) (hM : zg_XMet l zm_X_lose zc_X_lose 3 (some .int) d mc ms D A base [.ref x, .int p0, .int p1] P "java/lang/IndexOutOfBoundsException" P') : zg_MetW l zm_L_lose zc_L_lose 5 (some .int) [(0, 10, 13, 13), (0, 10, 17, 15)] 9 mc ms D A base [.ref x, .int p0, .int p1, .ref oa] P (some (.int (nI 1))) (zg_ge P') := by
  refine zg_metW (by decide) (Nat.le_of_ble_eq_true rfl) ?_
  intro K hl0 hD0 hA0 hz0 hn htab F E
  subst hl0 hD0 hA0 hz0
  show zg_G K P 0 0 0 [(0, .ref x), (1, .int p0), (2, .int p1), (3, .ref oa)] []
  refine zg_aload_n F 3 rfl rfl dL_lose_0 ?_
  refine zg_iconst F (v := nI 0) (by decide) dL_lose_1 ?_
  refine zg_aload_n F 0 rfl rfl dL_lose_2 ?_
  refine zg_iload_n F 1 rfl rfl dL_lose_3 ?_
  refine zg_iload_n F 2 rfl rfl dL_lose_4 ?_
  refine zg_xcallV F hM zv_X_lose zu_X_lose zk_482 hx rfl rfl ⟨by show d + 1 ≤ 9; omega, by show 8 + (_ + 11) + 32 * d ≤ 288; omega⟩ ⟨Nat.le_of_eq (Nat.zero_add _), Nat.le_of_eq (Nat.zero_add _)⟩ rfl (Nat.le_of_ble_eq_true rfl) dL_lose_5 ?_
  refine zg_catch F [] ⟨0, 10, 13, 13⟩ [⟨0, 10, 17, 15⟩] (htab.trans rfl) (fun z hz => absurd hz List.not_mem_nil) (by decide) (by decide) zk_136 (by decide) (tgt := 13) rfl (fun q => ?_)
  refine zg_astore F (by rw [hn]; decide) (L' := [(4, _), (0, _), (1, _), (2, _), (3, _)]) rfl dL_lose_13 ?_
  refine zg_iconst F (v := nI 1) (by decide) dL_lose_15 ?_
  exact zg_iret F E (Nat.le_of_eq (Nat.zero_add _)) (Nat.le_of_eq (Nat.zero_add _)) (fun _ _ h => h) dL_lose_16
set_option maxRecDepth 100000 in
theorem zL_lose_x2 (l : Launch) (D : va_G) (A : Nat → ClassId) (base : Nat) (d mc ms : Nat) (hd : d ≤ 8) (P P' : zg_P) (x : Nat) (p0 p1 : Int32) (fs : List Value) (hx : ∀ w z, P w z → w x = some (.inr (5, fs))) (oa : Nat) (hM : zg_XMet l zm_X_lose zc_X_lose 3 (some .int) d mc ms D A base [.ref x, .int p0, .int p1] P "java/lang/IllegalArgumentException" P') : zg_MetW l zm_L_lose zc_L_lose 5 (some .int) [(0, 10, 13, 13), (0, 10, 17, 15)] 9 mc ms D A base [.ref x, .int p0, .int p1, .ref oa] P (some (.int (nI 2))) (zg_ge P') := by
  refine zg_metW (by decide) (Nat.le_of_ble_eq_true rfl) ?_
  intro K hl0 hD0 hA0 hz0 hn htab F E
  subst hl0 hD0 hA0 hz0
  show zg_G K P 0 0 0 [(0, .ref x), (1, .int p0), (2, .int p1), (3, .ref oa)] []
  refine zg_aload_n F 3 rfl rfl dL_lose_0 ?_
  refine zg_iconst F (v := nI 0) (by decide) dL_lose_1 ?_
  refine zg_aload_n F 0 rfl rfl dL_lose_2 ?_
  refine zg_iload_n F 1 rfl rfl dL_lose_3 ?_
  refine zg_iload_n F 2 rfl rfl dL_lose_4 ?_
  refine zg_xcallV F hM zv_X_lose zu_X_lose zk_482 hx rfl rfl ⟨by show d + 1 ≤ 9; omega, by show 8 + (_ + 11) + 32 * d ≤ 288; omega⟩ ⟨Nat.le_of_eq (Nat.zero_add _), Nat.le_of_eq (Nat.zero_add _)⟩ rfl (Nat.le_of_ble_eq_true rfl) dL_lose_5 ?_
  refine zg_catch F [⟨0, 10, 13, 13⟩] ⟨0, 10, 17, 15⟩ [] (htab.trans rfl) (by
      intro z hz
      simp only [List.mem_cons, List.mem_nil_iff, or_false] at hz
      subst hz
      exact ⟨by decide, "java/lang/IndexOutOfBoundsException", zk_136, by decide⟩) (by decide) (by decide) zk_137 (by decide) (tgt := 17) rfl (fun q => ?_)
  refine zg_astore F (by rw [hn]; decide) (L' := [(4, _), (0, _), (1, _), (2, _), (3, _)]) rfl dL_lose_17 ?_
  refine zg_iconst F (v := nI 2) (by decide) dL_lose_19 ?_
  exact zg_iret F E (Nat.le_of_eq (Nat.zero_add _)) (Nat.le_of_eq (Nat.zero_add _)) (fun _ _ h => h) dL_lose_20
set_option maxRecDepth 100000 in
theorem zL_crash (l : Launch) (D : va_G) (A : Nat → ClassId) (base : Nat) (d mc ms : Nat) (hd : d ≤ 8) (P P' : zg_P) (x : Nat) (p0 : Int32) (fs : List Value) (hx : ∀ w z, P w z → w x = some (.inr (5, fs))) (oa : Nat) (r : Int32) (fo : Nat → Int64) (P'' : zg_P) (ho : ∀ w z, P' w z → w oa = some (.inl (A 2, 1, .inr (.inl fo)))) (hP : ∀ w z, P' w z → P'' (zg_u w oa (.inl (A 2, 1, .inr (.inl (vp_updL fo 0 (r.toInt64)))))) z) (hM : zg_Met l zm_X_crash zc_X_crash 4 (some .int) d mc ms D A base [.ref x, .int p0] P (some (.int r)) P') : zg_MetW l zm_L_crash zc_L_crash 4 (some .int) [(0, 9, 12, 13)] 9 mc ms D A base [.ref x, .int p0, .ref oa] P (some (.int (nI 0))) P'' := by
  refine zg_metW (by decide) (Nat.le_of_ble_eq_true rfl) ?_
  intro K hl0 hD0 hA0 hz0 hn htab F E
  subst hl0 hD0 hA0 hz0
  show zg_G K P 0 0 0 [(0, .ref x), (1, .int p0), (2, .ref oa)] []
  refine zg_aload_n F 2 rfl rfl dL_crash_0 ?_
  refine zg_iconst F (v := nI 0) (by decide) dL_crash_1 ?_
  refine zg_aload_n F 0 rfl rfl dL_crash_2 ?_
  refine zg_iload_n F 1 rfl rfl dL_crash_3 ?_
  refine zg_callV F hM zv_X_crash zu_X_crash zk_493 hx rfl rfl ⟨by show d + 1 ≤ 9; omega, by show 8 + (_ + 11) + 32 * d ≤ 288; omega⟩ ⟨Nat.le_of_eq (Nat.zero_add _), Nat.le_of_eq (Nat.zero_add _)⟩ rfl (Nat.le_of_ble_eq_true rfl) dL_crash_4 ?_
  refine zg_i2l F rfl dL_crash_7 ?_
  refine zg_last F ho (by decide) (by decide) hP dL_crash_8 ?_
  refine zg_goto F (tgt := 15) dL_crash_9 (by decide) ?_
  refine zg_iconst F (v := nI 0) (by decide) dL_crash_15 ?_
  exact zg_iret F E (Nat.le_of_eq (Nat.zero_add _)) (Nat.le_of_eq (Nat.zero_add _)) (fun _ _ h => h) dL_crash_16
set_option maxRecDepth 100000 in
theorem zL_crash_x1 (l : Launch) (D : va_G) (A : Nat → ClassId) (base : Nat) (d mc ms : Nat) (hd : d ≤ 8) (P P' : zg_P) (x : Nat) (p0 : Int32) (fs : List Value) (hx : ∀ w z, P w z → w x = some (.inr (5, fs))) (oa : Nat) (hM : zg_XMet l zm_X_crash zc_X_crash 4 (some .int) d mc ms D A base [.ref x, .int p0] P "java/lang/IndexOutOfBoundsException" P') : zg_MetW l zm_L_crash zc_L_crash 4 (some .int) [(0, 9, 12, 13)] 9 mc ms D A base [.ref x, .int p0, .ref oa] P (some (.int (nI 1))) (zg_ge P') := by
  refine zg_metW (by decide) (Nat.le_of_ble_eq_true rfl) ?_
  intro K hl0 hD0 hA0 hz0 hn htab F E
  subst hl0 hD0 hA0 hz0
  show zg_G K P 0 0 0 [(0, .ref x), (1, .int p0), (2, .ref oa)] []
  refine zg_aload_n F 2 rfl rfl dL_crash_0 ?_
  refine zg_iconst F (v := nI 0) (by decide) dL_crash_1 ?_
  refine zg_aload_n F 0 rfl rfl dL_crash_2 ?_
  refine zg_iload_n F 1 rfl rfl dL_crash_3 ?_
  refine zg_xcallV F hM zv_X_crash zu_X_crash zk_493 hx rfl rfl ⟨by show d + 1 ≤ 9; omega, by show 8 + (_ + 11) + 32 * d ≤ 288; omega⟩ ⟨Nat.le_of_eq (Nat.zero_add _), Nat.le_of_eq (Nat.zero_add _)⟩ rfl (Nat.le_of_ble_eq_true rfl) dL_crash_4 ?_
  refine zg_catch F [] ⟨0, 9, 12, 13⟩ [] (htab.trans rfl) (fun z hz => absurd hz List.not_mem_nil) (by decide) (by decide) zk_136 (by decide) (tgt := 12) rfl (fun q => ?_)
  refine zg_astore_n F rfl (by rw [hn]; decide) (L' := [(3, _), (0, _), (1, _), (2, _)]) rfl dL_crash_12 ?_
  refine zg_iconst F (v := nI 1) (by decide) dL_crash_13 ?_
  exact zg_iret F E (Nat.le_of_eq (Nat.zero_add _)) (Nat.le_of_eq (Nat.zero_add _)) (fun _ _ h => h) dL_crash_14
set_option maxRecDepth 100000 in
theorem zL_rights (l : Launch) (D : va_G) (A : Nat → ClassId) (base : Nat) (d mc ms : Nat) (hd : d ≤ 8) (P P' : zg_P) (x : Nat) (p0 p1 p2 : Int32) (fs : List Value) (hx : ∀ w z, P w z → w x = some (.inr (5, fs))) (oa : Nat) (r : Int32) (fo : Nat → Int64) (P'' : zg_P) (ho : ∀ w z, P' w z → w oa = some (.inl (A 2, 1, .inr (.inl fo)))) (hP : ∀ w z, P' w z → P'' (zg_u w oa (.inl (A 2, 1, .inr (.inl (vp_updL fo 0 (r.toInt64)))))) z) (hM : zg_Met l zm_X_rights zc_X_rights 4 (some .int) d mc ms D A base [.ref x, .int p0, .int p1, .int p2] P (some (.int r)) P') : zg_MetW l zm_L_rights zc_L_rights 6 (some .int) [(0, 12, 15, 13)] 9 mc ms D A base [.ref x, .int p0, .int p1, .int p2, .ref oa] P (some (.int (nI 0))) P'' := by
  refine zg_metW (by decide) (Nat.le_of_ble_eq_true rfl) ?_
  intro K hl0 hD0 hA0 hz0 hn htab F E
  subst hl0 hD0 hA0 hz0
  show zg_G K P 0 0 0 [(0, .ref x), (1, .int p0), (2, .int p1), (3, .int p2), (4, .ref oa)] []
  refine zg_aload F 4 rfl dL_rights_0 ?_
  refine zg_iconst F (v := nI 0) (by decide) dL_rights_2 ?_
  refine zg_aload_n F 0 rfl rfl dL_rights_3 ?_
  refine zg_iload_n F 1 rfl rfl dL_rights_4 ?_
  refine zg_iload_n F 2 rfl rfl dL_rights_5 ?_
  refine zg_iload_n F 3 rfl rfl dL_rights_6 ?_
  refine zg_callV F hM zv_X_rights zu_X_rights zk_500 hx rfl rfl ⟨by show d + 1 ≤ 9; omega, by show 8 + (_ + 11) + 32 * d ≤ 288; omega⟩ ⟨Nat.le_of_eq (Nat.zero_add _), Nat.le_of_eq (Nat.zero_add _)⟩ rfl (Nat.le_of_ble_eq_true rfl) dL_rights_7 ?_
  refine zg_i2l F rfl dL_rights_10 ?_
  refine zg_last F ho (by decide) (by decide) hP dL_rights_11 ?_
  refine zg_goto F (tgt := 19) dL_rights_12 (by decide) ?_
  refine zg_iconst F (v := nI 0) (by decide) dL_rights_19 ?_
  exact zg_iret F E (Nat.le_of_eq (Nat.zero_add _)) (Nat.le_of_eq (Nat.zero_add _)) (fun _ _ h => h) dL_rights_20
set_option maxRecDepth 100000 in
theorem zL_rights_x1 (l : Launch) (D : va_G) (A : Nat → ClassId) (base : Nat) (d mc ms : Nat) (hd : d ≤ 8) (P P' : zg_P) (x : Nat) (p0 p1 p2 : Int32) (fs : List Value) (hx : ∀ w z, P w z → w x = some (.inr (5, fs))) (oa : Nat) (hM : zg_XMet l zm_X_rights zc_X_rights 4 (some .int) d mc ms D A base [.ref x, .int p0, .int p1, .int p2] P "java/lang/IndexOutOfBoundsException" P') : zg_MetW l zm_L_rights zc_L_rights 6 (some .int) [(0, 12, 15, 13)] 9 mc ms D A base [.ref x, .int p0, .int p1, .int p2, .ref oa] P (some (.int (nI 1))) (zg_ge P') := by
  refine zg_metW (by decide) (Nat.le_of_ble_eq_true rfl) ?_
  intro K hl0 hD0 hA0 hz0 hn htab F E
  subst hl0 hD0 hA0 hz0
  show zg_G K P 0 0 0 [(0, .ref x), (1, .int p0), (2, .int p1), (3, .int p2), (4, .ref oa)] []
  refine zg_aload F 4 rfl dL_rights_0 ?_
  refine zg_iconst F (v := nI 0) (by decide) dL_rights_2 ?_
  refine zg_aload_n F 0 rfl rfl dL_rights_3 ?_
  refine zg_iload_n F 1 rfl rfl dL_rights_4 ?_
  refine zg_iload_n F 2 rfl rfl dL_rights_5 ?_
  refine zg_iload_n F 3 rfl rfl dL_rights_6 ?_
  refine zg_xcallV F hM zv_X_rights zu_X_rights zk_500 hx rfl rfl ⟨by show d + 1 ≤ 9; omega, by show 8 + (_ + 11) + 32 * d ≤ 288; omega⟩ ⟨Nat.le_of_eq (Nat.zero_add _), Nat.le_of_eq (Nat.zero_add _)⟩ rfl (Nat.le_of_ble_eq_true rfl) dL_rights_7 ?_
  refine zg_catch F [] ⟨0, 12, 15, 13⟩ [] (htab.trans rfl) (fun z hz => absurd hz List.not_mem_nil) (by decide) (by decide) zk_136 (by decide) (tgt := 15) rfl (fun q => ?_)
  refine zg_astore F (by rw [hn]; decide) (L' := [(5, _), (0, _), (1, _), (2, _), (3, _), (4, _)]) rfl dL_rights_15 ?_
  refine zg_iconst F (v := nI 1) (by decide) dL_rights_17 ?_
  exact zg_iret F E (Nat.le_of_eq (Nat.zero_add _)) (Nat.le_of_eq (Nat.zero_add _)) (fun _ _ h => h) dL_rights_18
set_option maxRecDepth 100000 in
theorem zL_air (l : Launch) (D : va_G) (A : Nat → ClassId) (base : Nat) (d mc ms : Nat) (hd : d ≤ 8) (P P' : zg_P) (x : Nat) (p0 p1 : Int32) (fs : List Value) (hx : ∀ w z, P w z → w x = some (.inr (5, fs))) (oa : Nat) (r : Int32) (fo : Nat → Int64) (P'' : zg_P) (ho : ∀ w z, P' w z → w oa = some (.inl (A 2, 1, .inr (.inl fo)))) (hP : ∀ w z, P' w z → P'' (zg_u w oa (.inl (A 2, 1, .inr (.inl (vp_updL fo 0 (r.toInt64)))))) z) (hM : zg_Met l zm_X_air zc_X_air 3 (some .int) d mc ms D A base [.ref x, .int p0, .int p1] P (some (.int r)) P') : zg_MetW l zm_L_air zc_L_air 5 (some .int) [(0, 10, 13, 13)] 9 mc ms D A base [.ref x, .int p0, .int p1, .ref oa] P (some (.int (nI 0))) P'' := by
  refine zg_metW (by decide) (Nat.le_of_ble_eq_true rfl) ?_
  intro K hl0 hD0 hA0 hz0 hn htab F E
  subst hl0 hD0 hA0 hz0
  show zg_G K P 0 0 0 [(0, .ref x), (1, .int p0), (2, .int p1), (3, .ref oa)] []
  refine zg_aload_n F 3 rfl rfl dL_air_0 ?_
  refine zg_iconst F (v := nI 0) (by decide) dL_air_1 ?_
  refine zg_aload_n F 0 rfl rfl dL_air_2 ?_
  refine zg_iload_n F 1 rfl rfl dL_air_3 ?_
  refine zg_iload_n F 2 rfl rfl dL_air_4 ?_
  refine zg_callV F hM zv_X_air zu_X_air zk_507 hx rfl rfl ⟨by show d + 1 ≤ 9; omega, by show 8 + (_ + 11) + 32 * d ≤ 288; omega⟩ ⟨Nat.le_of_eq (Nat.zero_add _), Nat.le_of_eq (Nat.zero_add _)⟩ rfl (Nat.le_of_ble_eq_true rfl) dL_air_5 ?_
  refine zg_i2l F rfl dL_air_8 ?_
  refine zg_last F ho (by decide) (by decide) hP dL_air_9 ?_
  refine zg_goto F (tgt := 17) dL_air_10 (by decide) ?_
  refine zg_iconst F (v := nI 0) (by decide) dL_air_17 ?_
  exact zg_iret F E (Nat.le_of_eq (Nat.zero_add _)) (Nat.le_of_eq (Nat.zero_add _)) (fun _ _ h => h) dL_air_18
set_option maxRecDepth 100000 in
theorem zL_air_x1 (l : Launch) (D : va_G) (A : Nat → ClassId) (base : Nat) (d mc ms : Nat) (hd : d ≤ 8) (P P' : zg_P) (x : Nat) (p0 p1 : Int32) (fs : List Value) (hx : ∀ w z, P w z → w x = some (.inr (5, fs))) (oa : Nat) (hM : zg_XMet l zm_X_air zc_X_air 3 (some .int) d mc ms D A base [.ref x, .int p0, .int p1] P "java/lang/IndexOutOfBoundsException" P') : zg_MetW l zm_L_air zc_L_air 5 (some .int) [(0, 10, 13, 13)] 9 mc ms D A base [.ref x, .int p0, .int p1, .ref oa] P (some (.int (nI 1))) (zg_ge P') := by
  refine zg_metW (by decide) (Nat.le_of_ble_eq_true rfl) ?_
  intro K hl0 hD0 hA0 hz0 hn htab F E
  subst hl0 hD0 hA0 hz0
  show zg_G K P 0 0 0 [(0, .ref x), (1, .int p0), (2, .int p1), (3, .ref oa)] []
  refine zg_aload_n F 3 rfl rfl dL_air_0 ?_
  refine zg_iconst F (v := nI 0) (by decide) dL_air_1 ?_
  refine zg_aload_n F 0 rfl rfl dL_air_2 ?_
  refine zg_iload_n F 1 rfl rfl dL_air_3 ?_
  refine zg_iload_n F 2 rfl rfl dL_air_4 ?_
  refine zg_xcallV F hM zv_X_air zu_X_air zk_507 hx rfl rfl ⟨by show d + 1 ≤ 9; omega, by show 8 + (_ + 11) + 32 * d ≤ 288; omega⟩ ⟨Nat.le_of_eq (Nat.zero_add _), Nat.le_of_eq (Nat.zero_add _)⟩ rfl (Nat.le_of_ble_eq_true rfl) dL_air_5 ?_
  refine zg_catch F [] ⟨0, 10, 13, 13⟩ [] (htab.trans rfl) (fun z hz => absurd hz List.not_mem_nil) (by decide) (by decide) zk_136 (by decide) (tgt := 13) rfl (fun q => ?_)
  refine zg_astore F (by rw [hn]; decide) (L' := [(4, _), (0, _), (1, _), (2, _), (3, _)]) rfl dL_air_13 ?_
  refine zg_iconst F (v := nI 1) (by decide) dL_air_15 ?_
  exact zg_iret F E (Nat.le_of_eq (Nat.zero_add _)) (Nat.le_of_eq (Nat.zero_add _)) (fun _ _ h => h) dL_air_16
set_option maxRecDepth 100000 in
theorem zL_sold (l : Launch) (D : va_G) (A : Nat → ClassId) (base : Nat) (d mc ms : Nat) (hd : d ≤ 8) (P P' : zg_P) (x : Nat) (p0 p1 : Int32) (fs : List Value) (hx : ∀ w z, P w z → w x = some (.inr (5, fs))) (oa : Nat) (r : Int32) (fo : Nat → Int64) (P'' : zg_P) (ho : ∀ w z, P' w z → w oa = some (.inl (A 2, 1, .inr (.inl fo)))) (hP : ∀ w z, P' w z → P'' (zg_u w oa (.inl (A 2, 1, .inr (.inl (vp_updL fo 0 (r.toInt64)))))) z) (hM : zg_Met l zm_X_sold zc_X_sold 3 (some .int) d mc ms D A base [.ref x, .int p0, .int p1] P (some (.int r)) P') : zg_MetW l zm_L_sold zc_L_sold 5 (some .int) [(0, 10, 13, 13)] 9 mc ms D A base [.ref x, .int p0, .int p1, .ref oa] P (some (.int (nI 0))) P'' := by
  refine zg_metW (by decide) (Nat.le_of_ble_eq_true rfl) ?_
  intro K hl0 hD0 hA0 hz0 hn htab F E
  subst hl0 hD0 hA0 hz0
  show zg_G K P 0 0 0 [(0, .ref x), (1, .int p0), (2, .int p1), (3, .ref oa)] []
  refine zg_aload_n F 3 rfl rfl dL_sold_0 ?_
  refine zg_iconst F (v := nI 0) (by decide) dL_sold_1 ?_
  refine zg_aload_n F 0 rfl rfl dL_sold_2 ?_
  refine zg_iload_n F 1 rfl rfl dL_sold_3 ?_
  refine zg_iload_n F 2 rfl rfl dL_sold_4 ?_
  refine zg_callV F hM zv_X_sold zu_X_sold zk_514 hx rfl rfl ⟨by show d + 1 ≤ 9; omega, by show 8 + (_ + 11) + 32 * d ≤ 288; omega⟩ ⟨Nat.le_of_eq (Nat.zero_add _), Nat.le_of_eq (Nat.zero_add _)⟩ rfl (Nat.le_of_ble_eq_true rfl) dL_sold_5 ?_
  refine zg_i2l F rfl dL_sold_8 ?_
  refine zg_last F ho (by decide) (by decide) hP dL_sold_9 ?_
  refine zg_goto F (tgt := 17) dL_sold_10 (by decide) ?_
  refine zg_iconst F (v := nI 0) (by decide) dL_sold_17 ?_
  exact zg_iret F E (Nat.le_of_eq (Nat.zero_add _)) (Nat.le_of_eq (Nat.zero_add _)) (fun _ _ h => h) dL_sold_18
set_option maxRecDepth 100000 in
theorem zL_sold_x1 (l : Launch) (D : va_G) (A : Nat → ClassId) (base : Nat) (d mc ms : Nat) (hd : d ≤ 8) (P P' : zg_P) (x : Nat) (p0 p1 : Int32) (fs : List Value) (hx : ∀ w z, P w z → w x = some (.inr (5, fs))) (oa : Nat) (hM : zg_XMet l zm_X_sold zc_X_sold 3 (some .int) d mc ms D A base [.ref x, .int p0, .int p1] P "java/lang/IndexOutOfBoundsException" P') : zg_MetW l zm_L_sold zc_L_sold 5 (some .int) [(0, 10, 13, 13)] 9 mc ms D A base [.ref x, .int p0, .int p1, .ref oa] P (some (.int (nI 1))) (zg_ge P') := by
  refine zg_metW (by decide) (Nat.le_of_ble_eq_true rfl) ?_
  intro K hl0 hD0 hA0 hz0 hn htab F E
  subst hl0 hD0 hA0 hz0
  show zg_G K P 0 0 0 [(0, .ref x), (1, .int p0), (2, .int p1), (3, .ref oa)] []
  refine zg_aload_n F 3 rfl rfl dL_sold_0 ?_
  refine zg_iconst F (v := nI 0) (by decide) dL_sold_1 ?_
  refine zg_aload_n F 0 rfl rfl dL_sold_2 ?_
  refine zg_iload_n F 1 rfl rfl dL_sold_3 ?_
  refine zg_iload_n F 2 rfl rfl dL_sold_4 ?_
  refine zg_xcallV F hM zv_X_sold zu_X_sold zk_514 hx rfl rfl ⟨by show d + 1 ≤ 9; omega, by show 8 + (_ + 11) + 32 * d ≤ 288; omega⟩ ⟨Nat.le_of_eq (Nat.zero_add _), Nat.le_of_eq (Nat.zero_add _)⟩ rfl (Nat.le_of_ble_eq_true rfl) dL_sold_5 ?_
  refine zg_catch F [] ⟨0, 10, 13, 13⟩ [] (htab.trans rfl) (fun z hz => absurd hz List.not_mem_nil) (by decide) (by decide) zk_136 (by decide) (tgt := 13) rfl (fun q => ?_)
  refine zg_astore F (by rw [hn]; decide) (L' := [(4, _), (0, _), (1, _), (2, _), (3, _)]) rfl dL_sold_13 ?_
  refine zg_iconst F (v := nI 1) (by decide) dL_sold_15 ?_
  exact zg_iret F E (Nat.le_of_eq (Nat.zero_add _)) (Nat.le_of_eq (Nat.zero_add _)) (fun _ _ h => h) dL_sold_16
set_option maxRecDepth 100000 in
theorem zL_wishes (l : Launch) (D : va_G) (A : Nat → ClassId) (base : Nat) (d mc ms : Nat) (hd : d ≤ 8) (P P' : zg_P) (x : Nat) (p0 : Int32) (fs : List Value) (hx : ∀ w z, P w z → w x = some (.inr (5, fs))) (oa : Nat) (r : Int32) (fo : Nat → Int64) (P'' : zg_P) (ho : ∀ w z, P' w z → w oa = some (.inl (A 2, 1, .inr (.inl fo)))) (hP : ∀ w z, P' w z → P'' (zg_u w oa (.inl (A 2, 1, .inr (.inl (vp_updL fo 0 (r.toInt64)))))) z) (hM : zg_Met l zm_X_wishes zc_X_wishes 2 (some .int) d mc ms D A base [.ref x, .int p0] P (some (.int r)) P') : zg_MetW l zm_L_wishes zc_L_wishes 4 (some .int) [(0, 9, 12, 13)] 9 mc ms D A base [.ref x, .int p0, .ref oa] P (some (.int (nI 0))) P'' := by
  refine zg_metW (by decide) (Nat.le_of_ble_eq_true rfl) ?_
  intro K hl0 hD0 hA0 hz0 hn htab F E
  subst hl0 hD0 hA0 hz0
  show zg_G K P 0 0 0 [(0, .ref x), (1, .int p0), (2, .ref oa)] []
  refine zg_aload_n F 2 rfl rfl dL_wishes_0 ?_
  refine zg_iconst F (v := nI 0) (by decide) dL_wishes_1 ?_
  refine zg_aload_n F 0 rfl rfl dL_wishes_2 ?_
  refine zg_iload_n F 1 rfl rfl dL_wishes_3 ?_
  refine zg_callV F hM zv_X_wishes zu_X_wishes zk_521 hx rfl rfl ⟨by show d + 1 ≤ 9; omega, by show 8 + (_ + 11) + 32 * d ≤ 288; omega⟩ ⟨Nat.le_of_eq (Nat.zero_add _), Nat.le_of_eq (Nat.zero_add _)⟩ rfl (Nat.le_of_ble_eq_true rfl) dL_wishes_4 ?_
  refine zg_i2l F rfl dL_wishes_7 ?_
  refine zg_last F ho (by decide) (by decide) hP dL_wishes_8 ?_
  refine zg_goto F (tgt := 15) dL_wishes_9 (by decide) ?_
  refine zg_iconst F (v := nI 0) (by decide) dL_wishes_15 ?_
  exact zg_iret F E (Nat.le_of_eq (Nat.zero_add _)) (Nat.le_of_eq (Nat.zero_add _)) (fun _ _ h => h) dL_wishes_16
set_option maxRecDepth 100000 in
theorem zL_wishes_x1 (l : Launch) (D : va_G) (A : Nat → ClassId) (base : Nat) (d mc ms : Nat) (hd : d ≤ 8) (P P' : zg_P) (x : Nat) (p0 : Int32) (fs : List Value) (hx : ∀ w z, P w z → w x = some (.inr (5, fs))) (oa : Nat) (hM : zg_XMet l zm_X_wishes zc_X_wishes 2 (some .int) d mc ms D A base [.ref x, .int p0] P "java/lang/IndexOutOfBoundsException" P') : zg_MetW l zm_L_wishes zc_L_wishes 4 (some .int) [(0, 9, 12, 13)] 9 mc ms D A base [.ref x, .int p0, .ref oa] P (some (.int (nI 1))) (zg_ge P') := by
  refine zg_metW (by decide) (Nat.le_of_ble_eq_true rfl) ?_
  intro K hl0 hD0 hA0 hz0 hn htab F E
  subst hl0 hD0 hA0 hz0
  show zg_G K P 0 0 0 [(0, .ref x), (1, .int p0), (2, .ref oa)] []
  refine zg_aload_n F 2 rfl rfl dL_wishes_0 ?_
  refine zg_iconst F (v := nI 0) (by decide) dL_wishes_1 ?_
  refine zg_aload_n F 0 rfl rfl dL_wishes_2 ?_
  refine zg_iload_n F 1 rfl rfl dL_wishes_3 ?_
  refine zg_xcallV F hM zv_X_wishes zu_X_wishes zk_521 hx rfl rfl ⟨by show d + 1 ≤ 9; omega, by show 8 + (_ + 11) + 32 * d ≤ 288; omega⟩ ⟨Nat.le_of_eq (Nat.zero_add _), Nat.le_of_eq (Nat.zero_add _)⟩ rfl (Nat.le_of_ble_eq_true rfl) dL_wishes_4 ?_
  refine zg_catch F [] ⟨0, 9, 12, 13⟩ [] (htab.trans rfl) (fun z hz => absurd hz List.not_mem_nil) (by decide) (by decide) zk_136 (by decide) (tgt := 12) rfl (fun q => ?_)
  refine zg_astore_n F rfl (by rw [hn]; decide) (L' := [(3, _), (0, _), (1, _), (2, _)]) rfl dL_wishes_12 ?_
  refine zg_iconst F (v := nI 1) (by decide) dL_wishes_13 ?_
  exact zg_iret F E (Nat.le_of_eq (Nat.zero_add _)) (Nat.le_of_eq (Nat.zero_add _)) (fun _ _ h => h) dL_wishes_14
set_option maxRecDepth 100000 in
theorem zL_till (l : Launch) (D : va_G) (A : Nat → ClassId) (base : Nat) (d mc ms : Nat) (hd : d ≤ 8) (P P' : zg_P) (x : Nat) (p0 : Int32) (fs : List Value) (hx : ∀ w z, P w z → w x = some (.inr (5, fs))) (oa : Nat) (r : Int64) (fo : Nat → Int64) (P'' : zg_P) (ho : ∀ w z, P' w z → w oa = some (.inl (A 2, 1, .inr (.inl fo)))) (hP : ∀ w z, P' w z → P'' (zg_u w oa (.inl (A 2, 1, .inr (.inl (vp_updL fo 0 (r)))))) z) (hM : zg_Met l zm_X_till zc_X_till 2 (some .long) d mc ms D A base [.ref x, .int p0] P (some (.long r)) P') : zg_MetW l zm_L_till zc_L_till 4 (some .int) [(0, 8, 11, 13)] 9 mc ms D A base [.ref x, .int p0, .ref oa] P (some (.int (nI 0))) P'' := by
  refine zg_metW (by decide) (Nat.le_of_ble_eq_true rfl) ?_
  intro K hl0 hD0 hA0 hz0 hn htab F E
  subst hl0 hD0 hA0 hz0
  show zg_G K P 0 0 0 [(0, .ref x), (1, .int p0), (2, .ref oa)] []
  refine zg_aload_n F 2 rfl rfl dL_till_0 ?_
  refine zg_iconst F (v := nI 0) (by decide) dL_till_1 ?_
  refine zg_aload_n F 0 rfl rfl dL_till_2 ?_
  refine zg_iload_n F 1 rfl rfl dL_till_3 ?_
  refine zg_callV F hM zv_X_till zu_X_till zk_528 hx rfl rfl ⟨by show d + 1 ≤ 9; omega, by show 8 + (_ + 11) + 32 * d ≤ 288; omega⟩ ⟨Nat.le_of_eq (Nat.zero_add _), Nat.le_of_eq (Nat.zero_add _)⟩ rfl (Nat.le_of_ble_eq_true rfl) dL_till_4 ?_
  refine zg_last F ho (by decide) (by decide) hP dL_till_7 ?_
  refine zg_goto F (tgt := 14) dL_till_8 (by decide) ?_
  refine zg_iconst F (v := nI 0) (by decide) dL_till_14 ?_
  exact zg_iret F E (Nat.le_of_eq (Nat.zero_add _)) (Nat.le_of_eq (Nat.zero_add _)) (fun _ _ h => h) dL_till_15
set_option maxRecDepth 100000 in
theorem zL_till_x1 (l : Launch) (D : va_G) (A : Nat → ClassId) (base : Nat) (d mc ms : Nat) (hd : d ≤ 8) (P P' : zg_P) (x : Nat) (p0 : Int32) (fs : List Value) (hx : ∀ w z, P w z → w x = some (.inr (5, fs))) (oa : Nat) (hM : zg_XMet l zm_X_till zc_X_till 2 (some .long) d mc ms D A base [.ref x, .int p0] P "java/lang/IndexOutOfBoundsException" P') : zg_MetW l zm_L_till zc_L_till 4 (some .int) [(0, 8, 11, 13)] 9 mc ms D A base [.ref x, .int p0, .ref oa] P (some (.int (nI 1))) (zg_ge P') := by
  refine zg_metW (by decide) (Nat.le_of_ble_eq_true rfl) ?_
  intro K hl0 hD0 hA0 hz0 hn htab F E
  subst hl0 hD0 hA0 hz0
  show zg_G K P 0 0 0 [(0, .ref x), (1, .int p0), (2, .ref oa)] []
  refine zg_aload_n F 2 rfl rfl dL_till_0 ?_
  refine zg_iconst F (v := nI 0) (by decide) dL_till_1 ?_
  refine zg_aload_n F 0 rfl rfl dL_till_2 ?_
  refine zg_iload_n F 1 rfl rfl dL_till_3 ?_
  refine zg_xcallV F hM zv_X_till zu_X_till zk_528 hx rfl rfl ⟨by show d + 1 ≤ 9; omega, by show 8 + (_ + 11) + 32 * d ≤ 288; omega⟩ ⟨Nat.le_of_eq (Nat.zero_add _), Nat.le_of_eq (Nat.zero_add _)⟩ rfl (Nat.le_of_ble_eq_true rfl) dL_till_4 ?_
  refine zg_catch F [] ⟨0, 8, 11, 13⟩ [] (htab.trans rfl) (fun z hz => absurd hz List.not_mem_nil) (by decide) (by decide) zk_136 (by decide) (tgt := 11) rfl (fun q => ?_)
  refine zg_astore_n F rfl (by rw [hn]; decide) (L' := [(3, _), (0, _), (1, _), (2, _)]) rfl dL_till_11 ?_
  refine zg_iconst F (v := nI 1) (by decide) dL_till_12 ?_
  exact zg_iret F E (Nat.le_of_eq (Nat.zero_add _)) (Nat.le_of_eq (Nat.zero_add _)) (fun _ _ h => h) dL_till_13
