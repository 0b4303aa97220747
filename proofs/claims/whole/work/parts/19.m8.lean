/-! the reference's constructor -/
theorem zo_code : Cond.code Lib.objectInit ⟨#[0xb1]⟩ 1 none ∈ zw_A := zk_22
theorem zo_inst : Cond.instanceMethod Lib.objectInit ∈ zw_A := zk_21
theorem zg_oinit {K : zg_K} {P : zg_P} {cells slots pc idx a : Nat} {L : List (Nat × Value)} {rest : List Value} {cc : ByteArray} {own : String} {rm : Room} (F : zg_F K cc own rm) (hl : Cond.methodLink own idx Lib.objectInit ∈ zw_A) (hR : 1 ≤ rm.frames ∧ (rest.map fun v => v.category).sum + 12 ≤ rm.locals) (d : decode cc pc = .ok (.invokespecial idx, 3)) (k : zg_G K P cells slots (pc + 3) L rest) : zg_G K P cells slots pc L (.ref a :: rest) := fun w H locs ls h1 h2 h3 h4 =>
  W.objInit F.1 F.2.1 F.2.2.2.1 (F.2.2.2.2.1 _ hl) (F.2.2.2.2.1 _ zo_inst) (F.2.2.2.2.1 _ zo_code) (g := F0 (zk_m K) pc ls (.ref a :: rest)) rfl (by rw [F.2.2.1]; exact h4.1) rfl d (by rw [zf_R F]; exact hR.1) (by rw [zf_R F]; show 2 * 0 + _ + 12 ≤ _; have := hR.2; omega) (k w H locs ls h1 h2 h3 h4)
def zm_0 : zm_S := (fun _ _ => 0, fun _ _ => 0)
def zm_ini : Nat → zm_S
  | 0 => zm_0
  | i + 1 => zm_set (zm_ini i) 19 i (-1)
def zm_r (mo j k : Nat) : Value := if k < j then .ref (mo + 1 + k) else .null
def zm_fi (mo j : Nat) : List Value := [.int 0, zm_r mo j 0, zm_r mo j 1, zm_r mo j 2, zm_r mo j 3, zm_r mo j 4, zm_r mo j 5, .int 0, .int 0, zm_r mo j 6, zm_r mo j 7, zm_r mo j 8, zm_r mo j 9, zm_r mo j 10, zm_r mo j 11, zm_r mo j 12, zm_r mo j 13, zm_r mo j 14, zm_r mo j 15, zm_r mo j 16, zm_r mo j 17, zm_r mo j 18, zm_r mo j 19, zm_r mo j 20, zm_r mo j 21, zm_r mo j 22, zm_r mo j 23, zm_r mo j 24]
def zm_ap (k : Nat) : Nat := if k < 6 then k + 1 else k + 3
def zm_I (A : Nat → ClassId) (mo : Nat) (w0 : zg_w) (j i : Nat) : zg_P := fun w z => z = mo + 1 + j ∧ w mo = some (.inr (6, zm_fi mo i)) ∧ (∀ k, k < j → w (mo + 1 + k) = some (zm_cell A zm_0 k)) ∧ ∀ q, (q < mo ∨ mo + 1 + j ≤ q) → w q = w0 q
theorem zm_I.new {A : Nat → ClassId} {mo : Nat} {w0 : zg_w} {j i : Nat} {e : va_E} (he : e = zm_cell A zm_0 j) (w : zg_w) (h : zm_I A mo w0 j i w (mo + 1 + j)) : zm_I A mo w0 (j + 1) i (zg_u w (mo + 1 + j) e) (mo + 1 + j + 1) := by
  obtain ⟨hz, h1, h2, h3⟩ := h
  refine ⟨rfl, ?_, fun k hk => ?_, fun q hq => ?_⟩
  · rw [zg_un (by omega)]; exact h1
  · by_cases hkj : k = j
    · subst hkj
      rw [zg_us, he]
    · rw [zg_un (by omega)]; exact h2 k (by omega)
  · rw [zg_un (by omega)]; exact h3 q (by omega)
theorem zm_I.put {A : Nat → ClassId} {mo : Nat} {w0 : zg_w} {j i i' : Nat} {fs : List Value} (hf : fs = zm_fi mo i') (w : zg_w) (z : Nat) (h : zm_I A mo w0 j i w z) : zm_I A mo w0 j i' (zg_u w mo (.inr (6, fs))) z := by
  obtain ⟨hz, h1, h2, h3⟩ := h
  refine ⟨hz, by rw [zg_us, hf], fun k hk => ?_, fun q hq => ?_⟩
  · rw [zg_un (by omega)]; exact h2 k hk
  · rw [zg_un (by omega)]; exact h3 q hq
theorem zm_I.fin {A : Nat → ClassId} {mo : Nat} {w0 : zg_w} (w : zg_w) (z : Nat) (h : zm_I A mo w0 25 25 w z) : zm_P A mo w0 (mo + 26) zm_0 w z := by
  obtain ⟨hz, h1, h2, h3⟩ := h
  exact ⟨hz, ⟨h1, h2⟩, fun q hq => h3 q (by omega)⟩
set_option maxRecDepth 100000 in
set_option maxHeartbeats 4000000 in
theorem zM_init (l : Launch) (D : va_G) (A : Nat → ClassId) (base : Nat) (mo : Nat) (w0 : zg_w) : zg_Met l zm_M_init zc_M_init 2 none 1 25 2296 D A base [.ref mo] (zm_I A mo w0 0 0) none (zm_P A mo w0 (mo + 26) (zm_ini 16)) := by
  refine zg_met (by decide) (Nat.le_of_ble_eq_true rfl) ?_
  intro K hl hD hA hz hn hnm F E
  subst hl hD hA hz
  show zg_G K (zm_I (zk_A K) mo w0 0 0) 0 0 0 [(0, .ref mo)] []
  refine zg_aload_n F 0 rfl rfl dM_init_0 ?_
  refine zg_oinit F zk_537 ⟨by decide, by decide⟩ dM_init_1 ?_
  refine zg_aload_n F 0 rfl rfl dM_init_4 ?_
  refine zg_iconst F (v := nI 4) (by decide) dM_init_5 ?_
  refine zg_newZ F (P' := zm_I (zk_A K) mo w0 1 0) zk_45 (by decide) (by decide) (by decide) (fun _ _ h => h.1) (fun w h _ => zm_I.new rfl w h) dM_init_6 ?_
  refine zg_putF F (P' := zm_I (zk_A K) mo w0 1 1) hnm (fun _ _ h => h.2.1) rfl zi_M zy_M zt_M zn_M 1 (by decide) rfl rfl zk_539 rfl rfl rfl rfl (Nat.le_of_ble_eq_true rfl) (fun w z h => zm_I.put rfl w z h) dM_init_8 ?_
  refine zg_aload_n F 0 rfl rfl dM_init_11 ?_
  refine zg_bipush F (v := nI 16) (by decide) dM_init_12 ?_
  refine zg_newI F (P' := zm_I (zk_A K) mo w0 2 1) zk_46 (by decide) (by decide) (by decide) (fun _ _ h => h.1) (fun w h _ => zm_I.new rfl w h) dM_init_14 ?_
  refine zg_putF F (P' := zm_I (zk_A K) mo w0 2 2) hnm (fun _ _ h => h.2.1) rfl zi_M zy_M zt_M zn_M 2 (by decide) rfl rfl zk_540 rfl rfl rfl rfl (Nat.le_of_ble_eq_true rfl) (fun w z h => zm_I.put rfl w z h) dM_init_16 ?_
  refine zg_aload_n F 0 rfl rfl dM_init_19 ?_
  refine zg_bipush F (v := nI 64) (by decide) dM_init_20 ?_
  refine zg_newI F (P' := zm_I (zk_A K) mo w0 3 2) zk_46 (by decide) (by decide) (by decide) (fun _ _ h => h.1) (fun w h _ => zm_I.new rfl w h) dM_init_22 ?_
  refine zg_putF F (P' := zm_I (zk_A K) mo w0 3 3) hnm (fun _ _ h => h.2.1) rfl zi_M zy_M zt_M zn_M 3 (by decide) rfl rfl zk_541 rfl rfl rfl rfl (Nat.le_of_ble_eq_true rfl) (fun w z h => zm_I.put rfl w z h) dM_init_24 ?_
  refine zg_aload_n F 0 rfl rfl dM_init_27 ?_
  refine zg_sipush F (v := nI 420) (by decide) dM_init_28 ?_
  refine zg_newI F (P' := zm_I (zk_A K) mo w0 4 3) zk_46 (by decide) (by decide) (by decide) (fun _ _ h => h.1) (fun w h _ => zm_I.new rfl w h) dM_init_31 ?_
  refine zg_putF F (P' := zm_I (zk_A K) mo w0 4 4) hnm (fun _ _ h => h.2.1) rfl zi_M zy_M zt_M zn_M 4 (by decide) rfl rfl zk_542 rfl rfl rfl rfl (Nat.le_of_ble_eq_true rfl) (fun w z h => zm_I.put rfl w z h) dM_init_33 ?_
  refine zg_aload_n F 0 rfl rfl dM_init_36 ?_
  refine zg_sipush F (v := nI 420) (by decide) dM_init_37 ?_
  refine zg_newI F (P' := zm_I (zk_A K) mo w0 5 4) zk_46 (by decide) (by decide) (by decide) (fun _ _ h => h.1) (fun w h _ => zm_I.new rfl w h) dM_init_40 ?_
  refine zg_putF F (P' := zm_I (zk_A K) mo w0 5 5) hnm (fun _ _ h => h.2.1) rfl zi_M zy_M zt_M zn_M 5 (by decide) rfl rfl zk_543 rfl rfl rfl rfl (Nat.le_of_ble_eq_true rfl) (fun w z h => zm_I.put rfl w z h) dM_init_42 ?_
  refine zg_aload_n F 0 rfl rfl dM_init_45 ?_
  refine zg_sipush F (v := nI 420) (by decide) dM_init_46 ?_
  refine zg_newI F (P' := zm_I (zk_A K) mo w0 6 5) zk_46 (by decide) (by decide) (by decide) (fun _ _ h => h.1) (fun w h _ => zm_I.new rfl w h) dM_init_49 ?_
  refine zg_putF F (P' := zm_I (zk_A K) mo w0 6 6) hnm (fun _ _ h => h.2.1) rfl zi_M zy_M zt_M zn_M 6 (by decide) rfl rfl zk_544 rfl rfl rfl rfl (Nat.le_of_ble_eq_true rfl) (fun w z h => zm_I.put rfl w z h) dM_init_51 ?_
  refine zg_aload_n F 0 rfl rfl dM_init_54 ?_
  refine zg_bipush F (v := nI 80) (by decide) dM_init_55 ?_
  refine zg_newI F (P' := zm_I (zk_A K) mo w0 7 6) zk_46 (by decide) (by decide) (by decide) (fun _ _ h => h.1) (fun w h _ => zm_I.new rfl w h) dM_init_57 ?_
  refine zg_putF F (P' := zm_I (zk_A K) mo w0 7 7) hnm (fun _ _ h => h.2.1) rfl zi_M zy_M zt_M zn_M 9 (by decide) rfl rfl zk_547 rfl rfl rfl rfl (Nat.le_of_ble_eq_true rfl) (fun w z h => zm_I.put rfl w z h) dM_init_59 ?_
  refine zg_aload_n F 0 rfl rfl dM_init_62 ?_
  refine zg_bipush F (v := nI 80) (by decide) dM_init_63 ?_
  refine zg_newI F (P' := zm_I (zk_A K) mo w0 8 7) zk_46 (by decide) (by decide) (by decide) (fun _ _ h => h.1) (fun w h _ => zm_I.new rfl w h) dM_init_65 ?_
  refine zg_putF F (P' := zm_I (zk_A K) mo w0 8 8) hnm (fun _ _ h => h.2.1) rfl zi_M zy_M zt_M zn_M 10 (by decide) rfl rfl zk_548 rfl rfl rfl rfl (Nat.le_of_ble_eq_true rfl) (fun w z h => zm_I.put rfl w z h) dM_init_67 ?_
  refine zg_aload_n F 0 rfl rfl dM_init_70 ?_
  refine zg_bipush F (v := nI 80) (by decide) dM_init_71 ?_
  refine zg_newI F (P' := zm_I (zk_A K) mo w0 9 8) zk_46 (by decide) (by decide) (by decide) (fun _ _ h => h.1) (fun w h _ => zm_I.new rfl w h) dM_init_73 ?_
  refine zg_putF F (P' := zm_I (zk_A K) mo w0 9 9) hnm (fun _ _ h => h.2.1) rfl zi_M zy_M zt_M zn_M 11 (by decide) rfl rfl zk_549 rfl rfl rfl rfl (Nat.le_of_ble_eq_true rfl) (fun w z h => zm_I.put rfl w z h) dM_init_75 ?_
  refine zg_aload_n F 0 rfl rfl dM_init_78 ?_
  refine zg_bipush F (v := nI 80) (by decide) dM_init_79 ?_
  refine zg_newL F (P' := zm_I (zk_A K) mo w0 10 9) zk_623 (by decide) (by decide) (by decide) (fun _ _ h => h.1) (fun w h _ => zm_I.new rfl w h) dM_init_81 ?_
  refine zg_putF F (P' := zm_I (zk_A K) mo w0 10 10) hnm (fun _ _ h => h.2.1) rfl zi_M zy_M zt_M zn_M 12 (by decide) rfl rfl zk_550 rfl rfl rfl rfl (Nat.le_of_ble_eq_true rfl) (fun w z h => zm_I.put rfl w z h) dM_init_83 ?_
  refine zg_aload_n F 0 rfl rfl dM_init_86 ?_
  refine zg_bipush F (v := nI 80) (by decide) dM_init_87 ?_
  refine zg_newZ F (P' := zm_I (zk_A K) mo w0 11 10) zk_45 (by decide) (by decide) (by decide) (fun _ _ h => h.1) (fun w h _ => zm_I.new rfl w h) dM_init_89 ?_
  refine zg_putF F (P' := zm_I (zk_A K) mo w0 11 11) hnm (fun _ _ h => h.2.1) rfl zi_M zy_M zt_M zn_M 13 (by decide) rfl rfl zk_551 rfl rfl rfl rfl (Nat.le_of_ble_eq_true rfl) (fun w z h => zm_I.put rfl w z h) dM_init_91 ?_
  refine zg_aload_n F 0 rfl rfl dM_init_94 ?_
  refine zg_iconst F (v := nI 4) (by decide) dM_init_95 ?_
  refine zg_newL F (P' := zm_I (zk_A K) mo w0 12 11) zk_623 (by decide) (by decide) (by decide) (fun _ _ h => h.1) (fun w h _ => zm_I.new rfl w h) dM_init_96 ?_
  refine zg_putF F (P' := zm_I (zk_A K) mo w0 12 12) hnm (fun _ _ h => h.2.1) rfl zi_M zy_M zt_M zn_M 14 (by decide) rfl rfl zk_552 rfl rfl rfl rfl (Nat.le_of_ble_eq_true rfl) (fun w z h => zm_I.put rfl w z h) dM_init_98 ?_
  refine zg_aload_n F 0 rfl rfl dM_init_101 ?_
  refine zg_iconst F (v := nI 4) (by decide) dM_init_102 ?_
  refine zg_newI F (P' := zm_I (zk_A K) mo w0 13 12) zk_46 (by decide) (by decide) (by decide) (fun _ _ h => h.1) (fun w h _ => zm_I.new rfl w h) dM_init_103 ?_
  refine zg_putF F (P' := zm_I (zk_A K) mo w0 13 13) hnm (fun _ _ h => h.2.1) rfl zi_M zy_M zt_M zn_M 15 (by decide) rfl rfl zk_553 rfl rfl rfl rfl (Nat.le_of_ble_eq_true rfl) (fun w z h => zm_I.put rfl w z h) dM_init_105 ?_
  refine zg_aload_n F 0 rfl rfl dM_init_108 ?_
  refine zg_bipush F (v := nI 24) (by decide) dM_init_109 ?_
  refine zg_newI F (P' := zm_I (zk_A K) mo w0 14 13) zk_46 (by decide) (by decide) (by decide) (fun _ _ h => h.1) (fun w h _ => zm_I.new rfl w h) dM_init_111 ?_
  refine zg_putF F (P' := zm_I (zk_A K) mo w0 14 14) hnm (fun _ _ h => h.2.1) rfl zi_M zy_M zt_M zn_M 16 (by decide) rfl rfl zk_554 rfl rfl rfl rfl (Nat.le_of_ble_eq_true rfl) (fun w z h => zm_I.put rfl w z h) dM_init_113 ?_
  refine zg_aload_n F 0 rfl rfl dM_init_116 ?_
  refine zg_bipush F (v := nI 24) (by decide) dM_init_117 ?_
  refine zg_newI F (P' := zm_I (zk_A K) mo w0 15 14) zk_46 (by decide) (by decide) (by decide) (fun _ _ h => h.1) (fun w h _ => zm_I.new rfl w h) dM_init_119 ?_
  refine zg_putF F (P' := zm_I (zk_A K) mo w0 15 15) hnm (fun _ _ h => h.2.1) rfl zi_M zy_M zt_M zn_M 17 (by decide) rfl rfl zk_555 rfl rfl rfl rfl (Nat.le_of_ble_eq_true rfl) (fun w z h => zm_I.put rfl w z h) dM_init_121 ?_
  refine zg_aload_n F 0 rfl rfl dM_init_124 ?_
  refine zg_bipush F (v := nI 16) (by decide) dM_init_125 ?_
  refine zg_newI F (P' := zm_I (zk_A K) mo w0 16 15) zk_46 (by decide) (by decide) (by decide) (fun _ _ h => h.1) (fun w h _ => zm_I.new rfl w h) dM_init_127 ?_
  refine zg_putF F (P' := zm_I (zk_A K) mo w0 16 16) hnm (fun _ _ h => h.2.1) rfl zi_M zy_M zt_M zn_M 18 (by decide) rfl rfl zk_556 rfl rfl rfl rfl (Nat.le_of_ble_eq_true rfl) (fun w z h => zm_I.put rfl w z h) dM_init_129 ?_
  refine zg_aload_n F 0 rfl rfl dM_init_132 ?_
  refine zg_bipush F (v := nI 16) (by decide) dM_init_133 ?_
  refine zg_newI F (P' := zm_I (zk_A K) mo w0 17 16) zk_46 (by decide) (by decide) (by decide) (fun _ _ h => h.1) (fun w h _ => zm_I.new rfl w h) dM_init_135 ?_
  refine zg_putF F (P' := zm_I (zk_A K) mo w0 17 17) hnm (fun _ _ h => h.2.1) rfl zi_M zy_M zt_M zn_M 19 (by decide) rfl rfl zk_557 rfl rfl rfl rfl (Nat.le_of_ble_eq_true rfl) (fun w z h => zm_I.put rfl w z h) dM_init_137 ?_
  refine zg_aload_n F 0 rfl rfl dM_init_140 ?_
  refine zg_bipush F (v := nI 16) (by decide) dM_init_141 ?_
  refine zg_newI F (P' := zm_I (zk_A K) mo w0 18 17) zk_46 (by decide) (by decide) (by decide) (fun _ _ h => h.1) (fun w h _ => zm_I.new rfl w h) dM_init_143 ?_
  refine zg_putF F (P' := zm_I (zk_A K) mo w0 18 18) hnm (fun _ _ h => h.2.1) rfl zi_M zy_M zt_M zn_M 20 (by decide) rfl rfl zk_558 rfl rfl rfl rfl (Nat.le_of_ble_eq_true rfl) (fun w z h => zm_I.put rfl w z h) dM_init_145 ?_
  refine zg_aload_n F 0 rfl rfl dM_init_148 ?_
  refine zg_bipush F (v := nI 16) (by decide) dM_init_149 ?_
  refine zg_newI F (P' := zm_I (zk_A K) mo w0 19 18) zk_46 (by decide) (by decide) (by decide) (fun _ _ h => h.1) (fun w h _ => zm_I.new rfl w h) dM_init_151 ?_
  refine zg_putF F (P' := zm_I (zk_A K) mo w0 19 19) hnm (fun _ _ h => h.2.1) rfl zi_M zy_M zt_M zn_M 21 (by decide) rfl rfl zk_559 rfl rfl rfl rfl (Nat.le_of_ble_eq_true rfl) (fun w z h => zm_I.put rfl w z h) dM_init_153 ?_
  refine zg_aload_n F 0 rfl rfl dM_init_156 ?_
  refine zg_bipush F (v := nI 16) (by decide) dM_init_157 ?_
  refine zg_newI F (P' := zm_I (zk_A K) mo w0 20 19) zk_46 (by decide) (by decide) (by decide) (fun _ _ h => h.1) (fun w h _ => zm_I.new rfl w h) dM_init_159 ?_
  refine zg_putF F (P' := zm_I (zk_A K) mo w0 20 20) hnm (fun _ _ h => h.2.1) rfl zi_M zy_M zt_M zn_M 22 (by decide) rfl rfl zk_560 rfl rfl rfl rfl (Nat.le_of_ble_eq_true rfl) (fun w z h => zm_I.put rfl w z h) dM_init_161 ?_
  refine zg_aload_n F 0 rfl rfl dM_init_164 ?_
  refine zg_sipush F (v := nI 128) (by decide) dM_init_165 ?_
  refine zg_newI F (P' := zm_I (zk_A K) mo w0 21 20) zk_46 (by decide) (by decide) (by decide) (fun _ _ h => h.1) (fun w h _ => zm_I.new rfl w h) dM_init_168 ?_
  refine zg_putF F (P' := zm_I (zk_A K) mo w0 21 21) hnm (fun _ _ h => h.2.1) rfl zi_M zy_M zt_M zn_M 23 (by decide) rfl rfl zk_561 rfl rfl rfl rfl (Nat.le_of_ble_eq_true rfl) (fun w z h => zm_I.put rfl w z h) dM_init_170 ?_
  refine zg_aload_n F 0 rfl rfl dM_init_173 ?_
  refine zg_sipush F (v := nI 128) (by decide) dM_init_174 ?_
  refine zg_newI F (P' := zm_I (zk_A K) mo w0 22 21) zk_46 (by decide) (by decide) (by decide) (fun _ _ h => h.1) (fun w h _ => zm_I.new rfl w h) dM_init_177 ?_
  refine zg_putF F (P' := zm_I (zk_A K) mo w0 22 22) hnm (fun _ _ h => h.2.1) rfl zi_M zy_M zt_M zn_M 24 (by decide) rfl rfl zk_562 rfl rfl rfl rfl (Nat.le_of_ble_eq_true rfl) (fun w z h => zm_I.put rfl w z h) dM_init_179 ?_
  refine zg_aload_n F 0 rfl rfl dM_init_182 ?_
  refine zg_sipush F (v := nI 128) (by decide) dM_init_183 ?_
  refine zg_newI F (P' := zm_I (zk_A K) mo w0 23 22) zk_46 (by decide) (by decide) (by decide) (fun _ _ h => h.1) (fun w h _ => zm_I.new rfl w h) dM_init_186 ?_
  refine zg_putF F (P' := zm_I (zk_A K) mo w0 23 23) hnm (fun _ _ h => h.2.1) rfl zi_M zy_M zt_M zn_M 25 (by decide) rfl rfl zk_563 rfl rfl rfl rfl (Nat.le_of_ble_eq_true rfl) (fun w z h => zm_I.put rfl w z h) dM_init_188 ?_
  refine zg_aload_n F 0 rfl rfl dM_init_191 ?_
  refine zg_bipush F (v := nI 16) (by decide) dM_init_192 ?_
  refine zg_newI F (P' := zm_I (zk_A K) mo w0 24 23) zk_46 (by decide) (by decide) (by decide) (fun _ _ h => h.1) (fun w h _ => zm_I.new rfl w h) dM_init_194 ?_
  refine zg_putF F (P' := zm_I (zk_A K) mo w0 24 24) hnm (fun _ _ h => h.2.1) rfl zi_M zy_M zt_M zn_M 26 (by decide) rfl rfl zk_564 rfl rfl rfl rfl (Nat.le_of_ble_eq_true rfl) (fun w z h => zm_I.put rfl w z h) dM_init_196 ?_
  refine zg_aload_n F 0 rfl rfl dM_init_199 ?_
  refine zg_bipush F (v := nI 16) (by decide) dM_init_200 ?_
  refine zg_newI F (P' := zm_I (zk_A K) mo w0 25 24) zk_46 (by decide) (by decide) (by decide) (fun _ _ h => h.1) (fun w h _ => zm_I.new rfl w h) dM_init_202 ?_
  refine zg_putF F (P' := zm_I (zk_A K) mo w0 25 25) hnm (fun _ _ h => h.2.1) rfl zi_M zy_M zt_M zn_M 27 (by decide) rfl rfl zk_565 rfl rfl rfl rfl (Nat.le_of_ble_eq_true rfl) (fun w z h => zm_I.put rfl w z h) dM_init_204 ?_
  refine zg_iconst F (v := nI 0) (by decide) dM_init_207 ?_
  refine zg_istore_n F rfl (by rw [hn]; decide) (L' := [(1, _), (0, _)]) rfl dM_init_208 ?_
  refine zg_mono zm_I.fin ?_
  have loop : ∀ r i, i + r = 16 → zg_G K (zm_P (zk_A K) mo w0 (mo + 26) (zm_ini i)) 25 2296 209 [(1, .int (nI i)), (0, .ref mo)] [] := by
    intro r
    induction r with
    | zero =>
      intro i hi
      obtain rfl : i = 16 := by omega
      refine zg_iload_n F 0 rfl rfl dM_init_209 ?_
      refine zg_bipush F (v := nI 16) (by decide) dM_init_210 ?_
      refine zg_icmp_geT F (tgt := 228) dM_init_212 (by decide) (nI_le (by omega) (by omega)) ?_
      exact zg_vret F E (by decide) (by decide) (fun _ _ h => h) dM_init_228
    | succ r ih =>
      intro i hi
      refine zg_iload_n F 0 rfl rfl dM_init_209 ?_
      refine zg_bipush F (v := nI 16) (by decide) dM_init_210 ?_
      refine zg_icmp_geF F dM_init_212 (tgt := 228) (by decide) (nI_ge (by omega) (by omega)) ?_
      refine zg_aload_n F 1 rfl rfl dM_init_215 ?_
      refine zg_get F (fun _ _ h => h.2.1.1) rfl zi_M 22 (by decide) rfl zk_560 rfl dM_init_216 ?_
      refine zg_iload_n F 0 rfl rfl dM_init_219 ?_
      refine zg_iconst F (v := -1) (by decide) dM_init_220 ?_
      refine zm_iast F 19 (by decide) rfl (by show _ < 16; omega) dM_init_221 ?_
      refine zg_iinc F 0 rfl (by first | exact zc_inc _ | rfl) (by rw [hn]; decide) (L' := [(1, _), (0, _)]) rfl dM_init_222 ?_
      refine zg_goto F (tgt := 209) dM_init_225 (by decide) ?_
      exact ih (i + 1) (by omega)
  exact loop 16 0 rfl
