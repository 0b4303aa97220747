/-! methods that throw -/
def zg_XQ (D : va_G) (base : Nat) (E : String) (P' : zg_P) : String → State → State → Prop := fun E' st t => E' = E ∧ (∃ w z, z ≤ t.heap.size ∧ P' w z ∧ zg_H D vwCl base w t.heap) ∧ va_F (fun q => base ≤ q) st t
def zg_XMet (l : Launch) (y : MethodName) (cc : ByteArray) (maxL : Nat) (ret : Option FieldType) (d mc ms : Nat) (D : va_G) (A : Nat → ClassId) (base : Nat) (av : List Value) (P : zg_P) (E : String) (P' : zg_P) : Prop := vx_Met l y (zw_ y cc maxL ret) (zg_rm d mc ms) (zg_Pc D A base av P) (fun _ _ _ _ => False) (zg_XQ D base E P') mc ms (fun q => base ≤ q)
def zg_EX (K : zg_K) (mc ms : Nat) (E : String) (P' : zg_P) : Prop := (zk_t K).locks = false ∧ (∀ x ∈ (zk_c K).exceptionTable.toList, False) ∧ ∀ t, vx_MQ (zk_b K) (fun _ _ _ _ => False) (zg_XQ (zk_D K) (zk_z K) E P') (zk_a K) (zk_s K) mc ms (fun q => zk_z K ≤ q) t → zk_Q K t
theorem zg_xmet {l : Launch} {y : MethodName} {d mc ms maxL base : Nat} {D : va_G} {A : Nat → ClassId} {av : List Value} {P P' : zg_P} {Ex : String} {cc : ByteArray} {ret : Option FieldType} (hy : plainName y.cls = true) (hlen : (lg_sl av).length ≤ maxL)
    (body : ∀ K : zg_K, zk_l K = l → zk_D K = D → zk_A K = A → zk_z K = base → zk_n K = maxL → (zk_t K).name = y.name → zg_F K cc y.cls (zg_rm d mc ms) → zg_EX K mc ms Ex P' → zg_G K P 0 0 0 (lv_args 0 av) []) : zg_XMet l y cc maxL ret d mc ms D A base av P Ex P' := by
  refine vx_ofW (cc := cc) (maxL := maxL) (ret := ret) hy rfl ?_
  intro p e s m args below meth c s₁ B hml htab hv
  obtain ⟨rfl, hbase, hK, hN, w, hP, hH⟩ := hv
  have hts := atoms_spec (ws := zw_ y cc maxL ret) B.pre
  have hown : s.vm.findClass y.cls = some m.cls := findClass_of_methodNamed B.named
  have hk := body (p, l, e, (headSpec (zw_ y cc maxL ret) (zg_rm d mc ms)).room, s, m, av.toArray, below, meth, c, vx_MQ below (fun _ _ _ _ => False) (zg_XQ D base Ex P') av.toArray s mc ms (fun q => base ≤ q), D, A, base, maxL) rfl rfl rfl rfl rfl (name_of_methodNamed B.named B.method).1
    ⟨B.exec, B.bytes, hml, hown, fun w hw => hts w (List.mem_cons_of_mem _ hw), hK, hN, hbase, rfl⟩ ⟨B.notSynchronized, htab, fun t h => h⟩
  rw [lg_entry_eq]
  exact hk w s.heap [] _ hP hH va_S.rf (lv_entry av hlen)
abbrev zt_names : List String := ["java/lang/RuntimeException", "java/lang/Exception"]
theorem zt_hat {K : zg_K} {cc : ByteArray} {own : String} {rm : Room} (F : zg_F K cc own rm) {L : List Cond} (h : ∀ w ∈ L, w ∈ zw_A ∨ (∃ x ∈ zn_decl, w = .declares x) ∨ ∃ q ∈ zn_cast, w = .castable q.1 q.2) : ∀ w ∈ L, w.before (zk_a K) (zk_s K) = true := by
  intro w hw
  rcases h w hw with h1 | ⟨x, h1, rfl⟩ | ⟨q, h1, rfl⟩
  · exact F.2.2.2.2.1 w h1
  · exact va_Nw.use rfl ((zf_N F).2.2.2.2.2.1 x h1)
  · exact va_Nw.use rfl ((zf_N F).2.2.2.1 q h1)
section ZGT
variable {K : zg_K} {P : zg_P} {cells slots pc : Nat} {L : List (Nat × Value)} {st : List Value} {cc : ByteArray} {own : String} {rm : Room} {mc ms : Nat} {P' : zg_P}
/-- throw new E("text") -/
theorem zg_throw (F : zg_F K cc own rm) {Ex text : String} {ik is ic : Nat} (EX : zg_EX K mc ms Ex P') (hl : (zk_l K).stackTraces = false) (hcls : Bundle.fit Ex = true) (hk : Cond.classLink own ik Ex ∈ zw_A) (hini : Cond.initialized Ex ∈ zw_A) (hstr : (own, is, text) ∈ zn_str)
    (hat : ∀ w ∈ vx_atS own ic Ex zt_names, w ∈ zw_A ∨ (∃ x ∈ zn_decl, w = .declares x) ∨ ∃ q ∈ zn_cast, w = .castable q.1 q.2) (hgood : ∀ w ∈ Cond.classLink own ik Ex :: Cond.initialized Ex :: vx_atS own ic Ex zt_names, vx_ot w = true)
    (hR : 5 < rm.frames ∧ (st.map fun v => v.category).sum + 82 ≤ rm.locals) (hrc : cells + 1 ≤ rm.cells ∧ slots + 6 ≤ rm.slots) (hc : cells + 1 ≤ mc ∧ slots + 6 ≤ ms) (hP : ∀ w z, P w z → P' w z)
    (d0 : decode cc pc = .ok (.new ik, 3)) (d3 : decode cc (pc + 3) = .ok (.dup, 1)) (d4 : decode cc (pc + 4) = .ok (.ldc is, 2)) (d6 : decode cc (pc + 6) = .ok (.invokespecial ic, 3)) (d9 : decode cc (pc + 9) = .ok (.athrow, 1)) : zg_G K P cells slots pc L st := by
  intro w H locs ls h1 h2 h3 h4
  obtain ⟨sa, hsa⟩ := (zf_N F).2.2.1 _ hstr
  refine zg_Wmono EX.2.2 (vx_throwS (names := zt_names) (A := fun q => zk_z K ≤ q) F.1 F.2.1 hl F.2.2.2.1 hcls (by decide +kernel) (F.2.2.2.2.1 _ hk) (F.2.2.2.2.1 _ hini) hsa (zt_hat F hat) hgood (zf_N F).2.2.2.2.2.2.1 (zf_N F).2.2.2.2.2.2.2 h3 (by rw [F.2.2.1]; exact h4.1) d0 d3 d4 d6 d9 (fun x hx => (EX.2.1 x hx).elim) (by rw [zf_R F]; exact hR.1) (by rw [zf_R F]; exact hR.2) (by rw [zf_R F]; exact hrc.1) (by rw [zf_R F]; exact hrc.2) EX.1 ?_ h3.2.2 hc.1 hc.2)
  intro t hA hz ho
  exact ⟨rfl, ⟨w, H.size, hz, hP w _ h1, h2.kept ho⟩, Nat.le_trans h3.1 hz, fun q g1 g2 => (ho q (Nat.lt_of_lt_of_le g1 h3.1)).trans (h3.2.1 q g1 g2)⟩
/-- the frame at pc, with an E thrown over it -/
def zg_X (K : zg_K) (P : zg_P) (cells slots pc : Nat) (L : List (Nat × Value)) (st : List Value) (Ex : String) : Prop :=
  ∀ (w : zg_w) (z : Nat) (H : Heap) (locs : List Loc) (ls : Array Slot) (q : Addr) (ce : Cell), P w z → z ≤ H.size → zg_H (zk_D K) vwCl (zk_z K) w H → va_S (fun q => zk_z K ≤ q) (zk_s K).heap H locs → lv_has ls (zk_n K) L → H[q]? = some ce → ce.vm = .none → (zk_s K).vm.findClass Ex = some ce.cls →
    vx_W (zk_p K) (zk_l K) (zk_e K) (zk_R K) (zk_s K) (zk_m K) (zk_a K) (zk_b K) (zk_t K) (zk_c K) H locs cells slots (zk_Q K) (F0 (zk_m K) pc ls st) q
theorem zg_xWmono {p : Program} {l : Launch} {e : Env} {R : Room} {s : State} {m : MethodId} {args : Array Value} {below : List Frame} {meth : Method} {c : Code} {H : Heap} {locs : List Loc} {cells slots : Nat} {Q Q' : State → Prop} {g : JFrame} {q : Addr} (h : ∀ t, Q t → Q' t) (k : vx_W p l e R s m args below meth c H locs cells slots Q g q) : vx_W p l e R s m args below meth c H locs cells slots Q' g q := fun T hT X => by
  obtain ⟨t, a, b⟩ := k T hT X
  exact ⟨t, a, h t b⟩
theorem zg_xout {Ex : String} (EX : zg_EX K mc ms Ex P') (hc : cells ≤ mc) (hs : slots ≤ ms) (hP : ∀ w z, P w z → P' w z) : zg_X K P cells slots pc L st Ex := fun w z H locs ls q ce h1 hz h2 h3 h4 g1 g2 g3 =>
  zg_xWmono EX.2.2 (vx_out (fun x hx => (EX.2.1 x hx).elim) EX.1 g1 g2 g3 (fun t ht hA => ⟨rfl, ⟨w, z, by rw [ht]; exact hz, hP w z h1, by rw [ht]; exact h2⟩, h3.F ht⟩) h3.2.2 hc hs)
theorem zg_xafter {Ex : String} {rest st0 : List Value} {a : Array Value} {H : Heap} {locs : List Loc} {ls : Array Slot} (h3 : va_S (fun q => zk_z K ≤ q) (zk_s K).heap H locs) (h4 : lv_has ls (zk_n K) L)
    (hr : vx_Run (zk_p K) (zk_l K) (zk_e K) (zk_R K) (zk_s K) (zk_m K) (zk_a K) (zk_b K) (zk_t K) (zk_c K) H locs cells slots mc ms (F0 (zk_m K) pc ls st0) rest ((fun (_ : Array Value) (_ : State) (_ : Outcome) (_ : State) => False) a) (zg_XQ (zk_D K) (zk_z K) Ex P') (fun q => zk_z K ≤ q))
    (k : zg_X K P' (cells + mc) (slots + ms) pc L rest Ex) : zg_W K H locs cells slots (F0 (zk_m K) pc ls st0) := by
  intro T hT X
  rcases hr T hT X with ⟨v, st₀, t, T', L', h0, X', hL, e1, e2, hF, sts⟩ | ⟨q, st₀, t, T', L', E', ce, h0, X', hL, e1, e2, ⟨rfl, ⟨w', z', hz', hP', hH'⟩, hz, hk⟩, hce, hcv, hcl, sts⟩
  · exact hF.elim
  · rw [h0] at hz hk
    obtain ⟨t2, a1, b1⟩ := k w' z' T'.heap (locs ++ L') ls q ce hP' (by rw [e1]; exact hz') (by rw [e1]; exact hH')
      ⟨Nat.le_trans h3.1 (by rw [e1]; exact hz), fun q g1 g2 => by rw [e1, hk q (Nat.lt_of_lt_of_le g1 h3.1) g2]; exact h3.2.1 q g1 g2, fun q hq => by
        rcases List.mem_append.mp hq with h | h
        · exact h3.2.2 q h
        · exact hL q h⟩ h4 (by rw [e1]; exact hce) hcv hcl T' rfl X'
    exact ⟨t2, sts.trans a1, b1⟩
theorem zg_xcallS (F : zg_F K cc own rm) {y : MethodName} {bytes : ByteArray} {maxL n index d : Nat} {ret : Option FieldType} {As rest : List Value} {Ex : String} (hM : zg_XMet (zk_l K) y bytes maxL ret d mc ms (zk_D K) (zk_A K) (zk_z K) As P Ex P') (hv : zg_V y bytes maxL ret n) (hi : Cond.static y ∈ zw_A) (hl : Cond.methodLink own index y ∈ zw_A) (hn : As.length = n) (hR : d + 1 ≤ rm.frames ∧ 8 + (maxL + 11) + 32 * d ≤ rm.locals) (hf : cells + mc ≤ rm.cells ∧ slots + ms ≤ rm.slots) (hst : st = As.reverse ++ rest) (hW : (rest.map fun v => v.category).sum ≤ 8) (dd : decode cc pc = .ok (.invokestatic index, 3)) (k : zg_X K P' (cells + mc) (slots + ms) pc L rest Ex) : zg_G K P cells slots pc L st := fun w H locs ls h1 h2 h3 h4 =>
  zg_xafter (a := As.toArray) h3 h4 (vx_runS (As := As) ⟨F.1, F.2.1, F.2.2.1, F.2.2.2.1, F.2.2.2.2.1⟩ hM ⟨zg_cb F hv hl hR, F.2.2.2.2.1 _ hi⟩ ⟨zg_blind, zg_pre F h1 h2 h3⟩ rfl hn h4.1 hst (by show 2 * 0 + _ ≤ 8; omega) dd (by rw [zf_R F]; exact hf)) k
theorem zg_xcallV (F : zg_F K cc own rm) {y : MethodName} {bytes : ByteArray} {maxL n index d b ci : Nat} {ret : Option FieldType} {As rest : List Value} {Ex : String} {fs : List Value} {T : u_T} {N : Nat} (hM : zg_XMet (zk_l K) y bytes maxL ret d mc ms (zk_D K) (zk_A K) (zk_z K) (.ref b :: As) P Ex P') (hv : zg_V y bytes maxL ret n) (hi : Cond.instanceMethod y ∈ zw_A ∧ Cond.selects y.cls y y ∈ zw_A) (hl : Cond.methodLink own index y ∈ zw_A) (hw : ∀ w z, P w z → w b = some (.inr (ci, fs))) (hc : vwCl[ci]? = some (y.cls, T, N)) (hn : As.length = n) (hR : d + 1 ≤ rm.frames ∧ 8 + (maxL + 11) + 32 * d ≤ rm.locals) (hf : cells + mc ≤ rm.cells ∧ slots + ms ≤ rm.slots) (hst : st = As.reverse ++ .ref b :: rest) (hW : (rest.map fun v => v.category).sum ≤ 8) (dd : decode cc pc = .ok (.invokevirtual index, 3)) (k : zg_X K P' (cells + mc) (slots + ms) pc L rest Ex) : zg_G K P cells slots pc L st := fun w H locs ls h1 h2 h3 h4 =>
  zg_xafter (a := (Value.ref b :: As).toArray) h3 h4 (vx_runV (b := b) (As := As) ⟨F.1, F.2.1, F.2.2.1, F.2.2.2.1, F.2.2.2.2.1⟩ hM ⟨zg_cb F hv hl hR, F.2.2.2.2.1 _ hi.1, F.2.2.2.2.1 _ hi.2⟩ ⟨zg_blind, zg_recv F h2 (hw w _ h1) hc, zg_pre F h1 h2 h3⟩ rfl hn h4.1 hst (by show 2 * 0 + _ ≤ 8; omega) dd (by rw [zf_R F]; exact hf)) k
end ZGT
