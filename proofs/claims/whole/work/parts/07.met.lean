def zg_rm (d mc ms : Nat) : Room := { frames := d, cells := mc, slots := ms, locals := 32 * d }
def zg_Pc (D : va_G) (A : Nat → ClassId) (base : Nat) (av : List Value) (P : zg_P) : Array Value → State → Prop := va_Pc av (fun U => base ≤ U.heap.size ∧ va_K D vwCl (zg_T A) U ∧ zg_N base U ∧ ∃ w, P w U.heap.size ∧ zg_H D vwCl base w U.heap)
def zg_Qc (D : va_G) (base : Nat) (r : Option Value) (P' : zg_P) : Array Value → State → Outcome → State → Prop := fun _ st oc t => oc = .returned r ∧ (∃ w, P' w t.heap.size ∧ zg_H D vwCl base w t.heap) ∧ va_F (fun q => base ≤ q) st t
/-- a method's contract: from a world with P, at these arguments, it returns r in a world with P' -/
def zg_Met (l : Launch) (y : MethodName) (cc : ByteArray) (maxL : Nat) (ret : Option FieldType) (d mc ms : Nat) (D : va_G) (A : Nat → ClassId) (base : Nat) (av : List Value) (P : zg_P) (r : Option Value) (P' : zg_P) : Prop := Met l y (zw_ y cc maxL ret) (zg_rm d mc ms) (zg_Pc D A base av P) (zg_Qc D base r P') mc ms (fun q => base ≤ q)
def zg_E (K : zg_K) (ret : Option FieldType) (mc ms : Nat) (r : Option Value) (P' : zg_P) : Prop := (zk_t K).sig.returnType = ret ∧ (zk_t K).locks = false ∧ ∀ t, MQ (zk_b K) (zg_Qc (zk_D K) (zk_z K) r P') (zk_a K) (zk_s K) mc ms (fun q => zk_z K ≤ q) t → zk_Q K t
theorem zg_Wmono {p : Program} {l : Launch} {e : Env} {R : Room} {s : State} {m : MethodId} {args : Array Value} {below : List Frame} {meth : Method} {c : Code} {H : Heap} {locs : List Loc} {cells slots : Nat} {Q Q' : State → Prop} {g : JFrame} (h : ∀ t, Q t → Q' t) (k : W p l e R s m args below meth c H locs cells slots Q g) : W p l e R s m args below meth c H locs cells slots Q' g := fun T hT X => by
  obtain ⟨t, a, b⟩ := k T hT X
  exact ⟨t, a, h t b⟩
theorem zg_met {l : Launch} {y : MethodName} {d mc ms maxL base : Nat} {D : va_G} {A : Nat → ClassId} {av : List Value} {P P' : zg_P} {r : Option Value} {cc : ByteArray} {ret : Option FieldType} (hy : plainName y.cls = true) (hlen : (lg_sl av).length ≤ maxL)
    (body : ∀ K : zg_K, zk_l K = l → zk_D K = D → zk_A K = A → zk_z K = base → zk_n K = maxL → (zk_t K).name = y.name → zg_F K cc y.cls (zg_rm d mc ms) → zg_E K ret mc ms r P' → zg_G K P 0 0 0 (lv_args 0 av) []) : zg_Met l y cc maxL ret d mc ms D A base av P r P' := by
  refine Met.ofW (cc := cc) (maxL := maxL) (ret := ret) hy rfl ?_
  intro p e s m args below meth c s₁ B hml hv
  obtain ⟨rfl, hbase, hK, hN, w, hP, hH⟩ := hv
  have hts := atoms_spec (ws := zw_ y cc maxL ret) B.pre
  have hown : s.vm.findClass y.cls = some m.cls := findClass_of_methodNamed B.named
  have hk := body (p, l, e, (headSpec (zw_ y cc maxL ret) (zg_rm d mc ms)).room, s, m, av.toArray, below, meth, c, MQ below (zg_Qc D base r P') av.toArray s mc ms (fun q => base ≤ q), D, A, base, maxL) rfl rfl rfl rfl rfl (name_of_methodNamed B.named B.method).1
    ⟨B.exec, B.bytes, hml, hown, fun w hw => hts w (List.mem_cons_of_mem _ hw), hK, hN, hbase, rfl⟩ ⟨B.returns, B.notSynchronized, fun t h => h⟩
  rw [lg_entry_eq]
  exact hk w s.heap [] _ hP hH va_S.rf (lv_entry av hlen)
section ZGR
variable {K : zg_K} {P : zg_P} {cells slots pc : Nat} {L : List (Nat × Value)} {st : List Value} {cc : ByteArray} {own : String} {rm : Room} {mc ms : Nat} {P' : zg_P}
theorem zg_iret (F : zg_F K cc own rm) {v : Int32} (E : zg_E K (some .int) mc ms (some (.int v)) P') (hc : cells ≤ mc) (hs : slots ≤ ms) (hP : ∀ w z, P w z → P' w z) (d : decode cc pc = .ok (.ireturn, 1)) : zg_G K P cells slots pc L [.int v] := fun w H locs ls h1 h2 h3 _ =>
  zg_Wmono E.2.2 (W.widen hc hs (W.iret F.1 F.2.1 E.1 (fun t ht _ => ⟨rfl, ⟨w, by rw [ht]; exact hP w _ h1, by rw [ht]; exact h2⟩, h3.F ht⟩) h3.2.2 d E.2.1))
theorem zg_zret (F : zg_F K cc own rm) {v : Int32} (E : zg_E K (some .boolean) mc ms (some (.int v)) P') (hn : narrow .boolean (.int v) = .int v) (hc : cells ≤ mc) (hs : slots ≤ ms) (hP : ∀ w z, P w z → P' w z) (d : decode cc pc = .ok (.ireturn, 1)) : zg_G K P cells slots pc L [.int v] := fun w H locs ls h1 h2 h3 _ =>
  zg_Wmono E.2.2 (W.widen hc hs (W.zret F.1 F.2.1 E.1 hn (fun t ht _ => ⟨rfl, ⟨w, by rw [ht]; exact hP w _ h1, by rw [ht]; exact h2⟩, h3.F ht⟩) h3.2.2 d E.2.1))
theorem zg_lret (F : zg_F K cc own rm) {v : Int64} (E : zg_E K (some .long) mc ms (some (.long v)) P') (hc : cells ≤ mc) (hs : slots ≤ ms) (hP : ∀ w z, P w z → P' w z) (d : decode cc pc = .ok (.lreturn, 1)) : zg_G K P cells slots pc L [.long v] := fun w H locs ls h1 h2 h3 _ =>
  zg_Wmono E.2.2 (W.widen hc hs (W.lret F.1 F.2.1 E.1 (fun t ht _ => ⟨rfl, ⟨w, by rw [ht]; exact hP w _ h1, by rw [ht]; exact h2⟩, h3.F ht⟩) h3.2.2 d E.2.1))
theorem zg_vret (F : zg_F K cc own rm) (E : zg_E K none mc ms none P') (hc : cells ≤ mc) (hs : slots ≤ ms) (hP : ∀ w z, P w z → P' w z) (d : decode cc pc = .ok (.return_, 1)) : zg_G K P cells slots pc L [] := fun w H locs ls h1 h2 h3 _ =>
  zg_Wmono E.2.2 (W.widen hc hs (W.vret F.1 F.2.1 E.1 (fun t ht _ => ⟨rfl, ⟨w, by rw [ht]; exact hP w _ h1, by rw [ht]; exact h2⟩, h3.F ht⟩) h3.2.2 d E.2.1))
theorem zg_aret (F : zg_F K cc own rm) {a : Nat} {C : String} (E : zg_E K (some (.object C)) mc ms (some (.ref a)) P') (hc : cells ≤ mc) (hs : slots ≤ ms) (hP : ∀ w z, P w z → P' w z) (d : decode cc pc = .ok (.areturn, 1)) : zg_G K P cells slots pc L [.ref a] := fun w H locs ls h1 h2 h3 _ =>
  zg_Wmono E.2.2 (W.widen hc hs (W.aret F.1 F.2.1 E.1 (Or.inl ⟨C, rfl⟩) (Or.inr ⟨a, rfl⟩) (fun t ht _ => ⟨rfl, ⟨w, by rw [ht]; exact hP w _ h1, by rw [ht]; exact h2⟩, h3.F ht⟩) h3.2.2 d E.2.1))
end ZGR
theorem zg_blind {D : va_G} {A : Nat → ClassId} {base : Nat} {av : List Value} {P : zg_P} : FrameBlind (zg_Pc D A base av P) := by
  intro a U g mk h
  obtain ⟨h0, h1, h2, h3, h4⟩ := h
  exact ⟨h0, h1, va_K.moved (u := U) (U := U.calling g mk a) (Vm.Alike.refl U.vm) h2, zg_N.calling h3, h4⟩
section ZGC
variable {K : zg_K} {P : zg_P} {cells slots pc : Nat} {L : List (Nat × Value)} {st : List Value} {cc : ByteArray} {own : String} {rm : Room} {mc ms : Nat} {P' : zg_P}
theorem zg_pre (F : zg_F K cc own rm) {w : zg_w} {H : Heap} {locs : List Loc} {av : List Value} (h1 : P w H.size) (h2 : zg_H (zk_D K) vwCl (zk_z K) w H) (h3 : va_S (fun q => zk_z K ≤ q) (zk_s K).heap H locs) : ∀ U : State, U.heap = H → (zk_s K).WarmedH U.vm → zg_Pc (zk_D K) (zk_A K) (zk_z K) av P av.toArray U := by
  intro U hU hW
  subst hU
  exact ⟨rfl, Nat.le_trans (zf_b F) h3.1, va_K.moved hW.alike F.2.2.2.2.2.1, zg_N.moved hW h3 (zf_N F), w, h1, h2⟩
theorem zg_after {r : Option Value} {rest st0 : List Value} {a : Array Value} {w : zg_w} {H : Heap} {locs : List Loc} {ls : Array Slot} (h3 : va_S (fun q => zk_z K ≤ q) (zk_s K).heap H locs) (h4 : lv_has ls (zk_n K) L)
    (hr : va_Run (zk_p K) (zk_l K) (zk_e K) (zk_R K) (zk_s K) (zk_m K) (zk_a K) (zk_b K) (zk_t K) (zk_c K) H locs cells slots mc ms (F0 (zk_m K) pc ls st0) rest (zg_Qc (zk_D K) (zk_z K) r P' a) (fun q => zk_z K ≤ q))
    (k : zg_G K P' (cells + mc) (slots + ms) (pc + 3) L (r.toList ++ rest)) : zg_W K H locs cells slots (F0 (zk_m K) pc ls st0) := by
  intro T hT X
  obtain ⟨v, st₀, t, T', L', h0, X', hL, e1, e2, ⟨hv, ⟨w', hP', hH'⟩, hz, hk⟩, sts⟩ := hr T hT X
  cases hv
  rw [h0] at hz hk
  obtain ⟨t2, a1, b1⟩ := k w' T'.heap (locs ++ L') ls (by rw [e1]; exact hP') (by rw [e1]; exact hH')
    ⟨Nat.le_trans h3.1 (by rw [e1]; exact hz), fun q g1 g2 => by rw [e1, hk q (Nat.lt_of_lt_of_le g1 h3.1) g2]; exact h3.2.1 q g1 g2, fun q hq => by
      rcases List.mem_append.mp hq with h | h
      · exact h3.2.2 q h
      · exact hL q h⟩ h4 T' rfl X'
  exact ⟨t2, sts t2 a1, b1⟩
/-- the words that say of a method what a call needs -/
def zg_V (y : MethodName) (bytes : ByteArray) (maxL : Nat) (ret : Option FieldType) (n : Nat) : Prop := Cond.code y bytes maxL ret ∈ zw_A ∧ Cond.initialized y.cls ∈ zw_A ∧ (y.cls ≠ "java/lang/invoke/MethodHandle" ∧ y.cls ≠ "java/lang/invoke/VarHandle" ∧ (parseMethodDescriptor y.desc).map (fun d => d.parameters.length) = some n)
theorem zg_cb (F : zg_F K cc own rm) {y : MethodName} {bytes : ByteArray} {maxL n index d : Nat} {ret : Option FieldType} (hv : zg_V y bytes maxL ret n) (hl : Cond.methodLink own index y ∈ zw_A) (hR : d + 1 ≤ rm.frames ∧ 8 + (maxL + 11) + 32 * d ≤ rm.locals) : CallB (zk_R K) (zk_s K) (zk_a K) own index y bytes maxL ret (zw_ y bytes maxL ret) (zg_rm d mc ms) mc ms n :=
  callB_of n F.2.2.2.2.1 (zw_good hv.1) rfl rfl rfl (F.2.2.2.2.1 _ hv.2.1) (F.2.2.2.2.1 _ hl) hv.2.2 (by rw [zf_R F]; exact hR)
theorem zg_recv (F : zg_F K cc own rm) {w : zg_w} {H : Heap} {b ci : Nat} {fs : List Value} {q : vw_C} (h2 : zg_H (zk_D K) vwCl (zk_z K) w H) (hw : w b = some (.inr (ci, fs))) (hc : vwCl[ci]? = some q) : ∃ cell : Cell, H[b]? = some cell ∧ cell.vm.isStatics = false ∧ (zk_s K).vm.findClass q.1 = some cell.cls := by
  obtain ⟨-, q', h1, cell, g1, g2, g3, -⟩ := h2 b _ hw
  exact ⟨cell, g1, by rw [g3]; rfl, by rw [g2]; exact (F.2.2.2.2.2.1.1 ci q hc).2.1⟩
theorem zg_callV (F : zg_F K cc own rm) {y : MethodName} {bytes : ByteArray} {maxL n index d b ci : Nat} {ret : Option FieldType} {As rest : List Value} {r : Option Value} {fs : List Value} {T : u_T} {N : Nat} (hM : zg_Met (zk_l K) y bytes maxL ret d mc ms (zk_D K) (zk_A K) (zk_z K) (.ref b :: As) P r P') (hv : zg_V y bytes maxL ret n) (hi : Cond.instanceMethod y ∈ zw_A ∧ Cond.selects y.cls y y ∈ zw_A) (hl : Cond.methodLink own index y ∈ zw_A) (hw : ∀ w z, P w z → w b = some (.inr (ci, fs))) (hc : vwCl[ci]? = some (y.cls, T, N)) (hn : As.length = n) (hR : d + 1 ≤ rm.frames ∧ 8 + (maxL + 11) + 32 * d ≤ rm.locals) (hf : cells + mc ≤ rm.cells ∧ slots + ms ≤ rm.slots) (hst : st = As.reverse ++ .ref b :: rest) (hW : (rest.map fun v => v.category).sum ≤ 8) (dd : decode cc pc = .ok (.invokevirtual index, 3)) (k : zg_G K P' (cells + mc) (slots + ms) (pc + 3) L (r.toList ++ rest)) : zg_G K P cells slots pc L st := fun w H locs ls h1 h2 h3 h4 =>
  zg_after (w := w) h3 h4 (va_runV (b := b) (As := As) ⟨F.1, F.2.1, F.2.2.1, F.2.2.2.1, F.2.2.2.2.1⟩ hM ⟨zg_cb F hv hl hR, F.2.2.2.2.1 _ hi.1, F.2.2.2.2.1 _ hi.2⟩ ⟨zg_blind, zg_recv F h2 (hw w _ h1) hc, zg_pre F h1 h2 h3⟩ rfl hn h4.1 hst (by show 2 * 0 + _ ≤ 8; omega) dd (by rw [zf_R F]; exact hf)) k
theorem zg_callS (F : zg_F K cc own rm) {y : MethodName} {bytes : ByteArray} {maxL n index d : Nat} {ret : Option FieldType} {As rest : List Value} {r : Option Value} (hM : zg_Met (zk_l K) y bytes maxL ret d mc ms (zk_D K) (zk_A K) (zk_z K) As P r P') (hv : zg_V y bytes maxL ret n) (hi : Cond.static y ∈ zw_A) (hl : Cond.methodLink own index y ∈ zw_A) (hn : As.length = n) (hR : d + 1 ≤ rm.frames ∧ 8 + (maxL + 11) + 32 * d ≤ rm.locals) (hf : cells + mc ≤ rm.cells ∧ slots + ms ≤ rm.slots) (hst : st = As.reverse ++ rest) (hW : (rest.map fun v => v.category).sum ≤ 8) (dd : decode cc pc = .ok (.invokestatic index, 3)) (k : zg_G K P' (cells + mc) (slots + ms) (pc + 3) L (r.toList ++ rest)) : zg_G K P cells slots pc L st := fun w H locs ls h1 h2 h3 h4 =>
  zg_after (w := w) h3 h4 (va_runS (As := As) ⟨F.1, F.2.1, F.2.2.1, F.2.2.2.1, F.2.2.2.2.1⟩ hM ⟨zg_cb F hv hl hR, F.2.2.2.2.1 _ hi⟩ ⟨zg_blind, zg_pre F h1 h2 h3⟩ rfl hn h4.1 hst (by show 2 * 0 + _ ≤ 8; omega) dd (by rw [zf_R F]; exact hf)) k
theorem zg_callI (F : zg_F K cc own rm) {y : MethodName} {bytes : ByteArray} {maxL n index d b : Nat} {As rest : List Value} {r : Option Value} (hM : zg_Met (zk_l K) y bytes maxL none d mc ms (zk_D K) (zk_A K) (zk_z K) (.ref b :: As) P r P') (hv : zg_V y bytes maxL none n) (hi : y.name = "<init>" ∧ Cond.instanceMethod y ∈ zw_A) (hl : Cond.methodLink own index y ∈ zw_A) (hn : As.length = n) (hR : d + 1 ≤ rm.frames ∧ 8 + (maxL + 11) + 32 * d ≤ rm.locals) (hf : cells + mc ≤ rm.cells ∧ slots + ms ≤ rm.slots) (hst : st = As.reverse ++ .ref b :: rest) (hW : (rest.map fun v => v.category).sum ≤ 8) (dd : decode cc pc = .ok (.invokespecial index, 3)) (k : zg_G K P' (cells + mc) (slots + ms) (pc + 3) L (r.toList ++ rest)) : zg_G K P cells slots pc L st := fun w H locs ls h1 h2 h3 h4 =>
  zg_after (w := w) h3 h4 (va_runI (b := b) (As := As) ⟨F.1, F.2.1, F.2.2.1, F.2.2.2.1, F.2.2.2.2.1⟩ hM ⟨zg_cb F hv hl hR, hi.1, F.2.2.2.2.1 _ hi.2⟩ ⟨zg_blind, zg_pre F h1 h2 h3⟩ rfl hn h4.1 hst (by show 2 * 0 + _ ≤ 8; omega) dd (by rw [zf_R F]; exact hf)) k
theorem zg_cn (F : zg_F K cc own rm) {y : MethodName} {bytes : ByteArray} {maxL n index d : Nat} {ret : Option FieldType} {host : String} (hv : zg_V y bytes maxL ret n) (hl : (own, index, y, host) ∈ zn_nest) (hR : d + 1 ≤ rm.frames ∧ 8 + (maxL + 11) + 32 * d ≤ rm.locals) : va_CN (zk_R K) (zk_s K) (zk_a K) own index y host bytes maxL ret (zw_ y bytes maxL ret) (zg_rm d mc ms) mc ms n :=
  va_cnB n F.2.2.2.2.1 (zw_good hv.1) rfl rfl rfl ((zf_N F).1 _ hl) (F.2.2.2.2.1 _ hv.2.1) hv.2.2 (by rw [zf_R F]; exact hR)
theorem zg_callSN (F : zg_F K cc own rm) {y : MethodName} {bytes : ByteArray} {maxL n index d : Nat} {ret : Option FieldType} {host : String} {As rest : List Value} {r : Option Value} (hM : zg_Met (zk_l K) y bytes maxL ret d mc ms (zk_D K) (zk_A K) (zk_z K) As P r P') (hv : zg_V y bytes maxL ret n) (hi : Cond.static y ∈ zw_A) (hl : (own, index, y, host) ∈ zn_nest) (hn : As.length = n) (hR : d + 1 ≤ rm.frames ∧ 8 + (maxL + 11) + 32 * d ≤ rm.locals) (hf : cells + mc ≤ rm.cells ∧ slots + ms ≤ rm.slots) (hst : st = As.reverse ++ rest) (hW : (rest.map fun v => v.category).sum ≤ 8) (dd : decode cc pc = .ok (.invokestatic index, 3)) (k : zg_G K P' (cells + mc) (slots + ms) (pc + 3) L (r.toList ++ rest)) : zg_G K P cells slots pc L st := fun w H locs ls h1 h2 h3 h4 =>
  zg_after (w := w) h3 h4 (va_runSN (As := As) ⟨F.1, F.2.1, F.2.2.1, F.2.2.2.1, F.2.2.2.2.1⟩ hM ⟨zg_cn F hv hl hR, F.2.2.2.2.1 _ hi, trivial⟩ ⟨zg_blind, zg_pre F h1 h2 h3⟩ rfl hn h4.1 hst (by show 2 * 0 + _ ≤ 8; omega) dd (by rw [zf_R F]; exact hf)) k
theorem zg_callIN (F : zg_F K cc own rm) {y : MethodName} {bytes : ByteArray} {maxL n index d b : Nat} {host : String} {As rest : List Value} {r : Option Value} (hM : zg_Met (zk_l K) y bytes maxL none d mc ms (zk_D K) (zk_A K) (zk_z K) (.ref b :: As) P r P') (hv : zg_V y bytes maxL none n) (hi : y.name = "<init>" ∧ Cond.instanceMethod y ∈ zw_A) (hl : (own, index, y, host) ∈ zn_nest) (hn : As.length = n) (hR : d + 1 ≤ rm.frames ∧ 8 + (maxL + 11) + 32 * d ≤ rm.locals) (hf : cells + mc ≤ rm.cells ∧ slots + ms ≤ rm.slots) (hst : st = As.reverse ++ .ref b :: rest) (hW : (rest.map fun v => v.category).sum ≤ 8) (dd : decode cc pc = .ok (.invokespecial index, 3)) (k : zg_G K P' (cells + mc) (slots + ms) (pc + 3) L (r.toList ++ rest)) : zg_G K P cells slots pc L st := fun w H locs ls h1 h2 h3 h4 =>
  zg_after (w := w) h3 h4 (va_runIN (b := b) (As := As) ⟨F.1, F.2.1, F.2.2.1, F.2.2.2.1, F.2.2.2.2.1⟩ hM ⟨zg_cn F hv hl hR, hi.1, F.2.2.2.2.1 _ hi.2⟩ ⟨zg_blind, zg_pre F h1 h2 h3⟩ rfl hn h4.1 hst (by show 2 * 0 + _ ≤ 8; omega) dd (by rw [zf_R F]; exact hf)) k
/-- a number on the stack under another name -/
theorem zg_eqi {x y : Int32} (h : x = y) (k : zg_G K P cells slots pc L (.int y :: st)) : zg_G K P cells slots pc L (.int x :: st) := by rw [h]; exact k
theorem zg_eql {x y : Int64} (h : x = y) (k : zg_G K P cells slots pc L (.long y :: st)) : zg_G K P cells slots pc L (.long x :: st) := by rw [h]; exact k
end ZGC
theorem zc_inc (a : Nat) : nI a + Int32.ofInt 1 = nI (a + 1) := nI_1 a
theorem zc_inc' (x : Int32) : x + Int32.ofInt 1 = x + nI 1 := rfl
