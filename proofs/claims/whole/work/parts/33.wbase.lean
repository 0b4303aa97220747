/-! methods with an exception table: the law's own -/
def zg_wsW (y : MethodName) (cc : ByteArray) (n : Nat) (r : Option FieldType) (hh : List (Nat × Nat × Nat × Nat)) : List Cond := Cond.codeWith y cc n r hh :: zw_A
theorem zw_goodW {y : MethodName} {cc : ByteArray} {n : Nat} {r : Option FieldType} {hh : List (Nat × Nat × Nat × Nat)} (h : Cond.codeWith y cc n r hh ∈ zw_A) : GoodIn zw_A (zg_wsW y cc n r hh) := by
  have hg : ∀ w ∈ zw_A, w ∈ zw_A ∧ ((w.onTables && w.keeps) = true ∨ ∃ ty, w = .arrayClass ty) := fun w hw => ⟨hw, good_of_word (List.mem_filter.mp hw).2⟩
  intro w hw
  rcases List.mem_cons.mp hw with rfl | h2
  · exact hg _ h
  · exact hg w h2
def zg_MetW (l : Launch) (y : MethodName) (cc : ByteArray) (maxL : Nat) (ret : Option FieldType) (hh : List (Nat × Nat × Nat × Nat)) (d mc ms : Nat) (D : va_G) (A : Nat → ClassId) (base : Nat) (av : List Value) (P : zg_P) (r : Option Value) (P' : zg_P) : Prop := Met l y (zg_wsW y cc maxL ret hh) (zg_rm d mc ms) (zg_Pc D A base av P) (zg_Qc D base r P') mc ms (fun q => base ≤ q)
theorem zg_metW {l : Launch} {y : MethodName} {d mc ms maxL base : Nat} {D : va_G} {A : Nat → ClassId} {av : List Value} {P P' : zg_P} {r : Option Value} {cc : ByteArray} {ret : Option FieldType} {hh : List (Nat × Nat × Nat × Nat)} (hy : plainName y.cls = true) (hlen : (lg_sl av).length ≤ maxL)
    (body : ∀ K : zg_K, zk_l K = l → zk_D K = D → zk_A K = A → zk_z K = base → zk_n K = maxL → (zk_c K).exceptionTable.toList = tableOf hh → zg_F K cc y.cls (zg_rm d mc ms) → zg_E K ret mc ms r P' → zg_G K P 0 0 0 (lv_args 0 av) []) : zg_MetW l y cc maxL ret hh d mc ms D A base av P r P' := by
  refine va_MetW (cc := cc) (maxL := maxL) (ret := ret) (hh := hh) hy rfl ?_
  intro p e s m args below meth c s₁ B hml hv
  obtain ⟨rfl, hbase, hK, hN, w, hP, hH⟩ := hv
  have hts := atoms_spec (ws := zg_wsW y cc maxL ret hh) B.pre
  have hown : s.vm.findClass y.cls = some m.cls := findClass_of_methodNamed B.named
  have htab := vx_table (x := y) B (hts _ List.mem_cons_self)
  have hk := body (p, l, e, (headSpec (zg_wsW y cc maxL ret hh) (zg_rm d mc ms)).room, s, m, av.toArray, below, meth, c, MQ below (zg_Qc D base r P') av.toArray s mc ms (fun q => base ≤ q), D, A, base, maxL) rfl rfl rfl rfl rfl htab
    ⟨B.exec, B.bytes, hml, hown, fun w hw => hts w (List.mem_cons_of_mem _ hw), hK, hN, hbase, rfl⟩ ⟨B.returns, B.notSynchronized, fun t h => h⟩
  rw [lg_entry_eq]
  exact hk w s.heap [] _ hP hH va_S.rf (lv_entry av hlen)
/-- the same world, the heap perhaps larger -/
def zg_ge (P : zg_P) : zg_P := fun w z => ∃ z0, z0 ≤ z ∧ P w z0
section ZGWB
variable {K : zg_K} {P : zg_P} {cells slots pc : Nat} {L : List (Nat × Value)} {st : List Value} {cc : ByteArray} {own : String} {rm : Room} {mc ms : Nat} {P' : zg_P}
theorem zg_catch (F : zg_F K cc own rm) {Ex name : String} (pre : List ExceptionTableEntry) (x : ExceptionTableEntry) (suf : List ExceptionTableEntry) (hsplit : (zk_c K).exceptionTable.toList = pre ++ x :: suf) (hpass : ∀ z ∈ pre, z.catchType ≠ 0 ∧ ∃ nm : String, Cond.classLink own z.catchType nm ∈ zw_A ∧ (Ex, nm) ∈ zn_nc) (hx : covers x pc = true) (h0 : x.catchType ≠ 0) (hlink : Cond.classLink own x.catchType name ∈ zw_A) (hcast : (Ex, name) ∈ zn_cast) {tgt : Nat} (ht : x.handlerPc = tgt)
    (k : ∀ q : Nat, zg_G K (zg_ge P) cells slots tgt L [.ref q]) : zg_X K P cells slots pc L st Ex := fun w z H locs ls q ce h1 hz h2 h3 h4 g1 g2 g3 =>
  vx_catch (own := own) (name := name) (E := Ex) F.2.2.2.1 pre x suf hsplit (fun y hy => Or.inr ⟨(hpass y hy).1, by obtain ⟨nm, a, b⟩ := (hpass y hy).2; exact ⟨nm, F.2.2.2.2.1 _ a, (zf_N F).2.2.2.2.1 _ b⟩⟩) hx h0 (F.2.2.2.2.1 _ hlink) (va_Nw.use rfl ((zf_N F).2.2.2.1 _ hcast)) g1 g2 g3 (by rw [ht]; exact k q w H locs ls ⟨z, hz, h1⟩ h2 h3 h4)
def zg_VW (y : MethodName) (bytes : ByteArray) (maxL : Nat) (ret : Option FieldType) (hh : List (Nat × Nat × Nat × Nat)) (n : Nat) : Prop := Cond.codeWith y bytes maxL ret hh ∈ zw_A ∧ Cond.initialized y.cls ∈ zw_A ∧ (y.cls ≠ "java/lang/invoke/MethodHandle" ∧ y.cls ≠ "java/lang/invoke/VarHandle" ∧ (parseMethodDescriptor y.desc).map (fun d => d.parameters.length) = some n) ∧ Cond.static y ∈ zw_A
theorem zg_callSW (F : zg_F K cc own rm) {y : MethodName} {bytes : ByteArray} {maxL n index d : Nat} {ret : Option FieldType} {hh : List (Nat × Nat × Nat × Nat)} {As rest : List Value} {r : Option Value} (hM : zg_MetW (zk_l K) y bytes maxL ret hh d mc ms (zk_D K) (zk_A K) (zk_z K) As P r P') (hv : zg_VW y bytes maxL ret hh n) (hl : Cond.methodLink own index y ∈ zw_A) (hn : As.length = n) (hR : d + 1 ≤ rm.frames ∧ 8 + (maxL + 11) + 32 * d ≤ rm.locals) (hf : cells + mc ≤ rm.cells ∧ slots + ms ≤ rm.slots) (hst : st = As.reverse ++ rest) (hW : (rest.map fun v => v.category).sum ≤ 8) (dd : decode cc pc = .ok (.invokestatic index, 3)) (k : zg_G K P' (cells + mc) (slots + ms) (pc + 3) L (r.toList ++ rest)) : zg_G K P cells slots pc L st := by
  intro w H locs ls h1 h2 h3 h4
  have hts := F.2.2.2.2.1
  have cw : vx_CSW (zk_R K) (zk_s K) (zk_a K) own index y bytes maxL ret hh (zg_wsW y bytes maxL ret hh) (zg_rm d mc ms) mc ms n := by
    refine ⟨⟨rfl, rfl, by rw [zf_R F]; exact hR.1, by rw [zf_R F]; exact hR.2, pay_in hts (zw_goodW hv.1), List.mem_cons_self⟩, hts _ hv.1, hts _ hv.2.1, ⟨hv.2.2.1.1, hv.2.2.1.2.1⟩, fun sig h => ?_, hts _ hl, hts _ hv.2.2.2⟩
    have h2 := hv.2.2.1.2.2
    rw [h] at h2
    exact (Option.some.inj h2).symm
  exact zg_after (w := w) h3 h4 (vx_runSW (As := As) ⟨F.1, F.2.1, F.2.2.1, F.2.2.2.1, hts⟩ hM cw ⟨zg_blind, zg_pre F h1 h2 h3⟩ rfl hn h4.1 hst (by show 2 * 0 + _ ≤ 8; omega) dd (by rw [zf_R F]; exact hf)) k
end ZGWB
theorem zv_L_open : zg_VW zm_L_open zc_L_open 4 (some .int) [(0, 6, 9, 13), (0, 6, 12, 15), (0, 6, 15, 17)] 3 := ⟨zw_t (i := 135) (by decide +kernel) (by decide +kernel), zk_0, by decide +kernel, zk_134⟩
theorem zv_L_fare : zg_VW zm_L_fare zc_L_fare 5 (some .int) [(0, 7, 10, 13), (0, 7, 14, 15)] 4 := ⟨zw_t (i := 254) (by decide +kernel) (by decide +kernel), zk_0, by decide +kernel, zk_253⟩
theorem zv_L_part : zg_VW zm_L_part zc_L_part 6 (some .int) [(0, 12, 15, 13), (0, 12, 19, 15), (0, 12, 23, 17)] 5 := ⟨zw_t (i := 267) (by decide +kernel) (by decide +kernel), zk_0, by decide +kernel, zk_266⟩
theorem zv_L_buy : zg_VW zm_L_buy zc_L_buy 5 (some .int) [(0, 10, 13, 13), (0, 10, 17, 15), (0, 10, 21, 17)] 4 := ⟨zw_t (i := 286) (by decide +kernel) (by decide +kernel), zk_0, by decide +kernel, zk_285⟩
theorem zv_L_wish : zg_VW zm_L_wish zc_L_wish 5 (some .int) [(0, 10, 13, 13), (0, 10, 17, 15), (0, 10, 21, 17)] 4 := ⟨zw_t (i := 349) (by decide +kernel) (by decide +kernel), zk_0, by decide +kernel, zk_348⟩
theorem zv_L_cancel : zg_VW zm_L_cancel zc_L_cancel 4 (some .int) [(0, 9, 12, 13), (0, 9, 15, 17)] 3 := ⟨zw_t (i := 379) (by decide +kernel) (by decide +kernel), zk_0, by decide +kernel, zk_378⟩
theorem zv_L_ticket : zg_VW zm_L_ticket zc_L_ticket 5 (some .int) [(0, 10, 13, 13), (0, 10, 17, 15)] 4 := ⟨zw_t (i := 392) (by decide +kernel) (by decide +kernel), zk_0, by decide +kernel, zk_391⟩
theorem zv_L_price : zg_VW zm_L_price zc_L_price 4 (some .int) [(0, 8, 11, 13)] 3 := ⟨zw_t (i := 400) (by decide +kernel) (by decide +kernel), zk_0, by decide +kernel, zk_399⟩
theorem zv_L_hand : zg_VW zm_L_hand zc_L_hand 8 (some .int) [(0, 16, 19, 13), (0, 16, 23, 15), (0, 16, 27, 17)] 7 := ⟨zw_t (i := 407) (by decide +kernel) (by decide +kernel), zk_0, by decide +kernel, zk_406⟩
theorem zv_L_share : zg_VW zm_L_share zc_L_share 6 (some .int) [(0, 12, 15, 13), (0, 12, 19, 15)] 5 := ⟨zw_t (i := 441) (by decide +kernel) (by decide +kernel), zk_0, by decide +kernel, zk_440⟩
theorem zv_L_send : zg_VW zm_L_send zc_L_send 5 (some .int) [(0, 10, 13, 13), (0, 10, 17, 15)] 4 := ⟨zw_t (i := 448) (by decide +kernel) (by decide +kernel), zk_0, by decide +kernel, zk_447⟩
theorem zv_L_arrive : zg_VW zm_L_arrive zc_L_arrive 5 (some .int) [(0, 10, 13, 13), (0, 10, 17, 15)] 4 := ⟨zw_t (i := 458) (by decide +kernel) (by decide +kernel), zk_0, by decide +kernel, zk_457⟩
theorem zv_L_receipt : zg_VW zm_L_receipt zc_L_receipt 5 (some .int) [(0, 10, 13, 13), (0, 10, 17, 15)] 4 := ⟨zw_t (i := 470) (by decide +kernel) (by decide +kernel), zk_0, by decide +kernel, zk_469⟩
theorem zv_L_lose : zg_VW zm_L_lose zc_L_lose 5 (some .int) [(0, 10, 13, 13), (0, 10, 17, 15)] 4 := ⟨zw_t (i := 481) (by decide +kernel) (by decide +kernel), zk_0, by decide +kernel, zk_480⟩
theorem zv_L_crash : zg_VW zm_L_crash zc_L_crash 4 (some .int) [(0, 9, 12, 13)] 3 := ⟨zw_t (i := 492) (by decide +kernel) (by decide +kernel), zk_0, by decide +kernel, zk_491⟩
theorem zv_L_rights : zg_VW zm_L_rights zc_L_rights 6 (some .int) [(0, 12, 15, 13)] 5 := ⟨zw_t (i := 499) (by decide +kernel) (by decide +kernel), zk_0, by decide +kernel, zk_498⟩
theorem zv_L_air : zg_VW zm_L_air zc_L_air 5 (some .int) [(0, 10, 13, 13)] 4 := ⟨zw_t (i := 506) (by decide +kernel) (by decide +kernel), zk_0, by decide +kernel, zk_505⟩
theorem zv_L_sold : zg_VW zm_L_sold zc_L_sold 5 (some .int) [(0, 10, 13, 13)] 4 := ⟨zw_t (i := 513) (by decide +kernel) (by decide +kernel), zk_0, by decide +kernel, zk_512⟩
theorem zv_L_wishes : zg_VW zm_L_wishes zc_L_wishes 4 (some .int) [(0, 9, 12, 13)] 3 := ⟨zw_t (i := 520) (by decide +kernel) (by decide +kernel), zk_0, by decide +kernel, zk_519⟩
theorem zv_L_till : zg_VW zm_L_till zc_L_till 4 (some .int) [(0, 8, 11, 13)] 3 := ⟨zw_t (i := 527) (by decide +kernel) (by decide +kernel), zk_0, by decide +kernel, zk_526⟩
