section
-- ===== PART A: goes FIRST, ahead of the names: the tables' words, and 'selects' of the private methods out of them =====
/-- a private method of a class that the tables say can be made, by its rows of tables_1 -/
def lw_okq (q : MethodName × Nat) : Prop := (q.1.cls ≠ "java/lang/invoke/MethodHandle" ∧ q.1.cls ≠ "java/lang/invoke/VarHandle") ∧ Cond.instantiable q.1.cls q.2 ∈ tables_1 ∧ Cond.privateMethod q.1 ∈ tables_1 ∧ Cond.instanceMethod q.1 ∈ tables_1
theorem lw_p0 : lw_okq (⟨"java/lang/Throwable", "fillInStackTrace", "(I)Ljava/lang/Throwable;"⟩, 6) := ⟨⟨by decide +kernel, by decide +kernel⟩, List.mem_of_getElem? (i := 185) (by decide +kernel), List.mem_of_getElem? (i := 183) (by decide +kernel), List.mem_of_getElem? (i := 184) (by decide +kernel)⟩
theorem lw_p1 : lw_okq (⟨"IslandRights", "checkDraft", "()V"⟩, 9) := ⟨⟨by decide +kernel, by decide +kernel⟩, List.mem_of_getElem? (i := 16) (by decide +kernel), List.mem_of_getElem? (i := 296) (by decide +kernel), List.mem_of_getElem? (i := 297) (by decide +kernel)⟩
theorem lw_p2 : lw_okq (⟨"IslandRights", "takeDraft", "()LIslandRights$Journey;"⟩, 9) := ⟨⟨by decide +kernel, by decide +kernel⟩, List.mem_of_getElem? (i := 16) (by decide +kernel), List.mem_of_getElem? (i := 302) (by decide +kernel), List.mem_of_getElem? (i := 303) (by decide +kernel)⟩
theorem lw_p3 : lw_okq (⟨"IslandRights", "sell", "(ILIslandRights$Journey;I)I"⟩, 9) := ⟨⟨by decide +kernel, by decide +kernel⟩, List.mem_of_getElem? (i := 16) (by decide +kernel), List.mem_of_getElem? (i := 310) (by decide +kernel), List.mem_of_getElem? (i := 311) (by decide +kernel)⟩
theorem lw_p4 : lw_okq (⟨"IslandRights", "costOf", "(LIslandRights$Journey;I)J"⟩, 9) := ⟨⟨by decide +kernel, by decide +kernel⟩, List.mem_of_getElem? (i := 16) (by decide +kernel), List.mem_of_getElem? (i := 314) (by decide +kernel), List.mem_of_getElem? (i := 315) (by decide +kernel)⟩
theorem lw_p5 : lw_okq (⟨"IslandRights", "moveToSold", "(ILIslandRights$Journey;I)V"⟩, 9) := ⟨⟨by decide +kernel, by decide +kernel⟩, List.mem_of_getElem? (i := 16) (by decide +kernel), List.mem_of_getElem? (i := 318) (by decide +kernel), List.mem_of_getElem? (i := 319) (by decide +kernel)⟩
theorem lw_p6 : lw_okq (⟨"IslandRights", "serve", "(I)I"⟩, 9) := ⟨⟨by decide +kernel, by decide +kernel⟩, List.mem_of_getElem? (i := 16) (by decide +kernel), List.mem_of_getElem? (i := 374) (by decide +kernel), List.mem_of_getElem? (i := 375) (by decide +kernel)⟩
theorem lw_p7 : lw_okq (⟨"IslandRights", "checkTicket", "(I)V"⟩, 9) := ⟨⟨by decide +kernel, by decide +kernel⟩, List.mem_of_getElem? (i := 16) (by decide +kernel), List.mem_of_getElem? (i := 385) (by decide +kernel), List.mem_of_getElem? (i := 386) (by decide +kernel)⟩
theorem lw_p8 : lw_okq (⟨"IslandRights", "laneOf", "(II)LIslandRights$Lane;"⟩, 9) := ⟨⟨by decide +kernel, by decide +kernel⟩, List.mem_of_getElem? (i := 16) (by decide +kernel), List.mem_of_getElem? (i := 417) (by decide +kernel), List.mem_of_getElem? (i := 418) (by decide +kernel)⟩
theorem lw_p9 : lw_okq (⟨"IslandRights", "putInOutbox", "(IIII)I"⟩, 9) := ⟨⟨by decide +kernel, by decide +kernel⟩, List.mem_of_getElem? (i := 16) (by decide +kernel), List.mem_of_getElem? (i := 426) (by decide +kernel), List.mem_of_getElem? (i := 427) (by decide +kernel)⟩
theorem lw_p10 : lw_okq (⟨"IslandRights", "takeNext", "(LIslandRights$Lane;I)I"⟩, 9) := ⟨⟨by decide +kernel, by decide +kernel⟩, List.mem_of_getElem? (i := 16) (by decide +kernel), List.mem_of_getElem? (i := 464) (by decide +kernel), List.mem_of_getElem? (i := 465) (by decide +kernel)⟩
theorem lw_p11 : lw_okq (⟨"IslandRightsModel", "refused", "(I)Z"⟩, 28) := ⟨⟨by decide +kernel, by decide +kernel⟩, List.mem_of_getElem? (i := 533) (by decide +kernel), List.mem_of_getElem? (i := 636) (by decide +kernel), List.mem_of_getElem? (i := 637) (by decide +kernel)⟩
theorem lw_p12 : lw_okq (⟨"IslandRightsModel", "fits", "(IIII)Z"⟩, 28) := ⟨⟨by decide +kernel, by decide +kernel⟩, List.mem_of_getElem? (i := 533) (by decide +kernel), List.mem_of_getElem? (i := 653) (by decide +kernel), List.mem_of_getElem? (i := 654) (by decide +kernel)⟩
theorem lw_p13 : lw_okq (⟨"IslandRightsModel", "lies", "(III)I"⟩, 28) := ⟨⟨by decide +kernel, by decide +kernel⟩, List.mem_of_getElem? (i := 533) (by decide +kernel), List.mem_of_getElem? (i := 657) (by decide +kernel), List.mem_of_getElem? (i := 658) (by decide +kernel)⟩
theorem lw_p14 : lw_okq (⟨"IslandRightsModel", "sell", "(IIII)I"⟩, 28) := ⟨⟨by decide +kernel, by decide +kernel⟩, List.mem_of_getElem? (i := 533) (by decide +kernel), List.mem_of_getElem? (i := 661) (by decide +kernel), List.mem_of_getElem? (i := 662) (by decide +kernel)⟩
theorem lw_p15 : lw_okq (⟨"IslandRightsModel", "give", "(IIII)V"⟩, 28) := ⟨⟨by decide +kernel, by decide +kernel⟩, List.mem_of_getElem? (i := 533) (by decide +kernel), List.mem_of_getElem? (i := 665) (by decide +kernel), List.mem_of_getElem? (i := 666) (by decide +kernel)⟩
def lw_privs_1 : List (MethodName × Nat) := [(⟨"java/lang/Throwable", "fillInStackTrace", "(I)Ljava/lang/Throwable;"⟩, 6), (⟨"IslandRights", "checkDraft", "()V"⟩, 9), (⟨"IslandRights", "takeDraft", "()LIslandRights$Journey;"⟩, 9), (⟨"IslandRights", "sell", "(ILIslandRights$Journey;I)I"⟩, 9), (⟨"IslandRights", "costOf", "(LIslandRights$Journey;I)J"⟩, 9), (⟨"IslandRights", "moveToSold", "(ILIslandRights$Journey;I)V"⟩, 9), (⟨"IslandRights", "serve", "(I)I"⟩, 9), (⟨"IslandRights", "checkTicket", "(I)V"⟩, 9), (⟨"IslandRights", "laneOf", "(II)LIslandRights$Lane;"⟩, 9), (⟨"IslandRights", "putInOutbox", "(IIII)I"⟩, 9), (⟨"IslandRights", "takeNext", "(LIslandRights$Lane;I)I"⟩, 9), (⟨"IslandRightsModel", "refused", "(I)Z"⟩, 28), (⟨"IslandRightsModel", "fits", "(IIII)Z"⟩, 28), (⟨"IslandRightsModel", "lies", "(III)I"⟩, 28), (⟨"IslandRightsModel", "sell", "(IIII)I"⟩, 28), (⟨"IslandRightsModel", "give", "(IIII)V"⟩, 28)]
theorem lw_r1 : ∀ q ∈ lw_privs_1, lw_okq q := List.forall_mem_cons.mpr ⟨lw_p0, List.forall_mem_cons.mpr ⟨lw_p1, List.forall_mem_cons.mpr ⟨lw_p2, List.forall_mem_cons.mpr ⟨lw_p3, List.forall_mem_cons.mpr ⟨lw_p4, List.forall_mem_cons.mpr ⟨lw_p5, List.forall_mem_cons.mpr ⟨lw_p6, List.forall_mem_cons.mpr ⟨lw_p7, List.forall_mem_cons.mpr ⟨lw_p8, List.forall_mem_cons.mpr ⟨lw_p9, List.forall_mem_cons.mpr ⟨lw_p10, List.forall_mem_cons.mpr ⟨lw_p11, List.forall_mem_cons.mpr ⟨lw_p12, List.forall_mem_cons.mpr ⟨lw_p13, List.forall_mem_cons.mpr ⟨lw_p14, List.forall_mem_cons.mpr ⟨lw_p15, fun _ h => absurd h List.not_mem_nil⟩⟩⟩⟩⟩⟩⟩⟩⟩⟩⟩⟩⟩⟩⟩⟩
theorem lw_p16 : lw_okq (⟨"IslandRightsModel", "copy", "(III)V"⟩, 28) := ⟨⟨by decide +kernel, by decide +kernel⟩, List.mem_of_getElem? (i := 533) (by decide +kernel), List.mem_of_getElem? (i := 669) (by decide +kernel), List.mem_of_getElem? (i := 670) (by decide +kernel)⟩
theorem lw_p17 : lw_okq (⟨"IslandRightsModel", "serve", "(I)I"⟩, 28) := ⟨⟨by decide +kernel, by decide +kernel⟩, List.mem_of_getElem? (i := 533) (by decide +kernel), List.mem_of_getElem? (i := 677) (by decide +kernel), List.mem_of_getElem? (i := 678) (by decide +kernel)⟩
theorem lw_p18 : lw_okq (⟨"IslandRightsModel", "isTicket", "(I)Z"⟩, 28) := ⟨⟨by decide +kernel, by decide +kernel⟩, List.mem_of_getElem? (i := 533) (by decide +kernel), List.mem_of_getElem? (i := 685) (by decide +kernel), List.mem_of_getElem? (i := 686) (by decide +kernel)⟩
theorem lw_p19 : lw_okq (⟨"IslandRightsModel", "enclose", "(IIII)I"⟩, 28) := ⟨⟨by decide +kernel, by decide +kernel⟩, List.mem_of_getElem? (i := 533) (by decide +kernel), List.mem_of_getElem? (i := 701) (by decide +kernel), List.mem_of_getElem? (i := 702) (by decide +kernel)⟩
theorem lw_p20 : lw_okq (⟨"IslandRightsModel", "loseOne", "(I)I"⟩, 28) := ⟨⟨by decide +kernel, by decide +kernel⟩, List.mem_of_getElem? (i := 533) (by decide +kernel), List.mem_of_getElem? (i := 728) (by decide +kernel), List.mem_of_getElem? (i := 729) (by decide +kernel)⟩
def lw_privs_2 : List (MethodName × Nat) := [(⟨"IslandRightsModel", "copy", "(III)V"⟩, 28), (⟨"IslandRightsModel", "serve", "(I)I"⟩, 28), (⟨"IslandRightsModel", "isTicket", "(I)Z"⟩, 28), (⟨"IslandRightsModel", "enclose", "(IIII)I"⟩, 28), (⟨"IslandRightsModel", "loseOne", "(I)I"⟩, 28)]
theorem lw_r2 : ∀ q ∈ lw_privs_2, lw_okq q := List.forall_mem_cons.mpr ⟨lw_p16, List.forall_mem_cons.mpr ⟨lw_p17, List.forall_mem_cons.mpr ⟨lw_p18, List.forall_mem_cons.mpr ⟨lw_p19, List.forall_mem_cons.mpr ⟨lw_p20, fun _ h => absurd h List.not_mem_nil⟩⟩⟩⟩⟩
def lw_privs : List (MethodName × Nat) := lw_privs_1 ++ (lw_privs_2)
def lw_tbl : List Cond := k2_sels lw_privs ++ tables_1
theorem lw_privs_ok : ∀ q ∈ lw_privs, lw_okq q := by
  show ∀ q ∈ lw_privs_1 ++ (lw_privs_2), lw_okq q
  exact List.forall_mem_append.mpr ⟨lw_r1, lw_r2⟩
end
section
/-! ===== BEGIN words of one list among another's, by their places ===== -/
theorem goodIn_r {big : List Cond} (ws : List Cond) (ps : List Nat) (hp : ws = ps.filterMap (fun i => big[i]?)) (h : ws.all goodWord = true) : GoodIn big ws := by
  intro w hw
  have h1 := List.all_eq_true.mp h w hw
  rw [hp] at hw
  obtain ⟨i, -, hi⟩ := List.mem_filterMap.mp hw
  have hm : w ∈ big := by first | exact List.mem_of_getElem? hi | exact List.getElem?_mem hi
  exact ⟨hm, good_of_word h1⟩
theorem goodIn_app {big a b : List Cond} (ha : GoodIn big a) (hb : GoodIn big b) : GoodIn big (a ++ b) := fun w h => (List.mem_append.mp h).elim (ha w) (hb w)
theorem goodIn_ca {big a b : List Cond} {c : Cond} (ha : GoodIn big (c :: a)) (hb : GoodIn big b) : GoodIn big (c :: (a ++ b)) := fun w h => (List.mem_cons.mp h).elim (fun e => ha w (List.mem_cons.mpr (Or.inl e))) (fun h => (List.mem_append.mp h).elim (fun h => ha w (List.mem_cons.mpr (Or.inr h))) (hb w))
theorem goodIn_sub {big ws : List Cond} (hm : ∀ w ∈ ws, w ∈ big) (h : ws.all goodWord = true) : GoodIn big ws := fun w hw => ⟨hm w hw, good_of_word (List.all_eq_true.mp h w hw)⟩
/-! ===== END ===== -/

/-! ===== BEGIN exceptions that leave a method, and their catching by the caller (launches without stack traces) ===== -/
section VXA
/-! The laws vx_back, vx_callV, vx_callS, vx_callSW, vx_throw0, vx_throwS follow proofs of the library, with one case more: JvmDerived/Free/Laws.lean (Back.of_free), Shelf42/LK1.lean (callV, callS), Shelf/KitTraced.lean (throwNew0V, throwNewS). -/
/-- where a method has thrown q: the class by its name, the cell, what was written, the world -/
def vx_T (XC : String → State → State → Prop) (st : State) (q : Addr) (t : State) (mc ms : Nat) (free : Addr → Prop) : Prop :=
  ∃ (E : String) (ce : Cell) (L : List Loc), XC E st t ∧ t.heap[q]? = some ce ∧ ce.vm = .none ∧ st.vm.findClass E = some ce.cls ∧ st.WarmedH t.vm ∧ st.sameButNew ({ t with vm := st.vm } : State) L mc ms ∧ ∀ z ∈ L, free z.base
def vx_Q (Qc : Array Value → State → Outcome → State → Prop) (XC : String → State → State → Prop) (mc ms : Nat) (free : Addr → Prop) : Array Value → State → Outcome → State → Prop := fun a st o t =>
  (Qc a st o t ∧ ∃ L, FrameEnd st o t L mc ms ∧ ∀ q ∈ L, free q.base) ∨ ∃ q, o = .threw q ∧ vx_T XC st q t mc ms free
/-- a callee that returns or throws -/
def vx_Met (l : Launch) (y : MethodName) (ws : List Cond) (rm : Room) (Pc : Array Value → State → Prop) (Qc : Array Value → State → Outcome → State → Prop) (XC : String → State → State → Prop) (mc ms : Nat) (free : Addr → Prop) : Prop :=
  MetFree l y (headSpec ws rm) Pc (fun _ _ _ _ _ => True) (vx_Q Qc XC mc ms free)
def vx_Post (XC : String → State → State → Prop) (mc ms : Nat) (free : Addr → Prop) : Pt → Array Value → Addr → Pt → Prop := fun A a q B =>
  ∃ (g : JFrame) (mk : MethodId) (t : State) (L : List Loc) (E : String) (ce : Cell), B.U.heap = t.heap ∧ B.U.vm = t.vm ∧ XC E (A.U.calling g mk a) t ∧ t.heap[q]? = some ce ∧ ce.vm = .none ∧ A.U.vm.findClass E = some ce.cls ∧ B.locs = A.locs ++ L ∧ (∀ z ∈ L, free z.base) ∧ B.cells = A.cells + mc ∧ B.slots = A.slots + ms
def vx_Back (l : Launch) (R : Room) (p : Program) (e : Env) (below : List Frame) (s : State) (sargs : Array Value) (y : MethodName) (len W9 : Nat)
    (Pre : Pt → Array Value → Prop) (Post : Pt → Array Value → Option Value → Pt → Prop) (PostX : Pt → Array Value → Addr → Pt → Prop) : Prop :=
  ∀ (m : MethodId) (meth : Method) (c : Code) (A : Pt) (g : JFrame) (ig : Instr) (mk : MethodId) (a : Array Value),
    Stand p l e R s m sargs below meth c A.U A.locs A.cells A.slots → g.method = m → g.locals.size = c.maxLocals → decode c.code g.pc = .ok (ig, len) →
    2 * g.monitorRoom + (g.stack.map fun v => v.category).sum ≤ W9 → A.U.methodNamed? y = some mk → Pre A a →
    (∃ (v : Option Value) (B : Pt), Stand p l e R s m sargs below meth c B.U B.locs B.cells B.slots ∧ Post A a v B ∧
      Steps p.tables e below (doInvoke e (A.U.setTop g) [] mk a).1 (B.U.setTop { g with pc := g.pc + len, stack := v.toList ++ g.stack })) ∨
    (∃ (q : Addr) (B : Pt), Stand p l e R s m sargs below meth c B.U B.locs B.cells B.slots ∧ PostX A a q B ∧
      Steps p.tables e below (doInvoke e (A.U.setTop g) [] mk a).1 ((B.U.setTop g).pushFrame (.throwing q)))
section Payer
variable {l : Launch} {R : Room} {p : Program} {e : Env} {below : List Frame} {s : State} {sargs : Array Value} {y : MethodName} {len W9 : Nat}
theorem vx_back {ws : List Cond} {rm : Room} {Pc : Array Value → State → Prop} {Qc : Array Value → State → Outcome → State → Prop} {XC : String → State → State → Prop} {mc ms : Nat} {free : Addr → Prop} {bytes : ByteArray} {maxL : Nat} {ret : Option FieldType}
    (hM : vx_Met l y ws rm Pc Qc XC mc ms free) (hblind : FrameBlind Pc) (hrc : rm.cells = mc) (hrs : rm.slots = ms)
    (hframes : rm.frames + 1 ≤ R.frames) (hlocals : W9 + (maxL + 11) + rm.locals ≤ R.locals)
    (hws : ∀ w ∈ ws, ∀ a' U, s.WarmedH U.vm → w.before a' U = true) (hcode : Cond.code y bytes maxL ret ∈ ws) (hinit : ∀ a' U, s.WarmedH U.vm → (Cond.initialized y.cls).before a' U = true) :
    vx_Back l R p e below s sargs y len W9 (PreOf R mc ms Pc) (PostOf Qc mc ms free) (vx_Post XC mc ms free) := by
  intro m meth c A g ig mk a X hg hsize hdg hW hn hp
  have h1 : (headSpec ws rm).pre.before a A.U = true := atoms_intro fun w hw => hws w hw _ _ X.warmed
  have h2 : (Cond.code y bytes maxL ret).before a A.U = true := hws _ hcode _ _ X.warmed
  have h3 : (Cond.initialized y.cls).before a A.U = true := hinit _ _ X.warmed
  have h4 : A.cells + (headSpec ws rm).room.cells ≤ R.cells := by rw [show (headSpec ws rm).room.cells = mc from hrc]; exact hp.1
  have h5 : A.slots + (headSpec ws rm).room.slots ≤ R.slots := by rw [show (headSpec ws rm).room.slots = ms from hrs]; exact hp.2.1
  have hPc : Pc a (A.U.calling g mk a) := hblind _ _ _ _ hp.2.2
  obtain ⟨U, Ls, c0, s0⟩ := A
  dsimp only [Pt.U, Pt.locs, Pt.cells, Pt.slots] at h1 h2 h3 h4 h5 X hn hPc ⊢
  obtain ⟨methY, cY, hmY, hcY, -, hlY, -, -, -, -⟩ := Cond.code_spec hn h2
  obtain ⟨kY, hkY, -⟩ := className_of_methodNamed hn
  have hinitY : kY.init = .initialized := Cond.initialized_spec (findClass_of_methodNamed hn) hkY h3
  have h : At U g.method c below := by rw [hg]; exact X.here
  have hlocals9 : W9 + (maxL + 11) + (headSpec ws rm).room.locals ≤ R.locals := hlocals
  have happ : (headSpec ws rm).appliesLoose y e.platform (U.calling g mk a) = true :=
    Spec.appliesLoose_calling (g := g) h hdg hn hkY hinitY
      (X.room_calling (g := g) (R' := (headSpec ws rm).room) hsize hmY hcY hframes (by rw [hlY]; omega) h4 h5) h1
  obtain ⟨mid, hmid⟩ := h.above
  have hfr : (U.setTop g).frames = (.java g :: mid) ++ below := by rw [State.frames_setTop' g h.top, hmid]; rfl
  obtain ⟨o, s₂, hsteps, -, hend, hq⟩ := Steps.callFree hM p X.admits X.cas X.clock (acts := []) hfr happ hPc trivial
  have hq' : vx_Q Qc XC mc ms free a (U.calling g mk a) o s₂ := hq
  rw [State.frames_setTop' g h.top] at hend
  obtain ⟨g₀, hg0⟩ := Option.isSome_iff_exists.mp h.top
  obtain ⟨r, hr⟩ := State.topJava?_eq_some.mp hg0
  have hr' : (({ U with heap := s₂.heap, slotsUsed := s₂.slotsUsed } : State).setVm s₂.vm).frames = .java g₀ :: r := hr
  rcases hq' with ⟨hqc, L, hfe, hL⟩ | ⟨q, rfl, E, ce, L, hx, hce, hcv, hcl, hW₂, hsm, hL⟩
  · obtain ⟨⟨v, rfl⟩, hW₂, e2, q2, q3, q4, q5, q6⟩ := id hfe
    have e3 : s₂ = ({ (U.calling g mk a).setFrames s₂.frames with heap := s₂.heap, slotsUsed := s₂.slotsUsed } : State).setVm s₂.vm := by
      have : s₂ = ({ s₂ with vm := (U.calling g mk a).vm } : State).setVm s₂.vm := rfl
      rw [e2] at this
      exact this
    obtain ⟨c₂, i₂, len₂, hc₂, hd₂, hf₂⟩ := hend
    have hW' : U.WarmedH s₂.vm := hW₂
    have hcc : c₂ = c := by
      have h1 : s₂.code? g.method = U.code? g.method := by
        rw [State.code?_eq, State.code?_eq, hW'.alike.method?]
      exact Option.some.inj (hc₂.symm.trans (h1.trans h.code))
    subst hcc
    have hlen : len₂ = len := by rw [hdg] at hd₂; cases hd₂; rfl
    subst hlen
    have hs₂ : s₂ = (({ U with heap := s₂.heap, slotsUsed := s₂.slotsUsed } : State).setVm s₂.vm).setTop { g with pc := g.pc + len₂, stack := v.toList ++ g.stack } := by
      refine e3.trans ?_
      rw [hf₂, State.calling_eq h.top, State.setFrames_setFrames, State.setTop_of_frames _ hr', hr]
      rfl
    have hsame : U.sameButNew ({ U with heap := s₂.heap, slotsUsed := s₂.slotsUsed } : State) L mc ms := by
      refine ⟨?_, q2, q3, q4, q5, q6⟩
      obtain ⟨t, ht, -⟩ := State.frames_cons hr
      show ({ U with heap := s₂.heap, slotsUsed := s₂.slotsUsed } : State) = { U.setFrames U.frames with heap := s₂.heap, slotsUsed := s₂.slotsUsed }
      rw [State.setFrames_self ht]
    subst hg
    refine Or.inl ⟨v, ⟨(({ U with heap := s₂.heap, slotsUsed := s₂.slotsUsed } : State).setVm s₂.vm), Ls ++ L, c0 + mc, s0 + ms⟩,
      ⟨X.admits, X.cas, X.clock, X.frames, X.room, X.hears, X.method, X.code, (X.here.setHeapUsed s₂.heap s₂.slotsUsed).setVm hW'.alike, X.tail, State.WarmedH.trans X.warmed hW', X.limits, X.bytes, X.same.trans (hsame.setVm s.vm)⟩,
      ⟨g, mk, s₂, L, rfl, rfl, hqc, rfl, hL, rfl, rfl⟩, ?_⟩
    show Steps p.tables e below _ ((({ U with heap := s₂.heap, slotsUsed := s₂.slotsUsed } : State).setVm s₂.vm).setTop { g with pc := g.pc + len₂, stack := v.toList ++ g.stack })
    rw [← hs₂]
    exact hsteps
  · obtain ⟨e2, q2, q3, q4, q5, q6⟩ := id hsm
    have e3 : s₂ = ({ (U.calling g mk a).setFrames s₂.frames with heap := s₂.heap, slotsUsed := s₂.slotsUsed } : State).setVm s₂.vm := by
      have : s₂ = ({ s₂ with vm := (U.calling g mk a).vm } : State).setVm s₂.vm := rfl
      rw [e2] at this
      exact this
    have hf₂ : s₂.frames = .throwing q :: .java g :: U.frames.tail := hend
    have hW' : U.WarmedH s₂.vm := hW₂
    have hs₂ : s₂ = ((({ U with heap := s₂.heap, slotsUsed := s₂.slotsUsed } : State).setVm s₂.vm).setTop g).pushFrame (.throwing q) := by
      refine e3.trans ?_
      rw [hf₂, State.calling_eq h.top, State.setFrames_setFrames, State.pushFrame, State.frames_setTop _ hr', State.setTop_of_frames _ hr', State.setFrames_setFrames, hr]
      rfl
    have hsame : U.sameButNew ({ U with heap := s₂.heap, slotsUsed := s₂.slotsUsed } : State) L mc ms := by
      refine ⟨?_, q2, q3, q4, q5, q6⟩
      obtain ⟨t, ht, -⟩ := State.frames_cons hr
      show ({ U with heap := s₂.heap, slotsUsed := s₂.slotsUsed } : State) = { U.setFrames U.frames with heap := s₂.heap, slotsUsed := s₂.slotsUsed }
      rw [State.setFrames_self ht]
    subst hg
    refine Or.inr ⟨q, ⟨(({ U with heap := s₂.heap, slotsUsed := s₂.slotsUsed } : State).setVm s₂.vm), Ls ++ L, c0 + mc, s0 + ms⟩,
      ⟨X.admits, X.cas, X.clock, X.frames, X.room, X.hears, X.method, X.code, (X.here.setHeapUsed s₂.heap s₂.slotsUsed).setVm hW'.alike, X.tail, State.WarmedH.trans X.warmed hW', X.limits, X.bytes, X.same.trans (hsame.setVm s.vm)⟩,
      ⟨g, mk, s₂, L, E, ce, rfl, rfl, hx, hce, hcv, hcl, rfl, hL, rfl, rfl⟩, ?_⟩
    show Steps p.tables e below _ (((({ U with heap := s₂.heap, slotsUsed := s₂.slotsUsed } : State).setVm s₂.vm).setTop g).pushFrame (.throwing q))
    rw [← hs₂]
    exact hsteps
end Payer
section Calls
variable {p : Program} {l : Launch} {e : Env} {R : Room} {s : State} {m : MethodId} {args : Array Value} {below : List Frame} {meth : Method} {c : Code} {T : State} {locs : List Loc} {cells slots : Nat}
theorem vx_callV (X : Stand p l e R s m args below meth c T locs cells slots) (hexec : p.tables.exec = Jvm.exec) {own C : String} {index : Nat} {y : MethodName} {bytes : ByteArray} {maxL : Nat} {ret : Option FieldType}
    (hown : s.vm.findClass own = some m.cls) (hlink : (Cond.methodLink own index y).before args s = true) (hinst : (Cond.instanceMethod y).before args s = true) (hsel : (Cond.selects C y y).before args s = true)
    (hcode : (Cond.code y bytes maxL ret).before args s = true) (hy : y.cls ≠ "java/lang/invoke/MethodHandle" ∧ y.cls ≠ "java/lang/invoke/VarHandle")
    {W9 : Nat} {Pre : Pt → Array Value → Prop} {Post : Pt → Array Value → Option Value → Pt → Prop} {PostX : Pt → Array Value → Addr → Pt → Prop} (hK : vx_Back l R p e below s args y 3 W9 Pre Post PostX)
    {b : Addr} {cellB : Cell} (hcell : T.heap[b]? = some cellB) (hobj : cellB.vm.isStatics = false) (hcls : s.vm.findClass C = some cellB.cls)
    {g : JFrame} (hg : g.method = m) (hsize : g.locals.size = c.maxLocals) {argsL rest : List Value} (hlen : ∀ sig, parseMethodDescriptor y.desc = some sig → argsL.length = sig.parameters.length)
    (hstack : g.stack = argsL.reverse ++ .ref b :: rest) (hW : 2 * g.monitorRoom + (rest.map fun v => v.category).sum ≤ W9) (hdg : decode c.code g.pc = .ok (.invokevirtual index, 3))
    (hpre : ∀ vm₁, s.WarmedH vm₁ → Pre ⟨T.setVm vm₁, locs, cells, slots⟩ (Value.ref b :: argsL).toArray) :
    (∃ (v : Option Value) (vm₁ : Vm) (B : Pt), s.WarmedH vm₁ ∧ Stand p l e R s m args below meth c B.U B.locs B.cells B.slots ∧ Post ⟨T.setVm vm₁, locs, cells, slots⟩ (Value.ref b :: argsL).toArray v B ∧
      ∀ target, Steps p.tables e below (B.U.setTop { g with pc := g.pc + 3, stack := v.toList ++ rest }) target → Steps p.tables e below (T.setTop g) target) ∨
    (∃ (q : Addr) (vm₁ : Vm) (B : Pt), s.WarmedH vm₁ ∧ Stand p l e R s m args below meth c B.U B.locs B.cells B.slots ∧ PostX ⟨T.setVm vm₁, locs, cells, slots⟩ (Value.ref b :: argsL).toArray q B ∧
      Steps p.tables e below (T.setTop g) ((B.U.setTop { g with stack := rest }).pushFrame (.throwing q))) := by
  obtain ⟨mk, methM, hnamed, hmethM, hstM, habM⟩ := Cond.instanceMethod_spec hinst
  obtain ⟨methM', cM, hmethM', -, -, -, -, -, -, hsigM⟩ := Cond.code_spec hnamed hcode
  cases hmethM.symm.trans hmethM'
  obtain ⟨c2, r2, m2, q1, q2, q3, q4, kP, hkP, hkPi⟩ := Cond.selects_spec hsel
  cases hcls.symm.trans q1
  cases (State.methodFound?_of_named hnamed hy).symm.trans q2
  cases hnamed.symm.trans q3
  have hselP : selectMethod e.platform s.vm cellB.cls mk = .method mk := by rw [Launch.admits_selectMethod X.admits]; exact q4
  obtain ⟨vm₁, X₁, hstep₁⟩ := X.invokevirtual hexec hown hlink hnamed hmethM hstM hkP hkPi hy (a := b) (cell := cellB) hcell
    (fun z h => by rw [h] at hobj; cases hobj) hselP hmethM habM hkP hkPi (g := g) hg (argsL := argsL) (rest := rest) (hlen _ hsigM) hstack hdg
  rcases hK m meth c ⟨T.setVm vm₁, locs, cells, slots⟩ { g with stack := rest } (.invokevirtual index) mk (Value.ref b :: argsL).toArray X₁ hg hsize hdg hW (X₁.named hnamed) (hpre vm₁ X₁.warmed) with ⟨v, B, X', hpost, hsteps⟩ | ⟨q, B, X', hpost, hsteps⟩
  · exact Or.inl ⟨v, vm₁, B, X₁.warmed, X', hpost, fun target h => hstep₁ _ fun acts => by rw [doInvoke_state]; exact hsteps.trans h⟩
  · exact Or.inr ⟨q, vm₁, B, X₁.warmed, X', hpost, hstep₁ _ fun acts => by rw [doInvoke_state]; exact hsteps⟩
theorem vx_callS (X : Stand p l e R s m args below meth c T locs cells slots) (hexec : p.tables.exec = Jvm.exec) {own : String} {index : Nat} {y : MethodName} {bytes : ByteArray} {maxL : Nat} {ret : Option FieldType}
    (hown : s.vm.findClass own = some m.cls) (hlink : (Cond.methodLink own index y).before args s = true) (hstat : (Cond.static y).before args s = true) (hinit : (Cond.initialized y.cls).before args s = true)
    (hcode : (Cond.code y bytes maxL ret).before args s = true) (hy : y.cls ≠ "java/lang/invoke/MethodHandle" ∧ y.cls ≠ "java/lang/invoke/VarHandle")
    {W9 : Nat} {Pre : Pt → Array Value → Prop} {Post : Pt → Array Value → Option Value → Pt → Prop} {PostX : Pt → Array Value → Addr → Pt → Prop} (hK : vx_Back l R p e below s args y 3 W9 Pre Post PostX)
    {g : JFrame} (hg : g.method = m) (hsize : g.locals.size = c.maxLocals) {argsL rest : List Value} (hlen : ∀ sig, parseMethodDescriptor y.desc = some sig → argsL.length = sig.parameters.length)
    (hstack : g.stack = argsL.reverse ++ rest) (hW : 2 * g.monitorRoom + (rest.map fun v => v.category).sum ≤ W9) (hdg : decode c.code g.pc = .ok (.invokestatic index, 3))
    (hpre : ∀ vm₁, s.WarmedH vm₁ → Pre ⟨T.setVm vm₁, locs, cells, slots⟩ argsL.toArray) :
    (∃ (v : Option Value) (vm₁ : Vm) (B : Pt), s.WarmedH vm₁ ∧ Stand p l e R s m args below meth c B.U B.locs B.cells B.slots ∧ Post ⟨T.setVm vm₁, locs, cells, slots⟩ argsL.toArray v B ∧
      ∀ target, Steps p.tables e below (B.U.setTop { g with pc := g.pc + 3, stack := v.toList ++ rest }) target → Steps p.tables e below (T.setTop g) target) ∨
    (∃ (q : Addr) (vm₁ : Vm) (B : Pt), s.WarmedH vm₁ ∧ Stand p l e R s m args below meth c B.U B.locs B.cells B.slots ∧ PostX ⟨T.setVm vm₁, locs, cells, slots⟩ argsL.toArray q B ∧
      Steps p.tables e below (T.setTop g) ((B.U.setTop { g with stack := rest }).pushFrame (.throwing q))) := by
  obtain ⟨mk, hnamed⟩ := Cond.code_named hcode
  obtain ⟨methM, cM, hmethM, -, -, -, -, -, -, hsigM⟩ := Cond.code_spec hnamed hcode
  have hstatic : methM.isStatic = true := Cond.static_spec hnamed hmethM hstat
  obtain ⟨kP, hkP, -⟩ := className_of_methodNamed hnamed
  have hinitP : kP.init = .initialized := Cond.initialized_spec (findClass_of_methodNamed hnamed) hkP hinit
  obtain ⟨vm₁, X₁, hstep₁⟩ := X.invokestatic hexec hown hlink hnamed hmethM hstatic hkP hinitP hy (g := g) hg (argsL := argsL) (rest := rest) (hlen _ hsigM) hstack hdg
  rcases hK m meth c ⟨T.setVm vm₁, locs, cells, slots⟩ { g with stack := rest } (.invokestatic index) mk argsL.toArray X₁ hg hsize hdg hW (X₁.named hnamed) (hpre vm₁ X₁.warmed) with ⟨v, B, X', hpost, hsteps⟩ | ⟨q, B, X', hpost, hsteps⟩
  · exact Or.inl ⟨v, vm₁, B, X₁.warmed, X', hpost, fun target h => hstep₁ _ fun acts => by rw [doInvoke_state]; exact hsteps.trans h⟩
  · exact Or.inr ⟨q, vm₁, B, X₁.warmed, X', hpost, hstep₁ _ fun acts => by rw [doInvoke_state]; exact hsteps⟩
end Calls
theorem vx_cls {s : State} {T : State} {vm₁ : Vm} {E : String} {k : ClassId} (hW : s.WarmedH vm₁) (h : (T.setVm vm₁).vm.findClass E = some k) : s.vm.findClass E = some k := by
  have h1 : vm₁.findClass E = some k := h
  rw [hW.alike.findClass] at h1
  exact h1
/-- the method's frame g, with q thrown over it -/
def vx_W (p : Program) (l : Launch) (e : Env) (R : Room) (s : State) (m : MethodId) (args : Array Value) (below : List Frame) (meth : Method) (c : Code) (H : Heap) (locs : List Loc) (cells slots : Nat) (Q : State → Prop) (g : JFrame) (q : Addr) : Prop :=
  ∀ T : State, T.heap = H → Stand p l e R s m args below meth c T locs cells slots → ∃ t, Steps p.tables e below ((T.setTop g).pushFrame (.throwing q)) t ∧ Q t
def vx_Run (p : Program) (l : Launch) (e : Env) (R : Room) (s : State) (m : MethodId) (args : Array Value) (below : List Frame) (meth : Method) (c : Code) (H : Heap) (locs : List Loc) (cells slots mc ms : Nat) (g : JFrame) (rest : List Value) (Qa : State → Outcome → State → Prop) (XC : String → State → State → Prop) (free : Addr → Prop) : Prop :=
  ∀ T : State, T.heap = H → Stand p l e R s m args below meth c T locs cells slots →
    (∃ (v : Option Value) (st₀ t T' : State) (L : List Loc), st₀.heap = H ∧ Stand p l e R s m args below meth c T' (locs ++ L) (cells + mc) (slots + ms) ∧ (∀ q ∈ L, free q.base) ∧ T'.heap = t.heap ∧ T'.vm = t.vm ∧ Qa st₀ (.returned v) t ∧
      Goes p e below T g T' { g with pc := g.pc + 3, stack := v.toList ++ rest }) ∨
    (∃ (q : Addr) (st₀ t T' : State) (L : List Loc) (E : String) (ce : Cell), st₀.heap = H ∧ Stand p l e R s m args below meth c T' (locs ++ L) (cells + mc) (slots + ms) ∧ (∀ z ∈ L, free z.base) ∧ T'.heap = t.heap ∧ T'.vm = t.vm ∧ XC E st₀ t ∧ t.heap[q]? = some ce ∧ ce.vm = .none ∧ s.vm.findClass E = some ce.cls ∧
      Steps p.tables e below (T.setTop g) ((T'.setTop { g with stack := rest }).pushFrame (.throwing q)))
def vx_X {S : Type} (px : S → Prop) (B : String → S → State → Prop) (A : Nat → Prop) : String → State → State → Prop := fun E st t => ∃ u : S, px u ∧ B E u t ∧ va_F A st t
section Runs
variable {p : Program} {l : Launch} {e : Env} {R : Room} {s : State} {m : MethodId} {args : Array Value} {below : List Frame} {meth : Method} {c : Code} {H : Heap} {locs : List Loc} {cells slots : Nat}
variable {y : MethodName} {bytes cc : ByteArray} {maxL nL mc ms n index : Nat} {ret : Option FieldType} {ws : List Cond} {rm : Room} {Pc : Array Value → State → Prop} {Qc : Array Value → State → Outcome → State → Prop} {XC : String → State → State → Prop} {free : Addr → Prop} {Ts : List Cond} {own C : String} {b : Addr} {As rest : List Value} {g : JFrame}
theorem vx_callBack (cb : CallB R s args own index y bytes maxL ret ws rm mc ms n) (hM : vx_Met l y ws rm Pc Qc XC mc ms free) (hbl : FrameBlind Pc) : vx_Back l R p e below s args y 3 8 (PreOf R mc ms Pc) (PostOf Qc mc ms free) (vx_Post XC mc ms free) := by
  obtain ⟨hrc, hrs, hfr, hlo, hws, hcw, -, hini, -⟩ := cb
  exact vx_back (bytes := bytes) (maxL := maxL) (ret := ret) hM hbl hrc hrs hfr hlo hws hcw (fun a' U hW => word_at hW (Or.inl (by first | rfl | simp [Cond.onTables, Cond.keeps, Cond.steady])) hini)
theorem vx_runV (S : CallFix p m c cc nL s args Ts own) (hM : vx_Met l y ws rm Pc Qc XC mc ms free) (cw : CallW R s args own C index y bytes maxL ret ws rm mc ms n) (hp : PreV s H C b Pc As)
    (hg : g.method = m) (hn : As.length = n) (hsize : g.locals.size = nL) (hstack : g.stack = As.reverse ++ .ref b :: rest) (hW : 2 * g.monitorRoom + (rest.map fun v => v.category).sum ≤ 8) (hdg : decode cc g.pc = .ok (.invokevirtual index, 3)) (hf : cells + mc ≤ R.cells ∧ slots + ms ≤ R.slots) :
    vx_Run p l e R s m args below meth c H locs cells slots mc ms g rest (Qc (Value.ref b :: As).toArray) XC free := by
  have hK : vx_Back l R p e below s args y 3 8 (PreOf R mc ms Pc) (PostOf Qc mc ms free) (vx_Post XC mc ms free) := vx_callBack cw.1 hM hp.1
  obtain ⟨⟨-, -, -, -, -, -, hcode, -, hy, hlen, hl⟩, hin, hse⟩ := cw
  obtain ⟨hx, hb, hml, ho, -⟩ := S
  obtain ⟨-, ⟨cellB, hcB, hoB, hclB⟩, hPc⟩ := hp
  intro T hT X
  rcases vx_callV X hx (C := C) (bytes := bytes) (maxL := maxL) (ret := ret) ho hl hin hse hcode hy hK (by rw [hT]; exact hcB) hoB hclB hg (hsize.trans hml.symm) (argsL := As) (rest := rest) (fun sig h => hn.trans (hlen sig h)) hstack hW (by rw [hb]; exact hdg)
    (fun vm₁ hW₁ => ⟨hf.1, hf.2, hPc (T.setVm vm₁) hT hW₁⟩) with ⟨v, vm₁, ⟨U', l2, c2, s2⟩, hW₁, X', ⟨g', mk, t, L, e1, e2, hq, h1, hL, h2, h3⟩, st⟩ | ⟨q, vm₁, ⟨U', l2, c2, s2⟩, hW₁, X', ⟨g', mk, t, L, E, ce, e1, e2, hq, hce, hcv, hcl, h1, hL, h2, h3⟩, st⟩
  · dsimp only [Pt.U, Pt.locs, Pt.cells, Pt.slots] at X' e1 e2 h1 h2 h3 st
    subst h1; subst h2; subst h3
    exact Or.inl ⟨v, (T.setVm vm₁).calling g' mk (Value.ref b :: As).toArray, t, U', L, hT, X', hL, e1, e2, hq, st⟩
  · dsimp only [Pt.U, Pt.locs, Pt.cells, Pt.slots] at X' e1 e2 h1 h2 h3 st hcl
    subst h1; subst h2; subst h3
    exact Or.inr ⟨q, (T.setVm vm₁).calling g' mk (Value.ref b :: As).toArray, t, U', L, E, ce, hT, X', hL, e1, e2, hq, hce, hcv, vx_cls hW₁ hcl, st⟩
theorem vx_runS (S : CallFix p m c cc nL s args Ts own) (hM : vx_Met l y ws rm Pc Qc XC mc ms free) (cw : CallB R s args own index y bytes maxL ret ws rm mc ms n ∧ (Cond.static y).before args s = true) (hp : PreS s H Pc As)
    (hg : g.method = m) (hn : As.length = n) (hsize : g.locals.size = nL) (hstack : g.stack = As.reverse ++ rest) (hW : 2 * g.monitorRoom + (rest.map fun v => v.category).sum ≤ 8) (hdg : decode cc g.pc = .ok (.invokestatic index, 3)) (hf : cells + mc ≤ R.cells ∧ slots + ms ≤ R.slots) :
    vx_Run p l e R s m args below meth c H locs cells slots mc ms g rest (Qc As.toArray) XC free := by
  have hK : vx_Back l R p e below s args y 3 8 (PreOf R mc ms Pc) (PostOf Qc mc ms free) (vx_Post XC mc ms free) := vx_callBack cw.1 hM hp.1
  obtain ⟨⟨-, -, -, -, -, -, hcode, hini, hy, hlen, hl⟩, hstt⟩ := cw
  obtain ⟨hx, hb, hml, ho, -⟩ := S
  intro T hT X
  rcases vx_callS X hx (bytes := bytes) (maxL := maxL) (ret := ret) ho hl hstt hini hcode hy hK hg (hsize.trans hml.symm) (argsL := As) (rest := rest) (fun sig h => hn.trans (hlen sig h)) hstack hW (by rw [hb]; exact hdg)
    (fun vm₁ hW₁ => ⟨hf.1, hf.2, hp.2 (T.setVm vm₁) hT hW₁⟩) with ⟨v, vm₁, ⟨U', l2, c2, s2⟩, hW₁, X', ⟨g', mk, t, L, e1, e2, hq, h1, hL, h2, h3⟩, st⟩ | ⟨q, vm₁, ⟨U', l2, c2, s2⟩, hW₁, X', ⟨g', mk, t, L, E, ce, e1, e2, hq, hce, hcv, hcl, h1, hL, h2, h3⟩, st⟩
  · dsimp only [Pt.U, Pt.locs, Pt.cells, Pt.slots] at X' e1 e2 h1 h2 h3 st
    subst h1; subst h2; subst h3
    exact Or.inl ⟨v, (T.setVm vm₁).calling g' mk As.toArray, t, U', L, hT, X', hL, e1, e2, hq, st⟩
  · dsimp only [Pt.U, Pt.locs, Pt.cells, Pt.slots] at X' e1 e2 h1 h2 h3 st hcl
    subst h1; subst h2; subst h3
    exact Or.inr ⟨q, (T.setVm vm₁).calling g' mk As.toArray, t, U', L, E, ce, hT, X', hL, e1, e2, hq, hce, hcv, vx_cls hW₁ hcl, st⟩
end Runs
section Rows
variable {p : Program} {l : Launch} {e : Env} {R : Room} {s : State} {m : MethodId} {args : Array Value} {below : List Frame} {meth : Method} {c : Code} {H : Heap} {locs : List Loc} {cells slots : Nat} {Q : State → Prop}
variable {mc ms : Nat} {free : Addr → Prop} {A0 A1 : Nat → Prop} {H0 : Heap} {a : Array Value} {pc : Nat} {ls : Array Slot} {st0 rest : List Value}
theorem vx_keep {st₀ t T' : State} {L : List Loc} (h0 : st₀.heap = H) (e1 : T'.heap = t.heap) (hS : va_S A0 H0 H locs) (hA : ∀ q, q < H.size → A1 q → A0 q) (hf : ∀ q, free q → A0 q) (hL : ∀ q ∈ L, free q.base) (hF : va_F A1 st₀ t) :
    H.size ≤ T'.heap.size ∧ (∀ q : Nat, q < H.size → ¬ A1 q → T'.heap[q]? = H[q]?) ∧ va_S A0 H0 T'.heap (locs ++ L) := by
  obtain ⟨hz, hk⟩ := hF
  rw [h0] at hz hk
  exact ⟨by rw [e1]; exact hz, fun q h1 h2 => by rw [e1]; exact hk q h1 h2,
    ⟨Nat.le_trans hS.1 (by rw [e1]; exact hz), fun q h1 h2 => by rw [e1, hk q (Nat.lt_of_lt_of_le h1 hS.1) (fun z => h2 (hA q (Nat.lt_of_lt_of_le h1 hS.1) z))]; exact hS.2.1 q h1 h2, fun q hq => by
      rcases List.mem_append.mp hq with h | h
      · exact hS.2.2 q h
      · exact hf _ (hL q h)⟩⟩
theorem vx_calli {S SX : Type} {post : Int32 → S → Prop} {px : SX → Prop} {B : S → State → Prop} {BX : String → SX → State → Prop} {AX : Nat → Prop} (hr : vx_Run p l e R s m args below meth c H locs cells slots mc ms (F0 m pc ls st0) rest (va_Qi post B A1 a) (vx_X px BX AX) free) (hS : va_S A0 H0 H locs) (hA : ∀ q, q < H.size → A1 q → A0 q) (hf : ∀ q, free q → A0 q) (hAX : ∀ q, q < H.size → AX q → A0 q)
    (kx : ∀ (E : String) (ce : Cell) (q9 : Addr) (u : SX) (t : State) (H1 : Heap) (locs1 : List Loc), t.heap = H1 → s.vm.Alike t.vm → px u → BX E u t → H.size ≤ H1.size → (∀ q : Nat, q < H.size → ¬ AX q → H1[q]? = H[q]?) → va_S A0 H0 H1 locs1 → H1[q9]? = some ce → ce.vm = .none → s.vm.findClass E = some ce.cls → vx_W p l e R s m args below meth c H1 locs1 (cells + mc) (slots + ms) Q (F0 m pc ls rest) q9)
    (kk : ∀ (r : Int32) (u : S) (t : State) (H1 : Heap) (locs1 : List Loc), t.heap = H1 → s.vm.Alike t.vm → post r u → B u t → H.size ≤ H1.size → (∀ q : Nat, q < H.size → ¬ A1 q → H1[q]? = H[q]?) → va_S A0 H0 H1 locs1 → W p l e R s m args below meth c H1 locs1 (cells + mc) (slots + ms) Q (F0 m (pc + 3) ls (.int r :: rest))) : W p l e R s m args below meth c H locs cells slots Q (F0 m pc ls st0) := by
  intro T hT X
  rcases hr T hT X with ⟨v, st₀, t, T', L, h0, X', hL, e1, e2, ⟨⟨r, u, hv, hp, hb⟩, hF⟩, st⟩ | ⟨q, st₀, t, T', L, E, ce, h0, X', hL, e1, e2, ⟨u, hp, hb, hF⟩, hce, hcv, hcl, st⟩
  · cases hv
    obtain ⟨k1, k2, k3⟩ := vx_keep h0 e1 hS hA hf hL hF
    obtain ⟨t2, a1, b1⟩ := kk r u t T'.heap (locs ++ L) e1.symm (by rw [← e2]; exact X'.warmed.alike) hp hb k1 k2 k3 T' rfl X'
    exact ⟨t2, st t2 a1, b1⟩
  · obtain ⟨k1, k2, k3⟩ := vx_keep h0 e1 hS hAX hf hL hF
    obtain ⟨t2, a1, b1⟩ := kx E ce q u t T'.heap (locs ++ L) e1.symm (by rw [← e2]; exact X'.warmed.alike) hp hb k1 k2 k3 (by rw [e1]; exact hce) hcv hcl T' rfl X'
    exact ⟨t2, st.trans a1, b1⟩
theorem vx_calll {S SX : Type} {post : Int64 → S → Prop} {px : SX → Prop} {B : S → State → Prop} {BX : String → SX → State → Prop} {AX : Nat → Prop} (hr : vx_Run p l e R s m args below meth c H locs cells slots mc ms (F0 m pc ls st0) rest (va_Ql post B A1 a) (vx_X px BX AX) free) (hS : va_S A0 H0 H locs) (hA : ∀ q, q < H.size → A1 q → A0 q) (hf : ∀ q, free q → A0 q) (hAX : ∀ q, q < H.size → AX q → A0 q)
    (kx : ∀ (E : String) (ce : Cell) (q9 : Addr) (u : SX) (t : State) (H1 : Heap) (locs1 : List Loc), t.heap = H1 → s.vm.Alike t.vm → px u → BX E u t → H.size ≤ H1.size → (∀ q : Nat, q < H.size → ¬ AX q → H1[q]? = H[q]?) → va_S A0 H0 H1 locs1 → H1[q9]? = some ce → ce.vm = .none → s.vm.findClass E = some ce.cls → vx_W p l e R s m args below meth c H1 locs1 (cells + mc) (slots + ms) Q (F0 m pc ls rest) q9)
    (kk : ∀ (r : Int64) (u : S) (t : State) (H1 : Heap) (locs1 : List Loc), t.heap = H1 → s.vm.Alike t.vm → post r u → B u t → H.size ≤ H1.size → (∀ q : Nat, q < H.size → ¬ A1 q → H1[q]? = H[q]?) → va_S A0 H0 H1 locs1 → W p l e R s m args below meth c H1 locs1 (cells + mc) (slots + ms) Q (F0 m (pc + 3) ls (.long r :: rest))) : W p l e R s m args below meth c H locs cells slots Q (F0 m pc ls st0) := by
  intro T hT X
  rcases hr T hT X with ⟨v, st₀, t, T', L, h0, X', hL, e1, e2, ⟨⟨r, u, hv, hp, hb⟩, hF⟩, st⟩ | ⟨q, st₀, t, T', L, E, ce, h0, X', hL, e1, e2, ⟨u, hp, hb, hF⟩, hce, hcv, hcl, st⟩
  · cases hv
    obtain ⟨k1, k2, k3⟩ := vx_keep h0 e1 hS hA hf hL hF
    obtain ⟨t2, a1, b1⟩ := kk r u t T'.heap (locs ++ L) e1.symm (by rw [← e2]; exact X'.warmed.alike) hp hb k1 k2 k3 T' rfl X'
    exact ⟨t2, st t2 a1, b1⟩
  · obtain ⟨k1, k2, k3⟩ := vx_keep h0 e1 hS hAX hf hL hF
    obtain ⟨t2, a1, b1⟩ := kx E ce q u t T'.heap (locs ++ L) e1.symm (by rw [← e2]; exact X'.warmed.alike) hp hb k1 k2 k3 (by rw [e1]; exact hce) hcv hcl T' rfl X'
    exact ⟨t2, st.trans a1, b1⟩
theorem vx_callf {S SX : Type} {post : UInt32 → S → Prop} {px : SX → Prop} {B : S → State → Prop} {BX : String → SX → State → Prop} {AX : Nat → Prop} (hr : vx_Run p l e R s m args below meth c H locs cells slots mc ms (F0 m pc ls st0) rest (va_Qf post B A1 a) (vx_X px BX AX) free) (hS : va_S A0 H0 H locs) (hA : ∀ q, q < H.size → A1 q → A0 q) (hf : ∀ q, free q → A0 q) (hAX : ∀ q, q < H.size → AX q → A0 q)
    (kx : ∀ (E : String) (ce : Cell) (q9 : Addr) (u : SX) (t : State) (H1 : Heap) (locs1 : List Loc), t.heap = H1 → s.vm.Alike t.vm → px u → BX E u t → H.size ≤ H1.size → (∀ q : Nat, q < H.size → ¬ AX q → H1[q]? = H[q]?) → va_S A0 H0 H1 locs1 → H1[q9]? = some ce → ce.vm = .none → s.vm.findClass E = some ce.cls → vx_W p l e R s m args below meth c H1 locs1 (cells + mc) (slots + ms) Q (F0 m pc ls rest) q9)
    (kk : ∀ (r : UInt32) (u : S) (t : State) (H1 : Heap) (locs1 : List Loc), t.heap = H1 → s.vm.Alike t.vm → post r u → B u t → H.size ≤ H1.size → (∀ q : Nat, q < H.size → ¬ A1 q → H1[q]? = H[q]?) → va_S A0 H0 H1 locs1 → W p l e R s m args below meth c H1 locs1 (cells + mc) (slots + ms) Q (F0 m (pc + 3) ls (.float r :: rest))) : W p l e R s m args below meth c H locs cells slots Q (F0 m pc ls st0) := by
  intro T hT X
  rcases hr T hT X with ⟨v, st₀, t, T', L, h0, X', hL, e1, e2, ⟨⟨r, u, hv, hp, hb⟩, hF⟩, st⟩ | ⟨q, st₀, t, T', L, E, ce, h0, X', hL, e1, e2, ⟨u, hp, hb, hF⟩, hce, hcv, hcl, st⟩
  · cases hv
    obtain ⟨k1, k2, k3⟩ := vx_keep h0 e1 hS hA hf hL hF
    obtain ⟨t2, a1, b1⟩ := kk r u t T'.heap (locs ++ L) e1.symm (by rw [← e2]; exact X'.warmed.alike) hp hb k1 k2 k3 T' rfl X'
    exact ⟨t2, st t2 a1, b1⟩
  · obtain ⟨k1, k2, k3⟩ := vx_keep h0 e1 hS hAX hf hL hF
    obtain ⟨t2, a1, b1⟩ := kx E ce q u t T'.heap (locs ++ L) e1.symm (by rw [← e2]; exact X'.warmed.alike) hp hb k1 k2 k3 (by rw [e1]; exact hce) hcv hcl T' rfl X'
    exact ⟨t2, st.trans a1, b1⟩
theorem vx_calld {S SX : Type} {post : UInt64 → S → Prop} {px : SX → Prop} {B : S → State → Prop} {BX : String → SX → State → Prop} {AX : Nat → Prop} (hr : vx_Run p l e R s m args below meth c H locs cells slots mc ms (F0 m pc ls st0) rest (va_Qd post B A1 a) (vx_X px BX AX) free) (hS : va_S A0 H0 H locs) (hA : ∀ q, q < H.size → A1 q → A0 q) (hf : ∀ q, free q → A0 q) (hAX : ∀ q, q < H.size → AX q → A0 q)
    (kx : ∀ (E : String) (ce : Cell) (q9 : Addr) (u : SX) (t : State) (H1 : Heap) (locs1 : List Loc), t.heap = H1 → s.vm.Alike t.vm → px u → BX E u t → H.size ≤ H1.size → (∀ q : Nat, q < H.size → ¬ AX q → H1[q]? = H[q]?) → va_S A0 H0 H1 locs1 → H1[q9]? = some ce → ce.vm = .none → s.vm.findClass E = some ce.cls → vx_W p l e R s m args below meth c H1 locs1 (cells + mc) (slots + ms) Q (F0 m pc ls rest) q9)
    (kk : ∀ (r : UInt64) (u : S) (t : State) (H1 : Heap) (locs1 : List Loc), t.heap = H1 → s.vm.Alike t.vm → post r u → B u t → H.size ≤ H1.size → (∀ q : Nat, q < H.size → ¬ A1 q → H1[q]? = H[q]?) → va_S A0 H0 H1 locs1 → W p l e R s m args below meth c H1 locs1 (cells + mc) (slots + ms) Q (F0 m (pc + 3) ls (.double r :: rest))) : W p l e R s m args below meth c H locs cells slots Q (F0 m pc ls st0) := by
  intro T hT X
  rcases hr T hT X with ⟨v, st₀, t, T', L, h0, X', hL, e1, e2, ⟨⟨r, u, hv, hp, hb⟩, hF⟩, st⟩ | ⟨q, st₀, t, T', L, E, ce, h0, X', hL, e1, e2, ⟨u, hp, hb, hF⟩, hce, hcv, hcl, st⟩
  · cases hv
    obtain ⟨k1, k2, k3⟩ := vx_keep h0 e1 hS hA hf hL hF
    obtain ⟨t2, a1, b1⟩ := kk r u t T'.heap (locs ++ L) e1.symm (by rw [← e2]; exact X'.warmed.alike) hp hb k1 k2 k3 T' rfl X'
    exact ⟨t2, st t2 a1, b1⟩
  · obtain ⟨k1, k2, k3⟩ := vx_keep h0 e1 hS hAX hf hL hF
    obtain ⟨t2, a1, b1⟩ := kx E ce q u t T'.heap (locs ++ L) e1.symm (by rw [← e2]; exact X'.warmed.alike) hp hb k1 k2 k3 (by rw [e1]; exact hce) hcv hcl T' rfl X'
    exact ⟨t2, st.trans a1, b1⟩
theorem vx_callv {S SX : Type} {post : S → Prop} {px : SX → Prop} {B : S → State → Prop} {BX : String → SX → State → Prop} {AX : Nat → Prop} (hr : vx_Run p l e R s m args below meth c H locs cells slots mc ms (F0 m pc ls st0) rest (va_Qv post B A1 a) (vx_X px BX AX) free) (hS : va_S A0 H0 H locs) (hA : ∀ q, q < H.size → A1 q → A0 q) (hf : ∀ q, free q → A0 q) (hAX : ∀ q, q < H.size → AX q → A0 q)
    (kx : ∀ (E : String) (ce : Cell) (q9 : Addr) (u : SX) (t : State) (H1 : Heap) (locs1 : List Loc), t.heap = H1 → s.vm.Alike t.vm → px u → BX E u t → H.size ≤ H1.size → (∀ q : Nat, q < H.size → ¬ AX q → H1[q]? = H[q]?) → va_S A0 H0 H1 locs1 → H1[q9]? = some ce → ce.vm = .none → s.vm.findClass E = some ce.cls → vx_W p l e R s m args below meth c H1 locs1 (cells + mc) (slots + ms) Q (F0 m pc ls rest) q9)
    (kk : ∀ (u : S) (t : State) (H1 : Heap) (locs1 : List Loc), t.heap = H1 → s.vm.Alike t.vm → post u → B u t → H.size ≤ H1.size → (∀ q : Nat, q < H.size → ¬ A1 q → H1[q]? = H[q]?) → va_S A0 H0 H1 locs1 → W p l e R s m args below meth c H1 locs1 (cells + mc) (slots + ms) Q (F0 m (pc + 3) ls (rest))) : W p l e R s m args below meth c H locs cells slots Q (F0 m pc ls st0) := by
  intro T hT X
  rcases hr T hT X with ⟨v, st₀, t, T', L, h0, X', hL, e1, e2, ⟨⟨u, hv, hp, hb⟩, hF⟩, st⟩ | ⟨q, st₀, t, T', L, E, ce, h0, X', hL, e1, e2, ⟨u, hp, hb, hF⟩, hce, hcv, hcl, st⟩
  · cases hv
    obtain ⟨k1, k2, k3⟩ := vx_keep h0 e1 hS hA hf hL hF
    obtain ⟨t2, a1, b1⟩ := kk u t T'.heap (locs ++ L) e1.symm (by rw [← e2]; exact X'.warmed.alike) hp hb k1 k2 k3 T' rfl X'
    exact ⟨t2, st t2 a1, b1⟩
  · obtain ⟨k1, k2, k3⟩ := vx_keep h0 e1 hS hAX hf hL hF
    obtain ⟨t2, a1, b1⟩ := kx E ce q u t T'.heap (locs ++ L) e1.symm (by rw [← e2]; exact X'.warmed.alike) hp hb k1 k2 k3 (by rw [e1]; exact hce) hcv hcl T' rfl X'
    exact ⟨t2, st.trans a1, b1⟩
/-- caught by the row x of this method's table; the rows ahead don't take it -/
theorem vx_catch {own name : String} {E : String} {ce : Cell} {q : Addr} (hown : s.vm.findClass own = some m.cls) (pre : List ExceptionTableEntry) (x : ExceptionTableEntry) (suf : List ExceptionTableEntry) (hsplit : c.exceptionTable.toList = pre ++ x :: suf)
    (hpass : ∀ z ∈ pre, covers z pc = false ∨ (z.catchType ≠ 0 ∧ ∃ nm : String, (Cond.classLink own z.catchType nm).before args s = true ∧ va_Nc E nm s)) (hx : covers x pc = true) (h0 : x.catchType ≠ 0)
    (hlink : (Cond.classLink own x.catchType name).before args s = true) (hcast : (Cond.castable E name).before args s = true) (hcell : H[q]? = some ce) (hv : ce.vm = .none) (hcl : s.vm.findClass E = some ce.cls)
    (kk : W p l e R s m args below meth c H locs cells slots Q (F0 m x.handlerPc ls [.ref q])) : vx_W p l e R s m args below meth c H locs cells slots Q (F0 m pc ls rest) q := by
  intro T hT X
  have hpl : e.platform.magicAccessors = ({} : Platform).magicAccessors := by rw [X.admits.platform]
  obtain ⟨c3, c4, hc3, hc4, hasg⟩ := Cond.castable_spec hcast
  cases Option.some.inj (hc3.symm.trans hcl)
  obtain ⟨c5, hc5, hcl5⟩ := Cond.classLink_spec hown hlink e.platform hpl
  cases Option.some.inj (hc4.symm.trans hc5)
  obtain ⟨vm', X', st⟩ := X.thenCaughtThrough q (g := F0 m pc ls rest) rfl (Steps.refl _) (by rw [hT]; exact hcell) (by rw [hv]; rfl) (by obtain ⟨k9, h9, -⟩ := Vm.findClass_spec hcl; exact ⟨k9, h9⟩) pre x suf hsplit
    (fun z hz => by
      rcases hpass z hz with h | ⟨hz0, nm, hl1, hn1⟩
      · exact Or.inl h
      · obtain ⟨c6, hc6, hcl6⟩ := Cond.classLink_spec hown hl1 e.platform hpl
        obtain ⟨a8, b8, h1, h2, h3⟩ := hn1
        cases Option.some.inj (h1.symm.trans hcl)
        cases Option.some.inj (h2.symm.trans hc6)
        exact Or.inr ⟨hz0, _, hcl6, h3⟩) hx (Or.inr ⟨h0, c4, hcl5, hasg⟩)
  obtain ⟨t, a1, b1⟩ := kk (T.setVm vm') hT X'
  exact ⟨t, st.trans a1, b1⟩
end Rows
section Ends
variable {p : Program} {l : Launch} {e : Env} {R : Room} {s : State} {m : MethodId} {args : Array Value} {below : List Frame} {meth : Method} {c : Code} {H : Heap} {locs : List Loc} {cells slots : Nat} {Q : State → Prop}
variable {mc ms : Nat} {free : Addr → Prop} {A0 A1 : Nat → Prop} {H0 : Heap} {a : Array Value} {ls : Array Slot} {st0 rest : List Value}
variable {Qc : Array Value → State → Outcome → State → Prop} {XC : String → State → State → Prop}
/-- what a body that may throw owes at its end -/
def vx_MQ (below : List Frame) (Qc : Array Value → State → Outcome → State → Prop) (XC : String → State → State → Prop) (a : Array Value) (s : State) (mc ms : Nat) (free : Addr → Prop) : State → Prop := fun t =>
  ∃ o, t.status = .running ∧ Ended t below o ∧ vx_Q Qc XC mc ms free a s o t
theorem vx_ret {g : JFrame} {mc ms : Nat} (k : W p l e R s m args below meth c H locs cells slots (MQ below Qc args s mc ms free) g) : W p l e R s m args below meth c H locs cells slots (vx_MQ below Qc XC args s mc ms free) g := by
  intro T hT X
  obtain ⟨t, a1, o, b1, b2, b3, b4⟩ := k T hT X
  exact ⟨t, a1, o, b1, b2, Or.inl ⟨b3, b4⟩⟩
/-- not caught here: it goes on to the caller -/
theorem vx_widen {g : JFrame} {q : Addr} {k n : Nat} (h1 : cells ≤ k) (h2 : slots ≤ n) (kk : vx_W p l e R s m args below meth c H locs k n Q g q) : vx_W p l e R s m args below meth c H locs cells slots Q g q := fun T hT X => kk T hT (stand_widen X h1 h2)
theorem vx_out {pc : Nat} {E : String} {ce : Cell} {q : Addr} {mc ms : Nat} (hout : ∀ x ∈ c.exceptionTable.toList, covers x pc = false) (hlocks : meth.locks = false) (hcell : H[q]? = some ce) (hv : ce.vm = .none) (hcl : s.vm.findClass E = some ce.cls)
    (hx : ∀ t : State, t.heap = H → s.vm.Alike t.vm → XC E s t) (hf : ∀ z ∈ locs, free z.base) (hc : cells ≤ mc) (hs : slots ≤ ms) :
    vx_W p l e R s m args below meth c H locs cells slots (vx_MQ below Qc XC args s mc ms free) (F0 m pc ls rest) q := by
  intro T hT X
  obtain ⟨st1, hrun, hend, hW, hsm⟩ := X.leaveThrown q (g := F0 m pc ls rest) rfl rfl rfl hout hlocks
  have hcell9 : (T.setFrames (.throwing q :: below)).heap[q]? = some ce := by
    show T.heap[q]? = some ce
    rw [hT]; exact hcell
  exact ⟨_, st1, .threw q, hrun, hend, Or.inr ⟨q, rfl, E, ce, locs, hx _ hT hW.alike, hcell9, hv, hcl, hW, hsm.mono hc hs, hf⟩⟩
theorem vx_frame {U : State} {k n : Nat} (h : s.sameButNew ({ U with vm := s.vm } : State) locs k n) : s.heap.size ≤ U.heap.size ∧ ∀ q : Nat, q < s.heap.size → (∀ z ∈ locs, z.base ≠ q) → U.heap[q]? = s.heap[q]? := by
  obtain ⟨-, h2, -, -, -, h6⟩ := h
  refine ⟨h2, fun q hq hz => ?_⟩
  obtain ⟨c9, e1, e2, e3, e4⟩ := h6 q _ (Array.getElem?_eq_getElem hq)
  have hs : c9.slots = (s.heap[q]).slots := Array.ext_getElem? fun i => e4 i fun hm => hz _ hm rfl
  have h9 : c9 = s.heap[q] := by
    rw [hs] at e2
    exact e2
  have e5 : U.heap[q]? = some c9 := e1
  rw [e5, h9, Array.getElem?_eq_getElem hq]
/-- the words of a throw but the four that speak of the heap -/
def vx_no (w : Cond) : Bool := decide (w ≠ .isRef (.static Bundle.tN "UNASSIGNED_STACK" Bundle.steD)) && decide (w ≠ .isRef (.static Bundle.tN "SUPPRESSED_SENTINEL" Bundle.listD)) && decide (w ≠ .laysStatic Bundle.tN "UNASSIGNED_STACK" Bundle.steD) && decide (w ≠ .laysStatic Bundle.tN "SUPPRESSED_SENTINEL" Bundle.listD)
def vx_at0 (own : String) (ic : Nat) (X : String) (names : List String) : List Cond := (Bundle.ownAtoms0 own ic X names).filter vx_no
def vx_atS (own : String) (ic : Nat) (X : String) (names : List String) : List Cond := (Bundle.ownAtoms own ic X names).filter vx_no
/-- a word that the tables alone decide, or a good one -/
def vx_ot (w : Cond) : Bool := w.onTables || goodWord w
theorem vx_ot_at {args a' : Array Value} {s U : State} {w : Cond} (hW : s.WarmedH U.vm) (hvm : s.vm = U.vm) (hg : vx_ot w = true) (h : w.before args s = true) : w.before a' U = true := by
  simp only [vx_ot, Bool.or_eq_true] at hg
  rcases hg with hg | hg
  · exact va_tabs hg hvm h
  · exact word_at hW (good_of_word hg) h
/-- a list's words: the good ones out of the method's own list, the others by premises of their own -/
theorem vx_hat {args : Array Value} {s : State} {L B : List Cond} (h1 : ∀ w ∈ L.filter goodWord, w.before args s = true) (h2 : ∀ w ∈ L.filter (fun w => !goodWord w), w ∈ B) (h3 : ∀ w ∈ B, w.before args s = true) : ∀ w ∈ L, w.before args s = true := by
  intro w hw
  by_cases g : goodWord w = true
  · exact h1 w (List.mem_filter.mpr ⟨hw, g⟩)
  · refine h3 w (h2 w (List.mem_filter.mpr ⟨hw, ?_⟩))
    show (!goodWord w) = true
    cases hgw : goodWord w
    · rfl
    · exact absurd hgw g
theorem vx_c {args : Array Value} {s : State} {w : Cond} {B : List Cond} (h : w.before args s = true) (t : ∀ w ∈ B, w.before args s = true) : ∀ w' ∈ w :: B, w'.before args s = true := fun w' h' => (List.mem_cons.mp h').elim (fun e => by rw [e]; exact h) (t w')
theorem vx_n {args : Array Value} {s : State} : ∀ w ∈ ([] : List Cond), w.before args s = true := fun _ h => nomatch h
theorem vx_own {args : Array Value} {s : State} {L : List Cond} (h1 : ∀ w ∈ L.filter vx_no, w.before args s = true)
    (hU : (Cond.isRef (.static Bundle.tN "UNASSIGNED_STACK" Bundle.steD)).before args s = true) (hN : (Cond.isRef (.static Bundle.tN "SUPPRESSED_SENTINEL" Bundle.listD)).before args s = true)
    (lU : (Cond.laysStatic Bundle.tN "UNASSIGNED_STACK" Bundle.steD).before args s = true) (lN : (Cond.laysStatic Bundle.tN "SUPPRESSED_SENTINEL" Bundle.listD).before args s = true) : ∀ w ∈ L, w.before args s = true := by
  intro w hw
  by_cases e1 : w = .isRef (.static Bundle.tN "UNASSIGNED_STACK" Bundle.steD)
  · rw [e1]; exact hU
  · by_cases e2 : w = .isRef (.static Bundle.tN "SUPPRESSED_SENTINEL" Bundle.listD)
    · rw [e2]; exact hN
    · by_cases e3 : w = .laysStatic Bundle.tN "UNASSIGNED_STACK" Bundle.steD
      · rw [e3]; exact lU
      · by_cases e4 : w = .laysStatic Bundle.tN "SUPPRESSED_SENTINEL" Bundle.listD
        · rw [e4]; exact lN
        · exact h1 w (List.mem_filter.mpr ⟨hw, by unfold vx_no; rw [decide_eq_true e1, decide_eq_true e2, decide_eq_true e3, decide_eq_true e4]; rfl⟩)
/-- where a static field lies, its class's statics cell in H -/
def vx_L (C n d : String) (A : Nat → Prop) (U : State) (H : Heap) : Prop := ∃ (c : ClassId) (k : Class) (i : Nat) (f : Field) (a : Nat) (cell : Cell), U.vm.findClass C = some c ∧ U.fieldFound? C n d = some (c, k, i, f) ∧ f.isStatic = true ∧ k.statics = some a ∧ H[a]? = some cell ∧ cell.vm.isStatics = true ∧ cell.cls = c ∧ f.slot < cell.slots.size ∧ k.staticTypes[f.slot]? = some f.type ∧ ¬ A a
theorem vx_L.moved {C n d : String} {A : Nat → Prop} {u U : State} {H : Heap} (hvm : u.vm.Alike U.vm) (h : vx_L C n d A u H) : vx_L C n d A U H := by
  obtain ⟨c, k, i, f, a, cell, h1, h2, h3, h4, h5, h6, h7, h8, h9, h10⟩ := h
  obtain ⟨k', hi', he⟩ := State.fieldFound?_setVm hvm h2
  exact ⟨c, k', i, f, a, cell, by rw [hvm.findClass]; exact h1, hi', h3, by rw [he]; exact h4, h5, h6, h7, h8, by rw [he]; exact h9, h10⟩
theorem vx_L.kept {C n d : String} {A : Nat → Prop} {U : State} {H H1 : Heap} (h : vx_L C n d A U H) (hq : ∀ a : Nat, a < H.size → ¬ A a → H1[a]? = H[a]?) : vx_L C n d A U H1 := by
  obtain ⟨c, k, i, f, a, cell, h1, h2, h3, h4, h5, h6, h7, h8, h9, h10⟩ := h
  exact ⟨c, k, i, f, a, cell, h1, h2, h3, h4, by rw [hq a (Array.getElem?_eq_some_iff.mp h5).1 h10]; exact h5, h6, h7, h8, h9, h10⟩
theorem vx_L.narrow {C n d : String} {A B : Nat → Prop} {U : State} {H : Heap} (h : vx_L C n d A U H) (hAB : ∀ q, B q → A q) : vx_L C n d B U H := by
  obtain ⟨c, k, i, f, a, cell, h1, h2, h3, h4, h5, h6, h7, h8, h9, h10⟩ := h
  exact ⟨c, k, i, f, a, cell, h1, h2, h3, h4, h5, h6, h7, h8, h9, fun z => h10 (hAB _ z)⟩
theorem vx_L.word {C n d : String} {A : Nat → Prop} {s : State} {args : Array Value} (h : vx_L C n d A s s.heap) : (Cond.laysStatic C n d).before args s = true := by
  obtain ⟨c, k, i, f, a, cell, h1, h2, h3, h4, h5, h6, h7, h8, h9, -⟩ := h
  show (Cond.laysStatic C n d).holds args s none s [] = true
  exact Cond.laysStatic_of h1 h2 h3 h4 h5 h6 h7 h8 h9
/-- .. and what it holds: null or some reference -/
def vx_Zq (C n d : String) (A : Nat → Prop) (U : State) (H : Heap) : Prop := va_Zq C n d A U H ∧ vx_L C n d A U H
theorem vx_Zq.moved {C n d : String} {A : Nat → Prop} {u U : State} {H : Heap} (hvm : u.vm.Alike U.vm) (h : vx_Zq C n d A u H) : vx_Zq C n d A U H := ⟨va_Zq.moved hvm h.1, vx_L.moved hvm h.2⟩
theorem vx_Zq.kept {C n d : String} {A : Nat → Prop} {U : State} {H H1 : Heap} (h : vx_Zq C n d A U H) (hq : ∀ a : Nat, a < H.size → ¬ A a → H1[a]? = H[a]?) : vx_Zq C n d A U H1 := ⟨va_Zq.kept h.1 hq, vx_L.kept h.2 hq⟩
theorem vx_Zq.narrow {C n d : String} {A B : Nat → Prop} {U : State} {H : Heap} (h : vx_Zq C n d A U H) (hAB : ∀ q, B q → A q) : vx_Zq C n d B U H := ⟨va_Zq.narrow h.1 hAB, vx_L.narrow h.2 hAB⟩
theorem vx_Zqof {args : Array Value} {s : State} {C n d : String} {A : Nat → Prop} (hl : (Cond.laysStatic C n d).before args s = true) (hini : (Cond.initialized C).before args s = true) (h : (Cond.isRef (.static C n d)).before args s = true) (hA : ∀ a : Nat, a < s.heap.size → ¬ A a) : vx_Zq C n d A s s.heap := by
  refine ⟨va_Zqof hl hini h hA, ?_⟩
  obtain ⟨c, k, i, f, a, cell, h1, h2, h3, h4, h5, h6, h7, h8, h9⟩ := Cond.laysStatic_spec hl
  exact ⟨c, k, i, f, a, cell, h1, h2, h3, h4, h5, h6, h7, h8, h9, hA a (Array.getElem?_eq_some_iff.mp h5).1⟩
theorem vx_isRef {C n d : String} {v : Value} {A : Nat → Prop} {s : State} {args : Array Value} (h : va_Z C n d v A s s.heap) (hv : v.isRef = true) : (Cond.isRef (.static C n d)).before args s = true := by
  obtain ⟨cf, kf, fi, f, a, cell, h1, h2, h3, h4, h5, h6, h7, -⟩ := h
  have he : (Term.static C n d).eval args s none [] s = some v := by
    simp [Term.eval, State.fieldNamed?, h1, h2, h4, h5, h6, h7]
  simp only [Cond.before, Cond.holds, Cond.value, he]
  cases v <;> simp_all [Value.isRef]
theorem vx_isRefq {C n d : String} {A : Nat → Prop} {s : State} {args : Array Value} (h : va_Zq C n d A s s.heap) : (Cond.isRef (.static C n d)).before args s = true := by
  rcases h with h | ⟨t, h⟩
  · exact vx_isRef h rfl
  · exact vx_isRef h rfl
/-- the same frame, seen from here: as if the method were called anew in this heap -/
theorem vx_rebase {T : State} (X : Stand p l e R s m args below meth c T locs cells slots) {R' : Room} (hf : R'.frames ≤ R.frames) (hl : R'.locals ≤ R.locals) (hc : cells + R'.cells ≤ R.cells) (hs : slots + R'.slots ≤ R.slots) :
    Stand p l e R' ((T.setVm s.vm).setFrames (.invoking m args :: below)) m args below meth c T [] 0 0 := by
  have htop : (T.setVm s.vm).topJava?.isSome := X.here.top
  have hF : ((T.setVm s.vm).setFrames (.invoking m args :: below)).frames = .invoking m args :: below := State.frames_setFrames _ (State.cur_lt_of_top htop)
  obtain ⟨g₀, hg0⟩ := Option.isSome_iff_exists.mp htop
  obtain ⟨r, hr⟩ := State.topJava?_eq_some.mp hg0
  have hl9 : e.platform.stackLimits (T.setVm s.vm).me = e.platform.stackLimits s.me := X.limits
  have hb9 : (T.setVm s.vm).me.stackBytes = s.me.stackBytes := X.bytes
  refine ⟨X.admits, X.cas, X.clock, hF, ?_, X.hears, X.method, X.code, X.here, X.tail, X.warmed, ?_, ?_, ?_⟩
  · have h := X.room
    have hU : ((T.setVm s.vm).setFrames (.invoking m args :: below)).localsInUse = s.localsInUse := by
      rw [State.localsInUse_invoking hF (meth := meth) (c := c) X.method X.code, State.localsInUse_invoking X.frames X.method X.code]
    simp only [State.hasRoom, Bool.and_eq_true, decide_eq_true_eq] at h ⊢
    obtain ⟨⟨⟨⟨h1, h2, h3, h4, h5, h6⟩, h7⟩, h8⟩, h9⟩ := h
    rw [X.frames, List.length_cons] at h2 h3
    have q1 := X.heapSize
    have q2 := X.used
    simp only [hF, hU, List.length_cons, State.stackLimits_setFrames, State.stackBytes_setFrames, hl9, hb9]
    refine ⟨⟨⟨⟨by omega, by omega, by omega, by omega, by omega, h6⟩, ?_⟩, ?_⟩, X.book⟩
    · show T.heap.size + R'.cells ≤ e.platform.maxCells
      omega
    · show T.slotsUsed + R'.slots ≤ e.platform.maxSlots
      omega
  · rw [State.stackLimits_setFrames]; rfl
  · rw [State.stackBytes_setFrames]; rfl
  · refine ⟨?_, Nat.le_refl _, Nat.le_refl _, ?_, ?_, fun a c9 h9 => ⟨c9, h9, rfl, rfl, fun _ _ => rfl⟩⟩
    · obtain ⟨t, ht, -⟩ := State.frames_cons hr
      show T.setVm s.vm = { ((T.setVm s.vm).setFrames (.invoking m args :: below)).setFrames (T.setVm s.vm).frames with heap := T.heap, slotsUsed := T.slotsUsed }
      rw [State.setFrames_setFrames, State.setFrames_self ht]
      rfl
    · show T.slotsUsed = T.slotsUsed + ((T.heap.toList.drop T.heap.size).map (·.slots.size)).sum
      rw [List.drop_eq_nil_of_le (Nat.le_of_eq Array.length_toList)]
      rfl
    · show ((T.heap.toList.drop T.heap.size).map (·.slots.size)).sum ≤ 0
      rw [List.drop_eq_nil_of_le (Nat.le_of_eq Array.length_toList)]
      exact Nat.le_refl _
/-- 'throw new E()': new; dup; invokespecial; athrow -/
theorem vx_throw0 {cc : ByteArray} {pc : Nat} (hexec : p.tables.exec = Jvm.exec) (hb : c.code = cc) (hl : l.stackTraces = false) {own cls : String} {names : List String} {ik ic mc ms : Nat} {A : Nat → Prop}
    (hown : s.vm.findClass own = some m.cls) (hcls : Bundle.fit cls = true) (hnames : ∀ n ∈ names, Bundle.fit n = true)
    (hk : (Cond.classLink own ik cls).before args s = true) (hini : (Cond.initialized cls).before args s = true) (hat : ∀ w ∈ vx_at0 own ic cls names, w.before args s = true)
    (hgood : ∀ w ∈ Cond.classLink own ik cls :: Cond.initialized cls :: vx_at0 own ic cls names, vx_ot w = true)
    (hU : vx_Zq Bundle.tN "UNASSIGNED_STACK" Bundle.steD A s s.heap) (hN : vx_Zq Bundle.tN "SUPPRESSED_SENTINEL" Bundle.listD A s s.heap) (hS : va_S A s.heap H locs) (hsize : ls.size = c.maxLocals)
    (d0 : decode cc pc = .ok (.new ik, 3)) (d3 : decode cc (pc + 3) = .ok (.dup, 1)) (d4 : decode cc (pc + 4) = .ok (.invokespecial ic, 3)) (d7 : decode cc (pc + 7) = .ok (.athrow, 1))
    (hout : ∀ x ∈ c.exceptionTable.toList, covers x (pc + 7) = false)
    (hRframes : names.length + 3 < R.frames) (hRlocals : (rest.map fun v => v.category).sum + (13 * (names.length + 1) + 42) ≤ R.locals) (hRcells : cells + 1 ≤ R.cells) (hRslots : slots + 6 ≤ R.slots) (hlocks : meth.locks = false)
    (hx : ∀ t : State, s.vm.Alike t.vm → H.size ≤ t.heap.size → (∀ q : Nat, q < H.size → t.heap[q]? = H[q]?) → XC cls s t)
    (hf : ∀ z ∈ locs, free z.base) (hc : cells + 1 ≤ mc) (hs : slots + 6 ≤ ms) :
    W p l e R s m args below meth c H locs cells slots (vx_MQ below Qc XC args s mc ms free) (F0 m pc ls rest) := by
  intro T hT X
  have htr : e.platform.stackTraces = false := (show e.platform.stackTraces = l.stackTraces by rw [X.admits.platform]).trans hl
  have Y := vx_rebase X (R' := { frames := R.frames, locals := R.locals, cells := 1, slots := 6 }) (Nat.le_refl _) (Nat.le_refl _) hRcells hRslots
  obtain ⟨s', hA⟩ : ∃ z, z = (T.setVm s.vm).setFrames (.invoking m args :: below) := ⟨_, rfl⟩
  rw [← hA] at Y
  have hvm : s'.vm = s.vm := by rw [hA]; rfl
  have hhp : s'.heap = H := by rw [hA]; exact hT
  have hW0 : s.WarmedH s'.vm := by rw [hvm]; exact State.WarmedH.refl s
  have hat' : ∀ w ∈ vx_at0 own ic cls names, w.before args s' = true := fun w hw => vx_ot_at hW0 hvm.symm (hgood w (List.mem_cons_of_mem _ (List.mem_cons_of_mem _ hw))) (hat w hw)
  have hk' : (Cond.classLink own ik cls).before args s' = true := vx_ot_at hW0 hvm.symm (hgood _ List.mem_cons_self) hk
  have hini' : (Cond.initialized cls).before args s' = true := vx_ot_at hW0 hvm.symm (hgood _ (List.mem_cons_of_mem _ List.mem_cons_self)) hini
  have hU' : vx_Zq Bundle.tN "UNASSIGNED_STACK" Bundle.steD A s' s'.heap := by rw [hhp]; exact vx_Zq.moved hW0.alike (hU.kept hS.2.1)
  have hN' : vx_Zq Bundle.tN "SUPPRESSED_SENTINEL" Bundle.listD A s' s'.heap := by rw [hhp]; exact vx_Zq.moved hW0.alike (hN.kept hS.2.1)
  have h : ∀ w ∈ Bundle.ownAtoms0 own ic cls names, w.before args s' = true := vx_own hat' (vx_isRefq hU'.1) (vx_isRefq hN'.1) hU'.2.word hN'.2.word
  have hown' : s'.vm.findClass own = some m.cls := by rw [hvm]; exact hown
  have hins : (Cond.instantiable cls 6).before args s' = true := h _ (by simp [Bundle.ownAtoms0])
  obtain ⟨vm₁, cX, kX, hfX, hkX, -, -, X₁, st1⟩ := Y.newCold hexec (own := own) (C := cls) (index := ik) (n := 6) hown' hk' hins hini'
    (g := F0 m pc ls rest) rfl (by rw [hb]; exact d0) (Nat.le_refl _) (Nat.le_refl _)
  generalize hT1 : (T.setVm vm₁).pushCell { cls := cX, slots := kX.instanceTypes.map defaultValue, vm := .none } = T1 at X₁ st1
  have hcat : (Value.ref T.heap.size).category = 1 := rfl
  have hcellA : T1.heap[T.heap.size]? = some (freshCell cX kX) := by rw [← hT1]; exact State.heap_pushCell_size _ _
  have d3' : decode c.code (pc + 3) = .ok (.dup, 1) := by rw [hb]; exact d3
  obtain ⟨U, hsteps, hrun, hend, hW, hsame, ce, hce, hO⟩ := X₁.ctorThrow0 hexec htr (own := own) (cls := cls) (names := names) (ic := ic) hown' hcls hnames h (fun x hx => nomatch hx) hfX hkX hcellA (by rw [hhp, hT]; exact Nat.le_refl _)
    (g := { method := m, pc := pc + 4, locals := ls, stack := .ref T.heap.size :: .ref T.heap.size :: rest, locked := none }) rfl hsize rfl rfl (rest := rest) rfl
    (by rw [hb]; exact d4) (by rw [hb]; exact d7) hout hRframes (by simp only [List.map_cons, List.sum_cons, hcat]; omega) hlocks
  obtain ⟨f1, f2⟩ := vx_frame hsame
  rw [hhp] at f1 f2
  have hWs : s.WarmedH U.vm := State.WarmedH.trans hW0 hW
  have hcl : s.vm.findClass cls = some ce.cls := by
    have h9 := hO.cls
    rw [hvm] at h9
    exact h9
  have hall : s.sameButNew ({ U with vm := s.vm } : State) locs mc ms := by
    subst hA
    obtain ⟨e1, e2⟩ := hsame
    rw [State.setFrames_setFrames] at e1
    have h2 : (T.setVm s.vm).sameButNew ({ U with vm := s.vm } : State) [] (0 + 1) (0 + 6) := ⟨e1, e2⟩
    have h3 := X.same.trans h2
    rw [List.append_nil] at h3
    exact h3.mono hc hs
  refine ⟨U, ?_, .threw T.heap.size, hrun, hend, Or.inr ⟨T.heap.size, rfl, cls, ce, locs, hx U hWs.alike f1 (fun q hq => f2 q hq (fun z hz => nomatch hz)), hce, hO.vm, hcl, hWs, hall, hf⟩⟩
  refine st1 _ ?_
  show Steps p.tables e below (T1.setTop { method := m, pc := pc + 3, locals := ls, stack := .ref T.heap.size :: rest, locked := none }) _
  jvm_step X₁.here [X₁.here.top, hexec, d3', Value.category]
  exact hsteps
/-- 'throw new E("text")': new; dup; ldc; invokespecial; athrow -/
theorem vx_throwS {cc : ByteArray} {pc : Nat} (hexec : p.tables.exec = Jvm.exec) (hb : c.code = cc) (hl : l.stackTraces = false) {own cls text : String} {names : List String} {ik is ic mc ms sa : Nat} {A : Nat → Prop}
    (hown : s.vm.findClass own = some m.cls) (hcls : Bundle.fit cls = true) (hnames : ∀ n ∈ names, Bundle.fit n = true)
    (hk : (Cond.classLink own ik cls).before args s = true) (hini : (Cond.initialized cls).before args s = true) (hstr : vk_R own is text sa s) (hat : ∀ w ∈ vx_atS own ic cls names, w.before args s = true)
    (hgood : ∀ w ∈ Cond.classLink own ik cls :: Cond.initialized cls :: vx_atS own ic cls names, vx_ot w = true)
    (hU : vx_Zq Bundle.tN "UNASSIGNED_STACK" Bundle.steD A s s.heap) (hN : vx_Zq Bundle.tN "SUPPRESSED_SENTINEL" Bundle.listD A s s.heap) (hS : va_S A s.heap H locs) (hsize : ls.size = c.maxLocals)
    (d0 : decode cc pc = .ok (.new ik, 3)) (d3 : decode cc (pc + 3) = .ok (.dup, 1)) (d4 : decode cc (pc + 4) = .ok (.ldc is, 2)) (d6 : decode cc (pc + 6) = .ok (.invokespecial ic, 3)) (d9 : decode cc (pc + 9) = .ok (.athrow, 1))
    (hout : ∀ x ∈ c.exceptionTable.toList, covers x (pc + 9) = false)
    (hRframes : names.length + 3 < R.frames) (hRlocals : (rest.map fun v => v.category).sum + (13 * (names.length + 1) + 43) ≤ R.locals) (hRcells : cells + 1 ≤ R.cells) (hRslots : slots + 6 ≤ R.slots) (hlocks : meth.locks = false)
    (hx : ∀ t : State, s.vm.Alike t.vm → H.size ≤ t.heap.size → (∀ q : Nat, q < H.size → t.heap[q]? = H[q]?) → XC cls s t)
    (hf : ∀ z ∈ locs, free z.base) (hc : cells + 1 ≤ mc) (hs : slots + 6 ≤ ms) :
    W p l e R s m args below meth c H locs cells slots (vx_MQ below Qc XC args s mc ms free) (F0 m pc ls rest) := by
  intro T hT X
  have htr : e.platform.stackTraces = false := (show e.platform.stackTraces = l.stackTraces by rw [X.admits.platform]).trans hl
  have Y := vx_rebase X (R' := { frames := R.frames, locals := R.locals, cells := 1, slots := 6 }) (Nat.le_refl _) (Nat.le_refl _) hRcells hRslots
  obtain ⟨s', hA⟩ : ∃ z, z = (T.setVm s.vm).setFrames (.invoking m args :: below) := ⟨_, rfl⟩
  rw [← hA] at Y
  have hvm : s'.vm = s.vm := by rw [hA]; rfl
  have hhp : s'.heap = H := by rw [hA]; exact hT
  have hW0 : s.WarmedH s'.vm := by rw [hvm]; exact State.WarmedH.refl s
  have hat' : ∀ w ∈ vx_atS own ic cls names, w.before args s' = true := fun w hw => vx_ot_at hW0 hvm.symm (hgood w (List.mem_cons_of_mem _ (List.mem_cons_of_mem _ hw))) (hat w hw)
  have hk' : (Cond.classLink own ik cls).before args s' = true := vx_ot_at hW0 hvm.symm (hgood _ List.mem_cons_self) hk
  have hini' : (Cond.initialized cls).before args s' = true := vx_ot_at hW0 hvm.symm (hgood _ (List.mem_cons_of_mem _ List.mem_cons_self)) hini
  have hU' : vx_Zq Bundle.tN "UNASSIGNED_STACK" Bundle.steD A s' s'.heap := by rw [hhp]; exact vx_Zq.moved hW0.alike (hU.kept hS.2.1)
  have hN' : vx_Zq Bundle.tN "SUPPRESSED_SENTINEL" Bundle.listD A s' s'.heap := by rw [hhp]; exact vx_Zq.moved hW0.alike (hN.kept hS.2.1)
  have h : ∀ w ∈ Bundle.ownAtoms own ic cls names, w.before args s' = true := vx_own hat' (vx_isRefq hU'.1) (vx_isRefq hN'.1) hU'.2.word hN'.2.word
  have hown' : s'.vm.findClass own = some m.cls := by rw [hvm]; exact hown
  have hins : (Cond.instantiable cls 6).before args s' = true := h _ (by simp [Bundle.ownAtoms])
  obtain ⟨vm₁, cX, kX, hfX, hkX, -, -, X₁, st1⟩ := Y.newCold hexec (own := own) (C := cls) (index := ik) (n := 6) hown' hk' hins hini'
    (g := F0 m pc ls rest) rfl (by rw [hb]; exact d0) (Nat.le_refl _) (Nat.le_refl _)
  generalize hT1 : (T.setVm vm₁).pushCell { cls := cX, slots := kX.instanceTypes.map defaultValue, vm := .none } = T1 at X₁ st1
  have hcat : (Value.ref T.heap.size).category = 1 := rfl
  have hcellA : T1.heap[T.heap.size]? = some (freshCell cX kX) := by rw [← hT1]; exact State.heap_pushCell_size _ _
  have d3' : decode c.code (pc + 3) = .ok (.dup, 1) := by rw [hb]; exact d3
  have d4' : decode c.code (pc + 4) = .ok (.ldc is, 2) := by rw [hb]; exact d4
  have hstr' : vk_R own is text sa s' := vk_R.warm hW0 hstr
  obtain ⟨U, hsteps, hrun, hend, hW, hsame, ce, hce, hO⟩ := X₁.ctorThrowS hexec htr (own := own) (cls := cls) (names := names) (ic := ic) hown' hcls hnames h (fun x hx => nomatch hx) hfX hkX hcellA (by rw [hhp, hT]; exact Nat.le_refl _) (msg := .ref sa) rfl
    (g := { method := m, pc := pc + 6, locals := ls, stack := .ref sa :: .ref T.heap.size :: .ref T.heap.size :: rest, locked := none }) rfl hsize rfl rfl (rest := rest) rfl
    (by rw [hb]; exact d6) (by rw [hb]; exact d9) hout hRframes (by simp only [List.map_cons, List.sum_cons, hcat]; omega) hlocks
  obtain ⟨f1, f2⟩ := vx_frame hsame
  rw [hhp] at f1 f2
  have hWs : s.WarmedH U.vm := State.WarmedH.trans hW0 hW
  have hcl : s.vm.findClass cls = some ce.cls := by
    have h9 := hO.cls
    rw [hvm] at h9
    exact h9
  have hall : s.sameButNew ({ U with vm := s.vm } : State) locs mc ms := by
    subst hA
    obtain ⟨e1, e2⟩ := hsame
    rw [State.setFrames_setFrames] at e1
    have h2 : (T.setVm s.vm).sameButNew ({ U with vm := s.vm } : State) [] (0 + 1) (0 + 6) := ⟨e1, e2⟩
    have h3 := X.same.trans h2
    rw [List.append_nil] at h3
    exact h3.mono hc hs
  refine ⟨U, ?_, .threw T.heap.size, hrun, hend, Or.inr ⟨T.heap.size, rfl, cls, ce, locs, hx U hWs.alike f1 (fun q hq => f2 q hq (fun z hz => nomatch hz)), hce, hO.vm, hcl, hWs, hall, hf⟩⟩
  refine st1 _ ?_
  show Steps p.tables e below (T1.setTop { method := m, pc := pc + 3, locals := ls, stack := .ref T.heap.size :: rest, locked := none }) _
  jvm_step X₁.here [X₁.here.top, hexec, d3', Value.category]
  exact X₁.ldcString hexec (own := own) (text := text) (index := is) (a := sa) hown' hstr'.1 hstr'.2
    (g := { method := m, pc := pc + 4, locals := ls, stack := .ref T.heap.size :: .ref T.heap.size :: rest, locked := none }) rfl d4' _ hsteps
/-- 'throw new E("text")', the text by a wide index -/
theorem vx_throwSW {cc : ByteArray} {pc : Nat} (hexec : p.tables.exec = Jvm.exec) (hb : c.code = cc) (hl : l.stackTraces = false) {own cls text : String} {names : List String} {ik is ic mc ms sa : Nat} {A : Nat → Prop}
    (hown : s.vm.findClass own = some m.cls) (hcls : Bundle.fit cls = true) (hnames : ∀ n ∈ names, Bundle.fit n = true)
    (hk : (Cond.classLink own ik cls).before args s = true) (hini : (Cond.initialized cls).before args s = true) (hstr : vk_R own is text sa s) (hat : ∀ w ∈ vx_atS own ic cls names, w.before args s = true)
    (hgood : ∀ w ∈ Cond.classLink own ik cls :: Cond.initialized cls :: vx_atS own ic cls names, vx_ot w = true)
    (hU : vx_Zq Bundle.tN "UNASSIGNED_STACK" Bundle.steD A s s.heap) (hN : vx_Zq Bundle.tN "SUPPRESSED_SENTINEL" Bundle.listD A s s.heap) (hS : va_S A s.heap H locs) (hsize : ls.size = c.maxLocals)
    (d0 : decode cc pc = .ok (.new ik, 3)) (d3 : decode cc (pc + 3) = .ok (.dup, 1)) (d4 : decode cc (pc + 4) = .ok (.ldc_w is, 3)) (d7 : decode cc (pc + 7) = .ok (.invokespecial ic, 3)) (d10 : decode cc (pc + 10) = .ok (.athrow, 1))
    (hout : ∀ x ∈ c.exceptionTable.toList, covers x (pc + 10) = false)
    (hRframes : names.length + 3 < R.frames) (hRlocals : (rest.map fun v => v.category).sum + (13 * (names.length + 1) + 43) ≤ R.locals) (hRcells : cells + 1 ≤ R.cells) (hRslots : slots + 6 ≤ R.slots) (hlocks : meth.locks = false)
    (hx : ∀ t : State, s.vm.Alike t.vm → H.size ≤ t.heap.size → (∀ q : Nat, q < H.size → t.heap[q]? = H[q]?) → XC cls s t)
    (hf : ∀ z ∈ locs, free z.base) (hc : cells + 1 ≤ mc) (hs : slots + 6 ≤ ms) :
    W p l e R s m args below meth c H locs cells slots (vx_MQ below Qc XC args s mc ms free) (F0 m pc ls rest) := by
  intro T hT X
  have htr : e.platform.stackTraces = false := (show e.platform.stackTraces = l.stackTraces by rw [X.admits.platform]).trans hl
  have Y := vx_rebase X (R' := { frames := R.frames, locals := R.locals, cells := 1, slots := 6 }) (Nat.le_refl _) (Nat.le_refl _) hRcells hRslots
  obtain ⟨s', hA⟩ : ∃ z, z = (T.setVm s.vm).setFrames (.invoking m args :: below) := ⟨_, rfl⟩
  rw [← hA] at Y
  have hvm : s'.vm = s.vm := by rw [hA]; rfl
  have hhp : s'.heap = H := by rw [hA]; exact hT
  have hW0 : s.WarmedH s'.vm := by rw [hvm]; exact State.WarmedH.refl s
  have hat' : ∀ w ∈ vx_atS own ic cls names, w.before args s' = true := fun w hw => vx_ot_at hW0 hvm.symm (hgood w (List.mem_cons_of_mem _ (List.mem_cons_of_mem _ hw))) (hat w hw)
  have hk' : (Cond.classLink own ik cls).before args s' = true := vx_ot_at hW0 hvm.symm (hgood _ List.mem_cons_self) hk
  have hini' : (Cond.initialized cls).before args s' = true := vx_ot_at hW0 hvm.symm (hgood _ (List.mem_cons_of_mem _ List.mem_cons_self)) hini
  have hU' : vx_Zq Bundle.tN "UNASSIGNED_STACK" Bundle.steD A s' s'.heap := by rw [hhp]; exact vx_Zq.moved hW0.alike (hU.kept hS.2.1)
  have hN' : vx_Zq Bundle.tN "SUPPRESSED_SENTINEL" Bundle.listD A s' s'.heap := by rw [hhp]; exact vx_Zq.moved hW0.alike (hN.kept hS.2.1)
  have h : ∀ w ∈ Bundle.ownAtoms own ic cls names, w.before args s' = true := vx_own hat' (vx_isRefq hU'.1) (vx_isRefq hN'.1) hU'.2.word hN'.2.word
  have hown' : s'.vm.findClass own = some m.cls := by rw [hvm]; exact hown
  have hins : (Cond.instantiable cls 6).before args s' = true := h _ (by simp [Bundle.ownAtoms])
  obtain ⟨vm₁, cX, kX, hfX, hkX, -, -, X₁, st1⟩ := Y.newCold hexec (own := own) (C := cls) (index := ik) (n := 6) hown' hk' hins hini'
    (g := F0 m pc ls rest) rfl (by rw [hb]; exact d0) (Nat.le_refl _) (Nat.le_refl _)
  generalize hT1 : (T.setVm vm₁).pushCell { cls := cX, slots := kX.instanceTypes.map defaultValue, vm := .none } = T1 at X₁ st1
  have hcat : (Value.ref T.heap.size).category = 1 := rfl
  have hcellA : T1.heap[T.heap.size]? = some (freshCell cX kX) := by rw [← hT1]; exact State.heap_pushCell_size _ _
  have d3' : decode c.code (pc + 3) = .ok (.dup, 1) := by rw [hb]; exact d3
  have d4' : decode c.code (pc + 4) = .ok (.ldc_w is, 3) := by rw [hb]; exact d4
  have hstr' : vk_R own is text sa s' := vk_R.warm hW0 hstr
  obtain ⟨U, hsteps, hrun, hend, hW, hsame, ce, hce, hO⟩ := X₁.ctorThrowS hexec htr (own := own) (cls := cls) (names := names) (ic := ic) hown' hcls hnames h (fun x hx => nomatch hx) hfX hkX hcellA (by rw [hhp, hT]; exact Nat.le_refl _) (msg := .ref sa) rfl
    (g := { method := m, pc := pc + 7, locals := ls, stack := .ref sa :: .ref T.heap.size :: .ref T.heap.size :: rest, locked := none }) rfl hsize rfl rfl (rest := rest) rfl
    (by rw [hb]; exact d7) (by rw [hb]; exact d10) hout hRframes (by simp only [List.map_cons, List.sum_cons, hcat]; omega) hlocks
  obtain ⟨f1, f2⟩ := vx_frame hsame
  rw [hhp] at f1 f2
  have hWs : s.WarmedH U.vm := State.WarmedH.trans hW0 hW
  have hcl : s.vm.findClass cls = some ce.cls := by
    have h9 := hO.cls
    rw [hvm] at h9
    exact h9
  have hall : s.sameButNew ({ U with vm := s.vm } : State) locs mc ms := by
    subst hA
    obtain ⟨e1, e2⟩ := hsame
    rw [State.setFrames_setFrames] at e1
    have h2 : (T.setVm s.vm).sameButNew ({ U with vm := s.vm } : State) [] (0 + 1) (0 + 6) := ⟨e1, e2⟩
    have h3 := X.same.trans h2
    rw [List.append_nil] at h3
    exact h3.mono hc hs
  refine ⟨U, ?_, .threw T.heap.size, hrun, hend, Or.inr ⟨T.heap.size, rfl, cls, ce, locs, hx U hWs.alike f1 (fun q hq => f2 q hq (fun z hz => nomatch hz)), hce, hO.vm, hcl, hWs, hall, hf⟩⟩
  refine st1 _ ?_
  show Steps p.tables e below (T1.setTop { method := m, pc := pc + 3, locals := ls, stack := .ref T.heap.size :: rest, locked := none }) _
  jvm_step X₁.here [X₁.here.top, hexec, d3', Value.category]
  exact X₁.ldcStringW hexec (own := own) (text := text) (index := is) (a := sa) hown' hstr'.1 hstr'.2
    (g := { method := m, pc := pc + 4, locals := ls, stack := .ref T.heap.size :: .ref T.heap.size :: rest, locked := none }) rfl d4' _ hsteps
end Ends
section Bodies
variable {l : Launch}
theorem vx_ofW {y : MethodName} {ws ws' : List Cond} {rm : Room} {Pc : Array Value → State → Prop} {Qc : Array Value → State → Outcome → State → Prop} {XC : String → State → State → Prop} {mc ms : Nat} {free : Addr → Prop} {cc : ByteArray} {maxL : Nat} {ret : Option FieldType}
    (hy : plainName y.cls = true) (hw : ws = Cond.code y cc maxL ret :: ws')
    (body : ∀ p e s m args below meth c s₁, BodyLoose p l y (headSpec ws rm) cc maxL ret e s m args below meth c s₁ → c.maxLocals = maxL → (∀ x ∈ c.exceptionTable.toList, False) → Pc args s →
      W p l e (headSpec ws rm).room s m args below meth c s.heap [] 0 0 (vx_MQ below Qc XC args s mc ms free) (entryFrame m args maxL)) : vx_Met l y ws rm Pc Qc XC mc ms free := by
  refine MetFree.of_bodyS (code := cc) (maxLocals := maxL) (ret := ret) hy ?_ ?_
  · intro args s m h hn
    obtain ⟨meth, c, h1, h2, h3, h4, h5, h6, -, -⟩ := Cond.code_spec hn (atoms_spec (ws := ws) h _ (by rw [hw]; exact List.mem_cons_self))
    exact ⟨meth, c, h1, h2, h3, h4, h5, h6⟩
  · intro p e s m args below meth c s₁ B hml hP _
    have hh0 : s₁.heap = s.heap := by rw [B.state]; rfl
    have ht : ∀ x ∈ c.exceptionTable.toList, False := by
      obtain ⟨meth9, c9, h1, h2, -, -, -, -, h7, -⟩ := Cond.code_spec B.named (atoms_spec (ws := ws) B.pre _ (by rw [hw]; exact List.mem_cons_self))
      cases Option.some.inj (h1.symm.trans B.method)
      cases Option.some.inj (h2.symm.trans (Stand.of_body B).code)
      intro x hx
      rw [Array.isEmpty_iff.mp h7] at hx
      cases hx
    obtain ⟨t, a1, o, b1, b2, b3⟩ := body p e s m args below meth c s₁ B hml ht hP s₁ hh0 (Stand.of_body B)
    exact ⟨t, o, a1, b1, b2, b3⟩
/-- the table of a body with handlers -/
theorem vx_table {p : Program} {x y : MethodName} {S : Spec} {cc bytes : ByteArray} {maxL maxL' : Nat} {ret ret' : Option FieldType} {e : Env} {s s₁ : State} {m : MethodId} {args : Array Value} {below : List Frame} {meth : Method} {c : Code} {hh : List (Nat × Nat × Nat × Nat)}
    (B : BodyLoose p l y S cc maxL ret e s m args below meth c s₁) (h : (Cond.codeWith y bytes maxL' ret' hh).before args s = true) : c.exceptionTable.toList = tableOf hh := by
  obtain ⟨m9, meth9, c9, hn9, h1, h2, -, -, h6, -⟩ := Cond.codeWith_spec h
  cases Option.some.inj (hn9.symm.trans B.named)
  cases Option.some.inj (h1.symm.trans B.method)
  cases Option.some.inj (h2.symm.trans (Stand.of_body B).code)
  rw [← h6, table_eq]
end Bodies
end VXA
/-! ===== END ===== -/
/-! ===== BEGIN a static call of a method with an exception table ===== -/
section VXS
variable {p : Program} {l : Launch} {e : Env} {R : Room} {s : State} {m : MethodId} {args : Array Value} {below : List Frame} {meth : Method} {c : Code} {T : State} {H : Heap} {locs : List Loc} {cells slots : Nat}
abbrev vx_CSW (R : Room) (s : State) (args : Array Value) (own : String) (index : Nat) (y : MethodName) (bytes : ByteArray) (maxL : Nat) (ret : Option FieldType) (hh : List (Nat × Nat × Nat × Nat)) (ws : List Cond) (rm : Room) (mc ms n : Nat) : Prop :=
  (rm.cells = mc ∧ rm.slots = ms ∧ rm.frames + 1 ≤ R.frames ∧ 8 + (maxL + 11) + rm.locals ≤ R.locals ∧ (∀ w ∈ ws, ∀ (a' : Array Value) (U : State), s.WarmedH U.vm → w.before a' U = true) ∧ Cond.codeWith y bytes maxL ret hh ∈ ws) ∧
  (Cond.codeWith y bytes maxL ret hh).before args s = true ∧ (Cond.initialized y.cls).before args s = true ∧ (y.cls ≠ "java/lang/invoke/MethodHandle" ∧ y.cls ≠ "java/lang/invoke/VarHandle") ∧
  (∀ sig, parseMethodDescriptor y.desc = some sig → n = sig.parameters.length) ∧ (Cond.methodLink own index y).before args s = true ∧ (Cond.static y).before args s = true
theorem vx_cwSW {own : String} {index maxL mc ms : Nat} {y : MethodName} {bytes : ByteArray} {ret : Option FieldType} {hh : List (Nat × Nat × Nat × Nat)} {Ts ws ws' : List Cond} {rm : Room} (n : Nat) (ht : ∀ w ∈ Ts, w.before args s = true) (hT : GoodIn Ts (va_wsS own index y ws)) (hw : ws = Cond.codeWith y bytes maxL ret hh :: ws') (hrc : rm.cells = mc) (hrs : rm.slots = ms)
    (hd : y.cls ≠ "java/lang/invoke/MethodHandle" ∧ y.cls ≠ "java/lang/invoke/VarHandle" ∧ (parseMethodDescriptor y.desc).map (fun d => d.parameters.length) = some n) (hR : rm.frames + 1 ≤ R.frames ∧ 8 + (maxL + 11) + rm.locals ≤ R.locals) :
    vx_CSW R s args own index y bytes maxL ret hh ws rm mc ms n := by
  have ok : ∀ w ∈ va_wsS own index y ws, w.before args s = true := fun w h => ht w (hT w h).1
  have hG : GoodIn Ts ws := fun w h => hT w (by unfold va_wsS; exact List.mem_append_right _ h)
  have hc : Cond.codeWith y bytes maxL ret hh ∈ ws := by rw [hw]; exact List.mem_cons_self
  refine ⟨⟨hrc, hrs, hR.1, hR.2, pay_in ht hG, hc⟩, ht _ (hG _ hc).1, ok _ (by simp [va_wsS]), ⟨hd.1, hd.2.1⟩, fun sig h => ?_, ok _ (by simp [va_wsS]), ok _ (by simp [va_wsS])⟩
  have h2 := hd.2.2
  rw [h] at h2
  exact (Option.some.inj h2).symm
theorem vx_callSW (X : Stand p l e R s m args below meth c T locs cells slots) (hexec : p.tables.exec = Jvm.exec) {own : String} {index : Nat} {y : MethodName} {bytes : ByteArray} {maxL : Nat} {ret : Option FieldType} {hh : List (Nat × Nat × Nat × Nat)}
    (hown : s.vm.findClass own = some m.cls) (hlink : (Cond.methodLink own index y).before args s = true) (hstat : (Cond.static y).before args s = true) (hinit : (Cond.initialized y.cls).before args s = true)
    (hcode : (Cond.codeWith y bytes maxL ret hh).before args s = true) (hy : y.cls ≠ "java/lang/invoke/MethodHandle" ∧ y.cls ≠ "java/lang/invoke/VarHandle")
    {W9 : Nat} {Pre : Pt → Array Value → Prop} {Post : Pt → Array Value → Option Value → Pt → Prop} (hK : Back l R p e below s args y 3 W9 Pre Post)
    {g : JFrame} (hg : g.method = m) (hsize : g.locals.size = c.maxLocals) {argsL rest : List Value} (hlen : ∀ sig, parseMethodDescriptor y.desc = some sig → argsL.length = sig.parameters.length)
    (hstack : g.stack = argsL.reverse ++ rest) (hW : 2 * g.monitorRoom + (rest.map fun v => v.category).sum ≤ W9) (hdg : decode c.code g.pc = .ok (.invokestatic index, 3))
    (hpre : ∀ vm₁, s.WarmedH vm₁ → Pre ⟨T.setVm vm₁, locs, cells, slots⟩ argsL.toArray) :
    ∃ (v : Option Value) (vm₁ : Vm) (B : Pt), s.WarmedH vm₁ ∧ Stand p l e R s m args below meth c B.U B.locs B.cells B.slots ∧ Post ⟨T.setVm vm₁, locs, cells, slots⟩ argsL.toArray v B ∧
      ∀ target, Steps p.tables e below (B.U.setTop { g with pc := g.pc + 3, stack := v.toList ++ rest }) target → Steps p.tables e below (T.setTop g) target := by
  obtain ⟨mk, methM, cM, hnamed, hmethM, -, -, -, -, -, -, hsigM⟩ := Cond.codeWith_spec hcode
  have hstatic : methM.isStatic = true := Cond.static_spec hnamed hmethM hstat
  obtain ⟨kP, hkP, -⟩ := className_of_methodNamed hnamed
  have hinitP : kP.init = .initialized := Cond.initialized_spec (findClass_of_methodNamed hnamed) hkP hinit
  obtain ⟨vm₁, X₁, hstep₁⟩ := X.invokestatic hexec hown hlink hnamed hmethM hstatic hkP hinitP hy (g := g) hg (argsL := argsL) (rest := rest) (hlen _ hsigM) hstack hdg
  obtain ⟨v, B, X', hpost, hsteps⟩ := hK m meth c ⟨T.setVm vm₁, locs, cells, slots⟩ { g with stack := rest } (.invokestatic index) mk argsL.toArray X₁ hg hsize hdg hW (X₁.named hnamed) (hpre vm₁ X₁.warmed)
  exact ⟨v, vm₁, B, X₁.warmed, X', hpost, fun target h => hstep₁ _ fun acts => by rw [doInvoke_state]; exact hsteps.trans h⟩
theorem vx_runSW {y : MethodName} {bytes cc : ByteArray} {maxL nL mc ms n index : Nat} {ret : Option FieldType} {hh : List (Nat × Nat × Nat × Nat)} {ws : List Cond} {rm : Room} {Pc : Array Value → State → Prop} {Qc : Array Value → State → Outcome → State → Prop} {free : Addr → Prop} {Ts : List Cond} {own : String} {As rest : List Value} {g : JFrame}
    (S : CallFix p m c cc nL s args Ts own) (hM : Met l y ws rm Pc Qc mc ms free) (cw : vx_CSW R s args own index y bytes maxL ret hh ws rm mc ms n) (hp : PreS s H Pc As)
    (hg : g.method = m) (hn : As.length = n) (hsize : g.locals.size = nL) (hstack : g.stack = As.reverse ++ rest) (hW : 2 * g.monitorRoom + (rest.map fun v => v.category).sum ≤ 8) (hdg : decode cc g.pc = .ok (.invokestatic index, 3)) (hf : cells + mc ≤ R.cells ∧ slots + ms ≤ R.slots) :
    va_Run p l e R s m args below meth c H locs cells slots mc ms g rest (Qc As.toArray) (free) := by
  obtain ⟨⟨hrc, hrs, hfr, hlo, hws, hcw⟩, hcode, hini, hy, hlen, hl, hstt⟩ := cw
  have hK : Back l R p e below s args y 3 8 (PreOf R mc ms Pc) (PostOf Qc mc ms free) := va_backW (hh := hh) (bytes := bytes) (maxL := maxL) (ret := ret) hM hp.1 hrc hrs hfr hlo hws hcw (fun a' U hW => word_at hW (Or.inl (by first | rfl | simp [Cond.onTables, Cond.keeps, Cond.steady])) hini)
  obtain ⟨hx, hb, hml, ho, -⟩ := S
  intro T hT X
  obtain ⟨v, vm₁, ⟨U', l2, c2, s2⟩, hW₁, X', ⟨g', mk, t, L, e1, e2, hq, h1, hL, h2, h3⟩, st⟩ := vx_callSW X hx (hh := hh) (bytes := bytes) (maxL := maxL) (ret := ret) ho hl hstt hini hcode hy hK hg (hsize.trans hml.symm) (argsL := As) (rest := rest) (fun sig h => hn.trans (hlen sig h)) hstack hW (by rw [hb]; exact hdg)
    (fun vm₁ hW₁ => ⟨hf.1, hf.2, hp.2 (T.setVm vm₁) hT hW₁⟩)
  dsimp only [Pt.U, Pt.locs, Pt.cells, Pt.slots] at X' e1 e2 h1 h2 h3 st
  subst h1; subst h2; subst h3
  exact ⟨v, (T.setVm vm₁).calling g' mk As.toArray, t, U', L, hT, X', hL, e1, e2, hq, st⟩
/-- not caught here, past rows that name other classes: it goes on to the caller -/
theorem vx_outP {p : Program} {l : Launch} {e : Env} {R : Room} {s : State} {m : MethodId} {args : Array Value} {below : List Frame} {meth : Method} {c : Code} {H : Heap} {locs : List Loc} {cells slots : Nat} {free : Addr → Prop} {ls : Array Slot} {rest : List Value} {Qc : Array Value → State → Outcome → State → Prop} {XC : String → State → State → Prop}
    {pc : Nat} {own E : String} {ce : Cell} {q : Addr} {mc ms : Nat} (hown : s.vm.findClass own = some m.cls) (hlocks : meth.locks = false)
    (hpass : ∀ z ∈ c.exceptionTable.toList, covers z pc = false ∨ (z.catchType ≠ 0 ∧ ∃ nm : String, (Cond.classLink own z.catchType nm).before args s = true ∧ va_Nc E nm s)) (hcell : H[q]? = some ce) (hv : ce.vm = .none) (hcl : s.vm.findClass E = some ce.cls)
    (hx : ∀ t : State, t.heap = H → s.vm.Alike t.vm → XC E s t) (hf : ∀ z ∈ locs, free z.base) (hc : cells ≤ mc) (hs : slots ≤ ms) :
    vx_W p l e R s m args below meth c H locs cells slots (vx_MQ below Qc XC args s mc ms free) (F0 m pc ls rest) q := by
  intro T hT X
  have hpl : e.platform.magicAccessors = ({} : Platform).magicAccessors := by rw [X.admits.platform]
  obtain ⟨vm', hW', X', st⟩ := X.outThrough hlocks q (g := F0 m pc ls rest) rfl rfl rfl (cell := ce) (by rw [hT]; exact hcell) (by rw [hv]; rfl)
    (by obtain ⟨k9, h9, -⟩ := Vm.findClass_spec hcl; exact ⟨k9, h9⟩) (fun z hz => by
      rcases hpass z hz with h | ⟨hz0, nm, hl1, hn1⟩
      · exact Or.inl h
      · obtain ⟨c6, hc6, hcl6⟩ := Cond.classLink_spec hown hl1 e.platform hpl
        obtain ⟨a8, b8, h1, h2, h3⟩ := hn1
        cases Option.some.inj (h1.symm.trans hcl)
        cases Option.some.inj (h2.symm.trans hc6)
        exact Or.inr ⟨hz0, _, hcl6, h3⟩)
  obtain ⟨g₀, hfr⟩ := X'.frames_eq
  have hcell9 : ((T.setVm vm').setFrames (.throwing q :: below)).heap[q]? = some ce := by
    show T.heap[q]? = some ce
    rw [hT]; exact hcell
  have hend : Ended ((T.setVm vm').setFrames (.throwing q :: below)) below (.threw q) := State.frames_setFrames _ (State.cur_lt_of_frames hfr)
  refine ⟨(T.setVm vm').setFrames (.throwing q :: below), ?_, .threw q, X'.here.running, hend, Or.inr ⟨q, rfl, E, ce, locs, hx _ hT (X'.ends _).1.alike, hcell9, hv, hcl, (X'.ends _).1, (X'.ends _).2.mono hc hs, hf⟩⟩
  rw [X.pushThrowing_eq]
  exact st
/-- a thing of a world lies in the heap -/
theorem vx_lt {D : va_G} {cl : List vw_C} {ws : va_W} {H1 : Heap} (h : va_P D cl ws H1) {k : Nat} {q : Nat × va_E} (hk : ws[k]? = some q) : q.1 < H1.size := (h k q hk).lt
end VXS
/-! ===== END ===== -/
/-! ===== BEGIN methods with a table of their own: called by a name, returning or throwing ===== -/
section VXH
/-! vx_backW, vx_callVX, vx_callSX, vx_callVW, vx_runVW, vx_runVX, vx_runSX, vx_ofWH follow the same proofs as their sisters above (Free/Laws.lean, Shelf42/LK1.lean); vx_outP calls Shelf42/NT130.lean (outThrough). -/
section
variable {l : Launch} {R : Room} {p : Program} {e : Env} {below : List Frame} {s : State} {sargs : Array Value} {y : MethodName} {len W9 : Nat}
theorem vx_backW {ws : List Cond} {rm : Room} {Pc : Array Value → State → Prop} {Qc : Array Value → State → Outcome → State → Prop} {XC : String → State → State → Prop} {mc ms : Nat} {free : Addr → Prop} {bytes : ByteArray} {maxL : Nat} {ret : Option FieldType} {hh : List (Nat × Nat × Nat × Nat)}
    (hM : vx_Met l y ws rm Pc Qc XC mc ms free) (hblind : FrameBlind Pc) (hrc : rm.cells = mc) (hrs : rm.slots = ms)
    (hframes : rm.frames + 1 ≤ R.frames) (hlocals : W9 + (maxL + 11) + rm.locals ≤ R.locals)
    (hws : ∀ w ∈ ws, ∀ a' U, s.WarmedH U.vm → w.before a' U = true) (hcode : Cond.codeWith y bytes maxL ret hh ∈ ws) (hinit : ∀ a' U, s.WarmedH U.vm → (Cond.initialized y.cls).before a' U = true) :
    vx_Back l R p e below s sargs y len W9 (PreOf R mc ms Pc) (PostOf Qc mc ms free) (vx_Post XC mc ms free) := by
  intro m meth c A g ig mk a X hg hsize hdg hW hn hp
  have h1 : (headSpec ws rm).pre.before a A.U = true := atoms_intro fun w hw => hws w hw _ _ X.warmed
  have h2 : (Cond.codeWith y bytes maxL ret hh).before a A.U = true := hws _ hcode _ _ X.warmed
  have h3 : (Cond.initialized y.cls).before a A.U = true := hinit _ _ X.warmed
  have h4 : A.cells + (headSpec ws rm).room.cells ≤ R.cells := by rw [show (headSpec ws rm).room.cells = mc from hrc]; exact hp.1
  have h5 : A.slots + (headSpec ws rm).room.slots ≤ R.slots := by rw [show (headSpec ws rm).room.slots = ms from hrs]; exact hp.2.1
  have hPc : Pc a (A.U.calling g mk a) := hblind _ _ _ _ hp.2.2
  obtain ⟨U, Ls, c0, s0⟩ := A
  dsimp only [Pt.U, Pt.locs, Pt.cells, Pt.slots] at h1 h2 h3 h4 h5 X hn hPc ⊢
  obtain ⟨m9, methY, cY, hn9, hmY, hcY, -, hlY, -⟩ := Cond.codeWith_spec h2
  cases Option.some.inj (hn9.symm.trans hn)
  obtain ⟨kY, hkY, -⟩ := className_of_methodNamed hn
  have hinitY : kY.init = .initialized := Cond.initialized_spec (findClass_of_methodNamed hn) hkY h3
  have h : At U g.method c below := by rw [hg]; exact X.here
  have hlocals9 : W9 + (maxL + 11) + (headSpec ws rm).room.locals ≤ R.locals := hlocals
  have happ : (headSpec ws rm).appliesLoose y e.platform (U.calling g mk a) = true :=
    Spec.appliesLoose_calling (g := g) h hdg hn hkY hinitY
      (X.room_calling (g := g) (R' := (headSpec ws rm).room) hsize hmY hcY hframes (by rw [hlY]; omega) h4 h5) h1
  obtain ⟨mid, hmid⟩ := h.above
  have hfr : (U.setTop g).frames = (.java g :: mid) ++ below := by rw [State.frames_setTop' g h.top, hmid]; rfl
  obtain ⟨o, s₂, hsteps, -, hend, hq⟩ := Steps.callFree hM p X.admits X.cas X.clock (acts := []) hfr happ hPc trivial
  have hq' : vx_Q Qc XC mc ms free a (U.calling g mk a) o s₂ := hq
  rw [State.frames_setTop' g h.top] at hend
  obtain ⟨g₀, hg0⟩ := Option.isSome_iff_exists.mp h.top
  obtain ⟨r, hr⟩ := State.topJava?_eq_some.mp hg0
  have hr' : (({ U with heap := s₂.heap, slotsUsed := s₂.slotsUsed } : State).setVm s₂.vm).frames = .java g₀ :: r := hr
  rcases hq' with ⟨hqc, L, hfe, hL⟩ | ⟨q, rfl, E, ce, L, hx, hce, hcv, hcl, hW₂, hsm, hL⟩
  · obtain ⟨⟨v, rfl⟩, hW₂, e2, q2, q3, q4, q5, q6⟩ := id hfe
    have e3 : s₂ = ({ (U.calling g mk a).setFrames s₂.frames with heap := s₂.heap, slotsUsed := s₂.slotsUsed } : State).setVm s₂.vm := by
      have : s₂ = ({ s₂ with vm := (U.calling g mk a).vm } : State).setVm s₂.vm := rfl
      rw [e2] at this
      exact this
    obtain ⟨c₂, i₂, len₂, hc₂, hd₂, hf₂⟩ := hend
    have hW' : U.WarmedH s₂.vm := hW₂
    have hcc : c₂ = c := by
      have h1 : s₂.code? g.method = U.code? g.method := by
        rw [State.code?_eq, State.code?_eq, hW'.alike.method?]
      exact Option.some.inj (hc₂.symm.trans (h1.trans h.code))
    subst hcc
    have hlen : len₂ = len := by rw [hdg] at hd₂; cases hd₂; rfl
    subst hlen
    have hs₂ : s₂ = (({ U with heap := s₂.heap, slotsUsed := s₂.slotsUsed } : State).setVm s₂.vm).setTop { g with pc := g.pc + len₂, stack := v.toList ++ g.stack } := by
      refine e3.trans ?_
      rw [hf₂, State.calling_eq h.top, State.setFrames_setFrames, State.setTop_of_frames _ hr', hr]
      rfl
    have hsame : U.sameButNew ({ U with heap := s₂.heap, slotsUsed := s₂.slotsUsed } : State) L mc ms := by
      refine ⟨?_, q2, q3, q4, q5, q6⟩
      obtain ⟨t, ht, -⟩ := State.frames_cons hr
      show ({ U with heap := s₂.heap, slotsUsed := s₂.slotsUsed } : State) = { U.setFrames U.frames with heap := s₂.heap, slotsUsed := s₂.slotsUsed }
      rw [State.setFrames_self ht]
    subst hg
    refine Or.inl ⟨v, ⟨(({ U with heap := s₂.heap, slotsUsed := s₂.slotsUsed } : State).setVm s₂.vm), Ls ++ L, c0 + mc, s0 + ms⟩,
      ⟨X.admits, X.cas, X.clock, X.frames, X.room, X.hears, X.method, X.code, (X.here.setHeapUsed s₂.heap s₂.slotsUsed).setVm hW'.alike, X.tail, State.WarmedH.trans X.warmed hW', X.limits, X.bytes, X.same.trans (hsame.setVm s.vm)⟩,
      ⟨g, mk, s₂, L, rfl, rfl, hqc, rfl, hL, rfl, rfl⟩, ?_⟩
    show Steps p.tables e below _ ((({ U with heap := s₂.heap, slotsUsed := s₂.slotsUsed } : State).setVm s₂.vm).setTop { g with pc := g.pc + len₂, stack := v.toList ++ g.stack })
    rw [← hs₂]
    exact hsteps
  · obtain ⟨e2, q2, q3, q4, q5, q6⟩ := id hsm
    have e3 : s₂ = ({ (U.calling g mk a).setFrames s₂.frames with heap := s₂.heap, slotsUsed := s₂.slotsUsed } : State).setVm s₂.vm := by
      have : s₂ = ({ s₂ with vm := (U.calling g mk a).vm } : State).setVm s₂.vm := rfl
      rw [e2] at this
      exact this
    have hf₂ : s₂.frames = .throwing q :: .java g :: U.frames.tail := hend
    have hW' : U.WarmedH s₂.vm := hW₂
    have hs₂ : s₂ = ((({ U with heap := s₂.heap, slotsUsed := s₂.slotsUsed } : State).setVm s₂.vm).setTop g).pushFrame (.throwing q) := by
      refine e3.trans ?_
      rw [hf₂, State.calling_eq h.top, State.setFrames_setFrames, State.pushFrame, State.frames_setTop _ hr', State.setTop_of_frames _ hr', State.setFrames_setFrames, hr]
      rfl
    have hsame : U.sameButNew ({ U with heap := s₂.heap, slotsUsed := s₂.slotsUsed } : State) L mc ms := by
      refine ⟨?_, q2, q3, q4, q5, q6⟩
      obtain ⟨t, ht, -⟩ := State.frames_cons hr
      show ({ U with heap := s₂.heap, slotsUsed := s₂.slotsUsed } : State) = { U.setFrames U.frames with heap := s₂.heap, slotsUsed := s₂.slotsUsed }
      rw [State.setFrames_self ht]
    subst hg
    refine Or.inr ⟨q, ⟨(({ U with heap := s₂.heap, slotsUsed := s₂.slotsUsed } : State).setVm s₂.vm), Ls ++ L, c0 + mc, s0 + ms⟩,
      ⟨X.admits, X.cas, X.clock, X.frames, X.room, X.hears, X.method, X.code, (X.here.setHeapUsed s₂.heap s₂.slotsUsed).setVm hW'.alike, X.tail, State.WarmedH.trans X.warmed hW', X.limits, X.bytes, X.same.trans (hsame.setVm s.vm)⟩,
      ⟨g, mk, s₂, L, E, ce, rfl, rfl, hx, hce, hcv, hcl, rfl, hL, rfl, rfl⟩, ?_⟩
    show Steps p.tables e below _ (((({ U with heap := s₂.heap, slotsUsed := s₂.slotsUsed } : State).setVm s₂.vm).setTop g).pushFrame (.throwing q))
    rw [← hs₂]
    exact hsteps
end
variable {p : Program} {l : Launch} {e : Env} {R : Room} {s : State} {m : MethodId} {args : Array Value} {below : List Frame} {meth : Method} {c : Code} {T : State} {H : Heap} {locs : List Loc} {cells slots : Nat}
theorem vx_callVX (X : Stand p l e R s m args below meth c T locs cells slots) (hexec : p.tables.exec = Jvm.exec) {own C : String} {index : Nat} {y : MethodName} {bytes : ByteArray} {maxL : Nat} {ret : Option FieldType} {hh : List (Nat × Nat × Nat × Nat)}
    (hown : s.vm.findClass own = some m.cls) (hlink : (Cond.methodLink own index y).before args s = true) (hinst : (Cond.instanceMethod y).before args s = true) (hsel : (Cond.selects C y y).before args s = true)
    (hcode : (Cond.codeWith y bytes maxL ret hh).before args s = true) (hy : y.cls ≠ "java/lang/invoke/MethodHandle" ∧ y.cls ≠ "java/lang/invoke/VarHandle")
    {W9 : Nat} {Pre : Pt → Array Value → Prop} {Post : Pt → Array Value → Option Value → Pt → Prop} {PostX : Pt → Array Value → Addr → Pt → Prop} (hK : vx_Back l R p e below s args y 3 W9 Pre Post PostX)
    {b : Addr} {cellB : Cell} (hcell : T.heap[b]? = some cellB) (hobj : cellB.vm.isStatics = false) (hcls : s.vm.findClass C = some cellB.cls)
    {g : JFrame} (hg : g.method = m) (hsize : g.locals.size = c.maxLocals) {argsL rest : List Value} (hlen : ∀ sig, parseMethodDescriptor y.desc = some sig → argsL.length = sig.parameters.length)
    (hstack : g.stack = argsL.reverse ++ .ref b :: rest) (hW : 2 * g.monitorRoom + (rest.map fun v => v.category).sum ≤ W9) (hdg : decode c.code g.pc = .ok (.invokevirtual index, 3))
    (hpre : ∀ vm₁, s.WarmedH vm₁ → Pre ⟨T.setVm vm₁, locs, cells, slots⟩ (Value.ref b :: argsL).toArray) :
    (∃ (v : Option Value) (vm₁ : Vm) (B : Pt), s.WarmedH vm₁ ∧ Stand p l e R s m args below meth c B.U B.locs B.cells B.slots ∧ Post ⟨T.setVm vm₁, locs, cells, slots⟩ (Value.ref b :: argsL).toArray v B ∧
      ∀ target, Steps p.tables e below (B.U.setTop { g with pc := g.pc + 3, stack := v.toList ++ rest }) target → Steps p.tables e below (T.setTop g) target) ∨
    (∃ (q : Addr) (vm₁ : Vm) (B : Pt), s.WarmedH vm₁ ∧ Stand p l e R s m args below meth c B.U B.locs B.cells B.slots ∧ PostX ⟨T.setVm vm₁, locs, cells, slots⟩ (Value.ref b :: argsL).toArray q B ∧
      Steps p.tables e below (T.setTop g) ((B.U.setTop { g with stack := rest }).pushFrame (.throwing q))) := by
  obtain ⟨mk, methM, hnamed, hmethM, hstM, habM⟩ := Cond.instanceMethod_spec hinst
  obtain ⟨m8, methM', cM, hn8, hmethM', -, -, -, -, -, -, hsigM⟩ := Cond.codeWith_spec hcode
  cases Option.some.inj (hn8.symm.trans hnamed)
  cases hmethM.symm.trans hmethM'
  obtain ⟨c2, r2, m2, q1, q2, q3, q4, kP, hkP, hkPi⟩ := Cond.selects_spec hsel
  cases hcls.symm.trans q1
  cases (State.methodFound?_of_named hnamed hy).symm.trans q2
  cases hnamed.symm.trans q3
  have hselP : selectMethod e.platform s.vm cellB.cls mk = .method mk := by rw [Launch.admits_selectMethod X.admits]; exact q4
  obtain ⟨vm₁, X₁, hstep₁⟩ := X.invokevirtual hexec hown hlink hnamed hmethM hstM hkP hkPi hy (a := b) (cell := cellB) hcell
    (fun z h => by rw [h] at hobj; cases hobj) hselP hmethM habM hkP hkPi (g := g) hg (argsL := argsL) (rest := rest) (hlen _ hsigM) hstack hdg
  rcases hK m meth c ⟨T.setVm vm₁, locs, cells, slots⟩ { g with stack := rest } (.invokevirtual index) mk (Value.ref b :: argsL).toArray X₁ hg hsize hdg hW (X₁.named hnamed) (hpre vm₁ X₁.warmed) with ⟨v, B, X', hpost, hsteps⟩ | ⟨q, B, X', hpost, hsteps⟩
  · exact Or.inl ⟨v, vm₁, B, X₁.warmed, X', hpost, fun target h => hstep₁ _ fun acts => by rw [doInvoke_state]; exact hsteps.trans h⟩
  · exact Or.inr ⟨q, vm₁, B, X₁.warmed, X', hpost, hstep₁ _ fun acts => by rw [doInvoke_state]; exact hsteps⟩
theorem vx_callSX (X : Stand p l e R s m args below meth c T locs cells slots) (hexec : p.tables.exec = Jvm.exec) {own : String} {index : Nat} {y : MethodName} {bytes : ByteArray} {maxL : Nat} {ret : Option FieldType} {hh : List (Nat × Nat × Nat × Nat)}
    (hown : s.vm.findClass own = some m.cls) (hlink : (Cond.methodLink own index y).before args s = true) (hstat : (Cond.static y).before args s = true) (hinit : (Cond.initialized y.cls).before args s = true)
    (hcode : (Cond.codeWith y bytes maxL ret hh).before args s = true) (hy : y.cls ≠ "java/lang/invoke/MethodHandle" ∧ y.cls ≠ "java/lang/invoke/VarHandle")
    {W9 : Nat} {Pre : Pt → Array Value → Prop} {Post : Pt → Array Value → Option Value → Pt → Prop} {PostX : Pt → Array Value → Addr → Pt → Prop} (hK : vx_Back l R p e below s args y 3 W9 Pre Post PostX)
    {g : JFrame} (hg : g.method = m) (hsize : g.locals.size = c.maxLocals) {argsL rest : List Value} (hlen : ∀ sig, parseMethodDescriptor y.desc = some sig → argsL.length = sig.parameters.length)
    (hstack : g.stack = argsL.reverse ++ rest) (hW : 2 * g.monitorRoom + (rest.map fun v => v.category).sum ≤ W9) (hdg : decode c.code g.pc = .ok (.invokestatic index, 3))
    (hpre : ∀ vm₁, s.WarmedH vm₁ → Pre ⟨T.setVm vm₁, locs, cells, slots⟩ argsL.toArray) :
    (∃ (v : Option Value) (vm₁ : Vm) (B : Pt), s.WarmedH vm₁ ∧ Stand p l e R s m args below meth c B.U B.locs B.cells B.slots ∧ Post ⟨T.setVm vm₁, locs, cells, slots⟩ argsL.toArray v B ∧
      ∀ target, Steps p.tables e below (B.U.setTop { g with pc := g.pc + 3, stack := v.toList ++ rest }) target → Steps p.tables e below (T.setTop g) target) ∨
    (∃ (q : Addr) (vm₁ : Vm) (B : Pt), s.WarmedH vm₁ ∧ Stand p l e R s m args below meth c B.U B.locs B.cells B.slots ∧ PostX ⟨T.setVm vm₁, locs, cells, slots⟩ argsL.toArray q B ∧
      Steps p.tables e below (T.setTop g) ((B.U.setTop { g with stack := rest }).pushFrame (.throwing q))) := by
  obtain ⟨mk, methM, cM, hnamed, hmethM, -, -, -, -, -, -, hsigM⟩ := Cond.codeWith_spec hcode
  have hstatic : methM.isStatic = true := Cond.static_spec hnamed hmethM hstat
  obtain ⟨kP, hkP, -⟩ := className_of_methodNamed hnamed
  have hinitP : kP.init = .initialized := Cond.initialized_spec (findClass_of_methodNamed hnamed) hkP hinit
  obtain ⟨vm₁, X₁, hstep₁⟩ := X.invokestatic hexec hown hlink hnamed hmethM hstatic hkP hinitP hy (g := g) hg (argsL := argsL) (rest := rest) (hlen _ hsigM) hstack hdg
  rcases hK m meth c ⟨T.setVm vm₁, locs, cells, slots⟩ { g with stack := rest } (.invokestatic index) mk argsL.toArray X₁ hg hsize hdg hW (X₁.named hnamed) (hpre vm₁ X₁.warmed) with ⟨v, B, X', hpost, hsteps⟩ | ⟨q, B, X', hpost, hsteps⟩
  · exact Or.inl ⟨v, vm₁, B, X₁.warmed, X', hpost, fun target h => hstep₁ _ fun acts => by rw [doInvoke_state]; exact hsteps.trans h⟩
  · exact Or.inr ⟨q, vm₁, B, X₁.warmed, X', hpost, hstep₁ _ fun acts => by rw [doInvoke_state]; exact hsteps⟩
theorem vx_callVW (X : Stand p l e R s m args below meth c T locs cells slots) (hexec : p.tables.exec = Jvm.exec) {own C : String} {index : Nat} {y : MethodName} {bytes : ByteArray} {maxL : Nat} {ret : Option FieldType} {hh : List (Nat × Nat × Nat × Nat)}
    (hown : s.vm.findClass own = some m.cls) (hlink : (Cond.methodLink own index y).before args s = true) (hinst : (Cond.instanceMethod y).before args s = true) (hsel : (Cond.selects C y y).before args s = true)
    (hcode : (Cond.codeWith y bytes maxL ret hh).before args s = true) (hy : y.cls ≠ "java/lang/invoke/MethodHandle" ∧ y.cls ≠ "java/lang/invoke/VarHandle")
    {W9 : Nat} {Pre : Pt → Array Value → Prop} {Post : Pt → Array Value → Option Value → Pt → Prop} (hK : Back l R p e below s args y 3 W9 Pre Post)
    {b : Addr} {cellB : Cell} (hcell : T.heap[b]? = some cellB) (hobj : cellB.vm.isStatics = false) (hcls : s.vm.findClass C = some cellB.cls)
    {g : JFrame} (hg : g.method = m) (hsize : g.locals.size = c.maxLocals) {argsL rest : List Value} (hlen : ∀ sig, parseMethodDescriptor y.desc = some sig → argsL.length = sig.parameters.length)
    (hstack : g.stack = argsL.reverse ++ .ref b :: rest) (hW : 2 * g.monitorRoom + (rest.map fun v => v.category).sum ≤ W9) (hdg : decode c.code g.pc = .ok (.invokevirtual index, 3))
    (hpre : ∀ vm₁, s.WarmedH vm₁ → Pre ⟨T.setVm vm₁, locs, cells, slots⟩ (Value.ref b :: argsL).toArray) :
    ∃ (v : Option Value) (vm₁ : Vm) (B : Pt), s.WarmedH vm₁ ∧ Stand p l e R s m args below meth c B.U B.locs B.cells B.slots ∧ Post ⟨T.setVm vm₁, locs, cells, slots⟩ (Value.ref b :: argsL).toArray v B ∧
      ∀ target, Steps p.tables e below (B.U.setTop { g with pc := g.pc + 3, stack := v.toList ++ rest }) target → Steps p.tables e below (T.setTop g) target := by
  obtain ⟨mk, methM, hnamed, hmethM, hstM, habM⟩ := Cond.instanceMethod_spec hinst
  obtain ⟨m8, methM', cM, hn8, hmethM', -, -, -, -, -, -, hsigM⟩ := Cond.codeWith_spec hcode
  cases Option.some.inj (hn8.symm.trans hnamed)
  cases hmethM.symm.trans hmethM'
  obtain ⟨c2, r2, m2, q1, q2, q3, q4, kP, hkP, hkPi⟩ := Cond.selects_spec hsel
  cases hcls.symm.trans q1
  cases (State.methodFound?_of_named hnamed hy).symm.trans q2
  cases hnamed.symm.trans q3
  have hselP : selectMethod e.platform s.vm cellB.cls mk = .method mk := by rw [Launch.admits_selectMethod X.admits]; exact q4
  obtain ⟨vm₁, X₁, hstep₁⟩ := X.invokevirtual hexec hown hlink hnamed hmethM hstM hkP hkPi hy (a := b) (cell := cellB) hcell
    (fun z h => by rw [h] at hobj; cases hobj) hselP hmethM habM hkP hkPi (g := g) hg (argsL := argsL) (rest := rest) (hlen _ hsigM) hstack hdg
  obtain ⟨v, B, X', hpost, hsteps⟩ := hK m meth c ⟨T.setVm vm₁, locs, cells, slots⟩ { g with stack := rest } (.invokevirtual index) mk (Value.ref b :: argsL).toArray X₁ hg hsize hdg hW (X₁.named hnamed) (hpre vm₁ X₁.warmed)
  exact ⟨v, vm₁, B, X₁.warmed, X', hpost, fun target h => hstep₁ _ fun acts => by rw [doInvoke_state]; exact hsteps.trans h⟩
abbrev vx_CVW (R : Room) (s : State) (args : Array Value) (own C : String) (index : Nat) (y : MethodName) (bytes : ByteArray) (maxL : Nat) (ret : Option FieldType) (hh : List (Nat × Nat × Nat × Nat)) (ws : List Cond) (rm : Room) (mc ms n : Nat) : Prop :=
  (rm.cells = mc ∧ rm.slots = ms ∧ rm.frames + 1 ≤ R.frames ∧ 8 + (maxL + 11) + rm.locals ≤ R.locals ∧ (∀ w ∈ ws, ∀ (a' : Array Value) (U : State), s.WarmedH U.vm → w.before a' U = true) ∧ Cond.codeWith y bytes maxL ret hh ∈ ws) ∧
  (Cond.codeWith y bytes maxL ret hh).before args s = true ∧ (Cond.initialized y.cls).before args s = true ∧ (y.cls ≠ "java/lang/invoke/MethodHandle" ∧ y.cls ≠ "java/lang/invoke/VarHandle") ∧
  (∀ sig, parseMethodDescriptor y.desc = some sig → n = sig.parameters.length) ∧ (Cond.methodLink own index y).before args s = true ∧ (Cond.instanceMethod y).before args s = true ∧ (Cond.selects C y y).before args s = true
theorem vx_cwVW {own C : String} {index maxL mc ms : Nat} {y : MethodName} {bytes : ByteArray} {ret : Option FieldType} {hh : List (Nat × Nat × Nat × Nat)} {Ts ws ws' : List Cond} {rm : Room} (n : Nat) (ht : ∀ w ∈ Ts, w.before args s = true) (hT : GoodIn Ts (wsV own index C y ws)) (hw : ws = Cond.codeWith y bytes maxL ret hh :: ws') (hrc : rm.cells = mc) (hrs : rm.slots = ms)
    (hd : y.cls = C ∧ y.cls ≠ "java/lang/invoke/MethodHandle" ∧ y.cls ≠ "java/lang/invoke/VarHandle" ∧ (parseMethodDescriptor y.desc).map (fun d => d.parameters.length) = some n) (hR : rm.frames + 1 ≤ R.frames ∧ 8 + (maxL + 11) + rm.locals ≤ R.locals) :
    vx_CVW R s args own C index y bytes maxL ret hh ws rm mc ms n := by
  obtain ⟨hC, hd⟩ := hd
  subst hC
  have ok : ∀ w ∈ wsV own index y.cls y ws, w.before args s = true := fun w h => ht w (hT w h).1
  have hG : GoodIn Ts ws := fun w h => hT w (by unfold wsV; exact List.mem_append_right _ h)
  have hc : Cond.codeWith y bytes maxL ret hh ∈ ws := by rw [hw]; exact List.mem_cons_self
  refine ⟨⟨hrc, hrs, hR.1, hR.2, pay_in ht hG, hc⟩, ht _ (hG _ hc).1, ok _ (by simp [wsV]), ⟨hd.1, hd.2.1⟩, fun sig h => ?_, ok _ (by simp [wsV]), ok _ (by simp [wsV]), ok _ (by simp [wsV])⟩
  have h2 := hd.2.2
  rw [h] at h2
  exact (Option.some.inj h2).symm
theorem vx_runVW {y : MethodName} {bytes cc : ByteArray} {maxL nL mc ms n index : Nat} {ret : Option FieldType} {hh : List (Nat × Nat × Nat × Nat)} {ws : List Cond} {rm : Room} {Pc : Array Value → State → Prop} {Qc : Array Value → State → Outcome → State → Prop} {free : Addr → Prop} {Ts : List Cond} {own C : String} {b : Addr} {As rest : List Value} {g : JFrame}
    (S : CallFix p m c cc nL s args Ts own) (hM : Met l y ws rm Pc Qc mc ms free) (cw : vx_CVW R s args own C index y bytes maxL ret hh ws rm mc ms n) (hp : PreV s H C b Pc As)
    (hg : g.method = m) (hn : As.length = n) (hsize : g.locals.size = nL) (hstack : g.stack = As.reverse ++ .ref b :: rest) (hW : 2 * g.monitorRoom + (rest.map fun v => v.category).sum ≤ 8) (hdg : decode cc g.pc = .ok (.invokevirtual index, 3)) (hf : cells + mc ≤ R.cells ∧ slots + ms ≤ R.slots) :
    va_Run p l e R s m args below meth c H locs cells slots mc ms g rest (Qc (Value.ref b :: As).toArray) free := by
  obtain ⟨⟨hrc, hrs, hfr, hlo, hws, hcw⟩, hcode, hini, hy, hlen, hl, hin, hse⟩ := cw
  have hK : Back l R p e below s args y 3 8 (PreOf R mc ms Pc) (PostOf Qc mc ms free) := va_backW (hh := hh) (bytes := bytes) (maxL := maxL) (ret := ret) hM hp.1 hrc hrs hfr hlo hws hcw (fun a' U hW => word_at hW (Or.inl (by first | rfl | simp [Cond.onTables, Cond.keeps, Cond.steady])) hini)
  obtain ⟨hx, hb, hml, ho, -⟩ := S
  obtain ⟨-, ⟨cellB, hcB, hoB, hclB⟩, hPc⟩ := hp
  intro T hT X
  obtain ⟨v, vm₁, ⟨U', l2, c2, s2⟩, hW₁, X', ⟨g', mk, t, L, e1, e2, hq, h1, hL, h2, h3⟩, st⟩ := vx_callVW X hx (C := C) (hh := hh) (bytes := bytes) (maxL := maxL) (ret := ret) ho hl hin hse hcode hy hK (by rw [hT]; exact hcB) hoB hclB hg (hsize.trans hml.symm) (argsL := As) (rest := rest) (fun sig h => hn.trans (hlen sig h)) hstack hW (by rw [hb]; exact hdg)
    (fun vm₁ hW₁ => ⟨hf.1, hf.2, hPc (T.setVm vm₁) hT hW₁⟩)
  dsimp only [Pt.U, Pt.locs, Pt.cells, Pt.slots] at X' e1 e2 h1 h2 h3 st
  subst h1; subst h2; subst h3
  exact ⟨v, (T.setVm vm₁).calling g' mk (Value.ref b :: As).toArray, t, U', L, hT, X', hL, e1, e2, hq, st⟩
section
variable {y : MethodName} {bytes cc : ByteArray} {maxL nL mc ms n index : Nat} {ret : Option FieldType} {ws : List Cond} {rm : Room} {Pc : Array Value → State → Prop} {Qc : Array Value → State → Outcome → State → Prop} {XC : String → State → State → Prop} {free : Addr → Prop} {Ts : List Cond} {own C : String} {b : Addr} {As rest : List Value} {g : JFrame}
theorem vx_runVX {hh : List (Nat × Nat × Nat × Nat)} (S : CallFix p m c cc nL s args Ts own) (hM : vx_Met l y ws rm Pc Qc XC mc ms free) (cw : vx_CVW R s args own C index y bytes maxL ret hh ws rm mc ms n) (hp : PreV s H C b Pc As)
    (hg : g.method = m) (hn : As.length = n) (hsize : g.locals.size = nL) (hstack : g.stack = As.reverse ++ .ref b :: rest) (hW : 2 * g.monitorRoom + (rest.map fun v => v.category).sum ≤ 8) (hdg : decode cc g.pc = .ok (.invokevirtual index, 3)) (hf : cells + mc ≤ R.cells ∧ slots + ms ≤ R.slots) :
    vx_Run p l e R s m args below meth c H locs cells slots mc ms g rest (Qc (Value.ref b :: As).toArray) XC free := by
  obtain ⟨⟨hrc, hrs, hfr, hlo, hws, hcw⟩, hcode, hini, hy, hlen, hl, hin, hse⟩ := cw
  have hK : vx_Back l R p e below s args y 3 8 (PreOf R mc ms Pc) (PostOf Qc mc ms free) (vx_Post XC mc ms free) := vx_backW (hh := hh) (bytes := bytes) (maxL := maxL) (ret := ret) hM hp.1 hrc hrs hfr hlo hws hcw (fun a' U hW => word_at hW (Or.inl (by first | rfl | simp [Cond.onTables, Cond.keeps, Cond.steady])) hini)
  obtain ⟨hx, hb, hml, ho, -⟩ := S
  obtain ⟨-, ⟨cellB, hcB, hoB, hclB⟩, hPc⟩ := hp
  intro T hT X
  rcases vx_callVX X hx (C := C) (hh := hh) (bytes := bytes) (maxL := maxL) (ret := ret) ho hl hin hse hcode hy hK (by rw [hT]; exact hcB) hoB hclB hg (hsize.trans hml.symm) (argsL := As) (rest := rest) (fun sig h => hn.trans (hlen sig h)) hstack hW (by rw [hb]; exact hdg)
    (fun vm₁ hW₁ => ⟨hf.1, hf.2, hPc (T.setVm vm₁) hT hW₁⟩) with ⟨v, vm₁, ⟨U', l2, c2, s2⟩, hW₁, X', ⟨g', mk, t, L, e1, e2, hq, h1, hL, h2, h3⟩, st⟩ | ⟨q, vm₁, ⟨U', l2, c2, s2⟩, hW₁, X', ⟨g', mk, t, L, E, ce, e1, e2, hq, hce, hcv, hcl, h1, hL, h2, h3⟩, st⟩
  · dsimp only [Pt.U, Pt.locs, Pt.cells, Pt.slots] at X' e1 e2 h1 h2 h3 st
    subst h1; subst h2; subst h3
    exact Or.inl ⟨v, (T.setVm vm₁).calling g' mk (Value.ref b :: As).toArray, t, U', L, hT, X', hL, e1, e2, hq, st⟩
  · dsimp only [Pt.U, Pt.locs, Pt.cells, Pt.slots] at X' e1 e2 h1 h2 h3 st hcl
    subst h1; subst h2; subst h3
    exact Or.inr ⟨q, (T.setVm vm₁).calling g' mk (Value.ref b :: As).toArray, t, U', L, E, ce, hT, X', hL, e1, e2, hq, hce, hcv, vx_cls hW₁ hcl, st⟩
theorem vx_runSX {hh : List (Nat × Nat × Nat × Nat)} (S : CallFix p m c cc nL s args Ts own) (hM : vx_Met l y ws rm Pc Qc XC mc ms free) (cw : vx_CSW R s args own index y bytes maxL ret hh ws rm mc ms n) (hp : PreS s H Pc As)
    (hg : g.method = m) (hn : As.length = n) (hsize : g.locals.size = nL) (hstack : g.stack = As.reverse ++ rest) (hW : 2 * g.monitorRoom + (rest.map fun v => v.category).sum ≤ 8) (hdg : decode cc g.pc = .ok (.invokestatic index, 3)) (hf : cells + mc ≤ R.cells ∧ slots + ms ≤ R.slots) :
    vx_Run p l e R s m args below meth c H locs cells slots mc ms g rest (Qc As.toArray) XC free := by
  obtain ⟨⟨hrc, hrs, hfr, hlo, hws, hcw⟩, hcode, hini, hy, hlen, hl, hstt⟩ := cw
  have hK : vx_Back l R p e below s args y 3 8 (PreOf R mc ms Pc) (PostOf Qc mc ms free) (vx_Post XC mc ms free) := vx_backW (hh := hh) (bytes := bytes) (maxL := maxL) (ret := ret) hM hp.1 hrc hrs hfr hlo hws hcw (fun a' U hW => word_at hW (Or.inl (by first | rfl | simp [Cond.onTables, Cond.keeps, Cond.steady])) hini)
  obtain ⟨hx, hb, hml, ho, -⟩ := S
  intro T hT X
  rcases vx_callSX X hx (hh := hh) (bytes := bytes) (maxL := maxL) (ret := ret) ho hl hstt hini hcode hy hK hg (hsize.trans hml.symm) (argsL := As) (rest := rest) (fun sig h => hn.trans (hlen sig h)) hstack hW (by rw [hb]; exact hdg)
    (fun vm₁ hW₁ => ⟨hf.1, hf.2, hp.2 (T.setVm vm₁) hT hW₁⟩) with ⟨v, vm₁, ⟨U', l2, c2, s2⟩, hW₁, X', ⟨g', mk, t, L, e1, e2, hq, h1, hL, h2, h3⟩, st⟩ | ⟨q, vm₁, ⟨U', l2, c2, s2⟩, hW₁, X', ⟨g', mk, t, L, E, ce, e1, e2, hq, hce, hcv, hcl, h1, hL, h2, h3⟩, st⟩
  · dsimp only [Pt.U, Pt.locs, Pt.cells, Pt.slots] at X' e1 e2 h1 h2 h3 st
    subst h1; subst h2; subst h3
    exact Or.inl ⟨v, (T.setVm vm₁).calling g' mk As.toArray, t, U', L, hT, X', hL, e1, e2, hq, st⟩
  · dsimp only [Pt.U, Pt.locs, Pt.cells, Pt.slots] at X' e1 e2 h1 h2 h3 st hcl
    subst h1; subst h2; subst h3
    exact Or.inr ⟨q, (T.setVm vm₁).calling g' mk As.toArray, t, U', L, E, ce, hT, X', hL, e1, e2, hq, hce, hcv, vx_cls hW₁ hcl, st⟩
end
end VXH
theorem vx_ofWH {l : Launch} {y : MethodName} {ws ws' : List Cond} {rm : Room} {Pc : Array Value → State → Prop} {Qc : Array Value → State → Outcome → State → Prop} {XC : String → State → State → Prop} {mc ms : Nat} {free : Addr → Prop} {cc : ByteArray} {maxL : Nat} {ret : Option FieldType} {hh : List (Nat × Nat × Nat × Nat)}
    (hy : plainName y.cls = true) (hw : ws = Cond.codeWith y cc maxL ret hh :: ws')
    (body : ∀ p e s m args below meth c s₁, BodyLoose p l y (headSpec ws rm) cc maxL ret e s m args below meth c s₁ → c.maxLocals = maxL → Pc args s →
      W p l e (headSpec ws rm).room s m args below meth c s.heap [] 0 0 (vx_MQ below Qc XC args s mc ms free) (entryFrame m args maxL)) : vx_Met l y ws rm Pc Qc XC mc ms free := by
  refine MetFree.of_bodyS (code := cc) (maxLocals := maxL) (ret := ret) hy ?_ ?_
  · intro args s m h hn
    obtain ⟨m9, meth, c, hn9, h1, h2, h3, h4, -, h5, h6, -⟩ := Cond.codeWith_spec (atoms_spec (ws := ws) h _ (by rw [hw]; exact List.mem_cons_self))
    cases hn.symm.trans hn9
    exact ⟨meth, c, h1, h2, h3, h4, h5, h6⟩
  · intro p e s m args below meth c s₁ B hml hP _
    have hh0 : s₁.heap = s.heap := by rw [B.state]; rfl
    obtain ⟨t, a1, o, b1, b2, b3⟩ := body p e s m args below meth c s₁ B hml hP s₁ hh0 (Stand.of_body B)
    exact ⟨t, o, a1, b1, b2, b3⟩
/-! ===== END ===== -/
end
section
/-! names of the classes (by letters: J Journey, N Lane, P Port, T Ticket, H Wish, X IslandRights, M IslandRightsModel, L the law) and of their methods; words of the tables -/
def zR_J : String := "IslandRights$Journey"
def zT_J : u_T := fun k => match k with
  | 0 => ("IslandRights$Journey", "times", "[I", true)
  | _ => ("IslandRights$Journey", "parts", "I", false)
def zy_J : Nat → FieldType := fun k => match k with
  | 0 => .array .int
  | _ => .int
theorem zn_J : ∀ a, a < 2 → ∀ b, b < 2 → a ≠ b → (zT_J a).2.1 ≠ (zT_J b).2.1 := by decide +kernel
theorem zt_J : ∀ k, k < 2 → parseFieldDescriptor (zT_J k).2.2.1 = some (zy_J k) := by decide +kernel
def zR_N : String := "IslandRights$Lane"
def zT_N : u_T := fun k => match k with
  | 0 => ("IslandRights$Lane", "places", "[I", true)
  | 1 => ("IslandRights$Lane", "amounts", "[I", true)
  | 2 => ("IslandRights$Lane", "gone", "I", false)
  | 3 => ("IslandRights$Lane", "waiting", "I", false)
  | 4 => ("IslandRights$Lane", "taken", "I", false)
  | 5 => ("IslandRights$Lane", "word", "I", false)
  | _ => ("IslandRights$Lane", "answer", "I", false)
def zy_N : Nat → FieldType := fun k => match k with
  | 0 => .array .int
  | 1 => .array .int
  | 2 => .int
  | 3 => .int
  | 4 => .int
  | 5 => .int
  | _ => .int
theorem zn_N : ∀ a, a < 7 → ∀ b, b < 7 → a ≠ b → (zT_N a).2.1 ≠ (zT_N b).2.1 := by decide +kernel
theorem zt_N : ∀ k, k < 7 → parseFieldDescriptor (zT_N k).2.2.1 = some (zy_N k) := by decide +kernel
def zR_P : String := "IslandRights$Port"
def zT_P : u_T := fun k => match k with
  | 0 => ("IslandRights$Port", "owned", "[I", true)
  | 1 => ("IslandRights$Port", "row", "[LIslandRights$Wish;", true)
  | 2 => ("IslandRights$Port", "waiting", "I", false)
  | _ => ("IslandRights$Port", "takings", "J", false)
def zy_P : Nat → FieldType := fun k => match k with
  | 0 => .array .int
  | 1 => .array (.object "IslandRights$Wish")
  | 2 => .int
  | _ => .long
theorem zn_P : ∀ a, a < 4 → ∀ b, b < 4 → a ≠ b → (zT_P a).2.1 ≠ (zT_P b).2.1 := by decide +kernel
theorem zt_P : ∀ k, k < 4 → parseFieldDescriptor (zT_P k).2.2.1 = some (zy_P k) := by decide +kernel
def zR_T : String := "IslandRights$Ticket"
def zT_T : u_T := fun k => match k with
  | 0 => ("IslandRights$Ticket", "port", "I", true)
  | 1 => ("IslandRights$Ticket", "seats", "I", true)
  | 2 => ("IslandRights$Ticket", "journey", "LIslandRights$Journey;", true)
  | 3 => ("IslandRights$Ticket", "cost", "J", true)
  | _ => ("IslandRights$Ticket", "cancelled", "Z", false)
def zy_T : Nat → FieldType := fun k => match k with
  | 0 => .int
  | 1 => .int
  | 2 => .object "IslandRights$Journey"
  | 3 => .long
  | _ => .boolean
theorem zn_T : ∀ a, a < 5 → ∀ b, b < 5 → a ≠ b → (zT_T a).2.1 ≠ (zT_T b).2.1 := by decide +kernel
theorem zt_T : ∀ k, k < 5 → parseFieldDescriptor (zT_T k).2.2.1 = some (zy_T k) := by decide +kernel
def zR_H : String := "IslandRights$Wish"
def zT_H : u_T := fun k => match k with
  | 0 => ("IslandRights$Wish", "journey", "LIslandRights$Journey;", true)
  | _ => ("IslandRights$Wish", "seats", "I", true)
def zy_H : Nat → FieldType := fun k => match k with
  | 0 => .object "IslandRights$Journey"
  | _ => .int
theorem zn_H : ∀ a, a < 2 → ∀ b, b < 2 → a ≠ b → (zT_H a).2.1 ≠ (zT_H b).2.1 := by decide +kernel
theorem zt_H : ∀ k, k < 2 → parseFieldDescriptor (zT_H k).2.2.1 = some (zy_H k) := by decide +kernel
def zR_X : String := "IslandRights"
def zT_X : u_T := fun k => match k with
  | 0 => ("IslandRights", "opened", "[Z", true)
  | 1 => ("IslandRights", "fares", "[I", true)
  | 2 => ("IslandRights", "soldSeats", "[I", true)
  | 3 => ("IslandRights", "airborne", "[I", true)
  | 4 => ("IslandRights", "ports", "[LIslandRights$Port;", true)
  | 5 => ("IslandRights", "lanes", "[LIslandRights$Lane;", true)
  | 6 => ("IslandRights", "tickets", "[LIslandRights$Ticket;", true)
  | 7 => ("IslandRights", "ticketCount", "I", false)
  | _ => ("IslandRights", "draft", "LIslandRights$Journey;", false)
def zy_X : Nat → FieldType := fun k => match k with
  | 0 => .array .boolean
  | 1 => .array .int
  | 2 => .array .int
  | 3 => .array .int
  | 4 => .array (.object "IslandRights$Port")
  | 5 => .array (.object "IslandRights$Lane")
  | 6 => .array (.object "IslandRights$Ticket")
  | 7 => .int
  | _ => .object "IslandRights$Journey"
theorem zn_X : ∀ a, a < 9 → ∀ b, b < 9 → a ≠ b → (zT_X a).2.1 ≠ (zT_X b).2.1 := by decide +kernel
theorem zt_X : ∀ k, k < 9 → parseFieldDescriptor (zT_X k).2.2.1 = some (zy_X k) := by decide +kernel
def zR_M : String := "IslandRightsModel"
def zT_M : u_T := fun k => match k with
  | 0 => ("IslandRightsModel", "fault", "I", false)
  | 1 => ("IslandRightsModel", "isOpen", "[Z", true)
  | 2 => ("IslandRightsModel", "fares", "[I", true)
  | 3 => ("IslandRightsModel", "right", "[I", true)
  | 4 => ("IslandRightsModel", "sailing", "[I", true)
  | 5 => ("IslandRightsModel", "from", "[I", true)
  | 6 => ("IslandRightsModel", "to", "[I", true)
  | 7 => ("IslandRightsModel", "drafted", "I", false)
  | 8 => ("IslandRightsModel", "tickets", "I", false)
  | 9 => ("IslandRightsModel", "portOf", "[I", true)
  | 10 => ("IslandRightsModel", "seatsOf", "[I", true)
  | 11 => ("IslandRightsModel", "partsOf", "[I", true)
  | 12 => ("IslandRightsModel", "priceOf", "[J", true)
  | 13 => ("IslandRightsModel", "isSold", "[Z", true)
  | 14 => ("IslandRightsModel", "tills", "[J", true)
  | 15 => ("IslandRightsModel", "waits", "[I", true)
  | 16 => ("IslandRightsModel", "wanted", "[I", true)
  | 17 => ("IslandRightsModel", "wantedParts", "[I", true)
  | 18 => ("IslandRightsModel", "numbers", "[I", true)
  | 19 => ("IslandRightsModel", "boxed", "[I", true)
  | 20 => ("IslandRightsModel", "word", "[I", true)
  | 21 => ("IslandRightsModel", "taken", "[I", true)
  | 22 => ("IslandRightsModel", "back", "[I", true)
  | 23 => ("IslandRightsModel", "number", "[I", true)
  | 24 => ("IslandRightsModel", "legOf", "[I", true)
  | 25 => ("IslandRightsModel", "many", "[I", true)
  | 26 => ("IslandRightsModel", "wordLeg", "[I", true)
  | _ => ("IslandRightsModel", "wordMany", "[I", true)
def zy_M : Nat → FieldType := fun k => match k with
  | 0 => .int
  | 1 => .array .boolean
  | 2 => .array .int
  | 3 => .array .int
  | 4 => .array .int
  | 5 => .array .int
  | 6 => .array .int
  | 7 => .int
  | 8 => .int
  | 9 => .array .int
  | 10 => .array .int
  | 11 => .array .int
  | 12 => .array .long
  | 13 => .array .boolean
  | 14 => .array .long
  | 15 => .array .int
  | 16 => .array .int
  | 17 => .array .int
  | 18 => .array .int
  | 19 => .array .int
  | 20 => .array .int
  | 21 => .array .int
  | 22 => .array .int
  | 23 => .array .int
  | 24 => .array .int
  | 25 => .array .int
  | 26 => .array .int
  | _ => .array .int
theorem zn_M : ∀ a, a < 28 → ∀ b, b < 28 → a ≠ b → (zT_M a).2.1 ≠ (zT_M b).2.1 := by decide +kernel
theorem zt_M : ∀ k, k < 28 → parseFieldDescriptor (zT_M k).2.2.1 = some (zy_M k) := by decide +kernel
abbrev vwCl : List vw_C := [(zR_J, zT_J, 2), (zR_N, zT_N, 7), (zR_P, zT_P, 4), (zR_T, zT_T, 5), (zR_H, zT_H, 2), (zR_X, zT_X, 9), (zR_M, zT_M, 28)]
abbrev zg_T (A : Nat → ClassId) : List (ClassId × FieldType) := [(A 0, .int), (A 1, .boolean), (A 2, .long), (A 3, .object "IslandRights$Port"), (A 4, .object "IslandRights$Lane"), (A 5, .object "IslandRights$Ticket"), (A 6, .object "IslandRights$Wish")]
abbrev zc_X_init : ByteArray := prog_1_method_1_code
def zm_X_init : MethodName := ⟨"IslandRights", "<init>", "()V"⟩
abbrev zc_J_init : ByteArray := prog_2_method_1_code
def zm_J_init : MethodName := ⟨"IslandRights$Journey", "<init>", "()V"⟩
abbrev zc_P_init : ByteArray := prog_4_method_1_code
def zm_P_init : MethodName := ⟨"IslandRights$Port", "<init>", "()V"⟩
abbrev zc_N_init : ByteArray := prog_3_method_1_code
def zm_N_init : MethodName := ⟨"IslandRights$Lane", "<init>", "()V"⟩
abbrev zc_L_open : ByteArray := method_3_code
def zm_L_open : MethodName := ⟨"IslandRightsLaw", "open", "(LIslandRights;II)I"⟩
abbrev zc_X_open : ByteArray := prog_1_method_2_code
def zm_X_open : MethodName := ⟨"IslandRights", "open", "(II)V"⟩
abbrev zc_X_checkSailing : ByteArray := prog_1_method_23_code
def zm_X_checkSailing : MethodName := ⟨"IslandRights", "checkSailing", "(I)V"⟩
abbrev zc_X_checkSeats : ByteArray := prog_1_method_29_code
def zm_X_checkSeats : MethodName := ⟨"IslandRights", "checkSeats", "(I)V"⟩
abbrev zc_X_placeOf : ByteArray := prog_1_method_31_code
def zm_X_placeOf : MethodName := ⟨"IslandRights", "placeOf", "(II)I"⟩
abbrev zc_L_fare : ByteArray := method_4_code
def zm_L_fare : MethodName := ⟨"IslandRightsLaw", "fare", "(LIslandRights;III)I"⟩
abbrev zc_X_fare : ByteArray := prog_1_method_3_code
def zm_X_fare : MethodName := ⟨"IslandRights", "fare", "(III)V"⟩
abbrev zc_X_checkLeg : ByteArray := prog_1_method_24_code
def zm_X_checkLeg : MethodName := ⟨"IslandRights", "checkLeg", "(I)V"⟩
abbrev zc_L_part : ByteArray := method_5_code
def zm_L_part : MethodName := ⟨"IslandRightsLaw", "part", "(LIslandRights;III[J)I"⟩
abbrev zc_X_part : ByteArray := prog_1_method_4_code
def zm_X_part : MethodName := ⟨"IslandRights", "part", "(III)I"⟩
abbrev zc_X_checkStop : ByteArray := prog_1_method_25_code
def zm_X_checkStop : MethodName := ⟨"IslandRights", "checkStop", "(I)V"⟩
abbrev zc_J_addPart : ByteArray := prog_2_method_2_code
def zm_J_addPart : MethodName := ⟨"IslandRights$Journey", "addPart", "(III)V"⟩
abbrev zc_L_buy : ByteArray := method_6_code
def zm_L_buy : MethodName := ⟨"IslandRightsLaw", "buy", "(LIslandRights;II[J)I"⟩
abbrev zc_X_buy : ByteArray := prog_1_method_5_code
def zm_X_buy : MethodName := ⟨"IslandRights", "buy", "(II)I"⟩
abbrev zc_X_checkPort : ByteArray := prog_1_method_22_code
def zm_X_checkPort : MethodName := ⟨"IslandRights", "checkPort", "(I)V"⟩
abbrev zc_X_checkDraft : ByteArray := prog_1_method_30_code
def zm_X_checkDraft : MethodName := ⟨"IslandRights", "checkDraft", "()V"⟩
abbrev zc_X_takeDraft : ByteArray := prog_1_method_33_code
def zm_X_takeDraft : MethodName := ⟨"IslandRights", "takeDraft", "()LIslandRights$Journey;"⟩
abbrev zc_P_fits : ByteArray := prog_4_method_2_code
def zm_P_fits : MethodName := ⟨"IslandRights$Port", "fits", "(LIslandRights$Journey;I)Z"⟩
abbrev zc_X_sell : ByteArray := prog_1_method_34_code
def zm_X_sell : MethodName := ⟨"IslandRights", "sell", "(ILIslandRights$Journey;I)I"⟩
abbrev zc_X_costOf : ByteArray := prog_1_method_35_code
def zm_X_costOf : MethodName := ⟨"IslandRights", "costOf", "(LIslandRights$Journey;I)J"⟩
abbrev zc_X_moveToSold : ByteArray := prog_1_method_36_code
def zm_X_moveToSold : MethodName := ⟨"IslandRights", "moveToSold", "(ILIslandRights$Journey;I)V"⟩
abbrev zc_T_init : ByteArray := prog_5_method_1_code
def zm_T_init : MethodName := ⟨"IslandRights$Ticket", "<init>", "(IILIslandRights$Journey;J)V"⟩
abbrev zc_L_wish : ByteArray := method_7_code
def zm_L_wish : MethodName := ⟨"IslandRightsLaw", "wish", "(LIslandRights;II[J)I"⟩
abbrev zc_X_wish : ByteArray := prog_1_method_6_code
def zm_X_wish : MethodName := ⟨"IslandRights", "wish", "(II)I"⟩
abbrev zc_P_addWish : ByteArray := prog_4_method_3_code
def zm_P_addWish : MethodName := ⟨"IslandRights$Port", "addWish", "(LIslandRights$Journey;I)V"⟩
abbrev zc_H_init : ByteArray := prog_6_method_1_code
def zm_H_init : MethodName := ⟨"IslandRights$Wish", "<init>", "(LIslandRights$Journey;I)V"⟩
abbrev zc_X_serve : ByteArray := prog_1_method_37_code
def zm_X_serve : MethodName := ⟨"IslandRights", "serve", "(I)I"⟩
abbrev zc_L_cancel : ByteArray := method_8_code
def zm_L_cancel : MethodName := ⟨"IslandRightsLaw", "cancel", "(LIslandRights;I[J)I"⟩
abbrev zc_X_cancel : ByteArray := prog_1_method_7_code
def zm_X_cancel : MethodName := ⟨"IslandRights", "cancel", "(I)I"⟩
abbrev zc_X_checkTicket : ByteArray := prog_1_method_26_code
def zm_X_checkTicket : MethodName := ⟨"IslandRights", "checkTicket", "(I)V"⟩
abbrev zc_L_ticket : ByteArray := method_9_code
def zm_L_ticket : MethodName := ⟨"IslandRightsLaw", "ticket", "(LIslandRights;II[J)I"⟩
abbrev zc_X_ticket : ByteArray := prog_1_method_8_code
def zm_X_ticket : MethodName := ⟨"IslandRights", "ticket", "(II)I"⟩
abbrev zc_L_price : ByteArray := method_10_code
def zm_L_price : MethodName := ⟨"IslandRightsLaw", "price", "(LIslandRights;I[J)I"⟩
abbrev zc_X_price : ByteArray := prog_1_method_9_code
def zm_X_price : MethodName := ⟨"IslandRights", "price", "(I)J"⟩
abbrev zc_L_hand : ByteArray := method_11_code
def zm_L_hand : MethodName := ⟨"IslandRightsLaw", "hand", "(LIslandRights;IIIII[J)I"⟩
abbrev zc_X_hand : ByteArray := prog_1_method_10_code
def zm_X_hand : MethodName := ⟨"IslandRights", "hand", "(IIIII)I"⟩
abbrev zc_X_checkDifferent : ByteArray := prog_1_method_28_code
def zm_X_checkDifferent : MethodName := ⟨"IslandRights", "checkDifferent", "(II)V"⟩
abbrev zc_X_laneOf : ByteArray := prog_1_method_32_code
def zm_X_laneOf : MethodName := ⟨"IslandRights", "laneOf", "(II)LIslandRights$Lane;"⟩
abbrev zc_N_isFull : ByteArray := prog_3_method_3_code
def zm_N_isFull : MethodName := ⟨"IslandRights$Lane", "isFull", "()Z"⟩
abbrev zc_X_putInOutbox : ByteArray := prog_1_method_38_code
def zm_X_putInOutbox : MethodName := ⟨"IslandRights", "putInOutbox", "(IIII)I"⟩
abbrev zc_N_add : ByteArray := prog_3_method_4_code
def zm_N_add : MethodName := ⟨"IslandRights$Lane", "add", "(II)I"⟩
abbrev zc_N_cellOf : ByteArray := prog_3_method_2_code
def zm_N_cellOf : MethodName := ⟨"IslandRights$Lane", "cellOf", "(I)I"⟩
abbrev zc_L_share : ByteArray := method_12_code
def zm_L_share : MethodName := ⟨"IslandRightsLaw", "share", "(LIslandRights;III[J)I"⟩
abbrev zc_X_share : ByteArray := prog_1_method_11_code
def zm_X_share : MethodName := ⟨"IslandRights", "share", "(III)I"⟩
abbrev zc_L_send : ByteArray := method_13_code
def zm_L_send : MethodName := ⟨"IslandRightsLaw", "send", "(LIslandRights;II[J)I"⟩
abbrev zc_X_send : ByteArray := prog_1_method_12_code
def zm_X_send : MethodName := ⟨"IslandRights", "send", "(II)I"⟩
abbrev zc_X_checkTwoPorts : ByteArray := prog_1_method_27_code
def zm_X_checkTwoPorts : MethodName := ⟨"IslandRights", "checkTwoPorts", "(II)V"⟩
abbrev zc_L_arrive : ByteArray := method_14_code
def zm_L_arrive : MethodName := ⟨"IslandRightsLaw", "arrive", "(LIslandRights;II[J)I"⟩
abbrev zc_X_arrive : ByteArray := prog_1_method_13_code
def zm_X_arrive : MethodName := ⟨"IslandRights", "arrive", "(II)I"⟩
abbrev zc_X_takeNext : ByteArray := prog_1_method_39_code
def zm_X_takeNext : MethodName := ⟨"IslandRights", "takeNext", "(LIslandRights$Lane;I)I"⟩
abbrev zc_L_receipt : ByteArray := method_15_code
def zm_L_receipt : MethodName := ⟨"IslandRightsLaw", "receipt", "(LIslandRights;II[J)I"⟩
abbrev zc_X_receipt : ByteArray := prog_1_method_14_code
def zm_X_receipt : MethodName := ⟨"IslandRights", "receipt", "(II)I"⟩
abbrev zc_N_removeUpTo : ByteArray := prog_3_method_5_code
def zm_N_removeUpTo : MethodName := ⟨"IslandRights$Lane", "removeUpTo", "(I)I"⟩
abbrev zc_L_lose : ByteArray := method_16_code
def zm_L_lose : MethodName := ⟨"IslandRightsLaw", "lose", "(LIslandRights;II[J)I"⟩
abbrev zc_X_lose : ByteArray := prog_1_method_15_code
def zm_X_lose : MethodName := ⟨"IslandRights", "lose", "(II)I"⟩
abbrev zc_N_loseAll : ByteArray := prog_3_method_6_code
def zm_N_loseAll : MethodName := ⟨"IslandRights$Lane", "loseAll", "()I"⟩
abbrev zc_L_crash : ByteArray := method_17_code
def zm_L_crash : MethodName := ⟨"IslandRightsLaw", "crash", "(LIslandRights;I[J)I"⟩
abbrev zc_X_crash : ByteArray := prog_1_method_16_code
def zm_X_crash : MethodName := ⟨"IslandRights", "crash", "(I)I"⟩
abbrev zc_L_rights : ByteArray := method_18_code
def zm_L_rights : MethodName := ⟨"IslandRightsLaw", "rights", "(LIslandRights;III[J)I"⟩
abbrev zc_X_rights : ByteArray := prog_1_method_17_code
def zm_X_rights : MethodName := ⟨"IslandRights", "rights", "(III)I"⟩
abbrev zc_L_air : ByteArray := method_19_code
def zm_L_air : MethodName := ⟨"IslandRightsLaw", "air", "(LIslandRights;II[J)I"⟩
abbrev zc_X_air : ByteArray := prog_1_method_18_code
def zm_X_air : MethodName := ⟨"IslandRights", "air", "(II)I"⟩
abbrev zc_L_sold : ByteArray := method_20_code
def zm_L_sold : MethodName := ⟨"IslandRightsLaw", "sold", "(LIslandRights;II[J)I"⟩
abbrev zc_X_sold : ByteArray := prog_1_method_19_code
def zm_X_sold : MethodName := ⟨"IslandRights", "sold", "(II)I"⟩
abbrev zc_L_wishes : ByteArray := method_21_code
def zm_L_wishes : MethodName := ⟨"IslandRightsLaw", "wishes", "(LIslandRights;I[J)I"⟩
abbrev zc_X_wishes : ByteArray := prog_1_method_20_code
def zm_X_wishes : MethodName := ⟨"IslandRights", "wishes", "(I)I"⟩
abbrev zc_L_till : ByteArray := method_22_code
def zm_L_till : MethodName := ⟨"IslandRightsLaw", "till", "(LIslandRights;I[J)I"⟩
abbrev zc_X_till : ByteArray := prog_1_method_21_code
def zm_X_till : MethodName := ⟨"IslandRights", "till", "(I)J"⟩
abbrev zc_M_init : ByteArray := prog_8_method_1_code
def zm_M_init : MethodName := ⟨"IslandRightsModel", "<init>", "()V"⟩
abbrev zc_M_thrown : ByteArray := prog_8_method_2_code
def zm_M_thrown : MethodName := ⟨"IslandRightsModel", "thrown", "()I"⟩
abbrev zc_M_open : ByteArray := prog_8_method_5_code
def zm_M_open : MethodName := ⟨"IslandRightsModel", "open", "(II)V"⟩
abbrev zc_M_isFour : ByteArray := prog_8_method_4_code
def zm_M_isFour : MethodName := ⟨"IslandRightsModel", "isFour", "(I)Z"⟩
abbrev zc_M_refused : ByteArray := prog_8_method_3_code
def zm_M_refused : MethodName := ⟨"IslandRightsModel", "refused", "(I)Z"⟩
abbrev zc_M_fare : ByteArray := prog_8_method_6_code
def zm_M_fare : MethodName := ⟨"IslandRightsModel", "fare", "(III)V"⟩
abbrev zc_M_part : ByteArray := prog_8_method_7_code
def zm_M_part : MethodName := ⟨"IslandRightsModel", "part", "(III)I"⟩
abbrev zc_M_buy : ByteArray := prog_8_method_14_code
def zm_M_buy : MethodName := ⟨"IslandRightsModel", "buy", "(II)I"⟩
abbrev zc_M_fits : ByteArray := prog_8_method_9_code
def zm_M_fits : MethodName := ⟨"IslandRightsModel", "fits", "(IIII)Z"⟩
abbrev zc_M_lies : ByteArray := prog_8_method_8_code
def zm_M_lies : MethodName := ⟨"IslandRightsModel", "lies", "(III)I"⟩
abbrev zc_M_sell : ByteArray := prog_8_method_12_code
def zm_M_sell : MethodName := ⟨"IslandRightsModel", "sell", "(IIII)I"⟩
abbrev zc_M_give : ByteArray := prog_8_method_10_code
def zm_M_give : MethodName := ⟨"IslandRightsModel", "give", "(IIII)V"⟩
abbrev zc_M_copy : ByteArray := prog_8_method_11_code
def zm_M_copy : MethodName := ⟨"IslandRightsModel", "copy", "(III)V"⟩
abbrev zc_M_wish : ByteArray := prog_8_method_15_code
def zm_M_wish : MethodName := ⟨"IslandRightsModel", "wish", "(II)I"⟩
abbrev zc_M_serve : ByteArray := prog_8_method_13_code
def zm_M_serve : MethodName := ⟨"IslandRightsModel", "serve", "(I)I"⟩
abbrev zc_M_cancel : ByteArray := prog_8_method_17_code
def zm_M_cancel : MethodName := ⟨"IslandRightsModel", "cancel", "(I)I"⟩
abbrev zc_M_isTicket : ByteArray := prog_8_method_16_code
def zm_M_isTicket : MethodName := ⟨"IslandRightsModel", "isTicket", "(I)Z"⟩
abbrev zc_M_ticket : ByteArray := prog_8_method_18_code
def zm_M_ticket : MethodName := ⟨"IslandRightsModel", "ticket", "(II)I"⟩
abbrev zc_M_price : ByteArray := prog_8_method_19_code
def zm_M_price : MethodName := ⟨"IslandRightsModel", "price", "(I)J"⟩
abbrev zc_M_hand : ByteArray := prog_8_method_22_code
def zm_M_hand : MethodName := ⟨"IslandRightsModel", "hand", "(IIIII)I"⟩
abbrev zc_M_enclose : ByteArray := prog_8_method_21_code
def zm_M_enclose : MethodName := ⟨"IslandRightsModel", "enclose", "(IIII)I"⟩
abbrev zc_M_share : ByteArray := prog_8_method_23_code
def zm_M_share : MethodName := ⟨"IslandRightsModel", "share", "(III)I"⟩
abbrev zc_M_wrong : ByteArray := prog_8_method_20_code
def zm_M_wrong : MethodName := ⟨"IslandRightsModel", "wrong", "(II)I"⟩
abbrev zc_M_send : ByteArray := prog_8_method_24_code
def zm_M_send : MethodName := ⟨"IslandRightsModel", "send", "(II)I"⟩
abbrev zc_M_arrive : ByteArray := prog_8_method_25_code
def zm_M_arrive : MethodName := ⟨"IslandRightsModel", "arrive", "(II)I"⟩
abbrev zc_M_receipt : ByteArray := prog_8_method_26_code
def zm_M_receipt : MethodName := ⟨"IslandRightsModel", "receipt", "(II)I"⟩
abbrev zc_M_lose : ByteArray := prog_8_method_28_code
def zm_M_lose : MethodName := ⟨"IslandRightsModel", "lose", "(II)I"⟩
abbrev zc_M_loseOne : ByteArray := prog_8_method_27_code
def zm_M_loseOne : MethodName := ⟨"IslandRightsModel", "loseOne", "(I)I"⟩
abbrev zc_M_crash : ByteArray := prog_8_method_29_code
def zm_M_crash : MethodName := ⟨"IslandRightsModel", "crash", "(I)I"⟩
abbrev zc_M_rights : ByteArray := prog_8_method_30_code
def zm_M_rights : MethodName := ⟨"IslandRightsModel", "rights", "(III)I"⟩
abbrev zc_M_air : ByteArray := prog_8_method_31_code
def zm_M_air : MethodName := ⟨"IslandRightsModel", "air", "(II)I"⟩
abbrev zc_M_sold : ByteArray := prog_8_method_32_code
def zm_M_sold : MethodName := ⟨"IslandRightsModel", "sold", "(II)I"⟩
abbrev zc_M_wishes : ByteArray := prog_8_method_33_code
def zm_M_wishes : MethodName := ⟨"IslandRightsModel", "wishes", "(I)I"⟩
abbrev zc_M_till : ByteArray := prog_8_method_34_code
def zm_M_till : MethodName := ⟨"IslandRightsModel", "till", "(I)J"⟩
abbrev zc_L_law : ByteArray := code
def zm_L_law : MethodName := ⟨"IslandRightsLaw", "law", "([I)Z"⟩
def zw_A : List Cond := lw_tbl.filter goodWord
theorem zw_t {i : Nat} {w : Cond} (h : tables_1[i]? = some w) (g : goodWord w = true) : w ∈ zw_A := List.mem_filter.mpr ⟨List.mem_append_right _ (List.mem_of_getElem? h), g⟩
theorem zw_s {q : MethodName × Nat} (h : q ∈ lw_privs) (g : goodWord (Cond.selects q.1.cls q.1 q.1) = true) : Cond.selects q.1.cls q.1 q.1 ∈ zw_A := List.mem_filter.mpr ⟨List.mem_append_left _ (List.mem_map.mpr ⟨q, h, rfl⟩), g⟩
def zw_ (y : MethodName) (cc : ByteArray) (n : Nat) (r : Option FieldType) : List Cond := Cond.code y cc n r :: zw_A
theorem zw_good {y : MethodName} {cc : ByteArray} {n : Nat} {r : Option FieldType} (h : Cond.code y cc n r ∈ zw_A) : GoodIn zw_A (zw_ y cc n r) := by
  have hg : ∀ w ∈ zw_A, w ∈ zw_A ∧ ((w.onTables && w.keeps) = true ∨ ∃ ty, w = .arrayClass ty) := fun w hw => ⟨hw, good_of_word (List.mem_filter.mp hw).2⟩
  intro w hw
  rcases List.mem_cons.mp hw with rfl | h2
  · exact hg _ h
  · exact hg w h2
end
section
theorem zk_0 : (Jvm.Cond.initialized "IslandRightsLaw") ∈ zw_A := zw_t (i := 0) (by decide +kernel) (by decide +kernel)
theorem zk_1 : (Jvm.Cond.initialized "IslandRights") ∈ zw_A := zw_t (i := 1) (by decide +kernel) (by decide +kernel)
theorem zk_2 : (Jvm.Cond.initialized "IslandRights$Journey") ∈ zw_A := zw_t (i := 2) (by decide +kernel) (by decide +kernel)
theorem zk_3 : (Jvm.Cond.initialized "IslandRights$Port") ∈ zw_A := zw_t (i := 3) (by decide +kernel) (by decide +kernel)
theorem zk_4 : (Jvm.Cond.initialized "IslandRights$Lane") ∈ zw_A := zw_t (i := 4) (by decide +kernel) (by decide +kernel)
theorem zk_5 : (Jvm.Cond.initialized "IslandRightsModel") ∈ zw_A := zw_t (i := 5) (by decide +kernel) (by decide +kernel)
theorem zk_6 : (Jvm.Cond.initialized "java/lang/Throwable") ∈ zw_A := zw_t (i := 6) (by decide +kernel) (by decide +kernel)
theorem zk_7 : (Jvm.Cond.initialized "java/lang/Exception") ∈ zw_A := zw_t (i := 7) (by decide +kernel) (by decide +kernel)
theorem zk_8 : (Jvm.Cond.initialized "java/lang/RuntimeException") ∈ zw_A := zw_t (i := 8) (by decide +kernel) (by decide +kernel)
theorem zk_9 : (Jvm.Cond.initialized "java/lang/IndexOutOfBoundsException") ∈ zw_A := zw_t (i := 9) (by decide +kernel) (by decide +kernel)
theorem zk_10 : (Jvm.Cond.initialized "java/lang/IllegalArgumentException") ∈ zw_A := zw_t (i := 10) (by decide +kernel) (by decide +kernel)
theorem zk_11 : (Jvm.Cond.initialized "java/lang/IllegalStateException") ∈ zw_A := zw_t (i := 11) (by decide +kernel) (by decide +kernel)
theorem zk_12 : (Jvm.Cond.initialized "IslandRights$Ticket") ∈ zw_A := zw_t (i := 12) (by decide +kernel) (by decide +kernel)
theorem zk_13 : (Jvm.Cond.initialized "IslandRights$Wish") ∈ zw_A := zw_t (i := 13) (by decide +kernel) (by decide +kernel)
theorem zk_14 : (Jvm.Cond.initialized "java/lang/Math") ∈ zw_A := zw_t (i := 14) (by decide +kernel) (by decide +kernel)
theorem zk_15 : (Jvm.Cond.classLink "IslandRightsLaw" (8 : Nat) "IslandRights") ∈ zw_A := zw_t (i := 15) (by decide +kernel) (by decide +kernel)
theorem zk_16 : (Jvm.Cond.instantiable "IslandRights" (9 : Nat)) ∈ zw_A := zw_t (i := 16) (by decide +kernel) (by decide +kernel)
theorem zk_17 : (Jvm.Cond.methodLink "IslandRightsLaw" (82 : Nat) ({ cls := "IslandRights", name := "<init>", desc := "()V" } : Jvm.MethodName)) ∈ zw_A := zw_t (i := 17) (by decide +kernel) (by decide +kernel)
theorem zk_18 : (Jvm.Cond.instanceMethod ({ cls := "IslandRights", name := "<init>", desc := "()V" } : Jvm.MethodName)) ∈ zw_A := zw_t (i := 18) (by decide +kernel) (by decide +kernel)
theorem zk_19 : (Jvm.Cond.code ({ cls := "IslandRights", name := "<init>", desc := "()V" } : Jvm.MethodName) prog_1_method_1_code (2 : Nat) (Option.none : Option Jvm.ClassFile.FieldType)) ∈ zw_A := zw_t (i := 19) (by decide +kernel) (by decide +kernel)
theorem zk_20 : (Jvm.Cond.methodLink "IslandRights" (3 : Nat) ({ cls := "java/lang/Object", name := "<init>", desc := "()V" } : Jvm.MethodName)) ∈ zw_A := zw_t (i := 20) (by decide +kernel) (by decide +kernel)
theorem zk_21 : (Jvm.Cond.instanceMethod ({ cls := "java/lang/Object", name := "<init>", desc := "()V" } : Jvm.MethodName)) ∈ zw_A := zw_t (i := 21) (by decide +kernel) (by decide +kernel)
theorem zk_22 : (Jvm.Cond.code ({ cls := "java/lang/Object", name := "<init>", desc := "()V" } : Jvm.MethodName) object_method_1_code (1 : Nat) (Option.none : Option Jvm.ClassFile.FieldType)) ∈ zw_A := zw_t (i := 22) (by decide +kernel) (by decide +kernel)
theorem zk_23 : (Jvm.Cond.classLink "IslandRights" (23 : Nat) "IslandRights$Port") ∈ zw_A := zw_t (i := 23) (by decide +kernel) (by decide +kernel)
theorem zk_25 : (Jvm.Cond.classLink "IslandRights" (29 : Nat) "IslandRights$Lane") ∈ zw_A := zw_t (i := 25) (by decide +kernel) (by decide +kernel)
theorem zk_27 : (Jvm.Cond.classLink "IslandRights" (35 : Nat) "IslandRights$Ticket") ∈ zw_A := zw_t (i := 27) (by decide +kernel) (by decide +kernel)
theorem zk_29 : (Jvm.Cond.classLink "IslandRights" (45 : Nat) "IslandRights$Journey") ∈ zw_A := zw_t (i := 29) (by decide +kernel) (by decide +kernel)
theorem zk_30 : (Jvm.Cond.instantiable "IslandRights$Journey" (2 : Nat)) ∈ zw_A := zw_t (i := 30) (by decide +kernel) (by decide +kernel)
theorem zk_32 : (Jvm.Cond.instanceMethod ({ cls := "IslandRights$Journey", name := "<init>", desc := "()V" } : Jvm.MethodName)) ∈ zw_A := zw_t (i := 32) (by decide +kernel) (by decide +kernel)
theorem zk_33 : (Jvm.Cond.code ({ cls := "IslandRights$Journey", name := "<init>", desc := "()V" } : Jvm.MethodName) prog_2_method_1_code (1 : Nat) (Option.none : Option Jvm.ClassFile.FieldType)) ∈ zw_A := zw_t (i := 33) (by decide +kernel) (by decide +kernel)
theorem zk_34 : (Jvm.Cond.methodLink "IslandRights$Journey" (3 : Nat) ({ cls := "java/lang/Object", name := "<init>", desc := "()V" } : Jvm.MethodName)) ∈ zw_A := zw_t (i := 34) (by decide +kernel) (by decide +kernel)
theorem zk_35 : (Jvm.Cond.fieldLink "IslandRights$Journey" (9 : Nat) "IslandRights$Journey" "times" "[I") ∈ zw_A := zw_t (i := 35) (by decide +kernel) (by decide +kernel)
theorem zk_36 : (Jvm.Cond.fieldLink "IslandRights$Port" (29 : Nat) "IslandRights$Journey" "times" "[I") ∈ zw_A := zw_t (i := 36) (by decide +kernel) (by decide +kernel)
theorem zk_37 : (Jvm.Cond.fieldLink "IslandRights" (235 : Nat) "IslandRights$Journey" "times" "[I") ∈ zw_A := zw_t (i := 37) (by decide +kernel) (by decide +kernel)
theorem zk_38 : (Jvm.Cond.fieldLink "IslandRights$Journey" (15 : Nat) "IslandRights$Journey" "parts" "I") ∈ zw_A := zw_t (i := 38) (by decide +kernel) (by decide +kernel)
theorem zk_39 : (Jvm.Cond.fieldLink "IslandRights" (91 : Nat) "IslandRights$Journey" "parts" "I") ∈ zw_A := zw_t (i := 39) (by decide +kernel) (by decide +kernel)
theorem zk_40 : (Jvm.Cond.laysFinal "IslandRights$Journey" "IslandRights$Journey" "times" "[I") ∈ zw_A := zw_t (i := 40) (by decide +kernel) (by decide +kernel)
theorem zk_41 : (Jvm.Cond.soleField "IslandRights$Journey" "times") ∈ zw_A := zw_t (i := 41) (by decide +kernel) (by decide +kernel)
theorem zk_42 : (Jvm.Cond.lays "IslandRights$Journey" "IslandRights$Journey" "parts" "I") ∈ zw_A := zw_t (i := 42) (by decide +kernel) (by decide +kernel)
theorem zk_43 : (Jvm.Cond.soleField "IslandRights$Journey" "parts") ∈ zw_A := zw_t (i := 43) (by decide +kernel) (by decide +kernel)
theorem zk_44 : (Jvm.Cond.superclass "IslandRights$Journey" "java/lang/Object") ∈ zw_A := zw_t (i := 44) (by decide +kernel) (by decide +kernel)
theorem zk_45 : (Jvm.Cond.arrayClass Jvm.ClassFile.FieldType.boolean) ∈ zw_A := zw_t (i := 45) (by decide +kernel) (by decide +kernel)
theorem zk_46 : (Jvm.Cond.arrayClass Jvm.ClassFile.FieldType.int) ∈ zw_A := zw_t (i := 46) (by decide +kernel) (by decide +kernel)
theorem zk_47 : (Jvm.Cond.instantiable "IslandRights$Port" (4 : Nat)) ∈ zw_A := zw_t (i := 47) (by decide +kernel) (by decide +kernel)
theorem zk_49 : (Jvm.Cond.instanceMethod ({ cls := "IslandRights$Port", name := "<init>", desc := "()V" } : Jvm.MethodName)) ∈ zw_A := zw_t (i := 49) (by decide +kernel) (by decide +kernel)
theorem zk_50 : (Jvm.Cond.code ({ cls := "IslandRights$Port", name := "<init>", desc := "()V" } : Jvm.MethodName) prog_4_method_1_code (1 : Nat) (Option.none : Option Jvm.ClassFile.FieldType)) ∈ zw_A := zw_t (i := 50) (by decide +kernel) (by decide +kernel)
theorem zk_51 : (Jvm.Cond.methodLink "IslandRights$Port" (3 : Nat) ({ cls := "java/lang/Object", name := "<init>", desc := "()V" } : Jvm.MethodName)) ∈ zw_A := zw_t (i := 51) (by decide +kernel) (by decide +kernel)
theorem zk_52 : (Jvm.Cond.classLink "IslandRights$Port" (15 : Nat) "IslandRights$Wish") ∈ zw_A := zw_t (i := 52) (by decide +kernel) (by decide +kernel)
theorem zk_54 : (Jvm.Cond.fieldLink "IslandRights$Port" (9 : Nat) "IslandRights$Port" "owned" "[I") ∈ zw_A := zw_t (i := 54) (by decide +kernel) (by decide +kernel)
theorem zk_55 : (Jvm.Cond.fieldLink "IslandRights" (68 : Nat) "IslandRights$Port" "owned" "[I") ∈ zw_A := zw_t (i := 55) (by decide +kernel) (by decide +kernel)
theorem zk_56 : (Jvm.Cond.fieldLink "IslandRights$Port" (17 : Nat) "IslandRights$Port" "row" "[LIslandRights$Wish;") ∈ zw_A := zw_t (i := 56) (by decide +kernel) (by decide +kernel)
theorem zk_57 : (Jvm.Cond.fieldLink "IslandRights" (238 : Nat) "IslandRights$Port" "row" "[LIslandRights$Wish;") ∈ zw_A := zw_t (i := 57) (by decide +kernel) (by decide +kernel)
theorem zk_58 : (Jvm.Cond.fieldLink "IslandRights$Port" (21 : Nat) "IslandRights$Port" "waiting" "I") ∈ zw_A := zw_t (i := 58) (by decide +kernel) (by decide +kernel)
theorem zk_59 : (Jvm.Cond.fieldLink "IslandRights" (120 : Nat) "IslandRights$Port" "waiting" "I") ∈ zw_A := zw_t (i := 59) (by decide +kernel) (by decide +kernel)
theorem zk_60 : (Jvm.Cond.fieldLink "IslandRights$Port" (25 : Nat) "IslandRights$Port" "takings" "J") ∈ zw_A := zw_t (i := 60) (by decide +kernel) (by decide +kernel)
theorem zk_61 : (Jvm.Cond.fieldLink "IslandRights" (155 : Nat) "IslandRights$Port" "takings" "J") ∈ zw_A := zw_t (i := 61) (by decide +kernel) (by decide +kernel)
theorem zk_62 : (Jvm.Cond.laysFinal "IslandRights$Port" "IslandRights$Port" "owned" "[I") ∈ zw_A := zw_t (i := 62) (by decide +kernel) (by decide +kernel)
theorem zk_63 : (Jvm.Cond.soleField "IslandRights$Port" "owned") ∈ zw_A := zw_t (i := 63) (by decide +kernel) (by decide +kernel)
theorem zk_64 : (Jvm.Cond.laysFinal "IslandRights$Port" "IslandRights$Port" "row" "[LIslandRights$Wish;") ∈ zw_A := zw_t (i := 64) (by decide +kernel) (by decide +kernel)
theorem zk_65 : (Jvm.Cond.soleField "IslandRights$Port" "row") ∈ zw_A := zw_t (i := 65) (by decide +kernel) (by decide +kernel)
theorem zk_66 : (Jvm.Cond.lays "IslandRights$Port" "IslandRights$Port" "waiting" "I") ∈ zw_A := zw_t (i := 66) (by decide +kernel) (by decide +kernel)
theorem zk_67 : (Jvm.Cond.soleField "IslandRights$Port" "waiting") ∈ zw_A := zw_t (i := 67) (by decide +kernel) (by decide +kernel)
theorem zk_68 : (Jvm.Cond.lays "IslandRights$Port" "IslandRights$Port" "takings" "J") ∈ zw_A := zw_t (i := 68) (by decide +kernel) (by decide +kernel)
theorem zk_69 : (Jvm.Cond.soleField "IslandRights$Port" "takings") ∈ zw_A := zw_t (i := 69) (by decide +kernel) (by decide +kernel)
theorem zk_70 : (Jvm.Cond.superclass "IslandRights$Port" "java/lang/Object") ∈ zw_A := zw_t (i := 70) (by decide +kernel) (by decide +kernel)
theorem zk_71 : (Jvm.Cond.instantiable "IslandRights$Lane" (7 : Nat)) ∈ zw_A := zw_t (i := 71) (by decide +kernel) (by decide +kernel)
theorem zk_73 : (Jvm.Cond.instanceMethod ({ cls := "IslandRights$Lane", name := "<init>", desc := "()V" } : Jvm.MethodName)) ∈ zw_A := zw_t (i := 73) (by decide +kernel) (by decide +kernel)
theorem zk_74 : (Jvm.Cond.code ({ cls := "IslandRights$Lane", name := "<init>", desc := "()V" } : Jvm.MethodName) prog_3_method_1_code (1 : Nat) (Option.none : Option Jvm.ClassFile.FieldType)) ∈ zw_A := zw_t (i := 74) (by decide +kernel) (by decide +kernel)
theorem zk_75 : (Jvm.Cond.methodLink "IslandRights$Lane" (3 : Nat) ({ cls := "java/lang/Object", name := "<init>", desc := "()V" } : Jvm.MethodName)) ∈ zw_A := zw_t (i := 75) (by decide +kernel) (by decide +kernel)
theorem zk_76 : (Jvm.Cond.fieldLink "IslandRights$Lane" (9 : Nat) "IslandRights$Lane" "places" "[I") ∈ zw_A := zw_t (i := 76) (by decide +kernel) (by decide +kernel)
theorem zk_77 : (Jvm.Cond.fieldLink "IslandRights" (252 : Nat) "IslandRights$Lane" "places" "[I") ∈ zw_A := zw_t (i := 77) (by decide +kernel) (by decide +kernel)
theorem zk_78 : (Jvm.Cond.fieldLink "IslandRights$Lane" (15 : Nat) "IslandRights$Lane" "amounts" "[I") ∈ zw_A := zw_t (i := 78) (by decide +kernel) (by decide +kernel)
theorem zk_79 : (Jvm.Cond.fieldLink "IslandRights" (255 : Nat) "IslandRights$Lane" "amounts" "[I") ∈ zw_A := zw_t (i := 79) (by decide +kernel) (by decide +kernel)
theorem zk_80 : (Jvm.Cond.fieldLink "IslandRights$Lane" (18 : Nat) "IslandRights$Lane" "gone" "I") ∈ zw_A := zw_t (i := 80) (by decide +kernel) (by decide +kernel)
theorem zk_81 : (Jvm.Cond.fieldLink "IslandRights" (186 : Nat) "IslandRights$Lane" "gone" "I") ∈ zw_A := zw_t (i := 81) (by decide +kernel) (by decide +kernel)
theorem zk_82 : (Jvm.Cond.fieldLink "IslandRights$Lane" (22 : Nat) "IslandRights$Lane" "waiting" "I") ∈ zw_A := zw_t (i := 82) (by decide +kernel) (by decide +kernel)
theorem zk_83 : (Jvm.Cond.fieldLink "IslandRights" (185 : Nat) "IslandRights$Lane" "waiting" "I") ∈ zw_A := zw_t (i := 83) (by decide +kernel) (by decide +kernel)
theorem zk_84 : (Jvm.Cond.fieldLink "IslandRights$Lane" (25 : Nat) "IslandRights$Lane" "taken" "I") ∈ zw_A := zw_t (i := 84) (by decide +kernel) (by decide +kernel)
theorem zk_85 : (Jvm.Cond.fieldLink "IslandRights" (192 : Nat) "IslandRights$Lane" "taken" "I") ∈ zw_A := zw_t (i := 85) (by decide +kernel) (by decide +kernel)
theorem zk_86 : (Jvm.Cond.fieldLink "IslandRights$Lane" (28 : Nat) "IslandRights$Lane" "word" "I") ∈ zw_A := zw_t (i := 86) (by decide +kernel) (by decide +kernel)
theorem zk_87 : (Jvm.Cond.fieldLink "IslandRights" (189 : Nat) "IslandRights$Lane" "word" "I") ∈ zw_A := zw_t (i := 87) (by decide +kernel) (by decide +kernel)
theorem zk_88 : (Jvm.Cond.fieldLink "IslandRights$Lane" (31 : Nat) "IslandRights$Lane" "answer" "I") ∈ zw_A := zw_t (i := 88) (by decide +kernel) (by decide +kernel)
theorem zk_89 : (Jvm.Cond.fieldLink "IslandRights" (199 : Nat) "IslandRights$Lane" "answer" "I") ∈ zw_A := zw_t (i := 89) (by decide +kernel) (by decide +kernel)
theorem zk_90 : (Jvm.Cond.laysFinal "IslandRights$Lane" "IslandRights$Lane" "places" "[I") ∈ zw_A := zw_t (i := 90) (by decide +kernel) (by decide +kernel)
theorem zk_91 : (Jvm.Cond.soleField "IslandRights$Lane" "places") ∈ zw_A := zw_t (i := 91) (by decide +kernel) (by decide +kernel)
theorem zk_92 : (Jvm.Cond.laysFinal "IslandRights$Lane" "IslandRights$Lane" "amounts" "[I") ∈ zw_A := zw_t (i := 92) (by decide +kernel) (by decide +kernel)
theorem zk_93 : (Jvm.Cond.soleField "IslandRights$Lane" "amounts") ∈ zw_A := zw_t (i := 93) (by decide +kernel) (by decide +kernel)
theorem zk_94 : (Jvm.Cond.lays "IslandRights$Lane" "IslandRights$Lane" "gone" "I") ∈ zw_A := zw_t (i := 94) (by decide +kernel) (by decide +kernel)
theorem zk_95 : (Jvm.Cond.soleField "IslandRights$Lane" "gone") ∈ zw_A := zw_t (i := 95) (by decide +kernel) (by decide +kernel)
theorem zk_96 : (Jvm.Cond.lays "IslandRights$Lane" "IslandRights$Lane" "waiting" "I") ∈ zw_A := zw_t (i := 96) (by decide +kernel) (by decide +kernel)
theorem zk_97 : (Jvm.Cond.soleField "IslandRights$Lane" "waiting") ∈ zw_A := zw_t (i := 97) (by decide +kernel) (by decide +kernel)
theorem zk_98 : (Jvm.Cond.lays "IslandRights$Lane" "IslandRights$Lane" "taken" "I") ∈ zw_A := zw_t (i := 98) (by decide +kernel) (by decide +kernel)
theorem zk_99 : (Jvm.Cond.soleField "IslandRights$Lane" "taken") ∈ zw_A := zw_t (i := 99) (by decide +kernel) (by decide +kernel)
theorem zk_100 : (Jvm.Cond.lays "IslandRights$Lane" "IslandRights$Lane" "word" "I") ∈ zw_A := zw_t (i := 100) (by decide +kernel) (by decide +kernel)
theorem zk_101 : (Jvm.Cond.soleField "IslandRights$Lane" "word") ∈ zw_A := zw_t (i := 101) (by decide +kernel) (by decide +kernel)
theorem zk_102 : (Jvm.Cond.lays "IslandRights$Lane" "IslandRights$Lane" "answer" "I") ∈ zw_A := zw_t (i := 102) (by decide +kernel) (by decide +kernel)
theorem zk_103 : (Jvm.Cond.soleField "IslandRights$Lane" "answer") ∈ zw_A := zw_t (i := 103) (by decide +kernel) (by decide +kernel)
theorem zk_104 : (Jvm.Cond.superclass "IslandRights$Lane" "java/lang/Object") ∈ zw_A := zw_t (i := 104) (by decide +kernel) (by decide +kernel)
theorem zk_105 : (Jvm.Cond.fieldLink "IslandRights" (9 : Nat) "IslandRights" "opened" "[Z") ∈ zw_A := zw_t (i := 105) (by decide +kernel) (by decide +kernel)
theorem zk_106 : (Jvm.Cond.fieldLink "IslandRights" (13 : Nat) "IslandRights" "fares" "[I") ∈ zw_A := zw_t (i := 106) (by decide +kernel) (by decide +kernel)
theorem zk_107 : (Jvm.Cond.fieldLink "IslandRights" (17 : Nat) "IslandRights" "soldSeats" "[I") ∈ zw_A := zw_t (i := 107) (by decide +kernel) (by decide +kernel)
theorem zk_108 : (Jvm.Cond.fieldLink "IslandRights" (20 : Nat) "IslandRights" "airborne" "[I") ∈ zw_A := zw_t (i := 108) (by decide +kernel) (by decide +kernel)
theorem zk_109 : (Jvm.Cond.fieldLink "IslandRights" (25 : Nat) "IslandRights" "ports" "[LIslandRights$Port;") ∈ zw_A := zw_t (i := 109) (by decide +kernel) (by decide +kernel)
theorem zk_110 : (Jvm.Cond.fieldLink "IslandRights" (31 : Nat) "IslandRights" "lanes" "[LIslandRights$Lane;") ∈ zw_A := zw_t (i := 110) (by decide +kernel) (by decide +kernel)
theorem zk_111 : (Jvm.Cond.fieldLink "IslandRights" (37 : Nat) "IslandRights" "tickets" "[LIslandRights$Ticket;") ∈ zw_A := zw_t (i := 111) (by decide +kernel) (by decide +kernel)
theorem zk_112 : (Jvm.Cond.fieldLink "IslandRights" (41 : Nat) "IslandRights" "ticketCount" "I") ∈ zw_A := zw_t (i := 112) (by decide +kernel) (by decide +kernel)
theorem zk_113 : (Jvm.Cond.fieldLink "IslandRights" (48 : Nat) "IslandRights" "draft" "LIslandRights$Journey;") ∈ zw_A := zw_t (i := 113) (by decide +kernel) (by decide +kernel)
theorem zk_114 : (Jvm.Cond.laysFinal "IslandRights" "IslandRights" "opened" "[Z") ∈ zw_A := zw_t (i := 114) (by decide +kernel) (by decide +kernel)
theorem zk_115 : (Jvm.Cond.soleField "IslandRights" "opened") ∈ zw_A := zw_t (i := 115) (by decide +kernel) (by decide +kernel)
theorem zk_116 : (Jvm.Cond.laysFinal "IslandRights" "IslandRights" "fares" "[I") ∈ zw_A := zw_t (i := 116) (by decide +kernel) (by decide +kernel)
theorem zk_117 : (Jvm.Cond.soleField "IslandRights" "fares") ∈ zw_A := zw_t (i := 117) (by decide +kernel) (by decide +kernel)
theorem zk_118 : (Jvm.Cond.laysFinal "IslandRights" "IslandRights" "soldSeats" "[I") ∈ zw_A := zw_t (i := 118) (by decide +kernel) (by decide +kernel)
theorem zk_119 : (Jvm.Cond.soleField "IslandRights" "soldSeats") ∈ zw_A := zw_t (i := 119) (by decide +kernel) (by decide +kernel)
theorem zk_120 : (Jvm.Cond.laysFinal "IslandRights" "IslandRights" "airborne" "[I") ∈ zw_A := zw_t (i := 120) (by decide +kernel) (by decide +kernel)
theorem zk_121 : (Jvm.Cond.soleField "IslandRights" "airborne") ∈ zw_A := zw_t (i := 121) (by decide +kernel) (by decide +kernel)
theorem zk_122 : (Jvm.Cond.laysFinal "IslandRights" "IslandRights" "ports" "[LIslandRights$Port;") ∈ zw_A := zw_t (i := 122) (by decide +kernel) (by decide +kernel)
theorem zk_123 : (Jvm.Cond.soleField "IslandRights" "ports") ∈ zw_A := zw_t (i := 123) (by decide +kernel) (by decide +kernel)
theorem zk_124 : (Jvm.Cond.laysFinal "IslandRights" "IslandRights" "lanes" "[LIslandRights$Lane;") ∈ zw_A := zw_t (i := 124) (by decide +kernel) (by decide +kernel)
theorem zk_125 : (Jvm.Cond.soleField "IslandRights" "lanes") ∈ zw_A := zw_t (i := 125) (by decide +kernel) (by decide +kernel)
theorem zk_126 : (Jvm.Cond.laysFinal "IslandRights" "IslandRights" "tickets" "[LIslandRights$Ticket;") ∈ zw_A := zw_t (i := 126) (by decide +kernel) (by decide +kernel)
theorem zk_127 : (Jvm.Cond.soleField "IslandRights" "tickets") ∈ zw_A := zw_t (i := 127) (by decide +kernel) (by decide +kernel)
theorem zk_128 : (Jvm.Cond.lays "IslandRights" "IslandRights" "ticketCount" "I") ∈ zw_A := zw_t (i := 128) (by decide +kernel) (by decide +kernel)
theorem zk_129 : (Jvm.Cond.soleField "IslandRights" "ticketCount") ∈ zw_A := zw_t (i := 129) (by decide +kernel) (by decide +kernel)
theorem zk_130 : (Jvm.Cond.lays "IslandRights" "IslandRights" "draft" "LIslandRights$Journey;") ∈ zw_A := zw_t (i := 130) (by decide +kernel) (by decide +kernel)
theorem zk_131 : (Jvm.Cond.soleField "IslandRights" "draft") ∈ zw_A := zw_t (i := 131) (by decide +kernel) (by decide +kernel)
theorem zk_132 : (Jvm.Cond.superclass "IslandRights" "java/lang/Object") ∈ zw_A := zw_t (i := 132) (by decide +kernel) (by decide +kernel)
theorem zk_133 : (Jvm.Cond.methodLink "IslandRightsLaw" (86 : Nat) ({ cls := "IslandRightsLaw", name := "open", desc := "(LIslandRights;II)I" } : Jvm.MethodName)) ∈ zw_A := zw_t (i := 133) (by decide +kernel) (by decide +kernel)
theorem zk_134 : (Jvm.Cond.static ({ cls := "IslandRightsLaw", name := "open", desc := "(LIslandRights;II)I" } : Jvm.MethodName)) ∈ zw_A := zw_t (i := 134) (by decide +kernel) (by decide +kernel)
theorem zk_136 : (Jvm.Cond.classLink "IslandRightsLaw" (13 : Nat) "java/lang/IndexOutOfBoundsException") ∈ zw_A := zw_t (i := 136) (by decide +kernel) (by decide +kernel)
theorem zk_137 : (Jvm.Cond.classLink "IslandRightsLaw" (15 : Nat) "java/lang/IllegalArgumentException") ∈ zw_A := zw_t (i := 137) (by decide +kernel) (by decide +kernel)
theorem zk_138 : (Jvm.Cond.classLink "IslandRightsLaw" (17 : Nat) "java/lang/IllegalStateException") ∈ zw_A := zw_t (i := 138) (by decide +kernel) (by decide +kernel)
theorem zk_139 : (Jvm.Cond.methodLink "IslandRightsLaw" (7 : Nat) ({ cls := "IslandRights", name := "open", desc := "(II)V" } : Jvm.MethodName)) ∈ zw_A := zw_t (i := 139) (by decide +kernel) (by decide +kernel)
theorem zk_140 : (Jvm.Cond.instanceMethod ({ cls := "IslandRights", name := "open", desc := "(II)V" } : Jvm.MethodName)) ∈ zw_A := zw_t (i := 140) (by decide +kernel) (by decide +kernel)
theorem zk_141 : (Jvm.Cond.selects "IslandRights" ({ cls := "IslandRights", name := "open", desc := "(II)V" } : Jvm.MethodName) ({ cls := "IslandRights", name := "open", desc := "(II)V" } : Jvm.MethodName)) ∈ zw_A := zw_t (i := 141) (by decide +kernel) (by decide +kernel)
theorem zk_142 : (Jvm.Cond.code ({ cls := "IslandRights", name := "open", desc := "(II)V" } : Jvm.MethodName) prog_1_method_2_code (4 : Nat) (Option.none : Option Jvm.ClassFile.FieldType)) ∈ zw_A := zw_t (i := 142) (by decide +kernel) (by decide +kernel)
theorem zk_143 : (Jvm.Cond.methodLink "IslandRights" (54 : Nat) ({ cls := "IslandRights", name := "checkSailing", desc := "(I)V" } : Jvm.MethodName)) ∈ zw_A := zw_t (i := 143) (by decide +kernel) (by decide +kernel)
theorem zk_144 : (Jvm.Cond.static ({ cls := "IslandRights", name := "checkSailing", desc := "(I)V" } : Jvm.MethodName)) ∈ zw_A := zw_t (i := 144) (by decide +kernel) (by decide +kernel)
theorem zk_145 : (Jvm.Cond.code ({ cls := "IslandRights", name := "checkSailing", desc := "(I)V" } : Jvm.MethodName) prog_1_method_23_code (1 : Nat) (Option.none : Option Jvm.ClassFile.FieldType)) ∈ zw_A := zw_t (i := 145) (by decide +kernel) (by decide +kernel)
theorem zk_146 : (Jvm.Cond.classLink "IslandRights" (209 : Nat) "java/lang/IndexOutOfBoundsException") ∈ zw_A := zw_t (i := 146) (by decide +kernel) (by decide +kernel)
theorem zk_169 : (Jvm.Cond.instanceMethod ({ cls := "java/lang/Throwable", name := "<init>", desc := "()V" } : Jvm.MethodName)) ∈ zw_A := zw_t (i := 169) (by decide +kernel) (by decide +kernel)
theorem zk_170 : (Jvm.Cond.code ({ cls := "java/lang/Throwable", name := "<init>", desc := "()V" } : Jvm.MethodName) prog_16_method_1_code (1 : Nat) (Option.none : Option Jvm.ClassFile.FieldType)) ∈ zw_A := zw_t (i := 170) (by decide +kernel) (by decide +kernel)
theorem zk_177 : (Jvm.Cond.instanceMethod ({ cls := "java/lang/Throwable", name := "fillInStackTrace", desc := "()Ljava/lang/Throwable;" } : Jvm.MethodName)) ∈ zw_A := zw_t (i := 177) (by decide +kernel) (by decide +kernel)
theorem zk_184 : (Jvm.Cond.instanceMethod ({ cls := "java/lang/Throwable", name := "fillInStackTrace", desc := "(I)Ljava/lang/Throwable;" } : Jvm.MethodName)) ∈ zw_A := zw_t (i := 184) (by decide +kernel) (by decide +kernel)
theorem zk_188 : (Jvm.Cond.methodLink "IslandRights" (213 : Nat) ({ cls := "java/lang/IndexOutOfBoundsException", name := "<init>", desc := "(Ljava/lang/String;)V" } : Jvm.MethodName)) ∈ zw_A := zw_t (i := 188) (by decide +kernel) (by decide +kernel)
theorem zk_189 : (Jvm.Cond.instanceMethod ({ cls := "java/lang/IndexOutOfBoundsException", name := "<init>", desc := "(Ljava/lang/String;)V" } : Jvm.MethodName)) ∈ zw_A := zw_t (i := 189) (by decide +kernel) (by decide +kernel)
theorem zk_190 : (Jvm.Cond.code ({ cls := "java/lang/IndexOutOfBoundsException", name := "<init>", desc := "(Ljava/lang/String;)V" } : Jvm.MethodName) prog_12_method_2_code (2 : Nat) (Option.none : Option Jvm.ClassFile.FieldType)) ∈ zw_A := zw_t (i := 190) (by decide +kernel) (by decide +kernel)
theorem zk_192 : (Jvm.Cond.instanceMethod ({ cls := "java/lang/RuntimeException", name := "<init>", desc := "(Ljava/lang/String;)V" } : Jvm.MethodName)) ∈ zw_A := zw_t (i := 192) (by decide +kernel) (by decide +kernel)
theorem zk_193 : (Jvm.Cond.code ({ cls := "java/lang/RuntimeException", name := "<init>", desc := "(Ljava/lang/String;)V" } : Jvm.MethodName) prog_14_method_2_code (2 : Nat) (Option.none : Option Jvm.ClassFile.FieldType)) ∈ zw_A := zw_t (i := 193) (by decide +kernel) (by decide +kernel)
theorem zk_195 : (Jvm.Cond.instanceMethod ({ cls := "java/lang/Exception", name := "<init>", desc := "(Ljava/lang/String;)V" } : Jvm.MethodName)) ∈ zw_A := zw_t (i := 195) (by decide +kernel) (by decide +kernel)
theorem zk_196 : (Jvm.Cond.code ({ cls := "java/lang/Exception", name := "<init>", desc := "(Ljava/lang/String;)V" } : Jvm.MethodName) prog_9_method_2_code (2 : Nat) (Option.none : Option Jvm.ClassFile.FieldType)) ∈ zw_A := zw_t (i := 196) (by decide +kernel) (by decide +kernel)
theorem zk_198 : (Jvm.Cond.instanceMethod ({ cls := "java/lang/Throwable", name := "<init>", desc := "(Ljava/lang/String;)V" } : Jvm.MethodName)) ∈ zw_A := zw_t (i := 198) (by decide +kernel) (by decide +kernel)
theorem zk_199 : (Jvm.Cond.code ({ cls := "java/lang/Throwable", name := "<init>", desc := "(Ljava/lang/String;)V" } : Jvm.MethodName) prog_16_method_2_code (2 : Nat) (Option.none : Option Jvm.ClassFile.FieldType)) ∈ zw_A := zw_t (i := 199) (by decide +kernel) (by decide +kernel)
theorem zk_213 : (Jvm.Cond.arrayClass Jvm.ClassFile.FieldType.byte) ∈ zw_A := zw_t (i := 213) (by decide +kernel) (by decide +kernel)
theorem zk_214 : (Jvm.Cond.methodLink "IslandRights" (58 : Nat) ({ cls := "IslandRights", name := "checkSeats", desc := "(I)V" } : Jvm.MethodName)) ∈ zw_A := zw_t (i := 214) (by decide +kernel) (by decide +kernel)
theorem zk_215 : (Jvm.Cond.static ({ cls := "IslandRights", name := "checkSeats", desc := "(I)V" } : Jvm.MethodName)) ∈ zw_A := zw_t (i := 215) (by decide +kernel) (by decide +kernel)
theorem zk_216 : (Jvm.Cond.code ({ cls := "IslandRights", name := "checkSeats", desc := "(I)V" } : Jvm.MethodName) prog_1_method_29_code (1 : Nat) (Option.none : Option Jvm.ClassFile.FieldType)) ∈ zw_A := zw_t (i := 216) (by decide +kernel) (by decide +kernel)
theorem zk_217 : (Jvm.Cond.classLink "IslandRights" (79 : Nat) "java/lang/IllegalArgumentException") ∈ zw_A := zw_t (i := 217) (by decide +kernel) (by decide +kernel)
theorem zk_227 : (Jvm.Cond.methodLink "IslandRights" (83 : Nat) ({ cls := "java/lang/IllegalArgumentException", name := "<init>", desc := "(Ljava/lang/String;)V" } : Jvm.MethodName)) ∈ zw_A := zw_t (i := 227) (by decide +kernel) (by decide +kernel)
theorem zk_228 : (Jvm.Cond.instanceMethod ({ cls := "java/lang/IllegalArgumentException", name := "<init>", desc := "(Ljava/lang/String;)V" } : Jvm.MethodName)) ∈ zw_A := zw_t (i := 228) (by decide +kernel) (by decide +kernel)
theorem zk_229 : (Jvm.Cond.code ({ cls := "java/lang/IllegalArgumentException", name := "<init>", desc := "(Ljava/lang/String;)V" } : Jvm.MethodName) prog_10_method_2_code (2 : Nat) (Option.none : Option Jvm.ClassFile.FieldType)) ∈ zw_A := zw_t (i := 229) (by decide +kernel) (by decide +kernel)
theorem zk_233 : (Jvm.Cond.classLink "IslandRights" (61 : Nat) "java/lang/IllegalStateException") ∈ zw_A := zw_t (i := 233) (by decide +kernel) (by decide +kernel)
theorem zk_243 : (Jvm.Cond.methodLink "IslandRights" (65 : Nat) ({ cls := "java/lang/IllegalStateException", name := "<init>", desc := "(Ljava/lang/String;)V" } : Jvm.MethodName)) ∈ zw_A := zw_t (i := 243) (by decide +kernel) (by decide +kernel)
theorem zk_244 : (Jvm.Cond.instanceMethod ({ cls := "java/lang/IllegalStateException", name := "<init>", desc := "(Ljava/lang/String;)V" } : Jvm.MethodName)) ∈ zw_A := zw_t (i := 244) (by decide +kernel) (by decide +kernel)
theorem zk_245 : (Jvm.Cond.code ({ cls := "java/lang/IllegalStateException", name := "<init>", desc := "(Ljava/lang/String;)V" } : Jvm.MethodName) prog_11_method_2_code (2 : Nat) (Option.none : Option Jvm.ClassFile.FieldType)) ∈ zw_A := zw_t (i := 245) (by decide +kernel) (by decide +kernel)
theorem zk_249 : (Jvm.Cond.methodLink "IslandRights" (71 : Nat) ({ cls := "IslandRights", name := "placeOf", desc := "(II)I" } : Jvm.MethodName)) ∈ zw_A := zw_t (i := 249) (by decide +kernel) (by decide +kernel)
theorem zk_250 : (Jvm.Cond.static ({ cls := "IslandRights", name := "placeOf", desc := "(II)I" } : Jvm.MethodName)) ∈ zw_A := zw_t (i := 250) (by decide +kernel) (by decide +kernel)
theorem zk_251 : (Jvm.Cond.code ({ cls := "IslandRights", name := "placeOf", desc := "(II)I" } : Jvm.MethodName) prog_1_method_31_code (2 : Nat) (Option.some Jvm.ClassFile.FieldType.int)) ∈ zw_A := zw_t (i := 251) (by decide +kernel) (by decide +kernel)
theorem zk_252 : (Jvm.Cond.methodLink "IslandRightsLaw" (96 : Nat) ({ cls := "IslandRightsLaw", name := "fare", desc := "(LIslandRights;III)I" } : Jvm.MethodName)) ∈ zw_A := zw_t (i := 252) (by decide +kernel) (by decide +kernel)
theorem zk_253 : (Jvm.Cond.static ({ cls := "IslandRightsLaw", name := "fare", desc := "(LIslandRights;III)I" } : Jvm.MethodName)) ∈ zw_A := zw_t (i := 253) (by decide +kernel) (by decide +kernel)
theorem zk_255 : (Jvm.Cond.methodLink "IslandRightsLaw" (19 : Nat) ({ cls := "IslandRights", name := "fare", desc := "(III)V" } : Jvm.MethodName)) ∈ zw_A := zw_t (i := 255) (by decide +kernel) (by decide +kernel)
theorem zk_256 : (Jvm.Cond.instanceMethod ({ cls := "IslandRights", name := "fare", desc := "(III)V" } : Jvm.MethodName)) ∈ zw_A := zw_t (i := 256) (by decide +kernel) (by decide +kernel)
theorem zk_257 : (Jvm.Cond.selects "IslandRights" ({ cls := "IslandRights", name := "fare", desc := "(III)V" } : Jvm.MethodName) ({ cls := "IslandRights", name := "fare", desc := "(III)V" } : Jvm.MethodName)) ∈ zw_A := zw_t (i := 257) (by decide +kernel) (by decide +kernel)
theorem zk_258 : (Jvm.Cond.code ({ cls := "IslandRights", name := "fare", desc := "(III)V" } : Jvm.MethodName) prog_1_method_3_code (4 : Nat) (Option.none : Option Jvm.ClassFile.FieldType)) ∈ zw_A := zw_t (i := 258) (by decide +kernel) (by decide +kernel)
theorem zk_259 : (Jvm.Cond.methodLink "IslandRights" (75 : Nat) ({ cls := "IslandRights", name := "checkLeg", desc := "(I)V" } : Jvm.MethodName)) ∈ zw_A := zw_t (i := 259) (by decide +kernel) (by decide +kernel)
theorem zk_260 : (Jvm.Cond.static ({ cls := "IslandRights", name := "checkLeg", desc := "(I)V" } : Jvm.MethodName)) ∈ zw_A := zw_t (i := 260) (by decide +kernel) (by decide +kernel)
theorem zk_261 : (Jvm.Cond.code ({ cls := "IslandRights", name := "checkLeg", desc := "(I)V" } : Jvm.MethodName) prog_1_method_24_code (1 : Nat) (Option.none : Option Jvm.ClassFile.FieldType)) ∈ zw_A := zw_t (i := 261) (by decide +kernel) (by decide +kernel)
theorem zk_263 : (Jvm.Cond.constant "IslandRights" (78 : Nat) (1000000000 : Int32)) ∈ zw_A := zw_t (i := 263) (by decide +kernel) (by decide +kernel)
theorem zk_265 : (Jvm.Cond.methodLink "IslandRightsLaw" (100 : Nat) ({ cls := "IslandRightsLaw", name := "part", desc := "(LIslandRights;III[J)I" } : Jvm.MethodName)) ∈ zw_A := zw_t (i := 265) (by decide +kernel) (by decide +kernel)
theorem zk_266 : (Jvm.Cond.static ({ cls := "IslandRightsLaw", name := "part", desc := "(LIslandRights;III[J)I" } : Jvm.MethodName)) ∈ zw_A := zw_t (i := 266) (by decide +kernel) (by decide +kernel)
theorem zk_268 : (Jvm.Cond.methodLink "IslandRightsLaw" (23 : Nat) ({ cls := "IslandRights", name := "part", desc := "(III)I" } : Jvm.MethodName)) ∈ zw_A := zw_t (i := 268) (by decide +kernel) (by decide +kernel)
theorem zk_269 : (Jvm.Cond.instanceMethod ({ cls := "IslandRights", name := "part", desc := "(III)I" } : Jvm.MethodName)) ∈ zw_A := zw_t (i := 269) (by decide +kernel) (by decide +kernel)
theorem zk_270 : (Jvm.Cond.selects "IslandRights" ({ cls := "IslandRights", name := "part", desc := "(III)I" } : Jvm.MethodName) ({ cls := "IslandRights", name := "part", desc := "(III)I" } : Jvm.MethodName)) ∈ zw_A := zw_t (i := 270) (by decide +kernel) (by decide +kernel)
theorem zk_271 : (Jvm.Cond.code ({ cls := "IslandRights", name := "part", desc := "(III)I" } : Jvm.MethodName) prog_1_method_4_code (4 : Nat) (Option.some Jvm.ClassFile.FieldType.int)) ∈ zw_A := zw_t (i := 271) (by decide +kernel) (by decide +kernel)
theorem zk_272 : (Jvm.Cond.methodLink "IslandRights" (84 : Nat) ({ cls := "IslandRights", name := "checkStop", desc := "(I)V" } : Jvm.MethodName)) ∈ zw_A := zw_t (i := 272) (by decide +kernel) (by decide +kernel)
theorem zk_273 : (Jvm.Cond.static ({ cls := "IslandRights", name := "checkStop", desc := "(I)V" } : Jvm.MethodName)) ∈ zw_A := zw_t (i := 273) (by decide +kernel) (by decide +kernel)
theorem zk_274 : (Jvm.Cond.code ({ cls := "IslandRights", name := "checkStop", desc := "(I)V" } : Jvm.MethodName) prog_1_method_25_code (1 : Nat) (Option.none : Option Jvm.ClassFile.FieldType)) ∈ zw_A := zw_t (i := 274) (by decide +kernel) (by decide +kernel)
theorem zk_279 : (Jvm.Cond.methodLink "IslandRights" (96 : Nat) ({ cls := "IslandRights$Journey", name := "addPart", desc := "(III)V" } : Jvm.MethodName)) ∈ zw_A := zw_t (i := 279) (by decide +kernel) (by decide +kernel)
theorem zk_280 : (Jvm.Cond.instanceMethod ({ cls := "IslandRights$Journey", name := "addPart", desc := "(III)V" } : Jvm.MethodName)) ∈ zw_A := zw_t (i := 280) (by decide +kernel) (by decide +kernel)
theorem zk_281 : (Jvm.Cond.selects "IslandRights$Journey" ({ cls := "IslandRights$Journey", name := "addPart", desc := "(III)V" } : Jvm.MethodName) ({ cls := "IslandRights$Journey", name := "addPart", desc := "(III)V" } : Jvm.MethodName)) ∈ zw_A := zw_t (i := 281) (by decide +kernel) (by decide +kernel)
theorem zk_282 : (Jvm.Cond.code ({ cls := "IslandRights$Journey", name := "addPart", desc := "(III)V" } : Jvm.MethodName) prog_2_method_2_code (5 : Nat) (Option.none : Option Jvm.ClassFile.FieldType)) ∈ zw_A := zw_t (i := 282) (by decide +kernel) (by decide +kernel)
theorem zk_284 : (Jvm.Cond.methodLink "IslandRightsLaw" (104 : Nat) ({ cls := "IslandRightsLaw", name := "buy", desc := "(LIslandRights;II[J)I" } : Jvm.MethodName)) ∈ zw_A := zw_t (i := 284) (by decide +kernel) (by decide +kernel)
theorem zk_285 : (Jvm.Cond.static ({ cls := "IslandRightsLaw", name := "buy", desc := "(LIslandRights;II[J)I" } : Jvm.MethodName)) ∈ zw_A := zw_t (i := 285) (by decide +kernel) (by decide +kernel)
theorem zk_287 : (Jvm.Cond.methodLink "IslandRightsLaw" (27 : Nat) ({ cls := "IslandRights", name := "buy", desc := "(II)I" } : Jvm.MethodName)) ∈ zw_A := zw_t (i := 287) (by decide +kernel) (by decide +kernel)
theorem zk_288 : (Jvm.Cond.instanceMethod ({ cls := "IslandRights", name := "buy", desc := "(II)I" } : Jvm.MethodName)) ∈ zw_A := zw_t (i := 288) (by decide +kernel) (by decide +kernel)
theorem zk_289 : (Jvm.Cond.selects "IslandRights" ({ cls := "IslandRights", name := "buy", desc := "(II)I" } : Jvm.MethodName) ({ cls := "IslandRights", name := "buy", desc := "(II)I" } : Jvm.MethodName)) ∈ zw_A := zw_t (i := 289) (by decide +kernel) (by decide +kernel)
theorem zk_290 : (Jvm.Cond.code ({ cls := "IslandRights", name := "buy", desc := "(II)I" } : Jvm.MethodName) prog_1_method_5_code (4 : Nat) (Option.some Jvm.ClassFile.FieldType.int)) ∈ zw_A := zw_t (i := 290) (by decide +kernel) (by decide +kernel)
theorem zk_291 : (Jvm.Cond.methodLink "IslandRights" (100 : Nat) ({ cls := "IslandRights", name := "checkPort", desc := "(I)V" } : Jvm.MethodName)) ∈ zw_A := zw_t (i := 291) (by decide +kernel) (by decide +kernel)
theorem zk_292 : (Jvm.Cond.static ({ cls := "IslandRights", name := "checkPort", desc := "(I)V" } : Jvm.MethodName)) ∈ zw_A := zw_t (i := 292) (by decide +kernel) (by decide +kernel)
theorem zk_293 : (Jvm.Cond.code ({ cls := "IslandRights", name := "checkPort", desc := "(I)V" } : Jvm.MethodName) prog_1_method_22_code (1 : Nat) (Option.none : Option Jvm.ClassFile.FieldType)) ∈ zw_A := zw_t (i := 293) (by decide +kernel) (by decide +kernel)
theorem zk_295 : (Jvm.Cond.methodLink "IslandRights" (103 : Nat) ({ cls := "IslandRights", name := "checkDraft", desc := "()V" } : Jvm.MethodName)) ∈ zw_A := zw_t (i := 295) (by decide +kernel) (by decide +kernel)
theorem zk_297 : (Jvm.Cond.instanceMethod ({ cls := "IslandRights", name := "checkDraft", desc := "()V" } : Jvm.MethodName)) ∈ zw_A := zw_t (i := 297) (by decide +kernel) (by decide +kernel)
theorem zk_298 : (Jvm.Cond.code ({ cls := "IslandRights", name := "checkDraft", desc := "()V" } : Jvm.MethodName) prog_1_method_30_code (1 : Nat) (Option.none : Option Jvm.ClassFile.FieldType)) ∈ zw_A := zw_t (i := 298) (by decide +kernel) (by decide +kernel)
theorem zk_301 : (Jvm.Cond.methodLink "IslandRights" (108 : Nat) ({ cls := "IslandRights", name := "takeDraft", desc := "()LIslandRights$Journey;" } : Jvm.MethodName)) ∈ zw_A := zw_t (i := 301) (by decide +kernel) (by decide +kernel)
theorem zk_303 : (Jvm.Cond.instanceMethod ({ cls := "IslandRights", name := "takeDraft", desc := "()LIslandRights$Journey;" } : Jvm.MethodName)) ∈ zw_A := zw_t (i := 303) (by decide +kernel) (by decide +kernel)
theorem zk_304 : (Jvm.Cond.code ({ cls := "IslandRights", name := "takeDraft", desc := "()LIslandRights$Journey;" } : Jvm.MethodName) prog_1_method_33_code (2 : Nat) (Option.some (Jvm.ClassFile.FieldType.object "IslandRights$Journey"))) ∈ zw_A := zw_t (i := 304) (by decide +kernel) (by decide +kernel)
theorem zk_305 : (Jvm.Cond.methodLink "IslandRights" (112 : Nat) ({ cls := "IslandRights$Port", name := "fits", desc := "(LIslandRights$Journey;I)Z" } : Jvm.MethodName)) ∈ zw_A := zw_t (i := 305) (by decide +kernel) (by decide +kernel)
theorem zk_306 : (Jvm.Cond.instanceMethod ({ cls := "IslandRights$Port", name := "fits", desc := "(LIslandRights$Journey;I)Z" } : Jvm.MethodName)) ∈ zw_A := zw_t (i := 306) (by decide +kernel) (by decide +kernel)
theorem zk_307 : (Jvm.Cond.selects "IslandRights$Port" ({ cls := "IslandRights$Port", name := "fits", desc := "(LIslandRights$Journey;I)Z" } : Jvm.MethodName) ({ cls := "IslandRights$Port", name := "fits", desc := "(LIslandRights$Journey;I)Z" } : Jvm.MethodName)) ∈ zw_A := zw_t (i := 307) (by decide +kernel) (by decide +kernel)
theorem zk_308 : (Jvm.Cond.code ({ cls := "IslandRights$Port", name := "fits", desc := "(LIslandRights$Journey;I)Z" } : Jvm.MethodName) prog_4_method_2_code (4 : Nat) (Option.some Jvm.ClassFile.FieldType.boolean)) ∈ zw_A := zw_t (i := 308) (by decide +kernel) (by decide +kernel)
theorem zk_309 : (Jvm.Cond.methodLink "IslandRights" (116 : Nat) ({ cls := "IslandRights", name := "sell", desc := "(ILIslandRights$Journey;I)I" } : Jvm.MethodName)) ∈ zw_A := zw_t (i := 309) (by decide +kernel) (by decide +kernel)
theorem zk_311 : (Jvm.Cond.instanceMethod ({ cls := "IslandRights", name := "sell", desc := "(ILIslandRights$Journey;I)I" } : Jvm.MethodName)) ∈ zw_A := zw_t (i := 311) (by decide +kernel) (by decide +kernel)
theorem zk_312 : (Jvm.Cond.code ({ cls := "IslandRights", name := "sell", desc := "(ILIslandRights$Journey;I)I" } : Jvm.MethodName) prog_1_method_34_code (7 : Nat) (Option.some Jvm.ClassFile.FieldType.int)) ∈ zw_A := zw_t (i := 312) (by decide +kernel) (by decide +kernel)
theorem zk_313 : (Jvm.Cond.methodLink "IslandRights" (228 : Nat) ({ cls := "IslandRights", name := "costOf", desc := "(LIslandRights$Journey;I)J" } : Jvm.MethodName)) ∈ zw_A := zw_t (i := 313) (by decide +kernel) (by decide +kernel)
theorem zk_315 : (Jvm.Cond.instanceMethod ({ cls := "IslandRights", name := "costOf", desc := "(LIslandRights$Journey;I)J" } : Jvm.MethodName)) ∈ zw_A := zw_t (i := 315) (by decide +kernel) (by decide +kernel)
theorem zk_316 : (Jvm.Cond.code ({ cls := "IslandRights", name := "costOf", desc := "(LIslandRights$Journey;I)J" } : Jvm.MethodName) prog_1_method_35_code (6 : Nat) (Option.some Jvm.ClassFile.FieldType.long)) ∈ zw_A := zw_t (i := 316) (by decide +kernel) (by decide +kernel)
theorem zk_317 : (Jvm.Cond.methodLink "IslandRights" (151 : Nat) ({ cls := "IslandRights", name := "moveToSold", desc := "(ILIslandRights$Journey;I)V" } : Jvm.MethodName)) ∈ zw_A := zw_t (i := 317) (by decide +kernel) (by decide +kernel)
theorem zk_319 : (Jvm.Cond.instanceMethod ({ cls := "IslandRights", name := "moveToSold", desc := "(ILIslandRights$Journey;I)V" } : Jvm.MethodName)) ∈ zw_A := zw_t (i := 319) (by decide +kernel) (by decide +kernel)
theorem zk_320 : (Jvm.Cond.code ({ cls := "IslandRights", name := "moveToSold", desc := "(ILIslandRights$Journey;I)V" } : Jvm.MethodName) prog_1_method_36_code (7 : Nat) (Option.none : Option Jvm.ClassFile.FieldType)) ∈ zw_A := zw_t (i := 320) (by decide +kernel) (by decide +kernel)
theorem zk_321 : (Jvm.Cond.instantiable "IslandRights$Ticket" (5 : Nat)) ∈ zw_A := zw_t (i := 321) (by decide +kernel) (by decide +kernel)
theorem zk_322 : (Jvm.Cond.methodLink "IslandRights" (232 : Nat) ({ cls := "IslandRights$Ticket", name := "<init>", desc := "(IILIslandRights$Journey;J)V" } : Jvm.MethodName)) ∈ zw_A := zw_t (i := 322) (by decide +kernel) (by decide +kernel)
theorem zk_323 : (Jvm.Cond.instanceMethod ({ cls := "IslandRights$Ticket", name := "<init>", desc := "(IILIslandRights$Journey;J)V" } : Jvm.MethodName)) ∈ zw_A := zw_t (i := 323) (by decide +kernel) (by decide +kernel)
theorem zk_324 : (Jvm.Cond.code ({ cls := "IslandRights$Ticket", name := "<init>", desc := "(IILIslandRights$Journey;J)V" } : Jvm.MethodName) prog_5_method_1_code (6 : Nat) (Option.none : Option Jvm.ClassFile.FieldType)) ∈ zw_A := zw_t (i := 324) (by decide +kernel) (by decide +kernel)
theorem zk_325 : (Jvm.Cond.methodLink "IslandRights$Ticket" (1 : Nat) ({ cls := "java/lang/Object", name := "<init>", desc := "()V" } : Jvm.MethodName)) ∈ zw_A := zw_t (i := 325) (by decide +kernel) (by decide +kernel)
theorem zk_326 : (Jvm.Cond.fieldLink "IslandRights$Ticket" (13 : Nat) "IslandRights$Ticket" "port" "I") ∈ zw_A := zw_t (i := 326) (by decide +kernel) (by decide +kernel)
theorem zk_327 : (Jvm.Cond.fieldLink "IslandRights" (142 : Nat) "IslandRights$Ticket" "port" "I") ∈ zw_A := zw_t (i := 327) (by decide +kernel) (by decide +kernel)
theorem zk_328 : (Jvm.Cond.fieldLink "IslandRights$Ticket" (17 : Nat) "IslandRights$Ticket" "seats" "I") ∈ zw_A := zw_t (i := 328) (by decide +kernel) (by decide +kernel)
theorem zk_329 : (Jvm.Cond.fieldLink "IslandRights" (148 : Nat) "IslandRights$Ticket" "seats" "I") ∈ zw_A := zw_t (i := 329) (by decide +kernel) (by decide +kernel)
theorem zk_330 : (Jvm.Cond.fieldLink "IslandRights$Ticket" (20 : Nat) "IslandRights$Ticket" "journey" "LIslandRights$Journey;") ∈ zw_A := zw_t (i := 330) (by decide +kernel) (by decide +kernel)
theorem zk_331 : (Jvm.Cond.fieldLink "IslandRights" (145 : Nat) "IslandRights$Ticket" "journey" "LIslandRights$Journey;") ∈ zw_A := zw_t (i := 331) (by decide +kernel) (by decide +kernel)
theorem zk_332 : (Jvm.Cond.fieldLink "IslandRights$Ticket" (24 : Nat) "IslandRights$Ticket" "cost" "J") ∈ zw_A := zw_t (i := 332) (by decide +kernel) (by decide +kernel)
theorem zk_333 : (Jvm.Cond.fieldLink "IslandRights" (159 : Nat) "IslandRights$Ticket" "cost" "J") ∈ zw_A := zw_t (i := 333) (by decide +kernel) (by decide +kernel)
theorem zk_334 : (Jvm.Cond.fieldLink "IslandRights$Ticket" (7 : Nat) "IslandRights$Ticket" "cancelled" "Z") ∈ zw_A := zw_t (i := 334) (by decide +kernel) (by decide +kernel)
theorem zk_335 : (Jvm.Cond.fieldLink "IslandRights" (136 : Nat) "IslandRights$Ticket" "cancelled" "Z") ∈ zw_A := zw_t (i := 335) (by decide +kernel) (by decide +kernel)
theorem zk_336 : (Jvm.Cond.laysFinal "IslandRights$Ticket" "IslandRights$Ticket" "port" "I") ∈ zw_A := zw_t (i := 336) (by decide +kernel) (by decide +kernel)
theorem zk_337 : (Jvm.Cond.soleField "IslandRights$Ticket" "port") ∈ zw_A := zw_t (i := 337) (by decide +kernel) (by decide +kernel)
theorem zk_338 : (Jvm.Cond.laysFinal "IslandRights$Ticket" "IslandRights$Ticket" "seats" "I") ∈ zw_A := zw_t (i := 338) (by decide +kernel) (by decide +kernel)
theorem zk_339 : (Jvm.Cond.soleField "IslandRights$Ticket" "seats") ∈ zw_A := zw_t (i := 339) (by decide +kernel) (by decide +kernel)
theorem zk_340 : (Jvm.Cond.laysFinal "IslandRights$Ticket" "IslandRights$Ticket" "journey" "LIslandRights$Journey;") ∈ zw_A := zw_t (i := 340) (by decide +kernel) (by decide +kernel)
theorem zk_341 : (Jvm.Cond.soleField "IslandRights$Ticket" "journey") ∈ zw_A := zw_t (i := 341) (by decide +kernel) (by decide +kernel)
theorem zk_342 : (Jvm.Cond.laysFinal "IslandRights$Ticket" "IslandRights$Ticket" "cost" "J") ∈ zw_A := zw_t (i := 342) (by decide +kernel) (by decide +kernel)
theorem zk_343 : (Jvm.Cond.soleField "IslandRights$Ticket" "cost") ∈ zw_A := zw_t (i := 343) (by decide +kernel) (by decide +kernel)
theorem zk_344 : (Jvm.Cond.lays "IslandRights$Ticket" "IslandRights$Ticket" "cancelled" "Z") ∈ zw_A := zw_t (i := 344) (by decide +kernel) (by decide +kernel)
theorem zk_345 : (Jvm.Cond.soleField "IslandRights$Ticket" "cancelled") ∈ zw_A := zw_t (i := 345) (by decide +kernel) (by decide +kernel)
theorem zk_346 : (Jvm.Cond.superclass "IslandRights$Ticket" "java/lang/Object") ∈ zw_A := zw_t (i := 346) (by decide +kernel) (by decide +kernel)
theorem zk_347 : (Jvm.Cond.methodLink "IslandRightsLaw" (108 : Nat) ({ cls := "IslandRightsLaw", name := "wish", desc := "(LIslandRights;II[J)I" } : Jvm.MethodName)) ∈ zw_A := zw_t (i := 347) (by decide +kernel) (by decide +kernel)
theorem zk_348 : (Jvm.Cond.static ({ cls := "IslandRightsLaw", name := "wish", desc := "(LIslandRights;II[J)I" } : Jvm.MethodName)) ∈ zw_A := zw_t (i := 348) (by decide +kernel) (by decide +kernel)
theorem zk_350 : (Jvm.Cond.methodLink "IslandRightsLaw" (31 : Nat) ({ cls := "IslandRights", name := "wish", desc := "(II)I" } : Jvm.MethodName)) ∈ zw_A := zw_t (i := 350) (by decide +kernel) (by decide +kernel)
theorem zk_351 : (Jvm.Cond.instanceMethod ({ cls := "IslandRights", name := "wish", desc := "(II)I" } : Jvm.MethodName)) ∈ zw_A := zw_t (i := 351) (by decide +kernel) (by decide +kernel)
theorem zk_352 : (Jvm.Cond.selects "IslandRights" ({ cls := "IslandRights", name := "wish", desc := "(II)I" } : Jvm.MethodName) ({ cls := "IslandRights", name := "wish", desc := "(II)I" } : Jvm.MethodName)) ∈ zw_A := zw_t (i := 352) (by decide +kernel) (by decide +kernel)
theorem zk_353 : (Jvm.Cond.code ({ cls := "IslandRights", name := "wish", desc := "(II)I" } : Jvm.MethodName) prog_1_method_6_code (3 : Nat) (Option.some Jvm.ClassFile.FieldType.int)) ∈ zw_A := zw_t (i := 353) (by decide +kernel) (by decide +kernel)
theorem zk_355 : (Jvm.Cond.methodLink "IslandRights" (125 : Nat) ({ cls := "IslandRights$Port", name := "addWish", desc := "(LIslandRights$Journey;I)V" } : Jvm.MethodName)) ∈ zw_A := zw_t (i := 355) (by decide +kernel) (by decide +kernel)
theorem zk_356 : (Jvm.Cond.instanceMethod ({ cls := "IslandRights$Port", name := "addWish", desc := "(LIslandRights$Journey;I)V" } : Jvm.MethodName)) ∈ zw_A := zw_t (i := 356) (by decide +kernel) (by decide +kernel)
theorem zk_357 : (Jvm.Cond.selects "IslandRights$Port" ({ cls := "IslandRights$Port", name := "addWish", desc := "(LIslandRights$Journey;I)V" } : Jvm.MethodName) ({ cls := "IslandRights$Port", name := "addWish", desc := "(LIslandRights$Journey;I)V" } : Jvm.MethodName)) ∈ zw_A := zw_t (i := 357) (by decide +kernel) (by decide +kernel)
theorem zk_358 : (Jvm.Cond.code ({ cls := "IslandRights$Port", name := "addWish", desc := "(LIslandRights$Journey;I)V" } : Jvm.MethodName) prog_4_method_3_code (3 : Nat) (Option.none : Option Jvm.ClassFile.FieldType)) ∈ zw_A := zw_t (i := 358) (by decide +kernel) (by decide +kernel)
theorem zk_359 : (Jvm.Cond.instantiable "IslandRights$Wish" (2 : Nat)) ∈ zw_A := zw_t (i := 359) (by decide +kernel) (by decide +kernel)
theorem zk_360 : (Jvm.Cond.methodLink "IslandRights$Port" (34 : Nat) ({ cls := "IslandRights$Wish", name := "<init>", desc := "(LIslandRights$Journey;I)V" } : Jvm.MethodName)) ∈ zw_A := zw_t (i := 360) (by decide +kernel) (by decide +kernel)
theorem zk_361 : (Jvm.Cond.instanceMethod ({ cls := "IslandRights$Wish", name := "<init>", desc := "(LIslandRights$Journey;I)V" } : Jvm.MethodName)) ∈ zw_A := zw_t (i := 361) (by decide +kernel) (by decide +kernel)
theorem zk_362 : (Jvm.Cond.code ({ cls := "IslandRights$Wish", name := "<init>", desc := "(LIslandRights$Journey;I)V" } : Jvm.MethodName) prog_6_method_1_code (3 : Nat) (Option.none : Option Jvm.ClassFile.FieldType)) ∈ zw_A := zw_t (i := 362) (by decide +kernel) (by decide +kernel)
theorem zk_363 : (Jvm.Cond.methodLink "IslandRights$Wish" (1 : Nat) ({ cls := "java/lang/Object", name := "<init>", desc := "()V" } : Jvm.MethodName)) ∈ zw_A := zw_t (i := 363) (by decide +kernel) (by decide +kernel)
theorem zk_364 : (Jvm.Cond.fieldLink "IslandRights$Wish" (7 : Nat) "IslandRights$Wish" "journey" "LIslandRights$Journey;") ∈ zw_A := zw_t (i := 364) (by decide +kernel) (by decide +kernel)
theorem zk_365 : (Jvm.Cond.fieldLink "IslandRights" (242 : Nat) "IslandRights$Wish" "journey" "LIslandRights$Journey;") ∈ zw_A := zw_t (i := 365) (by decide +kernel) (by decide +kernel)
theorem zk_366 : (Jvm.Cond.fieldLink "IslandRights$Wish" (13 : Nat) "IslandRights$Wish" "seats" "I") ∈ zw_A := zw_t (i := 366) (by decide +kernel) (by decide +kernel)
theorem zk_367 : (Jvm.Cond.fieldLink "IslandRights" (245 : Nat) "IslandRights$Wish" "seats" "I") ∈ zw_A := zw_t (i := 367) (by decide +kernel) (by decide +kernel)
theorem zk_368 : (Jvm.Cond.laysFinal "IslandRights$Wish" "IslandRights$Wish" "journey" "LIslandRights$Journey;") ∈ zw_A := zw_t (i := 368) (by decide +kernel) (by decide +kernel)
theorem zk_369 : (Jvm.Cond.soleField "IslandRights$Wish" "journey") ∈ zw_A := zw_t (i := 369) (by decide +kernel) (by decide +kernel)
theorem zk_370 : (Jvm.Cond.laysFinal "IslandRights$Wish" "IslandRights$Wish" "seats" "I") ∈ zw_A := zw_t (i := 370) (by decide +kernel) (by decide +kernel)
theorem zk_371 : (Jvm.Cond.soleField "IslandRights$Wish" "seats") ∈ zw_A := zw_t (i := 371) (by decide +kernel) (by decide +kernel)
theorem zk_372 : (Jvm.Cond.superclass "IslandRights$Wish" "java/lang/Object") ∈ zw_A := zw_t (i := 372) (by decide +kernel) (by decide +kernel)
theorem zk_373 : (Jvm.Cond.methodLink "IslandRights" (129 : Nat) ({ cls := "IslandRights", name := "serve", desc := "(I)I" } : Jvm.MethodName)) ∈ zw_A := zw_t (i := 373) (by decide +kernel) (by decide +kernel)
theorem zk_375 : (Jvm.Cond.instanceMethod ({ cls := "IslandRights", name := "serve", desc := "(I)I" } : Jvm.MethodName)) ∈ zw_A := zw_t (i := 375) (by decide +kernel) (by decide +kernel)
theorem zk_376 : (Jvm.Cond.code ({ cls := "IslandRights", name := "serve", desc := "(I)I" } : Jvm.MethodName) prog_1_method_37_code (7 : Nat) (Option.some Jvm.ClassFile.FieldType.int)) ∈ zw_A := zw_t (i := 376) (by decide +kernel) (by decide +kernel)
theorem zk_377 : (Jvm.Cond.methodLink "IslandRightsLaw" (111 : Nat) ({ cls := "IslandRightsLaw", name := "cancel", desc := "(LIslandRights;I[J)I" } : Jvm.MethodName)) ∈ zw_A := zw_t (i := 377) (by decide +kernel) (by decide +kernel)
theorem zk_378 : (Jvm.Cond.static ({ cls := "IslandRightsLaw", name := "cancel", desc := "(LIslandRights;I[J)I" } : Jvm.MethodName)) ∈ zw_A := zw_t (i := 378) (by decide +kernel) (by decide +kernel)
theorem zk_380 : (Jvm.Cond.methodLink "IslandRightsLaw" (34 : Nat) ({ cls := "IslandRights", name := "cancel", desc := "(I)I" } : Jvm.MethodName)) ∈ zw_A := zw_t (i := 380) (by decide +kernel) (by decide +kernel)
theorem zk_381 : (Jvm.Cond.instanceMethod ({ cls := "IslandRights", name := "cancel", desc := "(I)I" } : Jvm.MethodName)) ∈ zw_A := zw_t (i := 381) (by decide +kernel) (by decide +kernel)
theorem zk_382 : (Jvm.Cond.selects "IslandRights" ({ cls := "IslandRights", name := "cancel", desc := "(I)I" } : Jvm.MethodName) ({ cls := "IslandRights", name := "cancel", desc := "(I)I" } : Jvm.MethodName)) ∈ zw_A := zw_t (i := 382) (by decide +kernel) (by decide +kernel)
theorem zk_383 : (Jvm.Cond.code ({ cls := "IslandRights", name := "cancel", desc := "(I)I" } : Jvm.MethodName) prog_1_method_7_code (3 : Nat) (Option.some Jvm.ClassFile.FieldType.int)) ∈ zw_A := zw_t (i := 383) (by decide +kernel) (by decide +kernel)
theorem zk_384 : (Jvm.Cond.methodLink "IslandRights" (133 : Nat) ({ cls := "IslandRights", name := "checkTicket", desc := "(I)V" } : Jvm.MethodName)) ∈ zw_A := zw_t (i := 384) (by decide +kernel) (by decide +kernel)
theorem zk_386 : (Jvm.Cond.instanceMethod ({ cls := "IslandRights", name := "checkTicket", desc := "(I)V" } : Jvm.MethodName)) ∈ zw_A := zw_t (i := 386) (by decide +kernel) (by decide +kernel)
theorem zk_387 : (Jvm.Cond.code ({ cls := "IslandRights", name := "checkTicket", desc := "(I)V" } : Jvm.MethodName) prog_1_method_26_code (2 : Nat) (Option.none : Option Jvm.ClassFile.FieldType)) ∈ zw_A := zw_t (i := 387) (by decide +kernel) (by decide +kernel)
theorem zk_390 : (Jvm.Cond.methodLink "IslandRightsLaw" (115 : Nat) ({ cls := "IslandRightsLaw", name := "ticket", desc := "(LIslandRights;II[J)I" } : Jvm.MethodName)) ∈ zw_A := zw_t (i := 390) (by decide +kernel) (by decide +kernel)
theorem zk_391 : (Jvm.Cond.static ({ cls := "IslandRightsLaw", name := "ticket", desc := "(LIslandRights;II[J)I" } : Jvm.MethodName)) ∈ zw_A := zw_t (i := 391) (by decide +kernel) (by decide +kernel)
theorem zk_393 : (Jvm.Cond.methodLink "IslandRightsLaw" (38 : Nat) ({ cls := "IslandRights", name := "ticket", desc := "(II)I" } : Jvm.MethodName)) ∈ zw_A := zw_t (i := 393) (by decide +kernel) (by decide +kernel)
theorem zk_394 : (Jvm.Cond.instanceMethod ({ cls := "IslandRights", name := "ticket", desc := "(II)I" } : Jvm.MethodName)) ∈ zw_A := zw_t (i := 394) (by decide +kernel) (by decide +kernel)
theorem zk_395 : (Jvm.Cond.selects "IslandRights" ({ cls := "IslandRights", name := "ticket", desc := "(II)I" } : Jvm.MethodName) ({ cls := "IslandRights", name := "ticket", desc := "(II)I" } : Jvm.MethodName)) ∈ zw_A := zw_t (i := 395) (by decide +kernel) (by decide +kernel)
theorem zk_396 : (Jvm.Cond.code ({ cls := "IslandRights", name := "ticket", desc := "(II)I" } : Jvm.MethodName) prog_1_method_8_code (4 : Nat) (Option.some Jvm.ClassFile.FieldType.int)) ∈ zw_A := zw_t (i := 396) (by decide +kernel) (by decide +kernel)
theorem zk_398 : (Jvm.Cond.methodLink "IslandRightsLaw" (118 : Nat) ({ cls := "IslandRightsLaw", name := "price", desc := "(LIslandRights;I[J)I" } : Jvm.MethodName)) ∈ zw_A := zw_t (i := 398) (by decide +kernel) (by decide +kernel)
theorem zk_399 : (Jvm.Cond.static ({ cls := "IslandRightsLaw", name := "price", desc := "(LIslandRights;I[J)I" } : Jvm.MethodName)) ∈ zw_A := zw_t (i := 399) (by decide +kernel) (by decide +kernel)
theorem zk_401 : (Jvm.Cond.methodLink "IslandRightsLaw" (41 : Nat) ({ cls := "IslandRights", name := "price", desc := "(I)J" } : Jvm.MethodName)) ∈ zw_A := zw_t (i := 401) (by decide +kernel) (by decide +kernel)
theorem zk_402 : (Jvm.Cond.instanceMethod ({ cls := "IslandRights", name := "price", desc := "(I)J" } : Jvm.MethodName)) ∈ zw_A := zw_t (i := 402) (by decide +kernel) (by decide +kernel)
theorem zk_403 : (Jvm.Cond.selects "IslandRights" ({ cls := "IslandRights", name := "price", desc := "(I)J" } : Jvm.MethodName) ({ cls := "IslandRights", name := "price", desc := "(I)J" } : Jvm.MethodName)) ∈ zw_A := zw_t (i := 403) (by decide +kernel) (by decide +kernel)
theorem zk_404 : (Jvm.Cond.code ({ cls := "IslandRights", name := "price", desc := "(I)J" } : Jvm.MethodName) prog_1_method_9_code (2 : Nat) (Option.some Jvm.ClassFile.FieldType.long)) ∈ zw_A := zw_t (i := 404) (by decide +kernel) (by decide +kernel)
theorem zk_405 : (Jvm.Cond.methodLink "IslandRightsLaw" (121 : Nat) ({ cls := "IslandRightsLaw", name := "hand", desc := "(LIslandRights;IIIII[J)I" } : Jvm.MethodName)) ∈ zw_A := zw_t (i := 405) (by decide +kernel) (by decide +kernel)
theorem zk_406 : (Jvm.Cond.static ({ cls := "IslandRightsLaw", name := "hand", desc := "(LIslandRights;IIIII[J)I" } : Jvm.MethodName)) ∈ zw_A := zw_t (i := 406) (by decide +kernel) (by decide +kernel)
theorem zk_408 : (Jvm.Cond.methodLink "IslandRightsLaw" (45 : Nat) ({ cls := "IslandRights", name := "hand", desc := "(IIIII)I" } : Jvm.MethodName)) ∈ zw_A := zw_t (i := 408) (by decide +kernel) (by decide +kernel)
theorem zk_409 : (Jvm.Cond.instanceMethod ({ cls := "IslandRights", name := "hand", desc := "(IIIII)I" } : Jvm.MethodName)) ∈ zw_A := zw_t (i := 409) (by decide +kernel) (by decide +kernel)
theorem zk_410 : (Jvm.Cond.selects "IslandRights" ({ cls := "IslandRights", name := "hand", desc := "(IIIII)I" } : Jvm.MethodName) ({ cls := "IslandRights", name := "hand", desc := "(IIIII)I" } : Jvm.MethodName)) ∈ zw_A := zw_t (i := 410) (by decide +kernel) (by decide +kernel)
theorem zk_411 : (Jvm.Cond.code ({ cls := "IslandRights", name := "hand", desc := "(IIIII)I" } : Jvm.MethodName) prog_1_method_10_code (7 : Nat) (Option.some Jvm.ClassFile.FieldType.int)) ∈ zw_A := zw_t (i := 411) (by decide +kernel) (by decide +kernel)
theorem zk_412 : (Jvm.Cond.methodLink "IslandRights" (164 : Nat) ({ cls := "IslandRights", name := "checkDifferent", desc := "(II)V" } : Jvm.MethodName)) ∈ zw_A := zw_t (i := 412) (by decide +kernel) (by decide +kernel)
theorem zk_413 : (Jvm.Cond.static ({ cls := "IslandRights", name := "checkDifferent", desc := "(II)V" } : Jvm.MethodName)) ∈ zw_A := zw_t (i := 413) (by decide +kernel) (by decide +kernel)
theorem zk_414 : (Jvm.Cond.code ({ cls := "IslandRights", name := "checkDifferent", desc := "(II)V" } : Jvm.MethodName) prog_1_method_28_code (2 : Nat) (Option.none : Option Jvm.ClassFile.FieldType)) ∈ zw_A := zw_t (i := 414) (by decide +kernel) (by decide +kernel)
theorem zk_416 : (Jvm.Cond.methodLink "IslandRights" (168 : Nat) ({ cls := "IslandRights", name := "laneOf", desc := "(II)LIslandRights$Lane;" } : Jvm.MethodName)) ∈ zw_A := zw_t (i := 416) (by decide +kernel) (by decide +kernel)
theorem zk_418 : (Jvm.Cond.instanceMethod ({ cls := "IslandRights", name := "laneOf", desc := "(II)LIslandRights$Lane;" } : Jvm.MethodName)) ∈ zw_A := zw_t (i := 418) (by decide +kernel) (by decide +kernel)
theorem zk_419 : (Jvm.Cond.code ({ cls := "IslandRights", name := "laneOf", desc := "(II)LIslandRights$Lane;" } : Jvm.MethodName) prog_1_method_32_code (3 : Nat) (Option.some (Jvm.ClassFile.FieldType.object "IslandRights$Lane"))) ∈ zw_A := zw_t (i := 419) (by decide +kernel) (by decide +kernel)
theorem zk_420 : (Jvm.Cond.methodLink "IslandRights" (172 : Nat) ({ cls := "IslandRights$Lane", name := "isFull", desc := "()Z" } : Jvm.MethodName)) ∈ zw_A := zw_t (i := 420) (by decide +kernel) (by decide +kernel)
theorem zk_421 : (Jvm.Cond.instanceMethod ({ cls := "IslandRights$Lane", name := "isFull", desc := "()Z" } : Jvm.MethodName)) ∈ zw_A := zw_t (i := 421) (by decide +kernel) (by decide +kernel)
theorem zk_422 : (Jvm.Cond.selects "IslandRights$Lane" ({ cls := "IslandRights$Lane", name := "isFull", desc := "()Z" } : Jvm.MethodName) ({ cls := "IslandRights$Lane", name := "isFull", desc := "()Z" } : Jvm.MethodName)) ∈ zw_A := zw_t (i := 422) (by decide +kernel) (by decide +kernel)
end
section
theorem zk_423 : (Jvm.Cond.code ({ cls := "IslandRights$Lane", name := "isFull", desc := "()Z" } : Jvm.MethodName) prog_3_method_3_code (1 : Nat) (Option.some Jvm.ClassFile.FieldType.boolean)) ∈ zw_A := zw_t (i := 423) (by decide +kernel) (by decide +kernel)
theorem zk_425 : (Jvm.Cond.methodLink "IslandRights" (178 : Nat) ({ cls := "IslandRights", name := "putInOutbox", desc := "(IIII)I" } : Jvm.MethodName)) ∈ zw_A := zw_t (i := 425) (by decide +kernel) (by decide +kernel)
theorem zk_427 : (Jvm.Cond.instanceMethod ({ cls := "IslandRights", name := "putInOutbox", desc := "(IIII)I" } : Jvm.MethodName)) ∈ zw_A := zw_t (i := 427) (by decide +kernel) (by decide +kernel)
theorem zk_428 : (Jvm.Cond.code ({ cls := "IslandRights", name := "putInOutbox", desc := "(IIII)I" } : Jvm.MethodName) prog_1_method_38_code (5 : Nat) (Option.some Jvm.ClassFile.FieldType.int)) ∈ zw_A := zw_t (i := 428) (by decide +kernel) (by decide +kernel)
theorem zk_429 : (Jvm.Cond.methodLink "IslandRights" (246 : Nat) ({ cls := "IslandRights$Lane", name := "add", desc := "(II)I" } : Jvm.MethodName)) ∈ zw_A := zw_t (i := 429) (by decide +kernel) (by decide +kernel)
theorem zk_430 : (Jvm.Cond.instanceMethod ({ cls := "IslandRights$Lane", name := "add", desc := "(II)I" } : Jvm.MethodName)) ∈ zw_A := zw_t (i := 430) (by decide +kernel) (by decide +kernel)
theorem zk_431 : (Jvm.Cond.selects "IslandRights$Lane" ({ cls := "IslandRights$Lane", name := "add", desc := "(II)I" } : Jvm.MethodName) ({ cls := "IslandRights$Lane", name := "add", desc := "(II)I" } : Jvm.MethodName)) ∈ zw_A := zw_t (i := 431) (by decide +kernel) (by decide +kernel)
theorem zk_432 : (Jvm.Cond.code ({ cls := "IslandRights$Lane", name := "add", desc := "(II)I" } : Jvm.MethodName) prog_3_method_4_code (4 : Nat) (Option.some Jvm.ClassFile.FieldType.int)) ∈ zw_A := zw_t (i := 432) (by decide +kernel) (by decide +kernel)
theorem zk_433 : (Jvm.Cond.methodLink "IslandRights$Lane" (40 : Nat) ({ cls := "IslandRights$Lane", name := "cellOf", desc := "(I)I" } : Jvm.MethodName)) ∈ zw_A := zw_t (i := 433) (by decide +kernel) (by decide +kernel)
theorem zk_434 : (Jvm.Cond.static ({ cls := "IslandRights$Lane", name := "cellOf", desc := "(I)I" } : Jvm.MethodName)) ∈ zw_A := zw_t (i := 434) (by decide +kernel) (by decide +kernel)
theorem zk_435 : (Jvm.Cond.code ({ cls := "IslandRights$Lane", name := "cellOf", desc := "(I)I" } : Jvm.MethodName) prog_3_method_2_code (1 : Nat) (Option.some Jvm.ClassFile.FieldType.int)) ∈ zw_A := zw_t (i := 435) (by decide +kernel) (by decide +kernel)
theorem zk_436 : (Jvm.Cond.methodLink "IslandRights$Lane" (34 : Nat) ({ cls := "java/lang/Math", name := "floorMod", desc := "(II)I" } : Jvm.MethodName)) ∈ zw_A := zw_t (i := 436) (by decide +kernel) (by decide +kernel)
theorem zk_438 : (Jvm.Cond.code ({ cls := "java/lang/Math", name := "floorMod", desc := "(II)I" } : Jvm.MethodName) prog_13_method_50_code (3 : Nat) (Option.some Jvm.ClassFile.FieldType.int)) ∈ zw_A := zw_t (i := 438) (by decide +kernel) (by decide +kernel)
theorem zk_439 : (Jvm.Cond.methodLink "IslandRightsLaw" (125 : Nat) ({ cls := "IslandRightsLaw", name := "share", desc := "(LIslandRights;III[J)I" } : Jvm.MethodName)) ∈ zw_A := zw_t (i := 439) (by decide +kernel) (by decide +kernel)
theorem zk_440 : (Jvm.Cond.static ({ cls := "IslandRightsLaw", name := "share", desc := "(LIslandRights;III[J)I" } : Jvm.MethodName)) ∈ zw_A := zw_t (i := 440) (by decide +kernel) (by decide +kernel)
theorem zk_442 : (Jvm.Cond.methodLink "IslandRightsLaw" (49 : Nat) ({ cls := "IslandRights", name := "share", desc := "(III)I" } : Jvm.MethodName)) ∈ zw_A := zw_t (i := 442) (by decide +kernel) (by decide +kernel)
theorem zk_443 : (Jvm.Cond.instanceMethod ({ cls := "IslandRights", name := "share", desc := "(III)I" } : Jvm.MethodName)) ∈ zw_A := zw_t (i := 443) (by decide +kernel) (by decide +kernel)
theorem zk_444 : (Jvm.Cond.selects "IslandRights" ({ cls := "IslandRights", name := "share", desc := "(III)I" } : Jvm.MethodName) ({ cls := "IslandRights", name := "share", desc := "(III)I" } : Jvm.MethodName)) ∈ zw_A := zw_t (i := 444) (by decide +kernel) (by decide +kernel)
theorem zk_445 : (Jvm.Cond.code ({ cls := "IslandRights", name := "share", desc := "(III)I" } : Jvm.MethodName) prog_1_method_11_code (8 : Nat) (Option.some Jvm.ClassFile.FieldType.int)) ∈ zw_A := zw_t (i := 445) (by decide +kernel) (by decide +kernel)
theorem zk_446 : (Jvm.Cond.methodLink "IslandRightsLaw" (128 : Nat) ({ cls := "IslandRightsLaw", name := "send", desc := "(LIslandRights;II[J)I" } : Jvm.MethodName)) ∈ zw_A := zw_t (i := 446) (by decide +kernel) (by decide +kernel)
theorem zk_447 : (Jvm.Cond.static ({ cls := "IslandRightsLaw", name := "send", desc := "(LIslandRights;II[J)I" } : Jvm.MethodName)) ∈ zw_A := zw_t (i := 447) (by decide +kernel) (by decide +kernel)
theorem zk_449 : (Jvm.Cond.methodLink "IslandRightsLaw" (52 : Nat) ({ cls := "IslandRights", name := "send", desc := "(II)I" } : Jvm.MethodName)) ∈ zw_A := zw_t (i := 449) (by decide +kernel) (by decide +kernel)
theorem zk_450 : (Jvm.Cond.instanceMethod ({ cls := "IslandRights", name := "send", desc := "(II)I" } : Jvm.MethodName)) ∈ zw_A := zw_t (i := 450) (by decide +kernel) (by decide +kernel)
theorem zk_451 : (Jvm.Cond.selects "IslandRights" ({ cls := "IslandRights", name := "send", desc := "(II)I" } : Jvm.MethodName) ({ cls := "IslandRights", name := "send", desc := "(II)I" } : Jvm.MethodName)) ∈ zw_A := zw_t (i := 451) (by decide +kernel) (by decide +kernel)
theorem zk_452 : (Jvm.Cond.code ({ cls := "IslandRights", name := "send", desc := "(II)I" } : Jvm.MethodName) prog_1_method_12_code (4 : Nat) (Option.some Jvm.ClassFile.FieldType.int)) ∈ zw_A := zw_t (i := 452) (by decide +kernel) (by decide +kernel)
theorem zk_453 : (Jvm.Cond.methodLink "IslandRights" (182 : Nat) ({ cls := "IslandRights", name := "checkTwoPorts", desc := "(II)V" } : Jvm.MethodName)) ∈ zw_A := zw_t (i := 453) (by decide +kernel) (by decide +kernel)
theorem zk_454 : (Jvm.Cond.static ({ cls := "IslandRights", name := "checkTwoPorts", desc := "(II)V" } : Jvm.MethodName)) ∈ zw_A := zw_t (i := 454) (by decide +kernel) (by decide +kernel)
theorem zk_455 : (Jvm.Cond.code ({ cls := "IslandRights", name := "checkTwoPorts", desc := "(II)V" } : Jvm.MethodName) prog_1_method_27_code (2 : Nat) (Option.none : Option Jvm.ClassFile.FieldType)) ∈ zw_A := zw_t (i := 455) (by decide +kernel) (by decide +kernel)
theorem zk_456 : (Jvm.Cond.methodLink "IslandRightsLaw" (131 : Nat) ({ cls := "IslandRightsLaw", name := "arrive", desc := "(LIslandRights;II[J)I" } : Jvm.MethodName)) ∈ zw_A := zw_t (i := 456) (by decide +kernel) (by decide +kernel)
theorem zk_457 : (Jvm.Cond.static ({ cls := "IslandRightsLaw", name := "arrive", desc := "(LIslandRights;II[J)I" } : Jvm.MethodName)) ∈ zw_A := zw_t (i := 457) (by decide +kernel) (by decide +kernel)
theorem zk_459 : (Jvm.Cond.methodLink "IslandRightsLaw" (55 : Nat) ({ cls := "IslandRights", name := "arrive", desc := "(II)I" } : Jvm.MethodName)) ∈ zw_A := zw_t (i := 459) (by decide +kernel) (by decide +kernel)
theorem zk_460 : (Jvm.Cond.instanceMethod ({ cls := "IslandRights", name := "arrive", desc := "(II)I" } : Jvm.MethodName)) ∈ zw_A := zw_t (i := 460) (by decide +kernel) (by decide +kernel)
theorem zk_461 : (Jvm.Cond.selects "IslandRights" ({ cls := "IslandRights", name := "arrive", desc := "(II)I" } : Jvm.MethodName) ({ cls := "IslandRights", name := "arrive", desc := "(II)I" } : Jvm.MethodName)) ∈ zw_A := zw_t (i := 461) (by decide +kernel) (by decide +kernel)
theorem zk_462 : (Jvm.Cond.code ({ cls := "IslandRights", name := "arrive", desc := "(II)I" } : Jvm.MethodName) prog_1_method_13_code (6 : Nat) (Option.some Jvm.ClassFile.FieldType.int)) ∈ zw_A := zw_t (i := 462) (by decide +kernel) (by decide +kernel)
theorem zk_463 : (Jvm.Cond.methodLink "IslandRights" (195 : Nat) ({ cls := "IslandRights", name := "takeNext", desc := "(LIslandRights$Lane;I)I" } : Jvm.MethodName)) ∈ zw_A := zw_t (i := 463) (by decide +kernel) (by decide +kernel)
theorem zk_465 : (Jvm.Cond.instanceMethod ({ cls := "IslandRights", name := "takeNext", desc := "(LIslandRights$Lane;I)I" } : Jvm.MethodName)) ∈ zw_A := zw_t (i := 465) (by decide +kernel) (by decide +kernel)
theorem zk_466 : (Jvm.Cond.code ({ cls := "IslandRights", name := "takeNext", desc := "(LIslandRights$Lane;I)I" } : Jvm.MethodName) prog_1_method_39_code (6 : Nat) (Option.some Jvm.ClassFile.FieldType.int)) ∈ zw_A := zw_t (i := 466) (by decide +kernel) (by decide +kernel)
theorem zk_467 : (Jvm.Cond.methodLink "IslandRights" (249 : Nat) ({ cls := "IslandRights$Lane", name := "cellOf", desc := "(I)I" } : Jvm.MethodName)) ∈ zw_A := zw_t (i := 467) (by decide +kernel) (by decide +kernel)
theorem zk_468 : (Jvm.Cond.methodLink "IslandRightsLaw" (134 : Nat) ({ cls := "IslandRightsLaw", name := "receipt", desc := "(LIslandRights;II[J)I" } : Jvm.MethodName)) ∈ zw_A := zw_t (i := 468) (by decide +kernel) (by decide +kernel)
theorem zk_469 : (Jvm.Cond.static ({ cls := "IslandRightsLaw", name := "receipt", desc := "(LIslandRights;II[J)I" } : Jvm.MethodName)) ∈ zw_A := zw_t (i := 469) (by decide +kernel) (by decide +kernel)
theorem zk_471 : (Jvm.Cond.methodLink "IslandRightsLaw" (58 : Nat) ({ cls := "IslandRights", name := "receipt", desc := "(II)I" } : Jvm.MethodName)) ∈ zw_A := zw_t (i := 471) (by decide +kernel) (by decide +kernel)
theorem zk_472 : (Jvm.Cond.instanceMethod ({ cls := "IslandRights", name := "receipt", desc := "(II)I" } : Jvm.MethodName)) ∈ zw_A := zw_t (i := 472) (by decide +kernel) (by decide +kernel)
theorem zk_473 : (Jvm.Cond.selects "IslandRights" ({ cls := "IslandRights", name := "receipt", desc := "(II)I" } : Jvm.MethodName) ({ cls := "IslandRights", name := "receipt", desc := "(II)I" } : Jvm.MethodName)) ∈ zw_A := zw_t (i := 473) (by decide +kernel) (by decide +kernel)
theorem zk_474 : (Jvm.Cond.code ({ cls := "IslandRights", name := "receipt", desc := "(II)I" } : Jvm.MethodName) prog_1_method_14_code (5 : Nat) (Option.some Jvm.ClassFile.FieldType.int)) ∈ zw_A := zw_t (i := 474) (by decide +kernel) (by decide +kernel)
theorem zk_475 : (Jvm.Cond.methodLink "IslandRights" (202 : Nat) ({ cls := "IslandRights$Lane", name := "removeUpTo", desc := "(I)I" } : Jvm.MethodName)) ∈ zw_A := zw_t (i := 475) (by decide +kernel) (by decide +kernel)
theorem zk_476 : (Jvm.Cond.instanceMethod ({ cls := "IslandRights$Lane", name := "removeUpTo", desc := "(I)I" } : Jvm.MethodName)) ∈ zw_A := zw_t (i := 476) (by decide +kernel) (by decide +kernel)
theorem zk_477 : (Jvm.Cond.selects "IslandRights$Lane" ({ cls := "IslandRights$Lane", name := "removeUpTo", desc := "(I)I" } : Jvm.MethodName) ({ cls := "IslandRights$Lane", name := "removeUpTo", desc := "(I)I" } : Jvm.MethodName)) ∈ zw_A := zw_t (i := 477) (by decide +kernel) (by decide +kernel)
theorem zk_478 : (Jvm.Cond.code ({ cls := "IslandRights$Lane", name := "removeUpTo", desc := "(I)I" } : Jvm.MethodName) prog_3_method_5_code (3 : Nat) (Option.some Jvm.ClassFile.FieldType.int)) ∈ zw_A := zw_t (i := 478) (by decide +kernel) (by decide +kernel)
theorem zk_479 : (Jvm.Cond.methodLink "IslandRightsLaw" (137 : Nat) ({ cls := "IslandRightsLaw", name := "lose", desc := "(LIslandRights;II[J)I" } : Jvm.MethodName)) ∈ zw_A := zw_t (i := 479) (by decide +kernel) (by decide +kernel)
theorem zk_480 : (Jvm.Cond.static ({ cls := "IslandRightsLaw", name := "lose", desc := "(LIslandRights;II[J)I" } : Jvm.MethodName)) ∈ zw_A := zw_t (i := 480) (by decide +kernel) (by decide +kernel)
theorem zk_482 : (Jvm.Cond.methodLink "IslandRightsLaw" (61 : Nat) ({ cls := "IslandRights", name := "lose", desc := "(II)I" } : Jvm.MethodName)) ∈ zw_A := zw_t (i := 482) (by decide +kernel) (by decide +kernel)
theorem zk_483 : (Jvm.Cond.instanceMethod ({ cls := "IslandRights", name := "lose", desc := "(II)I" } : Jvm.MethodName)) ∈ zw_A := zw_t (i := 483) (by decide +kernel) (by decide +kernel)
theorem zk_484 : (Jvm.Cond.selects "IslandRights" ({ cls := "IslandRights", name := "lose", desc := "(II)I" } : Jvm.MethodName) ({ cls := "IslandRights", name := "lose", desc := "(II)I" } : Jvm.MethodName)) ∈ zw_A := zw_t (i := 484) (by decide +kernel) (by decide +kernel)
theorem zk_485 : (Jvm.Cond.code ({ cls := "IslandRights", name := "lose", desc := "(II)I" } : Jvm.MethodName) prog_1_method_15_code (3 : Nat) (Option.some Jvm.ClassFile.FieldType.int)) ∈ zw_A := zw_t (i := 485) (by decide +kernel) (by decide +kernel)
theorem zk_486 : (Jvm.Cond.methodLink "IslandRights" (205 : Nat) ({ cls := "IslandRights$Lane", name := "loseAll", desc := "()I" } : Jvm.MethodName)) ∈ zw_A := zw_t (i := 486) (by decide +kernel) (by decide +kernel)
theorem zk_487 : (Jvm.Cond.instanceMethod ({ cls := "IslandRights$Lane", name := "loseAll", desc := "()I" } : Jvm.MethodName)) ∈ zw_A := zw_t (i := 487) (by decide +kernel) (by decide +kernel)
theorem zk_488 : (Jvm.Cond.selects "IslandRights$Lane" ({ cls := "IslandRights$Lane", name := "loseAll", desc := "()I" } : Jvm.MethodName) ({ cls := "IslandRights$Lane", name := "loseAll", desc := "()I" } : Jvm.MethodName)) ∈ zw_A := zw_t (i := 488) (by decide +kernel) (by decide +kernel)
theorem zk_489 : (Jvm.Cond.code ({ cls := "IslandRights$Lane", name := "loseAll", desc := "()I" } : Jvm.MethodName) prog_3_method_6_code (2 : Nat) (Option.some Jvm.ClassFile.FieldType.int)) ∈ zw_A := zw_t (i := 489) (by decide +kernel) (by decide +kernel)
theorem zk_490 : (Jvm.Cond.methodLink "IslandRightsLaw" (140 : Nat) ({ cls := "IslandRightsLaw", name := "crash", desc := "(LIslandRights;I[J)I" } : Jvm.MethodName)) ∈ zw_A := zw_t (i := 490) (by decide +kernel) (by decide +kernel)
theorem zk_491 : (Jvm.Cond.static ({ cls := "IslandRightsLaw", name := "crash", desc := "(LIslandRights;I[J)I" } : Jvm.MethodName)) ∈ zw_A := zw_t (i := 491) (by decide +kernel) (by decide +kernel)
theorem zk_493 : (Jvm.Cond.methodLink "IslandRightsLaw" (64 : Nat) ({ cls := "IslandRights", name := "crash", desc := "(I)I" } : Jvm.MethodName)) ∈ zw_A := zw_t (i := 493) (by decide +kernel) (by decide +kernel)
theorem zk_494 : (Jvm.Cond.instanceMethod ({ cls := "IslandRights", name := "crash", desc := "(I)I" } : Jvm.MethodName)) ∈ zw_A := zw_t (i := 494) (by decide +kernel) (by decide +kernel)
theorem zk_495 : (Jvm.Cond.selects "IslandRights" ({ cls := "IslandRights", name := "crash", desc := "(I)I" } : Jvm.MethodName) ({ cls := "IslandRights", name := "crash", desc := "(I)I" } : Jvm.MethodName)) ∈ zw_A := zw_t (i := 495) (by decide +kernel) (by decide +kernel)
theorem zk_496 : (Jvm.Cond.code ({ cls := "IslandRights", name := "crash", desc := "(I)I" } : Jvm.MethodName) prog_1_method_16_code (4 : Nat) (Option.some Jvm.ClassFile.FieldType.int)) ∈ zw_A := zw_t (i := 496) (by decide +kernel) (by decide +kernel)
theorem zk_497 : (Jvm.Cond.methodLink "IslandRightsLaw" (143 : Nat) ({ cls := "IslandRightsLaw", name := "rights", desc := "(LIslandRights;III[J)I" } : Jvm.MethodName)) ∈ zw_A := zw_t (i := 497) (by decide +kernel) (by decide +kernel)
theorem zk_498 : (Jvm.Cond.static ({ cls := "IslandRightsLaw", name := "rights", desc := "(LIslandRights;III[J)I" } : Jvm.MethodName)) ∈ zw_A := zw_t (i := 498) (by decide +kernel) (by decide +kernel)
theorem zk_500 : (Jvm.Cond.methodLink "IslandRightsLaw" (67 : Nat) ({ cls := "IslandRights", name := "rights", desc := "(III)I" } : Jvm.MethodName)) ∈ zw_A := zw_t (i := 500) (by decide +kernel) (by decide +kernel)
theorem zk_501 : (Jvm.Cond.instanceMethod ({ cls := "IslandRights", name := "rights", desc := "(III)I" } : Jvm.MethodName)) ∈ zw_A := zw_t (i := 501) (by decide +kernel) (by decide +kernel)
theorem zk_502 : (Jvm.Cond.selects "IslandRights" ({ cls := "IslandRights", name := "rights", desc := "(III)I" } : Jvm.MethodName) ({ cls := "IslandRights", name := "rights", desc := "(III)I" } : Jvm.MethodName)) ∈ zw_A := zw_t (i := 502) (by decide +kernel) (by decide +kernel)
theorem zk_503 : (Jvm.Cond.code ({ cls := "IslandRights", name := "rights", desc := "(III)I" } : Jvm.MethodName) prog_1_method_17_code (4 : Nat) (Option.some Jvm.ClassFile.FieldType.int)) ∈ zw_A := zw_t (i := 503) (by decide +kernel) (by decide +kernel)
theorem zk_504 : (Jvm.Cond.methodLink "IslandRightsLaw" (146 : Nat) ({ cls := "IslandRightsLaw", name := "air", desc := "(LIslandRights;II[J)I" } : Jvm.MethodName)) ∈ zw_A := zw_t (i := 504) (by decide +kernel) (by decide +kernel)
theorem zk_505 : (Jvm.Cond.static ({ cls := "IslandRightsLaw", name := "air", desc := "(LIslandRights;II[J)I" } : Jvm.MethodName)) ∈ zw_A := zw_t (i := 505) (by decide +kernel) (by decide +kernel)
theorem zk_507 : (Jvm.Cond.methodLink "IslandRightsLaw" (70 : Nat) ({ cls := "IslandRights", name := "air", desc := "(II)I" } : Jvm.MethodName)) ∈ zw_A := zw_t (i := 507) (by decide +kernel) (by decide +kernel)
theorem zk_508 : (Jvm.Cond.instanceMethod ({ cls := "IslandRights", name := "air", desc := "(II)I" } : Jvm.MethodName)) ∈ zw_A := zw_t (i := 508) (by decide +kernel) (by decide +kernel)
theorem zk_509 : (Jvm.Cond.selects "IslandRights" ({ cls := "IslandRights", name := "air", desc := "(II)I" } : Jvm.MethodName) ({ cls := "IslandRights", name := "air", desc := "(II)I" } : Jvm.MethodName)) ∈ zw_A := zw_t (i := 509) (by decide +kernel) (by decide +kernel)
theorem zk_510 : (Jvm.Cond.code ({ cls := "IslandRights", name := "air", desc := "(II)I" } : Jvm.MethodName) prog_1_method_18_code (3 : Nat) (Option.some Jvm.ClassFile.FieldType.int)) ∈ zw_A := zw_t (i := 510) (by decide +kernel) (by decide +kernel)
theorem zk_511 : (Jvm.Cond.methodLink "IslandRightsLaw" (149 : Nat) ({ cls := "IslandRightsLaw", name := "sold", desc := "(LIslandRights;II[J)I" } : Jvm.MethodName)) ∈ zw_A := zw_t (i := 511) (by decide +kernel) (by decide +kernel)
theorem zk_512 : (Jvm.Cond.static ({ cls := "IslandRightsLaw", name := "sold", desc := "(LIslandRights;II[J)I" } : Jvm.MethodName)) ∈ zw_A := zw_t (i := 512) (by decide +kernel) (by decide +kernel)
theorem zk_514 : (Jvm.Cond.methodLink "IslandRightsLaw" (73 : Nat) ({ cls := "IslandRights", name := "sold", desc := "(II)I" } : Jvm.MethodName)) ∈ zw_A := zw_t (i := 514) (by decide +kernel) (by decide +kernel)
theorem zk_515 : (Jvm.Cond.instanceMethod ({ cls := "IslandRights", name := "sold", desc := "(II)I" } : Jvm.MethodName)) ∈ zw_A := zw_t (i := 515) (by decide +kernel) (by decide +kernel)
theorem zk_516 : (Jvm.Cond.selects "IslandRights" ({ cls := "IslandRights", name := "sold", desc := "(II)I" } : Jvm.MethodName) ({ cls := "IslandRights", name := "sold", desc := "(II)I" } : Jvm.MethodName)) ∈ zw_A := zw_t (i := 516) (by decide +kernel) (by decide +kernel)
theorem zk_517 : (Jvm.Cond.code ({ cls := "IslandRights", name := "sold", desc := "(II)I" } : Jvm.MethodName) prog_1_method_19_code (3 : Nat) (Option.some Jvm.ClassFile.FieldType.int)) ∈ zw_A := zw_t (i := 517) (by decide +kernel) (by decide +kernel)
theorem zk_518 : (Jvm.Cond.methodLink "IslandRightsLaw" (152 : Nat) ({ cls := "IslandRightsLaw", name := "wishes", desc := "(LIslandRights;I[J)I" } : Jvm.MethodName)) ∈ zw_A := zw_t (i := 518) (by decide +kernel) (by decide +kernel)
theorem zk_519 : (Jvm.Cond.static ({ cls := "IslandRightsLaw", name := "wishes", desc := "(LIslandRights;I[J)I" } : Jvm.MethodName)) ∈ zw_A := zw_t (i := 519) (by decide +kernel) (by decide +kernel)
theorem zk_521 : (Jvm.Cond.methodLink "IslandRightsLaw" (76 : Nat) ({ cls := "IslandRights", name := "wishes", desc := "(I)I" } : Jvm.MethodName)) ∈ zw_A := zw_t (i := 521) (by decide +kernel) (by decide +kernel)
theorem zk_522 : (Jvm.Cond.instanceMethod ({ cls := "IslandRights", name := "wishes", desc := "(I)I" } : Jvm.MethodName)) ∈ zw_A := zw_t (i := 522) (by decide +kernel) (by decide +kernel)
theorem zk_523 : (Jvm.Cond.selects "IslandRights" ({ cls := "IslandRights", name := "wishes", desc := "(I)I" } : Jvm.MethodName) ({ cls := "IslandRights", name := "wishes", desc := "(I)I" } : Jvm.MethodName)) ∈ zw_A := zw_t (i := 523) (by decide +kernel) (by decide +kernel)
theorem zk_524 : (Jvm.Cond.code ({ cls := "IslandRights", name := "wishes", desc := "(I)I" } : Jvm.MethodName) prog_1_method_20_code (2 : Nat) (Option.some Jvm.ClassFile.FieldType.int)) ∈ zw_A := zw_t (i := 524) (by decide +kernel) (by decide +kernel)
theorem zk_525 : (Jvm.Cond.methodLink "IslandRightsLaw" (155 : Nat) ({ cls := "IslandRightsLaw", name := "till", desc := "(LIslandRights;I[J)I" } : Jvm.MethodName)) ∈ zw_A := zw_t (i := 525) (by decide +kernel) (by decide +kernel)
theorem zk_526 : (Jvm.Cond.static ({ cls := "IslandRightsLaw", name := "till", desc := "(LIslandRights;I[J)I" } : Jvm.MethodName)) ∈ zw_A := zw_t (i := 526) (by decide +kernel) (by decide +kernel)
theorem zk_528 : (Jvm.Cond.methodLink "IslandRightsLaw" (79 : Nat) ({ cls := "IslandRights", name := "till", desc := "(I)J" } : Jvm.MethodName)) ∈ zw_A := zw_t (i := 528) (by decide +kernel) (by decide +kernel)
theorem zk_529 : (Jvm.Cond.instanceMethod ({ cls := "IslandRights", name := "till", desc := "(I)J" } : Jvm.MethodName)) ∈ zw_A := zw_t (i := 529) (by decide +kernel) (by decide +kernel)
theorem zk_530 : (Jvm.Cond.selects "IslandRights" ({ cls := "IslandRights", name := "till", desc := "(I)J" } : Jvm.MethodName) ({ cls := "IslandRights", name := "till", desc := "(I)J" } : Jvm.MethodName)) ∈ zw_A := zw_t (i := 530) (by decide +kernel) (by decide +kernel)
theorem zk_531 : (Jvm.Cond.code ({ cls := "IslandRights", name := "till", desc := "(I)J" } : Jvm.MethodName) prog_1_method_21_code (2 : Nat) (Option.some Jvm.ClassFile.FieldType.long)) ∈ zw_A := zw_t (i := 531) (by decide +kernel) (by decide +kernel)
theorem zk_532 : (Jvm.Cond.classLink "IslandRightsLaw" (83 : Nat) "IslandRightsModel") ∈ zw_A := zw_t (i := 532) (by decide +kernel) (by decide +kernel)
theorem zk_533 : (Jvm.Cond.instantiable "IslandRightsModel" (28 : Nat)) ∈ zw_A := zw_t (i := 533) (by decide +kernel) (by decide +kernel)
theorem zk_534 : (Jvm.Cond.methodLink "IslandRightsLaw" (85 : Nat) ({ cls := "IslandRightsModel", name := "<init>", desc := "()V" } : Jvm.MethodName)) ∈ zw_A := zw_t (i := 534) (by decide +kernel) (by decide +kernel)
theorem zk_535 : (Jvm.Cond.instanceMethod ({ cls := "IslandRightsModel", name := "<init>", desc := "()V" } : Jvm.MethodName)) ∈ zw_A := zw_t (i := 535) (by decide +kernel) (by decide +kernel)
theorem zk_536 : (Jvm.Cond.code ({ cls := "IslandRightsModel", name := "<init>", desc := "()V" } : Jvm.MethodName) prog_8_method_1_code (2 : Nat) (Option.none : Option Jvm.ClassFile.FieldType)) ∈ zw_A := zw_t (i := 536) (by decide +kernel) (by decide +kernel)
theorem zk_537 : (Jvm.Cond.methodLink "IslandRightsModel" (1 : Nat) ({ cls := "java/lang/Object", name := "<init>", desc := "()V" } : Jvm.MethodName)) ∈ zw_A := zw_t (i := 537) (by decide +kernel) (by decide +kernel)
theorem zk_538 : (Jvm.Cond.fieldLink "IslandRightsModel" (87 : Nat) "IslandRightsModel" "fault" "I") ∈ zw_A := zw_t (i := 538) (by decide +kernel) (by decide +kernel)
theorem zk_539 : (Jvm.Cond.fieldLink "IslandRightsModel" (7 : Nat) "IslandRightsModel" "isOpen" "[Z") ∈ zw_A := zw_t (i := 539) (by decide +kernel) (by decide +kernel)
theorem zk_540 : (Jvm.Cond.fieldLink "IslandRightsModel" (13 : Nat) "IslandRightsModel" "fares" "[I") ∈ zw_A := zw_t (i := 540) (by decide +kernel) (by decide +kernel)
theorem zk_541 : (Jvm.Cond.fieldLink "IslandRightsModel" (17 : Nat) "IslandRightsModel" "right" "[I") ∈ zw_A := zw_t (i := 541) (by decide +kernel) (by decide +kernel)
theorem zk_542 : (Jvm.Cond.fieldLink "IslandRightsModel" (20 : Nat) "IslandRightsModel" "sailing" "[I") ∈ zw_A := zw_t (i := 542) (by decide +kernel) (by decide +kernel)
theorem zk_543 : (Jvm.Cond.fieldLink "IslandRightsModel" (23 : Nat) "IslandRightsModel" "from" "[I") ∈ zw_A := zw_t (i := 543) (by decide +kernel) (by decide +kernel)
theorem zk_544 : (Jvm.Cond.fieldLink "IslandRightsModel" (26 : Nat) "IslandRightsModel" "to" "[I") ∈ zw_A := zw_t (i := 544) (by decide +kernel) (by decide +kernel)
theorem zk_545 : (Jvm.Cond.fieldLink "IslandRightsModel" (99 : Nat) "IslandRightsModel" "drafted" "I") ∈ zw_A := zw_t (i := 545) (by decide +kernel) (by decide +kernel)
theorem zk_546 : (Jvm.Cond.fieldLink "IslandRightsModel" (110 : Nat) "IslandRightsModel" "tickets" "I") ∈ zw_A := zw_t (i := 546) (by decide +kernel) (by decide +kernel)
theorem zk_547 : (Jvm.Cond.fieldLink "IslandRightsModel" (29 : Nat) "IslandRightsModel" "portOf" "[I") ∈ zw_A := zw_t (i := 547) (by decide +kernel) (by decide +kernel)
theorem zk_548 : (Jvm.Cond.fieldLink "IslandRightsModel" (32 : Nat) "IslandRightsModel" "seatsOf" "[I") ∈ zw_A := zw_t (i := 548) (by decide +kernel) (by decide +kernel)
theorem zk_549 : (Jvm.Cond.fieldLink "IslandRightsModel" (35 : Nat) "IslandRightsModel" "partsOf" "[I") ∈ zw_A := zw_t (i := 549) (by decide +kernel) (by decide +kernel)
theorem zk_550 : (Jvm.Cond.fieldLink "IslandRightsModel" (38 : Nat) "IslandRightsModel" "priceOf" "[J") ∈ zw_A := zw_t (i := 550) (by decide +kernel) (by decide +kernel)
theorem zk_551 : (Jvm.Cond.fieldLink "IslandRightsModel" (42 : Nat) "IslandRightsModel" "isSold" "[Z") ∈ zw_A := zw_t (i := 551) (by decide +kernel) (by decide +kernel)
theorem zk_552 : (Jvm.Cond.fieldLink "IslandRightsModel" (45 : Nat) "IslandRightsModel" "tills" "[J") ∈ zw_A := zw_t (i := 552) (by decide +kernel) (by decide +kernel)
theorem zk_553 : (Jvm.Cond.fieldLink "IslandRightsModel" (48 : Nat) "IslandRightsModel" "waits" "[I") ∈ zw_A := zw_t (i := 553) (by decide +kernel) (by decide +kernel)
theorem zk_554 : (Jvm.Cond.fieldLink "IslandRightsModel" (51 : Nat) "IslandRightsModel" "wanted" "[I") ∈ zw_A := zw_t (i := 554) (by decide +kernel) (by decide +kernel)
theorem zk_555 : (Jvm.Cond.fieldLink "IslandRightsModel" (54 : Nat) "IslandRightsModel" "wantedParts" "[I") ∈ zw_A := zw_t (i := 555) (by decide +kernel) (by decide +kernel)
theorem zk_556 : (Jvm.Cond.fieldLink "IslandRightsModel" (57 : Nat) "IslandRightsModel" "numbers" "[I") ∈ zw_A := zw_t (i := 556) (by decide +kernel) (by decide +kernel)
theorem zk_557 : (Jvm.Cond.fieldLink "IslandRightsModel" (60 : Nat) "IslandRightsModel" "boxed" "[I") ∈ zw_A := zw_t (i := 557) (by decide +kernel) (by decide +kernel)
theorem zk_558 : (Jvm.Cond.fieldLink "IslandRightsModel" (63 : Nat) "IslandRightsModel" "word" "[I") ∈ zw_A := zw_t (i := 558) (by decide +kernel) (by decide +kernel)
theorem zk_559 : (Jvm.Cond.fieldLink "IslandRightsModel" (66 : Nat) "IslandRightsModel" "taken" "[I") ∈ zw_A := zw_t (i := 559) (by decide +kernel) (by decide +kernel)
theorem zk_560 : (Jvm.Cond.fieldLink "IslandRightsModel" (69 : Nat) "IslandRightsModel" "back" "[I") ∈ zw_A := zw_t (i := 560) (by decide +kernel) (by decide +kernel)
theorem zk_561 : (Jvm.Cond.fieldLink "IslandRightsModel" (72 : Nat) "IslandRightsModel" "number" "[I") ∈ zw_A := zw_t (i := 561) (by decide +kernel) (by decide +kernel)
theorem zk_562 : (Jvm.Cond.fieldLink "IslandRightsModel" (75 : Nat) "IslandRightsModel" "legOf" "[I") ∈ zw_A := zw_t (i := 562) (by decide +kernel) (by decide +kernel)
theorem zk_563 : (Jvm.Cond.fieldLink "IslandRightsModel" (78 : Nat) "IslandRightsModel" "many" "[I") ∈ zw_A := zw_t (i := 563) (by decide +kernel) (by decide +kernel)
theorem zk_564 : (Jvm.Cond.fieldLink "IslandRightsModel" (81 : Nat) "IslandRightsModel" "wordLeg" "[I") ∈ zw_A := zw_t (i := 564) (by decide +kernel) (by decide +kernel)
theorem zk_565 : (Jvm.Cond.fieldLink "IslandRightsModel" (84 : Nat) "IslandRightsModel" "wordMany" "[I") ∈ zw_A := zw_t (i := 565) (by decide +kernel) (by decide +kernel)
theorem zk_566 : (Jvm.Cond.lays "IslandRightsModel" "IslandRightsModel" "fault" "I") ∈ zw_A := zw_t (i := 566) (by decide +kernel) (by decide +kernel)
theorem zk_567 : (Jvm.Cond.soleField "IslandRightsModel" "fault") ∈ zw_A := zw_t (i := 567) (by decide +kernel) (by decide +kernel)
theorem zk_568 : (Jvm.Cond.laysFinal "IslandRightsModel" "IslandRightsModel" "isOpen" "[Z") ∈ zw_A := zw_t (i := 568) (by decide +kernel) (by decide +kernel)
theorem zk_569 : (Jvm.Cond.soleField "IslandRightsModel" "isOpen") ∈ zw_A := zw_t (i := 569) (by decide +kernel) (by decide +kernel)
theorem zk_570 : (Jvm.Cond.laysFinal "IslandRightsModel" "IslandRightsModel" "fares" "[I") ∈ zw_A := zw_t (i := 570) (by decide +kernel) (by decide +kernel)
theorem zk_571 : (Jvm.Cond.soleField "IslandRightsModel" "fares") ∈ zw_A := zw_t (i := 571) (by decide +kernel) (by decide +kernel)
theorem zk_572 : (Jvm.Cond.laysFinal "IslandRightsModel" "IslandRightsModel" "right" "[I") ∈ zw_A := zw_t (i := 572) (by decide +kernel) (by decide +kernel)
theorem zk_573 : (Jvm.Cond.soleField "IslandRightsModel" "right") ∈ zw_A := zw_t (i := 573) (by decide +kernel) (by decide +kernel)
theorem zk_574 : (Jvm.Cond.laysFinal "IslandRightsModel" "IslandRightsModel" "sailing" "[I") ∈ zw_A := zw_t (i := 574) (by decide +kernel) (by decide +kernel)
theorem zk_575 : (Jvm.Cond.soleField "IslandRightsModel" "sailing") ∈ zw_A := zw_t (i := 575) (by decide +kernel) (by decide +kernel)
theorem zk_576 : (Jvm.Cond.laysFinal "IslandRightsModel" "IslandRightsModel" "from" "[I") ∈ zw_A := zw_t (i := 576) (by decide +kernel) (by decide +kernel)
theorem zk_577 : (Jvm.Cond.soleField "IslandRightsModel" "from") ∈ zw_A := zw_t (i := 577) (by decide +kernel) (by decide +kernel)
theorem zk_578 : (Jvm.Cond.laysFinal "IslandRightsModel" "IslandRightsModel" "to" "[I") ∈ zw_A := zw_t (i := 578) (by decide +kernel) (by decide +kernel)
theorem zk_579 : (Jvm.Cond.soleField "IslandRightsModel" "to") ∈ zw_A := zw_t (i := 579) (by decide +kernel) (by decide +kernel)
theorem zk_580 : (Jvm.Cond.lays "IslandRightsModel" "IslandRightsModel" "drafted" "I") ∈ zw_A := zw_t (i := 580) (by decide +kernel) (by decide +kernel)
theorem zk_581 : (Jvm.Cond.soleField "IslandRightsModel" "drafted") ∈ zw_A := zw_t (i := 581) (by decide +kernel) (by decide +kernel)
theorem zk_582 : (Jvm.Cond.lays "IslandRightsModel" "IslandRightsModel" "tickets" "I") ∈ zw_A := zw_t (i := 582) (by decide +kernel) (by decide +kernel)
theorem zk_583 : (Jvm.Cond.soleField "IslandRightsModel" "tickets") ∈ zw_A := zw_t (i := 583) (by decide +kernel) (by decide +kernel)
theorem zk_584 : (Jvm.Cond.laysFinal "IslandRightsModel" "IslandRightsModel" "portOf" "[I") ∈ zw_A := zw_t (i := 584) (by decide +kernel) (by decide +kernel)
theorem zk_585 : (Jvm.Cond.soleField "IslandRightsModel" "portOf") ∈ zw_A := zw_t (i := 585) (by decide +kernel) (by decide +kernel)
theorem zk_586 : (Jvm.Cond.laysFinal "IslandRightsModel" "IslandRightsModel" "seatsOf" "[I") ∈ zw_A := zw_t (i := 586) (by decide +kernel) (by decide +kernel)
theorem zk_587 : (Jvm.Cond.soleField "IslandRightsModel" "seatsOf") ∈ zw_A := zw_t (i := 587) (by decide +kernel) (by decide +kernel)
theorem zk_588 : (Jvm.Cond.laysFinal "IslandRightsModel" "IslandRightsModel" "partsOf" "[I") ∈ zw_A := zw_t (i := 588) (by decide +kernel) (by decide +kernel)
theorem zk_589 : (Jvm.Cond.soleField "IslandRightsModel" "partsOf") ∈ zw_A := zw_t (i := 589) (by decide +kernel) (by decide +kernel)
theorem zk_590 : (Jvm.Cond.laysFinal "IslandRightsModel" "IslandRightsModel" "priceOf" "[J") ∈ zw_A := zw_t (i := 590) (by decide +kernel) (by decide +kernel)
theorem zk_591 : (Jvm.Cond.soleField "IslandRightsModel" "priceOf") ∈ zw_A := zw_t (i := 591) (by decide +kernel) (by decide +kernel)
theorem zk_592 : (Jvm.Cond.laysFinal "IslandRightsModel" "IslandRightsModel" "isSold" "[Z") ∈ zw_A := zw_t (i := 592) (by decide +kernel) (by decide +kernel)
theorem zk_593 : (Jvm.Cond.soleField "IslandRightsModel" "isSold") ∈ zw_A := zw_t (i := 593) (by decide +kernel) (by decide +kernel)
theorem zk_594 : (Jvm.Cond.laysFinal "IslandRightsModel" "IslandRightsModel" "tills" "[J") ∈ zw_A := zw_t (i := 594) (by decide +kernel) (by decide +kernel)
theorem zk_595 : (Jvm.Cond.soleField "IslandRightsModel" "tills") ∈ zw_A := zw_t (i := 595) (by decide +kernel) (by decide +kernel)
theorem zk_596 : (Jvm.Cond.laysFinal "IslandRightsModel" "IslandRightsModel" "waits" "[I") ∈ zw_A := zw_t (i := 596) (by decide +kernel) (by decide +kernel)
theorem zk_597 : (Jvm.Cond.soleField "IslandRightsModel" "waits") ∈ zw_A := zw_t (i := 597) (by decide +kernel) (by decide +kernel)
theorem zk_598 : (Jvm.Cond.laysFinal "IslandRightsModel" "IslandRightsModel" "wanted" "[I") ∈ zw_A := zw_t (i := 598) (by decide +kernel) (by decide +kernel)
theorem zk_599 : (Jvm.Cond.soleField "IslandRightsModel" "wanted") ∈ zw_A := zw_t (i := 599) (by decide +kernel) (by decide +kernel)
theorem zk_600 : (Jvm.Cond.laysFinal "IslandRightsModel" "IslandRightsModel" "wantedParts" "[I") ∈ zw_A := zw_t (i := 600) (by decide +kernel) (by decide +kernel)
theorem zk_601 : (Jvm.Cond.soleField "IslandRightsModel" "wantedParts") ∈ zw_A := zw_t (i := 601) (by decide +kernel) (by decide +kernel)
theorem zk_602 : (Jvm.Cond.laysFinal "IslandRightsModel" "IslandRightsModel" "numbers" "[I") ∈ zw_A := zw_t (i := 602) (by decide +kernel) (by decide +kernel)
theorem zk_603 : (Jvm.Cond.soleField "IslandRightsModel" "numbers") ∈ zw_A := zw_t (i := 603) (by decide +kernel) (by decide +kernel)
theorem zk_604 : (Jvm.Cond.laysFinal "IslandRightsModel" "IslandRightsModel" "boxed" "[I") ∈ zw_A := zw_t (i := 604) (by decide +kernel) (by decide +kernel)
theorem zk_605 : (Jvm.Cond.soleField "IslandRightsModel" "boxed") ∈ zw_A := zw_t (i := 605) (by decide +kernel) (by decide +kernel)
theorem zk_606 : (Jvm.Cond.laysFinal "IslandRightsModel" "IslandRightsModel" "word" "[I") ∈ zw_A := zw_t (i := 606) (by decide +kernel) (by decide +kernel)
theorem zk_607 : (Jvm.Cond.soleField "IslandRightsModel" "word") ∈ zw_A := zw_t (i := 607) (by decide +kernel) (by decide +kernel)
theorem zk_608 : (Jvm.Cond.laysFinal "IslandRightsModel" "IslandRightsModel" "taken" "[I") ∈ zw_A := zw_t (i := 608) (by decide +kernel) (by decide +kernel)
theorem zk_609 : (Jvm.Cond.soleField "IslandRightsModel" "taken") ∈ zw_A := zw_t (i := 609) (by decide +kernel) (by decide +kernel)
theorem zk_610 : (Jvm.Cond.laysFinal "IslandRightsModel" "IslandRightsModel" "back" "[I") ∈ zw_A := zw_t (i := 610) (by decide +kernel) (by decide +kernel)
theorem zk_611 : (Jvm.Cond.soleField "IslandRightsModel" "back") ∈ zw_A := zw_t (i := 611) (by decide +kernel) (by decide +kernel)
theorem zk_612 : (Jvm.Cond.laysFinal "IslandRightsModel" "IslandRightsModel" "number" "[I") ∈ zw_A := zw_t (i := 612) (by decide +kernel) (by decide +kernel)
theorem zk_613 : (Jvm.Cond.soleField "IslandRightsModel" "number") ∈ zw_A := zw_t (i := 613) (by decide +kernel) (by decide +kernel)
theorem zk_614 : (Jvm.Cond.laysFinal "IslandRightsModel" "IslandRightsModel" "legOf" "[I") ∈ zw_A := zw_t (i := 614) (by decide +kernel) (by decide +kernel)
theorem zk_615 : (Jvm.Cond.soleField "IslandRightsModel" "legOf") ∈ zw_A := zw_t (i := 615) (by decide +kernel) (by decide +kernel)
theorem zk_616 : (Jvm.Cond.laysFinal "IslandRightsModel" "IslandRightsModel" "many" "[I") ∈ zw_A := zw_t (i := 616) (by decide +kernel) (by decide +kernel)
theorem zk_617 : (Jvm.Cond.soleField "IslandRightsModel" "many") ∈ zw_A := zw_t (i := 617) (by decide +kernel) (by decide +kernel)
theorem zk_618 : (Jvm.Cond.laysFinal "IslandRightsModel" "IslandRightsModel" "wordLeg" "[I") ∈ zw_A := zw_t (i := 618) (by decide +kernel) (by decide +kernel)
theorem zk_619 : (Jvm.Cond.soleField "IslandRightsModel" "wordLeg") ∈ zw_A := zw_t (i := 619) (by decide +kernel) (by decide +kernel)
theorem zk_620 : (Jvm.Cond.laysFinal "IslandRightsModel" "IslandRightsModel" "wordMany" "[I") ∈ zw_A := zw_t (i := 620) (by decide +kernel) (by decide +kernel)
theorem zk_621 : (Jvm.Cond.soleField "IslandRightsModel" "wordMany") ∈ zw_A := zw_t (i := 621) (by decide +kernel) (by decide +kernel)
theorem zk_622 : (Jvm.Cond.superclass "IslandRightsModel" "java/lang/Object") ∈ zw_A := zw_t (i := 622) (by decide +kernel) (by decide +kernel)
theorem zk_623 : (Jvm.Cond.arrayClass Jvm.ClassFile.FieldType.long) ∈ zw_A := zw_t (i := 623) (by decide +kernel) (by decide +kernel)
theorem zk_624 : (Jvm.Cond.methodLink "IslandRightsLaw" (92 : Nat) ({ cls := "IslandRightsModel", name := "thrown", desc := "()I" } : Jvm.MethodName)) ∈ zw_A := zw_t (i := 624) (by decide +kernel) (by decide +kernel)
theorem zk_625 : (Jvm.Cond.instanceMethod ({ cls := "IslandRightsModel", name := "thrown", desc := "()I" } : Jvm.MethodName)) ∈ zw_A := zw_t (i := 625) (by decide +kernel) (by decide +kernel)
theorem zk_626 : (Jvm.Cond.selects "IslandRightsModel" ({ cls := "IslandRightsModel", name := "thrown", desc := "()I" } : Jvm.MethodName) ({ cls := "IslandRightsModel", name := "thrown", desc := "()I" } : Jvm.MethodName)) ∈ zw_A := zw_t (i := 626) (by decide +kernel) (by decide +kernel)
theorem zk_627 : (Jvm.Cond.code ({ cls := "IslandRightsModel", name := "thrown", desc := "()I" } : Jvm.MethodName) prog_8_method_2_code (1 : Nat) (Option.some Jvm.ClassFile.FieldType.int)) ∈ zw_A := zw_t (i := 627) (by decide +kernel) (by decide +kernel)
theorem zk_628 : (Jvm.Cond.methodLink "IslandRightsLaw" (91 : Nat) ({ cls := "IslandRightsModel", name := "open", desc := "(II)V" } : Jvm.MethodName)) ∈ zw_A := zw_t (i := 628) (by decide +kernel) (by decide +kernel)
theorem zk_629 : (Jvm.Cond.instanceMethod ({ cls := "IslandRightsModel", name := "open", desc := "(II)V" } : Jvm.MethodName)) ∈ zw_A := zw_t (i := 629) (by decide +kernel) (by decide +kernel)
theorem zk_630 : (Jvm.Cond.selects "IslandRightsModel" ({ cls := "IslandRightsModel", name := "open", desc := "(II)V" } : Jvm.MethodName) ({ cls := "IslandRightsModel", name := "open", desc := "(II)V" } : Jvm.MethodName)) ∈ zw_A := zw_t (i := 630) (by decide +kernel) (by decide +kernel)
theorem zk_631 : (Jvm.Cond.code ({ cls := "IslandRightsModel", name := "open", desc := "(II)V" } : Jvm.MethodName) prog_8_method_5_code (4 : Nat) (Option.none : Option Jvm.ClassFile.FieldType)) ∈ zw_A := zw_t (i := 631) (by decide +kernel) (by decide +kernel)
theorem zk_632 : (Jvm.Cond.methodLink "IslandRightsModel" (91 : Nat) ({ cls := "IslandRightsModel", name := "isFour", desc := "(I)Z" } : Jvm.MethodName)) ∈ zw_A := zw_t (i := 632) (by decide +kernel) (by decide +kernel)
theorem zk_633 : (Jvm.Cond.static ({ cls := "IslandRightsModel", name := "isFour", desc := "(I)Z" } : Jvm.MethodName)) ∈ zw_A := zw_t (i := 633) (by decide +kernel) (by decide +kernel)
theorem zk_634 : (Jvm.Cond.code ({ cls := "IslandRightsModel", name := "isFour", desc := "(I)Z" } : Jvm.MethodName) prog_8_method_4_code (1 : Nat) (Option.some Jvm.ClassFile.FieldType.boolean)) ∈ zw_A := zw_t (i := 634) (by decide +kernel) (by decide +kernel)
theorem zk_635 : (Jvm.Cond.methodLink "IslandRightsModel" (95 : Nat) ({ cls := "IslandRightsModel", name := "refused", desc := "(I)Z" } : Jvm.MethodName)) ∈ zw_A := zw_t (i := 635) (by decide +kernel) (by decide +kernel)
theorem zk_637 : (Jvm.Cond.instanceMethod ({ cls := "IslandRightsModel", name := "refused", desc := "(I)Z" } : Jvm.MethodName)) ∈ zw_A := zw_t (i := 637) (by decide +kernel) (by decide +kernel)
theorem zk_638 : (Jvm.Cond.code ({ cls := "IslandRightsModel", name := "refused", desc := "(I)Z" } : Jvm.MethodName) prog_8_method_3_code (2 : Nat) (Option.some Jvm.ClassFile.FieldType.boolean)) ∈ zw_A := zw_t (i := 638) (by decide +kernel) (by decide +kernel)
theorem zk_639 : (Jvm.Cond.methodLink "IslandRightsLaw" (99 : Nat) ({ cls := "IslandRightsModel", name := "fare", desc := "(III)V" } : Jvm.MethodName)) ∈ zw_A := zw_t (i := 639) (by decide +kernel) (by decide +kernel)
theorem zk_640 : (Jvm.Cond.instanceMethod ({ cls := "IslandRightsModel", name := "fare", desc := "(III)V" } : Jvm.MethodName)) ∈ zw_A := zw_t (i := 640) (by decide +kernel) (by decide +kernel)
theorem zk_641 : (Jvm.Cond.selects "IslandRightsModel" ({ cls := "IslandRightsModel", name := "fare", desc := "(III)V" } : Jvm.MethodName) ({ cls := "IslandRightsModel", name := "fare", desc := "(III)V" } : Jvm.MethodName)) ∈ zw_A := zw_t (i := 641) (by decide +kernel) (by decide +kernel)
theorem zk_642 : (Jvm.Cond.code ({ cls := "IslandRightsModel", name := "fare", desc := "(III)V" } : Jvm.MethodName) prog_8_method_6_code (4 : Nat) (Option.none : Option Jvm.ClassFile.FieldType)) ∈ zw_A := zw_t (i := 642) (by decide +kernel) (by decide +kernel)
theorem zk_643 : (Jvm.Cond.constant "IslandRightsModel" (98 : Nat) (1000000000 : Int32)) ∈ zw_A := zw_t (i := 643) (by decide +kernel) (by decide +kernel)
theorem zk_644 : (Jvm.Cond.methodLink "IslandRightsLaw" (103 : Nat) ({ cls := "IslandRightsModel", name := "part", desc := "(III)I" } : Jvm.MethodName)) ∈ zw_A := zw_t (i := 644) (by decide +kernel) (by decide +kernel)
theorem zk_645 : (Jvm.Cond.instanceMethod ({ cls := "IslandRightsModel", name := "part", desc := "(III)I" } : Jvm.MethodName)) ∈ zw_A := zw_t (i := 645) (by decide +kernel) (by decide +kernel)
theorem zk_646 : (Jvm.Cond.selects "IslandRightsModel" ({ cls := "IslandRightsModel", name := "part", desc := "(III)I" } : Jvm.MethodName) ({ cls := "IslandRightsModel", name := "part", desc := "(III)I" } : Jvm.MethodName)) ∈ zw_A := zw_t (i := 646) (by decide +kernel) (by decide +kernel)
theorem zk_647 : (Jvm.Cond.code ({ cls := "IslandRightsModel", name := "part", desc := "(III)I" } : Jvm.MethodName) prog_8_method_7_code (5 : Nat) (Option.some Jvm.ClassFile.FieldType.int)) ∈ zw_A := zw_t (i := 647) (by decide +kernel) (by decide +kernel)
theorem zk_648 : (Jvm.Cond.methodLink "IslandRightsLaw" (107 : Nat) ({ cls := "IslandRightsModel", name := "buy", desc := "(II)I" } : Jvm.MethodName)) ∈ zw_A := zw_t (i := 648) (by decide +kernel) (by decide +kernel)
theorem zk_649 : (Jvm.Cond.instanceMethod ({ cls := "IslandRightsModel", name := "buy", desc := "(II)I" } : Jvm.MethodName)) ∈ zw_A := zw_t (i := 649) (by decide +kernel) (by decide +kernel)
theorem zk_650 : (Jvm.Cond.selects "IslandRightsModel" ({ cls := "IslandRightsModel", name := "buy", desc := "(II)I" } : Jvm.MethodName) ({ cls := "IslandRightsModel", name := "buy", desc := "(II)I" } : Jvm.MethodName)) ∈ zw_A := zw_t (i := 650) (by decide +kernel) (by decide +kernel)
theorem zk_651 : (Jvm.Cond.code ({ cls := "IslandRightsModel", name := "buy", desc := "(II)I" } : Jvm.MethodName) prog_8_method_14_code (4 : Nat) (Option.some Jvm.ClassFile.FieldType.int)) ∈ zw_A := zw_t (i := 651) (by decide +kernel) (by decide +kernel)
theorem zk_652 : (Jvm.Cond.methodLink "IslandRightsModel" (117 : Nat) ({ cls := "IslandRightsModel", name := "fits", desc := "(IIII)Z" } : Jvm.MethodName)) ∈ zw_A := zw_t (i := 652) (by decide +kernel) (by decide +kernel)
theorem zk_654 : (Jvm.Cond.instanceMethod ({ cls := "IslandRightsModel", name := "fits", desc := "(IIII)Z" } : Jvm.MethodName)) ∈ zw_A := zw_t (i := 654) (by decide +kernel) (by decide +kernel)
theorem zk_655 : (Jvm.Cond.code ({ cls := "IslandRightsModel", name := "fits", desc := "(IIII)Z" } : Jvm.MethodName) prog_8_method_9_code (7 : Nat) (Option.some Jvm.ClassFile.FieldType.boolean)) ∈ zw_A := zw_t (i := 655) (by decide +kernel) (by decide +kernel)
theorem zk_656 : (Jvm.Cond.methodLink "IslandRightsModel" (102 : Nat) ({ cls := "IslandRightsModel", name := "lies", desc := "(III)I" } : Jvm.MethodName)) ∈ zw_A := zw_t (i := 656) (by decide +kernel) (by decide +kernel)
theorem zk_658 : (Jvm.Cond.instanceMethod ({ cls := "IslandRightsModel", name := "lies", desc := "(III)I" } : Jvm.MethodName)) ∈ zw_A := zw_t (i := 658) (by decide +kernel) (by decide +kernel)
theorem zk_659 : (Jvm.Cond.code ({ cls := "IslandRightsModel", name := "lies", desc := "(III)I" } : Jvm.MethodName) prog_8_method_8_code (6 : Nat) (Option.some Jvm.ClassFile.FieldType.int)) ∈ zw_A := zw_t (i := 659) (by decide +kernel) (by decide +kernel)
theorem zk_660 : (Jvm.Cond.methodLink "IslandRightsModel" (121 : Nat) ({ cls := "IslandRightsModel", name := "sell", desc := "(IIII)I" } : Jvm.MethodName)) ∈ zw_A := zw_t (i := 660) (by decide +kernel) (by decide +kernel)
theorem zk_662 : (Jvm.Cond.instanceMethod ({ cls := "IslandRightsModel", name := "sell", desc := "(IIII)I" } : Jvm.MethodName)) ∈ zw_A := zw_t (i := 662) (by decide +kernel) (by decide +kernel)
theorem zk_663 : (Jvm.Cond.code ({ cls := "IslandRightsModel", name := "sell", desc := "(IIII)I" } : Jvm.MethodName) prog_8_method_12_code (8 : Nat) (Option.some Jvm.ClassFile.FieldType.int)) ∈ zw_A := zw_t (i := 663) (by decide +kernel) (by decide +kernel)
theorem zk_664 : (Jvm.Cond.methodLink "IslandRightsModel" (106 : Nat) ({ cls := "IslandRightsModel", name := "give", desc := "(IIII)V" } : Jvm.MethodName)) ∈ zw_A := zw_t (i := 664) (by decide +kernel) (by decide +kernel)
theorem zk_666 : (Jvm.Cond.instanceMethod ({ cls := "IslandRightsModel", name := "give", desc := "(IIII)V" } : Jvm.MethodName)) ∈ zw_A := zw_t (i := 666) (by decide +kernel) (by decide +kernel)
theorem zk_667 : (Jvm.Cond.code ({ cls := "IslandRightsModel", name := "give", desc := "(IIII)V" } : Jvm.MethodName) prog_8_method_10_code (6 : Nat) (Option.none : Option Jvm.ClassFile.FieldType)) ∈ zw_A := zw_t (i := 667) (by decide +kernel) (by decide +kernel)
theorem zk_668 : (Jvm.Cond.methodLink "IslandRightsModel" (113 : Nat) ({ cls := "IslandRightsModel", name := "copy", desc := "(III)V" } : Jvm.MethodName)) ∈ zw_A := zw_t (i := 668) (by decide +kernel) (by decide +kernel)
theorem zk_670 : (Jvm.Cond.instanceMethod ({ cls := "IslandRightsModel", name := "copy", desc := "(III)V" } : Jvm.MethodName)) ∈ zw_A := zw_t (i := 670) (by decide +kernel) (by decide +kernel)
theorem zk_671 : (Jvm.Cond.code ({ cls := "IslandRightsModel", name := "copy", desc := "(III)V" } : Jvm.MethodName) prog_8_method_11_code (5 : Nat) (Option.none : Option Jvm.ClassFile.FieldType)) ∈ zw_A := zw_t (i := 671) (by decide +kernel) (by decide +kernel)
theorem zk_672 : (Jvm.Cond.methodLink "IslandRightsLaw" (110 : Nat) ({ cls := "IslandRightsModel", name := "wish", desc := "(II)I" } : Jvm.MethodName)) ∈ zw_A := zw_t (i := 672) (by decide +kernel) (by decide +kernel)
theorem zk_673 : (Jvm.Cond.instanceMethod ({ cls := "IslandRightsModel", name := "wish", desc := "(II)I" } : Jvm.MethodName)) ∈ zw_A := zw_t (i := 673) (by decide +kernel) (by decide +kernel)
theorem zk_674 : (Jvm.Cond.selects "IslandRightsModel" ({ cls := "IslandRightsModel", name := "wish", desc := "(II)I" } : Jvm.MethodName) ({ cls := "IslandRightsModel", name := "wish", desc := "(II)I" } : Jvm.MethodName)) ∈ zw_A := zw_t (i := 674) (by decide +kernel) (by decide +kernel)
theorem zk_675 : (Jvm.Cond.code ({ cls := "IslandRightsModel", name := "wish", desc := "(II)I" } : Jvm.MethodName) prog_8_method_15_code (4 : Nat) (Option.some Jvm.ClassFile.FieldType.int)) ∈ zw_A := zw_t (i := 675) (by decide +kernel) (by decide +kernel)
theorem zk_676 : (Jvm.Cond.methodLink "IslandRightsModel" (125 : Nat) ({ cls := "IslandRightsModel", name := "serve", desc := "(I)I" } : Jvm.MethodName)) ∈ zw_A := zw_t (i := 676) (by decide +kernel) (by decide +kernel)
theorem zk_678 : (Jvm.Cond.instanceMethod ({ cls := "IslandRightsModel", name := "serve", desc := "(I)I" } : Jvm.MethodName)) ∈ zw_A := zw_t (i := 678) (by decide +kernel) (by decide +kernel)
theorem zk_679 : (Jvm.Cond.code ({ cls := "IslandRightsModel", name := "serve", desc := "(I)I" } : Jvm.MethodName) prog_8_method_13_code (9 : Nat) (Option.some Jvm.ClassFile.FieldType.int)) ∈ zw_A := zw_t (i := 679) (by decide +kernel) (by decide +kernel)
theorem zk_680 : (Jvm.Cond.methodLink "IslandRightsLaw" (114 : Nat) ({ cls := "IslandRightsModel", name := "cancel", desc := "(I)I" } : Jvm.MethodName)) ∈ zw_A := zw_t (i := 680) (by decide +kernel) (by decide +kernel)
theorem zk_681 : (Jvm.Cond.instanceMethod ({ cls := "IslandRightsModel", name := "cancel", desc := "(I)I" } : Jvm.MethodName)) ∈ zw_A := zw_t (i := 681) (by decide +kernel) (by decide +kernel)
theorem zk_682 : (Jvm.Cond.selects "IslandRightsModel" ({ cls := "IslandRightsModel", name := "cancel", desc := "(I)I" } : Jvm.MethodName) ({ cls := "IslandRightsModel", name := "cancel", desc := "(I)I" } : Jvm.MethodName)) ∈ zw_A := zw_t (i := 682) (by decide +kernel) (by decide +kernel)
theorem zk_683 : (Jvm.Cond.code ({ cls := "IslandRightsModel", name := "cancel", desc := "(I)I" } : Jvm.MethodName) prog_8_method_17_code (2 : Nat) (Option.some Jvm.ClassFile.FieldType.int)) ∈ zw_A := zw_t (i := 683) (by decide +kernel) (by decide +kernel)
theorem zk_684 : (Jvm.Cond.methodLink "IslandRightsModel" (129 : Nat) ({ cls := "IslandRightsModel", name := "isTicket", desc := "(I)Z" } : Jvm.MethodName)) ∈ zw_A := zw_t (i := 684) (by decide +kernel) (by decide +kernel)
theorem zk_686 : (Jvm.Cond.instanceMethod ({ cls := "IslandRightsModel", name := "isTicket", desc := "(I)Z" } : Jvm.MethodName)) ∈ zw_A := zw_t (i := 686) (by decide +kernel) (by decide +kernel)
theorem zk_687 : (Jvm.Cond.code ({ cls := "IslandRightsModel", name := "isTicket", desc := "(I)Z" } : Jvm.MethodName) prog_8_method_16_code (2 : Nat) (Option.some Jvm.ClassFile.FieldType.boolean)) ∈ zw_A := zw_t (i := 687) (by decide +kernel) (by decide +kernel)
theorem zk_688 : (Jvm.Cond.methodLink "IslandRightsLaw" (117 : Nat) ({ cls := "IslandRightsModel", name := "ticket", desc := "(II)I" } : Jvm.MethodName)) ∈ zw_A := zw_t (i := 688) (by decide +kernel) (by decide +kernel)
theorem zk_689 : (Jvm.Cond.instanceMethod ({ cls := "IslandRightsModel", name := "ticket", desc := "(II)I" } : Jvm.MethodName)) ∈ zw_A := zw_t (i := 689) (by decide +kernel) (by decide +kernel)
theorem zk_690 : (Jvm.Cond.selects "IslandRightsModel" ({ cls := "IslandRightsModel", name := "ticket", desc := "(II)I" } : Jvm.MethodName) ({ cls := "IslandRightsModel", name := "ticket", desc := "(II)I" } : Jvm.MethodName)) ∈ zw_A := zw_t (i := 690) (by decide +kernel) (by decide +kernel)
theorem zk_691 : (Jvm.Cond.code ({ cls := "IslandRightsModel", name := "ticket", desc := "(II)I" } : Jvm.MethodName) prog_8_method_18_code (3 : Nat) (Option.some Jvm.ClassFile.FieldType.int)) ∈ zw_A := zw_t (i := 691) (by decide +kernel) (by decide +kernel)
theorem zk_692 : (Jvm.Cond.methodLink "IslandRightsLaw" (120 : Nat) ({ cls := "IslandRightsModel", name := "price", desc := "(I)J" } : Jvm.MethodName)) ∈ zw_A := zw_t (i := 692) (by decide +kernel) (by decide +kernel)
theorem zk_693 : (Jvm.Cond.instanceMethod ({ cls := "IslandRightsModel", name := "price", desc := "(I)J" } : Jvm.MethodName)) ∈ zw_A := zw_t (i := 693) (by decide +kernel) (by decide +kernel)
theorem zk_694 : (Jvm.Cond.selects "IslandRightsModel" ({ cls := "IslandRightsModel", name := "price", desc := "(I)J" } : Jvm.MethodName) ({ cls := "IslandRightsModel", name := "price", desc := "(I)J" } : Jvm.MethodName)) ∈ zw_A := zw_t (i := 694) (by decide +kernel) (by decide +kernel)
theorem zk_695 : (Jvm.Cond.code ({ cls := "IslandRightsModel", name := "price", desc := "(I)J" } : Jvm.MethodName) prog_8_method_19_code (2 : Nat) (Option.some Jvm.ClassFile.FieldType.long)) ∈ zw_A := zw_t (i := 695) (by decide +kernel) (by decide +kernel)
theorem zk_696 : (Jvm.Cond.methodLink "IslandRightsLaw" (124 : Nat) ({ cls := "IslandRightsModel", name := "hand", desc := "(IIIII)I" } : Jvm.MethodName)) ∈ zw_A := zw_t (i := 696) (by decide +kernel) (by decide +kernel)
theorem zk_697 : (Jvm.Cond.instanceMethod ({ cls := "IslandRightsModel", name := "hand", desc := "(IIIII)I" } : Jvm.MethodName)) ∈ zw_A := zw_t (i := 697) (by decide +kernel) (by decide +kernel)
theorem zk_698 : (Jvm.Cond.selects "IslandRightsModel" ({ cls := "IslandRightsModel", name := "hand", desc := "(IIIII)I" } : Jvm.MethodName) ({ cls := "IslandRightsModel", name := "hand", desc := "(IIIII)I" } : Jvm.MethodName)) ∈ zw_A := zw_t (i := 698) (by decide +kernel) (by decide +kernel)
theorem zk_699 : (Jvm.Cond.code ({ cls := "IslandRightsModel", name := "hand", desc := "(IIIII)I" } : Jvm.MethodName) prog_8_method_22_code (7 : Nat) (Option.some Jvm.ClassFile.FieldType.int)) ∈ zw_A := zw_t (i := 699) (by decide +kernel) (by decide +kernel)
theorem zk_700 : (Jvm.Cond.methodLink "IslandRightsModel" (132 : Nat) ({ cls := "IslandRightsModel", name := "enclose", desc := "(IIII)I" } : Jvm.MethodName)) ∈ zw_A := zw_t (i := 700) (by decide +kernel) (by decide +kernel)
theorem zk_702 : (Jvm.Cond.instanceMethod ({ cls := "IslandRightsModel", name := "enclose", desc := "(IIII)I" } : Jvm.MethodName)) ∈ zw_A := zw_t (i := 702) (by decide +kernel) (by decide +kernel)
theorem zk_703 : (Jvm.Cond.code ({ cls := "IslandRightsModel", name := "enclose", desc := "(IIII)I" } : Jvm.MethodName) prog_8_method_21_code (7 : Nat) (Option.some Jvm.ClassFile.FieldType.int)) ∈ zw_A := zw_t (i := 703) (by decide +kernel) (by decide +kernel)
theorem zk_704 : (Jvm.Cond.methodLink "IslandRightsLaw" (127 : Nat) ({ cls := "IslandRightsModel", name := "share", desc := "(III)I" } : Jvm.MethodName)) ∈ zw_A := zw_t (i := 704) (by decide +kernel) (by decide +kernel)
theorem zk_705 : (Jvm.Cond.instanceMethod ({ cls := "IslandRightsModel", name := "share", desc := "(III)I" } : Jvm.MethodName)) ∈ zw_A := zw_t (i := 705) (by decide +kernel) (by decide +kernel)
theorem zk_706 : (Jvm.Cond.selects "IslandRightsModel" ({ cls := "IslandRightsModel", name := "share", desc := "(III)I" } : Jvm.MethodName) ({ cls := "IslandRightsModel", name := "share", desc := "(III)I" } : Jvm.MethodName)) ∈ zw_A := zw_t (i := 706) (by decide +kernel) (by decide +kernel)
theorem zk_707 : (Jvm.Cond.code ({ cls := "IslandRightsModel", name := "share", desc := "(III)I" } : Jvm.MethodName) prog_8_method_23_code (7 : Nat) (Option.some Jvm.ClassFile.FieldType.int)) ∈ zw_A := zw_t (i := 707) (by decide +kernel) (by decide +kernel)
theorem zk_708 : (Jvm.Cond.methodLink "IslandRightsModel" (135 : Nat) ({ cls := "IslandRightsModel", name := "wrong", desc := "(II)I" } : Jvm.MethodName)) ∈ zw_A := zw_t (i := 708) (by decide +kernel) (by decide +kernel)
theorem zk_709 : (Jvm.Cond.static ({ cls := "IslandRightsModel", name := "wrong", desc := "(II)I" } : Jvm.MethodName)) ∈ zw_A := zw_t (i := 709) (by decide +kernel) (by decide +kernel)
theorem zk_710 : (Jvm.Cond.code ({ cls := "IslandRightsModel", name := "wrong", desc := "(II)I" } : Jvm.MethodName) prog_8_method_20_code (2 : Nat) (Option.some Jvm.ClassFile.FieldType.int)) ∈ zw_A := zw_t (i := 710) (by decide +kernel) (by decide +kernel)
theorem zk_711 : (Jvm.Cond.methodLink "IslandRightsLaw" (130 : Nat) ({ cls := "IslandRightsModel", name := "send", desc := "(II)I" } : Jvm.MethodName)) ∈ zw_A := zw_t (i := 711) (by decide +kernel) (by decide +kernel)
theorem zk_712 : (Jvm.Cond.instanceMethod ({ cls := "IslandRightsModel", name := "send", desc := "(II)I" } : Jvm.MethodName)) ∈ zw_A := zw_t (i := 712) (by decide +kernel) (by decide +kernel)
theorem zk_713 : (Jvm.Cond.selects "IslandRightsModel" ({ cls := "IslandRightsModel", name := "send", desc := "(II)I" } : Jvm.MethodName) ({ cls := "IslandRightsModel", name := "send", desc := "(II)I" } : Jvm.MethodName)) ∈ zw_A := zw_t (i := 713) (by decide +kernel) (by decide +kernel)
theorem zk_714 : (Jvm.Cond.code ({ cls := "IslandRightsModel", name := "send", desc := "(II)I" } : Jvm.MethodName) prog_8_method_24_code (4 : Nat) (Option.some Jvm.ClassFile.FieldType.int)) ∈ zw_A := zw_t (i := 714) (by decide +kernel) (by decide +kernel)
theorem zk_715 : (Jvm.Cond.methodLink "IslandRightsLaw" (133 : Nat) ({ cls := "IslandRightsModel", name := "arrive", desc := "(II)I" } : Jvm.MethodName)) ∈ zw_A := zw_t (i := 715) (by decide +kernel) (by decide +kernel)
theorem zk_716 : (Jvm.Cond.instanceMethod ({ cls := "IslandRightsModel", name := "arrive", desc := "(II)I" } : Jvm.MethodName)) ∈ zw_A := zw_t (i := 716) (by decide +kernel) (by decide +kernel)
theorem zk_717 : (Jvm.Cond.selects "IslandRightsModel" ({ cls := "IslandRightsModel", name := "arrive", desc := "(II)I" } : Jvm.MethodName) ({ cls := "IslandRightsModel", name := "arrive", desc := "(II)I" } : Jvm.MethodName)) ∈ zw_A := zw_t (i := 717) (by decide +kernel) (by decide +kernel)
theorem zk_718 : (Jvm.Cond.code ({ cls := "IslandRightsModel", name := "arrive", desc := "(II)I" } : Jvm.MethodName) prog_8_method_25_code (6 : Nat) (Option.some Jvm.ClassFile.FieldType.int)) ∈ zw_A := zw_t (i := 718) (by decide +kernel) (by decide +kernel)
theorem zk_719 : (Jvm.Cond.methodLink "IslandRightsLaw" (136 : Nat) ({ cls := "IslandRightsModel", name := "receipt", desc := "(II)I" } : Jvm.MethodName)) ∈ zw_A := zw_t (i := 719) (by decide +kernel) (by decide +kernel)
theorem zk_720 : (Jvm.Cond.instanceMethod ({ cls := "IslandRightsModel", name := "receipt", desc := "(II)I" } : Jvm.MethodName)) ∈ zw_A := zw_t (i := 720) (by decide +kernel) (by decide +kernel)
theorem zk_721 : (Jvm.Cond.selects "IslandRightsModel" ({ cls := "IslandRightsModel", name := "receipt", desc := "(II)I" } : Jvm.MethodName) ({ cls := "IslandRightsModel", name := "receipt", desc := "(II)I" } : Jvm.MethodName)) ∈ zw_A := zw_t (i := 721) (by decide +kernel) (by decide +kernel)
theorem zk_722 : (Jvm.Cond.code ({ cls := "IslandRightsModel", name := "receipt", desc := "(II)I" } : Jvm.MethodName) prog_8_method_26_code (8 : Nat) (Option.some Jvm.ClassFile.FieldType.int)) ∈ zw_A := zw_t (i := 722) (by decide +kernel) (by decide +kernel)
theorem zk_723 : (Jvm.Cond.methodLink "IslandRightsLaw" (139 : Nat) ({ cls := "IslandRightsModel", name := "lose", desc := "(II)I" } : Jvm.MethodName)) ∈ zw_A := zw_t (i := 723) (by decide +kernel) (by decide +kernel)
theorem zk_724 : (Jvm.Cond.instanceMethod ({ cls := "IslandRightsModel", name := "lose", desc := "(II)I" } : Jvm.MethodName)) ∈ zw_A := zw_t (i := 724) (by decide +kernel) (by decide +kernel)
theorem zk_725 : (Jvm.Cond.selects "IslandRightsModel" ({ cls := "IslandRightsModel", name := "lose", desc := "(II)I" } : Jvm.MethodName) ({ cls := "IslandRightsModel", name := "lose", desc := "(II)I" } : Jvm.MethodName)) ∈ zw_A := zw_t (i := 725) (by decide +kernel) (by decide +kernel)
theorem zk_726 : (Jvm.Cond.code ({ cls := "IslandRightsModel", name := "lose", desc := "(II)I" } : Jvm.MethodName) prog_8_method_28_code (3 : Nat) (Option.some Jvm.ClassFile.FieldType.int)) ∈ zw_A := zw_t (i := 726) (by decide +kernel) (by decide +kernel)
theorem zk_727 : (Jvm.Cond.methodLink "IslandRightsModel" (139 : Nat) ({ cls := "IslandRightsModel", name := "loseOne", desc := "(I)I" } : Jvm.MethodName)) ∈ zw_A := zw_t (i := 727) (by decide +kernel) (by decide +kernel)
theorem zk_729 : (Jvm.Cond.instanceMethod ({ cls := "IslandRightsModel", name := "loseOne", desc := "(I)I" } : Jvm.MethodName)) ∈ zw_A := zw_t (i := 729) (by decide +kernel) (by decide +kernel)
theorem zk_730 : (Jvm.Cond.code ({ cls := "IslandRightsModel", name := "loseOne", desc := "(I)I" } : Jvm.MethodName) prog_8_method_27_code (3 : Nat) (Option.some Jvm.ClassFile.FieldType.int)) ∈ zw_A := zw_t (i := 730) (by decide +kernel) (by decide +kernel)
theorem zk_731 : (Jvm.Cond.methodLink "IslandRightsLaw" (142 : Nat) ({ cls := "IslandRightsModel", name := "crash", desc := "(I)I" } : Jvm.MethodName)) ∈ zw_A := zw_t (i := 731) (by decide +kernel) (by decide +kernel)
theorem zk_732 : (Jvm.Cond.instanceMethod ({ cls := "IslandRightsModel", name := "crash", desc := "(I)I" } : Jvm.MethodName)) ∈ zw_A := zw_t (i := 732) (by decide +kernel) (by decide +kernel)
theorem zk_733 : (Jvm.Cond.selects "IslandRightsModel" ({ cls := "IslandRightsModel", name := "crash", desc := "(I)I" } : Jvm.MethodName) ({ cls := "IslandRightsModel", name := "crash", desc := "(I)I" } : Jvm.MethodName)) ∈ zw_A := zw_t (i := 733) (by decide +kernel) (by decide +kernel)
theorem zk_734 : (Jvm.Cond.code ({ cls := "IslandRightsModel", name := "crash", desc := "(I)I" } : Jvm.MethodName) prog_8_method_29_code (4 : Nat) (Option.some Jvm.ClassFile.FieldType.int)) ∈ zw_A := zw_t (i := 734) (by decide +kernel) (by decide +kernel)
theorem zk_735 : (Jvm.Cond.methodLink "IslandRightsLaw" (145 : Nat) ({ cls := "IslandRightsModel", name := "rights", desc := "(III)I" } : Jvm.MethodName)) ∈ zw_A := zw_t (i := 735) (by decide +kernel) (by decide +kernel)
theorem zk_736 : (Jvm.Cond.instanceMethod ({ cls := "IslandRightsModel", name := "rights", desc := "(III)I" } : Jvm.MethodName)) ∈ zw_A := zw_t (i := 736) (by decide +kernel) (by decide +kernel)
theorem zk_737 : (Jvm.Cond.selects "IslandRightsModel" ({ cls := "IslandRightsModel", name := "rights", desc := "(III)I" } : Jvm.MethodName) ({ cls := "IslandRightsModel", name := "rights", desc := "(III)I" } : Jvm.MethodName)) ∈ zw_A := zw_t (i := 737) (by decide +kernel) (by decide +kernel)
theorem zk_738 : (Jvm.Cond.code ({ cls := "IslandRightsModel", name := "rights", desc := "(III)I" } : Jvm.MethodName) prog_8_method_30_code (5 : Nat) (Option.some Jvm.ClassFile.FieldType.int)) ∈ zw_A := zw_t (i := 738) (by decide +kernel) (by decide +kernel)
theorem zk_739 : (Jvm.Cond.methodLink "IslandRightsLaw" (148 : Nat) ({ cls := "IslandRightsModel", name := "air", desc := "(II)I" } : Jvm.MethodName)) ∈ zw_A := zw_t (i := 739) (by decide +kernel) (by decide +kernel)
theorem zk_740 : (Jvm.Cond.instanceMethod ({ cls := "IslandRightsModel", name := "air", desc := "(II)I" } : Jvm.MethodName)) ∈ zw_A := zw_t (i := 740) (by decide +kernel) (by decide +kernel)
theorem zk_741 : (Jvm.Cond.selects "IslandRightsModel" ({ cls := "IslandRightsModel", name := "air", desc := "(II)I" } : Jvm.MethodName) ({ cls := "IslandRightsModel", name := "air", desc := "(II)I" } : Jvm.MethodName)) ∈ zw_A := zw_t (i := 741) (by decide +kernel) (by decide +kernel)
theorem zk_742 : (Jvm.Cond.code ({ cls := "IslandRightsModel", name := "air", desc := "(II)I" } : Jvm.MethodName) prog_8_method_31_code (6 : Nat) (Option.some Jvm.ClassFile.FieldType.int)) ∈ zw_A := zw_t (i := 742) (by decide +kernel) (by decide +kernel)
theorem zk_743 : (Jvm.Cond.methodLink "IslandRightsLaw" (151 : Nat) ({ cls := "IslandRightsModel", name := "sold", desc := "(II)I" } : Jvm.MethodName)) ∈ zw_A := zw_t (i := 743) (by decide +kernel) (by decide +kernel)
theorem zk_744 : (Jvm.Cond.instanceMethod ({ cls := "IslandRightsModel", name := "sold", desc := "(II)I" } : Jvm.MethodName)) ∈ zw_A := zw_t (i := 744) (by decide +kernel) (by decide +kernel)
theorem zk_745 : (Jvm.Cond.selects "IslandRightsModel" ({ cls := "IslandRightsModel", name := "sold", desc := "(II)I" } : Jvm.MethodName) ({ cls := "IslandRightsModel", name := "sold", desc := "(II)I" } : Jvm.MethodName)) ∈ zw_A := zw_t (i := 745) (by decide +kernel) (by decide +kernel)
theorem zk_746 : (Jvm.Cond.code ({ cls := "IslandRightsModel", name := "sold", desc := "(II)I" } : Jvm.MethodName) prog_8_method_32_code (5 : Nat) (Option.some Jvm.ClassFile.FieldType.int)) ∈ zw_A := zw_t (i := 746) (by decide +kernel) (by decide +kernel)
theorem zk_747 : (Jvm.Cond.methodLink "IslandRightsLaw" (154 : Nat) ({ cls := "IslandRightsModel", name := "wishes", desc := "(I)I" } : Jvm.MethodName)) ∈ zw_A := zw_t (i := 747) (by decide +kernel) (by decide +kernel)
theorem zk_748 : (Jvm.Cond.instanceMethod ({ cls := "IslandRightsModel", name := "wishes", desc := "(I)I" } : Jvm.MethodName)) ∈ zw_A := zw_t (i := 748) (by decide +kernel) (by decide +kernel)
theorem zk_749 : (Jvm.Cond.selects "IslandRightsModel" ({ cls := "IslandRightsModel", name := "wishes", desc := "(I)I" } : Jvm.MethodName) ({ cls := "IslandRightsModel", name := "wishes", desc := "(I)I" } : Jvm.MethodName)) ∈ zw_A := zw_t (i := 749) (by decide +kernel) (by decide +kernel)
theorem zk_750 : (Jvm.Cond.code ({ cls := "IslandRightsModel", name := "wishes", desc := "(I)I" } : Jvm.MethodName) prog_8_method_33_code (2 : Nat) (Option.some Jvm.ClassFile.FieldType.int)) ∈ zw_A := zw_t (i := 750) (by decide +kernel) (by decide +kernel)
theorem zk_751 : (Jvm.Cond.methodLink "IslandRightsLaw" (157 : Nat) ({ cls := "IslandRightsModel", name := "till", desc := "(I)J" } : Jvm.MethodName)) ∈ zw_A := zw_t (i := 751) (by decide +kernel) (by decide +kernel)
theorem zk_752 : (Jvm.Cond.instanceMethod ({ cls := "IslandRightsModel", name := "till", desc := "(I)J" } : Jvm.MethodName)) ∈ zw_A := zw_t (i := 752) (by decide +kernel) (by decide +kernel)
theorem zk_753 : (Jvm.Cond.selects "IslandRightsModel" ({ cls := "IslandRightsModel", name := "till", desc := "(I)J" } : Jvm.MethodName) ({ cls := "IslandRightsModel", name := "till", desc := "(I)J" } : Jvm.MethodName)) ∈ zw_A := zw_t (i := 753) (by decide +kernel) (by decide +kernel)
theorem zk_754 : (Jvm.Cond.code ({ cls := "IslandRightsModel", name := "till", desc := "(I)J" } : Jvm.MethodName) prog_8_method_34_code (2 : Nat) (Option.some Jvm.ClassFile.FieldType.long)) ∈ zw_A := zw_t (i := 754) (by decide +kernel) (by decide +kernel)
end
section
theorem zs_X_checkDraft : Cond.selects "IslandRights" zm_X_checkDraft zm_X_checkDraft ∈ zw_A := zw_s (q := (zm_X_checkDraft, 9)) (by decide +kernel) (by decide +kernel)
theorem zs_X_takeDraft : Cond.selects "IslandRights" zm_X_takeDraft zm_X_takeDraft ∈ zw_A := zw_s (q := (zm_X_takeDraft, 9)) (by decide +kernel) (by decide +kernel)
theorem zs_X_sell : Cond.selects "IslandRights" zm_X_sell zm_X_sell ∈ zw_A := zw_s (q := (zm_X_sell, 9)) (by decide +kernel) (by decide +kernel)
theorem zs_X_costOf : Cond.selects "IslandRights" zm_X_costOf zm_X_costOf ∈ zw_A := zw_s (q := (zm_X_costOf, 9)) (by decide +kernel) (by decide +kernel)
theorem zs_X_moveToSold : Cond.selects "IslandRights" zm_X_moveToSold zm_X_moveToSold ∈ zw_A := zw_s (q := (zm_X_moveToSold, 9)) (by decide +kernel) (by decide +kernel)
theorem zs_X_serve : Cond.selects "IslandRights" zm_X_serve zm_X_serve ∈ zw_A := zw_s (q := (zm_X_serve, 9)) (by decide +kernel) (by decide +kernel)
theorem zs_X_checkTicket : Cond.selects "IslandRights" zm_X_checkTicket zm_X_checkTicket ∈ zw_A := zw_s (q := (zm_X_checkTicket, 9)) (by decide +kernel) (by decide +kernel)
theorem zs_X_laneOf : Cond.selects "IslandRights" zm_X_laneOf zm_X_laneOf ∈ zw_A := zw_s (q := (zm_X_laneOf, 9)) (by decide +kernel) (by decide +kernel)
theorem zs_X_putInOutbox : Cond.selects "IslandRights" zm_X_putInOutbox zm_X_putInOutbox ∈ zw_A := zw_s (q := (zm_X_putInOutbox, 9)) (by decide +kernel) (by decide +kernel)
theorem zs_X_takeNext : Cond.selects "IslandRights" zm_X_takeNext zm_X_takeNext ∈ zw_A := zw_s (q := (zm_X_takeNext, 9)) (by decide +kernel) (by decide +kernel)
theorem zs_M_refused : Cond.selects "IslandRightsModel" zm_M_refused zm_M_refused ∈ zw_A := zw_s (q := (zm_M_refused, 28)) (by decide +kernel) (by decide +kernel)
theorem zs_M_fits : Cond.selects "IslandRightsModel" zm_M_fits zm_M_fits ∈ zw_A := zw_s (q := (zm_M_fits, 28)) (by decide +kernel) (by decide +kernel)
theorem zs_M_lies : Cond.selects "IslandRightsModel" zm_M_lies zm_M_lies ∈ zw_A := zw_s (q := (zm_M_lies, 28)) (by decide +kernel) (by decide +kernel)
theorem zs_M_sell : Cond.selects "IslandRightsModel" zm_M_sell zm_M_sell ∈ zw_A := zw_s (q := (zm_M_sell, 28)) (by decide +kernel) (by decide +kernel)
theorem zs_M_give : Cond.selects "IslandRightsModel" zm_M_give zm_M_give ∈ zw_A := zw_s (q := (zm_M_give, 28)) (by decide +kernel) (by decide +kernel)
theorem zs_M_copy : Cond.selects "IslandRightsModel" zm_M_copy zm_M_copy ∈ zw_A := zw_s (q := (zm_M_copy, 28)) (by decide +kernel) (by decide +kernel)
theorem zs_M_serve : Cond.selects "IslandRightsModel" zm_M_serve zm_M_serve ∈ zw_A := zw_s (q := (zm_M_serve, 28)) (by decide +kernel) (by decide +kernel)
theorem zs_M_isTicket : Cond.selects "IslandRightsModel" zm_M_isTicket zm_M_isTicket ∈ zw_A := zw_s (q := (zm_M_isTicket, 28)) (by decide +kernel) (by decide +kernel)
theorem zs_M_enclose : Cond.selects "IslandRightsModel" zm_M_enclose zm_M_enclose ∈ zw_A := zw_s (q := (zm_M_enclose, 28)) (by decide +kernel) (by decide +kernel)
theorem zs_M_loseOne : Cond.selects "IslandRightsModel" zm_M_loseOne zm_M_loseOne ∈ zw_A := zw_s (q := (zm_M_loseOne, 28)) (by decide +kernel) (by decide +kernel)
theorem zi_J : ∀ w ∈ u_ws zR_J zT_J 2, w ∈ zw_A := by
  intro w hw
  obtain ⟨k, hk, rfl⟩ := List.mem_map.mp hw
  have hk := List.mem_range.mp hk
  match k, hk with
  | 0, _ => exact zk_40
  | 1, _ => exact zk_42
  | k + 2, h => exact absurd h (by omega)
theorem zi_N : ∀ w ∈ u_ws zR_N zT_N 7, w ∈ zw_A := by
  intro w hw
  obtain ⟨k, hk, rfl⟩ := List.mem_map.mp hw
  have hk := List.mem_range.mp hk
  match k, hk with
  | 0, _ => exact zk_90
  | 1, _ => exact zk_92
  | 2, _ => exact zk_94
  | 3, _ => exact zk_96
  | 4, _ => exact zk_98
  | 5, _ => exact zk_100
  | 6, _ => exact zk_102
  | k + 7, h => exact absurd h (by omega)
theorem zi_P : ∀ w ∈ u_ws zR_P zT_P 4, w ∈ zw_A := by
  intro w hw
  obtain ⟨k, hk, rfl⟩ := List.mem_map.mp hw
  have hk := List.mem_range.mp hk
  match k, hk with
  | 0, _ => exact zk_62
  | 1, _ => exact zk_64
  | 2, _ => exact zk_66
  | 3, _ => exact zk_68
  | k + 4, h => exact absurd h (by omega)
theorem zi_T : ∀ w ∈ u_ws zR_T zT_T 5, w ∈ zw_A := by
  intro w hw
  obtain ⟨k, hk, rfl⟩ := List.mem_map.mp hw
  have hk := List.mem_range.mp hk
  match k, hk with
  | 0, _ => exact zk_336
  | 1, _ => exact zk_338
  | 2, _ => exact zk_340
  | 3, _ => exact zk_342
  | 4, _ => exact zk_344
  | k + 5, h => exact absurd h (by omega)
theorem zi_H : ∀ w ∈ u_ws zR_H zT_H 2, w ∈ zw_A := by
  intro w hw
  obtain ⟨k, hk, rfl⟩ := List.mem_map.mp hw
  have hk := List.mem_range.mp hk
  match k, hk with
  | 0, _ => exact zk_368
  | 1, _ => exact zk_370
  | k + 2, h => exact absurd h (by omega)
theorem zi_X : ∀ w ∈ u_ws zR_X zT_X 9, w ∈ zw_A := by
  intro w hw
  obtain ⟨k, hk, rfl⟩ := List.mem_map.mp hw
  have hk := List.mem_range.mp hk
  match k, hk with
  | 0, _ => exact zk_114
  | 1, _ => exact zk_116
  | 2, _ => exact zk_118
  | 3, _ => exact zk_120
  | 4, _ => exact zk_122
  | 5, _ => exact zk_124
  | 6, _ => exact zk_126
  | 7, _ => exact zk_128
  | 8, _ => exact zk_130
  | k + 9, h => exact absurd h (by omega)
theorem zi_M : ∀ w ∈ u_ws zR_M zT_M 28, w ∈ zw_A := by
  intro w hw
  obtain ⟨k, hk, rfl⟩ := List.mem_map.mp hw
  have hk := List.mem_range.mp hk
  match k, hk with
  | 0, _ => exact zk_566
  | 1, _ => exact zk_568
  | 2, _ => exact zk_570
  | 3, _ => exact zk_572
  | 4, _ => exact zk_574
  | 5, _ => exact zk_576
  | 6, _ => exact zk_578
  | 7, _ => exact zk_580
  | 8, _ => exact zk_582
  | 9, _ => exact zk_584
  | 10, _ => exact zk_586
  | 11, _ => exact zk_588
  | 12, _ => exact zk_590
  | 13, _ => exact zk_592
  | 14, _ => exact zk_594
  | 15, _ => exact zk_596
  | 16, _ => exact zk_598
  | 17, _ => exact zk_600
  | 18, _ => exact zk_602
  | 19, _ => exact zk_604
  | 20, _ => exact zk_606
  | 21, _ => exact zk_608
  | 22, _ => exact zk_610
  | 23, _ => exact zk_612
  | 24, _ => exact zk_614
  | 25, _ => exact zk_616
  | 26, _ => exact zk_618
  | 27, _ => exact zk_620
  | k + 28, h => exact absurd h (by omega)
end
section
/-! my own judgement over the kit's W: a world is a map from addresses to cells; an assertion P speaks of the world and the heap's size -/
abbrev zg_w : Type := Nat → Option va_E
def zg_u (w : zg_w) (a : Nat) (e : va_E) : zg_w := fun q => if q = a then some e else w q
theorem zg_us (w : zg_w) (a : Nat) (e : va_E) : zg_u w a e a = some e := by simp [zg_u]
theorem zg_un {w : zg_w} {a q : Nat} {e : va_E} (h : q ≠ a) : zg_u w a e q = w q := by simp [zg_u, h]
def zg_H (D : va_G) (cl : List vw_C) (base : Nat) (w : zg_w) (H : Heap) : Prop := ∀ (a : Nat) (e : va_E), w a = some e → base ≤ a ∧ va_at D cl (a, e) H
theorem zg_H.set {D : va_G} {cl : List vw_C} {base : Nat} {w : zg_w} {H H1 : Heap} {a : Nat} {e : va_E} (h : zg_H D cl base w H) (hb : base ≤ a) (he : va_at D cl (a, e) H1) (o : ∀ q : Nat, q ≠ a → H1[q]? = H[q]?) : zg_H D cl base (zg_u w a e) H1 := by
  intro q e1 hq
  by_cases hqa : q = a
  · subst hqa
    rw [zg_us] at hq
    cases hq
    exact ⟨hb, he⟩
  · rw [zg_un hqa] at hq
    obtain ⟨h1, h2⟩ := h q e1 hq
    exact ⟨h1, h2.kept (o q hqa)⟩
theorem zg_H.lt {D : va_G} {cl : List vw_C} {base : Nat} {w : zg_w} {H : Heap} {a : Nat} {e : va_E} (h : zg_H D cl base w H) (ha : w a = some e) : a < H.size := (h a e ha).2.lt
theorem zg_H.push {D : va_G} {cl : List vw_C} {base : Nat} {w : zg_w} {H H1 : Heap} {e : va_E} (h : zg_H D cl base w H) (hb : base ≤ H.size) (he : va_at D cl (H.size, e) H1) (o : ∀ q : Nat, q < H.size → H1[q]? = H[q]?) : zg_H D cl base (zg_u w H.size e) H1 := by
  intro q e1 hq
  by_cases hqa : q = H.size
  · subst hqa
    rw [zg_us] at hq
    cases hq
    exact ⟨hb, he⟩
  · rw [zg_un hqa] at hq
    obtain ⟨h1, h2⟩ := h q e1 hq
    exact ⟨h1, h2.kept (o q (h.lt hq))⟩
theorem zg_H.none {D : va_G} {cl : List vw_C} {base : Nat} {w : zg_w} {H : Heap} {a : Nat} (h : zg_H D cl base w H) (ha : H.size ≤ a) : w a = none := by
  cases hw : w a with
  | none => rfl
  | some e => exact absurd (h.lt hw) (by omega)
theorem zg_H.kept {D : va_G} {cl : List vw_C} {base : Nat} {w : zg_w} {H H1 : Heap} (h : zg_H D cl base w H) (o : ∀ q : Nat, q < H.size → H1[q]? = H[q]?) : zg_H D cl base w H1 := fun a e ha => ⟨(h a e ha).1, (h a e ha).2.kept (o a (h.lt ha))⟩
/-- the setting of a walk: program, launch, environment, room, the state at the start, method, arguments, frames below, its entry, its code, what is owed at the end, class numbers, array classes, where our cells begin, how many locals -/
abbrev zg_K : Type := Program × Launch × Env × Room × State × MethodId × Array Value × List Frame × Method × Code × (State → Prop) × va_G × (Nat → ClassId) × Nat × Nat
abbrev zk_p (K : zg_K) : Program := K.1
abbrev zk_l (K : zg_K) : Launch := K.2.1
abbrev zk_e (K : zg_K) : Env := K.2.2.1
abbrev zk_R (K : zg_K) : Room := K.2.2.2.1
abbrev zk_s (K : zg_K) : State := K.2.2.2.2.1
abbrev zk_m (K : zg_K) : MethodId := K.2.2.2.2.2.1
abbrev zk_a (K : zg_K) : Array Value := K.2.2.2.2.2.2.1
abbrev zk_b (K : zg_K) : List Frame := K.2.2.2.2.2.2.2.1
abbrev zk_t (K : zg_K) : Method := K.2.2.2.2.2.2.2.2.1
abbrev zk_c (K : zg_K) : Code := K.2.2.2.2.2.2.2.2.2.1
abbrev zk_Q (K : zg_K) : State → Prop := K.2.2.2.2.2.2.2.2.2.2.1
abbrev zk_D (K : zg_K) : va_G := K.2.2.2.2.2.2.2.2.2.2.2.1
abbrev zk_A (K : zg_K) : Nat → ClassId := K.2.2.2.2.2.2.2.2.2.2.2.2.1
abbrev zk_z (K : zg_K) : Nat := K.2.2.2.2.2.2.2.2.2.2.2.2.2.1
abbrev zk_n (K : zg_K) : Nat := K.2.2.2.2.2.2.2.2.2.2.2.2.2.2
abbrev zg_P : Type := zg_w → Nat → Prop
/-! what is said of the tables beside the words: private members of nest mates, rows of objects, String constants, which exception is which, Throwable's two statics -/
def zn_nest : List (String × Nat × MethodName × String) := [("IslandRights", 47, ⟨"IslandRights$Journey", "<init>", "()V"⟩, "IslandRights"), ("IslandRights", 52, ⟨"IslandRights$Port", "<init>", "()V"⟩, "IslandRights"), ("IslandRights", 53, ⟨"IslandRights$Lane", "<init>", "()V"⟩, "IslandRights"), ("IslandRights$Journey", 19, ⟨"IslandRights", "placeOf", "(II)I"⟩, "IslandRights")]
def zn_arr : List String := ["IslandRights$Port", "IslandRights$Lane", "IslandRights$Ticket", "IslandRights$Wish"]
def zn_str : List (String × Nat × String) := [("IslandRights", 214, "there is no such sailing"), ("IslandRights", 224, "a number of seats is 1 to 100"), ("IslandRights", 63, "the sailing was open"), ("IslandRights", 216, "there is no such leg"), ("IslandRights", 81, "a fare is 0 to 1,000,000,000"), ("IslandRights", 218, "there is no such stop"), ("IslandRights", 87, "a part goes to a later stop"), ("IslandRights", 89, "the sailing is not open"), ("IslandRights", 94, "the draft is full"), ("IslandRights", 211, "there is no such port"), ("IslandRights", 226, "the draft is empty"), ("IslandRights", 106, "there are no tickets left"), ("IslandRights", 123, "the port's row of wishes is full"), ("IslandRights", 220, "there is no such ticket"), ("IslandRights", 140, "the ticket was cancelled"), ("IslandRights", 162, "what is 0 to 3"), ("IslandRights", 222, "both ports are the same"), ("IslandRights", 176, "the outbox is full")]
def zn_cast : List (String × String) := [("java/lang/IndexOutOfBoundsException", "java/lang/IndexOutOfBoundsException"), ("java/lang/IllegalArgumentException", "java/lang/IllegalArgumentException"), ("java/lang/IllegalStateException", "java/lang/IllegalStateException")]
def zn_nc : List (String × String) := [("java/lang/IllegalArgumentException", "java/lang/IndexOutOfBoundsException"), ("java/lang/IllegalStateException", "java/lang/IndexOutOfBoundsException"), ("java/lang/IndexOutOfBoundsException", "java/lang/IllegalArgumentException"), ("java/lang/IllegalStateException", "java/lang/IllegalArgumentException"), ("java/lang/IndexOutOfBoundsException", "java/lang/IllegalStateException"), ("java/lang/IllegalArgumentException", "java/lang/IllegalStateException")]
def zn_decl : List MethodName := [⟨"java/lang/RuntimeException", "<init>", "()V"⟩, ⟨"java/lang/RuntimeException", "<init>", "(Ljava/lang/String;)V"⟩, ⟨"java/lang/Exception", "<init>", "()V"⟩, ⟨"java/lang/Exception", "<init>", "(Ljava/lang/String;)V"⟩, ⟨"java/lang/Throwable", "<init>", "()V"⟩, ⟨"java/lang/Throwable", "<init>", "(Ljava/lang/String;)V"⟩]
def zg_N (base : Nat) (U : State) : Prop := (∀ q ∈ zn_nest, va_Nw (.methodLinkNest q.1 q.2.1 q.2.2.1 q.2.2.2) U) ∧ (∀ C ∈ zn_arr, va_AO C U) ∧ (∀ q ∈ zn_str, ∃ sa, vk_R q.1 q.2.1 q.2.2 sa U) ∧ (∀ q ∈ zn_cast, va_Nw (.castable q.1 q.2) U) ∧ (∀ q ∈ zn_nc, va_Nc q.1 q.2 U) ∧ (∀ q ∈ zn_decl, va_Nw (.declares q) U) ∧ vx_Zq Bundle.tN "UNASSIGNED_STACK" Bundle.steD (fun q => base ≤ q) U U.heap ∧ vx_Zq Bundle.tN "SUPPRESSED_SENTINEL" Bundle.listD (fun q => base ≤ q) U U.heap
theorem zg_N.warm {base : Nat} {s U : State} (hW : s.WarmedH U.vm) (hk : ∀ a : Nat, a < s.heap.size → ¬ base ≤ a → U.heap[a]? = s.heap[a]?) (h : zg_N base s) : zg_N base U := by
  obtain ⟨h1, h2, h3, h4, h5, h6, h7, h8⟩ := h
  refine ⟨fun q hq => va_Nw.warmM hW (h1 q hq), fun C hC => va_AO.moved hW.alike (h2 C hC), fun q hq => ?_, fun q hq => va_Nw.warmC hW (h4 q hq), fun q hq => va_Nc.moved hW.alike (h5 q hq), fun q hq => va_Nw.warmD hW (h6 q hq), vx_Zq.moved hW.alike (h7.kept hk), vx_Zq.moved hW.alike (h8.kept hk)⟩
  obtain ⟨sa, hs⟩ := h3 q hq
  exact ⟨sa, vk_R.warm hW hs⟩
theorem zg_N.calling {base : Nat} {U : State} {g : JFrame} {mk : MethodId} {a : Array Value} (h : zg_N base U) : zg_N base (U.calling g mk a) := zg_N.warm (s := U) (U := U.calling g mk a) (State.WarmedH.refl U) (fun _ _ _ => rfl) h
theorem zg_N.moved {base : Nat} {s U : State} {locs : List Loc} (hW : s.WarmedH U.vm) (hS : va_S (fun q => base ≤ q) s.heap U.heap locs) (h : zg_N base s) : zg_N base U := zg_N.warm hW (fun a h1 h2 => hS.2.1 a h1 h2) h
/-- what every walk knows: the machine, the code, the locals, the class, the words, the classes' numbers, where our cells begin, the room -/
def zg_F (K : zg_K) (cc : ByteArray) (own : String) (rm : Room) : Prop := (zk_p K).tables.exec = Jvm.exec ∧ (zk_c K).code = cc ∧ (zk_c K).maxLocals = zk_n K ∧ (zk_s K).vm.findClass own = some (zk_m K).cls ∧ (∀ w ∈ zw_A, w.before (zk_a K) (zk_s K) = true) ∧ va_K (zk_D K) vwCl (zg_T (zk_A K)) (zk_s K) ∧ zg_N (zk_z K) (zk_s K) ∧ zk_z K ≤ (zk_s K).heap.size ∧ zk_R K = rm
theorem zf_N {K : zg_K} {cc : ByteArray} {own : String} {rm : Room} (F : zg_F K cc own rm) : zg_N (zk_z K) (zk_s K) := F.2.2.2.2.2.2.1
theorem zf_b {K : zg_K} {cc : ByteArray} {own : String} {rm : Room} (F : zg_F K cc own rm) : zk_z K ≤ (zk_s K).heap.size := F.2.2.2.2.2.2.2.1
theorem zf_R {K : zg_K} {cc : ByteArray} {own : String} {rm : Room} (F : zg_F K cc own rm) : zk_R K = rm := F.2.2.2.2.2.2.2.2
abbrev zg_W (K : zg_K) (H : Heap) (locs : List Loc) (cells slots : Nat) (g : JFrame) : Prop := W (zk_p K) (zk_l K) (zk_e K) (zk_R K) (zk_s K) (zk_m K) (zk_a K) (zk_b K) (zk_t K) (zk_c K) H locs cells slots (zk_Q K) g
def zg_G (K : zg_K) (P : zg_P) (cells slots pc : Nat) (L : List (Nat × Value)) (st : List Value) : Prop :=
  ∀ (w : zg_w) (H : Heap) (locs : List Loc) (ls : Array Slot), P w H.size → zg_H (zk_D K) vwCl (zk_z K) w H → va_S (fun q => zk_z K ≤ q) (zk_s K).heap H locs → lv_has ls (zk_n K) L → zg_W K H locs cells slots (F0 (zk_m K) pc ls st)
theorem zg_mono {K : zg_K} {P P' : zg_P} {cells slots pc : Nat} {L : List (Nat × Value)} {st : List Value} (h : ∀ w z, P w z → P' w z) (k : zg_G K P' cells slots pc L st) : zg_G K P cells slots pc L st := fun w H locs ls h1 => k w H locs ls (h w _ h1)
theorem zg_wid {K : zg_K} {P : zg_P} {cells slots c2 s2 pc : Nat} {L : List (Nat × Value)} {st : List Value} (h1 : cells ≤ c2) (h2 : slots ≤ s2) (k : zg_G K P c2 s2 pc L st) : zg_G K P cells slots pc L st := fun w H locs ls a b c d => W.widen h1 h2 (k w H locs ls a b c d)
theorem zg_sub {K : zg_K} {P : zg_P} {cells slots pc : Nat} {L L' : List (Nat × Value)} {st : List Value} (ks : List Nat) (h : lv_pick L ks = L') (k : zg_G K P cells slots pc L' st) : zg_G K P cells slots pc L st := fun w H locs ls a b c d => k w H locs ls a b c (lv_sub d ks h)
theorem zg_ex {α : Type} {K : zg_K} {P : α → zg_P} {cells slots pc : Nat} {L : List (Nat × Value)} {st : List Value} (k : ∀ x, zg_G K (P x) cells slots pc L st) : zg_G K (fun w z => ∃ x, P x w z) cells slots pc L st := fun w H locs ls ⟨x, a⟩ b c d => k x w H locs ls a b c d
theorem zg_and {A : Prop} {K : zg_K} {P : zg_P} {cells slots pc : Nat} {L : List (Nat × Value)} {st : List Value} (k : A → zg_G K P cells slots pc L st) : zg_G K (fun w z => A ∧ P w z) cells slots pc L st := fun w H locs ls ⟨x, a⟩ b c d => k x w H locs ls a b c d
theorem zg_pure {A : Prop} {K : zg_K} {P : zg_P} {cells slots pc : Nat} {L : List (Nat × Value)} {st : List Value} (h : ∀ w z, P w z → A) (k : A → zg_G K P cells slots pc L st) : zg_G K P cells slots pc L st := fun w H locs ls a b c d => k (h w _ a) w H locs ls a b c d
section ZGA
variable {K : zg_K} {P : zg_P} {cells slots pc : Nat} {L : List (Nat × Value)} {st : List Value} {cc : ByteArray} {own : String} {rm : Room}
theorem zg_iconst (F : zg_F K cc own rm) {n : Int} {v : Int32} (hv : Int32.ofInt n = v) (d : decode cc pc = .ok (.iconst n, 1)) (k : zg_G K P cells slots (pc + 1) L (.int v :: st)) : zg_G K P cells slots pc L (st) := fun w H locs ls h1 h2 h3 h4 => lv_iconst F.1 F.2.1 d hv (k w H locs ls h1 h2 h3 h4)
theorem zg_bipush (F : zg_F K cc own rm) {n : Int} {v : Int32} (hv : (Int8.ofInt n).toInt32 = v) (d : decode cc pc = .ok (.bipush n, 2)) (k : zg_G K P cells slots (pc + 2) L (.int v :: st)) : zg_G K P cells slots pc L (st) := fun w H locs ls h1 h2 h3 h4 => lv_bipush F.1 F.2.1 d hv (k w H locs ls h1 h2 h3 h4)
theorem zg_sipush (F : zg_F K cc own rm) {n : Int} {v : Int32} (hv : (Int16.ofInt n).toInt32 = v) (d : decode cc pc = .ok (.sipush n, 3)) (k : zg_G K P cells slots (pc + 3) L (.int v :: st)) : zg_G K P cells slots pc L (st) := fun w H locs ls h1 h2 h3 h4 => lv_sipush F.1 F.2.1 d hv (k w H locs ls h1 h2 h3 h4)
theorem zg_lconst (F : zg_F K cc own rm) {n : Fin 2} {v : Int64} (hv : Int64.ofNat (n : Nat) = v) (d : decode cc pc = .ok (.lconst n, 1)) (k : zg_G K P cells slots (pc + 1) L (.long v :: st)) : zg_G K P cells slots pc L (st) := fun w H locs ls h1 h2 h3 h4 => lv_lconst F.1 F.2.1 d hv (k w H locs ls h1 h2 h3 h4)
theorem zg_iload_n (F : zg_F K cc own rm) {n : Fin 4} {i : Nat} {x : Int32} (j : Nat) (hi : (n : Nat) = i) (hl : L[j]? = some (i, .int x)) (d : decode cc pc = .ok (.iload_n n, 1)) (k : zg_G K P cells slots (pc + 1) L (.int x :: st)) : zg_G K P cells slots pc L (st) := fun w H locs ls h1 h2 h3 h4 => lv_iload_n F.1 F.2.1 d hi (lv_at h4 j hl) (k w H locs ls h1 h2 h3 h4)
theorem zg_iload (F : zg_F K cc own rm) {i : Nat} {x : Int32} (j : Nat) (hl : L[j]? = some (i, .int x)) (d : decode cc pc = .ok (.iload i, 2)) (k : zg_G K P cells slots (pc + 2) L (.int x :: st)) : zg_G K P cells slots pc L (st) := fun w H locs ls h1 h2 h3 h4 => lv_iload F.1 F.2.1 d (lv_at h4 j hl) (k w H locs ls h1 h2 h3 h4)
theorem zg_istore_n (F : zg_F K cc own rm) {n : Fin 4} {i : Nat} {x : Int32} {L' : List (Nat × Value)} (hi : (n : Nat) = i) (hn : i < zk_n K) (hl : (i, Value.int x) :: L.filter (fun q => !(q.1 == i) && !(q.1 + 1 == i && q.2.category == 2)) = L') (d : decode cc pc = .ok (.istore_n n, 1)) (k : zg_G K P cells slots (pc + 1) L' st) : zg_G K P cells slots pc L (.int x :: st) := fun w H locs ls h1 h2 h3 h4 => lv_istore_n F.1 F.2.1 d hi h4 hn hl (fun ls' h5 => k w H locs ls' h1 h2 h3 h5)
theorem zg_istore (F : zg_F K cc own rm) {i : Nat} {x : Int32} {L' : List (Nat × Value)} (hn : i < zk_n K) (hl : (i, Value.int x) :: L.filter (fun q => !(q.1 == i) && !(q.1 + 1 == i && q.2.category == 2)) = L') (d : decode cc pc = .ok (.istore i, 2)) (k : zg_G K P cells slots (pc + 2) L' st) : zg_G K P cells slots pc L (.int x :: st) := fun w H locs ls h1 h2 h3 h4 => lv_istore F.1 F.2.1 d h4 hn hl (fun ls' h5 => k w H locs ls' h1 h2 h3 h5)
theorem zg_lload_n (F : zg_F K cc own rm) {n : Fin 4} {i : Nat} {x : Int64} (j : Nat) (hi : (n : Nat) = i) (hl : L[j]? = some (i, .long x)) (d : decode cc pc = .ok (.lload_n n, 1)) (k : zg_G K P cells slots (pc + 1) L (.long x :: st)) : zg_G K P cells slots pc L (st) := fun w H locs ls h1 h2 h3 h4 => lv_lload_n F.1 F.2.1 d hi (lv_at h4 j hl) (k w H locs ls h1 h2 h3 h4)
theorem zg_lload (F : zg_F K cc own rm) {i : Nat} {x : Int64} (j : Nat) (hl : L[j]? = some (i, .long x)) (d : decode cc pc = .ok (.lload i, 2)) (k : zg_G K P cells slots (pc + 2) L (.long x :: st)) : zg_G K P cells slots pc L (st) := fun w H locs ls h1 h2 h3 h4 => lv_lload F.1 F.2.1 d (lv_at h4 j hl) (k w H locs ls h1 h2 h3 h4)
theorem zg_lstore_n (F : zg_F K cc own rm) {n : Fin 4} {i : Nat} {x : Int64} {L' : List (Nat × Value)} (hi : (n : Nat) = i) (hn : i + 1 < zk_n K) (hl : (i, Value.long x) :: L.filter (fun q => !(q.1 == i) && (!(q.1 == i + 1) && !(q.1 + 1 == i && q.2.category == 2))) = L') (d : decode cc pc = .ok (.lstore_n n, 1)) (k : zg_G K P cells slots (pc + 1) L' st) : zg_G K P cells slots pc L (.long x :: st) := fun w H locs ls h1 h2 h3 h4 => lv_lstore_n F.1 F.2.1 d hi h4 hn hl (fun ls' h5 => k w H locs ls' h1 h2 h3 h5)
theorem zg_lstore (F : zg_F K cc own rm) {i : Nat} {x : Int64} {L' : List (Nat × Value)} (hn : i + 1 < zk_n K) (hl : (i, Value.long x) :: L.filter (fun q => !(q.1 == i) && (!(q.1 == i + 1) && !(q.1 + 1 == i && q.2.category == 2))) = L') (d : decode cc pc = .ok (.lstore i, 2)) (k : zg_G K P cells slots (pc + 2) L' st) : zg_G K P cells slots pc L (.long x :: st) := fun w H locs ls h1 h2 h3 h4 => lv_lstore F.1 F.2.1 d h4 hn hl (fun ls' h5 => k w H locs ls' h1 h2 h3 h5)
theorem zg_aload_n (F : zg_F K cc own rm) {n : Fin 4} {i : Nat} {x : Nat} (j : Nat) (hi : (n : Nat) = i) (hl : L[j]? = some (i, .ref x)) (d : decode cc pc = .ok (.aload_n n, 1)) (k : zg_G K P cells slots (pc + 1) L (.ref x :: st)) : zg_G K P cells slots pc L (st) := fun w H locs ls h1 h2 h3 h4 => lv_aload_n F.1 F.2.1 d hi (lv_at h4 j hl) (k w H locs ls h1 h2 h3 h4)
theorem zg_aload (F : zg_F K cc own rm) {i : Nat} {x : Nat} (j : Nat) (hl : L[j]? = some (i, .ref x)) (d : decode cc pc = .ok (.aload i, 2)) (k : zg_G K P cells slots (pc + 2) L (.ref x :: st)) : zg_G K P cells slots pc L (st) := fun w H locs ls h1 h2 h3 h4 => lv_aload F.1 F.2.1 d (lv_at h4 j hl) (k w H locs ls h1 h2 h3 h4)
theorem zg_astore_n (F : zg_F K cc own rm) {n : Fin 4} {i : Nat} {x : Nat} {L' : List (Nat × Value)} (hi : (n : Nat) = i) (hn : i < zk_n K) (hl : (i, Value.ref x) :: L.filter (fun q => !(q.1 == i) && !(q.1 + 1 == i && q.2.category == 2)) = L') (d : decode cc pc = .ok (.astore_n n, 1)) (k : zg_G K P cells slots (pc + 1) L' st) : zg_G K P cells slots pc L (.ref x :: st) := fun w H locs ls h1 h2 h3 h4 => lv_astore_n F.1 F.2.1 d hi h4 hn hl (fun ls' h5 => k w H locs ls' h1 h2 h3 h5)
theorem zg_astore (F : zg_F K cc own rm) {i : Nat} {x : Nat} {L' : List (Nat × Value)} (hn : i < zk_n K) (hl : (i, Value.ref x) :: L.filter (fun q => !(q.1 == i) && !(q.1 + 1 == i && q.2.category == 2)) = L') (d : decode cc pc = .ok (.astore i, 2)) (k : zg_G K P cells slots (pc + 2) L' st) : zg_G K P cells slots pc L (.ref x :: st) := fun w H locs ls h1 h2 h3 h4 => lv_astore F.1 F.2.1 d h4 hn hl (fun ls' h5 => k w H locs ls' h1 h2 h3 h5)
theorem zg_iinc (F : zg_F K cc own rm) {i : Nat} {n : Int} {x v : Int32} {L' : List (Nat × Value)} (j : Nat) (hj : L[j]? = some (i, .int x)) (hv : x + Int32.ofInt n = v) (hn : i < zk_n K) (hl : (i, Value.int v) :: L.filter (fun q => !(q.1 == i) && !(q.1 + 1 == i && q.2.category == 2)) = L') (d : decode cc pc = .ok (.iinc i n, 3)) (k : zg_G K P cells slots (pc + 3) L' st) : zg_G K P cells slots pc L st := fun w H locs ls h1 h2 h3 h4 => lv_iinc F.1 F.2.1 d h4 hj hv hn hl (fun ls' h5 => k w H locs ls' h1 h2 h3 h5)
theorem zg_iadd (F : zg_F K cc own rm) {x y v : Int32} (hv : x + y = v) (d : decode cc pc = .ok (.iadd, 1)) (k : zg_G K P cells slots (pc + 1) L (.int v :: st)) : zg_G K P cells slots pc L (.int y :: .int x :: st) := fun w H locs ls h1 h2 h3 h4 => lv_iadd F.1 F.2.1 d (by rw [hv]; exact k w H locs ls h1 h2 h3 h4)
theorem zg_isub (F : zg_F K cc own rm) {x y v : Int32} (hv : x - y = v) (d : decode cc pc = .ok (.isub, 1)) (k : zg_G K P cells slots (pc + 1) L (.int v :: st)) : zg_G K P cells slots pc L (.int y :: .int x :: st) := fun w H locs ls h1 h2 h3 h4 => lv_isub F.1 F.2.1 d (by rw [hv]; exact k w H locs ls h1 h2 h3 h4)
theorem zg_imul (F : zg_F K cc own rm) {x y v : Int32} (hv : x * y = v) (d : decode cc pc = .ok (.imul, 1)) (k : zg_G K P cells slots (pc + 1) L (.int v :: st)) : zg_G K P cells slots pc L (.int y :: .int x :: st) := fun w H locs ls h1 h2 h3 h4 => lv_imul F.1 F.2.1 d (by rw [hv]; exact k w H locs ls h1 h2 h3 h4)
theorem zg_iand (F : zg_F K cc own rm) {x y v : Int32} (hv : x &&& y = v) (d : decode cc pc = .ok (.iand, 1)) (k : zg_G K P cells slots (pc + 1) L (.int v :: st)) : zg_G K P cells slots pc L (.int y :: .int x :: st) := fun w H locs ls h1 h2 h3 h4 => lv_iand F.1 F.2.1 d (by rw [hv]; exact k w H locs ls h1 h2 h3 h4)
theorem zg_idiv (F : zg_F K cc own rm) {x y v : Int32} (hne : ¬ y = 0) (hv : x / y = v) (d : decode cc pc = .ok (.idiv, 1)) (k : zg_G K P cells slots (pc + 1) L (.int v :: st)) : zg_G K P cells slots pc L (.int y :: .int x :: st) := fun w H locs ls h1 h2 h3 h4 => lv_idiv F.1 F.2.1 d hne (by rw [hv]; exact k w H locs ls h1 h2 h3 h4)
theorem zg_irem (F : zg_F K cc own rm) {x y v : Int32} (hne : ¬ y = 0) (hv : x - x / y * y = v) (d : decode cc pc = .ok (.irem, 1)) (k : zg_G K P cells slots (pc + 1) L (.int v :: st)) : zg_G K P cells slots pc L (.int y :: .int x :: st) := fun w H locs ls h1 h2 h3 h4 => lv_irem F.1 F.2.1 d hne (by rw [hv]; exact k w H locs ls h1 h2 h3 h4)
theorem zg_ladd (F : zg_F K cc own rm) {x y v : Int64} (hv : x + y = v) (d : decode cc pc = .ok (.ladd, 1)) (k : zg_G K P cells slots (pc + 1) L (.long v :: st)) : zg_G K P cells slots pc L (.long y :: .long x :: st) := fun w H locs ls h1 h2 h3 h4 => lv_ladd F.1 F.2.1 d (by rw [hv]; exact k w H locs ls h1 h2 h3 h4)
theorem zg_lsub (F : zg_F K cc own rm) {x y v : Int64} (hv : x - y = v) (d : decode cc pc = .ok (.lsub, 1)) (k : zg_G K P cells slots (pc + 1) L (.long v :: st)) : zg_G K P cells slots pc L (.long y :: .long x :: st) := fun w H locs ls h1 h2 h3 h4 => lv_lsub F.1 F.2.1 d (by rw [hv]; exact k w H locs ls h1 h2 h3 h4)
theorem zg_lmul (F : zg_F K cc own rm) {x y v : Int64} (hv : x * y = v) (d : decode cc pc = .ok (.lmul, 1)) (k : zg_G K P cells slots (pc + 1) L (.long v :: st)) : zg_G K P cells slots pc L (.long y :: .long x :: st) := fun w H locs ls h1 h2 h3 h4 => lv_lmul F.1 F.2.1 d (by rw [hv]; exact k w H locs ls h1 h2 h3 h4)
theorem zg_ineg (F : zg_F K cc own rm) {x v : Int32} (hv : -x = v) (d : decode cc pc = .ok (.ineg, 1)) (k : zg_G K P cells slots (pc + 1) L (.int v :: st)) : zg_G K P cells slots pc L (.int x :: st) := fun w H locs ls h1 h2 h3 h4 => lv_ineg F.1 F.2.1 d (by rw [hv]; exact k w H locs ls h1 h2 h3 h4)
theorem zg_i2l (F : zg_F K cc own rm) {x : Int32} {v : Int64} (hv : x.toInt64 = v) (d : decode cc pc = .ok (.i2l, 1)) (k : zg_G K P cells slots (pc + 1) L (.long v :: st)) : zg_G K P cells slots pc L (.int x :: st) := fun w H locs ls h1 h2 h3 h4 => lv_i2l F.1 F.2.1 d hv (k w H locs ls h1 h2 h3 h4)
theorem zg_dup (F : zg_F K cc own rm) {a : Value} (ha : a.category = 1) (d : decode cc pc = .ok (.dup, 1)) (k : zg_G K P cells slots (pc + 1) L (a :: a :: st)) : zg_G K P cells slots pc L (a :: st) := fun w H locs ls h1 h2 h3 h4 => lv_dup F.1 F.2.1 d ha (k w H locs ls h1 h2 h3 h4)
theorem zg_pop (F : zg_F K cc own rm) {a : Value} (ha : a.category = 1) (d : decode cc pc = .ok (.pop, 1)) (k : zg_G K P cells slots (pc + 1) L (st)) : zg_G K P cells slots pc L (a :: st) := fun w H locs ls h1 h2 h3 h4 => lv_pop F.1 F.2.1 d ha (k w H locs ls h1 h2 h3 h4)
theorem zg_dup2 (F : zg_F K cc own rm) {a b : Value} (ha : a.category = 1) (hb : b.category = 1) (d : decode cc pc = .ok (.dup2, 1)) (k : zg_G K P cells slots (pc + 1) L (a :: b :: a :: b :: st)) : zg_G K P cells slots pc L (a :: b :: st) := fun w H locs ls h1 h2 h3 h4 => lv_dup2_11 F.1 F.2.1 d ha hb (k w H locs ls h1 h2 h3 h4)
theorem zg_dup_x1 (F : zg_F K cc own rm) {a b : Value} (ha : a.category = 1) (hb : b.category = 1) (d : decode cc pc = .ok (.dup_x1, 1)) (k : zg_G K P cells slots (pc + 1) L (a :: b :: a :: st)) : zg_G K P cells slots pc L (a :: b :: st) := fun w H locs ls h1 h2 h3 h4 => lv_dup_x1 F.1 F.2.1 d ha hb (k w H locs ls h1 h2 h3 h4)
theorem zg_dup_x2 (F : zg_F K cc own rm) {a b c : Value} (ha : a.category = 1) (hb : b.category = 1) (hc : c.category = 1) (d : decode cc pc = .ok (.dup_x2, 1)) (k : zg_G K P cells slots (pc + 1) L (a :: b :: c :: a :: st)) : zg_G K P cells slots pc L (a :: b :: c :: st) := fun w H locs ls h1 h2 h3 h4 => lv_dup_x2 F.1 F.2.1 d ha hb hc (k w H locs ls h1 h2 h3 h4)
theorem zg_if_eq (F : zg_F K cc own rm) {x : Int32} {off : Int} {tgt : Nat} (d : decode cc pc = .ok (.ifCond .eq off, 3)) (ht : (pc : Int) + off = (tgt : Int)) (kt : x = 0 → zg_G K P cells slots tgt L st) (kf : ¬ x = 0 → zg_G K P cells slots (pc + 3) L st) : zg_G K P cells slots pc L (.int x :: st) := fun w H locs ls h1 h2 h3 h4 => lv_if_eq F.1 F.2.1 d ht (fun h => kt h w H locs ls h1 h2 h3 h4) (fun h => kf h w H locs ls h1 h2 h3 h4)
theorem zg_if_eqT (F : zg_F K cc own rm) {x : Int32} {off : Int} {tgt : Nat} (d : decode cc pc = .ok (.ifCond .eq off, 3)) (ht : (pc : Int) + off = (tgt : Int)) (h : x = 0) (k : zg_G K P cells slots tgt L st) : zg_G K P cells slots pc L (.int x :: st) := zg_if_eq F d ht (fun _ => k) (fun q => absurd h (by first | exact q | exact not_not_intro q))
theorem zg_if_eqF (F : zg_F K cc own rm) {x : Int32} {off : Int} (d : decode cc pc = .ok (.ifCond .eq off, 3)) {tgt : Nat} (ht : (pc : Int) + off = (tgt : Int)) (h : ¬ x = 0) (k : zg_G K P cells slots (pc + 3) L st) : zg_G K P cells slots pc L (.int x :: st) := zg_if_eq F d ht (fun q => absurd h (by first | exact not_not_intro q | exact q)) (fun _ => k)
theorem zg_icmp_eq (F : zg_F K cc own rm) {x y : Int32} {off : Int} {tgt : Nat} (d : decode cc pc = .ok (.if_icmp .eq off, 3)) (ht : (pc : Int) + off = (tgt : Int)) (kt : x = y → zg_G K P cells slots tgt L st) (kf : ¬ x = y → zg_G K P cells slots (pc + 3) L st) : zg_G K P cells slots pc L (.int y :: .int x :: st) := fun w H locs ls h1 h2 h3 h4 => lv_icmp_eq F.1 F.2.1 d ht (fun h => kt h w H locs ls h1 h2 h3 h4) (fun h => kf h w H locs ls h1 h2 h3 h4)
theorem zg_icmp_eqT (F : zg_F K cc own rm) {x y : Int32} {off : Int} {tgt : Nat} (d : decode cc pc = .ok (.if_icmp .eq off, 3)) (ht : (pc : Int) + off = (tgt : Int)) (h : x = y) (k : zg_G K P cells slots tgt L st) : zg_G K P cells slots pc L (.int y :: .int x :: st) := zg_icmp_eq F d ht (fun _ => k) (fun q => absurd h (by first | exact q | exact not_not_intro q))
theorem zg_icmp_eqF (F : zg_F K cc own rm) {x y : Int32} {off : Int} (d : decode cc pc = .ok (.if_icmp .eq off, 3)) {tgt : Nat} (ht : (pc : Int) + off = (tgt : Int)) (h : ¬ x = y) (k : zg_G K P cells slots (pc + 3) L st) : zg_G K P cells slots pc L (.int y :: .int x :: st) := zg_icmp_eq F d ht (fun q => absurd h (by first | exact not_not_intro q | exact q)) (fun _ => k)
theorem zg_if_ne (F : zg_F K cc own rm) {x : Int32} {off : Int} {tgt : Nat} (d : decode cc pc = .ok (.ifCond .ne off, 3)) (ht : (pc : Int) + off = (tgt : Int)) (kt : ¬ x = 0 → zg_G K P cells slots tgt L st) (kf : x = 0 → zg_G K P cells slots (pc + 3) L st) : zg_G K P cells slots pc L (.int x :: st) := fun w H locs ls h1 h2 h3 h4 => lv_if_ne F.1 F.2.1 d ht (fun h => kt h w H locs ls h1 h2 h3 h4) (fun h => kf h w H locs ls h1 h2 h3 h4)
theorem zg_if_neT (F : zg_F K cc own rm) {x : Int32} {off : Int} {tgt : Nat} (d : decode cc pc = .ok (.ifCond .ne off, 3)) (ht : (pc : Int) + off = (tgt : Int)) (h : ¬ x = 0) (k : zg_G K P cells slots tgt L st) : zg_G K P cells slots pc L (.int x :: st) := zg_if_ne F d ht (fun _ => k) (fun q => absurd h (by first | exact q | exact not_not_intro q))
theorem zg_if_neF (F : zg_F K cc own rm) {x : Int32} {off : Int} (d : decode cc pc = .ok (.ifCond .ne off, 3)) {tgt : Nat} (ht : (pc : Int) + off = (tgt : Int)) (h : x = 0) (k : zg_G K P cells slots (pc + 3) L st) : zg_G K P cells slots pc L (.int x :: st) := zg_if_ne F d ht (fun q => absurd h (by first | exact not_not_intro q | exact q)) (fun _ => k)
theorem zg_icmp_ne (F : zg_F K cc own rm) {x y : Int32} {off : Int} {tgt : Nat} (d : decode cc pc = .ok (.if_icmp .ne off, 3)) (ht : (pc : Int) + off = (tgt : Int)) (kt : ¬ x = y → zg_G K P cells slots tgt L st) (kf : x = y → zg_G K P cells slots (pc + 3) L st) : zg_G K P cells slots pc L (.int y :: .int x :: st) := fun w H locs ls h1 h2 h3 h4 => lv_icmp_ne F.1 F.2.1 d ht (fun h => kt h w H locs ls h1 h2 h3 h4) (fun h => kf h w H locs ls h1 h2 h3 h4)
theorem zg_icmp_neT (F : zg_F K cc own rm) {x y : Int32} {off : Int} {tgt : Nat} (d : decode cc pc = .ok (.if_icmp .ne off, 3)) (ht : (pc : Int) + off = (tgt : Int)) (h : ¬ x = y) (k : zg_G K P cells slots tgt L st) : zg_G K P cells slots pc L (.int y :: .int x :: st) := zg_icmp_ne F d ht (fun _ => k) (fun q => absurd h (by first | exact q | exact not_not_intro q))
theorem zg_icmp_neF (F : zg_F K cc own rm) {x y : Int32} {off : Int} (d : decode cc pc = .ok (.if_icmp .ne off, 3)) {tgt : Nat} (ht : (pc : Int) + off = (tgt : Int)) (h : x = y) (k : zg_G K P cells slots (pc + 3) L st) : zg_G K P cells slots pc L (.int y :: .int x :: st) := zg_icmp_ne F d ht (fun q => absurd h (by first | exact not_not_intro q | exact q)) (fun _ => k)
theorem zg_if_lt (F : zg_F K cc own rm) {x : Int32} {off : Int} {tgt : Nat} (d : decode cc pc = .ok (.ifCond .lt off, 3)) (ht : (pc : Int) + off = (tgt : Int)) (kt : x < 0 → zg_G K P cells slots tgt L st) (kf : ¬ x < 0 → zg_G K P cells slots (pc + 3) L st) : zg_G K P cells slots pc L (.int x :: st) := fun w H locs ls h1 h2 h3 h4 => lv_if_lt F.1 F.2.1 d ht (fun h => kt h w H locs ls h1 h2 h3 h4) (fun h => kf h w H locs ls h1 h2 h3 h4)
theorem zg_if_ltT (F : zg_F K cc own rm) {x : Int32} {off : Int} {tgt : Nat} (d : decode cc pc = .ok (.ifCond .lt off, 3)) (ht : (pc : Int) + off = (tgt : Int)) (h : x < 0) (k : zg_G K P cells slots tgt L st) : zg_G K P cells slots pc L (.int x :: st) := zg_if_lt F d ht (fun _ => k) (fun q => absurd h (by first | exact q | exact not_not_intro q))
theorem zg_if_ltF (F : zg_F K cc own rm) {x : Int32} {off : Int} (d : decode cc pc = .ok (.ifCond .lt off, 3)) {tgt : Nat} (ht : (pc : Int) + off = (tgt : Int)) (h : ¬ x < 0) (k : zg_G K P cells slots (pc + 3) L st) : zg_G K P cells slots pc L (.int x :: st) := zg_if_lt F d ht (fun q => absurd h (by first | exact not_not_intro q | exact q)) (fun _ => k)
theorem zg_icmp_lt (F : zg_F K cc own rm) {x y : Int32} {off : Int} {tgt : Nat} (d : decode cc pc = .ok (.if_icmp .lt off, 3)) (ht : (pc : Int) + off = (tgt : Int)) (kt : x < y → zg_G K P cells slots tgt L st) (kf : ¬ x < y → zg_G K P cells slots (pc + 3) L st) : zg_G K P cells slots pc L (.int y :: .int x :: st) := fun w H locs ls h1 h2 h3 h4 => lv_icmp_lt F.1 F.2.1 d ht (fun h => kt h w H locs ls h1 h2 h3 h4) (fun h => kf h w H locs ls h1 h2 h3 h4)
theorem zg_icmp_ltT (F : zg_F K cc own rm) {x y : Int32} {off : Int} {tgt : Nat} (d : decode cc pc = .ok (.if_icmp .lt off, 3)) (ht : (pc : Int) + off = (tgt : Int)) (h : x < y) (k : zg_G K P cells slots tgt L st) : zg_G K P cells slots pc L (.int y :: .int x :: st) := zg_icmp_lt F d ht (fun _ => k) (fun q => absurd h (by first | exact q | exact not_not_intro q))
theorem zg_icmp_ltF (F : zg_F K cc own rm) {x y : Int32} {off : Int} (d : decode cc pc = .ok (.if_icmp .lt off, 3)) {tgt : Nat} (ht : (pc : Int) + off = (tgt : Int)) (h : ¬ x < y) (k : zg_G K P cells slots (pc + 3) L st) : zg_G K P cells slots pc L (.int y :: .int x :: st) := zg_icmp_lt F d ht (fun q => absurd h (by first | exact not_not_intro q | exact q)) (fun _ => k)
theorem zg_if_ge (F : zg_F K cc own rm) {x : Int32} {off : Int} {tgt : Nat} (d : decode cc pc = .ok (.ifCond .ge off, 3)) (ht : (pc : Int) + off = (tgt : Int)) (kt : 0 ≤ x → zg_G K P cells slots tgt L st) (kf : ¬ 0 ≤ x → zg_G K P cells slots (pc + 3) L st) : zg_G K P cells slots pc L (.int x :: st) := fun w H locs ls h1 h2 h3 h4 => lv_if_ge F.1 F.2.1 d ht (fun h => kt h w H locs ls h1 h2 h3 h4) (fun h => kf h w H locs ls h1 h2 h3 h4)
theorem zg_if_geT (F : zg_F K cc own rm) {x : Int32} {off : Int} {tgt : Nat} (d : decode cc pc = .ok (.ifCond .ge off, 3)) (ht : (pc : Int) + off = (tgt : Int)) (h : 0 ≤ x) (k : zg_G K P cells slots tgt L st) : zg_G K P cells slots pc L (.int x :: st) := zg_if_ge F d ht (fun _ => k) (fun q => absurd h (by first | exact q | exact not_not_intro q))
theorem zg_if_geF (F : zg_F K cc own rm) {x : Int32} {off : Int} (d : decode cc pc = .ok (.ifCond .ge off, 3)) {tgt : Nat} (ht : (pc : Int) + off = (tgt : Int)) (h : ¬ 0 ≤ x) (k : zg_G K P cells slots (pc + 3) L st) : zg_G K P cells slots pc L (.int x :: st) := zg_if_ge F d ht (fun q => absurd h (by first | exact not_not_intro q | exact q)) (fun _ => k)
theorem zg_icmp_ge (F : zg_F K cc own rm) {x y : Int32} {off : Int} {tgt : Nat} (d : decode cc pc = .ok (.if_icmp .ge off, 3)) (ht : (pc : Int) + off = (tgt : Int)) (kt : y ≤ x → zg_G K P cells slots tgt L st) (kf : ¬ y ≤ x → zg_G K P cells slots (pc + 3) L st) : zg_G K P cells slots pc L (.int y :: .int x :: st) := fun w H locs ls h1 h2 h3 h4 => lv_icmp_ge F.1 F.2.1 d ht (fun h => kt h w H locs ls h1 h2 h3 h4) (fun h => kf h w H locs ls h1 h2 h3 h4)
theorem zg_icmp_geT (F : zg_F K cc own rm) {x y : Int32} {off : Int} {tgt : Nat} (d : decode cc pc = .ok (.if_icmp .ge off, 3)) (ht : (pc : Int) + off = (tgt : Int)) (h : y ≤ x) (k : zg_G K P cells slots tgt L st) : zg_G K P cells slots pc L (.int y :: .int x :: st) := zg_icmp_ge F d ht (fun _ => k) (fun q => absurd h (by first | exact q | exact not_not_intro q))
theorem zg_icmp_geF (F : zg_F K cc own rm) {x y : Int32} {off : Int} (d : decode cc pc = .ok (.if_icmp .ge off, 3)) {tgt : Nat} (ht : (pc : Int) + off = (tgt : Int)) (h : ¬ y ≤ x) (k : zg_G K P cells slots (pc + 3) L st) : zg_G K P cells slots pc L (.int y :: .int x :: st) := zg_icmp_ge F d ht (fun q => absurd h (by first | exact not_not_intro q | exact q)) (fun _ => k)
theorem zg_if_gt (F : zg_F K cc own rm) {x : Int32} {off : Int} {tgt : Nat} (d : decode cc pc = .ok (.ifCond .gt off, 3)) (ht : (pc : Int) + off = (tgt : Int)) (kt : 0 < x → zg_G K P cells slots tgt L st) (kf : ¬ 0 < x → zg_G K P cells slots (pc + 3) L st) : zg_G K P cells slots pc L (.int x :: st) := fun w H locs ls h1 h2 h3 h4 => lv_if_gt F.1 F.2.1 d ht (fun h => kt h w H locs ls h1 h2 h3 h4) (fun h => kf h w H locs ls h1 h2 h3 h4)
theorem zg_if_gtT (F : zg_F K cc own rm) {x : Int32} {off : Int} {tgt : Nat} (d : decode cc pc = .ok (.ifCond .gt off, 3)) (ht : (pc : Int) + off = (tgt : Int)) (h : 0 < x) (k : zg_G K P cells slots tgt L st) : zg_G K P cells slots pc L (.int x :: st) := zg_if_gt F d ht (fun _ => k) (fun q => absurd h (by first | exact q | exact not_not_intro q))
theorem zg_if_gtF (F : zg_F K cc own rm) {x : Int32} {off : Int} (d : decode cc pc = .ok (.ifCond .gt off, 3)) {tgt : Nat} (ht : (pc : Int) + off = (tgt : Int)) (h : ¬ 0 < x) (k : zg_G K P cells slots (pc + 3) L st) : zg_G K P cells slots pc L (.int x :: st) := zg_if_gt F d ht (fun q => absurd h (by first | exact not_not_intro q | exact q)) (fun _ => k)
theorem zg_icmp_gt (F : zg_F K cc own rm) {x y : Int32} {off : Int} {tgt : Nat} (d : decode cc pc = .ok (.if_icmp .gt off, 3)) (ht : (pc : Int) + off = (tgt : Int)) (kt : y < x → zg_G K P cells slots tgt L st) (kf : ¬ y < x → zg_G K P cells slots (pc + 3) L st) : zg_G K P cells slots pc L (.int y :: .int x :: st) := fun w H locs ls h1 h2 h3 h4 => lv_icmp_gt F.1 F.2.1 d ht (fun h => kt h w H locs ls h1 h2 h3 h4) (fun h => kf h w H locs ls h1 h2 h3 h4)
theorem zg_icmp_gtT (F : zg_F K cc own rm) {x y : Int32} {off : Int} {tgt : Nat} (d : decode cc pc = .ok (.if_icmp .gt off, 3)) (ht : (pc : Int) + off = (tgt : Int)) (h : y < x) (k : zg_G K P cells slots tgt L st) : zg_G K P cells slots pc L (.int y :: .int x :: st) := zg_icmp_gt F d ht (fun _ => k) (fun q => absurd h (by first | exact q | exact not_not_intro q))
theorem zg_icmp_gtF (F : zg_F K cc own rm) {x y : Int32} {off : Int} (d : decode cc pc = .ok (.if_icmp .gt off, 3)) {tgt : Nat} (ht : (pc : Int) + off = (tgt : Int)) (h : ¬ y < x) (k : zg_G K P cells slots (pc + 3) L st) : zg_G K P cells slots pc L (.int y :: .int x :: st) := zg_icmp_gt F d ht (fun q => absurd h (by first | exact not_not_intro q | exact q)) (fun _ => k)
theorem zg_if_le (F : zg_F K cc own rm) {x : Int32} {off : Int} {tgt : Nat} (d : decode cc pc = .ok (.ifCond .le off, 3)) (ht : (pc : Int) + off = (tgt : Int)) (kt : x ≤ 0 → zg_G K P cells slots tgt L st) (kf : ¬ x ≤ 0 → zg_G K P cells slots (pc + 3) L st) : zg_G K P cells slots pc L (.int x :: st) := fun w H locs ls h1 h2 h3 h4 => lv_if_le F.1 F.2.1 d ht (fun h => kt h w H locs ls h1 h2 h3 h4) (fun h => kf h w H locs ls h1 h2 h3 h4)
theorem zg_if_leT (F : zg_F K cc own rm) {x : Int32} {off : Int} {tgt : Nat} (d : decode cc pc = .ok (.ifCond .le off, 3)) (ht : (pc : Int) + off = (tgt : Int)) (h : x ≤ 0) (k : zg_G K P cells slots tgt L st) : zg_G K P cells slots pc L (.int x :: st) := zg_if_le F d ht (fun _ => k) (fun q => absurd h (by first | exact q | exact not_not_intro q))
theorem zg_if_leF (F : zg_F K cc own rm) {x : Int32} {off : Int} (d : decode cc pc = .ok (.ifCond .le off, 3)) {tgt : Nat} (ht : (pc : Int) + off = (tgt : Int)) (h : ¬ x ≤ 0) (k : zg_G K P cells slots (pc + 3) L st) : zg_G K P cells slots pc L (.int x :: st) := zg_if_le F d ht (fun q => absurd h (by first | exact not_not_intro q | exact q)) (fun _ => k)
theorem zg_icmp_le (F : zg_F K cc own rm) {x y : Int32} {off : Int} {tgt : Nat} (d : decode cc pc = .ok (.if_icmp .le off, 3)) (ht : (pc : Int) + off = (tgt : Int)) (kt : x ≤ y → zg_G K P cells slots tgt L st) (kf : ¬ x ≤ y → zg_G K P cells slots (pc + 3) L st) : zg_G K P cells slots pc L (.int y :: .int x :: st) := fun w H locs ls h1 h2 h3 h4 => lv_icmp_le F.1 F.2.1 d ht (fun h => kt h w H locs ls h1 h2 h3 h4) (fun h => kf h w H locs ls h1 h2 h3 h4)
theorem zg_icmp_leT (F : zg_F K cc own rm) {x y : Int32} {off : Int} {tgt : Nat} (d : decode cc pc = .ok (.if_icmp .le off, 3)) (ht : (pc : Int) + off = (tgt : Int)) (h : x ≤ y) (k : zg_G K P cells slots tgt L st) : zg_G K P cells slots pc L (.int y :: .int x :: st) := zg_icmp_le F d ht (fun _ => k) (fun q => absurd h (by first | exact q | exact not_not_intro q))
theorem zg_icmp_leF (F : zg_F K cc own rm) {x y : Int32} {off : Int} (d : decode cc pc = .ok (.if_icmp .le off, 3)) {tgt : Nat} (ht : (pc : Int) + off = (tgt : Int)) (h : ¬ x ≤ y) (k : zg_G K P cells slots (pc + 3) L st) : zg_G K P cells slots pc L (.int y :: .int x :: st) := zg_icmp_le F d ht (fun q => absurd h (by first | exact not_not_intro q | exact q)) (fun _ => k)
theorem zg_goto (F : zg_F K cc own rm) {off : Int} {tgt : Nat} (d : decode cc pc = .ok (.goto off, 3)) (ht : (pc : Int) + off = (tgt : Int)) (k : zg_G K P cells slots tgt L st) : zg_G K P cells slots pc L st := fun w H locs ls h1 h2 h3 h4 => lv_goto F.1 F.2.1 d ht (k w H locs ls h1 h2 h3 h4)
theorem zg_lcmp (F : zg_F K cc own rm) {x y : Int64} {v : Int32} (hv : lg_cmp x y = v) (d : decode cc pc = .ok (.lcmp, 1)) (k : zg_G K P cells slots (pc + 1) L (.int v :: st)) : zg_G K P cells slots pc L (.long y :: .long x :: st) := fun w H locs ls h1 h2 h3 h4 => W.lcmp F.1 F.2.1 d (by rw [hv]; exact k w H locs ls h1 h2 h3 h4)
theorem zg_ldcI (F : zg_F K cc own rm) {index : Nat} {v : Int32} (hc : Jvm.Cond.constant own index v ∈ zw_A) (d : decode cc pc = .ok (.ldc index, 2)) (k : zg_G K P cells slots (pc + 2) L (.int v :: st)) : zg_G K P cells slots pc L st := fun w H locs ls h1 h2 h3 h4 => W.ldc F.1 F.2.1 F.2.2.2.1 (F.2.2.2.2.1 _ hc) (g := F0 (zk_m K) pc ls st) rfl d (k w H locs ls h1 h2 h3 h4)
theorem zg_get (F : zg_F K cc own rm) {a ci N index : Nat} {C : String} {T : u_T} {fs : List Value} {v : Value} (hw : ∀ w z, P w z → w a = some (.inr (ci, fs))) (hc : vwCl[ci]? = some (C, T, N)) (hin : ∀ w ∈ u_ws C T N, w ∈ zw_A) (j : Nat) (hj : j < N) (hT : (T j).1 = C) (hl : Cond.fieldLink own index C (T j).2.1 (T j).2.2.1 ∈ zw_A) (hv : fs[j]? = some v) (d : decode cc pc = .ok (.getfield index, 3)) (k : zg_G K P cells slots (pc + 3) L (v :: st)) : zg_G K P cells slots pc L (.ref a :: st) := fun w H locs ls h1 h2 h3 h4 =>
  va_get (ws := [(a, .inr (ci, fs))]) F.1 F.2.1 F.2.2.2.2.1 hin F.2.2.2.1 F.2.2.2.2.2.1 (fun i q hq => by
    have hz : i < 1 := (List.getElem?_eq_some_iff.mp hq).1
    rw [show i = 0 by omega] at hq
    cases hq
    exact (h2 a _ (hw w _ h1)).2) 0 rfl hc j hj (F.2.2.2.2.1 _ hl) (by rw [hT]; exact fun _ h => h) hv d (k w H locs ls h1 h2 h3 h4)
theorem zg_put (F : zg_F K cc own rm) {P' : zg_P} {a ci N index : Nat} {C : String} {T : u_T} {fs : List Value} {v : Value} {ty : FieldType} (hw : ∀ w z, P w z → w a = some (.inr (ci, fs))) (hc : vwCl[ci]? = some (C, T, N)) (hin : ∀ w ∈ u_ws C T N, w ∈ zw_A) (ty0 : Nat → FieldType) (hty : ∀ k, k < N → parseFieldDescriptor (T k).2.2.1 = some (ty0 k)) (hnm : ∀ a, a < N → ∀ b, b < N → a ≠ b → (T a).2.1 ≠ (T b).2.1) (j : Nat) (hj : j < N) (hT : (T j).1 = C) (hl : Cond.fieldLink own index C (T j).2.1 (T j).2.2.1 ∈ zw_A) (hfin : (T j).2.2.2 = false) (hd : ty0 j = ty) (hn : narrow ty v = v) (hfit : fits ty v = true) (hlen : j < fs.length) (hP : ∀ w z, P w z → P' (zg_u w a (.inr (ci, fs.set j v))) z) (d : decode cc pc = .ok (.putfield index, 3)) (k : zg_G K P' cells slots (pc + 3) L st) : zg_G K P cells slots pc L (v :: .ref a :: st) := by
  intro w H locs ls h1 h2 h3 h4
  have hK := F.2.2.2.2.2.1
  have hts := F.2.2.2.2.1
  have hap := va_apart (own := own) hts hin ty0 hty hnm hK hc
  obtain ⟨hba, r, g1, cell, q1, q2, q3, q4⟩ := h2 a _ (hw w _ h1)
  have hr : r = (C, T, N) := Option.some.inj (g1.symm.trans hc)
  subst hr
  obtain ⟨hS, hfc, kC, hkC, hkind⟩ := hK.1 ci _ hc
  obtain ⟨cf, kf, fi, f, hi, hsl⟩ := hS j hj
  have hlay := hts _ (hin _ (u_in_lay hj))
  unfold u_lay at hlay
  rw [if_neg (by rw [hfin]; decide)] at hlay
  have hst := (u_facts hfc hkC (u_lays hts hin hj) hi).1
  have h6 := u_store hfc hkC hkind hlay hi (by rw [hty j hj, hd]) hn hfit
  refine W.putK F.1 F.2.1 (f := f) ⟨F.2.2.2.1, hts _ hl, ⟨_, _, _, by rw [hT] at hi; exact hi⟩, hst⟩ (by rw [q2]; exact h6) q1 q3 (by rw [hsl]; exact k2_hasslot (q4 j hj)) rfl rfl d fun H' e1 e2 e3 => ?_
  rw [hsl] at e1 ⊢
  refine k (zg_u w a (.inr (ci, fs.set j v))) H' _ ls (by rw [e2]; exact hP w _ h1) (h2.set hba ⟨_, hc, t_OB.to (V := updV (vp_V fs) j v) ⟨_, e1, q2, q3, t_set q4 hap hj v⟩ (fun i _ => vp_updV_set hlen v i)⟩ e3) (h3.put e2 e3 hba) h4
theorem zg_putF (F : zg_F K cc own rm) {P' : zg_P} {a ci N index : Nat} {C : String} {T : u_T} {fs : List Value} {v : Value} {ty : FieldType} (hinit : (zk_t K).name = "<init>") (hw : ∀ w z, P w z → w a = some (.inr (ci, fs))) (hc : vwCl[ci]? = some (C, T, N)) (hin : ∀ w ∈ u_ws C T N, w ∈ zw_A) (ty0 : Nat → FieldType) (hty : ∀ k, k < N → parseFieldDescriptor (T k).2.2.1 = some (ty0 k)) (hnm : ∀ a, a < N → ∀ b, b < N → a ≠ b → (T a).2.1 ≠ (T b).2.1) (j : Nat) (hj : j < N) (hT : (T j).1 = C) (hO : C = own) (hl : Cond.fieldLink own index C (T j).2.1 (T j).2.2.1 ∈ zw_A) (hfin : (T j).2.2.2 = true) (hd : ty0 j = ty) (hn : narrow ty v = v) (hfit : fits ty v = true) (hlen : j < fs.length) (hP : ∀ w z, P w z → P' (zg_u w a (.inr (ci, fs.set j v))) z) (d : decode cc pc = .ok (.putfield index, 3)) (k : zg_G K P' cells slots (pc + 3) L st) : zg_G K P cells slots pc L (v :: .ref a :: st) := by
  intro w H locs ls h1 h2 h3 h4
  have hK := F.2.2.2.2.2.1
  have hts := F.2.2.2.2.1
  have hown := F.2.2.2.1
  have hap := va_apart (own := own) hts hin ty0 hty hnm hK hc
  obtain ⟨hba, r, g1, cell, q1, q2, q3, q4⟩ := h2 a _ (hw w _ h1)
  have hr : r = (C, T, N) := Option.some.inj (g1.symm.trans hc)
  subst hr
  obtain ⟨hS, hfc, kC, hkC, hkind⟩ := hK.1 ci _ hc
  obtain ⟨cf, kf, fi, f, hi, hsl⟩ := hS j hj
  have hlay := hts _ (hin _ (u_in_lay hj))
  unfold u_lay at hlay
  rw [if_pos hfin] at hlay
  have hst := (u_facts hfc hkC (u_lays hts hin hj) hi).1
  have hcf : (zk_m K).cls = cf := by
    obtain ⟨_, _, c', _, _, _, -, -, hf', -, -, -, hown2, -⟩ := Cond.laysFinal_spec hlay
    have e1 : c' = cf := by have := hi.symm.trans hf'; simp at this; exact this.1.symm
    rw [hT, hO] at hown2
    rw [← e1]; exact Option.some.inj (hown.symm.trans hown2)
  have h6 := u_fits hfc hkC hkind (Or.inr hlay) hi (by rw [hty j hj, hd]) hn hfit
  refine W.putFinK F.1 F.2.1 hown (hts _ hl) (by rw [hT] at hi; exact hi) hst hcf hinit (by rw [q2]; exact h6) q1 q3 (by rw [hsl]; exact k2_hasslot (q4 j hj)) rfl rfl d fun H' e1 e2 e3 => ?_
  rw [hsl] at e1 ⊢
  refine k (zg_u w a (.inr (ci, fs.set j v))) H' _ ls (by rw [e2]; exact hP w _ h1) (h2.set hba ⟨_, hc, t_OB.to (V := updV (vp_V fs) j v) ⟨_, e1, q2, q3, t_set q4 hap hj v⟩ (fun i _ => vp_updV_set hlen v i)⟩ e3) (h3.put e2 e3 hba) h4
theorem zg_iald (F : zg_F K cc own rm) {a n j : Nat} {f : Nat → Int32} {v : Int32} (hw : ∀ w z, P w z → w a = some (.inl (zk_A K 0, n, .inl f))) (hj : j < n) (hn : n < 2 ^ 31) (hv : f j = v) (d : decode cc pc = .ok (.iaload, 1)) (k : zg_G K P cells slots (pc + 1) L (.int v :: st)) : zg_G K P cells slots pc L (.int (nI j) :: .ref a :: st) := fun w H locs ls h1 h2 h3 h4 =>
  va_iald (ws := [(a, .inl (zk_A K 0, n, .inl f))]) (cA := zk_A K 0) (f := f) F.1 F.2.1 F.2.2.2.2.2.1 (fun i q hq => by
    have hz : i < 1 := (List.getElem?_eq_some_iff.mp hq).1
    rw [show i = 0 by omega] at hq
    cases hq
    exact (h2 a _ (hw w _ h1)).2) 0 0 rfl rfl (vp_in_nI hj hn) d (by rw [nI_clamp (by omega), hv]; exact k w H locs ls h1 h2 h3 h4)
theorem zg_zald (F : zg_F K cc own rm) {a n j : Nat} {f : Nat → Int32} {v : Int32} (hw : ∀ w z, P w z → w a = some (.inl (zk_A K 1, n, .inl f))) (hj : j < n) (hn : n < 2 ^ 31) (hv : f j = v) (d : decode cc pc = .ok (.baload, 1)) (k : zg_G K P cells slots (pc + 1) L (.int v :: st)) : zg_G K P cells slots pc L (.int (nI j) :: .ref a :: st) := fun w H locs ls h1 h2 h3 h4 =>
  va_zald (ws := [(a, .inl (zk_A K 1, n, .inl f))]) (cA := zk_A K 1) (f := f) F.1 F.2.1 F.2.2.2.2.2.1 (fun i q hq => by
    have hz : i < 1 := (List.getElem?_eq_some_iff.mp hq).1
    rw [show i = 0 by omega] at hq
    cases hq
    exact (h2 a _ (hw w _ h1)).2) 0 1 rfl rfl (vp_in_nI hj hn) d (by rw [nI_clamp (by omega), hv]; exact k w H locs ls h1 h2 h3 h4)
theorem zg_lald (F : zg_F K cc own rm) {a n j : Nat} {f : Nat → Int64} {v : Int64} (hw : ∀ w z, P w z → w a = some (.inl (zk_A K 2, n, .inr (.inl f)))) (hj : j < n) (hn : n < 2 ^ 31) (hv : f j = v) (d : decode cc pc = .ok (.laload, 1)) (k : zg_G K P cells slots (pc + 1) L (.long v :: st)) : zg_G K P cells slots pc L (.int (nI j) :: .ref a :: st) := fun w H locs ls h1 h2 h3 h4 =>
  va_lald (ws := [(a, .inl (zk_A K 2, n, .inr (.inl f)))]) (cA := zk_A K 2) (f := f) F.1 F.2.1 F.2.2.2.2.2.1 (fun i q hq => by
    have hz : i < 1 := (List.getElem?_eq_some_iff.mp hq).1
    rw [show i = 0 by omega] at hq
    cases hq
    exact (h2 a _ (hw w _ h1)).2) 0 2 rfl rfl (vp_in_nI hj hn) d (by rw [nI_clamp (by omega), hv]; exact k w H locs ls h1 h2 h3 h4)
theorem zg_aald (F : zg_F K cc own rm) {a n j t0 q : Nat} {C : String} {f : Nat → Option Nat} (hw : ∀ w z, P w z → w a = some (.inl (zk_A K t0, n, .inr (.inr (.inr (.inr f)))))) (ht : (zg_T (zk_A K))[t0]? = some (zk_A K t0, .object C)) (hj : j < n) (hn : n < 2 ^ 31) (hv : f j = some q) (d : decode cc pc = .ok (.aaload, 1)) (k : zg_G K P cells slots (pc + 1) L (.ref q :: st)) : zg_G K P cells slots pc L (.int (nI j) :: .ref a :: st) := fun w H locs ls h1 h2 h3 h4 =>
  va_aldq (ws := [(a, .inl (zk_A K t0, n, .inr (.inr (.inr (.inr f)))))]) (cA := zk_A K t0) (f := f) F.1 F.2.1 F.2.2.2.2.2.1 (fun i q hq => by
    have hz : i < 1 := (List.getElem?_eq_some_iff.mp hq).1
    rw [show i = 0 by omega] at hq
    cases hq
    exact (h2 a _ (hw w _ h1)).2) 0 t0 rfl ht (vp_in_nI hj hn) d (by rw [nI_clamp (by omega), hv]; exact k w H locs ls h1 h2 h3 h4)
theorem zg_iast (F : zg_F K cc own rm) {P' : zg_P} {a n j : Nat} {f : Nat → Int32} {x : Int32} (hw : ∀ w z, P w z → w a = some (.inl (zk_A K 0, n, .inl (f)))) (hj : j < n) (hn : n < 2 ^ 31) (hP : ∀ w z, P w z → P' (zg_u w a (.inl (zk_A K 0, n, .inl (upd f j x)))) z) (d : decode cc pc = .ok (.iastore, 1)) (k : zg_G K P' cells slots (pc + 1) L st) : zg_G K P cells slots pc L (.int x :: .int (nI j) :: .ref a :: st) := by
  intro w H locs ls h1 h2 h3 h4
  obtain ⟨hba, hat⟩ := h2 a _ (hw w _ h1)
  refine W.iast F.1 F.2.1 hat ((F.2.2.2.2.2.1.2 0 _ rfl).1 n (fun i => .int (f i))) (fun q => by cases q) (by show ¬ (nI j < 0 ∨ (arrV _ _ _).slots.size ≤ _); rw [arrV_size]; exact vp_in_nI hj hn) rfl rfl d fun H1 e z oq => ?_
  have hcl : (nI j).toNatClampNeg = j := nI_clamp (by omega)
  rw [hcl] at e ⊢
  refine k (zg_u w a (.inl (zk_A K 0, n, .inl (upd f j x)))) H1 _ ls (by rw [z]; exact hP w _ h1) (h2.set hba ?_ oq) (h3.put z oq hba) h4
  show H1[a]? = some (vp_cell _ _)
  rw [e, vp_cell_i, vp_cell_i, arrV_store]
  congr 2
  funext q
  by_cases hq : q = j
  · subst hq
    simp [updV, upd]
    try rfl
  · simp [updV, upd, hq]
theorem zg_zast (F : zg_F K cc own rm) {P' : zg_P} {a n j : Nat} {f : Nat → Int32} {x : Int32} (hw : ∀ w z, P w z → w a = some (.inl (zk_A K 1, n, .inl (f)))) (hj : j < n) (hn : n < 2 ^ 31) (hP : ∀ w z, P w z → P' (zg_u w a (.inl (zk_A K 1, n, .inl (upd f j (vp_nar .boolean x))))) z) (d : decode cc pc = .ok (.bastore, 1)) (k : zg_G K P' cells slots (pc + 1) L st) : zg_G K P cells slots pc L (.int x :: .int (nI j) :: .ref a :: st) := by
  intro w H locs ls h1 h2 h3 h4
  obtain ⟨hba, hat⟩ := h2 a _ (hw w _ h1)
  refine W.zast F.1 F.2.1 hat ((F.2.2.2.2.2.1.2 1 _ rfl).1 n (fun i => .int (f i))) (fun q => by cases q) (by show ¬ (nI j < 0 ∨ (arrV _ _ _).slots.size ≤ _); rw [arrV_size]; exact vp_in_nI hj hn) rfl rfl d fun H1 e z oq => ?_
  have hcl : (nI j).toNatClampNeg = j := nI_clamp (by omega)
  rw [hcl] at e ⊢
  refine k (zg_u w a (.inl (zk_A K 1, n, .inl (upd f j (vp_nar .boolean x))))) H1 _ ls (by rw [z]; exact hP w _ h1) (h2.set hba ?_ oq) (h3.put z oq hba) h4
  show H1[a]? = some (vp_cell _ _)
  rw [e, vp_cell_i, vp_cell_i, arrV_store]
  congr 2
  funext q
  by_cases hq : q = j
  · subst hq
    simp [updV, upd, vp_nar]
    try rfl
  · simp [updV, upd, vp_nar, hq]
theorem zg_last (F : zg_F K cc own rm) {P' : zg_P} {a n j : Nat} {f : Nat → Int64} {x : Int64} (hw : ∀ w z, P w z → w a = some (.inl (zk_A K 2, n, .inr (.inl (f))))) (hj : j < n) (hn : n < 2 ^ 31) (hP : ∀ w z, P w z → P' (zg_u w a (.inl (zk_A K 2, n, .inr (.inl (vp_updL f j x))))) z) (d : decode cc pc = .ok (.lastore, 1)) (k : zg_G K P' cells slots (pc + 1) L st) : zg_G K P cells slots pc L (.long x :: .int (nI j) :: .ref a :: st) := by
  intro w H locs ls h1 h2 h3 h4
  obtain ⟨hba, hat⟩ := h2 a _ (hw w _ h1)
  refine W.last F.1 F.2.1 hat ((F.2.2.2.2.2.1.2 2 _ rfl).1 n (fun i => .long (f i))) (fun q => by cases q) (by show ¬ (nI j < 0 ∨ (arrV _ _ _).slots.size ≤ _); rw [arrV_size]; exact vp_in_nI hj hn) rfl rfl d fun H1 e z oq => ?_
  have hcl : (nI j).toNatClampNeg = j := nI_clamp (by omega)
  rw [hcl] at e ⊢
  refine k (zg_u w a (.inl (zk_A K 2, n, .inr (.inl (vp_updL f j x))))) H1 _ ls (by rw [z]; exact hP w _ h1) (h2.set hba ?_ oq) (h3.put z oq hba) h4
  show H1[a]? = some (vp_cell _ _)
  rw [e, vp_cell_l, vp_cell_l, arrV_store]
  congr 2
  funext q
  by_cases hq : q = j
  · subst hq
    simp [updV, vp_updL]
    try rfl
  · simp [updV, vp_updL, hq]
theorem zg_aast (F : zg_F K cc own rm) {P' : zg_P} {a n j t0 v ci : Nat} {r : vw_C} {vs : List Value} {f : Nat → Option Nat} (hw : ∀ w z, P w z → w a = some (.inl (zk_A K t0, n, .inr (.inr (.inr (.inr f)))))) (ht : (zg_T (zk_A K))[t0]? = some (zk_A K t0, .object r.1)) (hv : ∀ w z, P w z → w v = some (.inr (ci, vs))) (hc : vwCl[ci]? = some r) (hj : j < n) (hn : n < 2 ^ 31) (hP : ∀ w z, P w z → P' (zg_u w a (.inl (zk_A K t0, n, .inr (.inr (.inr (.inr (va_up f j (some v)))))))) z) (d : decode cc pc = .ok (.aastore, 1)) (k : zg_G K P' cells slots (pc + 1) L st) : zg_G K P cells slots pc L (.ref v :: .int (nI j) :: .ref a :: st) := by
  intro w H locs ls h1 h2 h3 h4
  have hK := F.2.2.2.2.2.1
  obtain ⟨hba, hat⟩ := h2 a _ (hw w _ h1)
  obtain ⟨-, r', hr', cellV, g1, g2, g3, -⟩ := h2 v _ (hv w _ h1)
  have hin : vp_in (nI j) n := vp_in_nI hj hn
  have hcl : (nI j).toNatClampNeg = j := nI_clamp (by omega)
  have h0 : ¬ nI j < 0 := fun q => hin (Or.inl q)
  have hcls := (hK.1 ci r hc).2
  obtain ⟨kA, comp, k1, k2, k3, -⟩ := (hK.2 t0 _ ht).2
  have hcomp : comp = (zk_D K).1 ci := Option.some.inj (k3.symm.trans hcls.1)
  subst hcomp
  obtain ⟨kC, hkC, -⟩ := hcls.2
  refine W.aast F.1 F.2.1 hat (fun q h => by cases h) (fun h => by cases h) k1 k2 rfl hkC ⟨h0, by show _ < (arrV _ _ _).slots.size; rw [arrV_size, hcl]; exact hj⟩ g1 (fun q h => by rw [g3] at h; cases h) (by rw [g2]; exact hkC) (by rw [g2]; exact va_assign hcls) rfl rfl d fun H1 e z oq => ?_
  rw [hcl] at e ⊢
  refine k (zg_u w a (.inl (zk_A K t0, n, .inr (.inr (.inr (.inr (va_up f j (some v)))))))) H1 _ ls (by rw [z]; exact hP w _ h1) (h2.set hba ?_ oq) (h3.put z oq hba) h4
  show H1[a]? = some (vp_cell _ _)
  rw [e, vp_cell_q, vp_cell_q, arrV_store]
  congr 2
  funext q
  by_cases hq : q = j
  · subst hq
    simp [updV, va_up, va_rf]
  · simp [updV, va_up, hq]
theorem zg_new (F : zg_F K cc own rm) {P' : zg_P} {ci N index sz : Nat} {C : String} {T : u_T} {fs : List Value} (hc : vwCl[ci]? = some (C, T, N)) (hin : ∀ w ∈ u_ws C T N, w ∈ zw_A) (ty0 : Nat → FieldType) (hty : ∀ k, k < N → parseFieldDescriptor (T k).2.2.1 = some (ty0 k)) (hcl : Cond.classLink own index C ∈ zw_A) (hinst : Cond.instantiable C N ∈ zw_A) (hini : Cond.initialized C ∈ zw_A) (hfs : ∀ j, j < N → defaultValue (ty0 j) = vp_V fs j) (hcells : cells + 1 ≤ rm.cells) (hslots : slots + N ≤ rm.slots) (hz : ∀ w z, P w z → z = sz) (hP : ∀ w, P w sz → w sz = none → P' (zg_u w sz (.inr (ci, fs))) (sz + 1)) (d : decode cc pc = .ok (.new index, 3)) (k : zg_G K P' (cells + 1) (slots + N) (pc + 3) L (.ref sz :: st)) : zg_G K P cells slots pc L st := by
  intro w H locs ls h1 h2 h3 h4
  have hts := F.2.2.2.2.1
  have hKn := F.2.2.2.2.2.1.1 ci _ hc
  have hsz := hz w _ h1
  have hbase : zk_z K ≤ H.size := Nat.le_trans (zf_b F) h3.1
  refine W.newcK F.1 F.2.1 F.2.2.2.1 (hts _ hcl) (hts _ hinst) (hts _ hini) rfl d (by rw [zf_R F]; exact hcells) (by rw [zf_R F]; exact hslots) hKn.2.1 hsz fun H1 kC hkC e1 z1 o1 => ?_
  subst hsz
  refine k (zg_u w H.size (.inr (ci, fs))) H1 locs ls (by rw [z1]; exact hP w h1 (h2.none (Nat.le_refl _))) (h2.push hbase ⟨_, hc, (u_born ty0 hts hin hKn hkC e1 hty).to hfs⟩ o1) ⟨Nat.le_trans h3.1 (by omega), fun x g1 g2 => (o1 x (Nat.lt_of_lt_of_le g1 h3.1)).trans (h3.2.1 x g1 g2), h3.2.2⟩ h4
theorem zg_newI (F : zg_F K cc own rm) {P' : zg_P} {n sz : Nat} (harr : Cond.arrayClass .int ∈ zw_A) (hn : n < 1024) (hcells : cells + 1 ≤ rm.cells) (hslots : slots + n ≤ rm.slots) (hz : ∀ w z, P w z → z = sz) (hP : ∀ w, P w sz → w sz = none → P' (zg_u w sz (.inl (zk_A K 0, n, .inl (fun _ => 0)))) (sz + 1)) (d : decode cc pc = .ok (.newarray .int, 2)) (k : zg_G K P' (cells + 1) (slots + n) (pc + 2) L (.ref sz :: st)) : zg_G K P cells slots pc L (.int (nI n) :: st) := by
  intro w H locs ls h1 h2 h3 h4
  have hts := F.2.2.2.2.1
  have hsz := hz w _ h1
  have hbase : zk_z K ≤ H.size := Nat.le_trans (zf_b F) h3.1
  refine va_newaK (atype := .int) F.1 F.2.1 (hts _ harr) rfl d rfl (nI_pos (by omega)) (nI_clamp (by omega)) (by show n * _ ≤ _; simp only [componentBytes, newarray.typeOf]; omega) (by rw [zf_R F]; exact hcells) (by rw [zf_R F]; exact hslots) hsz fun H1 cA e1 z1 o1 hAr hNm => ?_
  have hcA : cA = zk_A K 0 := Option.some.inj (hNm.symm.trans (F.2.2.2.2.2.1.2 0 _ rfl).2)
  subst hcA
  subst hsz
  refine k (zg_u w H.size (.inl (zk_A K 0, n, .inl (fun _ => 0)))) H1 locs ls (by rw [z1]; exact hP w h1 (h2.none (Nat.le_refl _))) (h2.push hbase ?_ o1) ⟨Nat.le_trans h3.1 (by omega), fun x g1 g2 => (o1 x (Nat.lt_of_lt_of_le g1 h3.1)).trans (h3.2.1 x g1 g2), h3.2.2⟩ h4
  show H1[H.size]? = some (vp_cell _ _)
  rw [e1, vp_cell_i]
  rfl
theorem zg_newZ (F : zg_F K cc own rm) {P' : zg_P} {n sz : Nat} (harr : Cond.arrayClass .boolean ∈ zw_A) (hn : n < 1024) (hcells : cells + 1 ≤ rm.cells) (hslots : slots + n ≤ rm.slots) (hz : ∀ w z, P w z → z = sz) (hP : ∀ w, P w sz → w sz = none → P' (zg_u w sz (.inl (zk_A K 1, n, .inl (fun _ => 0)))) (sz + 1)) (d : decode cc pc = .ok (.newarray .boolean, 2)) (k : zg_G K P' (cells + 1) (slots + n) (pc + 2) L (.ref sz :: st)) : zg_G K P cells slots pc L (.int (nI n) :: st) := by
  intro w H locs ls h1 h2 h3 h4
  have hts := F.2.2.2.2.1
  have hsz := hz w _ h1
  have hbase : zk_z K ≤ H.size := Nat.le_trans (zf_b F) h3.1
  refine va_newaK (atype := .boolean) F.1 F.2.1 (hts _ harr) rfl d rfl (nI_pos (by omega)) (nI_clamp (by omega)) (by show n * _ ≤ _; simp only [componentBytes, newarray.typeOf]; omega) (by rw [zf_R F]; exact hcells) (by rw [zf_R F]; exact hslots) hsz fun H1 cA e1 z1 o1 hAr hNm => ?_
  have hcA : cA = zk_A K 1 := Option.some.inj (hNm.symm.trans (F.2.2.2.2.2.1.2 1 _ rfl).2)
  subst hcA
  subst hsz
  refine k (zg_u w H.size (.inl (zk_A K 1, n, .inl (fun _ => 0)))) H1 locs ls (by rw [z1]; exact hP w h1 (h2.none (Nat.le_refl _))) (h2.push hbase ?_ o1) ⟨Nat.le_trans h3.1 (by omega), fun x g1 g2 => (o1 x (Nat.lt_of_lt_of_le g1 h3.1)).trans (h3.2.1 x g1 g2), h3.2.2⟩ h4
  show H1[H.size]? = some (vp_cell _ _)
  rw [e1, vp_cell_i]
  rfl
theorem zg_newL (F : zg_F K cc own rm) {P' : zg_P} {n sz : Nat} (harr : Cond.arrayClass .long ∈ zw_A) (hn : n < 1024) (hcells : cells + 1 ≤ rm.cells) (hslots : slots + n ≤ rm.slots) (hz : ∀ w z, P w z → z = sz) (hP : ∀ w, P w sz → w sz = none → P' (zg_u w sz (.inl (zk_A K 2, n, .inr (.inl (fun _ => 0))))) (sz + 1)) (d : decode cc pc = .ok (.newarray .long, 2)) (k : zg_G K P' (cells + 1) (slots + n) (pc + 2) L (.ref sz :: st)) : zg_G K P cells slots pc L (.int (nI n) :: st) := by
  intro w H locs ls h1 h2 h3 h4
  have hts := F.2.2.2.2.1
  have hsz := hz w _ h1
  have hbase : zk_z K ≤ H.size := Nat.le_trans (zf_b F) h3.1
  refine va_newaK (atype := .long) F.1 F.2.1 (hts _ harr) rfl d rfl (nI_pos (by omega)) (nI_clamp (by omega)) (by show n * _ ≤ _; simp only [componentBytes, newarray.typeOf]; omega) (by rw [zf_R F]; exact hcells) (by rw [zf_R F]; exact hslots) hsz fun H1 cA e1 z1 o1 hAr hNm => ?_
  have hcA : cA = zk_A K 2 := Option.some.inj (hNm.symm.trans (F.2.2.2.2.2.1.2 2 _ rfl).2)
  subst hcA
  subst hsz
  refine k (zg_u w H.size (.inl (zk_A K 2, n, .inr (.inl (fun _ => 0))))) H1 locs ls (by rw [z1]; exact hP w h1 (h2.none (Nat.le_refl _))) (h2.push hbase ?_ o1) ⟨Nat.le_trans h3.1 (by omega), fun x g1 g2 => (o1 x (Nat.lt_of_lt_of_le g1 h3.1)).trans (h3.2.1 x g1 g2), h3.2.2⟩ h4
  show H1[H.size]? = some (vp_cell _ _)
  rw [e1, vp_cell_l]
  rfl
theorem zg_newA (F : zg_F K cc own rm) {P' : zg_P} {n sz t0 index : Nat} {C : String} (ht : (zg_T (zk_A K))[t0]? = some (zk_A K t0, .object C)) (hcl : Cond.classLink own index C ∈ zw_A) (hover : va_AO C (zk_s K)) (hn : n < 1024) (hcells : cells + 1 ≤ rm.cells) (hslots : slots + n ≤ rm.slots) (hz : ∀ w z, P w z → z = sz) (hP : ∀ w, P w sz → w sz = none → P' (zg_u w sz (.inl (zk_A K t0, n, .inr (.inr (.inr (.inr (fun _ => none))))))) (sz + 1)) (d : decode cc pc = .ok (.anewarray index, 3)) (k : zg_G K P' (cells + 1) (slots + n) (pc + 3) L (.ref sz :: st)) : zg_G K P cells slots pc L (.int (nI n) :: st) := by
  intro w H locs ls h1 h2 h3 h4
  have hts := F.2.2.2.2.1
  have hsz := hz w _ h1
  have hbase : zk_z K ≤ H.size := Nat.le_trans (zf_b F) h3.1
  have hcn : (nI n).toNatClampNeg = n := nI_clamp (by omega)
  refine W.anew F.1 F.2.1 F.2.2.2.1 (hts _ hcl) (va_AO.use hover) rfl d rfl (nI_pos (by omega)) (by rw [hcn]; omega) (by rw [zf_R F]; exact hcells) (by rw [hcn, zf_R F]; exact hslots) fun cA kA comp f1 f2 f3 f4 => ?_
  rw [hcn]
  have hcA : cA = zk_A K t0 := by
    obtain ⟨kA', comp', k1, k2, k3, k4⟩ := (F.2.2.2.2.2.1.2 t0 _ ht).2
    first | exact Option.some.inj (f4.symm.trans k4) | exact Option.some.inj (f1.symm.trans k4)
  subst hcA
  subst hsz
  generalize hH1 : H.push ({ cls := zk_A K t0, slots := Array.replicate n .null, vm := .none } : Cell) = H1
  have z1 : H1.size = H.size + 1 := by rw [← hH1, Array.size_push]
  have e1 : H1[H.size]? = some (arrV (zk_A K t0) n (fun _ => .null)) := by rw [← hH1, Array.getElem?_push_size, ← arrV_new]
  have o1 : ∀ q : Nat, q < H.size → H1[q]? = H[q]? := fun q hq => by rw [← hH1, Array.getElem?_push, if_neg (Nat.ne_of_lt hq)]
  refine k (zg_u w H.size (.inl (zk_A K t0, n, .inr (.inr (.inr (.inr (fun _ => none))))))) H1 locs ls (by rw [z1]; exact hP w h1 (h2.none (Nat.le_refl _))) (h2.push hbase ?_ o1) ⟨Nat.le_trans h3.1 (by omega), fun x g1 g2 => (o1 x (Nat.lt_of_lt_of_le g1 h3.1)).trans (h3.2.1 x g1 g2), h3.2.2⟩ h4
  show H1[H.size]? = some (vp_cell _ _)
  rw [e1, vp_cell_q]
  rfl
end ZGA
end
section
def zg_rm (d mc ms : Nat) : Room := { frames := d, cells := mc, slots := ms, locals := 32 * d }
def zg_Pc (D : va_G) (A : Nat → ClassId) (base : Nat) (av : List Value) (P : zg_P) : Array Value → State → Prop := va_Pc av (fun U => base ≤ U.heap.size ∧ va_K D vwCl (zg_T A) U ∧ zg_N base U ∧ ∃ w, P w U.heap.size ∧ zg_H D vwCl base w U.heap)
def zg_Qc (D : va_G) (base : Nat) (r : Option Value) (P' : zg_P) : Array Value → State → Outcome → State → Prop := fun _ st oc t => oc = .returned r ∧ (∃ w, P' w t.heap.size ∧ zg_H D vwCl base w t.heap) ∧ va_F (fun q => base ≤ q) st t
/-- a method's contract: from a world with P, at these arguments, it returns r in a world with P' -/
def zg_Met (l : Launch) (y : MethodName) (cc : ByteArray) (maxL : Nat) (ret : Option FieldType) (d mc ms : Nat) (D : va_G) (A : Nat → ClassId) (base : Nat) (av : List Value) (P : zg_P) (r : Option Value) (P' : zg_P) : Prop := Met l y (zw_ y cc maxL ret) (zg_rm d mc ms) (zg_Pc D A base av P) (zg_Qc D base r P') mc ms (fun q => base ≤ q)
def zg_E (K : zg_K) (ret : Option FieldType) (mc ms : Nat) (r : Option Value) (P' : zg_P) : Prop := (zk_t K).sig.returnType = ret ∧ (zk_t K).locks = false ∧ ∀ t, MQ (zk_b K) (zg_Qc (zk_D K) (zk_z K) r P') (zk_a K) (zk_s K) mc ms (fun q => zk_z K ≤ q) t → zk_Q K t
theorem zg_Wmono {p : Program} {l : Launch} {e : Env} {R : Room} {s : State} {m : MethodId} {args : Array Value} {below : List Frame} {meth : Method} {c : Code} {H : Heap} {locs : List Loc} {cells slots : Nat} {Q Q' : State → Prop} {g : JFrame} (h : ∀ t, Q t → Q' t) (k : W p l e R s m args below meth c H locs cells slots Q g) : W p l e R s m args below meth c H locs cells slots Q' g := fun T hT X => by
  obtain ⟨t, a, b⟩ := k T hT X
  exact ⟨t, a, h t b⟩
theorem zg_met {l : Launch} {y : MethodName} {d mc ms maxL base : Nat} {D : va_G} {A : Nat → ClassId} {av : List Value} {P P' : zg_P} {r : Option Value} {cc : ByteArray} {ret : Option FieldType} (hy : plainName y.cls = true) (hlen : (lg_sl av).length ≤ maxL)
    (body : ∀ K : zg_K, zk_l K = l → zk_D K = D → zk_A K = A → zk_z K = base → zk_n K = maxL → (zk_t K).name = y.name → zg_F K cc y.cls (zg_rm d mc ms) → zg_E K ret mc ms r P' → zg_G K P 0 0 0 (lv_args 0 av) []) : zg_Met l y cc maxL ret d mc ms D A base av P r P' := by
  refine Met.ofW (cc := cc) (maxL := maxL) (ret := ret) hy rfl ?_
  intro p e s m args below meth c s₁ B hml hv
  obtain ⟨rfl, hbase, hK, hN, w, hP, hH⟩ := hv
  have hts := atoms_spec (ws := zw_ y cc maxL ret) B.pre
  have hown : s.vm.findClass y.cls = some m.cls := findClass_of_methodNamed B.named
  have hk := body (p, l, e, (headSpec (zw_ y cc maxL ret) (zg_rm d mc ms)).room, s, m, av.toArray, below, meth, c, MQ below (zg_Qc D base r P') av.toArray s mc ms (fun q => base ≤ q), D, A, base, maxL) rfl rfl rfl rfl rfl (name_of_methodNamed B.named B.method).1
    ⟨B.exec, B.bytes, hml, hown, fun w hw => hts w (List.mem_cons_of_mem _ hw), hK, hN, hbase, rfl⟩ ⟨B.returns, B.notSynchronized, fun t h => h⟩
  rw [lg_entry_eq]
  exact hk w s.heap [] _ hP hH va_S.rf (lv_entry av hlen)
section ZGR
variable {K : zg_K} {P : zg_P} {cells slots pc : Nat} {L : List (Nat × Value)} {st : List Value} {cc : ByteArray} {own : String} {rm : Room} {mc ms : Nat} {P' : zg_P}
theorem zg_iret (F : zg_F K cc own rm) {v : Int32} (E : zg_E K (some .int) mc ms (some (.int v)) P') (hc : cells ≤ mc) (hs : slots ≤ ms) (hP : ∀ w z, P w z → P' w z) (d : decode cc pc = .ok (.ireturn, 1)) : zg_G K P cells slots pc L [.int v] := fun w H locs ls h1 h2 h3 _ =>
  zg_Wmono E.2.2 (W.widen hc hs (W.iret F.1 F.2.1 E.1 (fun t ht _ => ⟨rfl, ⟨w, by rw [ht]; exact hP w _ h1, by rw [ht]; exact h2⟩, h3.F ht⟩) h3.2.2 d E.2.1))
theorem zg_zret (F : zg_F K cc own rm) {v : Int32} (E : zg_E K (some .boolean) mc ms (some (.int v)) P') (hn : narrow .boolean (.int v) = .int v) (hc : cells ≤ mc) (hs : slots ≤ ms) (hP : ∀ w z, P w z → P' w z) (d : decode cc pc = .ok (.ireturn, 1)) : zg_G K P cells slots pc L [.int v] := fun w H locs ls h1 h2 h3 _ =>
  zg_Wmono E.2.2 (W.widen hc hs (W.zret F.1 F.2.1 E.1 hn (fun t ht _ => ⟨rfl, ⟨w, by rw [ht]; exact hP w _ h1, by rw [ht]; exact h2⟩, h3.F ht⟩) h3.2.2 d E.2.1))
theorem zg_lret (F : zg_F K cc own rm) {v : Int64} (E : zg_E K (some .long) mc ms (some (.long v)) P') (hc : cells ≤ mc) (hs : slots ≤ ms) (hP : ∀ w z, P w z → P' w z) (d : decode cc pc = .ok (.lreturn, 1)) : zg_G K P cells slots pc L [.long v] := fun w H locs ls h1 h2 h3 _ =>
  zg_Wmono E.2.2 (W.widen hc hs (W.lret F.1 F.2.1 E.1 (fun t ht _ => ⟨rfl, ⟨w, by rw [ht]; exact hP w _ h1, by rw [ht]; exact h2⟩, h3.F ht⟩) h3.2.2 d E.2.1))
theorem zg_vret (F : zg_F K cc own rm) (E : zg_E K none mc ms none P') (hc : cells ≤ mc) (hs : slots ≤ ms) (hP : ∀ w z, P w z → P' w z) (d : decode cc pc = .ok (.return_, 1)) : zg_G K P cells slots pc L [] := fun w H locs ls h1 h2 h3 _ =>
  zg_Wmono E.2.2 (W.widen hc hs (W.vret F.1 F.2.1 E.1 (fun t ht _ => ⟨rfl, ⟨w, by rw [ht]; exact hP w _ h1, by rw [ht]; exact h2⟩, h3.F ht⟩) h3.2.2 d E.2.1))
theorem zg_aret (F : zg_F K cc own rm) {a : Nat} {C : String} (E : zg_E K (some (.object C)) mc ms (some (.ref a)) P') (hc : cells ≤ mc) (hs : slots ≤ ms) (hP : ∀ w z, P w z → P' w z) (d : decode cc pc = .ok (.areturn, 1)) : zg_G K P cells slots pc L [.ref a] := fun w H locs ls h1 h2 h3 _ =>
  zg_Wmono E.2.2 (W.widen hc hs (W.aret F.1 F.2.1 E.1 (Or.inl ⟨C, rfl⟩) (Or.inr ⟨a, rfl⟩) (fun t ht _ => ⟨rfl, ⟨w, by rw [ht]; exact hP w _ h1, by rw [ht]; exact h2⟩, h3.F ht⟩) h3.2.2 d E.2.1))
end ZGR
theorem zg_blind {D : va_G} {A : Nat → ClassId} {base : Nat} {av : List Value} {P : zg_P} : FrameBlind (zg_Pc D A base av P) := by
  intro a U g mk h
  obtain ⟨h0, h1, h2, h3, h4⟩ := h
  exact ⟨h0, h1, va_K.moved (u := U) (U := U.calling g mk a) (Vm.Alike.refl U.vm) h2, zg_N.calling h3, h4⟩
section ZGC
variable {K : zg_K} {P : zg_P} {cells slots pc : Nat} {L : List (Nat × Value)} {st : List Value} {cc : ByteArray} {own : String} {rm : Room} {mc ms : Nat} {P' : zg_P}
theorem zg_pre (F : zg_F K cc own rm) {w : zg_w} {H : Heap} {locs : List Loc} {av : List Value} (h1 : P w H.size) (h2 : zg_H (zk_D K) vwCl (zk_z K) w H) (h3 : va_S (fun q => zk_z K ≤ q) (zk_s K).heap H locs) : ∀ U : State, U.heap = H → (zk_s K).WarmedH U.vm → zg_Pc (zk_D K) (zk_A K) (zk_z K) av P av.toArray U := by
  intro U hU hW
  subst hU
  exact ⟨rfl, Nat.le_trans (zf_b F) h3.1, va_K.moved hW.alike F.2.2.2.2.2.1, zg_N.moved hW h3 (zf_N F), w, h1, h2⟩
theorem zg_after {r : Option Value} {rest st0 : List Value} {a : Array Value} {w : zg_w} {H : Heap} {locs : List Loc} {ls : Array Slot} (h3 : va_S (fun q => zk_z K ≤ q) (zk_s K).heap H locs) (h4 : lv_has ls (zk_n K) L)
    (hr : va_Run (zk_p K) (zk_l K) (zk_e K) (zk_R K) (zk_s K) (zk_m K) (zk_a K) (zk_b K) (zk_t K) (zk_c K) H locs cells slots mc ms (F0 (zk_m K) pc ls st0) rest (zg_Qc (zk_D K) (zk_z K) r P' a) (fun q => zk_z K ≤ q))
    (k : zg_G K P' (cells + mc) (slots + ms) (pc + 3) L (r.toList ++ rest)) : zg_W K H locs cells slots (F0 (zk_m K) pc ls st0) := by
  intro T hT X
  obtain ⟨v, st₀, t, T', L', h0, X', hL, e1, e2, ⟨hv, ⟨w', hP', hH'⟩, hz, hk⟩, sts⟩ := hr T hT X
  cases hv
  rw [h0] at hz hk
  obtain ⟨t2, a1, b1⟩ := k w' T'.heap (locs ++ L') ls (by rw [e1]; exact hP') (by rw [e1]; exact hH')
    ⟨Nat.le_trans h3.1 (by rw [e1]; exact hz), fun q g1 g2 => by rw [e1, hk q (Nat.lt_of_lt_of_le g1 h3.1) g2]; exact h3.2.1 q g1 g2, fun q hq => by
      rcases List.mem_append.mp hq with h | h
      · exact h3.2.2 q h
      · exact hL q h⟩ h4 T' rfl X'
  exact ⟨t2, sts t2 a1, b1⟩
/-- the words that say of a method what a call needs -/
def zg_V (y : MethodName) (bytes : ByteArray) (maxL : Nat) (ret : Option FieldType) (n : Nat) : Prop := Cond.code y bytes maxL ret ∈ zw_A ∧ Cond.initialized y.cls ∈ zw_A ∧ (y.cls ≠ "java/lang/invoke/MethodHandle" ∧ y.cls ≠ "java/lang/invoke/VarHandle" ∧ (parseMethodDescriptor y.desc).map (fun d => d.parameters.length) = some n)
theorem zg_cb (F : zg_F K cc own rm) {y : MethodName} {bytes : ByteArray} {maxL n index d : Nat} {ret : Option FieldType} (hv : zg_V y bytes maxL ret n) (hl : Cond.methodLink own index y ∈ zw_A) (hR : d + 1 ≤ rm.frames ∧ 8 + (maxL + 11) + 32 * d ≤ rm.locals) : CallB (zk_R K) (zk_s K) (zk_a K) own index y bytes maxL ret (zw_ y bytes maxL ret) (zg_rm d mc ms) mc ms n :=
  callB_of n F.2.2.2.2.1 (zw_good hv.1) rfl rfl rfl (F.2.2.2.2.1 _ hv.2.1) (F.2.2.2.2.1 _ hl) hv.2.2 (by rw [zf_R F]; exact hR)
theorem zg_recv (F : zg_F K cc own rm) {w : zg_w} {H : Heap} {b ci : Nat} {fs : List Value} {q : vw_C} (h2 : zg_H (zk_D K) vwCl (zk_z K) w H) (hw : w b = some (.inr (ci, fs))) (hc : vwCl[ci]? = some q) : ∃ cell : Cell, H[b]? = some cell ∧ cell.vm.isStatics = false ∧ (zk_s K).vm.findClass q.1 = some cell.cls := by
  obtain ⟨-, q', h1, cell, g1, g2, g3, -⟩ := h2 b _ hw
  exact ⟨cell, g1, by rw [g3]; rfl, by rw [g2]; exact (F.2.2.2.2.2.1.1 ci q hc).2.1⟩
theorem zg_callV (F : zg_F K cc own rm) {y : MethodName} {bytes : ByteArray} {maxL n index d b ci : Nat} {ret : Option FieldType} {As rest : List Value} {r : Option Value} {fs : List Value} {T : u_T} {N : Nat} (hM : zg_Met (zk_l K) y bytes maxL ret d mc ms (zk_D K) (zk_A K) (zk_z K) (.ref b :: As) P r P') (hv : zg_V y bytes maxL ret n) (hi : Cond.instanceMethod y ∈ zw_A ∧ Cond.selects y.cls y y ∈ zw_A) (hl : Cond.methodLink own index y ∈ zw_A) (hw : ∀ w z, P w z → w b = some (.inr (ci, fs))) (hc : vwCl[ci]? = some (y.cls, T, N)) (hn : As.length = n) (hR : d + 1 ≤ rm.frames ∧ 8 + (maxL + 11) + 32 * d ≤ rm.locals) (hf : cells + mc ≤ rm.cells ∧ slots + ms ≤ rm.slots) (hst : st = As.reverse ++ .ref b :: rest) (hW : (rest.map fun v => v.category).sum ≤ 8) (dd : decode cc pc = .ok (.invokevirtual index, 3)) (k : zg_G K P' (cells + mc) (slots + ms) (pc + 3) L (r.toList ++ rest)) : zg_G K P cells slots pc L st := fun w H locs ls h1 h2 h3 h4 =>
  zg_after (w := w) h3 h4 (va_runV (b := b) (As := As) ⟨F.1, F.2.1, F.2.2.1, F.2.2.2.1, F.2.2.2.2.1⟩ hM ⟨zg_cb F hv hl hR, F.2.2.2.2.1 _ hi.1, F.2.2.2.2.1 _ hi.2⟩ ⟨zg_blind, zg_recv F h2 (hw w _ h1) hc, zg_pre F h1 h2 h3⟩ rfl hn h4.1 hst (by show 2 * 0 + _ ≤ 8; omega) dd (by rw [zf_R F]; exact hf)) k
theorem zg_callS (F : zg_F K cc own rm) {y : MethodName} {bytes : ByteArray} {maxL n index d : Nat} {ret : Option FieldType} {As rest : List Value} {r : Option Value} (hM : zg_Met (zk_l K) y bytes maxL ret d mc ms (zk_D K) (zk_A K) (zk_z K) As P r P') (hv : zg_V y bytes maxL ret n) (hi : Cond.static y ∈ zw_A) (hl : Cond.methodLink own index y ∈ zw_A) (hn : As.length = n) (hR : d + 1 ≤ rm.frames ∧ 8 + (maxL + 11) + 32 * d ≤ rm.locals) (hf : cells + mc ≤ rm.cells ∧ slots + ms ≤ rm.slots) (hst : st = As.reverse ++ rest) (hW : (rest.map fun v => v.category).sum ≤ 8) (dd : decode cc pc = .ok (.invokestatic index, 3)) (k : zg_G K P' (cells + mc) (slots + ms) (pc + 3) L (r.toList ++ rest)) : zg_G K P cells slots pc L st := fun w H locs ls h1 h2 h3 h4 =>
  zg_after (w := w) h3 h4 (va_runS (As := As) ⟨F.1, F.2.1, F.2.2.1, F.2.2.2.1, F.2.2.2.2.1⟩ hM ⟨zg_cb F hv hl hR, F.2.2.2.2.1 _ hi⟩ ⟨zg_blind, zg_pre F h1 h2 h3⟩ rfl hn h4.1 hst (by show 2 * 0 + _ ≤ 8; omega) dd (by rw [zf_R F]; exact hf)) k
theorem zg_callI (F : zg_F K cc own rm) {y : MethodName} {bytes : ByteArray} {maxL n index d b : Nat} {As rest : List Value} {r : Option Value} (hM : zg_Met (zk_l K) y bytes maxL none d mc ms (zk_D K) (zk_A K) (zk_z K) (.ref b :: As) P r P') (hv : zg_V y bytes maxL none n) (hi : y.name = "<init>" ∧ Cond.instanceMethod y ∈ zw_A) (hl : Cond.methodLink own index y ∈ zw_A) (hn : As.length = n) (hR : d + 1 ≤ rm.frames ∧ 8 + (maxL + 11) + 32 * d ≤ rm.locals) (hf : cells + mc ≤ rm.cells ∧ slots + ms ≤ rm.slots) (hst : st = As.reverse ++ .ref b :: rest) (hW : (rest.map fun v => v.category).sum ≤ 8) (dd : decode cc pc = .ok (.invokespecial index, 3)) (k : zg_G K P' (cells + mc) (slots + ms) (pc + 3) L (r.toList ++ rest)) : zg_G K P cells slots pc L st := fun w H locs ls h1 h2 h3 h4 =>
  zg_after (w := w) h3 h4 (va_runI (b := b) (As := As) ⟨F.1, F.2.1, F.2.2.1, F.2.2.2.1, F.2.2.2.2.1⟩ hM ⟨zg_cb F hv hl hR, hi.1, F.2.2.2.2.1 _ hi.2⟩ ⟨zg_blind, zg_pre F h1 h2 h3⟩ rfl hn h4.1 hst (by show 2 * 0 + _ ≤ 8; omega) dd (by rw [zf_R F]; exact hf)) k
theorem zg_cn (F : zg_F K cc own rm) {y : MethodName} {bytes : ByteArray} {maxL n index d : Nat} {ret : Option FieldType} {host : String} (hv : zg_V y bytes maxL ret n) (hl : (own, index, y, host) ∈ zn_nest) (hR : d + 1 ≤ rm.frames ∧ 8 + (maxL + 11) + 32 * d ≤ rm.locals) : va_CN (zk_R K) (zk_s K) (zk_a K) own index y host bytes maxL ret (zw_ y bytes maxL ret) (zg_rm d mc ms) mc ms n :=
  va_cnB n F.2.2.2.2.1 (zw_good hv.1) rfl rfl rfl ((zf_N F).1 _ hl) (F.2.2.2.2.1 _ hv.2.1) hv.2.2 (by rw [zf_R F]; exact hR)
theorem zg_callSN (F : zg_F K cc own rm) {y : MethodName} {bytes : ByteArray} {maxL n index d : Nat} {ret : Option FieldType} {host : String} {As rest : List Value} {r : Option Value} (hM : zg_Met (zk_l K) y bytes maxL ret d mc ms (zk_D K) (zk_A K) (zk_z K) As P r P') (hv : zg_V y bytes maxL ret n) (hi : Cond.static y ∈ zw_A) (hl : (own, index, y, host) ∈ zn_nest) (hn : As.length = n) (hR : d + 1 ≤ rm.frames ∧ 8 + (maxL + 11) + 32 * d ≤ rm.locals) (hf : cells + mc ≤ rm.cells ∧ slots + ms ≤ rm.slots) (hst : st = As.reverse ++ rest) (hW : (rest.map fun v => v.category).sum ≤ 8) (dd : decode cc pc = .ok (.invokestatic index, 3)) (k : zg_G K P' (cells + mc) (slots + ms) (pc + 3) L (r.toList ++ rest)) : zg_G K P cells slots pc L st := fun w H locs ls h1 h2 h3 h4 =>
  zg_after (w := w) h3 h4 (va_runSN (As := As) ⟨F.1, F.2.1, F.2.2.1, F.2.2.2.1, F.2.2.2.2.1⟩ hM ⟨zg_cn F hv hl hR, F.2.2.2.2.1 _ hi, trivial⟩ ⟨zg_blind, zg_pre F h1 h2 h3⟩ rfl hn h4.1 hst (by show 2 * 0 + _ ≤ 8; omega) dd (by rw [zf_R F]; exact hf)) k
theorem zg_callIN (F : zg_F K cc own rm) {y : MethodName} {bytes : ByteArray} {maxL n index d b : Nat} {host : String} {As rest : List Value} {r : Option Value} (hM : zg_Met (zk_l K) y bytes maxL none d mc ms (zk_D K) (zk_A K) (zk_z K) (.ref b :: As) P r P') (hv : zg_V y bytes maxL none n) (hi : y.name = "<init>" ∧ Cond.instanceMethod y ∈ zw_A) (hl : (own, index, y, host) ∈ zn_nest) (hn : As.length = n) (hR : d + 1 ≤ rm.frames ∧ 8 + (maxL + 11) + 32 * d ≤ rm.locals) (hf : cells + mc ≤ rm.cells ∧ slots + ms ≤ rm.slots) (hst : st = As.reverse ++ .ref b :: rest) (hW : (rest.map fun v => v.category).sum ≤ 8) (dd : decode cc pc = .ok (.invokespecial index, 3)) (k : zg_G K P' (cells + mc) (slots + ms) (pc + 3) L (r.toList ++ rest)) : zg_G K P cells slots pc L st := fun w H locs ls h1 h2 h3 h4 =>
  zg_after (w := w) h3 h4 (va_runIN (b := b) (As := As) ⟨F.1, F.2.1, F.2.2.1, F.2.2.2.1, F.2.2.2.2.1⟩ hM ⟨zg_cn F hv hl hR, hi.1, F.2.2.2.2.1 _ hi.2⟩ ⟨zg_blind, zg_pre F h1 h2 h3⟩ rfl hn h4.1 hst (by show 2 * 0 + _ ≤ 8; omega) dd (by rw [zf_R F]; exact hf)) k
/-- a number on the stack under another name -/
theorem zg_eqi {x y : Int32} (h : x = y) (k : zg_G K P cells slots pc L (.int y :: st)) : zg_G K P cells slots pc L (.int x :: st) := by rw [h]; exact k
theorem zg_eql {x y : Int64} (h : x = y) (k : zg_G K P cells slots pc L (.long y :: st)) : zg_G K P cells slots pc L (.long x :: st) := by rw [h]; exact k
end ZGC
theorem zc_inc (a : Nat) : nI a + Int32.ofInt 1 = nI (a + 1) := nI_1 a
theorem zc_inc' (x : Int32) : x + Int32.ofInt 1 = x + nI 1 := rfl
end
