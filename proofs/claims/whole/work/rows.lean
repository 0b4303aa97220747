section
-- ===== PART A: goes FIRST, ahead of the names: the tables' words, and 'selects' of the private methods out of them =====
/-- a private method of a class that the tables say can be made, by its rows of tables_1 -/
def lw_okq (q : MethodName × Nat) : Prop := (q.1.cls ≠ "java/lang/invoke/MethodHandle" ∧ q.1.cls ≠ "java/lang/invoke/VarHandle") ∧ Cond.instantiable q.1.cls q.2 ∈ tables_1 ∧ Cond.privateMethod q.1 ∈ tables_1 ∧ Cond.instanceMethod q.1 ∈ tables_1
theorem lw_p0 : lw_okq (⟨"java/lang/Throwable", "fillInStackTrace", "(I)Ljava/lang/Throwable;"⟩, 6) := ⟨⟨by decide +kernel, by decide +kernel⟩, List.mem_of_getElem? (i := 185) (by decide +kernel), List.mem_of_getElem? (i := 183) (by decide +kernel), List.mem_of_getElem? (i := 184) (by decide +kernel)⟩
theorem lw_p1 : lw_okq (⟨"IslandRights", "checkDraft", "()V"⟩, 9) := ⟨⟨by decide +kernel, by decide +kernel⟩, List.mem_of_getElem? (i := 16) (by decide +kernel), List.mem_of_getElem? (i := 296) (by decide +kernel), List.mem_of_getElem? (i := 297) (by decide +kernel)⟩
theorem lw_p2 : lw_okq (⟨"IslandRights", "takeDraft", "()LIslandRights$Journey;"⟩, 9) := ⟨⟨by decide +kernel, by decide +kernel⟩, List.mem_of_getElem? (i := 16) (by decide +kernel), List.mem_of_getElem? (i := 302) (by decide +kernel), List.mem_of_getElem? (i := 303) (by decide +kernel)⟩
theorem lw_p3 : lw_okq (⟨"IslandRights", "sell", "(ILIslandRights$Journey;I)I"⟩, 9) := ⟨⟨by decide +kernel, by decide +kernel⟩, List.mem_of_getElem? (i := 16) (by decide +kernel), List.mem_of_getElem? (i := 310) (by decide +kernel), List.mem_of_getElem? (i := 311) (by decide +kernel)⟩
theorem lw_p4 : lw_okq (⟨"IslandRights", "costOf", "(LIslandRights$Journey;I)J"⟩, 9) := ⟨⟨by decide +kernel, by decide +kernel⟩, List.mem_of_getElem? (i := 16) (by decide +kernel), List.mem_of_getElem? (i := 314) (by decide +kernel), List.mem_of_getElem? (i := 315) (by decide +kernel)⟩
theorem lw_p5 : lw_okq (⟨"IslandRights", "moveToSold", "(ILIslandRights$Journey;I)V"⟩, 9) := ⟨⟨by decide +kernel, by decide +kernel⟩, List.mem_of_getElem? (i := 16) (by decide +kernel), List.mem_of_getElem? (i := 318) (by decide +kernel), List.mem_of_getElem? (i := 319) (by decide +kernel)⟩
theorem lw_p6 : lw_okq (⟨"IslandRights", "serve", "(I)I"⟩, 9) := ⟨⟨by decide +kernel, by decide +kernel⟩, List.mem_of_getElem? (i := 16) (by decide +kernel), List.mem_of_getElem? (i := 374) (by decide +kernel), List.mem_of_getElem? (i := 375) (by decide +kernel)⟩
theorem lw_p7 : lw_okq (⟨"IslandRights", "checkTicket", "(I)V"⟩, 9) := ⟨⟨by decide +kernel, by decide +kernel⟩, List.mem_of_getElem? (i := 16) (by decide +kernel), List.mem_of_getElem? (i := 385) (by decide +kernel), List.mem_of_getElem? (i := 386) (by decide +kernel)⟩
theorem lw_p8 : lw_okq (⟨"IslandRights", "laneOf", "(II)LIslandRights$Lane;"⟩, 9) := ⟨⟨by decide +kernel, by decide +kernel⟩, List.mem_of_getElem? (i := 16) (by decide +kernel), List.mem_of_getElem? (i := 417) (by decide +kernel), List.mem_of_getElem? (i := 418) (by decide +kernel)⟩
theorem lw_p9 : lw_okq (⟨"IslandRights", "putInOutbox", "(IIII)I"⟩, 9) := ⟨⟨by decide +kernel, by decide +kernel⟩, List.mem_of_getElem? (i := 16) (by decide +kernel), List.mem_of_getElem? (i := 426) (by decide +kernel), List.mem_of_getElem? (i := 427) (by decide +kernel)⟩
theorem lw_p10 : lw_okq (⟨"IslandRights", "takeNext", "(LIslandRights$Lane;I)I"⟩, 9) := ⟨⟨by decide +kernel, by decide +kernel⟩, List.mem_of_getElem? (i := 16) (by decide +kernel), List.mem_of_getElem? (i := 464) (by decide +kernel), List.mem_of_getElem? (i := 465) (by decide +kernel)⟩
theorem lw_p11 : lw_okq (⟨"IslandRightsModel", "refused", "(I)Z"⟩, 28) := ⟨⟨by decide +kernel, by decide +kernel⟩, List.mem_of_getElem? (i := 533) (by decide +kernel), List.mem_of_getElem? (i := 636) (by decide +kernel), List.mem_of_getElem? (i := 637) (by decide +kernel)⟩
theorem lw_p12 : lw_okq (⟨"IslandRightsModel", "fits", "(IIII)Z"⟩, 28) := ⟨⟨by decide +kernel, by decide +kernel⟩, List.mem_of_getElem? (i := 533) (by decide +kernel), List.mem_of_getElem? (i := 653) (by decide +kernel), List.mem_of_getElem? (i := 654) (by decide +kernel)⟩
theorem lw_p13 : lw_okq (⟨"IslandRightsModel", "lies", "(III)I"⟩, 28) := ⟨⟨by decide +kernel, by decide +kernel⟩, List.mem_of_getElem? (i := 533) (by decide +kernel), List.mem_of_getElem? (i := 657) (by decide +kernel), List.mem_of_getElem? (i := 658) (by decide +kernel)⟩
theorem lw_p14 : lw_okq (⟨"IslandRightsModel", "sell", "(IIII)I"⟩, 28) := ⟨⟨by decide +kernel, by decide +kernel⟩, List.mem_of_getElem? (i := 533) (by decide +kernel), List.mem_of_getElem? (i := 661) (by decide +kernel), List.mem_of_getElem? (i := 662) (by decide +kernel)⟩
theorem lw_p15 : lw_okq (⟨"IslandRightsModel", "give", "(IIII)V"⟩, 28) := ⟨⟨by decide +kernel, by decide +kernel⟩, List.mem_of_getElem? (i := 533) (by decide +kernel), List.mem_of_getElem? (i := 665) (by decide +kernel), List.mem_of_getElem? (i := 666) (by decide +kernel)⟩
def lw_privs_1 : List (MethodName × Nat) := [(⟨"java/lang/Throwable", "fillInStackTrace", "(I)Ljava/lang/Throwable;"⟩, 6), (⟨"IslandRights", "checkDraft", "()V"⟩, 9), (⟨"IslandRights", "takeDraft", "()LIslandRights$Journey;"⟩, 9), (⟨"IslandRights", "sell", "(ILIslandRights$Journey;I)I"⟩, 9), (⟨"IslandRights", "costOf", "(LIslandRights$Journey;I)J"⟩, 9), (⟨"IslandRights", "moveToSold", "(ILIslandRights$Journey;I)V"⟩, 9), (⟨"IslandRights", "serve", "(I)I"⟩, 9), (⟨"IslandRights", "checkTicket", "(I)V"⟩, 9), (⟨"IslandRights", "laneOf", "(II)LIslandRights$Lane;"⟩, 9), (⟨"IslandRights", "putInOutbox", "(IIII)I"⟩, 9), (⟨"IslandRights", "takeNext", "(LIslandRights$Lane;I)I"⟩, 9), (⟨"IslandRightsModel", "refused", "(I)Z"⟩, 28), (⟨"IslandRightsModel", "fits", "(IIII)Z"⟩, 28), (⟨"IslandRightsModel", "lies", "(III)I"⟩, 28), (⟨"IslandRightsModel", "sell", "(IIII)I"⟩, 28), (⟨"IslandRightsModel", "give", "(IIII)V"⟩, 28)]
theorem lw_r1 : ∀ q ∈ lw_privs_1, lw_okq q := List.forall_mem_cons.mpr ⟨lw_p0, List.forall_mem_cons.mpr ⟨lw_p1, List.forall_mem_cons.mpr ⟨lw_p2, List.forall_mem_cons.mpr ⟨lw_p3, List.forall_mem_cons.mpr ⟨lw_p4, List.forall_mem_cons.mpr ⟨lw_p5, List.forall_mem_cons.mpr ⟨lw_p6, List.forall_mem_cons.mpr ⟨lw_p7, List.forall_mem_cons.mpr ⟨lw_p8, List.forall_mem_cons.mpr ⟨lw_p9, List.forall_mem_cons.mpr ⟨lw_p10, List.forall_mem_cons.mpr ⟨lw_p11, List.forall_mem_cons.mpr ⟨lw_p12, List.forall_mem_cons.mpr ⟨lw_p13, List.forall_mem_cons.mpr ⟨lw_p14, List.forall_mem_cons.mpr ⟨lw_p15, fun _ h => absurd h List.not_mem_nil⟩⟩⟩⟩⟩⟩⟩⟩⟩⟩⟩⟩⟩⟩⟩⟩
theorem lw_p16 : lw_okq (⟨"IslandRightsModel", "copy", "(III)V"⟩, 28) := ⟨⟨by decide +kernel, by decide +kernel⟩, List.mem_of_getElem? (i := 533) (by decide +kernel), List.mem_of_getElem? (i := 669) (by decide +kernel), List.mem_of_getElem? (i := 670) (by decide +kernel)⟩
theorem lw_p17 : lw_okq (⟨"IslandRightsModel", "serve", "(I)I"⟩, 28) := ⟨⟨by decide +kernel, by decide +kernel⟩, List.mem_of_getElem? (i := 533) (by decide +kernel), List.mem_of_getElem? (i := 677) (by decide +kernel), List.mem_of_getElem? (i := 678) (by decide +kernel)⟩
theorem lw_p18 : lw_okq (⟨"IslandRightsModel", "isTicket", "(I)Z"⟩, 28) := ⟨⟨by decide +kernel, by decide +kernel⟩, List.mem_of_getElem? (i := 533) (by decide +kernel), List.mem_of_getElem? (i := 685) (by decide +kernel), List.mem_of_getElem? (i := 686) (by decide +kernel)⟩
theorem lw_p19 : lw_okq (⟨"IslandRightsModel", "enclose", "(IIII)I"⟩, 28) := ⟨⟨by decide +kernel, by decide +kernel⟩, List.mem_of_getElem? (i := 533) (by decide +kernel), List.mem_of_getElem? (i := 701) (by decide +kernel), List.mem_of_getElem? (i := 702) (by decide +kernel)⟩
theorem lw_p20 : lw_okq (⟨"IslandRightsModel", "loseOne", "(I)I"⟩, 28) := ⟨⟨by decide +kernel, by decide +kernel⟩, List.mem_of_getElem? (i := 533) (by decide +kernel), List.mem_of_getElem? (i := 728) (by decide +kernel), List.mem_of_getElem? (i := 729) (by decide +kernel)⟩
def lw_privs_2 : List (MethodName × Nat) := [(⟨"IslandRightsModel", "copy", "(III)V"⟩, 28), (⟨"IslandRightsModel", "serve", "(I)I"⟩, 28), (⟨"IslandRightsModel", "isTicket", "(I)Z"⟩, 28), (⟨"IslandRightsModel", "enclose", "(IIII)I"⟩, 28), (⟨"IslandRightsModel", "loseOne", "(I)I"⟩, 28)]
theorem lw_r2 : ∀ q ∈ lw_privs_2, lw_okq q := List.forall_mem_cons.mpr ⟨lw_p16, List.forall_mem_cons.mpr ⟨lw_p17, List.forall_mem_cons.mpr ⟨lw_p18, List.forall_mem_cons.mpr ⟨lw_p19, List.forall_mem_cons.mpr ⟨lw_p20, fun _ h => absurd h List.not_mem_nil⟩⟩⟩⟩⟩
def lw_privs : List (MethodName × Nat) := lw_privs_1 ++ (lw_privs_2)
def lw_tbl : List Cond := k2_sels lw_privs ++ tables_1
theorem lw_privs_ok : ∀ q ∈ lw_privs, lw_okq q := by
  show ∀ q ∈ lw_privs_1 ++ (lw_privs_2), lw_okq q
  exact List.forall_mem_append.mpr ⟨lw_r1, lw_r2⟩
end
section
/-! ===== BEGIN words of one list among another's, by their places ===== -/
theorem goodIn_r {big : List Cond} (ws : List Cond) (ps : List Nat) (hp : ws = ps.filterMap (fun i => big[i]?)) (h : ws.all goodWord = true) : GoodIn big ws := by
  intro w hw
  have h1 := List.all_eq_true.mp h w hw
  rw [hp] at hw
  obtain ⟨i, -, hi⟩ := List.mem_filterMap.mp hw
  have hm : w ∈ big := by first | exact List.mem_of_getElem? hi | exact List.getElem?_mem hi
  exact ⟨hm, good_of_word h1⟩
theorem goodIn_app {big a b : List Cond} (ha : GoodIn big a) (hb : GoodIn big b) : GoodIn big (a ++ b) := fun w h => (List.mem_append.mp h).elim (ha w) (hb w)
theorem goodIn_ca {big a b : List Cond} {c : Cond} (ha : GoodIn big (c :: a)) (hb : GoodIn big b) : GoodIn big (c :: (a ++ b)) := fun w h => (List.mem_cons.mp h).elim (fun e => ha w (List.mem_cons.mpr (Or.inl e))) (fun h => (List.mem_append.mp h).elim (fun h => ha w (List.mem_cons.mpr (Or.inr h))) (hb w))
theorem goodIn_sub {big ws : List Cond} (hm : ∀ w ∈ ws, w ∈ big) (h : ws.all goodWord = true) : GoodIn big ws := fun w hw => ⟨hm w hw, good_of_word (List.all_eq_true.mp h w hw)⟩
/-! ===== END ===== -/

/-! ===== BEGIN exceptions that leave a method, and their catching by the caller (launches without stack traces) ===== -/
section VXA
/-! The laws vx_back, vx_callV, vx_callS, vx_callSW, vx_throw0, vx_throwS follow proofs of the library, with one case more: JvmDerived/Free/Laws.lean (Back.of_free), Shelf42/LK1.lean (callV, callS), Shelf/KitTraced.lean (throwNew0V, throwNewS). -/
/-- where a method has thrown q: the class by its name, the cell, what was written, the world -/
def vx_T (XC : String → State → State → Prop) (st : State) (q : Addr) (t : State) (mc ms : Nat) (free : Addr → Prop) : Prop :=
  ∃ (E : String) (ce : Cell) (L : List Loc), XC E st t ∧ t.heap[q]? = some ce ∧ ce.vm = .none ∧ st.vm.findClass E = some ce.cls ∧ st.WarmedH t.vm ∧ st.sameButNew ({ t with vm := st.vm } : State) L mc ms ∧ ∀ z ∈ L, free z.base
def vx_Q (Qc : Array Value → State → Outcome → State → Prop) (XC : String → State → State → Prop) (mc ms : Nat) (free : Addr → Prop) : Array Value → State → Outcome → State → Prop := fun a st o t =>
  (Qc a st o t ∧ ∃ L, FrameEnd st o t L mc ms ∧ ∀ q ∈ L, free q.base) ∨ ∃ q, o = .threw q ∧ vx_T XC st q t mc ms free
/-- a callee that returns or throws -/
def vx_Met (l : Launch) (y : MethodName) (ws : List Cond) (rm : Room) (Pc : Array Value → State → Prop) (Qc : Array Value → State → Outcome → State → Prop) (XC : String → State → State → Prop) (mc ms : Nat) (free : Addr → Prop) : Prop :=
  MetFree l y (headSpec ws rm) Pc (fun _ _ _ _ _ => True) (vx_Q Qc XC mc ms free)
def vx_Post (XC : String → State → State → Prop) (mc ms : Nat) (free : Addr → Prop) : Pt → Array Value → Addr → Pt → Prop := fun A a q B =>
  ∃ (g : JFrame) (mk : MethodId) (t : State) (L : List Loc) (E : String) (ce : Cell), B.U.heap = t.heap ∧ B.U.vm = t.vm ∧ XC E (A.U.calling g mk a) t ∧ t.heap[q]? = some ce ∧ ce.vm = .none ∧ A.U.vm.findClass E = some ce.cls ∧ B.locs = A.locs ++ L ∧ (∀ z ∈ L, free z.base) ∧ B.cells = A.cells + mc ∧ B.slots = A.slots + ms
def vx_Back (l : Launch) (R : Room) (p : Program) (e : Env) (below : List Frame) (s : State) (sargs : Array Value) (y : MethodName) (len W9 : Nat)
    (Pre : Pt → Array Value → Prop) (Post : Pt → Array Value → Option Value → Pt → Prop) (PostX : Pt → Array Value → Addr → Pt → Prop) : Prop :=
  ∀ (m : MethodId) (meth : Method) (c : Code) (A : Pt) (g : JFrame) (ig : Instr) (mk : MethodId) (a : Array Value),
    Stand p l e R s m sargs below meth c A.U A.locs A.cells A.slots → g.method = m → g.locals.size = c.maxLocals → decode c.code g.pc = .ok (ig, len) →
    2 * g.monitorRoom + (g.stack.map fun v => v.category).sum ≤ W9 → A.U.methodNamed? y = some mk → Pre A a →
    (∃ (v : Option Value) (B : Pt), Stand p l e R s m sargs below meth c B.U B.locs B.cells B.slots ∧ Post A a v B ∧
      Steps p.tables e below (doInvoke e (A.U.setTop g) [] mk a).1 (B.U.setTop { g with pc := g.pc + len, stack := v.toList ++ g.stack })) ∨
    (∃ (q : Addr) (B : Pt), Stand p l e R s m sargs below meth c B.U B.locs B.cells B.slots ∧ PostX A a q B ∧
      Steps p.tables e below (doInvoke e (A.U.setTop g) [] mk a).1 ((B.U.setTop g).pushFrame (.throwing q)))
section Payer
variable {l : Launch} {R : Room} {p : Program} {e : Env} {below : List Frame} {s : State} {sargs : Array Value} {y : MethodName} {len W9 : Nat}
theorem vx_back {ws : List Cond} {rm : Room} {Pc : Array Value → State → Prop} {Qc : Array Value → State → Outcome → State → Prop} {XC : String → State → State → Prop} {mc ms : Nat} {free : Addr → Prop} {bytes : ByteArray} {maxL : Nat} {ret : Option FieldType}
    (hM : vx_Met l y ws rm Pc Qc XC mc ms free) (hblind : FrameBlind Pc) (hrc : rm.cells = mc) (hrs : rm.slots = ms)
    (hframes : rm.frames + 1 ≤ R.frames) (hlocals : W9 + (maxL + 11) + rm.locals ≤ R.locals)
    (hws : ∀ w ∈ ws, ∀ a' U, s.WarmedH U.vm → w.before a' U = true) (hcode : Cond.code y bytes maxL ret ∈ ws) (hinit : ∀ a' U, s.WarmedH U.vm → (Cond.initialized y.cls).before a' U = true) :
    vx_Back l R p e below s sargs y len W9 (PreOf R mc ms Pc) (PostOf Qc mc ms free) (vx_Post XC mc ms free) := by
  intro m meth c A g ig mk a X hg hsize hdg hW hn hp
  have h1 : (headSpec ws rm).pre.before a A.U = true := atoms_intro fun w hw => hws w hw _ _ X.warmed
  have h2 : (Cond.code y bytes maxL ret).before a A.U = true := hws _ hcode _ _ X.warmed
  have h3 : (Cond.initialized y.cls).before a A.U = true := hinit _ _ X.warmed
  have h4 : A.cells + (headSpec ws rm).room.cells ≤ R.cells := by rw [show (headSpec ws rm).room.cells = mc from hrc]; exact hp.1
  have h5 : A.slots + (headSpec ws rm).room.slots ≤ R.slots := by rw [show (headSpec ws rm).room.slots = ms from hrs]; exact hp.2.1
  have hPc : Pc a (A.U.calling g mk a) := hblind _ _ _ _ hp.2.2
  obtain ⟨U, Ls, c0, s0⟩ := A
  dsimp only [Pt.U, Pt.locs, Pt.cells, Pt.slots] at h1 h2 h3 h4 h5 X hn hPc ⊢
  obtain ⟨methY, cY, hmY, hcY, -, hlY, -, -, -, -⟩ := Cond.code_spec hn h2
  obtain ⟨kY, hkY, -⟩ := className_of_methodNamed hn
  have hinitY : kY.init = .initialized := Cond.initialized_spec (findClass_of_methodNamed hn) hkY h3
  have h : At U g.method c below := by rw [hg]; exact X.here
  have hlocals9 : W9 + (maxL + 11) + (headSpec ws rm).room.locals ≤ R.locals := hlocals
  have happ : (headSpec ws rm).appliesLoose y e.platform (U.calling g mk a) = true :=
    Spec.appliesLoose_calling (g := g) h hdg hn hkY hinitY
      (X.room_calling (g := g) (R' := (headSpec ws rm).room) hsize hmY hcY hframes (by rw [hlY]; omega) h4 h5) h1
  obtain ⟨mid, hmid⟩ := h.above
  have hfr : (U.setTop g).frames = (.java g :: mid) ++ below := by rw [State.frames_setTop' g h.top, hmid]; rfl
  obtain ⟨o, s₂, hsteps, -, hend, hq⟩ := Steps.callFree hM p X.admits X.cas X.clock (acts := []) hfr happ hPc trivial
  have hq' : vx_Q Qc XC mc ms free a (U.calling g mk a) o s₂ := hq
  rw [State.frames_setTop' g h.top] at hend
  obtain ⟨g₀, hg0⟩ := Option.isSome_iff_exists.mp h.top
  obtain ⟨r, hr⟩ := State.topJava?_eq_some.mp hg0
  have hr' : (({ U with heap := s₂.heap, slotsUsed := s₂.slotsUsed } : State).setVm s₂.vm).frames = .java g₀ :: r := hr
  rcases hq' with ⟨hqc, L, hfe, hL⟩ | ⟨q, rfl, E, ce, L, hx, hce, hcv, hcl, hW₂, hsm, hL⟩
  · obtain ⟨⟨v, rfl⟩, hW₂, e2, q2, q3, q4, q5, q6⟩ := id hfe
    have e3 : s₂ = ({ (U.calling g mk a).setFrames s₂.frames with heap := s₂.heap, slotsUsed := s₂.slotsUsed } : State).setVm s₂.vm := by
      have : s₂ = ({ s₂ with vm := (U.calling g mk a).vm } : State).setVm s₂.vm := rfl
      rw [e2] at this
      exact this
    obtain ⟨c₂, i₂, len₂, hc₂, hd₂, hf₂⟩ := hend
    have hW' : U.WarmedH s₂.vm := hW₂
    have hcc : c₂ = c := by
      have h1 : s₂.code? g.method = U.code? g.method := by
        rw [State.code?_eq, State.code?_eq, hW'.alike.method?]
      exact Option.some.inj (hc₂.symm.trans (h1.trans h.code))
    subst hcc
    have hlen : len₂ = len := by rw [hdg] at hd₂; cases hd₂; rfl
    subst hlen
    have hs₂ : s₂ = (({ U with heap := s₂.heap, slotsUsed := s₂.slotsUsed } : State).setVm s₂.vm).setTop { g with pc := g.pc + len₂, stack := v.toList ++ g.stack } := by
      refine e3.trans ?_
      rw [hf₂, State.calling_eq h.top, State.setFrames_setFrames, State.setTop_of_frames _ hr', hr]
      rfl
    have hsame : U.sameButNew ({ U with heap := s₂.heap, slotsUsed := s₂.slotsUsed } : State) L mc ms := by
      refine ⟨?_, q2, q3, q4, q5, q6⟩
      obtain ⟨t, ht, -⟩ := State.frames_cons hr
      show ({ U with heap := s₂.heap, slotsUsed := s₂.slotsUsed } : State) = { U.setFrames U.frames with heap := s₂.heap, slotsUsed := s₂.slotsUsed }
      rw [State.setFrames_self ht]
    subst hg
    refine Or.inl ⟨v, ⟨(({ U with heap := s₂.heap, slotsUsed := s₂.slotsUsed } : State).setVm s₂.vm), Ls ++ L, c0 + mc, s0 + ms⟩,
      ⟨X.admits, X.cas, X.clock, X.frames, X.room, X.hears, X.method, X.code, (X.here.setHeapUsed s₂.heap s₂.slotsUsed).setVm hW'.alike, X.tail, State.WarmedH.trans X.warmed hW', X.limits, X.bytes, X.same.trans (hsame.setVm s.vm)⟩,
      ⟨g, mk, s₂, L, rfl, rfl, hqc, rfl, hL, rfl, rfl⟩, ?_⟩
    show Steps p.tables e below _ ((({ U with heap := s₂.heap, slotsUsed := s₂.slotsUsed } : State).setVm s₂.vm).setTop { g with pc := g.pc + len₂, stack := v.toList ++ g.stack })
    rw [← hs₂]
    exact hsteps
  · obtain ⟨e2, q2, q3, q4, q5, q6⟩ := id hsm
    have e3 : s₂ = ({ (U.calling g mk a).setFrames s₂.frames with heap := s₂.heap, slotsUsed := s₂.slotsUsed } : State).setVm s₂.vm := by
      have : s₂ = ({ s₂ with vm := (U.calling g mk a).vm } : State).setVm s₂.vm := rfl
      rw [e2] at this
      exact this
    have hf₂ : s₂.frames = .throwing q :: .java g :: U.frames.tail := hend
    have hW' : U.WarmedH s₂.vm := hW₂
    have hs₂ : s₂ = ((({ U with heap := s₂.heap, slotsUsed := s₂.slotsUsed } : State).setVm s₂.vm).setTop g).pushFrame (.throwing q) := by
      refine e3.trans ?_
      rw [hf₂, State.calling_eq h.top, State.setFrames_setFrames, State.pushFrame, State.frames_setTop _ hr', State.setTop_of_frames _ hr', State.setFrames_setFrames, hr]
      rfl
    have hsame : U.sameButNew ({ U with heap := s₂.heap, slotsUsed := s₂.slotsUsed } : State) L mc ms := by
      refine ⟨?_, q2, q3, q4, q5, q6⟩
      obtain ⟨t, ht, -⟩ := State.frames_cons hr
      show ({ U with heap := s₂.heap, slotsUsed := s₂.slotsUsed } : State) = { U.setFrames U.frames with heap := s₂.heap, slotsUsed := s₂.slotsUsed }
      rw [State.setFrames_self ht]
    subst hg
    refine Or.inr ⟨q, ⟨(({ U with heap := s₂.heap, slotsUsed := s₂.slotsUsed } : State).setVm s₂.vm), Ls ++ L, c0 + mc, s0 + ms⟩,
      ⟨X.admits, X.cas, X.clock, X.frames, X.room, X.hears, X.method, X.code, (X.here.setHeapUsed s₂.heap s₂.slotsUsed).setVm hW'.alike, X.tail, State.WarmedH.trans X.warmed hW', X.limits, X.bytes, X.same.trans (hsame.setVm s.vm)⟩,
      ⟨g, mk, s₂, L, E, ce, rfl, rfl, hx, hce, hcv, hcl, rfl, hL, rfl, rfl⟩, ?_⟩
    show Steps p.tables e below _ (((({ U with heap := s₂.heap, slotsUsed := s₂.slotsUsed } : State).setVm s₂.vm).setTop g).pushFrame (.throwing q))
    rw [← hs₂]
    exact hsteps
end Payer
section Calls
variable {p : Program} {l : Launch} {e : Env} {R : Room} {s : State} {m : MethodId} {args : Array Value} {below : List Frame} {meth : Method} {c : Code} {T : State} {locs : List Loc} {cells slots : Nat}
theorem vx_callV (X : Stand p l e R s m args below meth c T locs cells slots) (hexec : p.tables.exec = Jvm.exec) {own C : String} {index : Nat} {y : MethodName} {bytes : ByteArray} {maxL : Nat} {ret : Option FieldType}
    (hown : s.vm.findClass own = some m.cls) (hlink : (Cond.methodLink own index y).before args s = true) (hinst : (Cond.instanceMethod y).before args s = true) (hsel : (Cond.selects C y y).before args s = true)
    (hcode : (Cond.code y bytes maxL ret).before args s = true) (hy : y.cls ≠ "java/lang/invoke/MethodHandle" ∧ y.cls ≠ "java/lang/invoke/VarHandle")
    {W9 : Nat} {Pre : Pt → Array Value → Prop} {Post : Pt → Array Value → Option Value → Pt → Prop} {PostX : Pt → Array Value → Addr → Pt → Prop} (hK : vx_Back l R p e below s args y 3 W9 Pre Post PostX)
    {b : Addr} {cellB : Cell} (hcell : T.heap[b]? = some cellB) (hobj : cellB.vm.isStatics = false) (hcls : s.vm.findClass C = some cellB.cls)
    {g : JFrame} (hg : g.method = m) (hsize : g.locals.size = c.maxLocals) {argsL rest : List Value} (hlen : ∀ sig, parseMethodDescriptor y.desc = some sig → argsL.length = sig.parameters.length)
    (hstack : g.stack = argsL.reverse ++ .ref b :: rest) (hW : 2 * g.monitorRoom + (rest.map fun v => v.category).sum ≤ W9) (hdg : decode c.code g.pc = .ok (.invokevirtual index, 3))
    (hpre : ∀ vm₁, s.WarmedH vm₁ → Pre ⟨T.setVm vm₁, locs, cells, slots⟩ (Value.ref b :: argsL).toArray) :
    (∃ (v : Option Value) (vm₁ : Vm) (B : Pt), s.WarmedH vm₁ ∧ Stand p l e R s m args below meth c B.U B.locs B.cells B.slots ∧ Post ⟨T.setVm vm₁, locs, cells, slots⟩ (Value.ref b :: argsL).toArray v B ∧
      ∀ target, Steps p.tables e below (B.U.setTop { g with pc := g.pc + 3, stack := v.toList ++ rest }) target → Steps p.tables e below (T.setTop g) target) ∨
    (∃ (q : Addr) (vm₁ : Vm) (B : Pt), s.WarmedH vm₁ ∧ Stand p l e R s m args below meth c B.U B.locs B.cells B.slots ∧ PostX ⟨T.setVm vm₁, locs, cells, slots⟩ (Value.ref b :: argsL).toArray q B ∧
      Steps p.tables e below (T.setTop g) ((B.U.setTop { g with stack := rest }).pushFrame (.throwing q))) := by
  obtain ⟨mk, methM, hnamed, hmethM, hstM, habM⟩ := Cond.instanceMethod_spec hinst
  obtain ⟨methM', cM, hmethM', -, -, -, -, -, -, hsigM⟩ := Cond.code_spec hnamed hcode
  cases hmethM.symm.trans hmethM'
  obtain ⟨c2, r2, m2, q1, q2, q3, q4, kP, hkP, hkPi⟩ := Cond.selects_spec hsel
  cases hcls.symm.trans q1
  cases (State.methodFound?_of_named hnamed hy).symm.trans q2
  cases hnamed.symm.trans q3
  have hselP : selectMethod e.platform s.vm cellB.cls mk = .method mk := by rw [Launch.admits_selectMethod X.admits]; exact q4
  obtain ⟨vm₁, X₁, hstep₁⟩ := X.invokevirtual hexec hown hlink hnamed hmethM hstM hkP hkPi hy (a := b) (cell := cellB) hcell
    (fun z h => by rw [h] at hobj; cases hobj) hselP hmethM habM hkP hkPi (g := g) hg (argsL := argsL) (rest := rest) (hlen _ hsigM) hstack hdg
  rcases hK m meth c ⟨T.setVm vm₁, locs, cells, slots⟩ { g with stack := rest } (.invokevirtual index) mk (Value.ref b :: argsL).toArray X₁ hg hsize hdg hW (X₁.named hnamed) (hpre vm₁ X₁.warmed) with ⟨v, B, X', hpost, hsteps⟩ | ⟨q, B, X', hpost, hsteps⟩
  · exact Or.inl ⟨v, vm₁, B, X₁.warmed, X', hpost, fun target h => hstep₁ _ fun acts => by rw [doInvoke_state]; exact hsteps.trans h⟩
  · exact Or.inr ⟨q, vm₁, B, X₁.warmed, X', hpost, hstep₁ _ fun acts => by rw [doInvoke_state]; exact hsteps⟩
theorem vx_callS (X : Stand p l e R s m args below meth c T locs cells slots) (hexec : p.tables.exec = Jvm.exec) {own : String} {index : Nat} {y : MethodName} {bytes : ByteArray} {maxL : Nat} {ret : Option FieldType}
    (hown : s.vm.findClass own = some m.cls) (hlink : (Cond.methodLink own index y).before args s = true) (hstat : (Cond.static y).before args s = true) (hinit : (Cond.initialized y.cls).before args s = true)
    (hcode : (Cond.code y bytes maxL ret).before args s = true) (hy : y.cls ≠ "java/lang/invoke/MethodHandle" ∧ y.cls ≠ "java/lang/invoke/VarHandle")
    {W9 : Nat} {Pre : Pt → Array Value → Prop} {Post : Pt → Array Value → Option Value → Pt → Prop} {PostX : Pt → Array Value → Addr → Pt → Prop} (hK : vx_Back l R p e below s args y 3 W9 Pre Post PostX)
    {g : JFrame} (hg : g.method = m) (hsize : g.locals.size = c.maxLocals) {argsL rest : List Value} (hlen : ∀ sig, parseMethodDescriptor y.desc = some sig → argsL.length = sig.parameters.length)
    (hstack : g.stack = argsL.reverse ++ rest) (hW : 2 * g.monitorRoom + (rest.map fun v => v.category).sum ≤ W9) (hdg : decode c.code g.pc = .ok (.invokestatic index, 3))
    (hpre : ∀ vm₁, s.WarmedH vm₁ → Pre ⟨T.setVm vm₁, locs, cells, slots⟩ argsL.toArray) :
    (∃ (v : Option Value) (vm₁ : Vm) (B : Pt), s.WarmedH vm₁ ∧ Stand p l e R s m args below meth c B.U B.locs B.cells B.slots ∧ Post ⟨T.setVm vm₁, locs, cells, slots⟩ argsL.toArray v B ∧
      ∀ target, Steps p.tables e below (B.U.setTop { g with pc := g.pc + 3, stack := v.toList ++ rest }) target → Steps p.tables e below (T.setTop g) target) ∨
    (∃ (q : Addr) (vm₁ : Vm) (B : Pt), s.WarmedH vm₁ ∧ Stand p l e R s m args below meth c B.U B.locs B.cells B.slots ∧ PostX ⟨T.setVm vm₁, locs, cells, slots⟩ argsL.toArray q B ∧
      Steps p.tables e below (T.setTop g) ((B.U.setTop { g with stack := rest }).pushFrame (.throwing q))) := by
  obtain ⟨mk, hnamed⟩ := Cond.code_named hcode
  obtain ⟨methM, cM, hmethM, -, -, -, -, -, -, hsigM⟩ := Cond.code_spec hnamed hcode
  have hstatic : methM.isStatic = true := Cond.static_spec hnamed hmethM hstat
  obtain ⟨kP, hkP, -⟩ := className_of_methodNamed hnamed
  have hinitP : kP.init = .initialized := Cond.initialized_spec (findClass_of_methodNamed hnamed) hkP hinit
  obtain ⟨vm₁, X₁, hstep₁⟩ := X.invokestatic hexec hown hlink hnamed hmethM hstatic hkP hinitP hy (g := g) hg (argsL := argsL) (rest := rest) (hlen _ hsigM) hstack hdg
  rcases hK m meth c ⟨T.setVm vm₁, locs, cells, slots⟩ { g with stack := rest } (.invokestatic index) mk argsL.toArray X₁ hg hsize hdg hW (X₁.named hnamed) (hpre vm₁ X₁.warmed) with ⟨v, B, X', hpost, hsteps⟩ | ⟨q, B, X', hpost, hsteps⟩
  · exact Or.inl ⟨v, vm₁, B, X₁.warmed, X', hpost, fun target h => hstep₁ _ fun acts => by rw [doInvoke_state]; exact hsteps.trans h⟩
  · exact Or.inr ⟨q, vm₁, B, X₁.warmed, X', hpost, hstep₁ _ fun acts => by rw [doInvoke_state]; exact hsteps⟩
end Calls
theorem vx_cls {s : State} {T : State} {vm₁ : Vm} {E : String} {k : ClassId} (hW : s.WarmedH vm₁) (h : (T.setVm vm₁).vm.findClass E = some k) : s.vm.findClass E = some k := by
  have h1 : vm₁.findClass E = some k := h
  rw [hW.alike.findClass] at h1
  exact h1
/-- the method's frame g, with q thrown over it -/
def vx_W (p : Program) (l : Launch) (e : Env) (R : Room) (s : State) (m : MethodId) (args : Array Value) (below : List Frame) (meth : Method) (c : Code) (H : Heap) (locs : List Loc) (cells slots : Nat) (Q : State → Prop) (g : JFrame) (q : Addr) : Prop :=
  ∀ T : State, T.heap = H → Stand p l e R s m args below meth c T locs cells slots → ∃ t, Steps p.tables e below ((T.setTop g).pushFrame (.throwing q)) t ∧ Q t
def vx_Run (p : Program) (l : Launch) (e : Env) (R : Room) (s : State) (m : MethodId) (args : Array Value) (below : List Frame) (meth : Method) (c : Code) (H : Heap) (locs : List Loc) (cells slots mc ms : Nat) (g : JFrame) (rest : List Value) (Qa : State → Outcome → State → Prop) (XC : String → State → State → Prop) (free : Addr → Prop) : Prop :=
  ∀ T : State, T.heap = H → Stand p l e R s m args below meth c T locs cells slots →
    (∃ (v : Option Value) (st₀ t T' : State) (L : List Loc), st₀.heap = H ∧ Stand p l e R s m args below meth c T' (locs ++ L) (cells + mc) (slots + ms) ∧ (∀ q ∈ L, free q.base) ∧ T'.heap = t.heap ∧ T'.vm = t.vm ∧ Qa st₀ (.returned v) t ∧
      Goes p e below T g T' { g with pc := g.pc + 3, stack := v.toList ++ rest }) ∨
    (∃ (q : Addr) (st₀ t T' : State) (L : List Loc) (E : String) (ce : Cell), st₀.heap = H ∧ Stand p l e R s m args below meth c T' (locs ++ L) (cells + mc) (slots + ms) ∧ (∀ z ∈ L, free z.base) ∧ T'.heap = t.heap ∧ T'.vm = t.vm ∧ XC E st₀ t ∧ t.heap[q]? = some ce ∧ ce.vm = .none ∧ s.vm.findClass E = some ce.cls ∧
      Steps p.tables e below (T.setTop g) ((T'.setTop { g with stack := rest }).pushFrame (.throwing q)))
def vx_X {S : Type} (px : S → Prop) (B : String → S → State → Prop) (A : Nat → Prop) : String → State → State → Prop := fun E st t => ∃ u : S, px u ∧ B E u t ∧ va_F A st t
section Runs
variable {p : Program} {l : Launch} {e : Env} {R : Room} {s : State} {m : MethodId} {args : Array Value} {below : List Frame} {meth : Method} {c : Code} {H : Heap} {locs : List Loc} {cells slots : Nat}
variable {y : MethodName} {bytes cc : ByteArray} {maxL nL mc ms n index : Nat} {ret : Option FieldType} {ws : List Cond} {rm : Room} {Pc : Array Value → State → Prop} {Qc : Array Value → State → Outcome → State → Prop} {XC : String → State → State → Prop} {free : Addr → Prop} {Ts : List Cond} {own C : String} {b : Addr} {As rest : List Value} {g : JFrame}
theorem vx_callBack (cb : CallB R s args own index y bytes maxL ret ws rm mc ms n) (hM : vx_Met l y ws rm Pc Qc XC mc ms free) (hbl : FrameBlind Pc) : vx_Back l R p e below s args y 3 8 (PreOf R mc ms Pc) (PostOf Qc mc ms free) (vx_Post XC mc ms free) := by
  obtain ⟨hrc, hrs, hfr, hlo, hws, hcw, -, hini, -⟩ := cb
  exact vx_back (bytes := bytes) (maxL := maxL) (ret := ret) hM hbl hrc hrs hfr hlo hws hcw (fun a' U hW => word_at hW (Or.inl (by first | rfl | simp [Cond.onTables, Cond.keeps, Cond.steady])) hini)
theorem vx_runV (S : CallFix p m c cc nL s args Ts own) (hM : vx_Met l y ws rm Pc Qc XC mc ms free) (cw : CallW R s args own C index y bytes maxL ret ws rm mc ms n) (hp : PreV s H C b Pc As)
    (hg : g.method = m) (hn : As.length = n) (hsize : g.locals.size = nL) (hstack : g.stack = As.reverse ++ .ref b :: rest) (hW : 2 * g.monitorRoom + (rest.map fun v => v.category).sum ≤ 8) (hdg : decode cc g.pc = .ok (.invokevirtual index, 3)) (hf : cells + mc ≤ R.cells ∧ slots + ms ≤ R.slots) :
    vx_Run p l e R s m args below meth c H locs cells slots mc ms g rest (Qc (Value.ref b :: As).toArray) XC free := by
  have hK : vx_Back l R p e below s args y 3 8 (PreOf R mc ms Pc) (PostOf Qc mc ms free) (vx_Post XC mc ms free) := vx_callBack cw.1 hM hp.1
  obtain ⟨⟨-, -, -, -, -, -, hcode, -, hy, hlen, hl⟩, hin, hse⟩ := cw
  obtain ⟨hx, hb, hml, ho, -⟩ := S
  obtain ⟨-, ⟨cellB, hcB, hoB, hclB⟩, hPc⟩ := hp
  intro T hT X
  rcases vx_callV X hx (C := C) (bytes := bytes) (maxL := maxL) (ret := ret) ho hl hin hse hcode hy hK (by rw [hT]; exact hcB) hoB hclB hg (hsize.trans hml.symm) (argsL := As) (rest := rest) (fun sig h => hn.trans (hlen sig h)) hstack hW (by rw [hb]; exact hdg)
    (fun vm₁ hW₁ => ⟨hf.1, hf.2, hPc (T.setVm vm₁) hT hW₁⟩) with ⟨v, vm₁, ⟨U', l2, c2, s2⟩, hW₁, X', ⟨g', mk, t, L, e1, e2, hq, h1, hL, h2, h3⟩, st⟩ | ⟨q, vm₁, ⟨U', l2, c2, s2⟩, hW₁, X', ⟨g', mk, t, L, E, ce, e1, e2, hq, hce, hcv, hcl, h1, hL, h2, h3⟩, st⟩
  · dsimp only [Pt.U, Pt.locs, Pt.cells, Pt.slots] at X' e1 e2 h1 h2 h3 st
    subst h1; subst h2; subst h3
    exact Or.inl ⟨v, (T.setVm vm₁).calling g' mk (Value.ref b :: As).toArray, t, U', L, hT, X', hL, e1, e2, hq, st⟩
  · dsimp only [Pt.U, Pt.locs, Pt.cells, Pt.slots] at X' e1 e2 h1 h2 h3 st hcl
    subst h1; subst h2; subst h3
    exact Or.inr ⟨q, (T.setVm vm₁).calling g' mk (Value.ref b :: As).toArray, t, U', L, E, ce, hT, X', hL, e1, e2, hq, hce, hcv, vx_cls hW₁ hcl, st⟩
theorem vx_runS (S : CallFix p m c cc nL s args Ts own) (hM : vx_Met l y ws rm Pc Qc XC mc ms free) (cw : CallB R s args own index y bytes maxL ret ws rm mc ms n ∧ (Cond.static y).before args s = true) (hp : PreS s H Pc As)
    (hg : g.method = m) (hn : As.length = n) (hsize : g.locals.size = nL) (hstack : g.stack = As.reverse ++ rest) (hW : 2 * g.monitorRoom + (rest.map fun v => v.category).sum ≤ 8) (hdg : decode cc g.pc = .ok (.invokestatic index, 3)) (hf : cells + mc ≤ R.cells ∧ slots + ms ≤ R.slots) :
    vx_Run p l e R s m args below meth c H locs cells slots mc ms g rest (Qc As.toArray) XC free := by
  have hK : vx_Back l R p e below s args y 3 8 (PreOf R mc ms Pc) (PostOf Qc mc ms free) (vx_Post XC mc ms free) := vx_callBack cw.1 hM hp.1
  obtain ⟨⟨-, -, -, -, -, -, hcode, hini, hy, hlen, hl⟩, hstt⟩ := cw
  obtain ⟨hx, hb, hml, ho, -⟩ := S
  intro T hT X
  rcases vx_callS X hx (bytes := bytes) (maxL := maxL) (ret := ret) ho hl hstt hini hcode hy hK hg (hsize.trans hml.symm) (argsL := As) (rest := rest) (fun sig h => hn.trans (hlen sig h)) hstack hW (by rw [hb]; exact hdg)
    (fun vm₁ hW₁ => ⟨hf.1, hf.2, hp.2 (T.setVm vm₁) hT hW₁⟩) with ⟨v, vm₁, ⟨U', l2, c2, s2⟩, hW₁, X', ⟨g', mk, t, L, e1, e2, hq, h1, hL, h2, h3⟩, st⟩ | ⟨q, vm₁, ⟨U', l2, c2, s2⟩, hW₁, X', ⟨g', mk, t, L, E, ce, e1, e2, hq, hce, hcv, hcl, h1, hL, h2, h3⟩, st⟩
  · dsimp only [Pt.U, Pt.locs, Pt.cells, Pt.slots] at X' e1 e2 h1 h2 h3 st
    subst h1; subst h2; subst h3
    exact Or.inl ⟨v, (T.setVm vm₁).calling g' mk As.toArray, t, U', L, hT, X', hL, e1, e2, hq, st⟩
  · dsimp only [Pt.U, Pt.locs, Pt.cells, Pt.slots] at X' e1 e2 h1 h2 h3 st hcl
    subst h1; subst h2; subst h3
    exact Or.inr ⟨q, (T.setVm vm₁).calling g' mk As.toArray, t, U', L, E, ce, hT, X', hL, e1, e2, hq, hce, hcv, vx_cls hW₁ hcl, st⟩
end Runs
section Rows
variable {p : Program} {l : Launch} {e : Env} {R : Room} {s : State} {m : MethodId} {args : Array Value} {below : List Frame} {meth : Method} {c : Code} {H : Heap} {locs : List Loc} {cells slots : Nat} {Q : State → Prop}
variable {mc ms : Nat} {free : Addr → Prop} {A0 A1 : Nat → Prop} {H0 : Heap} {a : Array Value} {pc : Nat} {ls : Array Slot} {st0 rest : List Value}
theorem vx_keep {st₀ t T' : State} {L : List Loc} (h0 : st₀.heap = H) (e1 : T'.heap = t.heap) (hS : va_S A0 H0 H locs) (hA : ∀ q, q < H.size → A1 q → A0 q) (hf : ∀ q, free q → A0 q) (hL : ∀ q ∈ L, free q.base) (hF : va_F A1 st₀ t) :
    H.size ≤ T'.heap.size ∧ (∀ q : Nat, q < H.size → ¬ A1 q → T'.heap[q]? = H[q]?) ∧ va_S A0 H0 T'.heap (locs ++ L) := by
  obtain ⟨hz, hk⟩ := hF
  rw [h0] at hz hk
  exact ⟨by rw [e1]; exact hz, fun q h1 h2 => by rw [e1]; exact hk q h1 h2,
    ⟨Nat.le_trans hS.1 (by rw [e1]; exact hz), fun q h1 h2 => by rw [e1, hk q (Nat.lt_of_lt_of_le h1 hS.1) (fun z => h2 (hA q (Nat.lt_of_lt_of_le h1 hS.1) z))]; exact hS.2.1 q h1 h2, fun q hq => by
      rcases List.mem_append.mp hq with h | h
      · exact hS.2.2 q h
      · exact hf _ (hL q h)⟩⟩
theorem vx_calli {S SX : Type} {post : Int32 → S → Prop} {px : SX → Prop} {B : S → State → Prop} {BX : String → SX → State → Prop} {AX : Nat → Prop} (hr : vx_Run p l e R s m args below meth c H locs cells slots mc ms (F0 m pc ls st0) rest (va_Qi post B A1 a) (vx_X px BX AX) free) (hS : va_S A0 H0 H locs) (hA : ∀ q, q < H.size → A1 q → A0 q) (hf : ∀ q, free q → A0 q) (hAX : ∀ q, q < H.size → AX q → A0 q)
    (kx : ∀ (E : String) (ce : Cell) (q9 : Addr) (u : SX) (t : State) (H1 : Heap) (locs1 : List Loc), t.heap = H1 → s.vm.Alike t.vm → px u → BX E u t → H.size ≤ H1.size → (∀ q : Nat, q < H.size → ¬ AX q → H1[q]? = H[q]?) → va_S A0 H0 H1 locs1 → H1[q9]? = some ce → ce.vm = .none → s.vm.findClass E = some ce.cls → vx_W p l e R s m args below meth c H1 locs1 (cells + mc) (slots + ms) Q (F0 m pc ls rest) q9)
    (kk : ∀ (r : Int32) (u : S) (t : State) (H1 : Heap) (locs1 : List Loc), t.heap = H1 → s.vm.Alike t.vm → post r u → B u t → H.size ≤ H1.size → (∀ q : Nat, q < H.size → ¬ A1 q → H1[q]? = H[q]?) → va_S A0 H0 H1 locs1 → W p l e R s m args below meth c H1 locs1 (cells + mc) (slots + ms) Q (F0 m (pc + 3) ls (.int r :: rest))) : W p l e R s m args below meth c H locs cells slots Q (F0 m pc ls st0) := by
  intro T hT X
  rcases hr T hT X with ⟨v, st₀, t, T', L, h0, X', hL, e1, e2, ⟨⟨r, u, hv, hp, hb⟩, hF⟩, st⟩ | ⟨q, st₀, t, T', L, E, ce, h0, X', hL, e1, e2, ⟨u, hp, hb, hF⟩, hce, hcv, hcl, st⟩
  · cases hv
    obtain ⟨k1, k2, k3⟩ := vx_keep h0 e1 hS hA hf hL hF
    obtain ⟨t2, a1, b1⟩ := kk r u t T'.heap (locs ++ L) e1.symm (by rw [← e2]; exact X'.warmed.alike) hp hb k1 k2 k3 T' rfl X'
    exact ⟨t2, st t2 a1, b1⟩
  · obtain ⟨k1, k2, k3⟩ := vx_keep h0 e1 hS hAX hf hL hF
    obtain ⟨t2, a1, b1⟩ := kx E ce q u t T'.heap (locs ++ L) e1.symm (by rw [← e2]; exact X'.warmed.alike) hp hb k1 k2 k3 (by rw [e1]; exact hce) hcv hcl T' rfl X'
    exact ⟨t2, st.trans a1, b1⟩
theorem vx_calll {S SX : Type} {post : Int64 → S → Prop} {px : SX → Prop} {B : S → State → Prop} {BX : String → SX → State → Prop} {AX : Nat → Prop} (hr : vx_Run p l e R s m args below meth c H locs cells slots mc ms (F0 m pc ls st0) rest (va_Ql post B A1 a) (vx_X px BX AX) free) (hS : va_S A0 H0 H locs) (hA : ∀ q, q < H.size → A1 q → A0 q) (hf : ∀ q, free q → A0 q) (hAX : ∀ q, q < H.size → AX q → A0 q)
    (kx : ∀ (E : String) (ce : Cell) (q9 : Addr) (u : SX) (t : State) (H1 : Heap) (locs1 : List Loc), t.heap = H1 → s.vm.Alike t.vm → px u → BX E u t → H.size ≤ H1.size → (∀ q : Nat, q < H.size → ¬ AX q → H1[q]? = H[q]?) → va_S A0 H0 H1 locs1 → H1[q9]? = some ce → ce.vm = .none → s.vm.findClass E = some ce.cls → vx_W p l e R s m args below meth c H1 locs1 (cells + mc) (slots + ms) Q (F0 m pc ls rest) q9)
    (kk : ∀ (r : Int64) (u : S) (t : State) (H1 : Heap) (locs1 : List Loc), t.heap = H1 → s.vm.Alike t.vm → post r u → B u t → H.size ≤ H1.size → (∀ q : Nat, q < H.size → ¬ A1 q → H1[q]? = H[q]?) → va_S A0 H0 H1 locs1 → W p l e R s m args below meth c H1 locs1 (cells + mc) (slots + ms) Q (F0 m (pc + 3) ls (.long r :: rest))) : W p l e R s m args below meth c H locs cells slots Q (F0 m pc ls st0) := by
  intro T hT X
  rcases hr T hT X with ⟨v, st₀, t, T', L, h0, X', hL, e1, e2, ⟨⟨r, u, hv, hp, hb⟩, hF⟩, st⟩ | ⟨q, st₀, t, T', L, E, ce, h0, X', hL, e1, e2, ⟨u, hp, hb, hF⟩, hce, hcv, hcl, st⟩
  · cases hv
    obtain ⟨k1, k2, k3⟩ := vx_keep h0 e1 hS hA hf hL hF
    obtain ⟨t2, a1, b1⟩ := kk r u t T'.heap (locs ++ L) e1.symm (by rw [← e2]; exact X'.warmed.alike) hp hb k1 k2 k3 T' rfl X'
    exact ⟨t2, st t2 a1, b1⟩
  · obtain ⟨k1, k2, k3⟩ := vx_keep h0 e1 hS hAX hf hL hF
    obtain ⟨t2, a1, b1⟩ := kx E ce q u t T'.heap (locs ++ L) e1.symm (by rw [← e2]; exact X'.warmed.alike) hp hb k1 k2 k3 (by rw [e1]; exact hce) hcv hcl T' rfl X'
    exact ⟨t2, st.trans a1, b1⟩
theorem vx_callf {S SX : Type} {post : UInt32 → S → Prop} {px : SX → Prop} {B : S → State → Prop} {BX : String → SX → State → Prop} {AX : Nat → Prop} (hr : vx_Run p l e R s m args below meth c H locs cells slots mc ms (F0 m pc ls st0) rest (va_Qf post B A1 a) (vx_X px BX AX) free) (hS : va_S A0 H0 H locs) (hA : ∀ q, q < H.size → A1 q → A0 q) (hf : ∀ q, free q → A0 q) (hAX : ∀ q, q < H.size → AX q → A0 q)
    (kx : ∀ (E : String) (ce : Cell) (q9 : Addr) (u : SX) (t : State) (H1 : Heap) (locs1 : List Loc), t.heap = H1 → s.vm.Alike t.vm → px u → BX E u t → H.size ≤ H1.size → (∀ q : Nat, q < H.size → ¬ AX q → H1[q]? = H[q]?) → va_S A0 H0 H1 locs1 → H1[q9]? = some ce → ce.vm = .none → s.vm.findClass E = some ce.cls → vx_W p l e R s m args below meth c H1 locs1 (cells + mc) (slots + ms) Q (F0 m pc ls rest) q9)
    (kk : ∀ (r : UInt32) (u : S) (t : State) (H1 : Heap) (locs1 : List Loc), t.heap = H1 → s.vm.Alike t.vm → post r u → B u t → H.size ≤ H1.size → (∀ q : Nat, q < H.size → ¬ A1 q → H1[q]? = H[q]?) → va_S A0 H0 H1 locs1 → W p l e R s m args below meth c H1 locs1 (cells + mc) (slots + ms) Q (F0 m (pc + 3) ls (.float r :: rest))) : W p l e R s m args below meth c H locs cells slots Q (F0 m pc ls st0) := by
  intro T hT X
  rcases hr T hT X with ⟨v, st₀, t, T', L, h0, X', hL, e1, e2, ⟨⟨r, u, hv, hp, hb⟩, hF⟩, st⟩ | ⟨q, st₀, t, T', L, E, ce, h0, X', hL, e1, e2, ⟨u, hp, hb, hF⟩, hce, hcv, hcl, st⟩
  · cases hv
    obtain ⟨k1, k2, k3⟩ := vx_keep h0 e1 hS hA hf hL hF
    obtain ⟨t2, a1, b1⟩ := kk r u t T'.heap (locs ++ L) e1.symm (by rw [← e2]; exact X'.warmed.alike) hp hb k1 k2 k3 T' rfl X'
    exact ⟨t2, st t2 a1, b1⟩
  · obtain ⟨k1, k2, k3⟩ := vx_keep h0 e1 hS hAX hf hL hF
    obtain ⟨t2, a1, b1⟩ := kx E ce q u t T'.heap (locs ++ L) e1.symm (by rw [← e2]; exact X'.warmed.alike) hp hb k1 k2 k3 (by rw [e1]; exact hce) hcv hcl T' rfl X'
    exact ⟨t2, st.trans a1, b1⟩
theorem vx_calld {S SX : Type} {post : UInt64 → S → Prop} {px : SX → Prop} {B : S → State → Prop} {BX : String → SX → State → Prop} {AX : Nat → Prop} (hr : vx_Run p l e R s m args below meth c H locs cells slots mc ms (F0 m pc ls st0) rest (va_Qd post B A1 a) (vx_X px BX AX) free) (hS : va_S A0 H0 H locs) (hA : ∀ q, q < H.size → A1 q → A0 q) (hf : ∀ q, free q → A0 q) (hAX : ∀ q, q < H.size → AX q → A0 q)
    (kx : ∀ (E : String) (ce : Cell) (q9 : Addr) (u : SX) (t : State) (H1 : Heap) (locs1 : List Loc), t.heap = H1 → s.vm.Alike t.vm → px u → BX E u t → H.size ≤ H1.size → (∀ q : Nat, q < H.size → ¬ AX q → H1[q]? = H[q]?) → va_S A0 H0 H1 locs1 → H1[q9]? = some ce → ce.vm = .none → s.vm.findClass E = some ce.cls → vx_W p l e R s m args below meth c H1 locs1 (cells + mc) (slots + ms) Q (F0 m pc ls rest) q9)
    (kk : ∀ (r : UInt64) (u : S) (t : State) (H1 : Heap) (locs1 : List Loc), t.heap = H1 → s.vm.Alike t.vm → post r u → B u t → H.size ≤ H1.size → (∀ q : Nat, q < H.size → ¬ A1 q → H1[q]? = H[q]?) → va_S A0 H0 H1 locs1 → W p l e R s m args below meth c H1 locs1 (cells + mc) (slots + ms) Q (F0 m (pc + 3) ls (.double r :: rest))) : W p l e R s m args below meth c H locs cells slots Q (F0 m pc ls st0) := by
  intro T hT X
  rcases hr T hT X with ⟨v, st₀, t, T', L, h0, X', hL, e1, e2, ⟨⟨r, u, hv, hp, hb⟩, hF⟩, st⟩ | ⟨q, st₀, t, T', L, E, ce, h0, X', hL, e1, e2, ⟨u, hp, hb, hF⟩, hce, hcv, hcl, st⟩
  · cases hv
    obtain ⟨k1, k2, k3⟩ := vx_keep h0 e1 hS hA hf hL hF
    obtain ⟨t2, a1, b1⟩ := kk r u t T'.heap (locs ++ L) e1.symm (by rw [← e2]; exact X'.warmed.alike) hp hb k1 k2 k3 T' rfl X'
    exact ⟨t2, st t2 a1, b1⟩
  · obtain ⟨k1, k2, k3⟩ := vx_keep h0 e1 hS hAX hf hL hF
    obtain ⟨t2, a1, b1⟩ := kx E ce q u t T'.heap (locs ++ L) e1.symm (by rw [← e2]; exact X'.warmed.alike) hp hb k1 k2 k3 (by rw [e1]; exact hce) hcv hcl T' rfl X'
    exact ⟨t2, st.trans a1, b1⟩
theorem vx_callv {S SX : Type} {post : S → Prop} {px : SX → Prop} {B : S → State → Prop} {BX : String → SX → State → Prop} {AX : Nat → Prop} (hr : vx_Run p l e R s m args below meth c H locs cells slots mc ms (F0 m pc ls st0) rest (va_Qv post B A1 a) (vx_X px BX AX) free) (hS : va_S A0 H0 H locs) (hA : ∀ q, q < H.size → A1 q → A0 q) (hf : ∀ q, free q → A0 q) (hAX : ∀ q, q < H.size → AX q → A0 q)
    (kx : ∀ (E : String) (ce : Cell) (q9 : Addr) (u : SX) (t : State) (H1 : Heap) (locs1 : List Loc), t.heap = H1 → s.vm.Alike t.vm → px u → BX E u t → H.size ≤ H1.size → (∀ q : Nat, q < H.size → ¬ AX q → H1[q]? = H[q]?) → va_S A0 H0 H1 locs1 → H1[q9]? = some ce → ce.vm = .none → s.vm.findClass E = some ce.cls → vx_W p l e R s m args below meth c H1 locs1 (cells + mc) (slots + ms) Q (F0 m pc ls rest) q9)
    (kk : ∀ (u : S) (t : State) (H1 : Heap) (locs1 : List Loc), t.heap = H1 → s.vm.Alike t.vm → post u → B u t → H.size ≤ H1.size → (∀ q : Nat, q < H.size → ¬ A1 q → H1[q]? = H[q]?) → va_S A0 H0 H1 locs1 → W p l e R s m args below meth c H1 locs1 (cells + mc) (slots + ms) Q (F0 m (pc + 3) ls (rest))) : W p l e R s m args below meth c H locs cells slots Q (F0 m pc ls st0) := by
  intro T hT X
  rcases hr T hT X with ⟨v, st₀, t, T', L, h0, X', hL, e1, e2, ⟨⟨u, hv, hp, hb⟩, hF⟩, st⟩ | ⟨q, st₀, t, T', L, E, ce, h0, X', hL, e1, e2, ⟨u, hp, hb, hF⟩, hce, hcv, hcl, st⟩
  · cases hv
    obtain ⟨k1, k2, k3⟩ := vx_keep h0 e1 hS hA hf hL hF
    obtain ⟨t2, a1, b1⟩ := kk u t T'.heap (locs ++ L) e1.symm (by rw [← e2]; exact X'.warmed.alike) hp hb k1 k2 k3 T' rfl X'
    exact ⟨t2, st t2 a1, b1⟩
  · obtain ⟨k1, k2, k3⟩ := vx_keep h0 e1 hS hAX hf hL hF
    obtain ⟨t2, a1, b1⟩ := kx E ce q u t T'.heap (locs ++ L) e1.symm (by rw [← e2]; exact X'.warmed.alike) hp hb k1 k2 k3 (by rw [e1]; exact hce) hcv hcl T' rfl X'
    exact ⟨t2, st.trans a1, b1⟩
/-- caught by the row x of this method's table; the rows ahead don't take it -/
theorem vx_catch {own name : String} {E : String} {ce : Cell} {q : Addr} (hown : s.vm.findClass own = some m.cls) (pre : List ExceptionTableEntry) (x : ExceptionTableEntry) (suf : List ExceptionTableEntry) (hsplit : c.exceptionTable.toList = pre ++ x :: suf)
    (hpass : ∀ z ∈ pre, covers z pc = false ∨ (z.catchType ≠ 0 ∧ ∃ nm : String, (Cond.classLink own z.catchType nm).before args s = true ∧ va_Nc E nm s)) (hx : covers x pc = true) (h0 : x.catchType ≠ 0)
    (hlink : (Cond.classLink own x.catchType name).before args s = true) (hcast : (Cond.castable E name).before args s = true) (hcell : H[q]? = some ce) (hv : ce.vm = .none) (hcl : s.vm.findClass E = some ce.cls)
    (kk : W p l e R s m args below meth c H locs cells slots Q (F0 m x.handlerPc ls [.ref q])) : vx_W p l e R s m args below meth c H locs cells slots Q (F0 m pc ls rest) q := by
  intro T hT X
  have hpl : e.platform.magicAccessors = ({} : Platform).magicAccessors := by rw [X.admits.platform]
  obtain ⟨c3, c4, hc3, hc4, hasg⟩ := Cond.castable_spec hcast
  cases Option.some.inj (hc3.symm.trans hcl)
  obtain ⟨c5, hc5, hcl5⟩ := Cond.classLink_spec hown hlink e.platform hpl
  cases Option.some.inj (hc4.symm.trans hc5)
  obtain ⟨vm', X', st⟩ := X.thenCaughtThrough q (g := F0 m pc ls rest) rfl (Steps.refl _) (by rw [hT]; exact hcell) (by rw [hv]; rfl) (by obtain ⟨k9, h9, -⟩ := Vm.findClass_spec hcl; exact ⟨k9, h9⟩) pre x suf hsplit
    (fun z hz => by
      rcases hpass z hz with h | ⟨hz0, nm, hl1, hn1⟩
      · exact Or.inl h
      · obtain ⟨c6, hc6, hcl6⟩ := Cond.classLink_spec hown hl1 e.platform hpl
        obtain ⟨a8, b8, h1, h2, h3⟩ := hn1
        cases Option.some.inj (h1.symm.trans hcl)
        cases Option.some.inj (h2.symm.trans hc6)
        exact Or.inr ⟨hz0, _, hcl6, h3⟩) hx (Or.inr ⟨h0, c4, hcl5, hasg⟩)
  obtain ⟨t, a1, b1⟩ := kk (T.setVm vm') hT X'
  exact ⟨t, st.trans a1, b1⟩
end Rows
section Ends
variable {p : Program} {l : Launch} {e : Env} {R : Room} {s : State} {m : MethodId} {args : Array Value} {below : List Frame} {meth : Method} {c : Code} {H : Heap} {locs : List Loc} {cells slots : Nat} {Q : State → Prop}
variable {mc ms : Nat} {free : Addr → Prop} {A0 A1 : Nat → Prop} {H0 : Heap} {a : Array Value} {ls : Array Slot} {st0 rest : List Value}
variable {Qc : Array Value → State → Outcome → State → Prop} {XC : String → State → State → Prop}
/-- what a body that may throw owes at its end -/
def vx_MQ (below : List Frame) (Qc : Array Value → State → Outcome → State → Prop) (XC : String → State → State → Prop) (a : Array Value) (s : State) (mc ms : Nat) (free : Addr → Prop) : State → Prop := fun t =>
  ∃ o, t.status = .running ∧ Ended t below o ∧ vx_Q Qc XC mc ms free a s o t
theorem vx_ret {g : JFrame} {mc ms : Nat} (k : W p l e R s m args below meth c H locs cells slots (MQ below Qc args s mc ms free) g) : W p l e R s m args below meth c H locs cells slots (vx_MQ below Qc XC args s mc ms free) g := by
  intro T hT X
  obtain ⟨t, a1, o, b1, b2, b3, b4⟩ := k T hT X
  exact ⟨t, a1, o, b1, b2, Or.inl ⟨b3, b4⟩⟩
/-- not caught here: it goes on to the caller -/
theorem vx_widen {g : JFrame} {q : Addr} {k n : Nat} (h1 : cells ≤ k) (h2 : slots ≤ n) (kk : vx_W p l e R s m args below meth c H locs k n Q g q) : vx_W p l e R s m args below meth c H locs cells slots Q g q := fun T hT X => kk T hT (stand_widen X h1 h2)
theorem vx_out {pc : Nat} {E : String} {ce : Cell} {q : Addr} {mc ms : Nat} (hout : ∀ x ∈ c.exceptionTable.toList, covers x pc = false) (hlocks : meth.locks = false) (hcell : H[q]? = some ce) (hv : ce.vm = .none) (hcl : s.vm.findClass E = some ce.cls)
    (hx : ∀ t : State, t.heap = H → s.vm.Alike t.vm → XC E s t) (hf : ∀ z ∈ locs, free z.base) (hc : cells ≤ mc) (hs : slots ≤ ms) :
    vx_W p l e R s m args below meth c H locs cells slots (vx_MQ below Qc XC args s mc ms free) (F0 m pc ls rest) q := by
  intro T hT X
  obtain ⟨st1, hrun, hend, hW, hsm⟩ := X.leaveThrown q (g := F0 m pc ls rest) rfl rfl rfl hout hlocks
  have hcell9 : (T.setFrames (.throwing q :: below)).heap[q]? = some ce := by
    show T.heap[q]? = some ce
    rw [hT]; exact hcell
  exact ⟨_, st1, .threw q, hrun, hend, Or.inr ⟨q, rfl, E, ce, locs, hx _ hT hW.alike, hcell9, hv, hcl, hW, hsm.mono hc hs, hf⟩⟩
theorem vx_frame {U : State} {k n : Nat} (h : s.sameButNew ({ U with vm := s.vm } : State) locs k n) : s.heap.size ≤ U.heap.size ∧ ∀ q : Nat, q < s.heap.size → (∀ z ∈ locs, z.base ≠ q) → U.heap[q]? = s.heap[q]? := by
  obtain ⟨-, h2, -, -, -, h6⟩ := h
  refine ⟨h2, fun q hq hz => ?_⟩
  obtain ⟨c9, e1, e2, e3, e4⟩ := h6 q _ (Array.getElem?_eq_getElem hq)
  have hs : c9.slots = (s.heap[q]).slots := Array.ext_getElem? fun i => e4 i fun hm => hz _ hm rfl
  have h9 : c9 = s.heap[q] := by
    rw [hs] at e2
    exact e2
  have e5 : U.heap[q]? = some c9 := e1
  rw [e5, h9, Array.getElem?_eq_getElem hq]
/-- the words of a throw but the four that speak of the heap -/
def vx_no (w : Cond) : Bool := decide (w ≠ .isRef (.static Bundle.tN "UNASSIGNED_STACK" Bundle.steD)) && decide (w ≠ .isRef (.static Bundle.tN "SUPPRESSED_SENTINEL" Bundle.listD)) && decide (w ≠ .laysStatic Bundle.tN "UNASSIGNED_STACK" Bundle.steD) && decide (w ≠ .laysStatic Bundle.tN "SUPPRESSED_SENTINEL" Bundle.listD)
def vx_at0 (own : String) (ic : Nat) (X : String) (names : List String) : List Cond := (Bundle.ownAtoms0 own ic X names).filter vx_no
def vx_atS (own : String) (ic : Nat) (X : String) (names : List String) : List Cond := (Bundle.ownAtoms own ic X names).filter vx_no
/-- a word that the tables alone decide, or a good one -/
def vx_ot (w : Cond) : Bool := w.onTables || goodWord w
theorem vx_ot_at {args a' : Array Value} {s U : State} {w : Cond} (hW : s.WarmedH U.vm) (hvm : s.vm = U.vm) (hg : vx_ot w = true) (h : w.before args s = true) : w.before a' U = true := by
  simp only [vx_ot, Bool.or_eq_true] at hg
  rcases hg with hg | hg
  · exact va_tabs hg hvm h
  · exact word_at hW (good_of_word hg) h
/-- a list's words: the good ones out of the method's own list, the others by premises of their own -/
theorem vx_hat {args : Array Value} {s : State} {L B : List Cond} (h1 : ∀ w ∈ L.filter goodWord, w.before args s = true) (h2 : ∀ w ∈ L.filter (fun w => !goodWord w), w ∈ B) (h3 : ∀ w ∈ B, w.before args s = true) : ∀ w ∈ L, w.before args s = true := by
  intro w hw
  by_cases g : goodWord w = true
  · exact h1 w (List.mem_filter.mpr ⟨hw, g⟩)
  · refine h3 w (h2 w (List.mem_filter.mpr ⟨hw, ?_⟩))
    show (!goodWord w) = true
    cases hgw : goodWord w
    · rfl
    · exact absurd hgw g
theorem vx_c {args : Array Value} {s : State} {w : Cond} {B : List Cond} (h : w.before args s = true) (t : ∀ w ∈ B, w.before args s = true) : ∀ w' ∈ w :: B, w'.before args s = true := fun w' h' => (List.mem_cons.mp h').elim (fun e => by rw [e]; exact h) (t w')
theorem vx_n {args : Array Value} {s : State} : ∀ w ∈ ([] : List Cond), w.before args s = true := fun _ h => nomatch h
theorem vx_own {args : Array Value} {s : State} {L : List Cond} (h1 : ∀ w ∈ L.filter vx_no, w.before args s = true)
    (hU : (Cond.isRef (.static Bundle.tN "UNASSIGNED_STACK" Bundle.steD)).before args s = true) (hN : (Cond.isRef (.static Bundle.tN "SUPPRESSED_SENTINEL" Bundle.listD)).before args s = true)
    (lU : (Cond.laysStatic Bundle.tN "UNASSIGNED_STACK" Bundle.steD).before args s = true) (lN : (Cond.laysStatic Bundle.tN "SUPPRESSED_SENTINEL" Bundle.listD).before args s = true) : ∀ w ∈ L, w.before args s = true := by
  intro w hw
  by_cases e1 : w = .isRef (.static Bundle.tN "UNASSIGNED_STACK" Bundle.steD)
  · rw [e1]; exact hU
  · by_cases e2 : w = .isRef (.static Bundle.tN "SUPPRESSED_SENTINEL" Bundle.listD)
    · rw [e2]; exact hN
    · by_cases e3 : w = .laysStatic Bundle.tN "UNASSIGNED_STACK" Bundle.steD
      · rw [e3]; exact lU
      · by_cases e4 : w = .laysStatic Bundle.tN "SUPPRESSED_SENTINEL" Bundle.listD
        · rw [e4]; exact lN
        · exact h1 w (List.mem_filter.mpr ⟨hw, by unfold vx_no; rw [decide_eq_true e1, decide_eq_true e2, decide_eq_true e3, decide_eq_true e4]; rfl⟩)
/-- where a static field lies, its class's statics cell in H -/
def vx_L (C n d : String) (A : Nat → Prop) (U : State) (H : Heap) : Prop := ∃ (c : ClassId) (k : Class) (i : Nat) (f : Field) (a : Nat) (cell : Cell), U.vm.findClass C = some c ∧ U.fieldFound? C n d = some (c, k, i, f) ∧ f.isStatic = true ∧ k.statics = some a ∧ H[a]? = some cell ∧ cell.vm.isStatics = true ∧ cell.cls = c ∧ f.slot < cell.slots.size ∧ k.staticTypes[f.slot]? = some f.type ∧ ¬ A a
theorem vx_L.moved {C n d : String} {A : Nat → Prop} {u U : State} {H : Heap} (hvm : u.vm.Alike U.vm) (h : vx_L C n d A u H) : vx_L C n d A U H := by
  obtain ⟨c, k, i, f, a, cell, h1, h2, h3, h4, h5, h6, h7, h8, h9, h10⟩ := h
  obtain ⟨k', hi', he⟩ := State.fieldFound?_setVm hvm h2
  exact ⟨c, k', i, f, a, cell, by rw [hvm.findClass]; exact h1, hi', h3, by rw [he]; exact h4, h5, h6, h7, h8, by rw [he]; exact h9, h10⟩
theorem vx_L.kept {C n d : String} {A : Nat → Prop} {U : State} {H H1 : Heap} (h : vx_L C n d A U H) (hq : ∀ a : Nat, a < H.size → ¬ A a → H1[a]? = H[a]?) : vx_L C n d A U H1 := by
  obtain ⟨c, k, i, f, a, cell, h1, h2, h3, h4, h5, h6, h7, h8, h9, h10⟩ := h
  exact ⟨c, k, i, f, a, cell, h1, h2, h3, h4, by rw [hq a (Array.getElem?_eq_some_iff.mp h5).1 h10]; exact h5, h6, h7, h8, h9, h10⟩
theorem vx_L.narrow {C n d : String} {A B : Nat → Prop} {U : State} {H : Heap} (h : vx_L C n d A U H) (hAB : ∀ q, B q → A q) : vx_L C n d B U H := by
  obtain ⟨c, k, i, f, a, cell, h1, h2, h3, h4, h5, h6, h7, h8, h9, h10⟩ := h
  exact ⟨c, k, i, f, a, cell, h1, h2, h3, h4, h5, h6, h7, h8, h9, fun z => h10 (hAB _ z)⟩
theorem vx_L.word {C n d : String} {A : Nat → Prop} {s : State} {args : Array Value} (h : vx_L C n d A s s.heap) : (Cond.laysStatic C n d).before args s = true := by
  obtain ⟨c, k, i, f, a, cell, h1, h2, h3, h4, h5, h6, h7, h8, h9, -⟩ := h
  show (Cond.laysStatic C n d).holds args s none s [] = true
  exact Cond.laysStatic_of h1 h2 h3 h4 h5 h6 h7 h8 h9
/-- .. and what it holds: null or some reference -/
def vx_Zq (C n d : String) (A : Nat → Prop) (U : State) (H : Heap) : Prop := va_Zq C n d A U H ∧ vx_L C n d A U H
theorem vx_Zq.moved {C n d : String} {A : Nat → Prop} {u U : State} {H : Heap} (hvm : u.vm.Alike U.vm) (h : vx_Zq C n d A u H) : vx_Zq C n d A U H := ⟨va_Zq.moved hvm h.1, vx_L.moved hvm h.2⟩
theorem vx_Zq.kept {C n d : String} {A : Nat → Prop} {U : State} {H H1 : Heap} (h : vx_Zq C n d A U H) (hq : ∀ a : Nat, a < H.size → ¬ A a → H1[a]? = H[a]?) : vx_Zq C n d A U H1 := ⟨va_Zq.kept h.1 hq, vx_L.kept h.2 hq⟩
theorem vx_Zq.narrow {C n d : String} {A B : Nat → Prop} {U : State} {H : Heap} (h : vx_Zq C n d A U H) (hAB : ∀ q, B q → A q) : vx_Zq C n d B U H := ⟨va_Zq.narrow h.1 hAB, vx_L.narrow h.2 hAB⟩
theorem vx_Zqof {args : Array Value} {s : State} {C n d : String} {A : Nat → Prop} (hl : (Cond.laysStatic C n d).before args s = true) (hini : (Cond.initialized C).before args s = true) (h : (Cond.isRef (.static C n d)).before args s = true) (hA : ∀ a : Nat, a < s.heap.size → ¬ A a) : vx_Zq C n d A s s.heap := by
  refine ⟨va_Zqof hl hini h hA, ?_⟩
  obtain ⟨c, k, i, f, a, cell, h1, h2, h3, h4, h5, h6, h7, h8, h9⟩ := Cond.laysStatic_spec hl
  exact ⟨c, k, i, f, a, cell, h1, h2, h3, h4, h5, h6, h7, h8, h9, hA a (Array.getElem?_eq_some_iff.mp h5).1⟩
theorem vx_isRef {C n d : String} {v : Value} {A : Nat → Prop} {s : State} {args : Array Value} (h : va_Z C n d v A s s.heap) (hv : v.isRef = true) : (Cond.isRef (.static C n d)).before args s = true := by
  obtain ⟨cf, kf, fi, f, a, cell, h1, h2, h3, h4, h5, h6, h7, -⟩ := h
  have he : (Term.static C n d).eval args s none [] s = some v := by
    simp [Term.eval, State.fieldNamed?, h1, h2, h4, h5, h6, h7]
  simp only [Cond.before, Cond.holds, Cond.value, he]
  cases v <;> simp_all [Value.isRef]
theorem vx_isRefq {C n d : String} {A : Nat → Prop} {s : State} {args : Array Value} (h : va_Zq C n d A s s.heap) : (Cond.isRef (.static C n d)).before args s = true := by
  rcases h with h | ⟨t, h⟩
  · exact vx_isRef h rfl
  · exact vx_isRef h rfl
/-- the same frame, seen from here: as if the method were called anew in this heap -/
theorem vx_rebase {T : State} (X : Stand p l e R s m args below meth c T locs cells slots) {R' : Room} (hf : R'.frames ≤ R.frames) (hl : R'.locals ≤ R.locals) (hc : cells + R'.cells ≤ R.cells) (hs : slots + R'.slots ≤ R.slots) :
    Stand p l e R' ((T.setVm s.vm).setFrames (.invoking m args :: below)) m args below meth c T [] 0 0 := by
  have htop : (T.setVm s.vm).topJava?.isSome := X.here.top
  have hF : ((T.setVm s.vm).setFrames (.invoking m args :: below)).frames = .invoking m args :: below := State.frames_setFrames _ (State.cur_lt_of_top htop)
  obtain ⟨g₀, hg0⟩ := Option.isSome_iff_exists.mp htop
  obtain ⟨r, hr⟩ := State.topJava?_eq_some.mp hg0
  have hl9 : e.platform.stackLimits (T.setVm s.vm).me = e.platform.stackLimits s.me := X.limits
  have hb9 : (T.setVm s.vm).me.stackBytes = s.me.stackBytes := X.bytes
  refine ⟨X.admits, X.cas, X.clock, hF, ?_, X.hears, X.method, X.code, X.here, X.tail, X.warmed, ?_, ?_, ?_⟩
  · have h := X.room
    have hU : ((T.setVm s.vm).setFrames (.invoking m args :: below)).localsInUse = s.localsInUse := by
      rw [State.localsInUse_invoking hF (meth := meth) (c := c) X.method X.code, State.localsInUse_invoking X.frames X.method X.code]
    simp only [State.hasRoom, Bool.and_eq_true, decide_eq_true_eq] at h ⊢
    obtain ⟨⟨⟨⟨h1, h2, h3, h4, h5, h6⟩, h7⟩, h8⟩, h9⟩ := h
    rw [X.frames, List.length_cons] at h2 h3
    have q1 := X.heapSize
    have q2 := X.used
    simp only [hF, hU, List.length_cons, State.stackLimits_setFrames, State.stackBytes_setFrames, hl9, hb9]
    refine ⟨⟨⟨⟨by omega, by omega, by omega, by omega, by omega, h6⟩, ?_⟩, ?_⟩, X.book⟩
    · show T.heap.size + R'.cells ≤ e.platform.maxCells
      omega
    · show T.slotsUsed + R'.slots ≤ e.platform.maxSlots
      omega
  · rw [State.stackLimits_setFrames]; rfl
  · rw [State.stackBytes_setFrames]; rfl
  · refine ⟨?_, Nat.le_refl _, Nat.le_refl _, ?_, ?_, fun a c9 h9 => ⟨c9, h9, rfl, rfl, fun _ _ => rfl⟩⟩
    · obtain ⟨t, ht, -⟩ := State.frames_cons hr
      show T.setVm s.vm = { ((T.setVm s.vm).setFrames (.invoking m args :: below)).setFrames (T.setVm s.vm).frames with heap := T.heap, slotsUsed := T.slotsUsed }
      rw [State.setFrames_setFrames, State.setFrames_self ht]
      rfl
    · show T.slotsUsed = T.slotsUsed + ((T.heap.toList.drop T.heap.size).map (·.slots.size)).sum
      rw [List.drop_eq_nil_of_le (Nat.le_of_eq Array.length_toList)]
      rfl
    · show ((T.heap.toList.drop T.heap.size).map (·.slots.size)).sum ≤ 0
      rw [List.drop_eq_nil_of_le (Nat.le_of_eq Array.length_toList)]
      exact Nat.le_refl _
/-- 'throw new E()': new; dup; invokespecial; athrow -/
theorem vx_throw0 {cc : ByteArray} {pc : Nat} (hexec : p.tables.exec = Jvm.exec) (hb : c.code = cc) (hl : l.stackTraces = false) {own cls : String} {names : List String} {ik ic mc ms : Nat} {A : Nat → Prop}
    (hown : s.vm.findClass own = some m.cls) (hcls : Bundle.fit cls = true) (hnames : ∀ n ∈ names, Bundle.fit n = true)
    (hk : (Cond.classLink own ik cls).before args s = true) (hini : (Cond.initialized cls).before args s = true) (hat : ∀ w ∈ vx_at0 own ic cls names, w.before args s = true)
    (hgood : ∀ w ∈ Cond.classLink own ik cls :: Cond.initialized cls :: vx_at0 own ic cls names, vx_ot w = true)
    (hU : vx_Zq Bundle.tN "UNASSIGNED_STACK" Bundle.steD A s s.heap) (hN : vx_Zq Bundle.tN "SUPPRESSED_SENTINEL" Bundle.listD A s s.heap) (hS : va_S A s.heap H locs) (hsize : ls.size = c.maxLocals)
    (d0 : decode cc pc = .ok (.new ik, 3)) (d3 : decode cc (pc + 3) = .ok (.dup, 1)) (d4 : decode cc (pc + 4) = .ok (.invokespecial ic, 3)) (d7 : decode cc (pc + 7) = .ok (.athrow, 1))
    (hout : ∀ x ∈ c.exceptionTable.toList, covers x (pc + 7) = false)
    (hRframes : names.length + 3 < R.frames) (hRlocals : (rest.map fun v => v.category).sum + (13 * (names.length + 1) + 42) ≤ R.locals) (hRcells : cells + 1 ≤ R.cells) (hRslots : slots + 6 ≤ R.slots) (hlocks : meth.locks = false)
    (hx : ∀ t : State, s.vm.Alike t.vm → H.size ≤ t.heap.size → (∀ q : Nat, q < H.size → t.heap[q]? = H[q]?) → XC cls s t)
    (hf : ∀ z ∈ locs, free z.base) (hc : cells + 1 ≤ mc) (hs : slots + 6 ≤ ms) :
    W p l e R s m args below meth c H locs cells slots (vx_MQ below Qc XC args s mc ms free) (F0 m pc ls rest) := by
  intro T hT X
  have htr : e.platform.stackTraces = false := (show e.platform.stackTraces = l.stackTraces by rw [X.admits.platform]).trans hl
  have Y := vx_rebase X (R' := { frames := R.frames, locals := R.locals, cells := 1, slots := 6 }) (Nat.le_refl _) (Nat.le_refl _) hRcells hRslots
  obtain ⟨s', hA⟩ : ∃ z, z = (T.setVm s.vm).setFrames (.invoking m args :: below) := ⟨_, rfl⟩
  rw [← hA] at Y
  have hvm : s'.vm = s.vm := by rw [hA]; rfl
  have hhp : s'.heap = H := by rw [hA]; exact hT
  have hW0 : s.WarmedH s'.vm := by rw [hvm]; exact State.WarmedH.refl s
  have hat' : ∀ w ∈ vx_at0 own ic cls names, w.before args s' = true := fun w hw => vx_ot_at hW0 hvm.symm (hgood w (List.mem_cons_of_mem _ (List.mem_cons_of_mem _ hw))) (hat w hw)
  have hk' : (Cond.classLink own ik cls).before args s' = true := vx_ot_at hW0 hvm.symm (hgood _ List.mem_cons_self) hk
  have hini' : (Cond.initialized cls).before args s' = true := vx_ot_at hW0 hvm.symm (hgood _ (List.mem_cons_of_mem _ List.mem_cons_self)) hini
  have hU' : vx_Zq Bundle.tN "UNASSIGNED_STACK" Bundle.steD A s' s'.heap := by rw [hhp]; exact vx_Zq.moved hW0.alike (hU.kept hS.2.1)
  have hN' : vx_Zq Bundle.tN "SUPPRESSED_SENTINEL" Bundle.listD A s' s'.heap := by rw [hhp]; exact vx_Zq.moved hW0.alike (hN.kept hS.2.1)
  have h : ∀ w ∈ Bundle.ownAtoms0 own ic cls names, w.before args s' = true := vx_own hat' (vx_isRefq hU'.1) (vx_isRefq hN'.1) hU'.2.word hN'.2.word
  have hown' : s'.vm.findClass own = some m.cls := by rw [hvm]; exact hown
  have hins : (Cond.instantiable cls 6).before args s' = true := h _ (by simp [Bundle.ownAtoms0])
  obtain ⟨vm₁, cX, kX, hfX, hkX, -, -, X₁, st1⟩ := Y.newCold hexec (own := own) (C := cls) (index := ik) (n := 6) hown' hk' hins hini'
    (g := F0 m pc ls rest) rfl (by rw [hb]; exact d0) (Nat.le_refl _) (Nat.le_refl _)
  generalize hT1 : (T.setVm vm₁).pushCell { cls := cX, slots := kX.instanceTypes.map defaultValue, vm := .none } = T1 at X₁ st1
  have hcat : (Value.ref T.heap.size).category = 1 := rfl
  have hcellA : T1.heap[T.heap.size]? = some (freshCell cX kX) := by rw [← hT1]; exact State.heap_pushCell_size _ _
  have d3' : decode c.code (pc + 3) = .ok (.dup, 1) := by rw [hb]; exact d3
  obtain ⟨U, hsteps, hrun, hend, hW, hsame, ce, hce, hO⟩ := X₁.ctorThrow0 hexec htr (own := own) (cls := cls) (names := names) (ic := ic) hown' hcls hnames h (fun x hx => nomatch hx) hfX hkX hcellA (by rw [hhp, hT]; exact Nat.le_refl _)
    (g := { method := m, pc := pc + 4, locals := ls, stack := .ref T.heap.size :: .ref T.heap.size :: rest, locked := none }) rfl hsize rfl rfl (rest := rest) rfl
    (by rw [hb]; exact d4) (by rw [hb]; exact d7) hout hRframes (by simp only [List.map_cons, List.sum_cons, hcat]; omega) hlocks
  obtain ⟨f1, f2⟩ := vx_frame hsame
  rw [hhp] at f1 f2
  have hWs : s.WarmedH U.vm := State.WarmedH.trans hW0 hW
  have hcl : s.vm.findClass cls = some ce.cls := by
    have h9 := hO.cls
    rw [hvm] at h9
    exact h9
  have hall : s.sameButNew ({ U with vm := s.vm } : State) locs mc ms := by
    subst hA
    obtain ⟨e1, e2⟩ := hsame
    rw [State.setFrames_setFrames] at e1
    have h2 : (T.setVm s.vm).sameButNew ({ U with vm := s.vm } : State) [] (0 + 1) (0 + 6) := ⟨e1, e2⟩
    have h3 := X.same.trans h2
    rw [List.append_nil] at h3
    exact h3.mono hc hs
  refine ⟨U, ?_, .threw T.heap.size, hrun, hend, Or.inr ⟨T.heap.size, rfl, cls, ce, locs, hx U hWs.alike f1 (fun q hq => f2 q hq (fun z hz => nomatch hz)), hce, hO.vm, hcl, hWs, hall, hf⟩⟩
  refine st1 _ ?_
  show Steps p.tables e below (T1.setTop { method := m, pc := pc + 3, locals := ls, stack := .ref T.heap.size :: rest, locked := none }) _
  jvm_step X₁.here [X₁.here.top, hexec, d3', Value.category]
  exact hsteps
/-- 'throw new E("text")': new; dup; ldc; invokespecial; athrow -/
theorem vx_throwS {cc : ByteArray} {pc : Nat} (hexec : p.tables.exec = Jvm.exec) (hb : c.code = cc) (hl : l.stackTraces = false) {own cls text : String} {names : List String} {ik is ic mc ms sa : Nat} {A : Nat → Prop}
    (hown : s.vm.findClass own = some m.cls) (hcls : Bundle.fit cls = true) (hnames : ∀ n ∈ names, Bundle.fit n = true)
    (hk : (Cond.classLink own ik cls).before args s = true) (hini : (Cond.initialized cls).before args s = true) (hstr : vk_R own is text sa s) (hat : ∀ w ∈ vx_atS own ic cls names, w.before args s = true)
    (hgood : ∀ w ∈ Cond.classLink own ik cls :: Cond.initialized cls :: vx_atS own ic cls names, vx_ot w = true)
    (hU : vx_Zq Bundle.tN "UNASSIGNED_STACK" Bundle.steD A s s.heap) (hN : vx_Zq Bundle.tN "SUPPRESSED_SENTINEL" Bundle.listD A s s.heap) (hS : va_S A s.heap H locs) (hsize : ls.size = c.maxLocals)
    (d0 : decode cc pc = .ok (.new ik, 3)) (d3 : decode cc (pc + 3) = .ok (.dup, 1)) (d4 : decode cc (pc + 4) = .ok (.ldc is, 2)) (d6 : decode cc (pc + 6) = .ok (.invokespecial ic, 3)) (d9 : decode cc (pc + 9) = .ok (.athrow, 1))
    (hout : ∀ x ∈ c.exceptionTable.toList, covers x (pc + 9) = false)
    (hRframes : names.length + 3 < R.frames) (hRlocals : (rest.map fun v => v.category).sum + (13 * (names.length + 1) + 43) ≤ R.locals) (hRcells : cells + 1 ≤ R.cells) (hRslots : slots + 6 ≤ R.slots) (hlocks : meth.locks = false)
    (hx : ∀ t : State, s.vm.Alike t.vm → H.size ≤ t.heap.size → (∀ q : Nat, q < H.size → t.heap[q]? = H[q]?) → XC cls s t)
    (hf : ∀ z ∈ locs, free z.base) (hc : cells + 1 ≤ mc) (hs : slots + 6 ≤ ms) :
    W p l e R s m args below meth c H locs cells slots (vx_MQ below Qc XC args s mc ms free) (F0 m pc ls rest) := by
  intro T hT X
  have htr : e.platform.stackTraces = false := (show e.platform.stackTraces = l.stackTraces by rw [X.admits.platform]).trans hl
  have Y := vx_rebase X (R' := { frames := R.frames, locals := R.locals, cells := 1, slots := 6 }) (Nat.le_refl _) (Nat.le_refl _) hRcells hRslots
  obtain ⟨s', hA⟩ : ∃ z, z = (T.setVm s.vm).setFrames (.invoking m args :: below) := ⟨_, rfl⟩
  rw [← hA] at Y
  have hvm : s'.vm = s.vm := by rw [hA]; rfl
  have hhp : s'.heap = H := by rw [hA]; exact hT
  have hW0 : s.WarmedH s'.vm := by rw [hvm]; exact State.WarmedH.refl s
  have hat' : ∀ w ∈ vx_atS own ic cls names, w.before args s' = true := fun w hw => vx_ot_at hW0 hvm.symm (hgood w (List.mem_cons_of_mem _ (List.mem_cons_of_mem _ hw))) (hat w hw)
  have hk' : (Cond.classLink own ik cls).before args s' = true := vx_ot_at hW0 hvm.symm (hgood _ List.mem_cons_self) hk
  have hini' : (Cond.initialized cls).before args s' = true := vx_ot_at hW0 hvm.symm (hgood _ (List.mem_cons_of_mem _ List.mem_cons_self)) hini
  have hU' : vx_Zq Bundle.tN "UNASSIGNED_STACK" Bundle.steD A s' s'.heap := by rw [hhp]; exact vx_Zq.moved hW0.alike (hU.kept hS.2.1)
  have hN' : vx_Zq Bundle.tN "SUPPRESSED_SENTINEL" Bundle.listD A s' s'.heap := by rw [hhp]; exact vx_Zq.moved hW0.alike (hN.kept hS.2.1)
  have h : ∀ w ∈ Bundle.ownAtoms own ic cls names, w.before args s' = true := vx_own hat' (vx_isRefq hU'.1) (vx_isRefq hN'.1) hU'.2.word hN'.2.word
  have hown' : s'.vm.findClass own = some m.cls := by rw [hvm]; exact hown
  have hins : (Cond.instantiable cls 6).before args s' = true := h _ (by simp [Bundle.ownAtoms])
  obtain ⟨vm₁, cX, kX, hfX, hkX, -, -, X₁, st1⟩ := Y.newCold hexec (own := own) (C := cls) (index := ik) (n := 6) hown' hk' hins hini'
    (g := F0 m pc ls rest) rfl (by rw [hb]; exact d0) (Nat.le_refl _) (Nat.le_refl _)
  generalize hT1 : (T.setVm vm₁).pushCell { cls := cX, slots := kX.instanceTypes.map defaultValue, vm := .none } = T1 at X₁ st1
  have hcat : (Value.ref T.heap.size).category = 1 := rfl
  have hcellA : T1.heap[T.heap.size]? = some (freshCell cX kX) := by rw [← hT1]; exact State.heap_pushCell_size _ _
  have d3' : decode c.code (pc + 3) = .ok (.dup, 1) := by rw [hb]; exact d3
  have d4' : decode c.code (pc + 4) = .ok (.ldc is, 2) := by rw [hb]; exact d4
  have hstr' : vk_R own is text sa s' := vk_R.warm hW0 hstr
  obtain ⟨U, hsteps, hrun, hend, hW, hsame, ce, hce, hO⟩ := X₁.ctorThrowS hexec htr (own := own) (cls := cls) (names := names) (ic := ic) hown' hcls hnames h (fun x hx => nomatch hx) hfX hkX hcellA (by rw [hhp, hT]; exact Nat.le_refl _) (msg := .ref sa) rfl
    (g := { method := m, pc := pc + 6, locals := ls, stack := .ref sa :: .ref T.heap.size :: .ref T.heap.size :: rest, locked := none }) rfl hsize rfl rfl (rest := rest) rfl
    (by rw [hb]; exact d6) (by rw [hb]; exact d9) hout hRframes (by simp only [List.map_cons, List.sum_cons, hcat]; omega) hlocks
  obtain ⟨f1, f2⟩ := vx_frame hsame
  rw [hhp] at f1 f2
  have hWs : s.WarmedH U.vm := State.WarmedH.trans hW0 hW
  have hcl : s.vm.findClass cls = some ce.cls := by
    have h9 := hO.cls
    rw [hvm] at h9
    exact h9
  have hall : s.sameButNew ({ U with vm := s.vm } : State) locs mc ms := by
    subst hA
    obtain ⟨e1, e2⟩ := hsame
    rw [State.setFrames_setFrames] at e1
    have h2 : (T.setVm s.vm).sameButNew ({ U with vm := s.vm } : State) [] (0 + 1) (0 + 6) := ⟨e1, e2⟩
    have h3 := X.same.trans h2
    rw [List.append_nil] at h3
    exact h3.mono hc hs
  refine ⟨U, ?_, .threw T.heap.size, hrun, hend, Or.inr ⟨T.heap.size, rfl, cls, ce, locs, hx U hWs.alike f1 (fun q hq => f2 q hq (fun z hz => nomatch hz)), hce, hO.vm, hcl, hWs, hall, hf⟩⟩
  refine st1 _ ?_
  show Steps p.tables e below (T1.setTop { method := m, pc := pc + 3, locals := ls, stack := .ref T.heap.size :: rest, locked := none }) _
  jvm_step X₁.here [X₁.here.top, hexec, d3', Value.category]
  exact X₁.ldcString hexec (own := own) (text := text) (index := is) (a := sa) hown' hstr'.1 hstr'.2
    (g := { method := m, pc := pc + 4, locals := ls, stack := .ref T.heap.size :: .ref T.heap.size :: rest, locked := none }) rfl d4' _ hsteps
/-- 'throw new E("text")', the text by a wide index -/
theorem vx_throwSW {cc : ByteArray} {pc : Nat} (hexec : p.tables.exec = Jvm.exec) (hb : c.code = cc) (hl : l.stackTraces = false) {own cls text : String} {names : List String} {ik is ic mc ms sa : Nat} {A : Nat → Prop}
    (hown : s.vm.findClass own = some m.cls) (hcls : Bundle.fit cls = true) (hnames : ∀ n ∈ names, Bundle.fit n = true)
    (hk : (Cond.classLink own ik cls).before args s = true) (hini : (Cond.initialized cls).before args s = true) (hstr : vk_R own is text sa s) (hat : ∀ w ∈ vx_atS own ic cls names, w.before args s = true)
    (hgood : ∀ w ∈ Cond.classLink own ik cls :: Cond.initialized cls :: vx_atS own ic cls names, vx_ot w = true)
    (hU : vx_Zq Bundle.tN "UNASSIGNED_STACK" Bundle.steD A s s.heap) (hN : vx_Zq Bundle.tN "SUPPRESSED_SENTINEL" Bundle.listD A s s.heap) (hS : va_S A s.heap H locs) (hsize : ls.size = c.maxLocals)
    (d0 : decode cc pc = .ok (.new ik, 3)) (d3 : decode cc (pc + 3) = .ok (.dup, 1)) (d4 : decode cc (pc + 4) = .ok (.ldc_w is, 3)) (d7 : decode cc (pc + 7) = .ok (.invokespecial ic, 3)) (d10 : decode cc (pc + 10) = .ok (.athrow, 1))
    (hout : ∀ x ∈ c.exceptionTable.toList, covers x (pc + 10) = false)
    (hRframes : names.length + 3 < R.frames) (hRlocals : (rest.map fun v => v.category).sum + (13 * (names.length + 1) + 43) ≤ R.locals) (hRcells : cells + 1 ≤ R.cells) (hRslots : slots + 6 ≤ R.slots) (hlocks : meth.locks = false)
    (hx : ∀ t : State, s.vm.Alike t.vm → H.size ≤ t.heap.size → (∀ q : Nat, q < H.size → t.heap[q]? = H[q]?) → XC cls s t)
    (hf : ∀ z ∈ locs, free z.base) (hc : cells + 1 ≤ mc) (hs : slots + 6 ≤ ms) :
    W p l e R s m args below meth c H locs cells slots (vx_MQ below Qc XC args s mc ms free) (F0 m pc ls rest) := by
  intro T hT X
  have htr : e.platform.stackTraces = false := (show e.platform.stackTraces = l.stackTraces by rw [X.admits.platform]).trans hl
  have Y := vx_rebase X (R' := { frames := R.frames, locals := R.locals, cells := 1, slots := 6 }) (Nat.le_refl _) (Nat.le_refl _) hRcells hRslots
  obtain ⟨s', hA⟩ : ∃ z, z = (T.setVm s.vm).setFrames (.invoking m args :: below) := ⟨_, rfl⟩
  rw [← hA] at Y
  have hvm : s'.vm = s.vm := by rw [hA]; rfl
  have hhp : s'.heap = H := by rw [hA]; exact hT
  have hW0 : s.WarmedH s'.vm := by rw [hvm]; exact State.WarmedH.refl s
  have hat' : ∀ w ∈ vx_atS own ic cls names, w.before args s' = true := fun w hw => vx_ot_at hW0 hvm.symm (hgood w (List.mem_cons_of_mem _ (List.mem_cons_of_mem _ hw))) (hat w hw)
  have hk' : (Cond.classLink own ik cls).before args s' = true := vx_ot_at hW0 hvm.symm (hgood _ List.mem_cons_self) hk
  have hini' : (Cond.initialized cls).before args s' = true := vx_ot_at hW0 hvm.symm (hgood _ (List.mem_cons_of_mem _ List.mem_cons_self)) hini
  have hU' : vx_Zq Bundle.tN "UNASSIGNED_STACK" Bundle.steD A s' s'.heap := by rw [hhp]; exact vx_Zq.moved hW0.alike (hU.kept hS.2.1)
  have hN' : vx_Zq Bundle.tN "SUPPRESSED_SENTINEL" Bundle.listD A s' s'.heap := by rw [hhp]; exact vx_Zq.moved hW0.alike (hN.kept hS.2.1)
  have h : ∀ w ∈ Bundle.ownAtoms own ic cls names, w.before args s' = true := vx_own hat' (vx_isRefq hU'.1) (vx_isRefq hN'.1) hU'.2.word hN'.2.word
  have hown' : s'.vm.findClass own = some m.cls := by rw [hvm]; exact hown
  have hins : (Cond.instantiable cls 6).before args s' = true := h _ (by simp [Bundle.ownAtoms])
  obtain ⟨vm₁, cX, kX, hfX, hkX, -, -, X₁, st1⟩ := Y.newCold hexec (own := own) (C := cls) (index := ik) (n := 6) hown' hk' hins hini'
    (g := F0 m pc ls rest) rfl (by rw [hb]; exact d0) (Nat.le_refl _) (Nat.le_refl _)
  generalize hT1 : (T.setVm vm₁).pushCell { cls := cX, slots := kX.instanceTypes.map defaultValue, vm := .none } = T1 at X₁ st1
  have hcat : (Value.ref T.heap.size).category = 1 := rfl
  have hcellA : T1.heap[T.heap.size]? = some (freshCell cX kX) := by rw [← hT1]; exact State.heap_pushCell_size _ _
  have d3' : decode c.code (pc + 3) = .ok (.dup, 1) := by rw [hb]; exact d3
  have d4' : decode c.code (pc + 4) = .ok (.ldc_w is, 3) := by rw [hb]; exact d4
  have hstr' : vk_R own is text sa s' := vk_R.warm hW0 hstr
  obtain ⟨U, hsteps, hrun, hend, hW, hsame, ce, hce, hO⟩ := X₁.ctorThrowS hexec htr (own := own) (cls := cls) (names := names) (ic := ic) hown' hcls hnames h (fun x hx => nomatch hx) hfX hkX hcellA (by rw [hhp, hT]; exact Nat.le_refl _) (msg := .ref sa) rfl
    (g := { method := m, pc := pc + 7, locals := ls, stack := .ref sa :: .ref T.heap.size :: .ref T.heap.size :: rest, locked := none }) rfl hsize rfl rfl (rest := rest) rfl
    (by rw [hb]; exact d7) (by rw [hb]; exact d10) hout hRframes (by simp only [List.map_cons, List.sum_cons, hcat]; omega) hlocks
  obtain ⟨f1, f2⟩ := vx_frame hsame
  rw [hhp] at f1 f2
  have hWs : s.WarmedH U.vm := State.WarmedH.trans hW0 hW
  have hcl : s.vm.findClass cls = some ce.cls := by
    have h9 := hO.cls
    rw [hvm] at h9
    exact h9
  have hall : s.sameButNew ({ U with vm := s.vm } : State) locs mc ms := by
    subst hA
    obtain ⟨e1, e2⟩ := hsame
    rw [State.setFrames_setFrames] at e1
    have h2 : (T.setVm s.vm).sameButNew ({ U with vm := s.vm } : State) [] (0 + 1) (0 + 6) := ⟨e1, e2⟩
    have h3 := X.same.trans h2
    rw [List.append_nil] at h3
    exact h3.mono hc hs
  refine ⟨U, ?_, .threw T.heap.size, hrun, hend, Or.inr ⟨T.heap.size, rfl, cls, ce, locs, hx U hWs.alike f1 (fun q hq => f2 q hq (fun z hz => nomatch hz)), hce, hO.vm, hcl, hWs, hall, hf⟩⟩
  refine st1 _ ?_
  show Steps p.tables e below (T1.setTop { method := m, pc := pc + 3, locals := ls, stack := .ref T.heap.size :: rest, locked := none }) _
  jvm_step X₁.here [X₁.here.top, hexec, d3', Value.category]
  exact X₁.ldcStringW hexec (own := own) (text := text) (index := is) (a := sa) hown' hstr'.1 hstr'.2
    (g := { method := m, pc := pc + 4, locals := ls, stack := .ref T.heap.size :: .ref T.heap.size :: rest, locked := none }) rfl d4' _ hsteps
end Ends
section Bodies
variable {l : Launch}
theorem vx_ofW {y : MethodName} {ws ws' : List Cond} {rm : Room} {Pc : Array Value → State → Prop} {Qc : Array Value → State → Outcome → State → Prop} {XC : String → State → State → Prop} {mc ms : Nat} {free : Addr → Prop} {cc : ByteArray} {maxL : Nat} {ret : Option FieldType}
    (hy : plainName y.cls = true) (hw : ws = Cond.code y cc maxL ret :: ws')
    (body : ∀ p e s m args below meth c s₁, BodyLoose p l y (headSpec ws rm) cc maxL ret e s m args below meth c s₁ → c.maxLocals = maxL → (∀ x ∈ c.exceptionTable.toList, False) → Pc args s →
      W p l e (headSpec ws rm).room s m args below meth c s.heap [] 0 0 (vx_MQ below Qc XC args s mc ms free) (entryFrame m args maxL)) : vx_Met l y ws rm Pc Qc XC mc ms free := by
  refine MetFree.of_bodyS (code := cc) (maxLocals := maxL) (ret := ret) hy ?_ ?_
  · intro args s m h hn
    obtain ⟨meth, c, h1, h2, h3, h4, h5, h6, -, -⟩ := Cond.code_spec hn (atoms_spec (ws := ws) h _ (by rw [hw]; exact List.mem_cons_self))
    exact ⟨meth, c, h1, h2, h3, h4, h5, h6⟩
  · intro p e s m args below meth c s₁ B hml hP _
    have hh0 : s₁.heap = s.heap := by rw [B.state]; rfl
    have ht : ∀ x ∈ c.exceptionTable.toList, False := by
      obtain ⟨meth9, c9, h1, h2, -, -, -, -, h7, -⟩ := Cond.code_spec B.named (atoms_spec (ws := ws) B.pre _ (by rw [hw]; exact List.mem_cons_self))
      cases Option.some.inj (h1.symm.trans B.method)
      cases Option.some.inj (h2.symm.trans (Stand.of_body B).code)
      intro x hx
      rw [Array.isEmpty_iff.mp h7] at hx
      cases hx
    obtain ⟨t, a1, o, b1, b2, b3⟩ := body p e s m args below meth c s₁ B hml ht hP s₁ hh0 (Stand.of_body B)
    exact ⟨t, o, a1, b1, b2, b3⟩
/-- the table of a body with handlers -/
theorem vx_table {p : Program} {x y : MethodName} {S : Spec} {cc bytes : ByteArray} {maxL maxL' : Nat} {ret ret' : Option FieldType} {e : Env} {s s₁ : State} {m : MethodId} {args : Array Value} {below : List Frame} {meth : Method} {c : Code} {hh : List (Nat × Nat × Nat × Nat)}
    (B : BodyLoose p l y S cc maxL ret e s m args below meth c s₁) (h : (Cond.codeWith y bytes maxL' ret' hh).before args s = true) : c.exceptionTable.toList = tableOf hh := by
  obtain ⟨m9, meth9, c9, hn9, h1, h2, -, -, h6, -⟩ := Cond.codeWith_spec h
  cases Option.some.inj (hn9.symm.trans B.named)
  cases Option.some.inj (h1.symm.trans B.method)
  cases Option.some.inj (h2.symm.trans (Stand.of_body B).code)
  rw [← h6, table_eq]
end Bodies
end VXA
/-! ===== END ===== -/
/-! ===== BEGIN a static call of a method with an exception table ===== -/
section VXS
variable {p : Program} {l : Launch} {e : Env} {R : Room} {s : State} {m : MethodId} {args : Array Value} {below : List Frame} {meth : Method} {c : Code} {T : State} {H : Heap} {locs : List Loc} {cells slots : Nat}
abbrev vx_CSW (R : Room) (s : State) (args : Array Value) (own : String) (index : Nat) (y : MethodName) (bytes : ByteArray) (maxL : Nat) (ret : Option FieldType) (hh : List (Nat × Nat × Nat × Nat)) (ws : List Cond) (rm : Room) (mc ms n : Nat) : Prop :=
  (rm.cells = mc ∧ rm.slots = ms ∧ rm.frames + 1 ≤ R.frames ∧ 8 + (maxL + 11) + rm.locals ≤ R.locals ∧ (∀ w ∈ ws, ∀ (a' : Array Value) (U : State), s.WarmedH U.vm → w.before a' U = true) ∧ Cond.codeWith y bytes maxL ret hh ∈ ws) ∧
  (Cond.codeWith y bytes maxL ret hh).before args s = true ∧ (Cond.initialized y.cls).before args s = true ∧ (y.cls ≠ "java/lang/invoke/MethodHandle" ∧ y.cls ≠ "java/lang/invoke/VarHandle") ∧
  (∀ sig, parseMethodDescriptor y.desc = some sig → n = sig.parameters.length) ∧ (Cond.methodLink own index y).before args s = true ∧ (Cond.static y).before args s = true
theorem vx_cwSW {own : String} {index maxL mc ms : Nat} {y : MethodName} {bytes : ByteArray} {ret : Option FieldType} {hh : List (Nat × Nat × Nat × Nat)} {Ts ws ws' : List Cond} {rm : Room} (n : Nat) (ht : ∀ w ∈ Ts, w.before args s = true) (hT : GoodIn Ts (va_wsS own index y ws)) (hw : ws = Cond.codeWith y bytes maxL ret hh :: ws') (hrc : rm.cells = mc) (hrs : rm.slots = ms)
    (hd : y.cls ≠ "java/lang/invoke/MethodHandle" ∧ y.cls ≠ "java/lang/invoke/VarHandle" ∧ (parseMethodDescriptor y.desc).map (fun d => d.parameters.length) = some n) (hR : rm.frames + 1 ≤ R.frames ∧ 8 + (maxL + 11) + rm.locals ≤ R.locals) :
    vx_CSW R s args own index y bytes maxL ret hh ws rm mc ms n := by
  have ok : ∀ w ∈ va_wsS own index y ws, w.before args s = true := fun w h => ht w (hT w h).1
  have hG : GoodIn Ts ws := fun w h => hT w (by unfold va_wsS; exact List.mem_append_right _ h)
  have hc : Cond.codeWith y bytes maxL ret hh ∈ ws := by rw [hw]; exact List.mem_cons_self
  refine ⟨⟨hrc, hrs, hR.1, hR.2, pay_in ht hG, hc⟩, ht _ (hG _ hc).1, ok _ (by simp [va_wsS]), ⟨hd.1, hd.2.1⟩, fun sig h => ?_, ok _ (by simp [va_wsS]), ok _ (by simp [va_wsS])⟩
  have h2 := hd.2.2
  rw [h] at h2
  exact (Option.some.inj h2).symm
theorem vx_callSW (X : Stand p l e R s m args below meth c T locs cells slots) (hexec : p.tables.exec = Jvm.exec) {own : String} {index : Nat} {y : MethodName} {bytes : ByteArray} {maxL : Nat} {ret : Option FieldType} {hh : List (Nat × Nat × Nat × Nat)}
    (hown : s.vm.findClass own = some m.cls) (hlink : (Cond.methodLink own index y).before args s = true) (hstat : (Cond.static y).before args s = true) (hinit : (Cond.initialized y.cls).before args s = true)
    (hcode : (Cond.codeWith y bytes maxL ret hh).before args s = true) (hy : y.cls ≠ "java/lang/invoke/MethodHandle" ∧ y.cls ≠ "java/lang/invoke/VarHandle")
    {W9 : Nat} {Pre : Pt → Array Value → Prop} {Post : Pt → Array Value → Option Value → Pt → Prop} (hK : Back l R p e below s args y 3 W9 Pre Post)
    {g : JFrame} (hg : g.method = m) (hsize : g.locals.size = c.maxLocals) {argsL rest : List Value} (hlen : ∀ sig, parseMethodDescriptor y.desc = some sig → argsL.length = sig.parameters.length)
    (hstack : g.stack = argsL.reverse ++ rest) (hW : 2 * g.monitorRoom + (rest.map fun v => v.category).sum ≤ W9) (hdg : decode c.code g.pc = .ok (.invokestatic index, 3))
    (hpre : ∀ vm₁, s.WarmedH vm₁ → Pre ⟨T.setVm vm₁, locs, cells, slots⟩ argsL.toArray) :
    ∃ (v : Option Value) (vm₁ : Vm) (B : Pt), s.WarmedH vm₁ ∧ Stand p l e R s m args below meth c B.U B.locs B.cells B.slots ∧ Post ⟨T.setVm vm₁, locs, cells, slots⟩ argsL.toArray v B ∧
      ∀ target, Steps p.tables e below (B.U.setTop { g with pc := g.pc + 3, stack := v.toList ++ rest }) target → Steps p.tables e below (T.setTop g) target := by
  obtain ⟨mk, methM, cM, hnamed, hmethM, -, -, -, -, -, -, hsigM⟩ := Cond.codeWith_spec hcode
  have hstatic : methM.isStatic = true := Cond.static_spec hnamed hmethM hstat
  obtain ⟨kP, hkP, -⟩ := className_of_methodNamed hnamed
  have hinitP : kP.init = .initialized := Cond.initialized_spec (findClass_of_methodNamed hnamed) hkP hinit
  obtain ⟨vm₁, X₁, hstep₁⟩ := X.invokestatic hexec hown hlink hnamed hmethM hstatic hkP hinitP hy (g := g) hg (argsL := argsL) (rest := rest) (hlen _ hsigM) hstack hdg
  obtain ⟨v, B, X', hpost, hsteps⟩ := hK m meth c ⟨T.setVm vm₁, locs, cells, slots⟩ { g with stack := rest } (.invokestatic index) mk argsL.toArray X₁ hg hsize hdg hW (X₁.named hnamed) (hpre vm₁ X₁.warmed)
  exact ⟨v, vm₁, B, X₁.warmed, X', hpost, fun target h => hstep₁ _ fun acts => by rw [doInvoke_state]; exact hsteps.trans h⟩
theorem vx_runSW {y : MethodName} {bytes cc : ByteArray} {maxL nL mc ms n index : Nat} {ret : Option FieldType} {hh : List (Nat × Nat × Nat × Nat)} {ws : List Cond} {rm : Room} {Pc : Array Value → State → Prop} {Qc : Array Value → State → Outcome → State → Prop} {free : Addr → Prop} {Ts : List Cond} {own : String} {As rest : List Value} {g : JFrame}
    (S : CallFix p m c cc nL s args Ts own) (hM : Met l y ws rm Pc Qc mc ms free) (cw : vx_CSW R s args own index y bytes maxL ret hh ws rm mc ms n) (hp : PreS s H Pc As)
    (hg : g.method = m) (hn : As.length = n) (hsize : g.locals.size = nL) (hstack : g.stack = As.reverse ++ rest) (hW : 2 * g.monitorRoom + (rest.map fun v => v.category).sum ≤ 8) (hdg : decode cc g.pc = .ok (.invokestatic index, 3)) (hf : cells + mc ≤ R.cells ∧ slots + ms ≤ R.slots) :
    va_Run p l e R s m args below meth c H locs cells slots mc ms g rest (Qc As.toArray) (free) := by
  obtain ⟨⟨hrc, hrs, hfr, hlo, hws, hcw⟩, hcode, hini, hy, hlen, hl, hstt⟩ := cw
  have hK : Back l R p e below s args y 3 8 (PreOf R mc ms Pc) (PostOf Qc mc ms free) := va_backW (hh := hh) (bytes := bytes) (maxL := maxL) (ret := ret) hM hp.1 hrc hrs hfr hlo hws hcw (fun a' U hW => word_at hW (Or.inl (by first | rfl | simp [Cond.onTables, Cond.keeps, Cond.steady])) hini)
  obtain ⟨hx, hb, hml, ho, -⟩ := S
  intro T hT X
  obtain ⟨v, vm₁, ⟨U', l2, c2, s2⟩, hW₁, X', ⟨g', mk, t, L, e1, e2, hq, h1, hL, h2, h3⟩, st⟩ := vx_callSW X hx (hh := hh) (bytes := bytes) (maxL := maxL) (ret := ret) ho hl hstt hini hcode hy hK hg (hsize.trans hml.symm) (argsL := As) (rest := rest) (fun sig h => hn.trans (hlen sig h)) hstack hW (by rw [hb]; exact hdg)
    (fun vm₁ hW₁ => ⟨hf.1, hf.2, hp.2 (T.setVm vm₁) hT hW₁⟩)
  dsimp only [Pt.U, Pt.locs, Pt.cells, Pt.slots] at X' e1 e2 h1 h2 h3 st
  subst h1; subst h2; subst h3
  exact ⟨v, (T.setVm vm₁).calling g' mk As.toArray, t, U', L, hT, X', hL, e1, e2, hq, st⟩
/-- not caught here, past rows that name other classes: it goes on to the caller -/
theorem vx_outP {p : Program} {l : Launch} {e : Env} {R : Room} {s : State} {m : MethodId} {args : Array Value} {below : List Frame} {meth : Method} {c : Code} {H : Heap} {locs : List Loc} {cells slots : Nat} {free : Addr → Prop} {ls : Array Slot} {rest : List Value} {Qc : Array Value → State → Outcome → State → Prop} {XC : String → State → State → Prop}
    {pc : Nat} {own E : String} {ce : Cell} {q : Addr} {mc ms : Nat} (hown : s.vm.findClass own = some m.cls) (hlocks : meth.locks = false)
    (hpass : ∀ z ∈ c.exceptionTable.toList, covers z pc = false ∨ (z.catchType ≠ 0 ∧ ∃ nm : String, (Cond.classLink own z.catchType nm).before args s = true ∧ va_Nc E nm s)) (hcell : H[q]? = some ce) (hv : ce.vm = .none) (hcl : s.vm.findClass E = some ce.cls)
    (hx : ∀ t : State, t.heap = H → s.vm.Alike t.vm → XC E s t) (hf : ∀ z ∈ locs, free z.base) (hc : cells ≤ mc) (hs : slots ≤ ms) :
    vx_W p l e R s m args below meth c H locs cells slots (vx_MQ below Qc XC args s mc ms free) (F0 m pc ls rest) q := by
  intro T hT X
  have hpl : e.platform.magicAccessors = ({} : Platform).magicAccessors := by rw [X.admits.platform]
  obtain ⟨vm', hW', X', st⟩ := X.outThrough hlocks q (g := F0 m pc ls rest) rfl rfl rfl (cell := ce) (by rw [hT]; exact hcell) (by rw [hv]; rfl)
    (by obtain ⟨k9, h9, -⟩ := Vm.findClass_spec hcl; exact ⟨k9, h9⟩) (fun z hz => by
      rcases hpass z hz with h | ⟨hz0, nm, hl1, hn1⟩
      · exact Or.inl h
      · obtain ⟨c6, hc6, hcl6⟩ := Cond.classLink_spec hown hl1 e.platform hpl
        obtain ⟨a8, b8, h1, h2, h3⟩ := hn1
        cases Option.some.inj (h1.symm.trans hcl)
        cases Option.some.inj (h2.symm.trans hc6)
        exact Or.inr ⟨hz0, _, hcl6, h3⟩)
  obtain ⟨g₀, hfr⟩ := X'.frames_eq
  have hcell9 : ((T.setVm vm').setFrames (.throwing q :: below)).heap[q]? = some ce := by
    show T.heap[q]? = some ce
    rw [hT]; exact hcell
  have hend : Ended ((T.setVm vm').setFrames (.throwing q :: below)) below (.threw q) := State.frames_setFrames _ (State.cur_lt_of_frames hfr)
  refine ⟨(T.setVm vm').setFrames (.throwing q :: below), ?_, .threw q, X'.here.running, hend, Or.inr ⟨q, rfl, E, ce, locs, hx _ hT (X'.ends _).1.alike, hcell9, hv, hcl, (X'.ends _).1, (X'.ends _).2.mono hc hs, hf⟩⟩
  rw [X.pushThrowing_eq]
  exact st
/-- a thing of a world lies in the heap -/
theorem vx_lt {D : va_G} {cl : List vw_C} {ws : va_W} {H1 : Heap} (h : va_P D cl ws H1) {k : Nat} {q : Nat × va_E} (hk : ws[k]? = some q) : q.1 < H1.size := (h k q hk).lt
end VXS
/-! ===== END ===== -/
/-! ===== BEGIN methods with a table of their own: called by a name, returning or throwing ===== -/
section VXH
/-! vx_backW, vx_callVX, vx_callSX, vx_callVW, vx_runVW, vx_runVX, vx_runSX, vx_ofWH follow the same proofs as their sisters above (Free/Laws.lean, Shelf42/LK1.lean); vx_outP calls Shelf42/NT130.lean (outThrough). -/
section
variable {l : Launch} {R : Room} {p : Program} {e : Env} {below : List Frame} {s : State} {sargs : Array Value} {y : MethodName} {len W9 : Nat}
theorem vx_backW {ws : List Cond} {rm : Room} {Pc : Array Value → State → Prop} {Qc : Array Value → State → Outcome → State → Prop} {XC : String → State → State → Prop} {mc ms : Nat} {free : Addr → Prop} {bytes : ByteArray} {maxL : Nat} {ret : Option FieldType} {hh : List (Nat × Nat × Nat × Nat)}
    (hM : vx_Met l y ws rm Pc Qc XC mc ms free) (hblind : FrameBlind Pc) (hrc : rm.cells = mc) (hrs : rm.slots = ms)
    (hframes : rm.frames + 1 ≤ R.frames) (hlocals : W9 + (maxL + 11) + rm.locals ≤ R.locals)
    (hws : ∀ w ∈ ws, ∀ a' U, s.WarmedH U.vm → w.before a' U = true) (hcode : Cond.codeWith y bytes maxL ret hh ∈ ws) (hinit : ∀ a' U, s.WarmedH U.vm → (Cond.initialized y.cls).before a' U = true) :
    vx_Back l R p e below s sargs y len W9 (PreOf R mc ms Pc) (PostOf Qc mc ms free) (vx_Post XC mc ms free) := by
  intro m meth c A g ig mk a X hg hsize hdg hW hn hp
  have h1 : (headSpec ws rm).pre.before a A.U = true := atoms_intro fun w hw => hws w hw _ _ X.warmed
  have h2 : (Cond.codeWith y bytes maxL ret hh).before a A.U = true := hws _ hcode _ _ X.warmed
  have h3 : (Cond.initialized y.cls).before a A.U = true := hinit _ _ X.warmed
  have h4 : A.cells + (headSpec ws rm).room.cells ≤ R.cells := by rw [show (headSpec ws rm).room.cells = mc from hrc]; exact hp.1
  have h5 : A.slots + (headSpec ws rm).room.slots ≤ R.slots := by rw [show (headSpec ws rm).room.slots = ms from hrs]; exact hp.2.1
  have hPc : Pc a (A.U.calling g mk a) := hblind _ _ _ _ hp.2.2
  obtain ⟨U, Ls, c0, s0⟩ := A
  dsimp only [Pt.U, Pt.locs, Pt.cells, Pt.slots] at h1 h2 h3 h4 h5 X hn hPc ⊢
  obtain ⟨m9, methY, cY, hn9, hmY, hcY, -, hlY, -⟩ := Cond.codeWith_spec h2
  cases Option.some.inj (hn9.symm.trans hn)
  obtain ⟨kY, hkY, -⟩ := className_of_methodNamed hn
  have hinitY : kY.init = .initialized := Cond.initialized_spec (findClass_of_methodNamed hn) hkY h3
  have h : At U g.method c below := by rw [hg]; exact X.here
  have hlocals9 : W9 + (maxL + 11) + (headSpec ws rm).room.locals ≤ R.locals := hlocals
  have happ : (headSpec ws rm).appliesLoose y e.platform (U.calling g mk a) = true :=
    Spec.appliesLoose_calling (g := g) h hdg hn hkY hinitY
      (X.room_calling (g := g) (R' := (headSpec ws rm).room) hsize hmY hcY hframes (by rw [hlY]; omega) h4 h5) h1
  obtain ⟨mid, hmid⟩ := h.above
  have hfr : (U.setTop g).frames = (.java g :: mid) ++ below := by rw [State.frames_setTop' g h.top, hmid]; rfl
  obtain ⟨o, s₂, hsteps, -, hend, hq⟩ := Steps.callFree hM p X.admits X.cas X.clock (acts := []) hfr happ hPc trivial
  have hq' : vx_Q Qc XC mc ms free a (U.calling g mk a) o s₂ := hq
  rw [State.frames_setTop' g h.top] at hend
  obtain ⟨g₀, hg0⟩ := Option.isSome_iff_exists.mp h.top
  obtain ⟨r, hr⟩ := State.topJava?_eq_some.mp hg0
  have hr' : (({ U with heap := s₂.heap, slotsUsed := s₂.slotsUsed } : State).setVm s₂.vm).frames = .java g₀ :: r := hr
  rcases hq' with ⟨hqc, L, hfe, hL⟩ | ⟨q, rfl, E, ce, L, hx, hce, hcv, hcl, hW₂, hsm, hL⟩
  · obtain ⟨⟨v, rfl⟩, hW₂, e2, q2, q3, q4, q5, q6⟩ := id hfe
    have e3 : s₂ = ({ (U.calling g mk a).setFrames s₂.frames with heap := s₂.heap, slotsUsed := s₂.slotsUsed } : State).setVm s₂.vm := by
      have : s₂ = ({ s₂ with vm := (U.calling g mk a).vm } : State).setVm s₂.vm := rfl
      rw [e2] at this
      exact this
    obtain ⟨c₂, i₂, len₂, hc₂, hd₂, hf₂⟩ := hend
    have hW' : U.WarmedH s₂.vm := hW₂
    have hcc : c₂ = c := by
      have h1 : s₂.code? g.method = U.code? g.method := by
        rw [State.code?_eq, State.code?_eq, hW'.alike.method?]
      exact Option.some.inj (hc₂.symm.trans (h1.trans h.code))
    subst hcc
    have hlen : len₂ = len := by rw [hdg] at hd₂; cases hd₂; rfl
    subst hlen
    have hs₂ : s₂ = (({ U with heap := s₂.heap, slotsUsed := s₂.slotsUsed } : State).setVm s₂.vm).setTop { g with pc := g.pc + len₂, stack := v.toList ++ g.stack } := by
      refine e3.trans ?_
      rw [hf₂, State.calling_eq h.top, State.setFrames_setFrames, State.setTop_of_frames _ hr', hr]
      rfl
    have hsame : U.sameButNew ({ U with heap := s₂.heap, slotsUsed := s₂.slotsUsed } : State) L mc ms := by
      refine ⟨?_, q2, q3, q4, q5, q6⟩
      obtain ⟨t, ht, -⟩ := State.frames_cons hr
      show ({ U with heap := s₂.heap, slotsUsed := s₂.slotsUsed } : State) = { U.setFrames U.frames with heap := s₂.heap, slotsUsed := s₂.slotsUsed }
      rw [State.setFrames_self ht]
    subst hg
    refine Or.inl ⟨v, ⟨(({ U with heap := s₂.heap, slotsUsed := s₂.slotsUsed } : State).setVm s₂.vm), Ls ++ L, c0 + mc, s0 + ms⟩,
      ⟨X.admits, X.cas, X.clock, X.frames, X.room, X.hears, X.method, X.code, (X.here.setHeapUsed s₂.heap s₂.slotsUsed).setVm hW'.alike, X.tail, State.WarmedH.trans X.warmed hW', X.limits, X.bytes, X.same.trans (hsame.setVm s.vm)⟩,
      ⟨g, mk, s₂, L, rfl, rfl, hqc, rfl, hL, rfl, rfl⟩, ?_⟩
    show Steps p.tables e below _ ((({ U with heap := s₂.heap, slotsUsed := s₂.slotsUsed } : State).setVm s₂.vm).setTop { g with pc := g.pc + len₂, stack := v.toList ++ g.stack })
    rw [← hs₂]
    exact hsteps
  · obtain ⟨e2, q2, q3, q4, q5, q6⟩ := id hsm
    have e3 : s₂ = ({ (U.calling g mk a).setFrames s₂.frames with heap := s₂.heap, slotsUsed := s₂.slotsUsed } : State).setVm s₂.vm := by
      have : s₂ = ({ s₂ with vm := (U.calling g mk a).vm } : State).setVm s₂.vm := rfl
      rw [e2] at this
      exact this
    have hf₂ : s₂.frames = .throwing q :: .java g :: U.frames.tail := hend
    have hW' : U.WarmedH s₂.vm := hW₂
    have hs₂ : s₂ = ((({ U with heap := s₂.heap, slotsUsed := s₂.slotsUsed } : State).setVm s₂.vm).setTop g).pushFrame (.throwing q) := by
      refine e3.trans ?_
      rw [hf₂, State.calling_eq h.top, State.setFrames_setFrames, State.pushFrame, State.frames_setTop _ hr', State.setTop_of_frames _ hr', State.setFrames_setFrames, hr]
      rfl
    have hsame : U.sameButNew ({ U with heap := s₂.heap, slotsUsed := s₂.slotsUsed } : State) L mc ms := by
      refine ⟨?_, q2, q3, q4, q5, q6⟩
      obtain ⟨t, ht, -⟩ := State.frames_cons hr
      show ({ U with heap := s₂.heap, slotsUsed := s₂.slotsUsed } : State) = { U.setFrames U.frames with heap := s₂.heap, slotsUsed := s₂.slotsUsed }
      rw [State.setFrames_self ht]
    subst hg
    refine Or.inr ⟨q, ⟨(({ U with heap := s₂.heap, slotsUsed := s₂.slotsUsed } : State).setVm s₂.vm), Ls ++ L, c0 + mc, s0 + ms⟩,
      ⟨X.admits, X.cas, X.clock, X.frames, X.room, X.hears, X.method, X.code, (X.here.setHeapUsed s₂.heap s₂.slotsUsed).setVm hW'.alike, X.tail, State.WarmedH.trans X.warmed hW', X.limits, X.bytes, X.same.trans (hsame.setVm s.vm)⟩,
      ⟨g, mk, s₂, L, E, ce, rfl, rfl, hx, hce, hcv, hcl, rfl, hL, rfl, rfl⟩, ?_⟩
    show Steps p.tables e below _ (((({ U with heap := s₂.heap, slotsUsed := s₂.slotsUsed } : State).setVm s₂.vm).setTop g).pushFrame (.throwing q))
    rw [← hs₂]
    exact hsteps
end
variable {p : Program} {l : Launch} {e : Env} {R : Room} {s : State} {m : MethodId} {args : Array Value} {below : List Frame} {meth : Method} {c : Code} {T : State} {H : Heap} {locs : List Loc} {cells slots : Nat}
theorem vx_callVX (X : Stand p l e R s m args below meth c T locs cells slots) (hexec : p.tables.exec = Jvm.exec) {own C : String} {index : Nat} {y : MethodName} {bytes : ByteArray} {maxL : Nat} {ret : Option FieldType} {hh : List (Nat × Nat × Nat × Nat)}
    (hown : s.vm.findClass own = some m.cls) (hlink : (Cond.methodLink own index y).before args s = true) (hinst : (Cond.instanceMethod y).before args s = true) (hsel : (Cond.selects C y y).before args s = true)
    (hcode : (Cond.codeWith y bytes maxL ret hh).before args s = true) (hy : y.cls ≠ "java/lang/invoke/MethodHandle" ∧ y.cls ≠ "java/lang/invoke/VarHandle")
    {W9 : Nat} {Pre : Pt → Array Value → Prop} {Post : Pt → Array Value → Option Value → Pt → Prop} {PostX : Pt → Array Value → Addr → Pt → Prop} (hK : vx_Back l R p e below s args y 3 W9 Pre Post PostX)
    {b : Addr} {cellB : Cell} (hcell : T.heap[b]? = some cellB) (hobj : cellB.vm.isStatics = false) (hcls : s.vm.findClass C = some cellB.cls)
    {g : JFrame} (hg : g.method = m) (hsize : g.locals.size = c.maxLocals) {argsL rest : List Value} (hlen : ∀ sig, parseMethodDescriptor y.desc = some sig → argsL.length = sig.parameters.length)
    (hstack : g.stack = argsL.reverse ++ .ref b :: rest) (hW : 2 * g.monitorRoom + (rest.map fun v => v.category).sum ≤ W9) (hdg : decode c.code g.pc = .ok (.invokevirtual index, 3))
    (hpre : ∀ vm₁, s.WarmedH vm₁ → Pre ⟨T.setVm vm₁, locs, cells, slots⟩ (Value.ref b :: argsL).toArray) :
    (∃ (v : Option Value) (vm₁ : Vm) (B : Pt), s.WarmedH vm₁ ∧ Stand p l e R s m args below meth c B.U B.locs B.cells B.slots ∧ Post ⟨T.setVm vm₁, locs, cells, slots⟩ (Value.ref b :: argsL).toArray v B ∧
      ∀ target, Steps p.tables e below (B.U.setTop { g with pc := g.pc + 3, stack := v.toList ++ rest }) target → Steps p.tables e below (T.setTop g) target) ∨
    (∃ (q : Addr) (vm₁ : Vm) (B : Pt), s.WarmedH vm₁ ∧ Stand p l e R s m args below meth c B.U B.locs B.cells B.slots ∧ PostX ⟨T.setVm vm₁, locs, cells, slots⟩ (Value.ref b :: argsL).toArray q B ∧
      Steps p.tables e below (T.setTop g) ((B.U.setTop { g with stack := rest }).pushFrame (.throwing q))) := by
  obtain ⟨mk, methM, hnamed, hmethM, hstM, habM⟩ := Cond.instanceMethod_spec hinst
  obtain ⟨m8, methM', cM, hn8, hmethM', -, -, -, -, -, -, hsigM⟩ := Cond.codeWith_spec hcode
  cases Option.some.inj (hn8.symm.trans hnamed)
  cases hmethM.symm.trans hmethM'
  obtain ⟨c2, r2, m2, q1, q2, q3, q4, kP, hkP, hkPi⟩ := Cond.selects_spec hsel
  cases hcls.symm.trans q1
  cases (State.methodFound?_of_named hnamed hy).symm.trans q2
  cases hnamed.symm.trans q3
  have hselP : selectMethod e.platform s.vm cellB.cls mk = .method mk := by rw [Launch.admits_selectMethod X.admits]; exact q4
  obtain ⟨vm₁, X₁, hstep₁⟩ := X.invokevirtual hexec hown hlink hnamed hmethM hstM hkP hkPi hy (a := b) (cell := cellB) hcell
    (fun z h => by rw [h] at hobj; cases hobj) hselP hmethM habM hkP hkPi (g := g) hg (argsL := argsL) (rest := rest) (hlen _ hsigM) hstack hdg
  rcases hK m meth c ⟨T.setVm vm₁, locs, cells, slots⟩ { g with stack := rest } (.invokevirtual index) mk (Value.ref b :: argsL).toArray X₁ hg hsize hdg hW (X₁.named hnamed) (hpre vm₁ X₁.warmed) with ⟨v, B, X', hpost, hsteps⟩ | ⟨q, B, X', hpost, hsteps⟩
  · exact Or.inl ⟨v, vm₁, B, X₁.warmed, X', hpost, fun target h => hstep₁ _ fun acts => by rw [doInvoke_state]; exact hsteps.trans h⟩
  · exact Or.inr ⟨q, vm₁, B, X₁.warmed, X', hpost, hstep₁ _ fun acts => by rw [doInvoke_state]; exact hsteps⟩
theorem vx_callSX (X : Stand p l e R s m args below meth c T locs cells slots) (hexec : p.tables.exec = Jvm.exec) {own : String} {index : Nat} {y : MethodName} {bytes : ByteArray} {maxL : Nat} {ret : Option FieldType} {hh : List (Nat × Nat × Nat × Nat)}
    (hown : s.vm.findClass own = some m.cls) (hlink : (Cond.methodLink own index y).before args s = true) (hstat : (Cond.static y).before args s = true) (hinit : (Cond.initialized y.cls).before args s = true)
    (hcode : (Cond.codeWith y bytes maxL ret hh).before args s = true) (hy : y.cls ≠ "java/lang/invoke/MethodHandle" ∧ y.cls ≠ "java/lang/invoke/VarHandle")
    {W9 : Nat} {Pre : Pt → Array Value → Prop} {Post : Pt → Array Value → Option Value → Pt → Prop} {PostX : Pt → Array Value → Addr → Pt → Prop} (hK : vx_Back l R p e below s args y 3 W9 Pre Post PostX)
    {g : JFrame} (hg : g.method = m) (hsize : g.locals.size = c.maxLocals) {argsL rest : List Value} (hlen : ∀ sig, parseMethodDescriptor y.desc = some sig → argsL.length = sig.parameters.length)
    (hstack : g.stack = argsL.reverse ++ rest) (hW : 2 * g.monitorRoom + (rest.map fun v => v.category).sum ≤ W9) (hdg : decode c.code g.pc = .ok (.invokestatic index, 3))
    (hpre : ∀ vm₁, s.WarmedH vm₁ → Pre ⟨T.setVm vm₁, locs, cells, slots⟩ argsL.toArray) :
    (∃ (v : Option Value) (vm₁ : Vm) (B : Pt), s.WarmedH vm₁ ∧ Stand p l e R s m args below meth c B.U B.locs B.cells B.slots ∧ Post ⟨T.setVm vm₁, locs, cells, slots⟩ argsL.toArray v B ∧
      ∀ target, Steps p.tables e below (B.U.setTop { g with pc := g.pc + 3, stack := v.toList ++ rest }) target → Steps p.tables e below (T.setTop g) target) ∨
    (∃ (q : Addr) (vm₁ : Vm) (B : Pt), s.WarmedH vm₁ ∧ Stand p l e R s m args below meth c B.U B.locs B.cells B.slots ∧ PostX ⟨T.setVm vm₁, locs, cells, slots⟩ argsL.toArray q B ∧
      Steps p.tables e below (T.setTop g) ((B.U.setTop { g with stack := rest }).pushFrame (.throwing q))) := by
  obtain ⟨mk, methM, cM, hnamed, hmethM, -, -, -, -, -, -, hsigM⟩ := Cond.codeWith_spec hcode
  have hstatic : methM.isStatic = true := Cond.static_spec hnamed hmethM hstat
  obtain ⟨kP, hkP, -⟩ := className_of_methodNamed hnamed
  have hinitP : kP.init = .initialized := Cond.initialized_spec (findClass_of_methodNamed hnamed) hkP hinit
  obtain ⟨vm₁, X₁, hstep₁⟩ := X.invokestatic hexec hown hlink hnamed hmethM hstatic hkP hinitP hy (g := g) hg (argsL := argsL) (rest := rest) (hlen _ hsigM) hstack hdg
  rcases hK m meth c ⟨T.setVm vm₁, locs, cells, slots⟩ { g with stack := rest } (.invokestatic index) mk argsL.toArray X₁ hg hsize hdg hW (X₁.named hnamed) (hpre vm₁ X₁.warmed) with ⟨v, B, X', hpost, hsteps⟩ | ⟨q, B, X', hpost, hsteps⟩
  · exact Or.inl ⟨v, vm₁, B, X₁.warmed, X', hpost, fun target h => hstep₁ _ fun acts => by rw [doInvoke_state]; exact hsteps.trans h⟩
  · exact Or.inr ⟨q, vm₁, B, X₁.warmed, X', hpost, hstep₁ _ fun acts => by rw [doInvoke_state]; exact hsteps⟩
theorem vx_callVW (X : Stand p l e R s m args below meth c T locs cells slots) (hexec : p.tables.exec = Jvm.exec) {own C : String} {index : Nat} {y : MethodName} {bytes : ByteArray} {maxL : Nat} {ret : Option FieldType} {hh : List (Nat × Nat × Nat × Nat)}
    (hown : s.vm.findClass own = some m.cls) (hlink : (Cond.methodLink own index y).before args s = true) (hinst : (Cond.instanceMethod y).before args s = true) (hsel : (Cond.selects C y y).before args s = true)
    (hcode : (Cond.codeWith y bytes maxL ret hh).before args s = true) (hy : y.cls ≠ "java/lang/invoke/MethodHandle" ∧ y.cls ≠ "java/lang/invoke/VarHandle")
    {W9 : Nat} {Pre : Pt → Array Value → Prop} {Post : Pt → Array Value → Option Value → Pt → Prop} (hK : Back l R p e below s args y 3 W9 Pre Post)
    {b : Addr} {cellB : Cell} (hcell : T.heap[b]? = some cellB) (hobj : cellB.vm.isStatics = false) (hcls : s.vm.findClass C = some cellB.cls)
    {g : JFrame} (hg : g.method = m) (hsize : g.locals.size = c.maxLocals) {argsL rest : List Value} (hlen : ∀ sig, parseMethodDescriptor y.desc = some sig → argsL.length = sig.parameters.length)
    (hstack : g.stack = argsL.reverse ++ .ref b :: rest) (hW : 2 * g.monitorRoom + (rest.map fun v => v.category).sum ≤ W9) (hdg : decode c.code g.pc = .ok (.invokevirtual index, 3))
    (hpre : ∀ vm₁, s.WarmedH vm₁ → Pre ⟨T.setVm vm₁, locs, cells, slots⟩ (Value.ref b :: argsL).toArray) :
    ∃ (v : Option Value) (vm₁ : Vm) (B : Pt), s.WarmedH vm₁ ∧ Stand p l e R s m args below meth c B.U B.locs B.cells B.slots ∧ Post ⟨T.setVm vm₁, locs, cells, slots⟩ (Value.ref b :: argsL).toArray v B ∧
      ∀ target, Steps p.tables e below (B.U.setTop { g with pc := g.pc + 3, stack := v.toList ++ rest }) target → Steps p.tables e below (T.setTop g) target := by
  obtain ⟨mk, methM, hnamed, hmethM, hstM, habM⟩ := Cond.instanceMethod_spec hinst
  obtain ⟨m8, methM', cM, hn8, hmethM', -, -, -, -, -, -, hsigM⟩ := Cond.codeWith_spec hcode
  cases Option.some.inj (hn8.symm.trans hnamed)
  cases hmethM.symm.trans hmethM'
  obtain ⟨c2, r2, m2, q1, q2, q3, q4, kP, hkP, hkPi⟩ := Cond.selects_spec hsel
  cases hcls.symm.trans q1
  cases (State.methodFound?_of_named hnamed hy).symm.trans q2
  cases hnamed.symm.trans q3
  have hselP : selectMethod e.platform s.vm cellB.cls mk = .method mk := by rw [Launch.admits_selectMethod X.admits]; exact q4
  obtain ⟨vm₁, X₁, hstep₁⟩ := X.invokevirtual hexec hown hlink hnamed hmethM hstM hkP hkPi hy (a := b) (cell := cellB) hcell
    (fun z h => by rw [h] at hobj; cases hobj) hselP hmethM habM hkP hkPi (g := g) hg (argsL := argsL) (rest := rest) (hlen _ hsigM) hstack hdg
  obtain ⟨v, B, X', hpost, hsteps⟩ := hK m meth c ⟨T.setVm vm₁, locs, cells, slots⟩ { g with stack := rest } (.invokevirtual index) mk (Value.ref b :: argsL).toArray X₁ hg hsize hdg hW (X₁.named hnamed) (hpre vm₁ X₁.warmed)
  exact ⟨v, vm₁, B, X₁.warmed, X', hpost, fun target h => hstep₁ _ fun acts => by rw [doInvoke_state]; exact hsteps.trans h⟩
abbrev vx_CVW (R : Room) (s : State) (args : Array Value) (own C : String) (index : Nat) (y : MethodName) (bytes : ByteArray) (maxL : Nat) (ret : Option FieldType) (hh : List (Nat × Nat × Nat × Nat)) (ws : List Cond) (rm : Room) (mc ms n : Nat) : Prop :=
  (rm.cells = mc ∧ rm.slots = ms ∧ rm.frames + 1 ≤ R.frames ∧ 8 + (maxL + 11) + rm.locals ≤ R.locals ∧ (∀ w ∈ ws, ∀ (a' : Array Value) (U : State), s.WarmedH U.vm → w.before a' U = true) ∧ Cond.codeWith y bytes maxL ret hh ∈ ws) ∧
  (Cond.codeWith y bytes maxL ret hh).before args s = true ∧ (Cond.initialized y.cls).before args s = true ∧ (y.cls ≠ "java/lang/invoke/MethodHandle" ∧ y.cls ≠ "java/lang/invoke/VarHandle") ∧
  (∀ sig, parseMethodDescriptor y.desc = some sig → n = sig.parameters.length) ∧ (Cond.methodLink own index y).before args s = true ∧ (Cond.instanceMethod y).before args s = true ∧ (Cond.selects C y y).before args s = true
theorem vx_cwVW {own C : String} {index maxL mc ms : Nat} {y : MethodName} {bytes : ByteArray} {ret : Option FieldType} {hh : List (Nat × Nat × Nat × Nat)} {Ts ws ws' : List Cond} {rm : Room} (n : Nat) (ht : ∀ w ∈ Ts, w.before args s = true) (hT : GoodIn Ts (wsV own index C y ws)) (hw : ws = Cond.codeWith y bytes maxL ret hh :: ws') (hrc : rm.cells = mc) (hrs : rm.slots = ms)
    (hd : y.cls = C ∧ y.cls ≠ "java/lang/invoke/MethodHandle" ∧ y.cls ≠ "java/lang/invoke/VarHandle" ∧ (parseMethodDescriptor y.desc).map (fun d => d.parameters.length) = some n) (hR : rm.frames + 1 ≤ R.frames ∧ 8 + (maxL + 11) + rm.locals ≤ R.locals) :
    vx_CVW R s args own C index y bytes maxL ret hh ws rm mc ms n := by
  obtain ⟨hC, hd⟩ := hd
  subst hC
  have ok : ∀ w ∈ wsV own index y.cls y ws, w.before args s = true := fun w h => ht w (hT w h).1
  have hG : GoodIn Ts ws := fun w h => hT w (by unfold wsV; exact List.mem_append_right _ h)
  have hc : Cond.codeWith y bytes maxL ret hh ∈ ws := by rw [hw]; exact List.mem_cons_self
  refine ⟨⟨hrc, hrs, hR.1, hR.2, pay_in ht hG, hc⟩, ht _ (hG _ hc).1, ok _ (by simp [wsV]), ⟨hd.1, hd.2.1⟩, fun sig h => ?_, ok _ (by simp [wsV]), ok _ (by simp [wsV]), ok _ (by simp [wsV])⟩
  have h2 := hd.2.2
  rw [h] at h2
  exact (Option.some.inj h2).symm
theorem vx_runVW {y : MethodName} {bytes cc : ByteArray} {maxL nL mc ms n index : Nat} {ret : Option FieldType} {hh : List (Nat × Nat × Nat × Nat)} {ws : List Cond} {rm : Room} {Pc : Array Value → State → Prop} {Qc : Array Value → State → Outcome → State → Prop} {free : Addr → Prop} {Ts : List Cond} {own C : String} {b : Addr} {As rest : List Value} {g : JFrame}
    (S : CallFix p m c cc nL s args Ts own) (hM : Met l y ws rm Pc Qc mc ms free) (cw : vx_CVW R s args own C index y bytes maxL ret hh ws rm mc ms n) (hp : PreV s H C b Pc As)
    (hg : g.method = m) (hn : As.length = n) (hsize : g.locals.size = nL) (hstack : g.stack = As.reverse ++ .ref b :: rest) (hW : 2 * g.monitorRoom + (rest.map fun v => v.category).sum ≤ 8) (hdg : decode cc g.pc = .ok (.invokevirtual index, 3)) (hf : cells + mc ≤ R.cells ∧ slots + ms ≤ R.slots) :
    va_Run p l e R s m args below meth c H locs cells slots mc ms g rest (Qc (Value.ref b :: As).toArray) free := by
  obtain ⟨⟨hrc, hrs, hfr, hlo, hws, hcw⟩, hcode, hini, hy, hlen, hl, hin, hse⟩ := cw
  have hK : Back l R p e below s args y 3 8 (PreOf R mc ms Pc) (PostOf Qc mc ms free) := va_backW (hh := hh) (bytes := bytes) (maxL := maxL) (ret := ret) hM hp.1 hrc hrs hfr hlo hws hcw (fun a' U hW => word_at hW (Or.inl (by first | rfl | simp [Cond.onTables, Cond.keeps, Cond.steady])) hini)
  obtain ⟨hx, hb, hml, ho, -⟩ := S
  obtain ⟨-, ⟨cellB, hcB, hoB, hclB⟩, hPc⟩ := hp
  intro T hT X
  obtain ⟨v, vm₁, ⟨U', l2, c2, s2⟩, hW₁, X', ⟨g', mk, t, L, e1, e2, hq, h1, hL, h2, h3⟩, st⟩ := vx_callVW X hx (C := C) (hh := hh) (bytes := bytes) (maxL := maxL) (ret := ret) ho hl hin hse hcode hy hK (by rw [hT]; exact hcB) hoB hclB hg (hsize.trans hml.symm) (argsL := As) (rest := rest) (fun sig h => hn.trans (hlen sig h)) hstack hW (by rw [hb]; exact hdg)
    (fun vm₁ hW₁ => ⟨hf.1, hf.2, hPc (T.setVm vm₁) hT hW₁⟩)
  dsimp only [Pt.U, Pt.locs, Pt.cells, Pt.slots] at X' e1 e2 h1 h2 h3 st
  subst h1; subst h2; subst h3
  exact ⟨v, (T.setVm vm₁).calling g' mk (Value.ref b :: As).toArray, t, U', L, hT, X', hL, e1, e2, hq, st⟩
section
variable {y : MethodName} {bytes cc : ByteArray} {maxL nL mc ms n index : Nat} {ret : Option FieldType} {ws : List Cond} {rm : Room} {Pc : Array Value → State → Prop} {Qc : Array Value → State → Outcome → State → Prop} {XC : String → State → State → Prop} {free : Addr → Prop} {Ts : List Cond} {own C : String} {b : Addr} {As rest : List Value} {g : JFrame}
theorem vx_runVX {hh : List (Nat × Nat × Nat × Nat)} (S : CallFix p m c cc nL s args Ts own) (hM : vx_Met l y ws rm Pc Qc XC mc ms free) (cw : vx_CVW R s args own C index y bytes maxL ret hh ws rm mc ms n) (hp : PreV s H C b Pc As)
    (hg : g.method = m) (hn : As.length = n) (hsize : g.locals.size = nL) (hstack : g.stack = As.reverse ++ .ref b :: rest) (hW : 2 * g.monitorRoom + (rest.map fun v => v.category).sum ≤ 8) (hdg : decode cc g.pc = .ok (.invokevirtual index, 3)) (hf : cells + mc ≤ R.cells ∧ slots + ms ≤ R.slots) :
    vx_Run p l e R s m args below meth c H locs cells slots mc ms g rest (Qc (Value.ref b :: As).toArray) XC free := by
  obtain ⟨⟨hrc, hrs, hfr, hlo, hws, hcw⟩, hcode, hini, hy, hlen, hl, hin, hse⟩ := cw
  have hK : vx_Back l R p e below s args y 3 8 (PreOf R mc ms Pc) (PostOf Qc mc ms free) (vx_Post XC mc ms free) := vx_backW (hh := hh) (bytes := bytes) (maxL := maxL) (ret := ret) hM hp.1 hrc hrs hfr hlo hws hcw (fun a' U hW => word_at hW (Or.inl (by first | rfl | simp [Cond.onTables, Cond.keeps, Cond.steady])) hini)
  obtain ⟨hx, hb, hml, ho, -⟩ := S
  obtain ⟨-, ⟨cellB, hcB, hoB, hclB⟩, hPc⟩ := hp
  intro T hT X
  rcases vx_callVX X hx (C := C) (hh := hh) (bytes := bytes) (maxL := maxL) (ret := ret) ho hl hin hse hcode hy hK (by rw [hT]; exact hcB) hoB hclB hg (hsize.trans hml.symm) (argsL := As) (rest := rest) (fun sig h => hn.trans (hlen sig h)) hstack hW (by rw [hb]; exact hdg)
    (fun vm₁ hW₁ => ⟨hf.1, hf.2, hPc (T.setVm vm₁) hT hW₁⟩) with ⟨v, vm₁, ⟨U', l2, c2, s2⟩, hW₁, X', ⟨g', mk, t, L, e1, e2, hq, h1, hL, h2, h3⟩, st⟩ | ⟨q, vm₁, ⟨U', l2, c2, s2⟩, hW₁, X', ⟨g', mk, t, L, E, ce, e1, e2, hq, hce, hcv, hcl, h1, hL, h2, h3⟩, st⟩
  · dsimp only [Pt.U, Pt.locs, Pt.cells, Pt.slots] at X' e1 e2 h1 h2 h3 st
    subst h1; subst h2; subst h3
    exact Or.inl ⟨v, (T.setVm vm₁).calling g' mk (Value.ref b :: As).toArray, t, U', L, hT, X', hL, e1, e2, hq, st⟩
  · dsimp only [Pt.U, Pt.locs, Pt.cells, Pt.slots] at X' e1 e2 h1 h2 h3 st hcl
    subst h1; subst h2; subst h3
    exact Or.inr ⟨q, (T.setVm vm₁).calling g' mk (Value.ref b :: As).toArray, t, U', L, E, ce, hT, X', hL, e1, e2, hq, hce, hcv, vx_cls hW₁ hcl, st⟩
theorem vx_runSX {hh : List (Nat × Nat × Nat × Nat)} (S : CallFix p m c cc nL s args Ts own) (hM : vx_Met l y ws rm Pc Qc XC mc ms free) (cw : vx_CSW R s args own index y bytes maxL ret hh ws rm mc ms n) (hp : PreS s H Pc As)
    (hg : g.method = m) (hn : As.length = n) (hsize : g.locals.size = nL) (hstack : g.stack = As.reverse ++ rest) (hW : 2 * g.monitorRoom + (rest.map fun v => v.category).sum ≤ 8) (hdg : decode cc g.pc = .ok (.invokestatic index, 3)) (hf : cells + mc ≤ R.cells ∧ slots + ms ≤ R.slots) :
    vx_Run p l e R s m args below meth c H locs cells slots mc ms g rest (Qc As.toArray) XC free := by
  obtain ⟨⟨hrc, hrs, hfr, hlo, hws, hcw⟩, hcode, hini, hy, hlen, hl, hstt⟩ := cw
  have hK : vx_Back l R p e below s args y 3 8 (PreOf R mc ms Pc) (PostOf Qc mc ms free) (vx_Post XC mc ms free) := vx_backW (hh := hh) (bytes := bytes) (maxL := maxL) (ret := ret) hM hp.1 hrc hrs hfr hlo hws hcw (fun a' U hW => word_at hW (Or.inl (by first | rfl | simp [Cond.onTables, Cond.keeps, Cond.steady])) hini)
  obtain ⟨hx, hb, hml, ho, -⟩ := S
  intro T hT X
  rcases vx_callSX X hx (hh := hh) (bytes := bytes) (maxL := maxL) (ret := ret) ho hl hstt hini hcode hy hK hg (hsize.trans hml.symm) (argsL := As) (rest := rest) (fun sig h => hn.trans (hlen sig h)) hstack hW (by rw [hb]; exact hdg)
    (fun vm₁ hW₁ => ⟨hf.1, hf.2, hp.2 (T.setVm vm₁) hT hW₁⟩) with ⟨v, vm₁, ⟨U', l2, c2, s2⟩, hW₁, X', ⟨g', mk, t, L, e1, e2, hq, h1, hL, h2, h3⟩, st⟩ | ⟨q, vm₁, ⟨U', l2, c2, s2⟩, hW₁, X', ⟨g', mk, t, L, E, ce, e1, e2, hq, hce, hcv, hcl, h1, hL, h2, h3⟩, st⟩
  · dsimp only [Pt.U, Pt.locs, Pt.cells, Pt.slots] at X' e1 e2 h1 h2 h3 st
    subst h1; subst h2; subst h3
    exact Or.inl ⟨v, (T.setVm vm₁).calling g' mk As.toArray, t, U', L, hT, X', hL, e1, e2, hq, st⟩
  · dsimp only [Pt.U, Pt.locs, Pt.cells, Pt.slots] at X' e1 e2 h1 h2 h3 st hcl
    subst h1; subst h2; subst h3
    exact Or.inr ⟨q, (T.setVm vm₁).calling g' mk As.toArray, t, U', L, E, ce, hT, X', hL, e1, e2, hq, hce, hcv, vx_cls hW₁ hcl, st⟩
end
end VXH
theorem vx_ofWH {l : Launch} {y : MethodName} {ws ws' : List Cond} {rm : Room} {Pc : Array Value → State → Prop} {Qc : Array Value → State → Outcome → State → Prop} {XC : String → State → State → Prop} {mc ms : Nat} {free : Addr → Prop} {cc : ByteArray} {maxL : Nat} {ret : Option FieldType} {hh : List (Nat × Nat × Nat × Nat)}
    (hy : plainName y.cls = true) (hw : ws = Cond.codeWith y cc maxL ret hh :: ws')
    (body : ∀ p e s m args below meth c s₁, BodyLoose p l y (headSpec ws rm) cc maxL ret e s m args below meth c s₁ → c.maxLocals = maxL → Pc args s →
      W p l e (headSpec ws rm).room s m args below meth c s.heap [] 0 0 (vx_MQ below Qc XC args s mc ms free) (entryFrame m args maxL)) : vx_Met l y ws rm Pc Qc XC mc ms free := by
  refine MetFree.of_bodyS (code := cc) (maxLocals := maxL) (ret := ret) hy ?_ ?_
  · intro args s m h hn
    obtain ⟨m9, meth, c, hn9, h1, h2, h3, h4, -, h5, h6, -⟩ := Cond.codeWith_spec (atoms_spec (ws := ws) h _ (by rw [hw]; exact List.mem_cons_self))
    cases hn.symm.trans hn9
    exact ⟨meth, c, h1, h2, h3, h4, h5, h6⟩
  · intro p e s m args below meth c s₁ B hml hP _
    have hh0 : s₁.heap = s.heap := by rw [B.state]; rfl
    obtain ⟨t, a1, o, b1, b2, b3⟩ := body p e s m args below meth c s₁ B hml hP s₁ hh0 (Stand.of_body B)
    exact ⟨t, o, a1, b1, b2, b3⟩
/-! ===== END ===== -/
end
section
/-! names of the classes (by letters: J Journey, N Lane, P Port, T Ticket, H Wish, X IslandRights, M IslandRightsModel, L the law) and of their methods; words of the tables -/
def zR_J : String := "IslandRights$Journey"
def zT_J : u_T := fun k => match k with
  | 0 => ("IslandRights$Journey", "times", "[I", true)
  | _ => ("IslandRights$Journey", "parts", "I", false)
def zy_J : Nat → FieldType := fun k => match k with
  | 0 => .array .int
  | _ => .int
theorem zn_J : ∀ a, a < 2 → ∀ b, b < 2 → a ≠ b → (zT_J a).2.1 ≠ (zT_J b).2.1 := by decide +kernel
theorem zt_J : ∀ k, k < 2 → parseFieldDescriptor (zT_J k).2.2.1 = some (zy_J k) := by decide +kernel
def zR_N : String := "IslandRights$Lane"
def zT_N : u_T := fun k => match k with
  | 0 => ("IslandRights$Lane", "places", "[I", true)
  | 1 => ("IslandRights$Lane", "amounts", "[I", true)
  | 2 => ("IslandRights$Lane", "gone", "I", false)
  | 3 => ("IslandRights$Lane", "waiting", "I", false)
  | 4 => ("IslandRights$Lane", "taken", "I", false)
  | 5 => ("IslandRights$Lane", "word", "I", false)
  | _ => ("IslandRights$Lane", "answer", "I", false)
def zy_N : Nat → FieldType := fun k => match k with
  | 0 => .array .int
  | 1 => .array .int
  | 2 => .int
  | 3 => .int
  | 4 => .int
  | 5 => .int
  | _ => .int
theorem zn_N : ∀ a, a < 7 → ∀ b, b < 7 → a ≠ b → (zT_N a).2.1 ≠ (zT_N b).2.1 := by decide +kernel
theorem zt_N : ∀ k, k < 7 → parseFieldDescriptor (zT_N k).2.2.1 = some (zy_N k) := by decide +kernel
def zR_P : String := "IslandRights$Port"
def zT_P : u_T := fun k => match k with
  | 0 => ("IslandRights$Port", "owned", "[I", true)
  | 1 => ("IslandRights$Port", "row", "[LIslandRights$Wish;", true)
  | 2 => ("IslandRights$Port", "waiting", "I", false)
  | _ => ("IslandRights$Port", "takings", "J", false)
def zy_P : Nat → FieldType := fun k => match k with
  | 0 => .array .int
  | 1 => .array (.object "IslandRights$Wish")
  | 2 => .int
  | _ => .long
theorem zn_P : ∀ a, a < 4 → ∀ b, b < 4 → a ≠ b → (zT_P a).2.1 ≠ (zT_P b).2.1 := by decide +kernel
theorem zt_P : ∀ k, k < 4 → parseFieldDescriptor (zT_P k).2.2.1 = some (zy_P k) := by decide +kernel
def zR_T : String := "IslandRights$Ticket"
def zT_T : u_T := fun k => match k with
  | 0 => ("IslandRights$Ticket", "port", "I", true)
  | 1 => ("IslandRights$Ticket", "seats", "I", true)
  | 2 => ("IslandRights$Ticket", "journey", "LIslandRights$Journey;", true)
  | 3 => ("IslandRights$Ticket", "cost", "J", true)
  | _ => ("IslandRights$Ticket", "cancelled", "Z", false)
def zy_T : Nat → FieldType := fun k => match k with
  | 0 => .int
  | 1 => .int
  | 2 => .object "IslandRights$Journey"
  | 3 => .long
  | _ => .boolean
theorem zn_T : ∀ a, a < 5 → ∀ b, b < 5 → a ≠ b → (zT_T a).2.1 ≠ (zT_T b).2.1 := by decide +kernel
theorem zt_T : ∀ k, k < 5 → parseFieldDescriptor (zT_T k).2.2.1 = some (zy_T k) := by decide +kernel
def zR_H : String := "IslandRights$Wish"
def zT_H : u_T := fun k => match k with
  | 0 => ("IslandRights$Wish", "journey", "LIslandRights$Journey;", true)
  | _ => ("IslandRights$Wish", "seats", "I", true)
def zy_H : Nat → FieldType := fun k => match k with
  | 0 => .object "IslandRights$Journey"
  | _ => .int
theorem zn_H : ∀ a, a < 2 → ∀ b, b < 2 → a ≠ b → (zT_H a).2.1 ≠ (zT_H b).2.1 := by decide +kernel
theorem zt_H : ∀ k, k < 2 → parseFieldDescriptor (zT_H k).2.2.1 = some (zy_H k) := by decide +kernel
def zR_X : String := "IslandRights"
def zT_X : u_T := fun k => match k with
  | 0 => ("IslandRights", "opened", "[Z", true)
  | 1 => ("IslandRights", "fares", "[I", true)
  | 2 => ("IslandRights", "soldSeats", "[I", true)
  | 3 => ("IslandRights", "airborne", "[I", true)
  | 4 => ("IslandRights", "ports", "[LIslandRights$Port;", true)
  | 5 => ("IslandRights", "lanes", "[LIslandRights$Lane;", true)
  | 6 => ("IslandRights", "tickets", "[LIslandRights$Ticket;", true)
  | 7 => ("IslandRights", "ticketCount", "I", false)
  | _ => ("IslandRights", "draft", "LIslandRights$Journey;", false)
def zy_X : Nat → FieldType := fun k => match k with
  | 0 => .array .boolean
  | 1 => .array .int
  | 2 => .array .int
  | 3 => .array .int
  | 4 => .array (.object "IslandRights$Port")
  | 5 => .array (.object "IslandRights$Lane")
  | 6 => .array (.object "IslandRights$Ticket")
  | 7 => .int
  | _ => .object "IslandRights$Journey"
theorem zn_X : ∀ a, a < 9 → ∀ b, b < 9 → a ≠ b → (zT_X a).2.1 ≠ (zT_X b).2.1 := by decide +kernel
theorem zt_X : ∀ k, k < 9 → parseFieldDescriptor (zT_X k).2.2.1 = some (zy_X k) := by decide +kernel
def zR_M : String := "IslandRightsModel"
def zT_M : u_T := fun k => match k with
  | 0 => ("IslandRightsModel", "fault", "I", false)
  | 1 => ("IslandRightsModel", "isOpen", "[Z", true)
  | 2 => ("IslandRightsModel", "fares", "[I", true)
  | 3 => ("IslandRightsModel", "right", "[I", true)
  | 4 => ("IslandRightsModel", "sailing", "[I", true)
  | 5 => ("IslandRightsModel", "from", "[I", true)
  | 6 => ("IslandRightsModel", "to", "[I", true)
  | 7 => ("IslandRightsModel", "drafted", "I", false)
  | 8 => ("IslandRightsModel", "tickets", "I", false)
  | 9 => ("IslandRightsModel", "portOf", "[I", true)
  | 10 => ("IslandRightsModel", "seatsOf", "[I", true)
  | 11 => ("IslandRightsModel", "partsOf", "[I", true)
  | 12 => ("IslandRightsModel", "priceOf", "[J", true)
  | 13 => ("IslandRightsModel", "isSold", "[Z", true)
  | 14 => ("IslandRightsModel", "tills", "[J", true)
  | 15 => ("IslandRightsModel", "waits", "[I", true)
  | 16 => ("IslandRightsModel", "wanted", "[I", true)
  | 17 => ("IslandRightsModel", "wantedParts", "[I", true)
  | 18 => ("IslandRightsModel", "numbers", "[I", true)
  | 19 => ("IslandRightsModel", "boxed", "[I", true)
  | 20 => ("IslandRightsModel", "word", "[I", true)
  | 21 => ("IslandRightsModel", "taken", "[I", true)
  | 22 => ("IslandRightsModel", "back", "[I", true)
  | 23 => ("IslandRightsModel", "number", "[I", true)
  | 24 => ("IslandRightsModel", "legOf", "[I", true)
  | 25 => ("IslandRightsModel", "many", "[I", true)
  | 26 => ("IslandRightsModel", "wordLeg", "[I", true)
  | _ => ("IslandRightsModel", "wordMany", "[I", true)
def zy_M : Nat → FieldType := fun k => match k with
  | 0 => .int
  | 1 => .array .boolean
  | 2 => .array .int
  | 3 => .array .int
  | 4 => .array .int
  | 5 => .array .int
  | 6 => .array .int
  | 7 => .int
  | 8 => .int
  | 9 => .array .int
  | 10 => .array .int
  | 11 => .array .int
  | 12 => .array .long
  | 13 => .array .boolean
  | 14 => .array .long
  | 15 => .array .int
  | 16 => .array .int
  | 17 => .array .int
  | 18 => .array .int
  | 19 => .array .int
  | 20 => .array .int
  | 21 => .array .int
  | 22 => .array .int
  | 23 => .array .int
  | 24 => .array .int
  | 25 => .array .int
  | 26 => .array .int
  | _ => .array .int
theorem zn_M : ∀ a, a < 28 → ∀ b, b < 28 → a ≠ b → (zT_M a).2.1 ≠ (zT_M b).2.1 := by decide +kernel
theorem zt_M : ∀ k, k < 28 → parseFieldDescriptor (zT_M k).2.2.1 = some (zy_M k) := by decide +kernel
abbrev vwCl : List vw_C := [(zR_J, zT_J, 2), (zR_N, zT_N, 7), (zR_P, zT_P, 4), (zR_T, zT_T, 5), (zR_H, zT_H, 2), (zR_X, zT_X, 9), (zR_M, zT_M, 28)]
abbrev zg_T (A : Nat → ClassId) : List (ClassId × FieldType) := [(A 0, .int), (A 1, .boolean), (A 2, .long), (A 3, .object "IslandRights$Port"), (A 4, .object "IslandRights$Lane"), (A 5, .object "IslandRights$Ticket"), (A 6, .object "IslandRights$Wish")]
abbrev zc_X_init : ByteArray := prog_1_method_1_code
def zm_X_init : MethodName := ⟨"IslandRights", "<init>", "()V"⟩
abbrev zc_J_init : ByteArray := prog_2_method_1_code
def zm_J_init : MethodName := ⟨"IslandRights$Journey", "<init>", "()V"⟩
abbrev zc_P_init : ByteArray := prog_4_method_1_code
def zm_P_init : MethodName := ⟨"IslandRights$Port", "<init>", "()V"⟩
abbrev zc_N_init : ByteArray := prog_3_method_1_code
def zm_N_init : MethodName := ⟨"IslandRights$Lane", "<init>", "()V"⟩
abbrev zc_L_open : ByteArray := method_3_code
def zm_L_open : MethodName := ⟨"IslandRightsLaw", "open", "(LIslandRights;II)I"⟩
abbrev zc_X_open : ByteArray := prog_1_method_2_code
def zm_X_open : MethodName := ⟨"IslandRights", "open", "(II)V"⟩
abbrev zc_X_checkSailing : ByteArray := prog_1_method_23_code
def zm_X_checkSailing : MethodName := ⟨"IslandRights", "checkSailing", "(I)V"⟩
abbrev zc_X_checkSeats : ByteArray := prog_1_method_29_code
def zm_X_checkSeats : MethodName := ⟨"IslandRights", "checkSeats", "(I)V"⟩
abbrev zc_X_placeOf : ByteArray := prog_1_method_31_code
def zm_X_placeOf : MethodName := ⟨"IslandRights", "placeOf", "(II)I"⟩
abbrev zc_L_fare : ByteArray := method_4_code
def zm_L_fare : MethodName := ⟨"IslandRightsLaw", "fare", "(LIslandRights;III)I"⟩
abbrev zc_X_fare : ByteArray := prog_1_method_3_code
def zm_X_fare : MethodName := ⟨"IslandRights", "fare", "(III)V"⟩
abbrev zc_X_checkLeg : ByteArray := prog_1_method_24_code
def zm_X_checkLeg : MethodName := ⟨"IslandRights", "checkLeg", "(I)V"⟩
abbrev zc_L_part : ByteArray := method_5_code
def zm_L_part : MethodName := ⟨"IslandRightsLaw", "part", "(LIslandRights;III[J)I"⟩
abbrev zc_X_part : ByteArray := prog_1_method_4_code
def zm_X_part : MethodName := ⟨"IslandRights", "part", "(III)I"⟩
abbrev zc_X_checkStop : ByteArray := prog_1_method_25_code
def zm_X_checkStop : MethodName := ⟨"IslandRights", "checkStop", "(I)V"⟩
abbrev zc_J_addPart : ByteArray := prog_2_method_2_code
def zm_J_addPart : MethodName := ⟨"IslandRights$Journey", "addPart", "(III)V"⟩
abbrev zc_L_buy : ByteArray := method_6_code
def zm_L_buy : MethodName := ⟨"IslandRightsLaw", "buy", "(LIslandRights;II[J)I"⟩
abbrev zc_X_buy : ByteArray := prog_1_method_5_code
def zm_X_buy : MethodName := ⟨"IslandRights", "buy", "(II)I"⟩
abbrev zc_X_checkPort : ByteArray := prog_1_method_22_code
def zm_X_checkPort : MethodName := ⟨"IslandRights", "checkPort", "(I)V"⟩
abbrev zc_X_checkDraft : ByteArray := prog_1_method_30_code
def zm_X_checkDraft : MethodName := ⟨"IslandRights", "checkDraft", "()V"⟩
abbrev zc_X_takeDraft : ByteArray := prog_1_method_33_code
def zm_X_takeDraft : MethodName := ⟨"IslandRights", "takeDraft", "()LIslandRights$Journey;"⟩
abbrev zc_P_fits : ByteArray := prog_4_method_2_code
def zm_P_fits : MethodName := ⟨"IslandRights$Port", "fits", "(LIslandRights$Journey;I)Z"⟩
abbrev zc_X_sell : ByteArray := prog_1_method_34_code
def zm_X_sell : MethodName := ⟨"IslandRights", "sell", "(ILIslandRights$Journey;I)I"⟩
abbrev zc_X_costOf : ByteArray := prog_1_method_35_code
def zm_X_costOf : MethodName := ⟨"IslandRights", "costOf", "(LIslandRights$Journey;I)J"⟩
abbrev zc_X_moveToSold : ByteArray := prog_1_method_36_code
def zm_X_moveToSold : MethodName := ⟨"IslandRights", "moveToSold", "(ILIslandRights$Journey;I)V"⟩
abbrev zc_T_init : ByteArray := prog_5_method_1_code
def zm_T_init : MethodName := ⟨"IslandRights$Ticket", "<init>", "(IILIslandRights$Journey;J)V"⟩
abbrev zc_L_wish : ByteArray := method_7_code
def zm_L_wish : MethodName := ⟨"IslandRightsLaw", "wish", "(LIslandRights;II[J)I"⟩
abbrev zc_X_wish : ByteArray := prog_1_method_6_code
def zm_X_wish : MethodName := ⟨"IslandRights", "wish", "(II)I"⟩
abbrev zc_P_addWish : ByteArray := prog_4_method_3_code
def zm_P_addWish : MethodName := ⟨"IslandRights$Port", "addWish", "(LIslandRights$Journey;I)V"⟩
abbrev zc_H_init : ByteArray := prog_6_method_1_code
def zm_H_init : MethodName := ⟨"IslandRights$Wish", "<init>", "(LIslandRights$Journey;I)V"⟩
abbrev zc_X_serve : ByteArray := prog_1_method_37_code
def zm_X_serve : MethodName := ⟨"IslandRights", "serve", "(I)I"⟩
abbrev zc_L_cancel : ByteArray := method_8_code
def zm_L_cancel : MethodName := ⟨"IslandRightsLaw", "cancel", "(LIslandRights;I[J)I"⟩
abbrev zc_X_cancel : ByteArray := prog_1_method_7_code
def zm_X_cancel : MethodName := ⟨"IslandRights", "cancel", "(I)I"⟩
abbrev zc_X_checkTicket : ByteArray := prog_1_method_26_code
def zm_X_checkTicket : MethodName := ⟨"IslandRights", "checkTicket", "(I)V"⟩
abbrev zc_L_ticket : ByteArray := method_9_code
def zm_L_ticket : MethodName := ⟨"IslandRightsLaw", "ticket", "(LIslandRights;II[J)I"⟩
abbrev zc_X_ticket : ByteArray := prog_1_method_8_code
def zm_X_ticket : MethodName := ⟨"IslandRights", "ticket", "(II)I"⟩
abbrev zc_L_price : ByteArray := method_10_code
def zm_L_price : MethodName := ⟨"IslandRightsLaw", "price", "(LIslandRights;I[J)I"⟩
abbrev zc_X_price : ByteArray := prog_1_method_9_code
def zm_X_price : MethodName := ⟨"IslandRights", "price", "(I)J"⟩
abbrev zc_L_hand : ByteArray := method_11_code
def zm_L_hand : MethodName := ⟨"IslandRightsLaw", "hand", "(LIslandRights;IIIII[J)I"⟩
abbrev zc_X_hand : ByteArray := prog_1_method_10_code
def zm_X_hand : MethodName := ⟨"IslandRights", "hand", "(IIIII)I"⟩
abbrev zc_X_checkDifferent : ByteArray := prog_1_method_28_code
def zm_X_checkDifferent : MethodName := ⟨"IslandRights", "checkDifferent", "(II)V"⟩
abbrev zc_X_laneOf : ByteArray := prog_1_method_32_code
def zm_X_laneOf : MethodName := ⟨"IslandRights", "laneOf", "(II)LIslandRights$Lane;"⟩
abbrev zc_N_isFull : ByteArray := prog_3_method_3_code
def zm_N_isFull : MethodName := ⟨"IslandRights$Lane", "isFull", "()Z"⟩
abbrev zc_X_putInOutbox : ByteArray := prog_1_method_38_code
def zm_X_putInOutbox : MethodName := ⟨"IslandRights", "putInOutbox", "(IIII)I"⟩
abbrev zc_N_add : ByteArray := prog_3_method_4_code
def zm_N_add : MethodName := ⟨"IslandRights$Lane", "add", "(II)I"⟩
abbrev zc_N_cellOf : ByteArray := prog_3_method_2_code
def zm_N_cellOf : MethodName := ⟨"IslandRights$Lane", "cellOf", "(I)I"⟩
abbrev zc_L_share : ByteArray := method_12_code
def zm_L_share : MethodName := ⟨"IslandRightsLaw", "share", "(LIslandRights;III[J)I"⟩
abbrev zc_X_share : ByteArray := prog_1_method_11_code
def zm_X_share : MethodName := ⟨"IslandRights", "share", "(III)I"⟩
abbrev zc_L_send : ByteArray := method_13_code
def zm_L_send : MethodName := ⟨"IslandRightsLaw", "send", "(LIslandRights;II[J)I"⟩
abbrev zc_X_send : ByteArray := prog_1_method_12_code
def zm_X_send : MethodName := ⟨"IslandRights", "send", "(II)I"⟩
abbrev zc_X_checkTwoPorts : ByteArray := prog_1_method_27_code
def zm_X_checkTwoPorts : MethodName := ⟨"IslandRights", "checkTwoPorts", "(II)V"⟩
abbrev zc_L_arrive : ByteArray := method_14_code
def zm_L_arrive : MethodName := ⟨"IslandRightsLaw", "arrive", "(LIslandRights;II[J)I"⟩
abbrev zc_X_arrive : ByteArray := prog_1_method_13_code
def zm_X_arrive : MethodName := ⟨"IslandRights", "arrive", "(II)I"⟩
abbrev zc_X_takeNext : ByteArray := prog_1_method_39_code
def zm_X_takeNext : MethodName := ⟨"IslandRights", "takeNext", "(LIslandRights$Lane;I)I"⟩
abbrev zc_L_receipt : ByteArray := method_15_code
def zm_L_receipt : MethodName := ⟨"IslandRightsLaw", "receipt", "(LIslandRights;II[J)I"⟩
abbrev zc_X_receipt : ByteArray := prog_1_method_14_code
def zm_X_receipt : MethodName := ⟨"IslandRights", "receipt", "(II)I"⟩
abbrev zc_N_removeUpTo : ByteArray := prog_3_method_5_code
def zm_N_removeUpTo : MethodName := ⟨"IslandRights$Lane", "removeUpTo", "(I)I"⟩
abbrev zc_L_lose : ByteArray := method_16_code
def zm_L_lose : MethodName := ⟨"IslandRightsLaw", "lose", "(LIslandRights;II[J)I"⟩
abbrev zc_X_lose : ByteArray := prog_1_method_15_code
def zm_X_lose : MethodName := ⟨"IslandRights", "lose", "(II)I"⟩
abbrev zc_N_loseAll : ByteArray := prog_3_method_6_code
def zm_N_loseAll : MethodName := ⟨"IslandRights$Lane", "loseAll", "()I"⟩
abbrev zc_L_crash : ByteArray := method_17_code
def zm_L_crash : MethodName := ⟨"IslandRightsLaw", "crash", "(LIslandRights;I[J)I"⟩
abbrev zc_X_crash : ByteArray := prog_1_method_16_code
def zm_X_crash : MethodName := ⟨"IslandRights", "crash", "(I)I"⟩
abbrev zc_L_rights : ByteArray := method_18_code
def zm_L_rights : MethodName := ⟨"IslandRightsLaw", "rights", "(LIslandRights;III[J)I"⟩
abbrev zc_X_rights : ByteArray := prog_1_method_17_code
def zm_X_rights : MethodName := ⟨"IslandRights", "rights", "(III)I"⟩
abbrev zc_L_air : ByteArray := method_19_code
def zm_L_air : MethodName := ⟨"IslandRightsLaw", "air", "(LIslandRights;II[J)I"⟩
abbrev zc_X_air : ByteArray := prog_1_method_18_code
def zm_X_air : MethodName := ⟨"IslandRights", "air", "(II)I"⟩
abbrev zc_L_sold : ByteArray := method_20_code
def zm_L_sold : MethodName := ⟨"IslandRightsLaw", "sold", "(LIslandRights;II[J)I"⟩
abbrev zc_X_sold : ByteArray := prog_1_method_19_code
def zm_X_sold : MethodName := ⟨"IslandRights", "sold", "(II)I"⟩
abbrev zc_L_wishes : ByteArray := method_21_code
def zm_L_wishes : MethodName := ⟨"IslandRightsLaw", "wishes", "(LIslandRights;I[J)I"⟩
abbrev zc_X_wishes : ByteArray := prog_1_method_20_code
def zm_X_wishes : MethodName := ⟨"IslandRights", "wishes", "(I)I"⟩
abbrev zc_L_till : ByteArray := method_22_code
def zm_L_till : MethodName := ⟨"IslandRightsLaw", "till", "(LIslandRights;I[J)I"⟩
abbrev zc_X_till : ByteArray := prog_1_method_21_code
def zm_X_till : MethodName := ⟨"IslandRights", "till", "(I)J"⟩
abbrev zc_M_init : ByteArray := prog_8_method_1_code
def zm_M_init : MethodName := ⟨"IslandRightsModel", "<init>", "()V"⟩
abbrev zc_M_thrown : ByteArray := prog_8_method_2_code
def zm_M_thrown : MethodName := ⟨"IslandRightsModel", "thrown", "()I"⟩
abbrev zc_M_open : ByteArray := prog_8_method_5_code
def zm_M_open : MethodName := ⟨"IslandRightsModel", "open", "(II)V"⟩
abbrev zc_M_isFour : ByteArray := prog_8_method_4_code
def zm_M_isFour : MethodName := ⟨"IslandRightsModel", "isFour", "(I)Z"⟩
abbrev zc_M_refused : ByteArray := prog_8_method_3_code
def zm_M_refused : MethodName := ⟨"IslandRightsModel", "refused", "(I)Z"⟩
abbrev zc_M_fare : ByteArray := prog_8_method_6_code
def zm_M_fare : MethodName := ⟨"IslandRightsModel", "fare", "(III)V"⟩
abbrev zc_M_part : ByteArray := prog_8_method_7_code
def zm_M_part : MethodName := ⟨"IslandRightsModel", "part", "(III)I"⟩
abbrev zc_M_buy : ByteArray := prog_8_method_14_code
def zm_M_buy : MethodName := ⟨"IslandRightsModel", "buy", "(II)I"⟩
abbrev zc_M_fits : ByteArray := prog_8_method_9_code
def zm_M_fits : MethodName := ⟨"IslandRightsModel", "fits", "(IIII)Z"⟩
abbrev zc_M_lies : ByteArray := prog_8_method_8_code
def zm_M_lies : MethodName := ⟨"IslandRightsModel", "lies", "(III)I"⟩
abbrev zc_M_sell : ByteArray := prog_8_method_12_code
def zm_M_sell : MethodName := ⟨"IslandRightsModel", "sell", "(IIII)I"⟩
abbrev zc_M_give : ByteArray := prog_8_method_10_code
def zm_M_give : MethodName := ⟨"IslandRightsModel", "give", "(IIII)V"⟩
abbrev zc_M_copy : ByteArray := prog_8_method_11_code
def zm_M_copy : MethodName := ⟨"IslandRightsModel", "copy", "(III)V"⟩
abbrev zc_M_wish : ByteArray := prog_8_method_15_code
def zm_M_wish : MethodName := ⟨"IslandRightsModel", "wish", "(II)I"⟩
abbrev zc_M_serve : ByteArray := prog_8_method_13_code
def zm_M_serve : MethodName := ⟨"IslandRightsModel", "serve", "(I)I"⟩
abbrev zc_M_cancel : ByteArray := prog_8_method_17_code
def zm_M_cancel : MethodName := ⟨"IslandRightsModel", "cancel", "(I)I"⟩
abbrev zc_M_isTicket : ByteArray := prog_8_method_16_code
def zm_M_isTicket : MethodName := ⟨"IslandRightsModel", "isTicket", "(I)Z"⟩
abbrev zc_M_ticket : ByteArray := prog_8_method_18_code
def zm_M_ticket : MethodName := ⟨"IslandRightsModel", "ticket", "(II)I"⟩
abbrev zc_M_price : ByteArray := prog_8_method_19_code
def zm_M_price : MethodName := ⟨"IslandRightsModel", "price", "(I)J"⟩
abbrev zc_M_hand : ByteArray := prog_8_method_22_code
def zm_M_hand : MethodName := ⟨"IslandRightsModel", "hand", "(IIIII)I"⟩
abbrev zc_M_enclose : ByteArray := prog_8_method_21_code
def zm_M_enclose : MethodName := ⟨"IslandRightsModel", "enclose", "(IIII)I"⟩
abbrev zc_M_share : ByteArray := prog_8_method_23_code
def zm_M_share : MethodName := ⟨"IslandRightsModel", "share", "(III)I"⟩
abbrev zc_M_wrong : ByteArray := prog_8_method_20_code
def zm_M_wrong : MethodName := ⟨"IslandRightsModel", "wrong", "(II)I"⟩
abbrev zc_M_send : ByteArray := prog_8_method_24_code
def zm_M_send : MethodName := ⟨"IslandRightsModel", "send", "(II)I"⟩
abbrev zc_M_arrive : ByteArray := prog_8_method_25_code
def zm_M_arrive : MethodName := ⟨"IslandRightsModel", "arrive", "(II)I"⟩
abbrev zc_M_receipt : ByteArray := prog_8_method_26_code
def zm_M_receipt : MethodName := ⟨"IslandRightsModel", "receipt", "(II)I"⟩
abbrev zc_M_lose : ByteArray := prog_8_method_28_code
def zm_M_lose : MethodName := ⟨"IslandRightsModel", "lose", "(II)I"⟩
abbrev zc_M_loseOne : ByteArray := prog_8_method_27_code
def zm_M_loseOne : MethodName := ⟨"IslandRightsModel", "loseOne", "(I)I"⟩
abbrev zc_M_crash : ByteArray := prog_8_method_29_code
def zm_M_crash : MethodName := ⟨"IslandRightsModel", "crash", "(I)I"⟩
abbrev zc_M_rights : ByteArray := prog_8_method_30_code
def zm_M_rights : MethodName := ⟨"IslandRightsModel", "rights", "(III)I"⟩
abbrev zc_M_air : ByteArray := prog_8_method_31_code
def zm_M_air : MethodName := ⟨"IslandRightsModel", "air", "(II)I"⟩
abbrev zc_M_sold : ByteArray := prog_8_method_32_code
def zm_M_sold : MethodName := ⟨"IslandRightsModel", "sold", "(II)I"⟩
abbrev zc_M_wishes : ByteArray := prog_8_method_33_code
def zm_M_wishes : MethodName := ⟨"IslandRightsModel", "wishes", "(I)I"⟩
abbrev zc_M_till : ByteArray := prog_8_method_34_code
def zm_M_till : MethodName := ⟨"IslandRightsModel", "till", "(I)J"⟩
abbrev zc_L_law : ByteArray := code
def zm_L_law : MethodName := ⟨"IslandRightsLaw", "law", "([I)Z"⟩
def zw_A : List Cond := lw_tbl.filter goodWord
theorem zw_t {i : Nat} {w : Cond} (h : tables_1[i]? = some w) (g : goodWord w = true) : w ∈ zw_A := List.mem_filter.mpr ⟨List.mem_append_right _ (List.mem_of_getElem? h), g⟩
theorem zw_s {q : MethodName × Nat} (h : q ∈ lw_privs) (g : goodWord (Cond.selects q.1.cls q.1 q.1) = true) : Cond.selects q.1.cls q.1 q.1 ∈ zw_A := List.mem_filter.mpr ⟨List.mem_append_left _ (List.mem_map.mpr ⟨q, h, rfl⟩), g⟩
def zw_ (y : MethodName) (cc : ByteArray) (n : Nat) (r : Option FieldType) : List Cond := Cond.code y cc n r :: zw_A
theorem zw_good {y : MethodName} {cc : ByteArray} {n : Nat} {r : Option FieldType} (h : Cond.code y cc n r ∈ zw_A) : GoodIn zw_A (zw_ y cc n r) := by
  have hg : ∀ w ∈ zw_A, w ∈ zw_A ∧ ((w.onTables && w.keeps) = true ∨ ∃ ty, w = .arrayClass ty) := fun w hw => ⟨hw, good_of_word (List.mem_filter.mp hw).2⟩
  intro w hw
  rcases List.mem_cons.mp hw with rfl | h2
  · exact hg _ h
  · exact hg w h2
end
section
theorem zk_0 : (Jvm.Cond.initialized "IslandRightsLaw") ∈ zw_A := zw_t (i := 0) (by decide +kernel) (by decide +kernel)
theorem zk_1 : (Jvm.Cond.initialized "IslandRights") ∈ zw_A := zw_t (i := 1) (by decide +kernel) (by decide +kernel)
theorem zk_2 : (Jvm.Cond.initialized "IslandRights$Journey") ∈ zw_A := zw_t (i := 2) (by decide +kernel) (by decide +kernel)
theorem zk_3 : (Jvm.Cond.initialized "IslandRights$Port") ∈ zw_A := zw_t (i := 3) (by decide +kernel) (by decide +kernel)
theorem zk_4 : (Jvm.Cond.initialized "IslandRights$Lane") ∈ zw_A := zw_t (i := 4) (by decide +kernel) (by decide +kernel)
theorem zk_5 : (Jvm.Cond.initialized "IslandRightsModel") ∈ zw_A := zw_t (i := 5) (by decide +kernel) (by decide +kernel)
theorem zk_6 : (Jvm.Cond.initialized "java/lang/Throwable") ∈ zw_A := zw_t (i := 6) (by decide +kernel) (by decide +kernel)
theorem zk_7 : (Jvm.Cond.initialized "java/lang/Exception") ∈ zw_A := zw_t (i := 7) (by decide +kernel) (by decide +kernel)
theorem zk_8 : (Jvm.Cond.initialized "java/lang/RuntimeException") ∈ zw_A := zw_t (i := 8) (by decide +kernel) (by decide +kernel)
theorem zk_9 : (Jvm.Cond.initialized "java/lang/IndexOutOfBoundsException") ∈ zw_A := zw_t (i := 9) (by decide +kernel) (by decide +kernel)
theorem zk_10 : (Jvm.Cond.initialized "java/lang/IllegalArgumentException") ∈ zw_A := zw_t (i := 10) (by decide +kernel) (by decide +kernel)
theorem zk_11 : (Jvm.Cond.initialized "java/lang/IllegalStateException") ∈ zw_A := zw_t (i := 11) (by decide +kernel) (by decide +kernel)
theorem zk_12 : (Jvm.Cond.initialized "IslandRights$Ticket") ∈ zw_A := zw_t (i := 12) (by decide +kernel) (by decide +kernel)
theorem zk_13 : (Jvm.Cond.initialized "IslandRights$Wish") ∈ zw_A := zw_t (i := 13) (by decide +kernel) (by decide +kernel)
theorem zk_14 : (Jvm.Cond.initialized "java/lang/Math") ∈ zw_A := zw_t (i := 14) (by decide +kernel) (by decide +kernel)
theorem zk_15 : (Jvm.Cond.classLink "IslandRightsLaw" (8 : Nat) "IslandRights") ∈ zw_A := zw_t (i := 15) (by decide +kernel) (by decide +kernel)
theorem zk_16 : (Jvm.Cond.instantiable "IslandRights" (9 : Nat)) ∈ zw_A := zw_t (i := 16) (by decide +kernel) (by decide +kernel)
theorem zk_17 : (Jvm.Cond.methodLink "IslandRightsLaw" (82 : Nat) ({ cls := "IslandRights", name := "<init>", desc := "()V" } : Jvm.MethodName)) ∈ zw_A := zw_t (i := 17) (by decide +kernel) (by decide +kernel)
theorem zk_18 : (Jvm.Cond.instanceMethod ({ cls := "IslandRights", name := "<init>", desc := "()V" } : Jvm.MethodName)) ∈ zw_A := zw_t (i := 18) (by decide +kernel) (by decide +kernel)
theorem zk_19 : (Jvm.Cond.code ({ cls := "IslandRights", name := "<init>", desc := "()V" } : Jvm.MethodName) prog_1_method_1_code (2 : Nat) (Option.none : Option Jvm.ClassFile.FieldType)) ∈ zw_A := zw_t (i := 19) (by decide +kernel) (by decide +kernel)
theorem zk_20 : (Jvm.Cond.methodLink "IslandRights" (3 : Nat) ({ cls := "java/lang/Object", name := "<init>", desc := "()V" } : Jvm.MethodName)) ∈ zw_A := zw_t (i := 20) (by decide +kernel) (by decide +kernel)
theorem zk_21 : (Jvm.Cond.instanceMethod ({ cls := "java/lang/Object", name := "<init>", desc := "()V" } : Jvm.MethodName)) ∈ zw_A := zw_t (i := 21) (by decide +kernel) (by decide +kernel)
theorem zk_22 : (Jvm.Cond.code ({ cls := "java/lang/Object", name := "<init>", desc := "()V" } : Jvm.MethodName) object_method_1_code (1 : Nat) (Option.none : Option Jvm.ClassFile.FieldType)) ∈ zw_A := zw_t (i := 22) (by decide +kernel) (by decide +kernel)
theorem zk_23 : (Jvm.Cond.classLink "IslandRights" (23 : Nat) "IslandRights$Port") ∈ zw_A := zw_t (i := 23) (by decide +kernel) (by decide +kernel)
theorem zk_25 : (Jvm.Cond.classLink "IslandRights" (29 : Nat) "IslandRights$Lane") ∈ zw_A := zw_t (i := 25) (by decide +kernel) (by decide +kernel)
theorem zk_27 : (Jvm.Cond.classLink "IslandRights" (35 : Nat) "IslandRights$Ticket") ∈ zw_A := zw_t (i := 27) (by decide +kernel) (by decide +kernel)
theorem zk_29 : (Jvm.Cond.classLink "IslandRights" (45 : Nat) "IslandRights$Journey") ∈ zw_A := zw_t (i := 29) (by decide +kernel) (by decide +kernel)
theorem zk_30 : (Jvm.Cond.instantiable "IslandRights$Journey" (2 : Nat)) ∈ zw_A := zw_t (i := 30) (by decide +kernel) (by decide +kernel)
theorem zk_32 : (Jvm.Cond.instanceMethod ({ cls := "IslandRights$Journey", name := "<init>", desc := "()V" } : Jvm.MethodName)) ∈ zw_A := zw_t (i := 32) (by decide +kernel) (by decide +kernel)
theorem zk_33 : (Jvm.Cond.code ({ cls := "IslandRights$Journey", name := "<init>", desc := "()V" } : Jvm.MethodName) prog_2_method_1_code (1 : Nat) (Option.none : Option Jvm.ClassFile.FieldType)) ∈ zw_A := zw_t (i := 33) (by decide +kernel) (by decide +kernel)
theorem zk_34 : (Jvm.Cond.methodLink "IslandRights$Journey" (3 : Nat) ({ cls := "java/lang/Object", name := "<init>", desc := "()V" } : Jvm.MethodName)) ∈ zw_A := zw_t (i := 34) (by decide +kernel) (by decide +kernel)
theorem zk_35 : (Jvm.Cond.fieldLink "IslandRights$Journey" (9 : Nat) "IslandRights$Journey" "times" "[I") ∈ zw_A := zw_t (i := 35) (by decide +kernel) (by decide +kernel)
theorem zk_36 : (Jvm.Cond.fieldLink "IslandRights$Port" (29 : Nat) "IslandRights$Journey" "times" "[I") ∈ zw_A := zw_t (i := 36) (by decide +kernel) (by decide +kernel)
theorem zk_37 : (Jvm.Cond.fieldLink "IslandRights" (235 : Nat) "IslandRights$Journey" "times" "[I") ∈ zw_A := zw_t (i := 37) (by decide +kernel) (by decide +kernel)
theorem zk_38 : (Jvm.Cond.fieldLink "IslandRights$Journey" (15 : Nat) "IslandRights$Journey" "parts" "I") ∈ zw_A := zw_t (i := 38) (by decide +kernel) (by decide +kernel)
theorem zk_39 : (Jvm.Cond.fieldLink "IslandRights" (91 : Nat) "IslandRights$Journey" "parts" "I") ∈ zw_A := zw_t (i := 39) (by decide +kernel) (by decide +kernel)
theorem zk_40 : (Jvm.Cond.laysFinal "IslandRights$Journey" "IslandRights$Journey" "times" "[I") ∈ zw_A := zw_t (i := 40) (by decide +kernel) (by decide +kernel)
theorem zk_41 : (Jvm.Cond.soleField "IslandRights$Journey" "times") ∈ zw_A := zw_t (i := 41) (by decide +kernel) (by decide +kernel)
theorem zk_42 : (Jvm.Cond.lays "IslandRights$Journey" "IslandRights$Journey" "parts" "I") ∈ zw_A := zw_t (i := 42) (by decide +kernel) (by decide +kernel)
theorem zk_43 : (Jvm.Cond.soleField "IslandRights$Journey" "parts") ∈ zw_A := zw_t (i := 43) (by decide +kernel) (by decide +kernel)
theorem zk_44 : (Jvm.Cond.superclass "IslandRights$Journey" "java/lang/Object") ∈ zw_A := zw_t (i := 44) (by decide +kernel) (by decide +kernel)
theorem zk_45 : (Jvm.Cond.arrayClass Jvm.ClassFile.FieldType.boolean) ∈ zw_A := zw_t (i := 45) (by decide +kernel) (by decide +kernel)
theorem zk_46 : (Jvm.Cond.arrayClass Jvm.ClassFile.FieldType.int) ∈ zw_A := zw_t (i := 46) (by decide +kernel) (by decide +kernel)
theorem zk_47 : (Jvm.Cond.instantiable "IslandRights$Port" (4 : Nat)) ∈ zw_A := zw_t (i := 47) (by decide +kernel) (by decide +kernel)
theorem zk_49 : (Jvm.Cond.instanceMethod ({ cls := "IslandRights$Port", name := "<init>", desc := "()V" } : Jvm.MethodName)) ∈ zw_A := zw_t (i := 49) (by decide +kernel) (by decide +kernel)
theorem zk_50 : (Jvm.Cond.code ({ cls := "IslandRights$Port", name := "<init>", desc := "()V" } : Jvm.MethodName) prog_4_method_1_code (1 : Nat) (Option.none : Option Jvm.ClassFile.FieldType)) ∈ zw_A := zw_t (i := 50) (by decide +kernel) (by decide +kernel)
theorem zk_51 : (Jvm.Cond.methodLink "IslandRights$Port" (3 : Nat) ({ cls := "java/lang/Object", name := "<init>", desc := "()V" } : Jvm.MethodName)) ∈ zw_A := zw_t (i := 51) (by decide +kernel) (by decide +kernel)
theorem zk_52 : (Jvm.Cond.classLink "IslandRights$Port" (15 : Nat) "IslandRights$Wish") ∈ zw_A := zw_t (i := 52) (by decide +kernel) (by decide +kernel)
theorem zk_54 : (Jvm.Cond.fieldLink "IslandRights$Port" (9 : Nat) "IslandRights$Port" "owned" "[I") ∈ zw_A := zw_t (i := 54) (by decide +kernel) (by decide +kernel)
theorem zk_55 : (Jvm.Cond.fieldLink "IslandRights" (68 : Nat) "IslandRights$Port" "owned" "[I") ∈ zw_A := zw_t (i := 55) (by decide +kernel) (by decide +kernel)
theorem zk_56 : (Jvm.Cond.fieldLink "IslandRights$Port" (17 : Nat) "IslandRights$Port" "row" "[LIslandRights$Wish;") ∈ zw_A := zw_t (i := 56) (by decide +kernel) (by decide +kernel)
theorem zk_57 : (Jvm.Cond.fieldLink "IslandRights" (238 : Nat) "IslandRights$Port" "row" "[LIslandRights$Wish;") ∈ zw_A := zw_t (i := 57) (by decide +kernel) (by decide +kernel)
theorem zk_58 : (Jvm.Cond.fieldLink "IslandRights$Port" (21 : Nat) "IslandRights$Port" "waiting" "I") ∈ zw_A := zw_t (i := 58) (by decide +kernel) (by decide +kernel)
theorem zk_59 : (Jvm.Cond.fieldLink "IslandRights" (120 : Nat) "IslandRights$Port" "waiting" "I") ∈ zw_A := zw_t (i := 59) (by decide +kernel) (by decide +kernel)
theorem zk_60 : (Jvm.Cond.fieldLink "IslandRights$Port" (25 : Nat) "IslandRights$Port" "takings" "J") ∈ zw_A := zw_t (i := 60) (by decide +kernel) (by decide +kernel)
theorem zk_61 : (Jvm.Cond.fieldLink "IslandRights" (155 : Nat) "IslandRights$Port" "takings" "J") ∈ zw_A := zw_t (i := 61) (by decide +kernel) (by decide +kernel)
theorem zk_62 : (Jvm.Cond.laysFinal "IslandRights$Port" "IslandRights$Port" "owned" "[I") ∈ zw_A := zw_t (i := 62) (by decide +kernel) (by decide +kernel)
theorem zk_63 : (Jvm.Cond.soleField "IslandRights$Port" "owned") ∈ zw_A := zw_t (i := 63) (by decide +kernel) (by decide +kernel)
theorem zk_64 : (Jvm.Cond.laysFinal "IslandRights$Port" "IslandRights$Port" "row" "[LIslandRights$Wish;") ∈ zw_A := zw_t (i := 64) (by decide +kernel) (by decide +kernel)
theorem zk_65 : (Jvm.Cond.soleField "IslandRights$Port" "row") ∈ zw_A := zw_t (i := 65) (by decide +kernel) (by decide +kernel)
theorem zk_66 : (Jvm.Cond.lays "IslandRights$Port" "IslandRights$Port" "waiting" "I") ∈ zw_A := zw_t (i := 66) (by decide +kernel) (by decide +kernel)
theorem zk_67 : (Jvm.Cond.soleField "IslandRights$Port" "waiting") ∈ zw_A := zw_t (i := 67) (by decide +kernel) (by decide +kernel)
theorem zk_68 : (Jvm.Cond.lays "IslandRights$Port" "IslandRights$Port" "takings" "J") ∈ zw_A := zw_t (i := 68) (by decide +kernel) (by decide +kernel)
theorem zk_69 : (Jvm.Cond.soleField "IslandRights$Port" "takings") ∈ zw_A := zw_t (i := 69) (by decide +kernel) (by decide +kernel)
theorem zk_70 : (Jvm.Cond.superclass "IslandRights$Port" "java/lang/Object") ∈ zw_A := zw_t (i := 70) (by decide +kernel) (by decide +kernel)
theorem zk_71 : (Jvm.Cond.instantiable "IslandRights$Lane" (7 : Nat)) ∈ zw_A := zw_t (i := 71) (by decide +kernel) (by decide +kernel)
theorem zk_73 : (Jvm.Cond.instanceMethod ({ cls := "IslandRights$Lane", name := "<init>", desc := "()V" } : Jvm.MethodName)) ∈ zw_A := zw_t (i := 73) (by decide +kernel) (by decide +kernel)
theorem zk_74 : (Jvm.Cond.code ({ cls := "IslandRights$Lane", name := "<init>", desc := "()V" } : Jvm.MethodName) prog_3_method_1_code (1 : Nat) (Option.none : Option Jvm.ClassFile.FieldType)) ∈ zw_A := zw_t (i := 74) (by decide +kernel) (by decide +kernel)
theorem zk_75 : (Jvm.Cond.methodLink "IslandRights$Lane" (3 : Nat) ({ cls := "java/lang/Object", name := "<init>", desc := "()V" } : Jvm.MethodName)) ∈ zw_A := zw_t (i := 75) (by decide +kernel) (by decide +kernel)
theorem zk_76 : (Jvm.Cond.fieldLink "IslandRights$Lane" (9 : Nat) "IslandRights$Lane" "places" "[I") ∈ zw_A := zw_t (i := 76) (by decide +kernel) (by decide +kernel)
theorem zk_77 : (Jvm.Cond.fieldLink "IslandRights" (252 : Nat) "IslandRights$Lane" "places" "[I") ∈ zw_A := zw_t (i := 77) (by decide +kernel) (by decide +kernel)
theorem zk_78 : (Jvm.Cond.fieldLink "IslandRights$Lane" (15 : Nat) "IslandRights$Lane" "amounts" "[I") ∈ zw_A := zw_t (i := 78) (by decide +kernel) (by decide +kernel)
theorem zk_79 : (Jvm.Cond.fieldLink "IslandRights" (255 : Nat) "IslandRights$Lane" "amounts" "[I") ∈ zw_A := zw_t (i := 79) (by decide +kernel) (by decide +kernel)
theorem zk_80 : (Jvm.Cond.fieldLink "IslandRights$Lane" (18 : Nat) "IslandRights$Lane" "gone" "I") ∈ zw_A := zw_t (i := 80) (by decide +kernel) (by decide +kernel)
theorem zk_81 : (Jvm.Cond.fieldLink "IslandRights" (186 : Nat) "IslandRights$Lane" "gone" "I") ∈ zw_A := zw_t (i := 81) (by decide +kernel) (by decide +kernel)
theorem zk_82 : (Jvm.Cond.fieldLink "IslandRights$Lane" (22 : Nat) "IslandRights$Lane" "waiting" "I") ∈ zw_A := zw_t (i := 82) (by decide +kernel) (by decide +kernel)
theorem zk_83 : (Jvm.Cond.fieldLink "IslandRights" (185 : Nat) "IslandRights$Lane" "waiting" "I") ∈ zw_A := zw_t (i := 83) (by decide +kernel) (by decide +kernel)
theorem zk_84 : (Jvm.Cond.fieldLink "IslandRights$Lane" (25 : Nat) "IslandRights$Lane" "taken" "I") ∈ zw_A := zw_t (i := 84) (by decide +kernel) (by decide +kernel)
theorem zk_85 : (Jvm.Cond.fieldLink "IslandRights" (192 : Nat) "IslandRights$Lane" "taken" "I") ∈ zw_A := zw_t (i := 85) (by decide +kernel) (by decide +kernel)
theorem zk_86 : (Jvm.Cond.fieldLink "IslandRights$Lane" (28 : Nat) "IslandRights$Lane" "word" "I") ∈ zw_A := zw_t (i := 86) (by decide +kernel) (by decide +kernel)
theorem zk_87 : (Jvm.Cond.fieldLink "IslandRights" (189 : Nat) "IslandRights$Lane" "word" "I") ∈ zw_A := zw_t (i := 87) (by decide +kernel) (by decide +kernel)
theorem zk_88 : (Jvm.Cond.fieldLink "IslandRights$Lane" (31 : Nat) "IslandRights$Lane" "answer" "I") ∈ zw_A := zw_t (i := 88) (by decide +kernel) (by decide +kernel)
theorem zk_89 : (Jvm.Cond.fieldLink "IslandRights" (199 : Nat) "IslandRights$Lane" "answer" "I") ∈ zw_A := zw_t (i := 89) (by decide +kernel) (by decide +kernel)
theorem zk_90 : (Jvm.Cond.laysFinal "IslandRights$Lane" "IslandRights$Lane" "places" "[I") ∈ zw_A := zw_t (i := 90) (by decide +kernel) (by decide +kernel)
theorem zk_91 : (Jvm.Cond.soleField "IslandRights$Lane" "places") ∈ zw_A := zw_t (i := 91) (by decide +kernel) (by decide +kernel)
theorem zk_92 : (Jvm.Cond.laysFinal "IslandRights$Lane" "IslandRights$Lane" "amounts" "[I") ∈ zw_A := zw_t (i := 92) (by decide +kernel) (by decide +kernel)
theorem zk_93 : (Jvm.Cond.soleField "IslandRights$Lane" "amounts") ∈ zw_A := zw_t (i := 93) (by decide +kernel) (by decide +kernel)
theorem zk_94 : (Jvm.Cond.lays "IslandRights$Lane" "IslandRights$Lane" "gone" "I") ∈ zw_A := zw_t (i := 94) (by decide +kernel) (by decide +kernel)
theorem zk_95 : (Jvm.Cond.soleField "IslandRights$Lane" "gone") ∈ zw_A := zw_t (i := 95) (by decide +kernel) (by decide +kernel)
theorem zk_96 : (Jvm.Cond.lays "IslandRights$Lane" "IslandRights$Lane" "waiting" "I") ∈ zw_A := zw_t (i := 96) (by decide +kernel) (by decide +kernel)
theorem zk_97 : (Jvm.Cond.soleField "IslandRights$Lane" "waiting") ∈ zw_A := zw_t (i := 97) (by decide +kernel) (by decide +kernel)
theorem zk_98 : (Jvm.Cond.lays "IslandRights$Lane" "IslandRights$Lane" "taken" "I") ∈ zw_A := zw_t (i := 98) (by decide +kernel) (by decide +kernel)
theorem zk_99 : (Jvm.Cond.soleField "IslandRights$Lane" "taken") ∈ zw_A := zw_t (i := 99) (by decide +kernel) (by decide +kernel)
theorem zk_100 : (Jvm.Cond.lays "IslandRights$Lane" "IslandRights$Lane" "word" "I") ∈ zw_A := zw_t (i := 100) (by decide +kernel) (by decide +kernel)
theorem zk_101 : (Jvm.Cond.soleField "IslandRights$Lane" "word") ∈ zw_A := zw_t (i := 101) (by decide +kernel) (by decide +kernel)
theorem zk_102 : (Jvm.Cond.lays "IslandRights$Lane" "IslandRights$Lane" "answer" "I") ∈ zw_A := zw_t (i := 102) (by decide +kernel) (by decide +kernel)
theorem zk_103 : (Jvm.Cond.soleField "IslandRights$Lane" "answer") ∈ zw_A := zw_t (i := 103) (by decide +kernel) (by decide +kernel)
theorem zk_104 : (Jvm.Cond.superclass "IslandRights$Lane" "java/lang/Object") ∈ zw_A := zw_t (i := 104) (by decide +kernel) (by decide +kernel)
theorem zk_105 : (Jvm.Cond.fieldLink "IslandRights" (9 : Nat) "IslandRights" "opened" "[Z") ∈ zw_A := zw_t (i := 105) (by decide +kernel) (by decide +kernel)
theorem zk_106 : (Jvm.Cond.fieldLink "IslandRights" (13 : Nat) "IslandRights" "fares" "[I") ∈ zw_A := zw_t (i := 106) (by decide +kernel) (by decide +kernel)
theorem zk_107 : (Jvm.Cond.fieldLink "IslandRights" (17 : Nat) "IslandRights" "soldSeats" "[I") ∈ zw_A := zw_t (i := 107) (by decide +kernel) (by decide +kernel)
theorem zk_108 : (Jvm.Cond.fieldLink "IslandRights" (20 : Nat) "IslandRights" "airborne" "[I") ∈ zw_A := zw_t (i := 108) (by decide +kernel) (by decide +kernel)
theorem zk_109 : (Jvm.Cond.fieldLink "IslandRights" (25 : Nat) "IslandRights" "ports" "[LIslandRights$Port;") ∈ zw_A := zw_t (i := 109) (by decide +kernel) (by decide +kernel)
theorem zk_110 : (Jvm.Cond.fieldLink "IslandRights" (31 : Nat) "IslandRights" "lanes" "[LIslandRights$Lane;") ∈ zw_A := zw_t (i := 110) (by decide +kernel) (by decide +kernel)
theorem zk_111 : (Jvm.Cond.fieldLink "IslandRights" (37 : Nat) "IslandRights" "tickets" "[LIslandRights$Ticket;") ∈ zw_A := zw_t (i := 111) (by decide +kernel) (by decide +kernel)
theorem zk_112 : (Jvm.Cond.fieldLink "IslandRights" (41 : Nat) "IslandRights" "ticketCount" "I") ∈ zw_A := zw_t (i := 112) (by decide +kernel) (by decide +kernel)
theorem zk_113 : (Jvm.Cond.fieldLink "IslandRights" (48 : Nat) "IslandRights" "draft" "LIslandRights$Journey;") ∈ zw_A := zw_t (i := 113) (by decide +kernel) (by decide +kernel)
theorem zk_114 : (Jvm.Cond.laysFinal "IslandRights" "IslandRights" "opened" "[Z") ∈ zw_A := zw_t (i := 114) (by decide +kernel) (by decide +kernel)
theorem zk_115 : (Jvm.Cond.soleField "IslandRights" "opened") ∈ zw_A := zw_t (i := 115) (by decide +kernel) (by decide +kernel)
theorem zk_116 : (Jvm.Cond.laysFinal "IslandRights" "IslandRights" "fares" "[I") ∈ zw_A := zw_t (i := 116) (by decide +kernel) (by decide +kernel)
theorem zk_117 : (Jvm.Cond.soleField "IslandRights" "fares") ∈ zw_A := zw_t (i := 117) (by decide +kernel) (by decide +kernel)
theorem zk_118 : (Jvm.Cond.laysFinal "IslandRights" "IslandRights" "soldSeats" "[I") ∈ zw_A := zw_t (i := 118) (by decide +kernel) (by decide +kernel)
theorem zk_119 : (Jvm.Cond.soleField "IslandRights" "soldSeats") ∈ zw_A := zw_t (i := 119) (by decide +kernel) (by decide +kernel)
theorem zk_120 : (Jvm.Cond.laysFinal "IslandRights" "IslandRights" "airborne" "[I") ∈ zw_A := zw_t (i := 120) (by decide +kernel) (by decide +kernel)
theorem zk_121 : (Jvm.Cond.soleField "IslandRights" "airborne") ∈ zw_A := zw_t (i := 121) (by decide +kernel) (by decide +kernel)
theorem zk_122 : (Jvm.Cond.laysFinal "IslandRights" "IslandRights" "ports" "[LIslandRights$Port;") ∈ zw_A := zw_t (i := 122) (by decide +kernel) (by decide +kernel)
theorem zk_123 : (Jvm.Cond.soleField "IslandRights" "ports") ∈ zw_A := zw_t (i := 123) (by decide +kernel) (by decide +kernel)
theorem zk_124 : (Jvm.Cond.laysFinal "IslandRights" "IslandRights" "lanes" "[LIslandRights$Lane;") ∈ zw_A := zw_t (i := 124) (by decide +kernel) (by decide +kernel)
theorem zk_125 : (Jvm.Cond.soleField "IslandRights" "lanes") ∈ zw_A := zw_t (i := 125) (by decide +kernel) (by decide +kernel)
theorem zk_126 : (Jvm.Cond.laysFinal "IslandRights" "IslandRights" "tickets" "[LIslandRights$Ticket;") ∈ zw_A := zw_t (i := 126) (by decide +kernel) (by decide +kernel)
theorem zk_127 : (Jvm.Cond.soleField "IslandRights" "tickets") ∈ zw_A := zw_t (i := 127) (by decide +kernel) (by decide +kernel)
theorem zk_128 : (Jvm.Cond.lays "IslandRights" "IslandRights" "ticketCount" "I") ∈ zw_A := zw_t (i := 128) (by decide +kernel) (by decide +kernel)
theorem zk_129 : (Jvm.Cond.soleField "IslandRights" "ticketCount") ∈ zw_A := zw_t (i := 129) (by decide +kernel) (by decide +kernel)
theorem zk_130 : (Jvm.Cond.lays "IslandRights" "IslandRights" "draft" "LIslandRights$Journey;") ∈ zw_A := zw_t (i := 130) (by decide +kernel) (by decide +kernel)
theorem zk_131 : (Jvm.Cond.soleField "IslandRights" "draft") ∈ zw_A := zw_t (i := 131) (by decide +kernel) (by decide +kernel)
theorem zk_132 : (Jvm.Cond.superclass "IslandRights" "java/lang/Object") ∈ zw_A := zw_t (i := 132) (by decide +kernel) (by decide +kernel)
theorem zk_133 : (Jvm.Cond.methodLink "IslandRightsLaw" (86 : Nat) ({ cls := "IslandRightsLaw", name := "open", desc := "(LIslandRights;II)I" } : Jvm.MethodName)) ∈ zw_A := zw_t (i := 133) (by decide +kernel) (by decide +kernel)
theorem zk_134 : (Jvm.Cond.static ({ cls := "IslandRightsLaw", name := "open", desc := "(LIslandRights;II)I" } : Jvm.MethodName)) ∈ zw_A := zw_t (i := 134) (by decide +kernel) (by decide +kernel)
theorem zk_136 : (Jvm.Cond.classLink "IslandRightsLaw" (13 : Nat) "java/lang/IndexOutOfBoundsException") ∈ zw_A := zw_t (i := 136) (by decide +kernel) (by decide +kernel)
theorem zk_137 : (Jvm.Cond.classLink "IslandRightsLaw" (15 : Nat) "java/lang/IllegalArgumentException") ∈ zw_A := zw_t (i := 137) (by decide +kernel) (by decide +kernel)
theorem zk_138 : (Jvm.Cond.classLink "IslandRightsLaw" (17 : Nat) "java/lang/IllegalStateException") ∈ zw_A := zw_t (i := 138) (by decide +kernel) (by decide +kernel)
theorem zk_139 : (Jvm.Cond.methodLink "IslandRightsLaw" (7 : Nat) ({ cls := "IslandRights", name := "open", desc := "(II)V" } : Jvm.MethodName)) ∈ zw_A := zw_t (i := 139) (by decide +kernel) (by decide +kernel)
theorem zk_140 : (Jvm.Cond.instanceMethod ({ cls := "IslandRights", name := "open", desc := "(II)V" } : Jvm.MethodName)) ∈ zw_A := zw_t (i := 140) (by decide +kernel) (by decide +kernel)
theorem zk_141 : (Jvm.Cond.selects "IslandRights" ({ cls := "IslandRights", name := "open", desc := "(II)V" } : Jvm.MethodName) ({ cls := "IslandRights", name := "open", desc := "(II)V" } : Jvm.MethodName)) ∈ zw_A := zw_t (i := 141) (by decide +kernel) (by decide +kernel)
theorem zk_142 : (Jvm.Cond.code ({ cls := "IslandRights", name := "open", desc := "(II)V" } : Jvm.MethodName) prog_1_method_2_code (4 : Nat) (Option.none : Option Jvm.ClassFile.FieldType)) ∈ zw_A := zw_t (i := 142) (by decide +kernel) (by decide +kernel)
theorem zk_143 : (Jvm.Cond.methodLink "IslandRights" (54 : Nat) ({ cls := "IslandRights", name := "checkSailing", desc := "(I)V" } : Jvm.MethodName)) ∈ zw_A := zw_t (i := 143) (by decide +kernel) (by decide +kernel)
theorem zk_144 : (Jvm.Cond.static ({ cls := "IslandRights", name := "checkSailing", desc := "(I)V" } : Jvm.MethodName)) ∈ zw_A := zw_t (i := 144) (by decide +kernel) (by decide +kernel)
theorem zk_145 : (Jvm.Cond.code ({ cls := "IslandRights", name := "checkSailing", desc := "(I)V" } : Jvm.MethodName) prog_1_method_23_code (1 : Nat) (Option.none : Option Jvm.ClassFile.FieldType)) ∈ zw_A := zw_t (i := 145) (by decide +kernel) (by decide +kernel)
theorem zk_146 : (Jvm.Cond.classLink "IslandRights" (209 : Nat) "java/lang/IndexOutOfBoundsException") ∈ zw_A := zw_t (i := 146) (by decide +kernel) (by decide +kernel)
theorem zk_169 : (Jvm.Cond.instanceMethod ({ cls := "java/lang/Throwable", name := "<init>", desc := "()V" } : Jvm.MethodName)) ∈ zw_A := zw_t (i := 169) (by decide +kernel) (by decide +kernel)
theorem zk_170 : (Jvm.Cond.code ({ cls := "java/lang/Throwable", name := "<init>", desc := "()V" } : Jvm.MethodName) prog_16_method_1_code (1 : Nat) (Option.none : Option Jvm.ClassFile.FieldType)) ∈ zw_A := zw_t (i := 170) (by decide +kernel) (by decide +kernel)
theorem zk_177 : (Jvm.Cond.instanceMethod ({ cls := "java/lang/Throwable", name := "fillInStackTrace", desc := "()Ljava/lang/Throwable;" } : Jvm.MethodName)) ∈ zw_A := zw_t (i := 177) (by decide +kernel) (by decide +kernel)
theorem zk_184 : (Jvm.Cond.instanceMethod ({ cls := "java/lang/Throwable", name := "fillInStackTrace", desc := "(I)Ljava/lang/Throwable;" } : Jvm.MethodName)) ∈ zw_A := zw_t (i := 184) (by decide +kernel) (by decide +kernel)
theorem zk_188 : (Jvm.Cond.methodLink "IslandRights" (213 : Nat) ({ cls := "java/lang/IndexOutOfBoundsException", name := "<init>", desc := "(Ljava/lang/String;)V" } : Jvm.MethodName)) ∈ zw_A := zw_t (i := 188) (by decide +kernel) (by decide +kernel)
theorem zk_189 : (Jvm.Cond.instanceMethod ({ cls := "java/lang/IndexOutOfBoundsException", name := "<init>", desc := "(Ljava/lang/String;)V" } : Jvm.MethodName)) ∈ zw_A := zw_t (i := 189) (by decide +kernel) (by decide +kernel)
theorem zk_190 : (Jvm.Cond.code ({ cls := "java/lang/IndexOutOfBoundsException", name := "<init>", desc := "(Ljava/lang/String;)V" } : Jvm.MethodName) prog_12_method_2_code (2 : Nat) (Option.none : Option Jvm.ClassFile.FieldType)) ∈ zw_A := zw_t (i := 190) (by decide +kernel) (by decide +kernel)
theorem zk_192 : (Jvm.Cond.instanceMethod ({ cls := "java/lang/RuntimeException", name := "<init>", desc := "(Ljava/lang/String;)V" } : Jvm.MethodName)) ∈ zw_A := zw_t (i := 192) (by decide +kernel) (by decide +kernel)
theorem zk_193 : (Jvm.Cond.code ({ cls := "java/lang/RuntimeException", name := "<init>", desc := "(Ljava/lang/String;)V" } : Jvm.MethodName) prog_14_method_2_code (2 : Nat) (Option.none : Option Jvm.ClassFile.FieldType)) ∈ zw_A := zw_t (i := 193) (by decide +kernel) (by decide +kernel)
theorem zk_195 : (Jvm.Cond.instanceMethod ({ cls := "java/lang/Exception", name := "<init>", desc := "(Ljava/lang/String;)V" } : Jvm.MethodName)) ∈ zw_A := zw_t (i := 195) (by decide +kernel) (by decide +kernel)
theorem zk_196 : (Jvm.Cond.code ({ cls := "java/lang/Exception", name := "<init>", desc := "(Ljava/lang/String;)V" } : Jvm.MethodName) prog_9_method_2_code (2 : Nat) (Option.none : Option Jvm.ClassFile.FieldType)) ∈ zw_A := zw_t (i := 196) (by decide +kernel) (by decide +kernel)
theorem zk_198 : (Jvm.Cond.instanceMethod ({ cls := "java/lang/Throwable", name := "<init>", desc := "(Ljava/lang/String;)V" } : Jvm.MethodName)) ∈ zw_A := zw_t (i := 198) (by decide +kernel) (by decide +kernel)
theorem zk_199 : (Jvm.Cond.code ({ cls := "java/lang/Throwable", name := "<init>", desc := "(Ljava/lang/String;)V" } : Jvm.MethodName) prog_16_method_2_code (2 : Nat) (Option.none : Option Jvm.ClassFile.FieldType)) ∈ zw_A := zw_t (i := 199) (by decide +kernel) (by decide +kernel)
theorem zk_213 : (Jvm.Cond.arrayClass Jvm.ClassFile.FieldType.byte) ∈ zw_A := zw_t (i := 213) (by decide +kernel) (by decide +kernel)
theorem zk_214 : (Jvm.Cond.methodLink "IslandRights" (58 : Nat) ({ cls := "IslandRights", name := "checkSeats", desc := "(I)V" } : Jvm.MethodName)) ∈ zw_A := zw_t (i := 214) (by decide +kernel) (by decide +kernel)
theorem zk_215 : (Jvm.Cond.static ({ cls := "IslandRights", name := "checkSeats", desc := "(I)V" } : Jvm.MethodName)) ∈ zw_A := zw_t (i := 215) (by decide +kernel) (by decide +kernel)
theorem zk_216 : (Jvm.Cond.code ({ cls := "IslandRights", name := "checkSeats", desc := "(I)V" } : Jvm.MethodName) prog_1_method_29_code (1 : Nat) (Option.none : Option Jvm.ClassFile.FieldType)) ∈ zw_A := zw_t (i := 216) (by decide +kernel) (by decide +kernel)
theorem zk_217 : (Jvm.Cond.classLink "IslandRights" (79 : Nat) "java/lang/IllegalArgumentException") ∈ zw_A := zw_t (i := 217) (by decide +kernel) (by decide +kernel)
theorem zk_227 : (Jvm.Cond.methodLink "IslandRights" (83 : Nat) ({ cls := "java/lang/IllegalArgumentException", name := "<init>", desc := "(Ljava/lang/String;)V" } : Jvm.MethodName)) ∈ zw_A := zw_t (i := 227) (by decide +kernel) (by decide +kernel)
theorem zk_228 : (Jvm.Cond.instanceMethod ({ cls := "java/lang/IllegalArgumentException", name := "<init>", desc := "(Ljava/lang/String;)V" } : Jvm.MethodName)) ∈ zw_A := zw_t (i := 228) (by decide +kernel) (by decide +kernel)
theorem zk_229 : (Jvm.Cond.code ({ cls := "java/lang/IllegalArgumentException", name := "<init>", desc := "(Ljava/lang/String;)V" } : Jvm.MethodName) prog_10_method_2_code (2 : Nat) (Option.none : Option Jvm.ClassFile.FieldType)) ∈ zw_A := zw_t (i := 229) (by decide +kernel) (by decide +kernel)
theorem zk_233 : (Jvm.Cond.classLink "IslandRights" (61 : Nat) "java/lang/IllegalStateException") ∈ zw_A := zw_t (i := 233) (by decide +kernel) (by decide +kernel)
theorem zk_243 : (Jvm.Cond.methodLink "IslandRights" (65 : Nat) ({ cls := "java/lang/IllegalStateException", name := "<init>", desc := "(Ljava/lang/String;)V" } : Jvm.MethodName)) ∈ zw_A := zw_t (i := 243) (by decide +kernel) (by decide +kernel)
theorem zk_244 : (Jvm.Cond.instanceMethod ({ cls := "java/lang/IllegalStateException", name := "<init>", desc := "(Ljava/lang/String;)V" } : Jvm.MethodName)) ∈ zw_A := zw_t (i := 244) (by decide +kernel) (by decide +kernel)
theorem zk_245 : (Jvm.Cond.code ({ cls := "java/lang/IllegalStateException", name := "<init>", desc := "(Ljava/lang/String;)V" } : Jvm.MethodName) prog_11_method_2_code (2 : Nat) (Option.none : Option Jvm.ClassFile.FieldType)) ∈ zw_A := zw_t (i := 245) (by decide +kernel) (by decide +kernel)
theorem zk_249 : (Jvm.Cond.methodLink "IslandRights" (71 : Nat) ({ cls := "IslandRights", name := "placeOf", desc := "(II)I" } : Jvm.MethodName)) ∈ zw_A := zw_t (i := 249) (by decide +kernel) (by decide +kernel)
theorem zk_250 : (Jvm.Cond.static ({ cls := "IslandRights", name := "placeOf", desc := "(II)I" } : Jvm.MethodName)) ∈ zw_A := zw_t (i := 250) (by decide +kernel) (by decide +kernel)
theorem zk_251 : (Jvm.Cond.code ({ cls := "IslandRights", name := "placeOf", desc := "(II)I" } : Jvm.MethodName) prog_1_method_31_code (2 : Nat) (Option.some Jvm.ClassFile.FieldType.int)) ∈ zw_A := zw_t (i := 251) (by decide +kernel) (by decide +kernel)
theorem zk_252 : (Jvm.Cond.methodLink "IslandRightsLaw" (96 : Nat) ({ cls := "IslandRightsLaw", name := "fare", desc := "(LIslandRights;III)I" } : Jvm.MethodName)) ∈ zw_A := zw_t (i := 252) (by decide +kernel) (by decide +kernel)
theorem zk_253 : (Jvm.Cond.static ({ cls := "IslandRightsLaw", name := "fare", desc := "(LIslandRights;III)I" } : Jvm.MethodName)) ∈ zw_A := zw_t (i := 253) (by decide +kernel) (by decide +kernel)
theorem zk_255 : (Jvm.Cond.methodLink "IslandRightsLaw" (19 : Nat) ({ cls := "IslandRights", name := "fare", desc := "(III)V" } : Jvm.MethodName)) ∈ zw_A := zw_t (i := 255) (by decide +kernel) (by decide +kernel)
theorem zk_256 : (Jvm.Cond.instanceMethod ({ cls := "IslandRights", name := "fare", desc := "(III)V" } : Jvm.MethodName)) ∈ zw_A := zw_t (i := 256) (by decide +kernel) (by decide +kernel)
theorem zk_257 : (Jvm.Cond.selects "IslandRights" ({ cls := "IslandRights", name := "fare", desc := "(III)V" } : Jvm.MethodName) ({ cls := "IslandRights", name := "fare", desc := "(III)V" } : Jvm.MethodName)) ∈ zw_A := zw_t (i := 257) (by decide +kernel) (by decide +kernel)
theorem zk_258 : (Jvm.Cond.code ({ cls := "IslandRights", name := "fare", desc := "(III)V" } : Jvm.MethodName) prog_1_method_3_code (4 : Nat) (Option.none : Option Jvm.ClassFile.FieldType)) ∈ zw_A := zw_t (i := 258) (by decide +kernel) (by decide +kernel)
theorem zk_259 : (Jvm.Cond.methodLink "IslandRights" (75 : Nat) ({ cls := "IslandRights", name := "checkLeg", desc := "(I)V" } : Jvm.MethodName)) ∈ zw_A := zw_t (i := 259) (by decide +kernel) (by decide +kernel)
theorem zk_260 : (Jvm.Cond.static ({ cls := "IslandRights", name := "checkLeg", desc := "(I)V" } : Jvm.MethodName)) ∈ zw_A := zw_t (i := 260) (by decide +kernel) (by decide +kernel)
theorem zk_261 : (Jvm.Cond.code ({ cls := "IslandRights", name := "checkLeg", desc := "(I)V" } : Jvm.MethodName) prog_1_method_24_code (1 : Nat) (Option.none : Option Jvm.ClassFile.FieldType)) ∈ zw_A := zw_t (i := 261) (by decide +kernel) (by decide +kernel)
theorem zk_263 : (Jvm.Cond.constant "IslandRights" (78 : Nat) (1000000000 : Int32)) ∈ zw_A := zw_t (i := 263) (by decide +kernel) (by decide +kernel)
theorem zk_265 : (Jvm.Cond.methodLink "IslandRightsLaw" (100 : Nat) ({ cls := "IslandRightsLaw", name := "part", desc := "(LIslandRights;III[J)I" } : Jvm.MethodName)) ∈ zw_A := zw_t (i := 265) (by decide +kernel) (by decide +kernel)
theorem zk_266 : (Jvm.Cond.static ({ cls := "IslandRightsLaw", name := "part", desc := "(LIslandRights;III[J)I" } : Jvm.MethodName)) ∈ zw_A := zw_t (i := 266) (by decide +kernel) (by decide +kernel)
theorem zk_268 : (Jvm.Cond.methodLink "IslandRightsLaw" (23 : Nat) ({ cls := "IslandRights", name := "part", desc := "(III)I" } : Jvm.MethodName)) ∈ zw_A := zw_t (i := 268) (by decide +kernel) (by decide +kernel)
theorem zk_269 : (Jvm.Cond.instanceMethod ({ cls := "IslandRights", name := "part", desc := "(III)I" } : Jvm.MethodName)) ∈ zw_A := zw_t (i := 269) (by decide +kernel) (by decide +kernel)
theorem zk_270 : (Jvm.Cond.selects "IslandRights" ({ cls := "IslandRights", name := "part", desc := "(III)I" } : Jvm.MethodName) ({ cls := "IslandRights", name := "part", desc := "(III)I" } : Jvm.MethodName)) ∈ zw_A := zw_t (i := 270) (by decide +kernel) (by decide +kernel)
theorem zk_271 : (Jvm.Cond.code ({ cls := "IslandRights", name := "part", desc := "(III)I" } : Jvm.MethodName) prog_1_method_4_code (4 : Nat) (Option.some Jvm.ClassFile.FieldType.int)) ∈ zw_A := zw_t (i := 271) (by decide +kernel) (by decide +kernel)
theorem zk_272 : (Jvm.Cond.methodLink "IslandRights" (84 : Nat) ({ cls := "IslandRights", name := "checkStop", desc := "(I)V" } : Jvm.MethodName)) ∈ zw_A := zw_t (i := 272) (by decide +kernel) (by decide +kernel)
theorem zk_273 : (Jvm.Cond.static ({ cls := "IslandRights", name := "checkStop", desc := "(I)V" } : Jvm.MethodName)) ∈ zw_A := zw_t (i := 273) (by decide +kernel) (by decide +kernel)
theorem zk_274 : (Jvm.Cond.code ({ cls := "IslandRights", name := "checkStop", desc := "(I)V" } : Jvm.MethodName) prog_1_method_25_code (1 : Nat) (Option.none : Option Jvm.ClassFile.FieldType)) ∈ zw_A := zw_t (i := 274) (by decide +kernel) (by decide +kernel)
theorem zk_279 : (Jvm.Cond.methodLink "IslandRights" (96 : Nat) ({ cls := "IslandRights$Journey", name := "addPart", desc := "(III)V" } : Jvm.MethodName)) ∈ zw_A := zw_t (i := 279) (by decide +kernel) (by decide +kernel)
theorem zk_280 : (Jvm.Cond.instanceMethod ({ cls := "IslandRights$Journey", name := "addPart", desc := "(III)V" } : Jvm.MethodName)) ∈ zw_A := zw_t (i := 280) (by decide +kernel) (by decide +kernel)
theorem zk_281 : (Jvm.Cond.selects "IslandRights$Journey" ({ cls := "IslandRights$Journey", name := "addPart", desc := "(III)V" } : Jvm.MethodName) ({ cls := "IslandRights$Journey", name := "addPart", desc := "(III)V" } : Jvm.MethodName)) ∈ zw_A := zw_t (i := 281) (by decide +kernel) (by decide +kernel)
theorem zk_282 : (Jvm.Cond.code ({ cls := "IslandRights$Journey", name := "addPart", desc := "(III)V" } : Jvm.MethodName) prog_2_method_2_code (5 : Nat) (Option.none : Option Jvm.ClassFile.FieldType)) ∈ zw_A := zw_t (i := 282) (by decide +kernel) (by decide +kernel)
theorem zk_284 : (Jvm.Cond.methodLink "IslandRightsLaw" (104 : Nat) ({ cls := "IslandRightsLaw", name := "buy", desc := "(LIslandRights;II[J)I" } : Jvm.MethodName)) ∈ zw_A := zw_t (i := 284) (by decide +kernel) (by decide +kernel)
theorem zk_285 : (Jvm.Cond.static ({ cls := "IslandRightsLaw", name := "buy", desc := "(LIslandRights;II[J)I" } : Jvm.MethodName)) ∈ zw_A := zw_t (i := 285) (by decide +kernel) (by decide +kernel)
theorem zk_287 : (Jvm.Cond.methodLink "IslandRightsLaw" (27 : Nat) ({ cls := "IslandRights", name := "buy", desc := "(II)I" } : Jvm.MethodName)) ∈ zw_A := zw_t (i := 287) (by decide +kernel) (by decide +kernel)
theorem zk_288 : (Jvm.Cond.instanceMethod ({ cls := "IslandRights", name := "buy", desc := "(II)I" } : Jvm.MethodName)) ∈ zw_A := zw_t (i := 288) (by decide +kernel) (by decide +kernel)
theorem zk_289 : (Jvm.Cond.selects "IslandRights" ({ cls := "IslandRights", name := "buy", desc := "(II)I" } : Jvm.MethodName) ({ cls := "IslandRights", name := "buy", desc := "(II)I" } : Jvm.MethodName)) ∈ zw_A := zw_t (i := 289) (by decide +kernel) (by decide +kernel)
theorem zk_290 : (Jvm.Cond.code ({ cls := "IslandRights", name := "buy", desc := "(II)I" } : Jvm.MethodName) prog_1_method_5_code (4 : Nat) (Option.some Jvm.ClassFile.FieldType.int)) ∈ zw_A := zw_t (i := 290) (by decide +kernel) (by decide +kernel)
theorem zk_291 : (Jvm.Cond.methodLink "IslandRights" (100 : Nat) ({ cls := "IslandRights", name := "checkPort", desc := "(I)V" } : Jvm.MethodName)) ∈ zw_A := zw_t (i := 291) (by decide +kernel) (by decide +kernel)
theorem zk_292 : (Jvm.Cond.static ({ cls := "IslandRights", name := "checkPort", desc := "(I)V" } : Jvm.MethodName)) ∈ zw_A := zw_t (i := 292) (by decide +kernel) (by decide +kernel)
theorem zk_293 : (Jvm.Cond.code ({ cls := "IslandRights", name := "checkPort", desc := "(I)V" } : Jvm.MethodName) prog_1_method_22_code (1 : Nat) (Option.none : Option Jvm.ClassFile.FieldType)) ∈ zw_A := zw_t (i := 293) (by decide +kernel) (by decide +kernel)
theorem zk_295 : (Jvm.Cond.methodLink "IslandRights" (103 : Nat) ({ cls := "IslandRights", name := "checkDraft", desc := "()V" } : Jvm.MethodName)) ∈ zw_A := zw_t (i := 295) (by decide +kernel) (by decide +kernel)
theorem zk_297 : (Jvm.Cond.instanceMethod ({ cls := "IslandRights", name := "checkDraft", desc := "()V" } : Jvm.MethodName)) ∈ zw_A := zw_t (i := 297) (by decide +kernel) (by decide +kernel)
theorem zk_298 : (Jvm.Cond.code ({ cls := "IslandRights", name := "checkDraft", desc := "()V" } : Jvm.MethodName) prog_1_method_30_code (1 : Nat) (Option.none : Option Jvm.ClassFile.FieldType)) ∈ zw_A := zw_t (i := 298) (by decide +kernel) (by decide +kernel)
theorem zk_301 : (Jvm.Cond.methodLink "IslandRights" (108 : Nat) ({ cls := "IslandRights", name := "takeDraft", desc := "()LIslandRights$Journey;" } : Jvm.MethodName)) ∈ zw_A := zw_t (i := 301) (by decide +kernel) (by decide +kernel)
theorem zk_303 : (Jvm.Cond.instanceMethod ({ cls := "IslandRights", name := "takeDraft", desc := "()LIslandRights$Journey;" } : Jvm.MethodName)) ∈ zw_A := zw_t (i := 303) (by decide +kernel) (by decide +kernel)
theorem zk_304 : (Jvm.Cond.code ({ cls := "IslandRights", name := "takeDraft", desc := "()LIslandRights$Journey;" } : Jvm.MethodName) prog_1_method_33_code (2 : Nat) (Option.some (Jvm.ClassFile.FieldType.object "IslandRights$Journey"))) ∈ zw_A := zw_t (i := 304) (by decide +kernel) (by decide +kernel)
theorem zk_305 : (Jvm.Cond.methodLink "IslandRights" (112 : Nat) ({ cls := "IslandRights$Port", name := "fits", desc := "(LIslandRights$Journey;I)Z" } : Jvm.MethodName)) ∈ zw_A := zw_t (i := 305) (by decide +kernel) (by decide +kernel)
theorem zk_306 : (Jvm.Cond.instanceMethod ({ cls := "IslandRights$Port", name := "fits", desc := "(LIslandRights$Journey;I)Z" } : Jvm.MethodName)) ∈ zw_A := zw_t (i := 306) (by decide +kernel) (by decide +kernel)
theorem zk_307 : (Jvm.Cond.selects "IslandRights$Port" ({ cls := "IslandRights$Port", name := "fits", desc := "(LIslandRights$Journey;I)Z" } : Jvm.MethodName) ({ cls := "IslandRights$Port", name := "fits", desc := "(LIslandRights$Journey;I)Z" } : Jvm.MethodName)) ∈ zw_A := zw_t (i := 307) (by decide +kernel) (by decide +kernel)
theorem zk_308 : (Jvm.Cond.code ({ cls := "IslandRights$Port", name := "fits", desc := "(LIslandRights$Journey;I)Z" } : Jvm.MethodName) prog_4_method_2_code (4 : Nat) (Option.some Jvm.ClassFile.FieldType.boolean)) ∈ zw_A := zw_t (i := 308) (by decide +kernel) (by decide +kernel)
theorem zk_309 : (Jvm.Cond.methodLink "IslandRights" (116 : Nat) ({ cls := "IslandRights", name := "sell", desc := "(ILIslandRights$Journey;I)I" } : Jvm.MethodName)) ∈ zw_A := zw_t (i := 309) (by decide +kernel) (by decide +kernel)
theorem zk_311 : (Jvm.Cond.instanceMethod ({ cls := "IslandRights", name := "sell", desc := "(ILIslandRights$Journey;I)I" } : Jvm.MethodName)) ∈ zw_A := zw_t (i := 311) (by decide +kernel) (by decide +kernel)
theorem zk_312 : (Jvm.Cond.code ({ cls := "IslandRights", name := "sell", desc := "(ILIslandRights$Journey;I)I" } : Jvm.MethodName) prog_1_method_34_code (7 : Nat) (Option.some Jvm.ClassFile.FieldType.int)) ∈ zw_A := zw_t (i := 312) (by decide +kernel) (by decide +kernel)
theorem zk_313 : (Jvm.Cond.methodLink "IslandRights" (228 : Nat) ({ cls := "IslandRights", name := "costOf", desc := "(LIslandRights$Journey;I)J" } : Jvm.MethodName)) ∈ zw_A := zw_t (i := 313) (by decide +kernel) (by decide +kernel)
theorem zk_315 : (Jvm.Cond.instanceMethod ({ cls := "IslandRights", name := "costOf", desc := "(LIslandRights$Journey;I)J" } : Jvm.MethodName)) ∈ zw_A := zw_t (i := 315) (by decide +kernel) (by decide +kernel)
theorem zk_316 : (Jvm.Cond.code ({ cls := "IslandRights", name := "costOf", desc := "(LIslandRights$Journey;I)J" } : Jvm.MethodName) prog_1_method_35_code (6 : Nat) (Option.some Jvm.ClassFile.FieldType.long)) ∈ zw_A := zw_t (i := 316) (by decide +kernel) (by decide +kernel)
theorem zk_317 : (Jvm.Cond.methodLink "IslandRights" (151 : Nat) ({ cls := "IslandRights", name := "moveToSold", desc := "(ILIslandRights$Journey;I)V" } : Jvm.MethodName)) ∈ zw_A := zw_t (i := 317) (by decide +kernel) (by decide +kernel)
theorem zk_319 : (Jvm.Cond.instanceMethod ({ cls := "IslandRights", name := "moveToSold", desc := "(ILIslandRights$Journey;I)V" } : Jvm.MethodName)) ∈ zw_A := zw_t (i := 319) (by decide +kernel) (by decide +kernel)
theorem zk_320 : (Jvm.Cond.code ({ cls := "IslandRights", name := "moveToSold", desc := "(ILIslandRights$Journey;I)V" } : Jvm.MethodName) prog_1_method_36_code (7 : Nat) (Option.none : Option Jvm.ClassFile.FieldType)) ∈ zw_A := zw_t (i := 320) (by decide +kernel) (by decide +kernel)
theorem zk_321 : (Jvm.Cond.instantiable "IslandRights$Ticket" (5 : Nat)) ∈ zw_A := zw_t (i := 321) (by decide +kernel) (by decide +kernel)
theorem zk_322 : (Jvm.Cond.methodLink "IslandRights" (232 : Nat) ({ cls := "IslandRights$Ticket", name := "<init>", desc := "(IILIslandRights$Journey;J)V" } : Jvm.MethodName)) ∈ zw_A := zw_t (i := 322) (by decide +kernel) (by decide +kernel)
theorem zk_323 : (Jvm.Cond.instanceMethod ({ cls := "IslandRights$Ticket", name := "<init>", desc := "(IILIslandRights$Journey;J)V" } : Jvm.MethodName)) ∈ zw_A := zw_t (i := 323) (by decide +kernel) (by decide +kernel)
theorem zk_324 : (Jvm.Cond.code ({ cls := "IslandRights$Ticket", name := "<init>", desc := "(IILIslandRights$Journey;J)V" } : Jvm.MethodName) prog_5_method_1_code (6 : Nat) (Option.none : Option Jvm.ClassFile.FieldType)) ∈ zw_A := zw_t (i := 324) (by decide +kernel) (by decide +kernel)
theorem zk_325 : (Jvm.Cond.methodLink "IslandRights$Ticket" (1 : Nat) ({ cls := "java/lang/Object", name := "<init>", desc := "()V" } : Jvm.MethodName)) ∈ zw_A := zw_t (i := 325) (by decide +kernel) (by decide +kernel)
theorem zk_326 : (Jvm.Cond.fieldLink "IslandRights$Ticket" (13 : Nat) "IslandRights$Ticket" "port" "I") ∈ zw_A := zw_t (i := 326) (by decide +kernel) (by decide +kernel)
theorem zk_327 : (Jvm.Cond.fieldLink "IslandRights" (142 : Nat) "IslandRights$Ticket" "port" "I") ∈ zw_A := zw_t (i := 327) (by decide +kernel) (by decide +kernel)
theorem zk_328 : (Jvm.Cond.fieldLink "IslandRights$Ticket" (17 : Nat) "IslandRights$Ticket" "seats" "I") ∈ zw_A := zw_t (i := 328) (by decide +kernel) (by decide +kernel)
theorem zk_329 : (Jvm.Cond.fieldLink "IslandRights" (148 : Nat) "IslandRights$Ticket" "seats" "I") ∈ zw_A := zw_t (i := 329) (by decide +kernel) (by decide +kernel)
theorem zk_330 : (Jvm.Cond.fieldLink "IslandRights$Ticket" (20 : Nat) "IslandRights$Ticket" "journey" "LIslandRights$Journey;") ∈ zw_A := zw_t (i := 330) (by decide +kernel) (by decide +kernel)
theorem zk_331 : (Jvm.Cond.fieldLink "IslandRights" (145 : Nat) "IslandRights$Ticket" "journey" "LIslandRights$Journey;") ∈ zw_A := zw_t (i := 331) (by decide +kernel) (by decide +kernel)
theorem zk_332 : (Jvm.Cond.fieldLink "IslandRights$Ticket" (24 : Nat) "IslandRights$Ticket" "cost" "J") ∈ zw_A := zw_t (i := 332) (by decide +kernel) (by decide +kernel)
theorem zk_333 : (Jvm.Cond.fieldLink "IslandRights" (159 : Nat) "IslandRights$Ticket" "cost" "J") ∈ zw_A := zw_t (i := 333) (by decide +kernel) (by decide +kernel)
theorem zk_334 : (Jvm.Cond.fieldLink "IslandRights$Ticket" (7 : Nat) "IslandRights$Ticket" "cancelled" "Z") ∈ zw_A := zw_t (i := 334) (by decide +kernel) (by decide +kernel)
theorem zk_335 : (Jvm.Cond.fieldLink "IslandRights" (136 : Nat) "IslandRights$Ticket" "cancelled" "Z") ∈ zw_A := zw_t (i := 335) (by decide +kernel) (by decide +kernel)
theorem zk_336 : (Jvm.Cond.laysFinal "IslandRights$Ticket" "IslandRights$Ticket" "port" "I") ∈ zw_A := zw_t (i := 336) (by decide +kernel) (by decide +kernel)
theorem zk_337 : (Jvm.Cond.soleField "IslandRights$Ticket" "port") ∈ zw_A := zw_t (i := 337) (by decide +kernel) (by decide +kernel)
theorem zk_338 : (Jvm.Cond.laysFinal "IslandRights$Ticket" "IslandRights$Ticket" "seats" "I") ∈ zw_A := zw_t (i := 338) (by decide +kernel) (by decide +kernel)
theorem zk_339 : (Jvm.Cond.soleField "IslandRights$Ticket" "seats") ∈ zw_A := zw_t (i := 339) (by decide +kernel) (by decide +kernel)
theorem zk_340 : (Jvm.Cond.laysFinal "IslandRights$Ticket" "IslandRights$Ticket" "journey" "LIslandRights$Journey;") ∈ zw_A := zw_t (i := 340) (by decide +kernel) (by decide +kernel)
theorem zk_341 : (Jvm.Cond.soleField "IslandRights$Ticket" "journey") ∈ zw_A := zw_t (i := 341) (by decide +kernel) (by decide +kernel)
theorem zk_342 : (Jvm.Cond.laysFinal "IslandRights$Ticket" "IslandRights$Ticket" "cost" "J") ∈ zw_A := zw_t (i := 342) (by decide +kernel) (by decide +kernel)
theorem zk_343 : (Jvm.Cond.soleField "IslandRights$Ticket" "cost") ∈ zw_A := zw_t (i := 343) (by decide +kernel) (by decide +kernel)
theorem zk_344 : (Jvm.Cond.lays "IslandRights$Ticket" "IslandRights$Ticket" "cancelled" "Z") ∈ zw_A := zw_t (i := 344) (by decide +kernel) (by decide +kernel)
theorem zk_345 : (Jvm.Cond.soleField "IslandRights$Ticket" "cancelled") ∈ zw_A := zw_t (i := 345) (by decide +kernel) (by decide +kernel)
theorem zk_346 : (Jvm.Cond.superclass "IslandRights$Ticket" "java/lang/Object") ∈ zw_A := zw_t (i := 346) (by decide +kernel) (by decide +kernel)
theorem zk_347 : (Jvm.Cond.methodLink "IslandRightsLaw" (108 : Nat) ({ cls := "IslandRightsLaw", name := "wish", desc := "(LIslandRights;II[J)I" } : Jvm.MethodName)) ∈ zw_A := zw_t (i := 347) (by decide +kernel) (by decide +kernel)
theorem zk_348 : (Jvm.Cond.static ({ cls := "IslandRightsLaw", name := "wish", desc := "(LIslandRights;II[J)I" } : Jvm.MethodName)) ∈ zw_A := zw_t (i := 348) (by decide +kernel) (by decide +kernel)
theorem zk_350 : (Jvm.Cond.methodLink "IslandRightsLaw" (31 : Nat) ({ cls := "IslandRights", name := "wish", desc := "(II)I" } : Jvm.MethodName)) ∈ zw_A := zw_t (i := 350) (by decide +kernel) (by decide +kernel)
theorem zk_351 : (Jvm.Cond.instanceMethod ({ cls := "IslandRights", name := "wish", desc := "(II)I" } : Jvm.MethodName)) ∈ zw_A := zw_t (i := 351) (by decide +kernel) (by decide +kernel)
theorem zk_352 : (Jvm.Cond.selects "IslandRights" ({ cls := "IslandRights", name := "wish", desc := "(II)I" } : Jvm.MethodName) ({ cls := "IslandRights", name := "wish", desc := "(II)I" } : Jvm.MethodName)) ∈ zw_A := zw_t (i := 352) (by decide +kernel) (by decide +kernel)
theorem zk_353 : (Jvm.Cond.code ({ cls := "IslandRights", name := "wish", desc := "(II)I" } : Jvm.MethodName) prog_1_method_6_code (3 : Nat) (Option.some Jvm.ClassFile.FieldType.int)) ∈ zw_A := zw_t (i := 353) (by decide +kernel) (by decide +kernel)
theorem zk_355 : (Jvm.Cond.methodLink "IslandRights" (125 : Nat) ({ cls := "IslandRights$Port", name := "addWish", desc := "(LIslandRights$Journey;I)V" } : Jvm.MethodName)) ∈ zw_A := zw_t (i := 355) (by decide +kernel) (by decide +kernel)
theorem zk_356 : (Jvm.Cond.instanceMethod ({ cls := "IslandRights$Port", name := "addWish", desc := "(LIslandRights$Journey;I)V" } : Jvm.MethodName)) ∈ zw_A := zw_t (i := 356) (by decide +kernel) (by decide +kernel)
theorem zk_357 : (Jvm.Cond.selects "IslandRights$Port" ({ cls := "IslandRights$Port", name := "addWish", desc := "(LIslandRights$Journey;I)V" } : Jvm.MethodName) ({ cls := "IslandRights$Port", name := "addWish", desc := "(LIslandRights$Journey;I)V" } : Jvm.MethodName)) ∈ zw_A := zw_t (i := 357) (by decide +kernel) (by decide +kernel)
theorem zk_358 : (Jvm.Cond.code ({ cls := "IslandRights$Port", name := "addWish", desc := "(LIslandRights$Journey;I)V" } : Jvm.MethodName) prog_4_method_3_code (3 : Nat) (Option.none : Option Jvm.ClassFile.FieldType)) ∈ zw_A := zw_t (i := 358) (by decide +kernel) (by decide +kernel)
theorem zk_359 : (Jvm.Cond.instantiable "IslandRights$Wish" (2 : Nat)) ∈ zw_A := zw_t (i := 359) (by decide +kernel) (by decide +kernel)
theorem zk_360 : (Jvm.Cond.methodLink "IslandRights$Port" (34 : Nat) ({ cls := "IslandRights$Wish", name := "<init>", desc := "(LIslandRights$Journey;I)V" } : Jvm.MethodName)) ∈ zw_A := zw_t (i := 360) (by decide +kernel) (by decide +kernel)
theorem zk_361 : (Jvm.Cond.instanceMethod ({ cls := "IslandRights$Wish", name := "<init>", desc := "(LIslandRights$Journey;I)V" } : Jvm.MethodName)) ∈ zw_A := zw_t (i := 361) (by decide +kernel) (by decide +kernel)
theorem zk_362 : (Jvm.Cond.code ({ cls := "IslandRights$Wish", name := "<init>", desc := "(LIslandRights$Journey;I)V" } : Jvm.MethodName) prog_6_method_1_code (3 : Nat) (Option.none : Option Jvm.ClassFile.FieldType)) ∈ zw_A := zw_t (i := 362) (by decide +kernel) (by decide +kernel)
theorem zk_363 : (Jvm.Cond.methodLink "IslandRights$Wish" (1 : Nat) ({ cls := "java/lang/Object", name := "<init>", desc := "()V" } : Jvm.MethodName)) ∈ zw_A := zw_t (i := 363) (by decide +kernel) (by decide +kernel)
theorem zk_364 : (Jvm.Cond.fieldLink "IslandRights$Wish" (7 : Nat) "IslandRights$Wish" "journey" "LIslandRights$Journey;") ∈ zw_A := zw_t (i := 364) (by decide +kernel) (by decide +kernel)
theorem zk_365 : (Jvm.Cond.fieldLink "IslandRights" (242 : Nat) "IslandRights$Wish" "journey" "LIslandRights$Journey;") ∈ zw_A := zw_t (i := 365) (by decide +kernel) (by decide +kernel)
theorem zk_366 : (Jvm.Cond.fieldLink "IslandRights$Wish" (13 : Nat) "IslandRights$Wish" "seats" "I") ∈ zw_A := zw_t (i := 366) (by decide +kernel) (by decide +kernel)
theorem zk_367 : (Jvm.Cond.fieldLink "IslandRights" (245 : Nat) "IslandRights$Wish" "seats" "I") ∈ zw_A := zw_t (i := 367) (by decide +kernel) (by decide +kernel)
theorem zk_368 : (Jvm.Cond.laysFinal "IslandRights$Wish" "IslandRights$Wish" "journey" "LIslandRights$Journey;") ∈ zw_A := zw_t (i := 368) (by decide +kernel) (by decide +kernel)
theorem zk_369 : (Jvm.Cond.soleField "IslandRights$Wish" "journey") ∈ zw_A := zw_t (i := 369) (by decide +kernel) (by decide +kernel)
theorem zk_370 : (Jvm.Cond.laysFinal "IslandRights$Wish" "IslandRights$Wish" "seats" "I") ∈ zw_A := zw_t (i := 370) (by decide +kernel) (by decide +kernel)
theorem zk_371 : (Jvm.Cond.soleField "IslandRights$Wish" "seats") ∈ zw_A := zw_t (i := 371) (by decide +kernel) (by decide +kernel)
theorem zk_372 : (Jvm.Cond.superclass "IslandRights$Wish" "java/lang/Object") ∈ zw_A := zw_t (i := 372) (by decide +kernel) (by decide +kernel)
theorem zk_373 : (Jvm.Cond.methodLink "IslandRights" (129 : Nat) ({ cls := "IslandRights", name := "serve", desc := "(I)I" } : Jvm.MethodName)) ∈ zw_A := zw_t (i := 373) (by decide +kernel) (by decide +kernel)
theorem zk_375 : (Jvm.Cond.instanceMethod ({ cls := "IslandRights", name := "serve", desc := "(I)I" } : Jvm.MethodName)) ∈ zw_A := zw_t (i := 375) (by decide +kernel) (by decide +kernel)
theorem zk_376 : (Jvm.Cond.code ({ cls := "IslandRights", name := "serve", desc := "(I)I" } : Jvm.MethodName) prog_1_method_37_code (7 : Nat) (Option.some Jvm.ClassFile.FieldType.int)) ∈ zw_A := zw_t (i := 376) (by decide +kernel) (by decide +kernel)
theorem zk_377 : (Jvm.Cond.methodLink "IslandRightsLaw" (111 : Nat) ({ cls := "IslandRightsLaw", name := "cancel", desc := "(LIslandRights;I[J)I" } : Jvm.MethodName)) ∈ zw_A := zw_t (i := 377) (by decide +kernel) (by decide +kernel)
theorem zk_378 : (Jvm.Cond.static ({ cls := "IslandRightsLaw", name := "cancel", desc := "(LIslandRights;I[J)I" } : Jvm.MethodName)) ∈ zw_A := zw_t (i := 378) (by decide +kernel) (by decide +kernel)
theorem zk_380 : (Jvm.Cond.methodLink "IslandRightsLaw" (34 : Nat) ({ cls := "IslandRights", name := "cancel", desc := "(I)I" } : Jvm.MethodName)) ∈ zw_A := zw_t (i := 380) (by decide +kernel) (by decide +kernel)
theorem zk_381 : (Jvm.Cond.instanceMethod ({ cls := "IslandRights", name := "cancel", desc := "(I)I" } : Jvm.MethodName)) ∈ zw_A := zw_t (i := 381) (by decide +kernel) (by decide +kernel)
theorem zk_382 : (Jvm.Cond.selects "IslandRights" ({ cls := "IslandRights", name := "cancel", desc := "(I)I" } : Jvm.MethodName) ({ cls := "IslandRights", name := "cancel", desc := "(I)I" } : Jvm.MethodName)) ∈ zw_A := zw_t (i := 382) (by decide +kernel) (by decide +kernel)
theorem zk_383 : (Jvm.Cond.code ({ cls := "IslandRights", name := "cancel", desc := "(I)I" } : Jvm.MethodName) prog_1_method_7_code (3 : Nat) (Option.some Jvm.ClassFile.FieldType.int)) ∈ zw_A := zw_t (i := 383) (by decide +kernel) (by decide +kernel)
theorem zk_384 : (Jvm.Cond.methodLink "IslandRights" (133 : Nat) ({ cls := "IslandRights", name := "checkTicket", desc := "(I)V" } : Jvm.MethodName)) ∈ zw_A := zw_t (i := 384) (by decide +kernel) (by decide +kernel)
theorem zk_386 : (Jvm.Cond.instanceMethod ({ cls := "IslandRights", name := "checkTicket", desc := "(I)V" } : Jvm.MethodName)) ∈ zw_A := zw_t (i := 386) (by decide +kernel) (by decide +kernel)
theorem zk_387 : (Jvm.Cond.code ({ cls := "IslandRights", name := "checkTicket", desc := "(I)V" } : Jvm.MethodName) prog_1_method_26_code (2 : Nat) (Option.none : Option Jvm.ClassFile.FieldType)) ∈ zw_A := zw_t (i := 387) (by decide +kernel) (by decide +kernel)
theorem zk_390 : (Jvm.Cond.methodLink "IslandRightsLaw" (115 : Nat) ({ cls := "IslandRightsLaw", name := "ticket", desc := "(LIslandRights;II[J)I" } : Jvm.MethodName)) ∈ zw_A := zw_t (i := 390) (by decide +kernel) (by decide +kernel)
theorem zk_391 : (Jvm.Cond.static ({ cls := "IslandRightsLaw", name := "ticket", desc := "(LIslandRights;II[J)I" } : Jvm.MethodName)) ∈ zw_A := zw_t (i := 391) (by decide +kernel) (by decide +kernel)
theorem zk_393 : (Jvm.Cond.methodLink "IslandRightsLaw" (38 : Nat) ({ cls := "IslandRights", name := "ticket", desc := "(II)I" } : Jvm.MethodName)) ∈ zw_A := zw_t (i := 393) (by decide +kernel) (by decide +kernel)
theorem zk_394 : (Jvm.Cond.instanceMethod ({ cls := "IslandRights", name := "ticket", desc := "(II)I" } : Jvm.MethodName)) ∈ zw_A := zw_t (i := 394) (by decide +kernel) (by decide +kernel)
theorem zk_395 : (Jvm.Cond.selects "IslandRights" ({ cls := "IslandRights", name := "ticket", desc := "(II)I" } : Jvm.MethodName) ({ cls := "IslandRights", name := "ticket", desc := "(II)I" } : Jvm.MethodName)) ∈ zw_A := zw_t (i := 395) (by decide +kernel) (by decide +kernel)
theorem zk_396 : (Jvm.Cond.code ({ cls := "IslandRights", name := "ticket", desc := "(II)I" } : Jvm.MethodName) prog_1_method_8_code (4 : Nat) (Option.some Jvm.ClassFile.FieldType.int)) ∈ zw_A := zw_t (i := 396) (by decide +kernel) (by decide +kernel)
theorem zk_398 : (Jvm.Cond.methodLink "IslandRightsLaw" (118 : Nat) ({ cls := "IslandRightsLaw", name := "price", desc := "(LIslandRights;I[J)I" } : Jvm.MethodName)) ∈ zw_A := zw_t (i := 398) (by decide +kernel) (by decide +kernel)
theorem zk_399 : (Jvm.Cond.static ({ cls := "IslandRightsLaw", name := "price", desc := "(LIslandRights;I[J)I" } : Jvm.MethodName)) ∈ zw_A := zw_t (i := 399) (by decide +kernel) (by decide +kernel)
theorem zk_401 : (Jvm.Cond.methodLink "IslandRightsLaw" (41 : Nat) ({ cls := "IslandRights", name := "price", desc := "(I)J" } : Jvm.MethodName)) ∈ zw_A := zw_t (i := 401) (by decide +kernel) (by decide +kernel)
theorem zk_402 : (Jvm.Cond.instanceMethod ({ cls := "IslandRights", name := "price", desc := "(I)J" } : Jvm.MethodName)) ∈ zw_A := zw_t (i := 402) (by decide +kernel) (by decide +kernel)
theorem zk_403 : (Jvm.Cond.selects "IslandRights" ({ cls := "IslandRights", name := "price", desc := "(I)J" } : Jvm.MethodName) ({ cls := "IslandRights", name := "price", desc := "(I)J" } : Jvm.MethodName)) ∈ zw_A := zw_t (i := 403) (by decide +kernel) (by decide +kernel)
theorem zk_404 : (Jvm.Cond.code ({ cls := "IslandRights", name := "price", desc := "(I)J" } : Jvm.MethodName) prog_1_method_9_code (2 : Nat) (Option.some Jvm.ClassFile.FieldType.long)) ∈ zw_A := zw_t (i := 404) (by decide +kernel) (by decide +kernel)
theorem zk_405 : (Jvm.Cond.methodLink "IslandRightsLaw" (121 : Nat) ({ cls := "IslandRightsLaw", name := "hand", desc := "(LIslandRights;IIIII[J)I" } : Jvm.MethodName)) ∈ zw_A := zw_t (i := 405) (by decide +kernel) (by decide +kernel)
theorem zk_406 : (Jvm.Cond.static ({ cls := "IslandRightsLaw", name := "hand", desc := "(LIslandRights;IIIII[J)I" } : Jvm.MethodName)) ∈ zw_A := zw_t (i := 406) (by decide +kernel) (by decide +kernel)
theorem zk_408 : (Jvm.Cond.methodLink "IslandRightsLaw" (45 : Nat) ({ cls := "IslandRights", name := "hand", desc := "(IIIII)I" } : Jvm.MethodName)) ∈ zw_A := zw_t (i := 408) (by decide +kernel) (by decide +kernel)
theorem zk_409 : (Jvm.Cond.instanceMethod ({ cls := "IslandRights", name := "hand", desc := "(IIIII)I" } : Jvm.MethodName)) ∈ zw_A := zw_t (i := 409) (by decide +kernel) (by decide +kernel)
theorem zk_410 : (Jvm.Cond.selects "IslandRights" ({ cls := "IslandRights", name := "hand", desc := "(IIIII)I" } : Jvm.MethodName) ({ cls := "IslandRights", name := "hand", desc := "(IIIII)I" } : Jvm.MethodName)) ∈ zw_A := zw_t (i := 410) (by decide +kernel) (by decide +kernel)
theorem zk_411 : (Jvm.Cond.code ({ cls := "IslandRights", name := "hand", desc := "(IIIII)I" } : Jvm.MethodName) prog_1_method_10_code (7 : Nat) (Option.some Jvm.ClassFile.FieldType.int)) ∈ zw_A := zw_t (i := 411) (by decide +kernel) (by decide +kernel)
theorem zk_412 : (Jvm.Cond.methodLink "IslandRights" (164 : Nat) ({ cls := "IslandRights", name := "checkDifferent", desc := "(II)V" } : Jvm.MethodName)) ∈ zw_A := zw_t (i := 412) (by decide +kernel) (by decide +kernel)
theorem zk_413 : (Jvm.Cond.static ({ cls := "IslandRights", name := "checkDifferent", desc := "(II)V" } : Jvm.MethodName)) ∈ zw_A := zw_t (i := 413) (by decide +kernel) (by decide +kernel)
theorem zk_414 : (Jvm.Cond.code ({ cls := "IslandRights", name := "checkDifferent", desc := "(II)V" } : Jvm.MethodName) prog_1_method_28_code (2 : Nat) (Option.none : Option Jvm.ClassFile.FieldType)) ∈ zw_A := zw_t (i := 414) (by decide +kernel) (by decide +kernel)
theorem zk_416 : (Jvm.Cond.methodLink "IslandRights" (168 : Nat) ({ cls := "IslandRights", name := "laneOf", desc := "(II)LIslandRights$Lane;" } : Jvm.MethodName)) ∈ zw_A := zw_t (i := 416) (by decide +kernel) (by decide +kernel)
theorem zk_418 : (Jvm.Cond.instanceMethod ({ cls := "IslandRights", name := "laneOf", desc := "(II)LIslandRights$Lane;" } : Jvm.MethodName)) ∈ zw_A := zw_t (i := 418) (by decide +kernel) (by decide +kernel)
theorem zk_419 : (Jvm.Cond.code ({ cls := "IslandRights", name := "laneOf", desc := "(II)LIslandRights$Lane;" } : Jvm.MethodName) prog_1_method_32_code (3 : Nat) (Option.some (Jvm.ClassFile.FieldType.object "IslandRights$Lane"))) ∈ zw_A := zw_t (i := 419) (by decide +kernel) (by decide +kernel)
theorem zk_420 : (Jvm.Cond.methodLink "IslandRights" (172 : Nat) ({ cls := "IslandRights$Lane", name := "isFull", desc := "()Z" } : Jvm.MethodName)) ∈ zw_A := zw_t (i := 420) (by decide +kernel) (by decide +kernel)
theorem zk_421 : (Jvm.Cond.instanceMethod ({ cls := "IslandRights$Lane", name := "isFull", desc := "()Z" } : Jvm.MethodName)) ∈ zw_A := zw_t (i := 421) (by decide +kernel) (by decide +kernel)
theorem zk_422 : (Jvm.Cond.selects "IslandRights$Lane" ({ cls := "IslandRights$Lane", name := "isFull", desc := "()Z" } : Jvm.MethodName) ({ cls := "IslandRights$Lane", name := "isFull", desc := "()Z" } : Jvm.MethodName)) ∈ zw_A := zw_t (i := 422) (by decide +kernel) (by decide +kernel)
end
section
theorem zk_423 : (Jvm.Cond.code ({ cls := "IslandRights$Lane", name := "isFull", desc := "()Z" } : Jvm.MethodName) prog_3_method_3_code (1 : Nat) (Option.some Jvm.ClassFile.FieldType.boolean)) ∈ zw_A := zw_t (i := 423) (by decide +kernel) (by decide +kernel)
theorem zk_425 : (Jvm.Cond.methodLink "IslandRights" (178 : Nat) ({ cls := "IslandRights", name := "putInOutbox", desc := "(IIII)I" } : Jvm.MethodName)) ∈ zw_A := zw_t (i := 425) (by decide +kernel) (by decide +kernel)
theorem zk_427 : (Jvm.Cond.instanceMethod ({ cls := "IslandRights", name := "putInOutbox", desc := "(IIII)I" } : Jvm.MethodName)) ∈ zw_A := zw_t (i := 427) (by decide +kernel) (by decide +kernel)
theorem zk_428 : (Jvm.Cond.code ({ cls := "IslandRights", name := "putInOutbox", desc := "(IIII)I" } : Jvm.MethodName) prog_1_method_38_code (5 : Nat) (Option.some Jvm.ClassFile.FieldType.int)) ∈ zw_A := zw_t (i := 428) (by decide +kernel) (by decide +kernel)
theorem zk_429 : (Jvm.Cond.methodLink "IslandRights" (246 : Nat) ({ cls := "IslandRights$Lane", name := "add", desc := "(II)I" } : Jvm.MethodName)) ∈ zw_A := zw_t (i := 429) (by decide +kernel) (by decide +kernel)
theorem zk_430 : (Jvm.Cond.instanceMethod ({ cls := "IslandRights$Lane", name := "add", desc := "(II)I" } : Jvm.MethodName)) ∈ zw_A := zw_t (i := 430) (by decide +kernel) (by decide +kernel)
theorem zk_431 : (Jvm.Cond.selects "IslandRights$Lane" ({ cls := "IslandRights$Lane", name := "add", desc := "(II)I" } : Jvm.MethodName) ({ cls := "IslandRights$Lane", name := "add", desc := "(II)I" } : Jvm.MethodName)) ∈ zw_A := zw_t (i := 431) (by decide +kernel) (by decide +kernel)
theorem zk_432 : (Jvm.Cond.code ({ cls := "IslandRights$Lane", name := "add", desc := "(II)I" } : Jvm.MethodName) prog_3_method_4_code (4 : Nat) (Option.some Jvm.ClassFile.FieldType.int)) ∈ zw_A := zw_t (i := 432) (by decide +kernel) (by decide +kernel)
theorem zk_433 : (Jvm.Cond.methodLink "IslandRights$Lane" (40 : Nat) ({ cls := "IslandRights$Lane", name := "cellOf", desc := "(I)I" } : Jvm.MethodName)) ∈ zw_A := zw_t (i := 433) (by decide +kernel) (by decide +kernel)
theorem zk_434 : (Jvm.Cond.static ({ cls := "IslandRights$Lane", name := "cellOf", desc := "(I)I" } : Jvm.MethodName)) ∈ zw_A := zw_t (i := 434) (by decide +kernel) (by decide +kernel)
theorem zk_435 : (Jvm.Cond.code ({ cls := "IslandRights$Lane", name := "cellOf", desc := "(I)I" } : Jvm.MethodName) prog_3_method_2_code (1 : Nat) (Option.some Jvm.ClassFile.FieldType.int)) ∈ zw_A := zw_t (i := 435) (by decide +kernel) (by decide +kernel)
theorem zk_436 : (Jvm.Cond.methodLink "IslandRights$Lane" (34 : Nat) ({ cls := "java/lang/Math", name := "floorMod", desc := "(II)I" } : Jvm.MethodName)) ∈ zw_A := zw_t (i := 436) (by decide +kernel) (by decide +kernel)
theorem zk_438 : (Jvm.Cond.code ({ cls := "java/lang/Math", name := "floorMod", desc := "(II)I" } : Jvm.MethodName) prog_13_method_50_code (3 : Nat) (Option.some Jvm.ClassFile.FieldType.int)) ∈ zw_A := zw_t (i := 438) (by decide +kernel) (by decide +kernel)
theorem zk_439 : (Jvm.Cond.methodLink "IslandRightsLaw" (125 : Nat) ({ cls := "IslandRightsLaw", name := "share", desc := "(LIslandRights;III[J)I" } : Jvm.MethodName)) ∈ zw_A := zw_t (i := 439) (by decide +kernel) (by decide +kernel)
theorem zk_440 : (Jvm.Cond.static ({ cls := "IslandRightsLaw", name := "share", desc := "(LIslandRights;III[J)I" } : Jvm.MethodName)) ∈ zw_A := zw_t (i := 440) (by decide +kernel) (by decide +kernel)
theorem zk_442 : (Jvm.Cond.methodLink "IslandRightsLaw" (49 : Nat) ({ cls := "IslandRights", name := "share", desc := "(III)I" } : Jvm.MethodName)) ∈ zw_A := zw_t (i := 442) (by decide +kernel) (by decide +kernel)
theorem zk_443 : (Jvm.Cond.instanceMethod ({ cls := "IslandRights", name := "share", desc := "(III)I" } : Jvm.MethodName)) ∈ zw_A := zw_t (i := 443) (by decide +kernel) (by decide +kernel)
theorem zk_444 : (Jvm.Cond.selects "IslandRights" ({ cls := "IslandRights", name := "share", desc := "(III)I" } : Jvm.MethodName) ({ cls := "IslandRights", name := "share", desc := "(III)I" } : Jvm.MethodName)) ∈ zw_A := zw_t (i := 444) (by decide +kernel) (by decide +kernel)
theorem zk_445 : (Jvm.Cond.code ({ cls := "IslandRights", name := "share", desc := "(III)I" } : Jvm.MethodName) prog_1_method_11_code (8 : Nat) (Option.some Jvm.ClassFile.FieldType.int)) ∈ zw_A := zw_t (i := 445) (by decide +kernel) (by decide +kernel)
theorem zk_446 : (Jvm.Cond.methodLink "IslandRightsLaw" (128 : Nat) ({ cls := "IslandRightsLaw", name := "send", desc := "(LIslandRights;II[J)I" } : Jvm.MethodName)) ∈ zw_A := zw_t (i := 446) (by decide +kernel) (by decide +kernel)
theorem zk_447 : (Jvm.Cond.static ({ cls := "IslandRightsLaw", name := "send", desc := "(LIslandRights;II[J)I" } : Jvm.MethodName)) ∈ zw_A := zw_t (i := 447) (by decide +kernel) (by decide +kernel)
theorem zk_449 : (Jvm.Cond.methodLink "IslandRightsLaw" (52 : Nat) ({ cls := "IslandRights", name := "send", desc := "(II)I" } : Jvm.MethodName)) ∈ zw_A := zw_t (i := 449) (by decide +kernel) (by decide +kernel)
theorem zk_450 : (Jvm.Cond.instanceMethod ({ cls := "IslandRights", name := "send", desc := "(II)I" } : Jvm.MethodName)) ∈ zw_A := zw_t (i := 450) (by decide +kernel) (by decide +kernel)
theorem zk_451 : (Jvm.Cond.selects "IslandRights" ({ cls := "IslandRights", name := "send", desc := "(II)I" } : Jvm.MethodName) ({ cls := "IslandRights", name := "send", desc := "(II)I" } : Jvm.MethodName)) ∈ zw_A := zw_t (i := 451) (by decide +kernel) (by decide +kernel)
theorem zk_452 : (Jvm.Cond.code ({ cls := "IslandRights", name := "send", desc := "(II)I" } : Jvm.MethodName) prog_1_method_12_code (4 : Nat) (Option.some Jvm.ClassFile.FieldType.int)) ∈ zw_A := zw_t (i := 452) (by decide +kernel) (by decide +kernel)
theorem zk_453 : (Jvm.Cond.methodLink "IslandRights" (182 : Nat) ({ cls := "IslandRights", name := "checkTwoPorts", desc := "(II)V" } : Jvm.MethodName)) ∈ zw_A := zw_t (i := 453) (by decide +kernel) (by decide +kernel)
theorem zk_454 : (Jvm.Cond.static ({ cls := "IslandRights", name := "checkTwoPorts", desc := "(II)V" } : Jvm.MethodName)) ∈ zw_A := zw_t (i := 454) (by decide +kernel) (by decide +kernel)
theorem zk_455 : (Jvm.Cond.code ({ cls := "IslandRights", name := "checkTwoPorts", desc := "(II)V" } : Jvm.MethodName) prog_1_method_27_code (2 : Nat) (Option.none : Option Jvm.ClassFile.FieldType)) ∈ zw_A := zw_t (i := 455) (by decide +kernel) (by decide +kernel)
theorem zk_456 : (Jvm.Cond.methodLink "IslandRightsLaw" (131 : Nat) ({ cls := "IslandRightsLaw", name := "arrive", desc := "(LIslandRights;II[J)I" } : Jvm.MethodName)) ∈ zw_A := zw_t (i := 456) (by decide +kernel) (by decide +kernel)
theorem zk_457 : (Jvm.Cond.static ({ cls := "IslandRightsLaw", name := "arrive", desc := "(LIslandRights;II[J)I" } : Jvm.MethodName)) ∈ zw_A := zw_t (i := 457) (by decide +kernel) (by decide +kernel)
theorem zk_459 : (Jvm.Cond.methodLink "IslandRightsLaw" (55 : Nat) ({ cls := "IslandRights", name := "arrive", desc := "(II)I" } : Jvm.MethodName)) ∈ zw_A := zw_t (i := 459) (by decide +kernel) (by decide +kernel)
theorem zk_460 : (Jvm.Cond.instanceMethod ({ cls := "IslandRights", name := "arrive", desc := "(II)I" } : Jvm.MethodName)) ∈ zw_A := zw_t (i := 460) (by decide +kernel) (by decide +kernel)
theorem zk_461 : (Jvm.Cond.selects "IslandRights" ({ cls := "IslandRights", name := "arrive", desc := "(II)I" } : Jvm.MethodName) ({ cls := "IslandRights", name := "arrive", desc := "(II)I" } : Jvm.MethodName)) ∈ zw_A := zw_t (i := 461) (by decide +kernel) (by decide +kernel)
theorem zk_462 : (Jvm.Cond.code ({ cls := "IslandRights", name := "arrive", desc := "(II)I" } : Jvm.MethodName) prog_1_method_13_code (6 : Nat) (Option.some Jvm.ClassFile.FieldType.int)) ∈ zw_A := zw_t (i := 462) (by decide +kernel) (by decide +kernel)
theorem zk_463 : (Jvm.Cond.methodLink "IslandRights" (195 : Nat) ({ cls := "IslandRights", name := "takeNext", desc := "(LIslandRights$Lane;I)I" } : Jvm.MethodName)) ∈ zw_A := zw_t (i := 463) (by decide +kernel) (by decide +kernel)
theorem zk_465 : (Jvm.Cond.instanceMethod ({ cls := "IslandRights", name := "takeNext", desc := "(LIslandRights$Lane;I)I" } : Jvm.MethodName)) ∈ zw_A := zw_t (i := 465) (by decide +kernel) (by decide +kernel)
theorem zk_466 : (Jvm.Cond.code ({ cls := "IslandRights", name := "takeNext", desc := "(LIslandRights$Lane;I)I" } : Jvm.MethodName) prog_1_method_39_code (6 : Nat) (Option.some Jvm.ClassFile.FieldType.int)) ∈ zw_A := zw_t (i := 466) (by decide +kernel) (by decide +kernel)
theorem zk_467 : (Jvm.Cond.methodLink "IslandRights" (249 : Nat) ({ cls := "IslandRights$Lane", name := "cellOf", desc := "(I)I" } : Jvm.MethodName)) ∈ zw_A := zw_t (i := 467) (by decide +kernel) (by decide +kernel)
theorem zk_468 : (Jvm.Cond.methodLink "IslandRightsLaw" (134 : Nat) ({ cls := "IslandRightsLaw", name := "receipt", desc := "(LIslandRights;II[J)I" } : Jvm.MethodName)) ∈ zw_A := zw_t (i := 468) (by decide +kernel) (by decide +kernel)
theorem zk_469 : (Jvm.Cond.static ({ cls := "IslandRightsLaw", name := "receipt", desc := "(LIslandRights;II[J)I" } : Jvm.MethodName)) ∈ zw_A := zw_t (i := 469) (by decide +kernel) (by decide +kernel)
theorem zk_471 : (Jvm.Cond.methodLink "IslandRightsLaw" (58 : Nat) ({ cls := "IslandRights", name := "receipt", desc := "(II)I" } : Jvm.MethodName)) ∈ zw_A := zw_t (i := 471) (by decide +kernel) (by decide +kernel)
theorem zk_472 : (Jvm.Cond.instanceMethod ({ cls := "IslandRights", name := "receipt", desc := "(II)I" } : Jvm.MethodName)) ∈ zw_A := zw_t (i := 472) (by decide +kernel) (by decide +kernel)
theorem zk_473 : (Jvm.Cond.selects "IslandRights" ({ cls := "IslandRights", name := "receipt", desc := "(II)I" } : Jvm.MethodName) ({ cls := "IslandRights", name := "receipt", desc := "(II)I" } : Jvm.MethodName)) ∈ zw_A := zw_t (i := 473) (by decide +kernel) (by decide +kernel)
theorem zk_474 : (Jvm.Cond.code ({ cls := "IslandRights", name := "receipt", desc := "(II)I" } : Jvm.MethodName) prog_1_method_14_code (5 : Nat) (Option.some Jvm.ClassFile.FieldType.int)) ∈ zw_A := zw_t (i := 474) (by decide +kernel) (by decide +kernel)
theorem zk_475 : (Jvm.Cond.methodLink "IslandRights" (202 : Nat) ({ cls := "IslandRights$Lane", name := "removeUpTo", desc := "(I)I" } : Jvm.MethodName)) ∈ zw_A := zw_t (i := 475) (by decide +kernel) (by decide +kernel)
theorem zk_476 : (Jvm.Cond.instanceMethod ({ cls := "IslandRights$Lane", name := "removeUpTo", desc := "(I)I" } : Jvm.MethodName)) ∈ zw_A := zw_t (i := 476) (by decide +kernel) (by decide +kernel)
theorem zk_477 : (Jvm.Cond.selects "IslandRights$Lane" ({ cls := "IslandRights$Lane", name := "removeUpTo", desc := "(I)I" } : Jvm.MethodName) ({ cls := "IslandRights$Lane", name := "removeUpTo", desc := "(I)I" } : Jvm.MethodName)) ∈ zw_A := zw_t (i := 477) (by decide +kernel) (by decide +kernel)
theorem zk_478 : (Jvm.Cond.code ({ cls := "IslandRights$Lane", name := "removeUpTo", desc := "(I)I" } : Jvm.MethodName) prog_3_method_5_code (3 : Nat) (Option.some Jvm.ClassFile.FieldType.int)) ∈ zw_A := zw_t (i := 478) (by decide +kernel) (by decide +kernel)
theorem zk_479 : (Jvm.Cond.methodLink "IslandRightsLaw" (137 : Nat) ({ cls := "IslandRightsLaw", name := "lose", desc := "(LIslandRights;II[J)I" } : Jvm.MethodName)) ∈ zw_A := zw_t (i := 479) (by decide +kernel) (by decide +kernel)
theorem zk_480 : (Jvm.Cond.static ({ cls := "IslandRightsLaw", name := "lose", desc := "(LIslandRights;II[J)I" } : Jvm.MethodName)) ∈ zw_A := zw_t (i := 480) (by decide +kernel) (by decide +kernel)
theorem zk_482 : (Jvm.Cond.methodLink "IslandRightsLaw" (61 : Nat) ({ cls := "IslandRights", name := "lose", desc := "(II)I" } : Jvm.MethodName)) ∈ zw_A := zw_t (i := 482) (by decide +kernel) (by decide +kernel)
theorem zk_483 : (Jvm.Cond.instanceMethod ({ cls := "IslandRights", name := "lose", desc := "(II)I" } : Jvm.MethodName)) ∈ zw_A := zw_t (i := 483) (by decide +kernel) (by decide +kernel)
theorem zk_484 : (Jvm.Cond.selects "IslandRights" ({ cls := "IslandRights", name := "lose", desc := "(II)I" } : Jvm.MethodName) ({ cls := "IslandRights", name := "lose", desc := "(II)I" } : Jvm.MethodName)) ∈ zw_A := zw_t (i := 484) (by decide +kernel) (by decide +kernel)
theorem zk_485 : (Jvm.Cond.code ({ cls := "IslandRights", name := "lose", desc := "(II)I" } : Jvm.MethodName) prog_1_method_15_code (3 : Nat) (Option.some Jvm.ClassFile.FieldType.int)) ∈ zw_A := zw_t (i := 485) (by decide +kernel) (by decide +kernel)
theorem zk_486 : (Jvm.Cond.methodLink "IslandRights" (205 : Nat) ({ cls := "IslandRights$Lane", name := "loseAll", desc := "()I" } : Jvm.MethodName)) ∈ zw_A := zw_t (i := 486) (by decide +kernel) (by decide +kernel)
theorem zk_487 : (Jvm.Cond.instanceMethod ({ cls := "IslandRights$Lane", name := "loseAll", desc := "()I" } : Jvm.MethodName)) ∈ zw_A := zw_t (i := 487) (by decide +kernel) (by decide +kernel)
theorem zk_488 : (Jvm.Cond.selects "IslandRights$Lane" ({ cls := "IslandRights$Lane", name := "loseAll", desc := "()I" } : Jvm.MethodName) ({ cls := "IslandRights$Lane", name := "loseAll", desc := "()I" } : Jvm.MethodName)) ∈ zw_A := zw_t (i := 488) (by decide +kernel) (by decide +kernel)
theorem zk_489 : (Jvm.Cond.code ({ cls := "IslandRights$Lane", name := "loseAll", desc := "()I" } : Jvm.MethodName) prog_3_method_6_code (2 : Nat) (Option.some Jvm.ClassFile.FieldType.int)) ∈ zw_A := zw_t (i := 489) (by decide +kernel) (by decide +kernel)
theorem zk_490 : (Jvm.Cond.methodLink "IslandRightsLaw" (140 : Nat) ({ cls := "IslandRightsLaw", name := "crash", desc := "(LIslandRights;I[J)I" } : Jvm.MethodName)) ∈ zw_A := zw_t (i := 490) (by decide +kernel) (by decide +kernel)
theorem zk_491 : (Jvm.Cond.static ({ cls := "IslandRightsLaw", name := "crash", desc := "(LIslandRights;I[J)I" } : Jvm.MethodName)) ∈ zw_A := zw_t (i := 491) (by decide +kernel) (by decide +kernel)
theorem zk_493 : (Jvm.Cond.methodLink "IslandRightsLaw" (64 : Nat) ({ cls := "IslandRights", name := "crash", desc := "(I)I" } : Jvm.MethodName)) ∈ zw_A := zw_t (i := 493) (by decide +kernel) (by decide +kernel)
theorem zk_494 : (Jvm.Cond.instanceMethod ({ cls := "IslandRights", name := "crash", desc := "(I)I" } : Jvm.MethodName)) ∈ zw_A := zw_t (i := 494) (by decide +kernel) (by decide +kernel)
theorem zk_495 : (Jvm.Cond.selects "IslandRights" ({ cls := "IslandRights", name := "crash", desc := "(I)I" } : Jvm.MethodName) ({ cls := "IslandRights", name := "crash", desc := "(I)I" } : Jvm.MethodName)) ∈ zw_A := zw_t (i := 495) (by decide +kernel) (by decide +kernel)
theorem zk_496 : (Jvm.Cond.code ({ cls := "IslandRights", name := "crash", desc := "(I)I" } : Jvm.MethodName) prog_1_method_16_code (4 : Nat) (Option.some Jvm.ClassFile.FieldType.int)) ∈ zw_A := zw_t (i := 496) (by decide +kernel) (by decide +kernel)
theorem zk_497 : (Jvm.Cond.methodLink "IslandRightsLaw" (143 : Nat) ({ cls := "IslandRightsLaw", name := "rights", desc := "(LIslandRights;III[J)I" } : Jvm.MethodName)) ∈ zw_A := zw_t (i := 497) (by decide +kernel) (by decide +kernel)
theorem zk_498 : (Jvm.Cond.static ({ cls := "IslandRightsLaw", name := "rights", desc := "(LIslandRights;III[J)I" } : Jvm.MethodName)) ∈ zw_A := zw_t (i := 498) (by decide +kernel) (by decide +kernel)
theorem zk_500 : (Jvm.Cond.methodLink "IslandRightsLaw" (67 : Nat) ({ cls := "IslandRights", name := "rights", desc := "(III)I" } : Jvm.MethodName)) ∈ zw_A := zw_t (i := 500) (by decide +kernel) (by decide +kernel)
theorem zk_501 : (Jvm.Cond.instanceMethod ({ cls := "IslandRights", name := "rights", desc := "(III)I" } : Jvm.MethodName)) ∈ zw_A := zw_t (i := 501) (by decide +kernel) (by decide +kernel)
theorem zk_502 : (Jvm.Cond.selects "IslandRights" ({ cls := "IslandRights", name := "rights", desc := "(III)I" } : Jvm.MethodName) ({ cls := "IslandRights", name := "rights", desc := "(III)I" } : Jvm.MethodName)) ∈ zw_A := zw_t (i := 502) (by decide +kernel) (by decide +kernel)
theorem zk_503 : (Jvm.Cond.code ({ cls := "IslandRights", name := "rights", desc := "(III)I" } : Jvm.MethodName) prog_1_method_17_code (4 : Nat) (Option.some Jvm.ClassFile.FieldType.int)) ∈ zw_A := zw_t (i := 503) (by decide +kernel) (by decide +kernel)
theorem zk_504 : (Jvm.Cond.methodLink "IslandRightsLaw" (146 : Nat) ({ cls := "IslandRightsLaw", name := "air", desc := "(LIslandRights;II[J)I" } : Jvm.MethodName)) ∈ zw_A := zw_t (i := 504) (by decide +kernel) (by decide +kernel)
theorem zk_505 : (Jvm.Cond.static ({ cls := "IslandRightsLaw", name := "air", desc := "(LIslandRights;II[J)I" } : Jvm.MethodName)) ∈ zw_A := zw_t (i := 505) (by decide +kernel) (by decide +kernel)
theorem zk_507 : (Jvm.Cond.methodLink "IslandRightsLaw" (70 : Nat) ({ cls := "IslandRights", name := "air", desc := "(II)I" } : Jvm.MethodName)) ∈ zw_A := zw_t (i := 507) (by decide +kernel) (by decide +kernel)
theorem zk_508 : (Jvm.Cond.instanceMethod ({ cls := "IslandRights", name := "air", desc := "(II)I" } : Jvm.MethodName)) ∈ zw_A := zw_t (i := 508) (by decide +kernel) (by decide +kernel)
theorem zk_509 : (Jvm.Cond.selects "IslandRights" ({ cls := "IslandRights", name := "air", desc := "(II)I" } : Jvm.MethodName) ({ cls := "IslandRights", name := "air", desc := "(II)I" } : Jvm.MethodName)) ∈ zw_A := zw_t (i := 509) (by decide +kernel) (by decide +kernel)
theorem zk_510 : (Jvm.Cond.code ({ cls := "IslandRights", name := "air", desc := "(II)I" } : Jvm.MethodName) prog_1_method_18_code (3 : Nat) (Option.some Jvm.ClassFile.FieldType.int)) ∈ zw_A := zw_t (i := 510) (by decide +kernel) (by decide +kernel)
theorem zk_511 : (Jvm.Cond.methodLink "IslandRightsLaw" (149 : Nat) ({ cls := "IslandRightsLaw", name := "sold", desc := "(LIslandRights;II[J)I" } : Jvm.MethodName)) ∈ zw_A := zw_t (i := 511) (by decide +kernel) (by decide +kernel)
theorem zk_512 : (Jvm.Cond.static ({ cls := "IslandRightsLaw", name := "sold", desc := "(LIslandRights;II[J)I" } : Jvm.MethodName)) ∈ zw_A := zw_t (i := 512) (by decide +kernel) (by decide +kernel)
theorem zk_514 : (Jvm.Cond.methodLink "IslandRightsLaw" (73 : Nat) ({ cls := "IslandRights", name := "sold", desc := "(II)I" } : Jvm.MethodName)) ∈ zw_A := zw_t (i := 514) (by decide +kernel) (by decide +kernel)
theorem zk_515 : (Jvm.Cond.instanceMethod ({ cls := "IslandRights", name := "sold", desc := "(II)I" } : Jvm.MethodName)) ∈ zw_A := zw_t (i := 515) (by decide +kernel) (by decide +kernel)
theorem zk_516 : (Jvm.Cond.selects "IslandRights" ({ cls := "IslandRights", name := "sold", desc := "(II)I" } : Jvm.MethodName) ({ cls := "IslandRights", name := "sold", desc := "(II)I" } : Jvm.MethodName)) ∈ zw_A := zw_t (i := 516) (by decide +kernel) (by decide +kernel)
theorem zk_517 : (Jvm.Cond.code ({ cls := "IslandRights", name := "sold", desc := "(II)I" } : Jvm.MethodName) prog_1_method_19_code (3 : Nat) (Option.some Jvm.ClassFile.FieldType.int)) ∈ zw_A := zw_t (i := 517) (by decide +kernel) (by decide +kernel)
theorem zk_518 : (Jvm.Cond.methodLink "IslandRightsLaw" (152 : Nat) ({ cls := "IslandRightsLaw", name := "wishes", desc := "(LIslandRights;I[J)I" } : Jvm.MethodName)) ∈ zw_A := zw_t (i := 518) (by decide +kernel) (by decide +kernel)
theorem zk_519 : (Jvm.Cond.static ({ cls := "IslandRightsLaw", name := "wishes", desc := "(LIslandRights;I[J)I" } : Jvm.MethodName)) ∈ zw_A := zw_t (i := 519) (by decide +kernel) (by decide +kernel)
theorem zk_521 : (Jvm.Cond.methodLink "IslandRightsLaw" (76 : Nat) ({ cls := "IslandRights", name := "wishes", desc := "(I)I" } : Jvm.MethodName)) ∈ zw_A := zw_t (i := 521) (by decide +kernel) (by decide +kernel)
theorem zk_522 : (Jvm.Cond.instanceMethod ({ cls := "IslandRights", name := "wishes", desc := "(I)I" } : Jvm.MethodName)) ∈ zw_A := zw_t (i := 522) (by decide +kernel) (by decide +kernel)
theorem zk_523 : (Jvm.Cond.selects "IslandRights" ({ cls := "IslandRights", name := "wishes", desc := "(I)I" } : Jvm.MethodName) ({ cls := "IslandRights", name := "wishes", desc := "(I)I" } : Jvm.MethodName)) ∈ zw_A := zw_t (i := 523) (by decide +kernel) (by decide +kernel)
theorem zk_524 : (Jvm.Cond.code ({ cls := "IslandRights", name := "wishes", desc := "(I)I" } : Jvm.MethodName) prog_1_method_20_code (2 : Nat) (Option.some Jvm.ClassFile.FieldType.int)) ∈ zw_A := zw_t (i := 524) (by decide +kernel) (by decide +kernel)
theorem zk_525 : (Jvm.Cond.methodLink "IslandRightsLaw" (155 : Nat) ({ cls := "IslandRightsLaw", name := "till", desc := "(LIslandRights;I[J)I" } : Jvm.MethodName)) ∈ zw_A := zw_t (i := 525) (by decide +kernel) (by decide +kernel)
theorem zk_526 : (Jvm.Cond.static ({ cls := "IslandRightsLaw", name := "till", desc := "(LIslandRights;I[J)I" } : Jvm.MethodName)) ∈ zw_A := zw_t (i := 526) (by decide +kernel) (by decide +kernel)
theorem zk_528 : (Jvm.Cond.methodLink "IslandRightsLaw" (79 : Nat) ({ cls := "IslandRights", name := "till", desc := "(I)J" } : Jvm.MethodName)) ∈ zw_A := zw_t (i := 528) (by decide +kernel) (by decide +kernel)
theorem zk_529 : (Jvm.Cond.instanceMethod ({ cls := "IslandRights", name := "till", desc := "(I)J" } : Jvm.MethodName)) ∈ zw_A := zw_t (i := 529) (by decide +kernel) (by decide +kernel)
theorem zk_530 : (Jvm.Cond.selects "IslandRights" ({ cls := "IslandRights", name := "till", desc := "(I)J" } : Jvm.MethodName) ({ cls := "IslandRights", name := "till", desc := "(I)J" } : Jvm.MethodName)) ∈ zw_A := zw_t (i := 530) (by decide +kernel) (by decide +kernel)
theorem zk_531 : (Jvm.Cond.code ({ cls := "IslandRights", name := "till", desc := "(I)J" } : Jvm.MethodName) prog_1_method_21_code (2 : Nat) (Option.some Jvm.ClassFile.FieldType.long)) ∈ zw_A := zw_t (i := 531) (by decide +kernel) (by decide +kernel)
theorem zk_532 : (Jvm.Cond.classLink "IslandRightsLaw" (83 : Nat) "IslandRightsModel") ∈ zw_A := zw_t (i := 532) (by decide +kernel) (by decide +kernel)
theorem zk_533 : (Jvm.Cond.instantiable "IslandRightsModel" (28 : Nat)) ∈ zw_A := zw_t (i := 533) (by decide +kernel) (by decide +kernel)
theorem zk_534 : (Jvm.Cond.methodLink "IslandRightsLaw" (85 : Nat) ({ cls := "IslandRightsModel", name := "<init>", desc := "()V" } : Jvm.MethodName)) ∈ zw_A := zw_t (i := 534) (by decide +kernel) (by decide +kernel)
theorem zk_535 : (Jvm.Cond.instanceMethod ({ cls := "IslandRightsModel", name := "<init>", desc := "()V" } : Jvm.MethodName)) ∈ zw_A := zw_t (i := 535) (by decide +kernel) (by decide +kernel)
theorem zk_536 : (Jvm.Cond.code ({ cls := "IslandRightsModel", name := "<init>", desc := "()V" } : Jvm.MethodName) prog_8_method_1_code (2 : Nat) (Option.none : Option Jvm.ClassFile.FieldType)) ∈ zw_A := zw_t (i := 536) (by decide +kernel) (by decide +kernel)
theorem zk_537 : (Jvm.Cond.methodLink "IslandRightsModel" (1 : Nat) ({ cls := "java/lang/Object", name := "<init>", desc := "()V" } : Jvm.MethodName)) ∈ zw_A := zw_t (i := 537) (by decide +kernel) (by decide +kernel)
theorem zk_538 : (Jvm.Cond.fieldLink "IslandRightsModel" (87 : Nat) "IslandRightsModel" "fault" "I") ∈ zw_A := zw_t (i := 538) (by decide +kernel) (by decide +kernel)
theorem zk_539 : (Jvm.Cond.fieldLink "IslandRightsModel" (7 : Nat) "IslandRightsModel" "isOpen" "[Z") ∈ zw_A := zw_t (i := 539) (by decide +kernel) (by decide +kernel)
theorem zk_540 : (Jvm.Cond.fieldLink "IslandRightsModel" (13 : Nat) "IslandRightsModel" "fares" "[I") ∈ zw_A := zw_t (i := 540) (by decide +kernel) (by decide +kernel)
theorem zk_541 : (Jvm.Cond.fieldLink "IslandRightsModel" (17 : Nat) "IslandRightsModel" "right" "[I") ∈ zw_A := zw_t (i := 541) (by decide +kernel) (by decide +kernel)
theorem zk_542 : (Jvm.Cond.fieldLink "IslandRightsModel" (20 : Nat) "IslandRightsModel" "sailing" "[I") ∈ zw_A := zw_t (i := 542) (by decide +kernel) (by decide +kernel)
theorem zk_543 : (Jvm.Cond.fieldLink "IslandRightsModel" (23 : Nat) "IslandRightsModel" "from" "[I") ∈ zw_A := zw_t (i := 543) (by decide +kernel) (by decide +kernel)
theorem zk_544 : (Jvm.Cond.fieldLink "IslandRightsModel" (26 : Nat) "IslandRightsModel" "to" "[I") ∈ zw_A := zw_t (i := 544) (by decide +kernel) (by decide +kernel)
theorem zk_545 : (Jvm.Cond.fieldLink "IslandRightsModel" (99 : Nat) "IslandRightsModel" "drafted" "I") ∈ zw_A := zw_t (i := 545) (by decide +kernel) (by decide +kernel)
theorem zk_546 : (Jvm.Cond.fieldLink "IslandRightsModel" (110 : Nat) "IslandRightsModel" "tickets" "I") ∈ zw_A := zw_t (i := 546) (by decide +kernel) (by decide +kernel)
theorem zk_547 : (Jvm.Cond.fieldLink "IslandRightsModel" (29 : Nat) "IslandRightsModel" "portOf" "[I") ∈ zw_A := zw_t (i := 547) (by decide +kernel) (by decide +kernel)
theorem zk_548 : (Jvm.Cond.fieldLink "IslandRightsModel" (32 : Nat) "IslandRightsModel" "seatsOf" "[I") ∈ zw_A := zw_t (i := 548) (by decide +kernel) (by decide +kernel)
theorem zk_549 : (Jvm.Cond.fieldLink "IslandRightsModel" (35 : Nat) "IslandRightsModel" "partsOf" "[I") ∈ zw_A := zw_t (i := 549) (by decide +kernel) (by decide +kernel)
theorem zk_550 : (Jvm.Cond.fieldLink "IslandRightsModel" (38 : Nat) "IslandRightsModel" "priceOf" "[J") ∈ zw_A := zw_t (i := 550) (by decide +kernel) (by decide +kernel)
theorem zk_551 : (Jvm.Cond.fieldLink "IslandRightsModel" (42 : Nat) "IslandRightsModel" "isSold" "[Z") ∈ zw_A := zw_t (i := 551) (by decide +kernel) (by decide +kernel)
theorem zk_552 : (Jvm.Cond.fieldLink "IslandRightsModel" (45 : Nat) "IslandRightsModel" "tills" "[J") ∈ zw_A := zw_t (i := 552) (by decide +kernel) (by decide +kernel)
theorem zk_553 : (Jvm.Cond.fieldLink "IslandRightsModel" (48 : Nat) "IslandRightsModel" "waits" "[I") ∈ zw_A := zw_t (i := 553) (by decide +kernel) (by decide +kernel)
theorem zk_554 : (Jvm.Cond.fieldLink "IslandRightsModel" (51 : Nat) "IslandRightsModel" "wanted" "[I") ∈ zw_A := zw_t (i := 554) (by decide +kernel) (by decide +kernel)
theorem zk_555 : (Jvm.Cond.fieldLink "IslandRightsModel" (54 : Nat) "IslandRightsModel" "wantedParts" "[I") ∈ zw_A := zw_t (i := 555) (by decide +kernel) (by decide +kernel)
theorem zk_556 : (Jvm.Cond.fieldLink "IslandRightsModel" (57 : Nat) "IslandRightsModel" "numbers" "[I") ∈ zw_A := zw_t (i := 556) (by decide +kernel) (by decide +kernel)
theorem zk_557 : (Jvm.Cond.fieldLink "IslandRightsModel" (60 : Nat) "IslandRightsModel" "boxed" "[I") ∈ zw_A := zw_t (i := 557) (by decide +kernel) (by decide +kernel)
theorem zk_558 : (Jvm.Cond.fieldLink "IslandRightsModel" (63 : Nat) "IslandRightsModel" "word" "[I") ∈ zw_A := zw_t (i := 558) (by decide +kernel) (by decide +kernel)
theorem zk_559 : (Jvm.Cond.fieldLink "IslandRightsModel" (66 : Nat) "IslandRightsModel" "taken" "[I") ∈ zw_A := zw_t (i := 559) (by decide +kernel) (by decide +kernel)
theorem zk_560 : (Jvm.Cond.fieldLink "IslandRightsModel" (69 : Nat) "IslandRightsModel" "back" "[I") ∈ zw_A := zw_t (i := 560) (by decide +kernel) (by decide +kernel)
theorem zk_561 : (Jvm.Cond.fieldLink "IslandRightsModel" (72 : Nat) "IslandRightsModel" "number" "[I") ∈ zw_A := zw_t (i := 561) (by decide +kernel) (by decide +kernel)
theorem zk_562 : (Jvm.Cond.fieldLink "IslandRightsModel" (75 : Nat) "IslandRightsModel" "legOf" "[I") ∈ zw_A := zw_t (i := 562) (by decide +kernel) (by decide +kernel)
theorem zk_563 : (Jvm.Cond.fieldLink "IslandRightsModel" (78 : Nat) "IslandRightsModel" "many" "[I") ∈ zw_A := zw_t (i := 563) (by decide +kernel) (by decide +kernel)
theorem zk_564 : (Jvm.Cond.fieldLink "IslandRightsModel" (81 : Nat) "IslandRightsModel" "wordLeg" "[I") ∈ zw_A := zw_t (i := 564) (by decide +kernel) (by decide +kernel)
theorem zk_565 : (Jvm.Cond.fieldLink "IslandRightsModel" (84 : Nat) "IslandRightsModel" "wordMany" "[I") ∈ zw_A := zw_t (i := 565) (by decide +kernel) (by decide +kernel)
theorem zk_566 : (Jvm.Cond.lays "IslandRightsModel" "IslandRightsModel" "fault" "I") ∈ zw_A := zw_t (i := 566) (by decide +kernel) (by decide +kernel)
theorem zk_567 : (Jvm.Cond.soleField "IslandRightsModel" "fault") ∈ zw_A := zw_t (i := 567) (by decide +kernel) (by decide +kernel)
theorem zk_568 : (Jvm.Cond.laysFinal "IslandRightsModel" "IslandRightsModel" "isOpen" "[Z") ∈ zw_A := zw_t (i := 568) (by decide +kernel) (by decide +kernel)
theorem zk_569 : (Jvm.Cond.soleField "IslandRightsModel" "isOpen") ∈ zw_A := zw_t (i := 569) (by decide +kernel) (by decide +kernel)
theorem zk_570 : (Jvm.Cond.laysFinal "IslandRightsModel" "IslandRightsModel" "fares" "[I") ∈ zw_A := zw_t (i := 570) (by decide +kernel) (by decide +kernel)
theorem zk_571 : (Jvm.Cond.soleField "IslandRightsModel" "fares") ∈ zw_A := zw_t (i := 571) (by decide +kernel) (by decide +kernel)
theorem zk_572 : (Jvm.Cond.laysFinal "IslandRightsModel" "IslandRightsModel" "right" "[I") ∈ zw_A := zw_t (i := 572) (by decide +kernel) (by decide +kernel)
theorem zk_573 : (Jvm.Cond.soleField "IslandRightsModel" "right") ∈ zw_A := zw_t (i := 573) (by decide +kernel) (by decide +kernel)
theorem zk_574 : (Jvm.Cond.laysFinal "IslandRightsModel" "IslandRightsModel" "sailing" "[I") ∈ zw_A := zw_t (i := 574) (by decide +kernel) (by decide +kernel)
theorem zk_575 : (Jvm.Cond.soleField "IslandRightsModel" "sailing") ∈ zw_A := zw_t (i := 575) (by decide +kernel) (by decide +kernel)
theorem zk_576 : (Jvm.Cond.laysFinal "IslandRightsModel" "IslandRightsModel" "from" "[I") ∈ zw_A := zw_t (i := 576) (by decide +kernel) (by decide +kernel)
theorem zk_577 : (Jvm.Cond.soleField "IslandRightsModel" "from") ∈ zw_A := zw_t (i := 577) (by decide +kernel) (by decide +kernel)
theorem zk_578 : (Jvm.Cond.laysFinal "IslandRightsModel" "IslandRightsModel" "to" "[I") ∈ zw_A := zw_t (i := 578) (by decide +kernel) (by decide +kernel)
theorem zk_579 : (Jvm.Cond.soleField "IslandRightsModel" "to") ∈ zw_A := zw_t (i := 579) (by decide +kernel) (by decide +kernel)
theorem zk_580 : (Jvm.Cond.lays "IslandRightsModel" "IslandRightsModel" "drafted" "I") ∈ zw_A := zw_t (i := 580) (by decide +kernel) (by decide +kernel)
theorem zk_581 : (Jvm.Cond.soleField "IslandRightsModel" "drafted") ∈ zw_A := zw_t (i := 581) (by decide +kernel) (by decide +kernel)
theorem zk_582 : (Jvm.Cond.lays "IslandRightsModel" "IslandRightsModel" "tickets" "I") ∈ zw_A := zw_t (i := 582) (by decide +kernel) (by decide +kernel)
theorem zk_583 : (Jvm.Cond.soleField "IslandRightsModel" "tickets") ∈ zw_A := zw_t (i := 583) (by decide +kernel) (by decide +kernel)
theorem zk_584 : (Jvm.Cond.laysFinal "IslandRightsModel" "IslandRightsModel" "portOf" "[I") ∈ zw_A := zw_t (i := 584) (by decide +kernel) (by decide +kernel)
theorem zk_585 : (Jvm.Cond.soleField "IslandRightsModel" "portOf") ∈ zw_A := zw_t (i := 585) (by decide +kernel) (by decide +kernel)
theorem zk_586 : (Jvm.Cond.laysFinal "IslandRightsModel" "IslandRightsModel" "seatsOf" "[I") ∈ zw_A := zw_t (i := 586) (by decide +kernel) (by decide +kernel)
theorem zk_587 : (Jvm.Cond.soleField "IslandRightsModel" "seatsOf") ∈ zw_A := zw_t (i := 587) (by decide +kernel) (by decide +kernel)
theorem zk_588 : (Jvm.Cond.laysFinal "IslandRightsModel" "IslandRightsModel" "partsOf" "[I") ∈ zw_A := zw_t (i := 588) (by decide +kernel) (by decide +kernel)
theorem zk_589 : (Jvm.Cond.soleField "IslandRightsModel" "partsOf") ∈ zw_A := zw_t (i := 589) (by decide +kernel) (by decide +kernel)
theorem zk_590 : (Jvm.Cond.laysFinal "IslandRightsModel" "IslandRightsModel" "priceOf" "[J") ∈ zw_A := zw_t (i := 590) (by decide +kernel) (by decide +kernel)
theorem zk_591 : (Jvm.Cond.soleField "IslandRightsModel" "priceOf") ∈ zw_A := zw_t (i := 591) (by decide +kernel) (by decide +kernel)
theorem zk_592 : (Jvm.Cond.laysFinal "IslandRightsModel" "IslandRightsModel" "isSold" "[Z") ∈ zw_A := zw_t (i := 592) (by decide +kernel) (by decide +kernel)
theorem zk_593 : (Jvm.Cond.soleField "IslandRightsModel" "isSold") ∈ zw_A := zw_t (i := 593) (by decide +kernel) (by decide +kernel)
theorem zk_594 : (Jvm.Cond.laysFinal "IslandRightsModel" "IslandRightsModel" "tills" "[J") ∈ zw_A := zw_t (i := 594) (by decide +kernel) (by decide +kernel)
theorem zk_595 : (Jvm.Cond.soleField "IslandRightsModel" "tills") ∈ zw_A := zw_t (i := 595) (by decide +kernel) (by decide +kernel)
theorem zk_596 : (Jvm.Cond.laysFinal "IslandRightsModel" "IslandRightsModel" "waits" "[I") ∈ zw_A := zw_t (i := 596) (by decide +kernel) (by decide +kernel)
theorem zk_597 : (Jvm.Cond.soleField "IslandRightsModel" "waits") ∈ zw_A := zw_t (i := 597) (by decide +kernel) (by decide +kernel)
theorem zk_598 : (Jvm.Cond.laysFinal "IslandRightsModel" "IslandRightsModel" "wanted" "[I") ∈ zw_A := zw_t (i := 598) (by decide +kernel) (by decide +kernel)
theorem zk_599 : (Jvm.Cond.soleField "IslandRightsModel" "wanted") ∈ zw_A := zw_t (i := 599) (by decide +kernel) (by decide +kernel)
theorem zk_600 : (Jvm.Cond.laysFinal "IslandRightsModel" "IslandRightsModel" "wantedParts" "[I") ∈ zw_A := zw_t (i := 600) (by decide +kernel) (by decide +kernel)
theorem zk_601 : (Jvm.Cond.soleField "IslandRightsModel" "wantedParts") ∈ zw_A := zw_t (i := 601) (by decide +kernel) (by decide +kernel)
theorem zk_602 : (Jvm.Cond.laysFinal "IslandRightsModel" "IslandRightsModel" "numbers" "[I") ∈ zw_A := zw_t (i := 602) (by decide +kernel) (by decide +kernel)
theorem zk_603 : (Jvm.Cond.soleField "IslandRightsModel" "numbers") ∈ zw_A := zw_t (i := 603) (by decide +kernel) (by decide +kernel)
theorem zk_604 : (Jvm.Cond.laysFinal "IslandRightsModel" "IslandRightsModel" "boxed" "[I") ∈ zw_A := zw_t (i := 604) (by decide +kernel) (by decide +kernel)
theorem zk_605 : (Jvm.Cond.soleField "IslandRightsModel" "boxed") ∈ zw_A := zw_t (i := 605) (by decide +kernel) (by decide +kernel)
theorem zk_606 : (Jvm.Cond.laysFinal "IslandRightsModel" "IslandRightsModel" "word" "[I") ∈ zw_A := zw_t (i := 606) (by decide +kernel) (by decide +kernel)
theorem zk_607 : (Jvm.Cond.soleField "IslandRightsModel" "word") ∈ zw_A := zw_t (i := 607) (by decide +kernel) (by decide +kernel)
theorem zk_608 : (Jvm.Cond.laysFinal "IslandRightsModel" "IslandRightsModel" "taken" "[I") ∈ zw_A := zw_t (i := 608) (by decide +kernel) (by decide +kernel)
theorem zk_609 : (Jvm.Cond.soleField "IslandRightsModel" "taken") ∈ zw_A := zw_t (i := 609) (by decide +kernel) (by decide +kernel)
theorem zk_610 : (Jvm.Cond.laysFinal "IslandRightsModel" "IslandRightsModel" "back" "[I") ∈ zw_A := zw_t (i := 610) (by decide +kernel) (by decide +kernel)
theorem zk_611 : (Jvm.Cond.soleField "IslandRightsModel" "back") ∈ zw_A := zw_t (i := 611) (by decide +kernel) (by decide +kernel)
theorem zk_612 : (Jvm.Cond.laysFinal "IslandRightsModel" "IslandRightsModel" "number" "[I") ∈ zw_A := zw_t (i := 612) (by decide +kernel) (by decide +kernel)
theorem zk_613 : (Jvm.Cond.soleField "IslandRightsModel" "number") ∈ zw_A := zw_t (i := 613) (by decide +kernel) (by decide +kernel)
theorem zk_614 : (Jvm.Cond.laysFinal "IslandRightsModel" "IslandRightsModel" "legOf" "[I") ∈ zw_A := zw_t (i := 614) (by decide +kernel) (by decide +kernel)
theorem zk_615 : (Jvm.Cond.soleField "IslandRightsModel" "legOf") ∈ zw_A := zw_t (i := 615) (by decide +kernel) (by decide +kernel)
theorem zk_616 : (Jvm.Cond.laysFinal "IslandRightsModel" "IslandRightsModel" "many" "[I") ∈ zw_A := zw_t (i := 616) (by decide +kernel) (by decide +kernel)
theorem zk_617 : (Jvm.Cond.soleField "IslandRightsModel" "many") ∈ zw_A := zw_t (i := 617) (by decide +kernel) (by decide +kernel)
theorem zk_618 : (Jvm.Cond.laysFinal "IslandRightsModel" "IslandRightsModel" "wordLeg" "[I") ∈ zw_A := zw_t (i := 618) (by decide +kernel) (by decide +kernel)
theorem zk_619 : (Jvm.Cond.soleField "IslandRightsModel" "wordLeg") ∈ zw_A := zw_t (i := 619) (by decide +kernel) (by decide +kernel)
theorem zk_620 : (Jvm.Cond.laysFinal "IslandRightsModel" "IslandRightsModel" "wordMany" "[I") ∈ zw_A := zw_t (i := 620) (by decide +kernel) (by decide +kernel)
theorem zk_621 : (Jvm.Cond.soleField "IslandRightsModel" "wordMany") ∈ zw_A := zw_t (i := 621) (by decide +kernel) (by decide +kernel)
theorem zk_622 : (Jvm.Cond.superclass "IslandRightsModel" "java/lang/Object") ∈ zw_A := zw_t (i := 622) (by decide +kernel) (by decide +kernel)
theorem zk_623 : (Jvm.Cond.arrayClass Jvm.ClassFile.FieldType.long) ∈ zw_A := zw_t (i := 623) (by decide +kernel) (by decide +kernel)
theorem zk_624 : (Jvm.Cond.methodLink "IslandRightsLaw" (92 : Nat) ({ cls := "IslandRightsModel", name := "thrown", desc := "()I" } : Jvm.MethodName)) ∈ zw_A := zw_t (i := 624) (by decide +kernel) (by decide +kernel)
theorem zk_625 : (Jvm.Cond.instanceMethod ({ cls := "IslandRightsModel", name := "thrown", desc := "()I" } : Jvm.MethodName)) ∈ zw_A := zw_t (i := 625) (by decide +kernel) (by decide +kernel)
theorem zk_626 : (Jvm.Cond.selects "IslandRightsModel" ({ cls := "IslandRightsModel", name := "thrown", desc := "()I" } : Jvm.MethodName) ({ cls := "IslandRightsModel", name := "thrown", desc := "()I" } : Jvm.MethodName)) ∈ zw_A := zw_t (i := 626) (by decide +kernel) (by decide +kernel)
theorem zk_627 : (Jvm.Cond.code ({ cls := "IslandRightsModel", name := "thrown", desc := "()I" } : Jvm.MethodName) prog_8_method_2_code (1 : Nat) (Option.some Jvm.ClassFile.FieldType.int)) ∈ zw_A := zw_t (i := 627) (by decide +kernel) (by decide +kernel)
theorem zk_628 : (Jvm.Cond.methodLink "IslandRightsLaw" (91 : Nat) ({ cls := "IslandRightsModel", name := "open", desc := "(II)V" } : Jvm.MethodName)) ∈ zw_A := zw_t (i := 628) (by decide +kernel) (by decide +kernel)
theorem zk_629 : (Jvm.Cond.instanceMethod ({ cls := "IslandRightsModel", name := "open", desc := "(II)V" } : Jvm.MethodName)) ∈ zw_A := zw_t (i := 629) (by decide +kernel) (by decide +kernel)
theorem zk_630 : (Jvm.Cond.selects "IslandRightsModel" ({ cls := "IslandRightsModel", name := "open", desc := "(II)V" } : Jvm.MethodName) ({ cls := "IslandRightsModel", name := "open", desc := "(II)V" } : Jvm.MethodName)) ∈ zw_A := zw_t (i := 630) (by decide +kernel) (by decide +kernel)
theorem zk_631 : (Jvm.Cond.code ({ cls := "IslandRightsModel", name := "open", desc := "(II)V" } : Jvm.MethodName) prog_8_method_5_code (4 : Nat) (Option.none : Option Jvm.ClassFile.FieldType)) ∈ zw_A := zw_t (i := 631) (by decide +kernel) (by decide +kernel)
theorem zk_632 : (Jvm.Cond.methodLink "IslandRightsModel" (91 : Nat) ({ cls := "IslandRightsModel", name := "isFour", desc := "(I)Z" } : Jvm.MethodName)) ∈ zw_A := zw_t (i := 632) (by decide +kernel) (by decide +kernel)
theorem zk_633 : (Jvm.Cond.static ({ cls := "IslandRightsModel", name := "isFour", desc := "(I)Z" } : Jvm.MethodName)) ∈ zw_A := zw_t (i := 633) (by decide +kernel) (by decide +kernel)
theorem zk_634 : (Jvm.Cond.code ({ cls := "IslandRightsModel", name := "isFour", desc := "(I)Z" } : Jvm.MethodName) prog_8_method_4_code (1 : Nat) (Option.some Jvm.ClassFile.FieldType.boolean)) ∈ zw_A := zw_t (i := 634) (by decide +kernel) (by decide +kernel)
theorem zk_635 : (Jvm.Cond.methodLink "IslandRightsModel" (95 : Nat) ({ cls := "IslandRightsModel", name := "refused", desc := "(I)Z" } : Jvm.MethodName)) ∈ zw_A := zw_t (i := 635) (by decide +kernel) (by decide +kernel)
theorem zk_637 : (Jvm.Cond.instanceMethod ({ cls := "IslandRightsModel", name := "refused", desc := "(I)Z" } : Jvm.MethodName)) ∈ zw_A := zw_t (i := 637) (by decide +kernel) (by decide +kernel)
theorem zk_638 : (Jvm.Cond.code ({ cls := "IslandRightsModel", name := "refused", desc := "(I)Z" } : Jvm.MethodName) prog_8_method_3_code (2 : Nat) (Option.some Jvm.ClassFile.FieldType.boolean)) ∈ zw_A := zw_t (i := 638) (by decide +kernel) (by decide +kernel)
theorem zk_639 : (Jvm.Cond.methodLink "IslandRightsLaw" (99 : Nat) ({ cls := "IslandRightsModel", name := "fare", desc := "(III)V" } : Jvm.MethodName)) ∈ zw_A := zw_t (i := 639) (by decide +kernel) (by decide +kernel)
theorem zk_640 : (Jvm.Cond.instanceMethod ({ cls := "IslandRightsModel", name := "fare", desc := "(III)V" } : Jvm.MethodName)) ∈ zw_A := zw_t (i := 640) (by decide +kernel) (by decide +kernel)
theorem zk_641 : (Jvm.Cond.selects "IslandRightsModel" ({ cls := "IslandRightsModel", name := "fare", desc := "(III)V" } : Jvm.MethodName) ({ cls := "IslandRightsModel", name := "fare", desc := "(III)V" } : Jvm.MethodName)) ∈ zw_A := zw_t (i := 641) (by decide +kernel) (by decide +kernel)
theorem zk_642 : (Jvm.Cond.code ({ cls := "IslandRightsModel", name := "fare", desc := "(III)V" } : Jvm.MethodName) prog_8_method_6_code (4 : Nat) (Option.none : Option Jvm.ClassFile.FieldType)) ∈ zw_A := zw_t (i := 642) (by decide +kernel) (by decide +kernel)
theorem zk_643 : (Jvm.Cond.constant "IslandRightsModel" (98 : Nat) (1000000000 : Int32)) ∈ zw_A := zw_t (i := 643) (by decide +kernel) (by decide +kernel)
theorem zk_644 : (Jvm.Cond.methodLink "IslandRightsLaw" (103 : Nat) ({ cls := "IslandRightsModel", name := "part", desc := "(III)I" } : Jvm.MethodName)) ∈ zw_A := zw_t (i := 644) (by decide +kernel) (by decide +kernel)
theorem zk_645 : (Jvm.Cond.instanceMethod ({ cls := "IslandRightsModel", name := "part", desc := "(III)I" } : Jvm.MethodName)) ∈ zw_A := zw_t (i := 645) (by decide +kernel) (by decide +kernel)
theorem zk_646 : (Jvm.Cond.selects "IslandRightsModel" ({ cls := "IslandRightsModel", name := "part", desc := "(III)I" } : Jvm.MethodName) ({ cls := "IslandRightsModel", name := "part", desc := "(III)I" } : Jvm.MethodName)) ∈ zw_A := zw_t (i := 646) (by decide +kernel) (by decide +kernel)
theorem zk_647 : (Jvm.Cond.code ({ cls := "IslandRightsModel", name := "part", desc := "(III)I" } : Jvm.MethodName) prog_8_method_7_code (5 : Nat) (Option.some Jvm.ClassFile.FieldType.int)) ∈ zw_A := zw_t (i := 647) (by decide +kernel) (by decide +kernel)
theorem zk_648 : (Jvm.Cond.methodLink "IslandRightsLaw" (107 : Nat) ({ cls := "IslandRightsModel", name := "buy", desc := "(II)I" } : Jvm.MethodName)) ∈ zw_A := zw_t (i := 648) (by decide +kernel) (by decide +kernel)
theorem zk_649 : (Jvm.Cond.instanceMethod ({ cls := "IslandRightsModel", name := "buy", desc := "(II)I" } : Jvm.MethodName)) ∈ zw_A := zw_t (i := 649) (by decide +kernel) (by decide +kernel)
theorem zk_650 : (Jvm.Cond.selects "IslandRightsModel" ({ cls := "IslandRightsModel", name := "buy", desc := "(II)I" } : Jvm.MethodName) ({ cls := "IslandRightsModel", name := "buy", desc := "(II)I" } : Jvm.MethodName)) ∈ zw_A := zw_t (i := 650) (by decide +kernel) (by decide +kernel)
theorem zk_651 : (Jvm.Cond.code ({ cls := "IslandRightsModel", name := "buy", desc := "(II)I" } : Jvm.MethodName) prog_8_method_14_code (4 : Nat) (Option.some Jvm.ClassFile.FieldType.int)) ∈ zw_A := zw_t (i := 651) (by decide +kernel) (by decide +kernel)
theorem zk_652 : (Jvm.Cond.methodLink "IslandRightsModel" (117 : Nat) ({ cls := "IslandRightsModel", name := "fits", desc := "(IIII)Z" } : Jvm.MethodName)) ∈ zw_A := zw_t (i := 652) (by decide +kernel) (by decide +kernel)
theorem zk_654 : (Jvm.Cond.instanceMethod ({ cls := "IslandRightsModel", name := "fits", desc := "(IIII)Z" } : Jvm.MethodName)) ∈ zw_A := zw_t (i := 654) (by decide +kernel) (by decide +kernel)
theorem zk_655 : (Jvm.Cond.code ({ cls := "IslandRightsModel", name := "fits", desc := "(IIII)Z" } : Jvm.MethodName) prog_8_method_9_code (7 : Nat) (Option.some Jvm.ClassFile.FieldType.boolean)) ∈ zw_A := zw_t (i := 655) (by decide +kernel) (by decide +kernel)
theorem zk_656 : (Jvm.Cond.methodLink "IslandRightsModel" (102 : Nat) ({ cls := "IslandRightsModel", name := "lies", desc := "(III)I" } : Jvm.MethodName)) ∈ zw_A := zw_t (i := 656) (by decide +kernel) (by decide +kernel)
theorem zk_658 : (Jvm.Cond.instanceMethod ({ cls := "IslandRightsModel", name := "lies", desc := "(III)I" } : Jvm.MethodName)) ∈ zw_A := zw_t (i := 658) (by decide +kernel) (by decide +kernel)
theorem zk_659 : (Jvm.Cond.code ({ cls := "IslandRightsModel", name := "lies", desc := "(III)I" } : Jvm.MethodName) prog_8_method_8_code (6 : Nat) (Option.some Jvm.ClassFile.FieldType.int)) ∈ zw_A := zw_t (i := 659) (by decide +kernel) (by decide +kernel)
theorem zk_660 : (Jvm.Cond.methodLink "IslandRightsModel" (121 : Nat) ({ cls := "IslandRightsModel", name := "sell", desc := "(IIII)I" } : Jvm.MethodName)) ∈ zw_A := zw_t (i := 660) (by decide +kernel) (by decide +kernel)
theorem zk_662 : (Jvm.Cond.instanceMethod ({ cls := "IslandRightsModel", name := "sell", desc := "(IIII)I" } : Jvm.MethodName)) ∈ zw_A := zw_t (i := 662) (by decide +kernel) (by decide +kernel)
theorem zk_663 : (Jvm.Cond.code ({ cls := "IslandRightsModel", name := "sell", desc := "(IIII)I" } : Jvm.MethodName) prog_8_method_12_code (8 : Nat) (Option.some Jvm.ClassFile.FieldType.int)) ∈ zw_A := zw_t (i := 663) (by decide +kernel) (by decide +kernel)
theorem zk_664 : (Jvm.Cond.methodLink "IslandRightsModel" (106 : Nat) ({ cls := "IslandRightsModel", name := "give", desc := "(IIII)V" } : Jvm.MethodName)) ∈ zw_A := zw_t (i := 664) (by decide +kernel) (by decide +kernel)
theorem zk_666 : (Jvm.Cond.instanceMethod ({ cls := "IslandRightsModel", name := "give", desc := "(IIII)V" } : Jvm.MethodName)) ∈ zw_A := zw_t (i := 666) (by decide +kernel) (by decide +kernel)
theorem zk_667 : (Jvm.Cond.code ({ cls := "IslandRightsModel", name := "give", desc := "(IIII)V" } : Jvm.MethodName) prog_8_method_10_code (6 : Nat) (Option.none : Option Jvm.ClassFile.FieldType)) ∈ zw_A := zw_t (i := 667) (by decide +kernel) (by decide +kernel)
theorem zk_668 : (Jvm.Cond.methodLink "IslandRightsModel" (113 : Nat) ({ cls := "IslandRightsModel", name := "copy", desc := "(III)V" } : Jvm.MethodName)) ∈ zw_A := zw_t (i := 668) (by decide +kernel) (by decide +kernel)
theorem zk_670 : (Jvm.Cond.instanceMethod ({ cls := "IslandRightsModel", name := "copy", desc := "(III)V" } : Jvm.MethodName)) ∈ zw_A := zw_t (i := 670) (by decide +kernel) (by decide +kernel)
theorem zk_671 : (Jvm.Cond.code ({ cls := "IslandRightsModel", name := "copy", desc := "(III)V" } : Jvm.MethodName) prog_8_method_11_code (5 : Nat) (Option.none : Option Jvm.ClassFile.FieldType)) ∈ zw_A := zw_t (i := 671) (by decide +kernel) (by decide +kernel)
theorem zk_672 : (Jvm.Cond.methodLink "IslandRightsLaw" (110 : Nat) ({ cls := "IslandRightsModel", name := "wish", desc := "(II)I" } : Jvm.MethodName)) ∈ zw_A := zw_t (i := 672) (by decide +kernel) (by decide +kernel)
theorem zk_673 : (Jvm.Cond.instanceMethod ({ cls := "IslandRightsModel", name := "wish", desc := "(II)I" } : Jvm.MethodName)) ∈ zw_A := zw_t (i := 673) (by decide +kernel) (by decide +kernel)
theorem zk_674 : (Jvm.Cond.selects "IslandRightsModel" ({ cls := "IslandRightsModel", name := "wish", desc := "(II)I" } : Jvm.MethodName) ({ cls := "IslandRightsModel", name := "wish", desc := "(II)I" } : Jvm.MethodName)) ∈ zw_A := zw_t (i := 674) (by decide +kernel) (by decide +kernel)
theorem zk_675 : (Jvm.Cond.code ({ cls := "IslandRightsModel", name := "wish", desc := "(II)I" } : Jvm.MethodName) prog_8_method_15_code (4 : Nat) (Option.some Jvm.ClassFile.FieldType.int)) ∈ zw_A := zw_t (i := 675) (by decide +kernel) (by decide +kernel)
theorem zk_676 : (Jvm.Cond.methodLink "IslandRightsModel" (125 : Nat) ({ cls := "IslandRightsModel", name := "serve", desc := "(I)I" } : Jvm.MethodName)) ∈ zw_A := zw_t (i := 676) (by decide +kernel) (by decide +kernel)
theorem zk_678 : (Jvm.Cond.instanceMethod ({ cls := "IslandRightsModel", name := "serve", desc := "(I)I" } : Jvm.MethodName)) ∈ zw_A := zw_t (i := 678) (by decide +kernel) (by decide +kernel)
theorem zk_679 : (Jvm.Cond.code ({ cls := "IslandRightsModel", name := "serve", desc := "(I)I" } : Jvm.MethodName) prog_8_method_13_code (9 : Nat) (Option.some Jvm.ClassFile.FieldType.int)) ∈ zw_A := zw_t (i := 679) (by decide +kernel) (by decide +kernel)
theorem zk_680 : (Jvm.Cond.methodLink "IslandRightsLaw" (114 : Nat) ({ cls := "IslandRightsModel", name := "cancel", desc := "(I)I" } : Jvm.MethodName)) ∈ zw_A := zw_t (i := 680) (by decide +kernel) (by decide +kernel)
theorem zk_681 : (Jvm.Cond.instanceMethod ({ cls := "IslandRightsModel", name := "cancel", desc := "(I)I" } : Jvm.MethodName)) ∈ zw_A := zw_t (i := 681) (by decide +kernel) (by decide +kernel)
theorem zk_682 : (Jvm.Cond.selects "IslandRightsModel" ({ cls := "IslandRightsModel", name := "cancel", desc := "(I)I" } : Jvm.MethodName) ({ cls := "IslandRightsModel", name := "cancel", desc := "(I)I" } : Jvm.MethodName)) ∈ zw_A := zw_t (i := 682) (by decide +kernel) (by decide +kernel)
theorem zk_683 : (Jvm.Cond.code ({ cls := "IslandRightsModel", name := "cancel", desc := "(I)I" } : Jvm.MethodName) prog_8_method_17_code (2 : Nat) (Option.some Jvm.ClassFile.FieldType.int)) ∈ zw_A := zw_t (i := 683) (by decide +kernel) (by decide +kernel)
theorem zk_684 : (Jvm.Cond.methodLink "IslandRightsModel" (129 : Nat) ({ cls := "IslandRightsModel", name := "isTicket", desc := "(I)Z" } : Jvm.MethodName)) ∈ zw_A := zw_t (i := 684) (by decide +kernel) (by decide +kernel)
theorem zk_686 : (Jvm.Cond.instanceMethod ({ cls := "IslandRightsModel", name := "isTicket", desc := "(I)Z" } : Jvm.MethodName)) ∈ zw_A := zw_t (i := 686) (by decide +kernel) (by decide +kernel)
theorem zk_687 : (Jvm.Cond.code ({ cls := "IslandRightsModel", name := "isTicket", desc := "(I)Z" } : Jvm.MethodName) prog_8_method_16_code (2 : Nat) (Option.some Jvm.ClassFile.FieldType.boolean)) ∈ zw_A := zw_t (i := 687) (by decide +kernel) (by decide +kernel)
theorem zk_688 : (Jvm.Cond.methodLink "IslandRightsLaw" (117 : Nat) ({ cls := "IslandRightsModel", name := "ticket", desc := "(II)I" } : Jvm.MethodName)) ∈ zw_A := zw_t (i := 688) (by decide +kernel) (by decide +kernel)
theorem zk_689 : (Jvm.Cond.instanceMethod ({ cls := "IslandRightsModel", name := "ticket", desc := "(II)I" } : Jvm.MethodName)) ∈ zw_A := zw_t (i := 689) (by decide +kernel) (by decide +kernel)
theorem zk_690 : (Jvm.Cond.selects "IslandRightsModel" ({ cls := "IslandRightsModel", name := "ticket", desc := "(II)I" } : Jvm.MethodName) ({ cls := "IslandRightsModel", name := "ticket", desc := "(II)I" } : Jvm.MethodName)) ∈ zw_A := zw_t (i := 690) (by decide +kernel) (by decide +kernel)
theorem zk_691 : (Jvm.Cond.code ({ cls := "IslandRightsModel", name := "ticket", desc := "(II)I" } : Jvm.MethodName) prog_8_method_18_code (3 : Nat) (Option.some Jvm.ClassFile.FieldType.int)) ∈ zw_A := zw_t (i := 691) (by decide +kernel) (by decide +kernel)
theorem zk_692 : (Jvm.Cond.methodLink "IslandRightsLaw" (120 : Nat) ({ cls := "IslandRightsModel", name := "price", desc := "(I)J" } : Jvm.MethodName)) ∈ zw_A := zw_t (i := 692) (by decide +kernel) (by decide +kernel)
theorem zk_693 : (Jvm.Cond.instanceMethod ({ cls := "IslandRightsModel", name := "price", desc := "(I)J" } : Jvm.MethodName)) ∈ zw_A := zw_t (i := 693) (by decide +kernel) (by decide +kernel)
theorem zk_694 : (Jvm.Cond.selects "IslandRightsModel" ({ cls := "IslandRightsModel", name := "price", desc := "(I)J" } : Jvm.MethodName) ({ cls := "IslandRightsModel", name := "price", desc := "(I)J" } : Jvm.MethodName)) ∈ zw_A := zw_t (i := 694) (by decide +kernel) (by decide +kernel)
theorem zk_695 : (Jvm.Cond.code ({ cls := "IslandRightsModel", name := "price", desc := "(I)J" } : Jvm.MethodName) prog_8_method_19_code (2 : Nat) (Option.some Jvm.ClassFile.FieldType.long)) ∈ zw_A := zw_t (i := 695) (by decide +kernel) (by decide +kernel)
theorem zk_696 : (Jvm.Cond.methodLink "IslandRightsLaw" (124 : Nat) ({ cls := "IslandRightsModel", name := "hand", desc := "(IIIII)I" } : Jvm.MethodName)) ∈ zw_A := zw_t (i := 696) (by decide +kernel) (by decide +kernel)
theorem zk_697 : (Jvm.Cond.instanceMethod ({ cls := "IslandRightsModel", name := "hand", desc := "(IIIII)I" } : Jvm.MethodName)) ∈ zw_A := zw_t (i := 697) (by decide +kernel) (by decide +kernel)
theorem zk_698 : (Jvm.Cond.selects "IslandRightsModel" ({ cls := "IslandRightsModel", name := "hand", desc := "(IIIII)I" } : Jvm.MethodName) ({ cls := "IslandRightsModel", name := "hand", desc := "(IIIII)I" } : Jvm.MethodName)) ∈ zw_A := zw_t (i := 698) (by decide +kernel) (by decide +kernel)
theorem zk_699 : (Jvm.Cond.code ({ cls := "IslandRightsModel", name := "hand", desc := "(IIIII)I" } : Jvm.MethodName) prog_8_method_22_code (7 : Nat) (Option.some Jvm.ClassFile.FieldType.int)) ∈ zw_A := zw_t (i := 699) (by decide +kernel) (by decide +kernel)
theorem zk_700 : (Jvm.Cond.methodLink "IslandRightsModel" (132 : Nat) ({ cls := "IslandRightsModel", name := "enclose", desc := "(IIII)I" } : Jvm.MethodName)) ∈ zw_A := zw_t (i := 700) (by decide +kernel) (by decide +kernel)
theorem zk_702 : (Jvm.Cond.instanceMethod ({ cls := "IslandRightsModel", name := "enclose", desc := "(IIII)I" } : Jvm.MethodName)) ∈ zw_A := zw_t (i := 702) (by decide +kernel) (by decide +kernel)
theorem zk_703 : (Jvm.Cond.code ({ cls := "IslandRightsModel", name := "enclose", desc := "(IIII)I" } : Jvm.MethodName) prog_8_method_21_code (7 : Nat) (Option.some Jvm.ClassFile.FieldType.int)) ∈ zw_A := zw_t (i := 703) (by decide +kernel) (by decide +kernel)
theorem zk_704 : (Jvm.Cond.methodLink "IslandRightsLaw" (127 : Nat) ({ cls := "IslandRightsModel", name := "share", desc := "(III)I" } : Jvm.MethodName)) ∈ zw_A := zw_t (i := 704) (by decide +kernel) (by decide +kernel)
theorem zk_705 : (Jvm.Cond.instanceMethod ({ cls := "IslandRightsModel", name := "share", desc := "(III)I" } : Jvm.MethodName)) ∈ zw_A := zw_t (i := 705) (by decide +kernel) (by decide +kernel)
theorem zk_706 : (Jvm.Cond.selects "IslandRightsModel" ({ cls := "IslandRightsModel", name := "share", desc := "(III)I" } : Jvm.MethodName) ({ cls := "IslandRightsModel", name := "share", desc := "(III)I" } : Jvm.MethodName)) ∈ zw_A := zw_t (i := 706) (by decide +kernel) (by decide +kernel)
theorem zk_707 : (Jvm.Cond.code ({ cls := "IslandRightsModel", name := "share", desc := "(III)I" } : Jvm.MethodName) prog_8_method_23_code (7 : Nat) (Option.some Jvm.ClassFile.FieldType.int)) ∈ zw_A := zw_t (i := 707) (by decide +kernel) (by decide +kernel)
theorem zk_708 : (Jvm.Cond.methodLink "IslandRightsModel" (135 : Nat) ({ cls := "IslandRightsModel", name := "wrong", desc := "(II)I" } : Jvm.MethodName)) ∈ zw_A := zw_t (i := 708) (by decide +kernel) (by decide +kernel)
theorem zk_709 : (Jvm.Cond.static ({ cls := "IslandRightsModel", name := "wrong", desc := "(II)I" } : Jvm.MethodName)) ∈ zw_A := zw_t (i := 709) (by decide +kernel) (by decide +kernel)
theorem zk_710 : (Jvm.Cond.code ({ cls := "IslandRightsModel", name := "wrong", desc := "(II)I" } : Jvm.MethodName) prog_8_method_20_code (2 : Nat) (Option.some Jvm.ClassFile.FieldType.int)) ∈ zw_A := zw_t (i := 710) (by decide +kernel) (by decide +kernel)
theorem zk_711 : (Jvm.Cond.methodLink "IslandRightsLaw" (130 : Nat) ({ cls := "IslandRightsModel", name := "send", desc := "(II)I" } : Jvm.MethodName)) ∈ zw_A := zw_t (i := 711) (by decide +kernel) (by decide +kernel)
theorem zk_712 : (Jvm.Cond.instanceMethod ({ cls := "IslandRightsModel", name := "send", desc := "(II)I" } : Jvm.MethodName)) ∈ zw_A := zw_t (i := 712) (by decide +kernel) (by decide +kernel)
theorem zk_713 : (Jvm.Cond.selects "IslandRightsModel" ({ cls := "IslandRightsModel", name := "send", desc := "(II)I" } : Jvm.MethodName) ({ cls := "IslandRightsModel", name := "send", desc := "(II)I" } : Jvm.MethodName)) ∈ zw_A := zw_t (i := 713) (by decide +kernel) (by decide +kernel)
theorem zk_714 : (Jvm.Cond.code ({ cls := "IslandRightsModel", name := "send", desc := "(II)I" } : Jvm.MethodName) prog_8_method_24_code (4 : Nat) (Option.some Jvm.ClassFile.FieldType.int)) ∈ zw_A := zw_t (i := 714) (by decide +kernel) (by decide +kernel)
theorem zk_715 : (Jvm.Cond.methodLink "IslandRightsLaw" (133 : Nat) ({ cls := "IslandRightsModel", name := "arrive", desc := "(II)I" } : Jvm.MethodName)) ∈ zw_A := zw_t (i := 715) (by decide +kernel) (by decide +kernel)
theorem zk_716 : (Jvm.Cond.instanceMethod ({ cls := "IslandRightsModel", name := "arrive", desc := "(II)I" } : Jvm.MethodName)) ∈ zw_A := zw_t (i := 716) (by decide +kernel) (by decide +kernel)
theorem zk_717 : (Jvm.Cond.selects "IslandRightsModel" ({ cls := "IslandRightsModel", name := "arrive", desc := "(II)I" } : Jvm.MethodName) ({ cls := "IslandRightsModel", name := "arrive", desc := "(II)I" } : Jvm.MethodName)) ∈ zw_A := zw_t (i := 717) (by decide +kernel) (by decide +kernel)
theorem zk_718 : (Jvm.Cond.code ({ cls := "IslandRightsModel", name := "arrive", desc := "(II)I" } : Jvm.MethodName) prog_8_method_25_code (6 : Nat) (Option.some Jvm.ClassFile.FieldType.int)) ∈ zw_A := zw_t (i := 718) (by decide +kernel) (by decide +kernel)
theorem zk_719 : (Jvm.Cond.methodLink "IslandRightsLaw" (136 : Nat) ({ cls := "IslandRightsModel", name := "receipt", desc := "(II)I" } : Jvm.MethodName)) ∈ zw_A := zw_t (i := 719) (by decide +kernel) (by decide +kernel)
theorem zk_720 : (Jvm.Cond.instanceMethod ({ cls := "IslandRightsModel", name := "receipt", desc := "(II)I" } : Jvm.MethodName)) ∈ zw_A := zw_t (i := 720) (by decide +kernel) (by decide +kernel)
theorem zk_721 : (Jvm.Cond.selects "IslandRightsModel" ({ cls := "IslandRightsModel", name := "receipt", desc := "(II)I" } : Jvm.MethodName) ({ cls := "IslandRightsModel", name := "receipt", desc := "(II)I" } : Jvm.MethodName)) ∈ zw_A := zw_t (i := 721) (by decide +kernel) (by decide +kernel)
theorem zk_722 : (Jvm.Cond.code ({ cls := "IslandRightsModel", name := "receipt", desc := "(II)I" } : Jvm.MethodName) prog_8_method_26_code (8 : Nat) (Option.some Jvm.ClassFile.FieldType.int)) ∈ zw_A := zw_t (i := 722) (by decide +kernel) (by decide +kernel)
theorem zk_723 : (Jvm.Cond.methodLink "IslandRightsLaw" (139 : Nat) ({ cls := "IslandRightsModel", name := "lose", desc := "(II)I" } : Jvm.MethodName)) ∈ zw_A := zw_t (i := 723) (by decide +kernel) (by decide +kernel)
theorem zk_724 : (Jvm.Cond.instanceMethod ({ cls := "IslandRightsModel", name := "lose", desc := "(II)I" } : Jvm.MethodName)) ∈ zw_A := zw_t (i := 724) (by decide +kernel) (by decide +kernel)
theorem zk_725 : (Jvm.Cond.selects "IslandRightsModel" ({ cls := "IslandRightsModel", name := "lose", desc := "(II)I" } : Jvm.MethodName) ({ cls := "IslandRightsModel", name := "lose", desc := "(II)I" } : Jvm.MethodName)) ∈ zw_A := zw_t (i := 725) (by decide +kernel) (by decide +kernel)
theorem zk_726 : (Jvm.Cond.code ({ cls := "IslandRightsModel", name := "lose", desc := "(II)I" } : Jvm.MethodName) prog_8_method_28_code (3 : Nat) (Option.some Jvm.ClassFile.FieldType.int)) ∈ zw_A := zw_t (i := 726) (by decide +kernel) (by decide +kernel)
theorem zk_727 : (Jvm.Cond.methodLink "IslandRightsModel" (139 : Nat) ({ cls := "IslandRightsModel", name := "loseOne", desc := "(I)I" } : Jvm.MethodName)) ∈ zw_A := zw_t (i := 727) (by decide +kernel) (by decide +kernel)
theorem zk_729 : (Jvm.Cond.instanceMethod ({ cls := "IslandRightsModel", name := "loseOne", desc := "(I)I" } : Jvm.MethodName)) ∈ zw_A := zw_t (i := 729) (by decide +kernel) (by decide +kernel)
theorem zk_730 : (Jvm.Cond.code ({ cls := "IslandRightsModel", name := "loseOne", desc := "(I)I" } : Jvm.MethodName) prog_8_method_27_code (3 : Nat) (Option.some Jvm.ClassFile.FieldType.int)) ∈ zw_A := zw_t (i := 730) (by decide +kernel) (by decide +kernel)
theorem zk_731 : (Jvm.Cond.methodLink "IslandRightsLaw" (142 : Nat) ({ cls := "IslandRightsModel", name := "crash", desc := "(I)I" } : Jvm.MethodName)) ∈ zw_A := zw_t (i := 731) (by decide +kernel) (by decide +kernel)
theorem zk_732 : (Jvm.Cond.instanceMethod ({ cls := "IslandRightsModel", name := "crash", desc := "(I)I" } : Jvm.MethodName)) ∈ zw_A := zw_t (i := 732) (by decide +kernel) (by decide +kernel)
theorem zk_733 : (Jvm.Cond.selects "IslandRightsModel" ({ cls := "IslandRightsModel", name := "crash", desc := "(I)I" } : Jvm.MethodName) ({ cls := "IslandRightsModel", name := "crash", desc := "(I)I" } : Jvm.MethodName)) ∈ zw_A := zw_t (i := 733) (by decide +kernel) (by decide +kernel)
theorem zk_734 : (Jvm.Cond.code ({ cls := "IslandRightsModel", name := "crash", desc := "(I)I" } : Jvm.MethodName) prog_8_method_29_code (4 : Nat) (Option.some Jvm.ClassFile.FieldType.int)) ∈ zw_A := zw_t (i := 734) (by decide +kernel) (by decide +kernel)
theorem zk_735 : (Jvm.Cond.methodLink "IslandRightsLaw" (145 : Nat) ({ cls := "IslandRightsModel", name := "rights", desc := "(III)I" } : Jvm.MethodName)) ∈ zw_A := zw_t (i := 735) (by decide +kernel) (by decide +kernel)
theorem zk_736 : (Jvm.Cond.instanceMethod ({ cls := "IslandRightsModel", name := "rights", desc := "(III)I" } : Jvm.MethodName)) ∈ zw_A := zw_t (i := 736) (by decide +kernel) (by decide +kernel)
theorem zk_737 : (Jvm.Cond.selects "IslandRightsModel" ({ cls := "IslandRightsModel", name := "rights", desc := "(III)I" } : Jvm.MethodName) ({ cls := "IslandRightsModel", name := "rights", desc := "(III)I" } : Jvm.MethodName)) ∈ zw_A := zw_t (i := 737) (by decide +kernel) (by decide +kernel)
theorem zk_738 : (Jvm.Cond.code ({ cls := "IslandRightsModel", name := "rights", desc := "(III)I" } : Jvm.MethodName) prog_8_method_30_code (5 : Nat) (Option.some Jvm.ClassFile.FieldType.int)) ∈ zw_A := zw_t (i := 738) (by decide +kernel) (by decide +kernel)
theorem zk_739 : (Jvm.Cond.methodLink "IslandRightsLaw" (148 : Nat) ({ cls := "IslandRightsModel", name := "air", desc := "(II)I" } : Jvm.MethodName)) ∈ zw_A := zw_t (i := 739) (by decide +kernel) (by decide +kernel)
theorem zk_740 : (Jvm.Cond.instanceMethod ({ cls := "IslandRightsModel", name := "air", desc := "(II)I" } : Jvm.MethodName)) ∈ zw_A := zw_t (i := 740) (by decide +kernel) (by decide +kernel)
theorem zk_741 : (Jvm.Cond.selects "IslandRightsModel" ({ cls := "IslandRightsModel", name := "air", desc := "(II)I" } : Jvm.MethodName) ({ cls := "IslandRightsModel", name := "air", desc := "(II)I" } : Jvm.MethodName)) ∈ zw_A := zw_t (i := 741) (by decide +kernel) (by decide +kernel)
theorem zk_742 : (Jvm.Cond.code ({ cls := "IslandRightsModel", name := "air", desc := "(II)I" } : Jvm.MethodName) prog_8_method_31_code (6 : Nat) (Option.some Jvm.ClassFile.FieldType.int)) ∈ zw_A := zw_t (i := 742) (by decide +kernel) (by decide +kernel)
theorem zk_743 : (Jvm.Cond.methodLink "IslandRightsLaw" (151 : Nat) ({ cls := "IslandRightsModel", name := "sold", desc := "(II)I" } : Jvm.MethodName)) ∈ zw_A := zw_t (i := 743) (by decide +kernel) (by decide +kernel)
theorem zk_744 : (Jvm.Cond.instanceMethod ({ cls := "IslandRightsModel", name := "sold", desc := "(II)I" } : Jvm.MethodName)) ∈ zw_A := zw_t (i := 744) (by decide +kernel) (by decide +kernel)
theorem zk_745 : (Jvm.Cond.selects "IslandRightsModel" ({ cls := "IslandRightsModel", name := "sold", desc := "(II)I" } : Jvm.MethodName) ({ cls := "IslandRightsModel", name := "sold", desc := "(II)I" } : Jvm.MethodName)) ∈ zw_A := zw_t (i := 745) (by decide +kernel) (by decide +kernel)
theorem zk_746 : (Jvm.Cond.code ({ cls := "IslandRightsModel", name := "sold", desc := "(II)I" } : Jvm.MethodName) prog_8_method_32_code (5 : Nat) (Option.some Jvm.ClassFile.FieldType.int)) ∈ zw_A := zw_t (i := 746) (by decide +kernel) (by decide +kernel)
theorem zk_747 : (Jvm.Cond.methodLink "IslandRightsLaw" (154 : Nat) ({ cls := "IslandRightsModel", name := "wishes", desc := "(I)I" } : Jvm.MethodName)) ∈ zw_A := zw_t (i := 747) (by decide +kernel) (by decide +kernel)
theorem zk_748 : (Jvm.Cond.instanceMethod ({ cls := "IslandRightsModel", name := "wishes", desc := "(I)I" } : Jvm.MethodName)) ∈ zw_A := zw_t (i := 748) (by decide +kernel) (by decide +kernel)
theorem zk_749 : (Jvm.Cond.selects "IslandRightsModel" ({ cls := "IslandRightsModel", name := "wishes", desc := "(I)I" } : Jvm.MethodName) ({ cls := "IslandRightsModel", name := "wishes", desc := "(I)I" } : Jvm.MethodName)) ∈ zw_A := zw_t (i := 749) (by decide +kernel) (by decide +kernel)
theorem zk_750 : (Jvm.Cond.code ({ cls := "IslandRightsModel", name := "wishes", desc := "(I)I" } : Jvm.MethodName) prog_8_method_33_code (2 : Nat) (Option.some Jvm.ClassFile.FieldType.int)) ∈ zw_A := zw_t (i := 750) (by decide +kernel) (by decide +kernel)
theorem zk_751 : (Jvm.Cond.methodLink "IslandRightsLaw" (157 : Nat) ({ cls := "IslandRightsModel", name := "till", desc := "(I)J" } : Jvm.MethodName)) ∈ zw_A := zw_t (i := 751) (by decide +kernel) (by decide +kernel)
theorem zk_752 : (Jvm.Cond.instanceMethod ({ cls := "IslandRightsModel", name := "till", desc := "(I)J" } : Jvm.MethodName)) ∈ zw_A := zw_t (i := 752) (by decide +kernel) (by decide +kernel)
theorem zk_753 : (Jvm.Cond.selects "IslandRightsModel" ({ cls := "IslandRightsModel", name := "till", desc := "(I)J" } : Jvm.MethodName) ({ cls := "IslandRightsModel", name := "till", desc := "(I)J" } : Jvm.MethodName)) ∈ zw_A := zw_t (i := 753) (by decide +kernel) (by decide +kernel)
theorem zk_754 : (Jvm.Cond.code ({ cls := "IslandRightsModel", name := "till", desc := "(I)J" } : Jvm.MethodName) prog_8_method_34_code (2 : Nat) (Option.some Jvm.ClassFile.FieldType.long)) ∈ zw_A := zw_t (i := 754) (by decide +kernel) (by decide +kernel)
end
section
theorem zs_X_checkDraft : Cond.selects "IslandRights" zm_X_checkDraft zm_X_checkDraft ∈ zw_A := zw_s (q := (zm_X_checkDraft, 9)) (by decide +kernel) (by decide +kernel)
theorem zs_X_takeDraft : Cond.selects "IslandRights" zm_X_takeDraft zm_X_takeDraft ∈ zw_A := zw_s (q := (zm_X_takeDraft, 9)) (by decide +kernel) (by decide +kernel)
theorem zs_X_sell : Cond.selects "IslandRights" zm_X_sell zm_X_sell ∈ zw_A := zw_s (q := (zm_X_sell, 9)) (by decide +kernel) (by decide +kernel)
theorem zs_X_costOf : Cond.selects "IslandRights" zm_X_costOf zm_X_costOf ∈ zw_A := zw_s (q := (zm_X_costOf, 9)) (by decide +kernel) (by decide +kernel)
theorem zs_X_moveToSold : Cond.selects "IslandRights" zm_X_moveToSold zm_X_moveToSold ∈ zw_A := zw_s (q := (zm_X_moveToSold, 9)) (by decide +kernel) (by decide +kernel)
theorem zs_X_serve : Cond.selects "IslandRights" zm_X_serve zm_X_serve ∈ zw_A := zw_s (q := (zm_X_serve, 9)) (by decide +kernel) (by decide +kernel)
theorem zs_X_checkTicket : Cond.selects "IslandRights" zm_X_checkTicket zm_X_checkTicket ∈ zw_A := zw_s (q := (zm_X_checkTicket, 9)) (by decide +kernel) (by decide +kernel)
theorem zs_X_laneOf : Cond.selects "IslandRights" zm_X_laneOf zm_X_laneOf ∈ zw_A := zw_s (q := (zm_X_laneOf, 9)) (by decide +kernel) (by decide +kernel)
theorem zs_X_putInOutbox : Cond.selects "IslandRights" zm_X_putInOutbox zm_X_putInOutbox ∈ zw_A := zw_s (q := (zm_X_putInOutbox, 9)) (by decide +kernel) (by decide +kernel)
theorem zs_X_takeNext : Cond.selects "IslandRights" zm_X_takeNext zm_X_takeNext ∈ zw_A := zw_s (q := (zm_X_takeNext, 9)) (by decide +kernel) (by decide +kernel)
theorem zs_M_refused : Cond.selects "IslandRightsModel" zm_M_refused zm_M_refused ∈ zw_A := zw_s (q := (zm_M_refused, 28)) (by decide +kernel) (by decide +kernel)
theorem zs_M_fits : Cond.selects "IslandRightsModel" zm_M_fits zm_M_fits ∈ zw_A := zw_s (q := (zm_M_fits, 28)) (by decide +kernel) (by decide +kernel)
theorem zs_M_lies : Cond.selects "IslandRightsModel" zm_M_lies zm_M_lies ∈ zw_A := zw_s (q := (zm_M_lies, 28)) (by decide +kernel) (by decide +kernel)
theorem zs_M_sell : Cond.selects "IslandRightsModel" zm_M_sell zm_M_sell ∈ zw_A := zw_s (q := (zm_M_sell, 28)) (by decide +kernel) (by decide +kernel)
theorem zs_M_give : Cond.selects "IslandRightsModel" zm_M_give zm_M_give ∈ zw_A := zw_s (q := (zm_M_give, 28)) (by decide +kernel) (by decide +kernel)
theorem zs_M_copy : Cond.selects "IslandRightsModel" zm_M_copy zm_M_copy ∈ zw_A := zw_s (q := (zm_M_copy, 28)) (by decide +kernel) (by decide +kernel)
theorem zs_M_serve : Cond.selects "IslandRightsModel" zm_M_serve zm_M_serve ∈ zw_A := zw_s (q := (zm_M_serve, 28)) (by decide +kernel) (by decide +kernel)
theorem zs_M_isTicket : Cond.selects "IslandRightsModel" zm_M_isTicket zm_M_isTicket ∈ zw_A := zw_s (q := (zm_M_isTicket, 28)) (by decide +kernel) (by decide +kernel)
theorem zs_M_enclose : Cond.selects "IslandRightsModel" zm_M_enclose zm_M_enclose ∈ zw_A := zw_s (q := (zm_M_enclose, 28)) (by decide +kernel) (by decide +kernel)
theorem zs_M_loseOne : Cond.selects "IslandRightsModel" zm_M_loseOne zm_M_loseOne ∈ zw_A := zw_s (q := (zm_M_loseOne, 28)) (by decide +kernel) (by decide +kernel)
theorem zi_J : ∀ w ∈ u_ws zR_J zT_J 2, w ∈ zw_A := by
  intro w hw
  obtain ⟨k, hk, rfl⟩ := List.mem_map.mp hw
  have hk := List.mem_range.mp hk
  match k, hk with
  | 0, _ => exact zk_40
  | 1, _ => exact zk_42
  | k + 2, h => exact absurd h (by omega)
theorem zi_N : ∀ w ∈ u_ws zR_N zT_N 7, w ∈ zw_A := by
  intro w hw
  obtain ⟨k, hk, rfl⟩ := List.mem_map.mp hw
  have hk := List.mem_range.mp hk
  match k, hk with
  | 0, _ => exact zk_90
  | 1, _ => exact zk_92
  | 2, _ => exact zk_94
  | 3, _ => exact zk_96
  | 4, _ => exact zk_98
  | 5, _ => exact zk_100
  | 6, _ => exact zk_102
  | k + 7, h => exact absurd h (by omega)
theorem zi_P : ∀ w ∈ u_ws zR_P zT_P 4, w ∈ zw_A := by
  intro w hw
  obtain ⟨k, hk, rfl⟩ := List.mem_map.mp hw
  have hk := List.mem_range.mp hk
  match k, hk with
  | 0, _ => exact zk_62
  | 1, _ => exact zk_64
  | 2, _ => exact zk_66
  | 3, _ => exact zk_68
  | k + 4, h => exact absurd h (by omega)
theorem zi_T : ∀ w ∈ u_ws zR_T zT_T 5, w ∈ zw_A := by
  intro w hw
  obtain ⟨k, hk, rfl⟩ := List.mem_map.mp hw
  have hk := List.mem_range.mp hk
  match k, hk with
  | 0, _ => exact zk_336
  | 1, _ => exact zk_338
  | 2, _ => exact zk_340
  | 3, _ => exact zk_342
  | 4, _ => exact zk_344
  | k + 5, h => exact absurd h (by omega)
theorem zi_H : ∀ w ∈ u_ws zR_H zT_H 2, w ∈ zw_A := by
  intro w hw
  obtain ⟨k, hk, rfl⟩ := List.mem_map.mp hw
  have hk := List.mem_range.mp hk
  match k, hk with
  | 0, _ => exact zk_368
  | 1, _ => exact zk_370
  | k + 2, h => exact absurd h (by omega)
theorem zi_X : ∀ w ∈ u_ws zR_X zT_X 9, w ∈ zw_A := by
  intro w hw
  obtain ⟨k, hk, rfl⟩ := List.mem_map.mp hw
  have hk := List.mem_range.mp hk
  match k, hk with
  | 0, _ => exact zk_114
  | 1, _ => exact zk_116
  | 2, _ => exact zk_118
  | 3, _ => exact zk_120
  | 4, _ => exact zk_122
  | 5, _ => exact zk_124
  | 6, _ => exact zk_126
  | 7, _ => exact zk_128
  | 8, _ => exact zk_130
  | k + 9, h => exact absurd h (by omega)
theorem zi_M : ∀ w ∈ u_ws zR_M zT_M 28, w ∈ zw_A := by
  intro w hw
  obtain ⟨k, hk, rfl⟩ := List.mem_map.mp hw
  have hk := List.mem_range.mp hk
  match k, hk with
  | 0, _ => exact zk_566
  | 1, _ => exact zk_568
  | 2, _ => exact zk_570
  | 3, _ => exact zk_572
  | 4, _ => exact zk_574
  | 5, _ => exact zk_576
  | 6, _ => exact zk_578
  | 7, _ => exact zk_580
  | 8, _ => exact zk_582
  | 9, _ => exact zk_584
  | 10, _ => exact zk_586
  | 11, _ => exact zk_588
  | 12, _ => exact zk_590
  | 13, _ => exact zk_592
  | 14, _ => exact zk_594
  | 15, _ => exact zk_596
  | 16, _ => exact zk_598
  | 17, _ => exact zk_600
  | 18, _ => exact zk_602
  | 19, _ => exact zk_604
  | 20, _ => exact zk_606
  | 21, _ => exact zk_608
  | 22, _ => exact zk_610
  | 23, _ => exact zk_612
  | 24, _ => exact zk_614
  | 25, _ => exact zk_616
  | 26, _ => exact zk_618
  | 27, _ => exact zk_620
  | k + 28, h => exact absurd h (by omega)
end
section
/-! my own judgement over the kit's W: a world is a map from addresses to cells; an assertion P speaks of the world and the heap's size -/
abbrev zg_w : Type := Nat → Option va_E
def zg_u (w : zg_w) (a : Nat) (e : va_E) : zg_w := fun q => if q = a then some e else w q
theorem zg_us (w : zg_w) (a : Nat) (e : va_E) : zg_u w a e a = some e := by simp [zg_u]
theorem zg_un {w : zg_w} {a q : Nat} {e : va_E} (h : q ≠ a) : zg_u w a e q = w q := by simp [zg_u, h]
def zg_H (D : va_G) (cl : List vw_C) (base : Nat) (w : zg_w) (H : Heap) : Prop := ∀ (a : Nat) (e : va_E), w a = some e → base ≤ a ∧ va_at D cl (a, e) H
theorem zg_H.set {D : va_G} {cl : List vw_C} {base : Nat} {w : zg_w} {H H1 : Heap} {a : Nat} {e : va_E} (h : zg_H D cl base w H) (hb : base ≤ a) (he : va_at D cl (a, e) H1) (o : ∀ q : Nat, q ≠ a → H1[q]? = H[q]?) : zg_H D cl base (zg_u w a e) H1 := by
  intro q e1 hq
  by_cases hqa : q = a
  · subst hqa
    rw [zg_us] at hq
    cases hq
    exact ⟨hb, he⟩
  · rw [zg_un hqa] at hq
    obtain ⟨h1, h2⟩ := h q e1 hq
    exact ⟨h1, h2.kept (o q hqa)⟩
theorem zg_H.lt {D : va_G} {cl : List vw_C} {base : Nat} {w : zg_w} {H : Heap} {a : Nat} {e : va_E} (h : zg_H D cl base w H) (ha : w a = some e) : a < H.size := (h a e ha).2.lt
theorem zg_H.push {D : va_G} {cl : List vw_C} {base : Nat} {w : zg_w} {H H1 : Heap} {e : va_E} (h : zg_H D cl base w H) (hb : base ≤ H.size) (he : va_at D cl (H.size, e) H1) (o : ∀ q : Nat, q < H.size → H1[q]? = H[q]?) : zg_H D cl base (zg_u w H.size e) H1 := by
  intro q e1 hq
  by_cases hqa : q = H.size
  · subst hqa
    rw [zg_us] at hq
    cases hq
    exact ⟨hb, he⟩
  · rw [zg_un hqa] at hq
    obtain ⟨h1, h2⟩ := h q e1 hq
    exact ⟨h1, h2.kept (o q (h.lt hq))⟩
theorem zg_H.none {D : va_G} {cl : List vw_C} {base : Nat} {w : zg_w} {H : Heap} {a : Nat} (h : zg_H D cl base w H) (ha : H.size ≤ a) : w a = none := by
  cases hw : w a with
  | none => rfl
  | some e => exact absurd (h.lt hw) (by omega)
theorem zg_H.kept {D : va_G} {cl : List vw_C} {base : Nat} {w : zg_w} {H H1 : Heap} (h : zg_H D cl base w H) (o : ∀ q : Nat, q < H.size → H1[q]? = H[q]?) : zg_H D cl base w H1 := fun a e ha => ⟨(h a e ha).1, (h a e ha).2.kept (o a (h.lt ha))⟩
/-- the setting of a walk: program, launch, environment, room, the state at the start, method, arguments, frames below, its entry, its code, what is owed at the end, class numbers, array classes, where our cells begin, how many locals -/
abbrev zg_K : Type := Program × Launch × Env × Room × State × MethodId × Array Value × List Frame × Method × Code × (State → Prop) × va_G × (Nat → ClassId) × Nat × Nat
abbrev zk_p (K : zg_K) : Program := K.1
abbrev zk_l (K : zg_K) : Launch := K.2.1
abbrev zk_e (K : zg_K) : Env := K.2.2.1
abbrev zk_R (K : zg_K) : Room := K.2.2.2.1
abbrev zk_s (K : zg_K) : State := K.2.2.2.2.1
abbrev zk_m (K : zg_K) : MethodId := K.2.2.2.2.2.1
abbrev zk_a (K : zg_K) : Array Value := K.2.2.2.2.2.2.1
abbrev zk_b (K : zg_K) : List Frame := K.2.2.2.2.2.2.2.1
abbrev zk_t (K : zg_K) : Method := K.2.2.2.2.2.2.2.2.1
abbrev zk_c (K : zg_K) : Code := K.2.2.2.2.2.2.2.2.2.1
abbrev zk_Q (K : zg_K) : State → Prop := K.2.2.2.2.2.2.2.2.2.2.1
abbrev zk_D (K : zg_K) : va_G := K.2.2.2.2.2.2.2.2.2.2.2.1
abbrev zk_A (K : zg_K) : Nat → ClassId := K.2.2.2.2.2.2.2.2.2.2.2.2.1
abbrev zk_z (K : zg_K) : Nat := K.2.2.2.2.2.2.2.2.2.2.2.2.2.1
abbrev zk_n (K : zg_K) : Nat := K.2.2.2.2.2.2.2.2.2.2.2.2.2.2
abbrev zg_P : Type := zg_w → Nat → Prop
/-! what is said of the tables beside the words: private members of nest mates, rows of objects, String constants, which exception is which, Throwable's two statics -/
def zn_nest : List (String × Nat × MethodName × String) := [("IslandRights", 47, ⟨"IslandRights$Journey", "<init>", "()V"⟩, "IslandRights"), ("IslandRights", 52, ⟨"IslandRights$Port", "<init>", "()V"⟩, "IslandRights"), ("IslandRights", 53, ⟨"IslandRights$Lane", "<init>", "()V"⟩, "IslandRights"), ("IslandRights$Journey", 19, ⟨"IslandRights", "placeOf", "(II)I"⟩, "IslandRights")]
def zn_arr : List String := ["IslandRights$Port", "IslandRights$Lane", "IslandRights$Ticket", "IslandRights$Wish"]
def zn_str : List (String × Nat × String) := [("IslandRights", 214, "there is no such sailing"), ("IslandRights", 224, "a number of seats is 1 to 100"), ("IslandRights", 63, "the sailing was open"), ("IslandRights", 216, "there is no such leg"), ("IslandRights", 81, "a fare is 0 to 1,000,000,000"), ("IslandRights", 218, "there is no such stop"), ("IslandRights", 87, "a part goes to a later stop"), ("IslandRights", 89, "the sailing is not open"), ("IslandRights", 94, "the draft is full"), ("IslandRights", 211, "there is no such port"), ("IslandRights", 226, "the draft is empty"), ("IslandRights", 106, "there are no tickets left"), ("IslandRights", 123, "the port's row of wishes is full"), ("IslandRights", 220, "there is no such ticket"), ("IslandRights", 140, "the ticket was cancelled"), ("IslandRights", 162, "what is 0 to 3"), ("IslandRights", 222, "both ports are the same"), ("IslandRights", 176, "the outbox is full")]
def zn_cast : List (String × String) := [("java/lang/IndexOutOfBoundsException", "java/lang/IndexOutOfBoundsException"), ("java/lang/IllegalArgumentException", "java/lang/IllegalArgumentException"), ("java/lang/IllegalStateException", "java/lang/IllegalStateException")]
def zn_nc : List (String × String) := [("java/lang/IllegalArgumentException", "java/lang/IndexOutOfBoundsException"), ("java/lang/IllegalStateException", "java/lang/IndexOutOfBoundsException"), ("java/lang/IndexOutOfBoundsException", "java/lang/IllegalArgumentException"), ("java/lang/IllegalStateException", "java/lang/IllegalArgumentException"), ("java/lang/IndexOutOfBoundsException", "java/lang/IllegalStateException"), ("java/lang/IllegalArgumentException", "java/lang/IllegalStateException")]
def zn_decl : List MethodName := [⟨"java/lang/RuntimeException", "<init>", "()V"⟩, ⟨"java/lang/RuntimeException", "<init>", "(Ljava/lang/String;)V"⟩, ⟨"java/lang/Exception", "<init>", "()V"⟩, ⟨"java/lang/Exception", "<init>", "(Ljava/lang/String;)V"⟩, ⟨"java/lang/Throwable", "<init>", "()V"⟩, ⟨"java/lang/Throwable", "<init>", "(Ljava/lang/String;)V"⟩]
def zg_N (base : Nat) (U : State) : Prop := (∀ q ∈ zn_nest, va_Nw (.methodLinkNest q.1 q.2.1 q.2.2.1 q.2.2.2) U) ∧ (∀ C ∈ zn_arr, va_AO C U) ∧ (∀ q ∈ zn_str, ∃ sa, vk_R q.1 q.2.1 q.2.2 sa U) ∧ (∀ q ∈ zn_cast, va_Nw (.castable q.1 q.2) U) ∧ (∀ q ∈ zn_nc, va_Nc q.1 q.2 U) ∧ (∀ q ∈ zn_decl, va_Nw (.declares q) U) ∧ vx_Zq Bundle.tN "UNASSIGNED_STACK" Bundle.steD (fun q => base ≤ q) U U.heap ∧ vx_Zq Bundle.tN "SUPPRESSED_SENTINEL" Bundle.listD (fun q => base ≤ q) U U.heap
theorem zg_N.warm {base : Nat} {s U : State} (hW : s.WarmedH U.vm) (hk : ∀ a : Nat, a < s.heap.size → ¬ base ≤ a → U.heap[a]? = s.heap[a]?) (h : zg_N base s) : zg_N base U := by
  obtain ⟨h1, h2, h3, h4, h5, h6, h7, h8⟩ := h
  refine ⟨fun q hq => va_Nw.warmM hW (h1 q hq), fun C hC => va_AO.moved hW.alike (h2 C hC), fun q hq => ?_, fun q hq => va_Nw.warmC hW (h4 q hq), fun q hq => va_Nc.moved hW.alike (h5 q hq), fun q hq => va_Nw.warmD hW (h6 q hq), vx_Zq.moved hW.alike (h7.kept hk), vx_Zq.moved hW.alike (h8.kept hk)⟩
  obtain ⟨sa, hs⟩ := h3 q hq
  exact ⟨sa, vk_R.warm hW hs⟩
theorem zg_N.calling {base : Nat} {U : State} {g : JFrame} {mk : MethodId} {a : Array Value} (h : zg_N base U) : zg_N base (U.calling g mk a) := zg_N.warm (s := U) (U := U.calling g mk a) (State.WarmedH.refl U) (fun _ _ _ => rfl) h
theorem zg_N.moved {base : Nat} {s U : State} {locs : List Loc} (hW : s.WarmedH U.vm) (hS : va_S (fun q => base ≤ q) s.heap U.heap locs) (h : zg_N base s) : zg_N base U := zg_N.warm hW (fun a h1 h2 => hS.2.1 a h1 h2) h
/-- what every walk knows: the machine, the code, the locals, the class, the words, the classes' numbers, where our cells begin, the room -/
def zg_F (K : zg_K) (cc : ByteArray) (own : String) (rm : Room) : Prop := (zk_p K).tables.exec = Jvm.exec ∧ (zk_c K).code = cc ∧ (zk_c K).maxLocals = zk_n K ∧ (zk_s K).vm.findClass own = some (zk_m K).cls ∧ (∀ w ∈ zw_A, w.before (zk_a K) (zk_s K) = true) ∧ va_K (zk_D K) vwCl (zg_T (zk_A K)) (zk_s K) ∧ zg_N (zk_z K) (zk_s K) ∧ zk_z K ≤ (zk_s K).heap.size ∧ zk_R K = rm
theorem zf_N {K : zg_K} {cc : ByteArray} {own : String} {rm : Room} (F : zg_F K cc own rm) : zg_N (zk_z K) (zk_s K) := F.2.2.2.2.2.2.1
theorem zf_b {K : zg_K} {cc : ByteArray} {own : String} {rm : Room} (F : zg_F K cc own rm) : zk_z K ≤ (zk_s K).heap.size := F.2.2.2.2.2.2.2.1
theorem zf_R {K : zg_K} {cc : ByteArray} {own : String} {rm : Room} (F : zg_F K cc own rm) : zk_R K = rm := F.2.2.2.2.2.2.2.2
abbrev zg_W (K : zg_K) (H : Heap) (locs : List Loc) (cells slots : Nat) (g : JFrame) : Prop := W (zk_p K) (zk_l K) (zk_e K) (zk_R K) (zk_s K) (zk_m K) (zk_a K) (zk_b K) (zk_t K) (zk_c K) H locs cells slots (zk_Q K) g
def zg_G (K : zg_K) (P : zg_P) (cells slots pc : Nat) (L : List (Nat × Value)) (st : List Value) : Prop :=
  ∀ (w : zg_w) (H : Heap) (locs : List Loc) (ls : Array Slot), P w H.size → zg_H (zk_D K) vwCl (zk_z K) w H → va_S (fun q => zk_z K ≤ q) (zk_s K).heap H locs → lv_has ls (zk_n K) L → zg_W K H locs cells slots (F0 (zk_m K) pc ls st)
theorem zg_mono {K : zg_K} {P P' : zg_P} {cells slots pc : Nat} {L : List (Nat × Value)} {st : List Value} (h : ∀ w z, P w z → P' w z) (k : zg_G K P' cells slots pc L st) : zg_G K P cells slots pc L st := fun w H locs ls h1 => k w H locs ls (h w _ h1)
theorem zg_wid {K : zg_K} {P : zg_P} {cells slots c2 s2 pc : Nat} {L : List (Nat × Value)} {st : List Value} (h1 : cells ≤ c2) (h2 : slots ≤ s2) (k : zg_G K P c2 s2 pc L st) : zg_G K P cells slots pc L st := fun w H locs ls a b c d => W.widen h1 h2 (k w H locs ls a b c d)
theorem zg_sub {K : zg_K} {P : zg_P} {cells slots pc : Nat} {L L' : List (Nat × Value)} {st : List Value} (ks : List Nat) (h : lv_pick L ks = L') (k : zg_G K P cells slots pc L' st) : zg_G K P cells slots pc L st := fun w H locs ls a b c d => k w H locs ls a b c (lv_sub d ks h)
theorem zg_ex {α : Type} {K : zg_K} {P : α → zg_P} {cells slots pc : Nat} {L : List (Nat × Value)} {st : List Value} (k : ∀ x, zg_G K (P x) cells slots pc L st) : zg_G K (fun w z => ∃ x, P x w z) cells slots pc L st := fun w H locs ls ⟨x, a⟩ b c d => k x w H locs ls a b c d
theorem zg_and {A : Prop} {K : zg_K} {P : zg_P} {cells slots pc : Nat} {L : List (Nat × Value)} {st : List Value} (k : A → zg_G K P cells slots pc L st) : zg_G K (fun w z => A ∧ P w z) cells slots pc L st := fun w H locs ls ⟨x, a⟩ b c d => k x w H locs ls a b c d
theorem zg_pure {A : Prop} {K : zg_K} {P : zg_P} {cells slots pc : Nat} {L : List (Nat × Value)} {st : List Value} (h : ∀ w z, P w z → A) (k : A → zg_G K P cells slots pc L st) : zg_G K P cells slots pc L st := fun w H locs ls a b c d => k (h w _ a) w H locs ls a b c d
section ZGA
variable {K : zg_K} {P : zg_P} {cells slots pc : Nat} {L : List (Nat × Value)} {st : List Value} {cc : ByteArray} {own : String} {rm : Room}
theorem zg_iconst (F : zg_F K cc own rm) {n : Int} {v : Int32} (hv : Int32.ofInt n = v) (d : decode cc pc = .ok (.iconst n, 1)) (k : zg_G K P cells slots (pc + 1) L (.int v :: st)) : zg_G K P cells slots pc L (st) := fun w H locs ls h1 h2 h3 h4 => lv_iconst F.1 F.2.1 d hv (k w H locs ls h1 h2 h3 h4)
theorem zg_bipush (F : zg_F K cc own rm) {n : Int} {v : Int32} (hv : (Int8.ofInt n).toInt32 = v) (d : decode cc pc = .ok (.bipush n, 2)) (k : zg_G K P cells slots (pc + 2) L (.int v :: st)) : zg_G K P cells slots pc L (st) := fun w H locs ls h1 h2 h3 h4 => lv_bipush F.1 F.2.1 d hv (k w H locs ls h1 h2 h3 h4)
theorem zg_sipush (F : zg_F K cc own rm) {n : Int} {v : Int32} (hv : (Int16.ofInt n).toInt32 = v) (d : decode cc pc = .ok (.sipush n, 3)) (k : zg_G K P cells slots (pc + 3) L (.int v :: st)) : zg_G K P cells slots pc L (st) := fun w H locs ls h1 h2 h3 h4 => lv_sipush F.1 F.2.1 d hv (k w H locs ls h1 h2 h3 h4)
theorem zg_lconst (F : zg_F K cc own rm) {n : Fin 2} {v : Int64} (hv : Int64.ofNat (n : Nat) = v) (d : decode cc pc = .ok (.lconst n, 1)) (k : zg_G K P cells slots (pc + 1) L (.long v :: st)) : zg_G K P cells slots pc L (st) := fun w H locs ls h1 h2 h3 h4 => lv_lconst F.1 F.2.1 d hv (k w H locs ls h1 h2 h3 h4)
theorem zg_iload_n (F : zg_F K cc own rm) {n : Fin 4} {i : Nat} {x : Int32} (j : Nat) (hi : (n : Nat) = i) (hl : L[j]? = some (i, .int x)) (d : decode cc pc = .ok (.iload_n n, 1)) (k : zg_G K P cells slots (pc + 1) L (.int x :: st)) : zg_G K P cells slots pc L (st) := fun w H locs ls h1 h2 h3 h4 => lv_iload_n F.1 F.2.1 d hi (lv_at h4 j hl) (k w H locs ls h1 h2 h3 h4)
theorem zg_iload (F : zg_F K cc own rm) {i : Nat} {x : Int32} (j : Nat) (hl : L[j]? = some (i, .int x)) (d : decode cc pc = .ok (.iload i, 2)) (k : zg_G K P cells slots (pc + 2) L (.int x :: st)) : zg_G K P cells slots pc L (st) := fun w H locs ls h1 h2 h3 h4 => lv_iload F.1 F.2.1 d (lv_at h4 j hl) (k w H locs ls h1 h2 h3 h4)
theorem zg_istore_n (F : zg_F K cc own rm) {n : Fin 4} {i : Nat} {x : Int32} {L' : List (Nat × Value)} (hi : (n : Nat) = i) (hn : i < zk_n K) (hl : (i, Value.int x) :: L.filter (fun q => !(q.1 == i) && !(q.1 + 1 == i && q.2.category == 2)) = L') (d : decode cc pc = .ok (.istore_n n, 1)) (k : zg_G K P cells slots (pc + 1) L' st) : zg_G K P cells slots pc L (.int x :: st) := fun w H locs ls h1 h2 h3 h4 => lv_istore_n F.1 F.2.1 d hi h4 hn hl (fun ls' h5 => k w H locs ls' h1 h2 h3 h5)
theorem zg_istore (F : zg_F K cc own rm) {i : Nat} {x : Int32} {L' : List (Nat × Value)} (hn : i < zk_n K) (hl : (i, Value.int x) :: L.filter (fun q => !(q.1 == i) && !(q.1 + 1 == i && q.2.category == 2)) = L') (d : decode cc pc = .ok (.istore i, 2)) (k : zg_G K P cells slots (pc + 2) L' st) : zg_G K P cells slots pc L (.int x :: st) := fun w H locs ls h1 h2 h3 h4 => lv_istore F.1 F.2.1 d h4 hn hl (fun ls' h5 => k w H locs ls' h1 h2 h3 h5)
theorem zg_lload_n (F : zg_F K cc own rm) {n : Fin 4} {i : Nat} {x : Int64} (j : Nat) (hi : (n : Nat) = i) (hl : L[j]? = some (i, .long x)) (d : decode cc pc = .ok (.lload_n n, 1)) (k : zg_G K P cells slots (pc + 1) L (.long x :: st)) : zg_G K P cells slots pc L (st) := fun w H locs ls h1 h2 h3 h4 => lv_lload_n F.1 F.2.1 d hi (lv_at h4 j hl) (k w H locs ls h1 h2 h3 h4)
theorem zg_lload (F : zg_F K cc own rm) {i : Nat} {x : Int64} (j : Nat) (hl : L[j]? = some (i, .long x)) (d : decode cc pc = .ok (.lload i, 2)) (k : zg_G K P cells slots (pc + 2) L (.long x :: st)) : zg_G K P cells slots pc L (st) := fun w H locs ls h1 h2 h3 h4 => lv_lload F.1 F.2.1 d (lv_at h4 j hl) (k w H locs ls h1 h2 h3 h4)
theorem zg_lstore_n (F : zg_F K cc own rm) {n : Fin 4} {i : Nat} {x : Int64} {L' : List (Nat × Value)} (hi : (n : Nat) = i) (hn : i + 1 < zk_n K) (hl : (i, Value.long x) :: L.filter (fun q => !(q.1 == i) && (!(q.1 == i + 1) && !(q.1 + 1 == i && q.2.category == 2))) = L') (d : decode cc pc = .ok (.lstore_n n, 1)) (k : zg_G K P cells slots (pc + 1) L' st) : zg_G K P cells slots pc L (.long x :: st) := fun w H locs ls h1 h2 h3 h4 => lv_lstore_n F.1 F.2.1 d hi h4 hn hl (fun ls' h5 => k w H locs ls' h1 h2 h3 h5)
theorem zg_lstore (F : zg_F K cc own rm) {i : Nat} {x : Int64} {L' : List (Nat × Value)} (hn : i + 1 < zk_n K) (hl : (i, Value.long x) :: L.filter (fun q => !(q.1 == i) && (!(q.1 == i + 1) && !(q.1 + 1 == i && q.2.category == 2))) = L') (d : decode cc pc = .ok (.lstore i, 2)) (k : zg_G K P cells slots (pc + 2) L' st) : zg_G K P cells slots pc L (.long x :: st) := fun w H locs ls h1 h2 h3 h4 => lv_lstore F.1 F.2.1 d h4 hn hl (fun ls' h5 => k w H locs ls' h1 h2 h3 h5)
theorem zg_aload_n (F : zg_F K cc own rm) {n : Fin 4} {i : Nat} {x : Nat} (j : Nat) (hi : (n : Nat) = i) (hl : L[j]? = some (i, .ref x)) (d : decode cc pc = .ok (.aload_n n, 1)) (k : zg_G K P cells slots (pc + 1) L (.ref x :: st)) : zg_G K P cells slots pc L (st) := fun w H locs ls h1 h2 h3 h4 => lv_aload_n F.1 F.2.1 d hi (lv_at h4 j hl) (k w H locs ls h1 h2 h3 h4)
theorem zg_aload (F : zg_F K cc own rm) {i : Nat} {x : Nat} (j : Nat) (hl : L[j]? = some (i, .ref x)) (d : decode cc pc = .ok (.aload i, 2)) (k : zg_G K P cells slots (pc + 2) L (.ref x :: st)) : zg_G K P cells slots pc L (st) := fun w H locs ls h1 h2 h3 h4 => lv_aload F.1 F.2.1 d (lv_at h4 j hl) (k w H locs ls h1 h2 h3 h4)
theorem zg_astore_n (F : zg_F K cc own rm) {n : Fin 4} {i : Nat} {x : Nat} {L' : List (Nat × Value)} (hi : (n : Nat) = i) (hn : i < zk_n K) (hl : (i, Value.ref x) :: L.filter (fun q => !(q.1 == i) && !(q.1 + 1 == i && q.2.category == 2)) = L') (d : decode cc pc = .ok (.astore_n n, 1)) (k : zg_G K P cells slots (pc + 1) L' st) : zg_G K P cells slots pc L (.ref x :: st) := fun w H locs ls h1 h2 h3 h4 => lv_astore_n F.1 F.2.1 d hi h4 hn hl (fun ls' h5 => k w H locs ls' h1 h2 h3 h5)
theorem zg_astore (F : zg_F K cc own rm) {i : Nat} {x : Nat} {L' : List (Nat × Value)} (hn : i < zk_n K) (hl : (i, Value.ref x) :: L.filter (fun q => !(q.1 == i) && !(q.1 + 1 == i && q.2.category == 2)) = L') (d : decode cc pc = .ok (.astore i, 2)) (k : zg_G K P cells slots (pc + 2) L' st) : zg_G K P cells slots pc L (.ref x :: st) := fun w H locs ls h1 h2 h3 h4 => lv_astore F.1 F.2.1 d h4 hn hl (fun ls' h5 => k w H locs ls' h1 h2 h3 h5)
theorem zg_iinc (F : zg_F K cc own rm) {i : Nat} {n : Int} {x v : Int32} {L' : List (Nat × Value)} (j : Nat) (hj : L[j]? = some (i, .int x)) (hv : x + Int32.ofInt n = v) (hn : i < zk_n K) (hl : (i, Value.int v) :: L.filter (fun q => !(q.1 == i) && !(q.1 + 1 == i && q.2.category == 2)) = L') (d : decode cc pc = .ok (.iinc i n, 3)) (k : zg_G K P cells slots (pc + 3) L' st) : zg_G K P cells slots pc L st := fun w H locs ls h1 h2 h3 h4 => lv_iinc F.1 F.2.1 d h4 hj hv hn hl (fun ls' h5 => k w H locs ls' h1 h2 h3 h5)
theorem zg_iadd (F : zg_F K cc own rm) {x y v : Int32} (hv : x + y = v) (d : decode cc pc = .ok (.iadd, 1)) (k : zg_G K P cells slots (pc + 1) L (.int v :: st)) : zg_G K P cells slots pc L (.int y :: .int x :: st) := fun w H locs ls h1 h2 h3 h4 => lv_iadd F.1 F.2.1 d (by rw [hv]; exact k w H locs ls h1 h2 h3 h4)
theorem zg_isub (F : zg_F K cc own rm) {x y v : Int32} (hv : x - y = v) (d : decode cc pc = .ok (.isub, 1)) (k : zg_G K P cells slots (pc + 1) L (.int v :: st)) : zg_G K P cells slots pc L (.int y :: .int x :: st) := fun w H locs ls h1 h2 h3 h4 => lv_isub F.1 F.2.1 d (by rw [hv]; exact k w H locs ls h1 h2 h3 h4)
theorem zg_imul (F : zg_F K cc own rm) {x y v : Int32} (hv : x * y = v) (d : decode cc pc = .ok (.imul, 1)) (k : zg_G K P cells slots (pc + 1) L (.int v :: st)) : zg_G K P cells slots pc L (.int y :: .int x :: st) := fun w H locs ls h1 h2 h3 h4 => lv_imul F.1 F.2.1 d (by rw [hv]; exact k w H locs ls h1 h2 h3 h4)
theorem zg_iand (F : zg_F K cc own rm) {x y v : Int32} (hv : x &&& y = v) (d : decode cc pc = .ok (.iand, 1)) (k : zg_G K P cells slots (pc + 1) L (.int v :: st)) : zg_G K P cells slots pc L (.int y :: .int x :: st) := fun w H locs ls h1 h2 h3 h4 => lv_iand F.1 F.2.1 d (by rw [hv]; exact k w H locs ls h1 h2 h3 h4)
theorem zg_idiv (F : zg_F K cc own rm) {x y v : Int32} (hne : ¬ y = 0) (hv : x / y = v) (d : decode cc pc = .ok (.idiv, 1)) (k : zg_G K P cells slots (pc + 1) L (.int v :: st)) : zg_G K P cells slots pc L (.int y :: .int x :: st) := fun w H locs ls h1 h2 h3 h4 => lv_idiv F.1 F.2.1 d hne (by rw [hv]; exact k w H locs ls h1 h2 h3 h4)
theorem zg_irem (F : zg_F K cc own rm) {x y v : Int32} (hne : ¬ y = 0) (hv : x - x / y * y = v) (d : decode cc pc = .ok (.irem, 1)) (k : zg_G K P cells slots (pc + 1) L (.int v :: st)) : zg_G K P cells slots pc L (.int y :: .int x :: st) := fun w H locs ls h1 h2 h3 h4 => lv_irem F.1 F.2.1 d hne (by rw [hv]; exact k w H locs ls h1 h2 h3 h4)
theorem zg_ladd (F : zg_F K cc own rm) {x y v : Int64} (hv : x + y = v) (d : decode cc pc = .ok (.ladd, 1)) (k : zg_G K P cells slots (pc + 1) L (.long v :: st)) : zg_G K P cells slots pc L (.long y :: .long x :: st) := fun w H locs ls h1 h2 h3 h4 => lv_ladd F.1 F.2.1 d (by rw [hv]; exact k w H locs ls h1 h2 h3 h4)
theorem zg_lsub (F : zg_F K cc own rm) {x y v : Int64} (hv : x - y = v) (d : decode cc pc = .ok (.lsub, 1)) (k : zg_G K P cells slots (pc + 1) L (.long v :: st)) : zg_G K P cells slots pc L (.long y :: .long x :: st) := fun w H locs ls h1 h2 h3 h4 => lv_lsub F.1 F.2.1 d (by rw [hv]; exact k w H locs ls h1 h2 h3 h4)
theorem zg_lmul (F : zg_F K cc own rm) {x y v : Int64} (hv : x * y = v) (d : decode cc pc = .ok (.lmul, 1)) (k : zg_G K P cells slots (pc + 1) L (.long v :: st)) : zg_G K P cells slots pc L (.long y :: .long x :: st) := fun w H locs ls h1 h2 h3 h4 => lv_lmul F.1 F.2.1 d (by rw [hv]; exact k w H locs ls h1 h2 h3 h4)
theorem zg_ineg (F : zg_F K cc own rm) {x v : Int32} (hv : -x = v) (d : decode cc pc = .ok (.ineg, 1)) (k : zg_G K P cells slots (pc + 1) L (.int v :: st)) : zg_G K P cells slots pc L (.int x :: st) := fun w H locs ls h1 h2 h3 h4 => lv_ineg F.1 F.2.1 d (by rw [hv]; exact k w H locs ls h1 h2 h3 h4)
theorem zg_i2l (F : zg_F K cc own rm) {x : Int32} {v : Int64} (hv : x.toInt64 = v) (d : decode cc pc = .ok (.i2l, 1)) (k : zg_G K P cells slots (pc + 1) L (.long v :: st)) : zg_G K P cells slots pc L (.int x :: st) := fun w H locs ls h1 h2 h3 h4 => lv_i2l F.1 F.2.1 d hv (k w H locs ls h1 h2 h3 h4)
theorem zg_dup (F : zg_F K cc own rm) {a : Value} (ha : a.category = 1) (d : decode cc pc = .ok (.dup, 1)) (k : zg_G K P cells slots (pc + 1) L (a :: a :: st)) : zg_G K P cells slots pc L (a :: st) := fun w H locs ls h1 h2 h3 h4 => lv_dup F.1 F.2.1 d ha (k w H locs ls h1 h2 h3 h4)
theorem zg_pop (F : zg_F K cc own rm) {a : Value} (ha : a.category = 1) (d : decode cc pc = .ok (.pop, 1)) (k : zg_G K P cells slots (pc + 1) L (st)) : zg_G K P cells slots pc L (a :: st) := fun w H locs ls h1 h2 h3 h4 => lv_pop F.1 F.2.1 d ha (k w H locs ls h1 h2 h3 h4)
theorem zg_dup2 (F : zg_F K cc own rm) {a b : Value} (ha : a.category = 1) (hb : b.category = 1) (d : decode cc pc = .ok (.dup2, 1)) (k : zg_G K P cells slots (pc + 1) L (a :: b :: a :: b :: st)) : zg_G K P cells slots pc L (a :: b :: st) := fun w H locs ls h1 h2 h3 h4 => lv_dup2_11 F.1 F.2.1 d ha hb (k w H locs ls h1 h2 h3 h4)
theorem zg_dup_x1 (F : zg_F K cc own rm) {a b : Value} (ha : a.category = 1) (hb : b.category = 1) (d : decode cc pc = .ok (.dup_x1, 1)) (k : zg_G K P cells slots (pc + 1) L (a :: b :: a :: st)) : zg_G K P cells slots pc L (a :: b :: st) := fun w H locs ls h1 h2 h3 h4 => lv_dup_x1 F.1 F.2.1 d ha hb (k w H locs ls h1 h2 h3 h4)
theorem zg_dup_x2 (F : zg_F K cc own rm) {a b c : Value} (ha : a.category = 1) (hb : b.category = 1) (hc : c.category = 1) (d : decode cc pc = .ok (.dup_x2, 1)) (k : zg_G K P cells slots (pc + 1) L (a :: b :: c :: a :: st)) : zg_G K P cells slots pc L (a :: b :: c :: st) := fun w H locs ls h1 h2 h3 h4 => lv_dup_x2 F.1 F.2.1 d ha hb hc (k w H locs ls h1 h2 h3 h4)
theorem zg_if_eq (F : zg_F K cc own rm) {x : Int32} {off : Int} {tgt : Nat} (d : decode cc pc = .ok (.ifCond .eq off, 3)) (ht : (pc : Int) + off = (tgt : Int)) (kt : x = 0 → zg_G K P cells slots tgt L st) (kf : ¬ x = 0 → zg_G K P cells slots (pc + 3) L st) : zg_G K P cells slots pc L (.int x :: st) := fun w H locs ls h1 h2 h3 h4 => lv_if_eq F.1 F.2.1 d ht (fun h => kt h w H locs ls h1 h2 h3 h4) (fun h => kf h w H locs ls h1 h2 h3 h4)
theorem zg_if_eqT (F : zg_F K cc own rm) {x : Int32} {off : Int} {tgt : Nat} (d : decode cc pc = .ok (.ifCond .eq off, 3)) (ht : (pc : Int) + off = (tgt : Int)) (h : x = 0) (k : zg_G K P cells slots tgt L st) : zg_G K P cells slots pc L (.int x :: st) := zg_if_eq F d ht (fun _ => k) (fun q => absurd h (by first | exact q | exact not_not_intro q))
theorem zg_if_eqF (F : zg_F K cc own rm) {x : Int32} {off : Int} (d : decode cc pc = .ok (.ifCond .eq off, 3)) {tgt : Nat} (ht : (pc : Int) + off = (tgt : Int)) (h : ¬ x = 0) (k : zg_G K P cells slots (pc + 3) L st) : zg_G K P cells slots pc L (.int x :: st) := zg_if_eq F d ht (fun q => absurd h (by first | exact not_not_intro q | exact q)) (fun _ => k)
theorem zg_icmp_eq (F : zg_F K cc own rm) {x y : Int32} {off : Int} {tgt : Nat} (d : decode cc pc = .ok (.if_icmp .eq off, 3)) (ht : (pc : Int) + off = (tgt : Int)) (kt : x = y → zg_G K P cells slots tgt L st) (kf : ¬ x = y → zg_G K P cells slots (pc + 3) L st) : zg_G K P cells slots pc L (.int y :: .int x :: st) := fun w H locs ls h1 h2 h3 h4 => lv_icmp_eq F.1 F.2.1 d ht (fun h => kt h w H locs ls h1 h2 h3 h4) (fun h => kf h w H locs ls h1 h2 h3 h4)
theorem zg_icmp_eqT (F : zg_F K cc own rm) {x y : Int32} {off : Int} {tgt : Nat} (d : decode cc pc = .ok (.if_icmp .eq off, 3)) (ht : (pc : Int) + off = (tgt : Int)) (h : x = y) (k : zg_G K P cells slots tgt L st) : zg_G K P cells slots pc L (.int y :: .int x :: st) := zg_icmp_eq F d ht (fun _ => k) (fun q => absurd h (by first | exact q | exact not_not_intro q))
theorem zg_icmp_eqF (F : zg_F K cc own rm) {x y : Int32} {off : Int} (d : decode cc pc = .ok (.if_icmp .eq off, 3)) {tgt : Nat} (ht : (pc : Int) + off = (tgt : Int)) (h : ¬ x = y) (k : zg_G K P cells slots (pc + 3) L st) : zg_G K P cells slots pc L (.int y :: .int x :: st) := zg_icmp_eq F d ht (fun q => absurd h (by first | exact not_not_intro q | exact q)) (fun _ => k)
theorem zg_if_ne (F : zg_F K cc own rm) {x : Int32} {off : Int} {tgt : Nat} (d : decode cc pc = .ok (.ifCond .ne off, 3)) (ht : (pc : Int) + off = (tgt : Int)) (kt : ¬ x = 0 → zg_G K P cells slots tgt L st) (kf : x = 0 → zg_G K P cells slots (pc + 3) L st) : zg_G K P cells slots pc L (.int x :: st) := fun w H locs ls h1 h2 h3 h4 => lv_if_ne F.1 F.2.1 d ht (fun h => kt h w H locs ls h1 h2 h3 h4) (fun h => kf h w H locs ls h1 h2 h3 h4)
theorem zg_if_neT (F : zg_F K cc own rm) {x : Int32} {off : Int} {tgt : Nat} (d : decode cc pc = .ok (.ifCond .ne off, 3)) (ht : (pc : Int) + off = (tgt : Int)) (h : ¬ x = 0) (k : zg_G K P cells slots tgt L st) : zg_G K P cells slots pc L (.int x :: st) := zg_if_ne F d ht (fun _ => k) (fun q => absurd h (by first | exact q | exact not_not_intro q))
theorem zg_if_neF (F : zg_F K cc own rm) {x : Int32} {off : Int} (d : decode cc pc = .ok (.ifCond .ne off, 3)) {tgt : Nat} (ht : (pc : Int) + off = (tgt : Int)) (h : x = 0) (k : zg_G K P cells slots (pc + 3) L st) : zg_G K P cells slots pc L (.int x :: st) := zg_if_ne F d ht (fun q => absurd h (by first | exact not_not_intro q | exact q)) (fun _ => k)
theorem zg_icmp_ne (F : zg_F K cc own rm) {x y : Int32} {off : Int} {tgt : Nat} (d : decode cc pc = .ok (.if_icmp .ne off, 3)) (ht : (pc : Int) + off = (tgt : Int)) (kt : ¬ x = y → zg_G K P cells slots tgt L st) (kf : x = y → zg_G K P cells slots (pc + 3) L st) : zg_G K P cells slots pc L (.int y :: .int x :: st) := fun w H locs ls h1 h2 h3 h4 => lv_icmp_ne F.1 F.2.1 d ht (fun h => kt h w H locs ls h1 h2 h3 h4) (fun h => kf h w H locs ls h1 h2 h3 h4)
theorem zg_icmp_neT (F : zg_F K cc own rm) {x y : Int32} {off : Int} {tgt : Nat} (d : decode cc pc = .ok (.if_icmp .ne off, 3)) (ht : (pc : Int) + off = (tgt : Int)) (h : ¬ x = y) (k : zg_G K P cells slots tgt L st) : zg_G K P cells slots pc L (.int y :: .int x :: st) := zg_icmp_ne F d ht (fun _ => k) (fun q => absurd h (by first | exact q | exact not_not_intro q))
theorem zg_icmp_neF (F : zg_F K cc own rm) {x y : Int32} {off : Int} (d : decode cc pc = .ok (.if_icmp .ne off, 3)) {tgt : Nat} (ht : (pc : Int) + off = (tgt : Int)) (h : x = y) (k : zg_G K P cells slots (pc + 3) L st) : zg_G K P cells slots pc L (.int y :: .int x :: st) := zg_icmp_ne F d ht (fun q => absurd h (by first | exact not_not_intro q | exact q)) (fun _ => k)
theorem zg_if_lt (F : zg_F K cc own rm) {x : Int32} {off : Int} {tgt : Nat} (d : decode cc pc = .ok (.ifCond .lt off, 3)) (ht : (pc : Int) + off = (tgt : Int)) (kt : x < 0 → zg_G K P cells slots tgt L st) (kf : ¬ x < 0 → zg_G K P cells slots (pc + 3) L st) : zg_G K P cells slots pc L (.int x :: st) := fun w H locs ls h1 h2 h3 h4 => lv_if_lt F.1 F.2.1 d ht (fun h => kt h w H locs ls h1 h2 h3 h4) (fun h => kf h w H locs ls h1 h2 h3 h4)
theorem zg_if_ltT (F : zg_F K cc own rm) {x : Int32} {off : Int} {tgt : Nat} (d : decode cc pc = .ok (.ifCond .lt off, 3)) (ht : (pc : Int) + off = (tgt : Int)) (h : x < 0) (k : zg_G K P cells slots tgt L st) : zg_G K P cells slots pc L (.int x :: st) := zg_if_lt F d ht (fun _ => k) (fun q => absurd h (by first | exact q | exact not_not_intro q))
theorem zg_if_ltF (F : zg_F K cc own rm) {x : Int32} {off : Int} (d : decode cc pc = .ok (.ifCond .lt off, 3)) {tgt : Nat} (ht : (pc : Int) + off = (tgt : Int)) (h : ¬ x < 0) (k : zg_G K P cells slots (pc + 3) L st) : zg_G K P cells slots pc L (.int x :: st) := zg_if_lt F d ht (fun q => absurd h (by first | exact not_not_intro q | exact q)) (fun _ => k)
theorem zg_icmp_lt (F : zg_F K cc own rm) {x y : Int32} {off : Int} {tgt : Nat} (d : decode cc pc = .ok (.if_icmp .lt off, 3)) (ht : (pc : Int) + off = (tgt : Int)) (kt : x < y → zg_G K P cells slots tgt L st) (kf : ¬ x < y → zg_G K P cells slots (pc + 3) L st) : zg_G K P cells slots pc L (.int y :: .int x :: st) := fun w H locs ls h1 h2 h3 h4 => lv_icmp_lt F.1 F.2.1 d ht (fun h => kt h w H locs ls h1 h2 h3 h4) (fun h => kf h w H locs ls h1 h2 h3 h4)
theorem zg_icmp_ltT (F : zg_F K cc own rm) {x y : Int32} {off : Int} {tgt : Nat} (d : decode cc pc = .ok (.if_icmp .lt off, 3)) (ht : (pc : Int) + off = (tgt : Int)) (h : x < y) (k : zg_G K P cells slots tgt L st) : zg_G K P cells slots pc L (.int y :: .int x :: st) := zg_icmp_lt F d ht (fun _ => k) (fun q => absurd h (by first | exact q | exact not_not_intro q))
theorem zg_icmp_ltF (F : zg_F K cc own rm) {x y : Int32} {off : Int} (d : decode cc pc = .ok (.if_icmp .lt off, 3)) {tgt : Nat} (ht : (pc : Int) + off = (tgt : Int)) (h : ¬ x < y) (k : zg_G K P cells slots (pc + 3) L st) : zg_G K P cells slots pc L (.int y :: .int x :: st) := zg_icmp_lt F d ht (fun q => absurd h (by first | exact not_not_intro q | exact q)) (fun _ => k)
theorem zg_if_ge (F : zg_F K cc own rm) {x : Int32} {off : Int} {tgt : Nat} (d : decode cc pc = .ok (.ifCond .ge off, 3)) (ht : (pc : Int) + off = (tgt : Int)) (kt : 0 ≤ x → zg_G K P cells slots tgt L st) (kf : ¬ 0 ≤ x → zg_G K P cells slots (pc + 3) L st) : zg_G K P cells slots pc L (.int x :: st) := fun w H locs ls h1 h2 h3 h4 => lv_if_ge F.1 F.2.1 d ht (fun h => kt h w H locs ls h1 h2 h3 h4) (fun h => kf h w H locs ls h1 h2 h3 h4)
theorem zg_if_geT (F : zg_F K cc own rm) {x : Int32} {off : Int} {tgt : Nat} (d : decode cc pc = .ok (.ifCond .ge off, 3)) (ht : (pc : Int) + off = (tgt : Int)) (h : 0 ≤ x) (k : zg_G K P cells slots tgt L st) : zg_G K P cells slots pc L (.int x :: st) := zg_if_ge F d ht (fun _ => k) (fun q => absurd h (by first | exact q | exact not_not_intro q))
theorem zg_if_geF (F : zg_F K cc own rm) {x : Int32} {off : Int} (d : decode cc pc = .ok (.ifCond .ge off, 3)) {tgt : Nat} (ht : (pc : Int) + off = (tgt : Int)) (h : ¬ 0 ≤ x) (k : zg_G K P cells slots (pc + 3) L st) : zg_G K P cells slots pc L (.int x :: st) := zg_if_ge F d ht (fun q => absurd h (by first | exact not_not_intro q | exact q)) (fun _ => k)
theorem zg_icmp_ge (F : zg_F K cc own rm) {x y : Int32} {off : Int} {tgt : Nat} (d : decode cc pc = .ok (.if_icmp .ge off, 3)) (ht : (pc : Int) + off = (tgt : Int)) (kt : y ≤ x → zg_G K P cells slots tgt L st) (kf : ¬ y ≤ x → zg_G K P cells slots (pc + 3) L st) : zg_G K P cells slots pc L (.int y :: .int x :: st) := fun w H locs ls h1 h2 h3 h4 => lv_icmp_ge F.1 F.2.1 d ht (fun h => kt h w H locs ls h1 h2 h3 h4) (fun h => kf h w H locs ls h1 h2 h3 h4)
theorem zg_icmp_geT (F : zg_F K cc own rm) {x y : Int32} {off : Int} {tgt : Nat} (d : decode cc pc = .ok (.if_icmp .ge off, 3)) (ht : (pc : Int) + off = (tgt : Int)) (h : y ≤ x) (k : zg_G K P cells slots tgt L st) : zg_G K P cells slots pc L (.int y :: .int x :: st) := zg_icmp_ge F d ht (fun _ => k) (fun q => absurd h (by first | exact q | exact not_not_intro q))
theorem zg_icmp_geF (F : zg_F K cc own rm) {x y : Int32} {off : Int} (d : decode cc pc = .ok (.if_icmp .ge off, 3)) {tgt : Nat} (ht : (pc : Int) + off = (tgt : Int)) (h : ¬ y ≤ x) (k : zg_G K P cells slots (pc + 3) L st) : zg_G K P cells slots pc L (.int y :: .int x :: st) := zg_icmp_ge F d ht (fun q => absurd h (by first | exact not_not_intro q | exact q)) (fun _ => k)
theorem zg_if_gt (F : zg_F K cc own rm) {x : Int32} {off : Int} {tgt : Nat} (d : decode cc pc = .ok (.ifCond .gt off, 3)) (ht : (pc : Int) + off = (tgt : Int)) (kt : 0 < x → zg_G K P cells slots tgt L st) (kf : ¬ 0 < x → zg_G K P cells slots (pc + 3) L st) : zg_G K P cells slots pc L (.int x :: st) := fun w H locs ls h1 h2 h3 h4 => lv_if_gt F.1 F.2.1 d ht (fun h => kt h w H locs ls h1 h2 h3 h4) (fun h => kf h w H locs ls h1 h2 h3 h4)
theorem zg_if_gtT (F : zg_F K cc own rm) {x : Int32} {off : Int} {tgt : Nat} (d : decode cc pc = .ok (.ifCond .gt off, 3)) (ht : (pc : Int) + off = (tgt : Int)) (h : 0 < x) (k : zg_G K P cells slots tgt L st) : zg_G K P cells slots pc L (.int x :: st) := zg_if_gt F d ht (fun _ => k) (fun q => absurd h (by first | exact q | exact not_not_intro q))
theorem zg_if_gtF (F : zg_F K cc own rm) {x : Int32} {off : Int} (d : decode cc pc = .ok (.ifCond .gt off, 3)) {tgt : Nat} (ht : (pc : Int) + off = (tgt : Int)) (h : ¬ 0 < x) (k : zg_G K P cells slots (pc + 3) L st) : zg_G K P cells slots pc L (.int x :: st) := zg_if_gt F d ht (fun q => absurd h (by first | exact not_not_intro q | exact q)) (fun _ => k)
theorem zg_icmp_gt (F : zg_F K cc own rm) {x y : Int32} {off : Int} {tgt : Nat} (d : decode cc pc = .ok (.if_icmp .gt off, 3)) (ht : (pc : Int) + off = (tgt : Int)) (kt : y < x → zg_G K P cells slots tgt L st) (kf : ¬ y < x → zg_G K P cells slots (pc + 3) L st) : zg_G K P cells slots pc L (.int y :: .int x :: st) := fun w H locs ls h1 h2 h3 h4 => lv_icmp_gt F.1 F.2.1 d ht (fun h => kt h w H locs ls h1 h2 h3 h4) (fun h => kf h w H locs ls h1 h2 h3 h4)
theorem zg_icmp_gtT (F : zg_F K cc own rm) {x y : Int32} {off : Int} {tgt : Nat} (d : decode cc pc = .ok (.if_icmp .gt off, 3)) (ht : (pc : Int) + off = (tgt : Int)) (h : y < x) (k : zg_G K P cells slots tgt L st) : zg_G K P cells slots pc L (.int y :: .int x :: st) := zg_icmp_gt F d ht (fun _ => k) (fun q => absurd h (by first | exact q | exact not_not_intro q))
theorem zg_icmp_gtF (F : zg_F K cc own rm) {x y : Int32} {off : Int} (d : decode cc pc = .ok (.if_icmp .gt off, 3)) {tgt : Nat} (ht : (pc : Int) + off = (tgt : Int)) (h : ¬ y < x) (k : zg_G K P cells slots (pc + 3) L st) : zg_G K P cells slots pc L (.int y :: .int x :: st) := zg_icmp_gt F d ht (fun q => absurd h (by first | exact not_not_intro q | exact q)) (fun _ => k)
theorem zg_if_le (F : zg_F K cc own rm) {x : Int32} {off : Int} {tgt : Nat} (d : decode cc pc = .ok (.ifCond .le off, 3)) (ht : (pc : Int) + off = (tgt : Int)) (kt : x ≤ 0 → zg_G K P cells slots tgt L st) (kf : ¬ x ≤ 0 → zg_G K P cells slots (pc + 3) L st) : zg_G K P cells slots pc L (.int x :: st) := fun w H locs ls h1 h2 h3 h4 => lv_if_le F.1 F.2.1 d ht (fun h => kt h w H locs ls h1 h2 h3 h4) (fun h => kf h w H locs ls h1 h2 h3 h4)
theorem zg_if_leT (F : zg_F K cc own rm) {x : Int32} {off : Int} {tgt : Nat} (d : decode cc pc = .ok (.ifCond .le off, 3)) (ht : (pc : Int) + off = (tgt : Int)) (h : x ≤ 0) (k : zg_G K P cells slots tgt L st) : zg_G K P cells slots pc L (.int x :: st) := zg_if_le F d ht (fun _ => k) (fun q => absurd h (by first | exact q | exact not_not_intro q))
theorem zg_if_leF (F : zg_F K cc own rm) {x : Int32} {off : Int} (d : decode cc pc = .ok (.ifCond .le off, 3)) {tgt : Nat} (ht : (pc : Int) + off = (tgt : Int)) (h : ¬ x ≤ 0) (k : zg_G K P cells slots (pc + 3) L st) : zg_G K P cells slots pc L (.int x :: st) := zg_if_le F d ht (fun q => absurd h (by first | exact not_not_intro q | exact q)) (fun _ => k)
theorem zg_icmp_le (F : zg_F K cc own rm) {x y : Int32} {off : Int} {tgt : Nat} (d : decode cc pc = .ok (.if_icmp .le off, 3)) (ht : (pc : Int) + off = (tgt : Int)) (kt : x ≤ y → zg_G K P cells slots tgt L st) (kf : ¬ x ≤ y → zg_G K P cells slots (pc + 3) L st) : zg_G K P cells slots pc L (.int y :: .int x :: st) := fun w H locs ls h1 h2 h3 h4 => lv_icmp_le F.1 F.2.1 d ht (fun h => kt h w H locs ls h1 h2 h3 h4) (fun h => kf h w H locs ls h1 h2 h3 h4)
theorem zg_icmp_leT (F : zg_F K cc own rm) {x y : Int32} {off : Int} {tgt : Nat} (d : decode cc pc = .ok (.if_icmp .le off, 3)) (ht : (pc : Int) + off = (tgt : Int)) (h : x ≤ y) (k : zg_G K P cells slots tgt L st) : zg_G K P cells slots pc L (.int y :: .int x :: st) := zg_icmp_le F d ht (fun _ => k) (fun q => absurd h (by first | exact q | exact not_not_intro q))
theorem zg_icmp_leF (F : zg_F K cc own rm) {x y : Int32} {off : Int} (d : decode cc pc = .ok (.if_icmp .le off, 3)) {tgt : Nat} (ht : (pc : Int) + off = (tgt : Int)) (h : ¬ x ≤ y) (k : zg_G K P cells slots (pc + 3) L st) : zg_G K P cells slots pc L (.int y :: .int x :: st) := zg_icmp_le F d ht (fun q => absurd h (by first | exact not_not_intro q | exact q)) (fun _ => k)
theorem zg_goto (F : zg_F K cc own rm) {off : Int} {tgt : Nat} (d : decode cc pc = .ok (.goto off, 3)) (ht : (pc : Int) + off = (tgt : Int)) (k : zg_G K P cells slots tgt L st) : zg_G K P cells slots pc L st := fun w H locs ls h1 h2 h3 h4 => lv_goto F.1 F.2.1 d ht (k w H locs ls h1 h2 h3 h4)
theorem zg_lcmp (F : zg_F K cc own rm) {x y : Int64} {v : Int32} (hv : lg_cmp x y = v) (d : decode cc pc = .ok (.lcmp, 1)) (k : zg_G K P cells slots (pc + 1) L (.int v :: st)) : zg_G K P cells slots pc L (.long y :: .long x :: st) := fun w H locs ls h1 h2 h3 h4 => W.lcmp F.1 F.2.1 d (by rw [hv]; exact k w H locs ls h1 h2 h3 h4)
theorem zg_ldcI (F : zg_F K cc own rm) {index : Nat} {v : Int32} (hc : Jvm.Cond.constant own index v ∈ zw_A) (d : decode cc pc = .ok (.ldc index, 2)) (k : zg_G K P cells slots (pc + 2) L (.int v :: st)) : zg_G K P cells slots pc L st := fun w H locs ls h1 h2 h3 h4 => W.ldc F.1 F.2.1 F.2.2.2.1 (F.2.2.2.2.1 _ hc) (g := F0 (zk_m K) pc ls st) rfl d (k w H locs ls h1 h2 h3 h4)
theorem zg_get (F : zg_F K cc own rm) {a ci N index : Nat} {C : String} {T : u_T} {fs : List Value} {v : Value} (hw : ∀ w z, P w z → w a = some (.inr (ci, fs))) (hc : vwCl[ci]? = some (C, T, N)) (hin : ∀ w ∈ u_ws C T N, w ∈ zw_A) (j : Nat) (hj : j < N) (hT : (T j).1 = C) (hl : Cond.fieldLink own index C (T j).2.1 (T j).2.2.1 ∈ zw_A) (hv : fs[j]? = some v) (d : decode cc pc = .ok (.getfield index, 3)) (k : zg_G K P cells slots (pc + 3) L (v :: st)) : zg_G K P cells slots pc L (.ref a :: st) := fun w H locs ls h1 h2 h3 h4 =>
  va_get (ws := [(a, .inr (ci, fs))]) F.1 F.2.1 F.2.2.2.2.1 hin F.2.2.2.1 F.2.2.2.2.2.1 (fun i q hq => by
    have hz : i < 1 := (List.getElem?_eq_some_iff.mp hq).1
    rw [show i = 0 by omega] at hq
    cases hq
    exact (h2 a _ (hw w _ h1)).2) 0 rfl hc j hj (F.2.2.2.2.1 _ hl) (by rw [hT]; exact fun _ h => h) hv d (k w H locs ls h1 h2 h3 h4)
theorem zg_put (F : zg_F K cc own rm) {P' : zg_P} {a ci N index : Nat} {C : String} {T : u_T} {fs : List Value} {v : Value} {ty : FieldType} (hw : ∀ w z, P w z → w a = some (.inr (ci, fs))) (hc : vwCl[ci]? = some (C, T, N)) (hin : ∀ w ∈ u_ws C T N, w ∈ zw_A) (ty0 : Nat → FieldType) (hty : ∀ k, k < N → parseFieldDescriptor (T k).2.2.1 = some (ty0 k)) (hnm : ∀ a, a < N → ∀ b, b < N → a ≠ b → (T a).2.1 ≠ (T b).2.1) (j : Nat) (hj : j < N) (hT : (T j).1 = C) (hl : Cond.fieldLink own index C (T j).2.1 (T j).2.2.1 ∈ zw_A) (hfin : (T j).2.2.2 = false) (hd : ty0 j = ty) (hn : narrow ty v = v) (hfit : fits ty v = true) (hlen : j < fs.length) (hP : ∀ w z, P w z → P' (zg_u w a (.inr (ci, fs.set j v))) z) (d : decode cc pc = .ok (.putfield index, 3)) (k : zg_G K P' cells slots (pc + 3) L st) : zg_G K P cells slots pc L (v :: .ref a :: st) := by
  intro w H locs ls h1 h2 h3 h4
  have hK := F.2.2.2.2.2.1
  have hts := F.2.2.2.2.1
  have hap := va_apart (own := own) hts hin ty0 hty hnm hK hc
  obtain ⟨hba, r, g1, cell, q1, q2, q3, q4⟩ := h2 a _ (hw w _ h1)
  have hr : r = (C, T, N) := Option.some.inj (g1.symm.trans hc)
  subst hr
  obtain ⟨hS, hfc, kC, hkC, hkind⟩ := hK.1 ci _ hc
  obtain ⟨cf, kf, fi, f, hi, hsl⟩ := hS j hj
  have hlay := hts _ (hin _ (u_in_lay hj))
  unfold u_lay at hlay
  rw [if_neg (by rw [hfin]; decide)] at hlay
  have hst := (u_facts hfc hkC (u_lays hts hin hj) hi).1
  have h6 := u_store hfc hkC hkind hlay hi (by rw [hty j hj, hd]) hn hfit
  refine W.putK F.1 F.2.1 (f := f) ⟨F.2.2.2.1, hts _ hl, ⟨_, _, _, by rw [hT] at hi; exact hi⟩, hst⟩ (by rw [q2]; exact h6) q1 q3 (by rw [hsl]; exact k2_hasslot (q4 j hj)) rfl rfl d fun H' e1 e2 e3 => ?_
  rw [hsl] at e1 ⊢
  refine k (zg_u w a (.inr (ci, fs.set j v))) H' _ ls (by rw [e2]; exact hP w _ h1) (h2.set hba ⟨_, hc, t_OB.to (V := updV (vp_V fs) j v) ⟨_, e1, q2, q3, t_set q4 hap hj v⟩ (fun i _ => vp_updV_set hlen v i)⟩ e3) (h3.put e2 e3 hba) h4
theorem zg_putF (F : zg_F K cc own rm) {P' : zg_P} {a ci N index : Nat} {C : String} {T : u_T} {fs : List Value} {v : Value} {ty : FieldType} (hinit : (zk_t K).name = "<init>") (hw : ∀ w z, P w z → w a = some (.inr (ci, fs))) (hc : vwCl[ci]? = some (C, T, N)) (hin : ∀ w ∈ u_ws C T N, w ∈ zw_A) (ty0 : Nat → FieldType) (hty : ∀ k, k < N → parseFieldDescriptor (T k).2.2.1 = some (ty0 k)) (hnm : ∀ a, a < N → ∀ b, b < N → a ≠ b → (T a).2.1 ≠ (T b).2.1) (j : Nat) (hj : j < N) (hT : (T j).1 = C) (hO : C = own) (hl : Cond.fieldLink own index C (T j).2.1 (T j).2.2.1 ∈ zw_A) (hfin : (T j).2.2.2 = true) (hd : ty0 j = ty) (hn : narrow ty v = v) (hfit : fits ty v = true) (hlen : j < fs.length) (hP : ∀ w z, P w z → P' (zg_u w a (.inr (ci, fs.set j v))) z) (d : decode cc pc = .ok (.putfield index, 3)) (k : zg_G K P' cells slots (pc + 3) L st) : zg_G K P cells slots pc L (v :: .ref a :: st) := by
  intro w H locs ls h1 h2 h3 h4
  have hK := F.2.2.2.2.2.1
  have hts := F.2.2.2.2.1
  have hown := F.2.2.2.1
  have hap := va_apart (own := own) hts hin ty0 hty hnm hK hc
  obtain ⟨hba, r, g1, cell, q1, q2, q3, q4⟩ := h2 a _ (hw w _ h1)
  have hr : r = (C, T, N) := Option.some.inj (g1.symm.trans hc)
  subst hr
  obtain ⟨hS, hfc, kC, hkC, hkind⟩ := hK.1 ci _ hc
  obtain ⟨cf, kf, fi, f, hi, hsl⟩ := hS j hj
  have hlay := hts _ (hin _ (u_in_lay hj))
  unfold u_lay at hlay
  rw [if_pos hfin] at hlay
  have hst := (u_facts hfc hkC (u_lays hts hin hj) hi).1
  have hcf : (zk_m K).cls = cf := by
    obtain ⟨_, _, c', _, _, _, -, -, hf', -, -, -, hown2, -⟩ := Cond.laysFinal_spec hlay
    have e1 : c' = cf := by have := hi.symm.trans hf'; simp at this; exact this.1.symm
    rw [hT, hO] at hown2
    rw [← e1]; exact Option.some.inj (hown.symm.trans hown2)
  have h6 := u_fits hfc hkC hkind (Or.inr hlay) hi (by rw [hty j hj, hd]) hn hfit
  refine W.putFinK F.1 F.2.1 hown (hts _ hl) (by rw [hT] at hi; exact hi) hst hcf hinit (by rw [q2]; exact h6) q1 q3 (by rw [hsl]; exact k2_hasslot (q4 j hj)) rfl rfl d fun H' e1 e2 e3 => ?_
  rw [hsl] at e1 ⊢
  refine k (zg_u w a (.inr (ci, fs.set j v))) H' _ ls (by rw [e2]; exact hP w _ h1) (h2.set hba ⟨_, hc, t_OB.to (V := updV (vp_V fs) j v) ⟨_, e1, q2, q3, t_set q4 hap hj v⟩ (fun i _ => vp_updV_set hlen v i)⟩ e3) (h3.put e2 e3 hba) h4
theorem zg_iald (F : zg_F K cc own rm) {a n j : Nat} {f : Nat → Int32} {v : Int32} (hw : ∀ w z, P w z → w a = some (.inl (zk_A K 0, n, .inl f))) (hj : j < n) (hn : n < 2 ^ 31) (hv : f j = v) (d : decode cc pc = .ok (.iaload, 1)) (k : zg_G K P cells slots (pc + 1) L (.int v :: st)) : zg_G K P cells slots pc L (.int (nI j) :: .ref a :: st) := fun w H locs ls h1 h2 h3 h4 =>
  va_iald (ws := [(a, .inl (zk_A K 0, n, .inl f))]) (cA := zk_A K 0) (f := f) F.1 F.2.1 F.2.2.2.2.2.1 (fun i q hq => by
    have hz : i < 1 := (List.getElem?_eq_some_iff.mp hq).1
    rw [show i = 0 by omega] at hq
    cases hq
    exact (h2 a _ (hw w _ h1)).2) 0 0 rfl rfl (vp_in_nI hj hn) d (by rw [nI_clamp (by omega), hv]; exact k w H locs ls h1 h2 h3 h4)
theorem zg_zald (F : zg_F K cc own rm) {a n j : Nat} {f : Nat → Int32} {v : Int32} (hw : ∀ w z, P w z → w a = some (.inl (zk_A K 1, n, .inl f))) (hj : j < n) (hn : n < 2 ^ 31) (hv : f j = v) (d : decode cc pc = .ok (.baload, 1)) (k : zg_G K P cells slots (pc + 1) L (.int v :: st)) : zg_G K P cells slots pc L (.int (nI j) :: .ref a :: st) := fun w H locs ls h1 h2 h3 h4 =>
  va_zald (ws := [(a, .inl (zk_A K 1, n, .inl f))]) (cA := zk_A K 1) (f := f) F.1 F.2.1 F.2.2.2.2.2.1 (fun i q hq => by
    have hz : i < 1 := (List.getElem?_eq_some_iff.mp hq).1
    rw [show i = 0 by omega] at hq
    cases hq
    exact (h2 a _ (hw w _ h1)).2) 0 1 rfl rfl (vp_in_nI hj hn) d (by rw [nI_clamp (by omega), hv]; exact k w H locs ls h1 h2 h3 h4)
theorem zg_lald (F : zg_F K cc own rm) {a n j : Nat} {f : Nat → Int64} {v : Int64} (hw : ∀ w z, P w z → w a = some (.inl (zk_A K 2, n, .inr (.inl f)))) (hj : j < n) (hn : n < 2 ^ 31) (hv : f j = v) (d : decode cc pc = .ok (.laload, 1)) (k : zg_G K P cells slots (pc + 1) L (.long v :: st)) : zg_G K P cells slots pc L (.int (nI j) :: .ref a :: st) := fun w H locs ls h1 h2 h3 h4 =>
  va_lald (ws := [(a, .inl (zk_A K 2, n, .inr (.inl f)))]) (cA := zk_A K 2) (f := f) F.1 F.2.1 F.2.2.2.2.2.1 (fun i q hq => by
    have hz : i < 1 := (List.getElem?_eq_some_iff.mp hq).1
    rw [show i = 0 by omega] at hq
    cases hq
    exact (h2 a _ (hw w _ h1)).2) 0 2 rfl rfl (vp_in_nI hj hn) d (by rw [nI_clamp (by omega), hv]; exact k w H locs ls h1 h2 h3 h4)
theorem zg_aald (F : zg_F K cc own rm) {a n j t0 q : Nat} {C : String} {f : Nat → Option Nat} (hw : ∀ w z, P w z → w a = some (.inl (zk_A K t0, n, .inr (.inr (.inr (.inr f)))))) (ht : (zg_T (zk_A K))[t0]? = some (zk_A K t0, .object C)) (hj : j < n) (hn : n < 2 ^ 31) (hv : f j = some q) (d : decode cc pc = .ok (.aaload, 1)) (k : zg_G K P cells slots (pc + 1) L (.ref q :: st)) : zg_G K P cells slots pc L (.int (nI j) :: .ref a :: st) := fun w H locs ls h1 h2 h3 h4 =>
  va_aldq (ws := [(a, .inl (zk_A K t0, n, .inr (.inr (.inr (.inr f)))))]) (cA := zk_A K t0) (f := f) F.1 F.2.1 F.2.2.2.2.2.1 (fun i q hq => by
    have hz : i < 1 := (List.getElem?_eq_some_iff.mp hq).1
    rw [show i = 0 by omega] at hq
    cases hq
    exact (h2 a _ (hw w _ h1)).2) 0 t0 rfl ht (vp_in_nI hj hn) d (by rw [nI_clamp (by omega), hv]; exact k w H locs ls h1 h2 h3 h4)
theorem zg_iast (F : zg_F K cc own rm) {P' : zg_P} {a n j : Nat} {f : Nat → Int32} {x : Int32} (hw : ∀ w z, P w z → w a = some (.inl (zk_A K 0, n, .inl (f)))) (hj : j < n) (hn : n < 2 ^ 31) (hP : ∀ w z, P w z → P' (zg_u w a (.inl (zk_A K 0, n, .inl (upd f j x)))) z) (d : decode cc pc = .ok (.iastore, 1)) (k : zg_G K P' cells slots (pc + 1) L st) : zg_G K P cells slots pc L (.int x :: .int (nI j) :: .ref a :: st) := by
  intro w H locs ls h1 h2 h3 h4
  obtain ⟨hba, hat⟩ := h2 a _ (hw w _ h1)
  refine W.iast F.1 F.2.1 hat ((F.2.2.2.2.2.1.2 0 _ rfl).1 n (fun i => .int (f i))) (fun q => by cases q) (by show ¬ (nI j < 0 ∨ (arrV _ _ _).slots.size ≤ _); rw [arrV_size]; exact vp_in_nI hj hn) rfl rfl d fun H1 e z oq => ?_
  have hcl : (nI j).toNatClampNeg = j := nI_clamp (by omega)
  rw [hcl] at e ⊢
  refine k (zg_u w a (.inl (zk_A K 0, n, .inl (upd f j x)))) H1 _ ls (by rw [z]; exact hP w _ h1) (h2.set hba ?_ oq) (h3.put z oq hba) h4
  show H1[a]? = some (vp_cell _ _)
  rw [e, vp_cell_i, vp_cell_i, arrV_store]
  congr 2
  funext q
  by_cases hq : q = j
  · subst hq
    simp [updV, upd]
    try rfl
  · simp [updV, upd, hq]
theorem zg_zast (F : zg_F K cc own rm) {P' : zg_P} {a n j : Nat} {f : Nat → Int32} {x : Int32} (hw : ∀ w z, P w z → w a = some (.inl (zk_A K 1, n, .inl (f)))) (hj : j < n) (hn : n < 2 ^ 31) (hP : ∀ w z, P w z → P' (zg_u w a (.inl (zk_A K 1, n, .inl (upd f j (vp_nar .boolean x))))) z) (d : decode cc pc = .ok (.bastore, 1)) (k : zg_G K P' cells slots (pc + 1) L st) : zg_G K P cells slots pc L (.int x :: .int (nI j) :: .ref a :: st) := by
  intro w H locs ls h1 h2 h3 h4
  obtain ⟨hba, hat⟩ := h2 a _ (hw w _ h1)
  refine W.zast F.1 F.2.1 hat ((F.2.2.2.2.2.1.2 1 _ rfl).1 n (fun i => .int (f i))) (fun q => by cases q) (by show ¬ (nI j < 0 ∨ (arrV _ _ _).slots.size ≤ _); rw [arrV_size]; exact vp_in_nI hj hn) rfl rfl d fun H1 e z oq => ?_
  have hcl : (nI j).toNatClampNeg = j := nI_clamp (by omega)
  rw [hcl] at e ⊢
  refine k (zg_u w a (.inl (zk_A K 1, n, .inl (upd f j (vp_nar .boolean x))))) H1 _ ls (by rw [z]; exact hP w _ h1) (h2.set hba ?_ oq) (h3.put z oq hba) h4
  show H1[a]? = some (vp_cell _ _)
  rw [e, vp_cell_i, vp_cell_i, arrV_store]
  congr 2
  funext q
  by_cases hq : q = j
  · subst hq
    simp [updV, upd, vp_nar]
    try rfl
  · simp [updV, upd, vp_nar, hq]
theorem zg_last (F : zg_F K cc own rm) {P' : zg_P} {a n j : Nat} {f : Nat → Int64} {x : Int64} (hw : ∀ w z, P w z → w a = some (.inl (zk_A K 2, n, .inr (.inl (f))))) (hj : j < n) (hn : n < 2 ^ 31) (hP : ∀ w z, P w z → P' (zg_u w a (.inl (zk_A K 2, n, .inr (.inl (vp_updL f j x))))) z) (d : decode cc pc = .ok (.lastore, 1)) (k : zg_G K P' cells slots (pc + 1) L st) : zg_G K P cells slots pc L (.long x :: .int (nI j) :: .ref a :: st) := by
  intro w H locs ls h1 h2 h3 h4
  obtain ⟨hba, hat⟩ := h2 a _ (hw w _ h1)
  refine W.last F.1 F.2.1 hat ((F.2.2.2.2.2.1.2 2 _ rfl).1 n (fun i => .long (f i))) (fun q => by cases q) (by show ¬ (nI j < 0 ∨ (arrV _ _ _).slots.size ≤ _); rw [arrV_size]; exact vp_in_nI hj hn) rfl rfl d fun H1 e z oq => ?_
  have hcl : (nI j).toNatClampNeg = j := nI_clamp (by omega)
  rw [hcl] at e ⊢
  refine k (zg_u w a (.inl (zk_A K 2, n, .inr (.inl (vp_updL f j x))))) H1 _ ls (by rw [z]; exact hP w _ h1) (h2.set hba ?_ oq) (h3.put z oq hba) h4
  show H1[a]? = some (vp_cell _ _)
  rw [e, vp_cell_l, vp_cell_l, arrV_store]
  congr 2
  funext q
  by_cases hq : q = j
  · subst hq
    simp [updV, vp_updL]
    try rfl
  · simp [updV, vp_updL, hq]
theorem zg_aast (F : zg_F K cc own rm) {P' : zg_P} {a n j t0 v ci : Nat} {r : vw_C} {vs : List Value} {f : Nat → Option Nat} (hw : ∀ w z, P w z → w a = some (.inl (zk_A K t0, n, .inr (.inr (.inr (.inr f)))))) (ht : (zg_T (zk_A K))[t0]? = some (zk_A K t0, .object r.1)) (hv : ∀ w z, P w z → w v = some (.inr (ci, vs))) (hc : vwCl[ci]? = some r) (hj : j < n) (hn : n < 2 ^ 31) (hP : ∀ w z, P w z → P' (zg_u w a (.inl (zk_A K t0, n, .inr (.inr (.inr (.inr (va_up f j (some v)))))))) z) (d : decode cc pc = .ok (.aastore, 1)) (k : zg_G K P' cells slots (pc + 1) L st) : zg_G K P cells slots pc L (.ref v :: .int (nI j) :: .ref a :: st) := by
  intro w H locs ls h1 h2 h3 h4
  have hK := F.2.2.2.2.2.1
  obtain ⟨hba, hat⟩ := h2 a _ (hw w _ h1)
  obtain ⟨-, r', hr', cellV, g1, g2, g3, -⟩ := h2 v _ (hv w _ h1)
  have hin : vp_in (nI j) n := vp_in_nI hj hn
  have hcl : (nI j).toNatClampNeg = j := nI_clamp (by omega)
  have h0 : ¬ nI j < 0 := fun q => hin (Or.inl q)
  have hcls := (hK.1 ci r hc).2
  obtain ⟨kA, comp, k1, k2, k3, -⟩ := (hK.2 t0 _ ht).2
  have hcomp : comp = (zk_D K).1 ci := Option.some.inj (k3.symm.trans hcls.1)
  subst hcomp
  obtain ⟨kC, hkC, -⟩ := hcls.2
  refine W.aast F.1 F.2.1 hat (fun q h => by cases h) (fun h => by cases h) k1 k2 rfl hkC ⟨h0, by show _ < (arrV _ _ _).slots.size; rw [arrV_size, hcl]; exact hj⟩ g1 (fun q h => by rw [g3] at h; cases h) (by rw [g2]; exact hkC) (by rw [g2]; exact va_assign hcls) rfl rfl d fun H1 e z oq => ?_
  rw [hcl] at e ⊢
  refine k (zg_u w a (.inl (zk_A K t0, n, .inr (.inr (.inr (.inr (va_up f j (some v)))))))) H1 _ ls (by rw [z]; exact hP w _ h1) (h2.set hba ?_ oq) (h3.put z oq hba) h4
  show H1[a]? = some (vp_cell _ _)
  rw [e, vp_cell_q, vp_cell_q, arrV_store]
  congr 2
  funext q
  by_cases hq : q = j
  · subst hq
    simp [updV, va_up, va_rf]
  · simp [updV, va_up, hq]
theorem zg_new (F : zg_F K cc own rm) {P' : zg_P} {ci N index sz : Nat} {C : String} {T : u_T} {fs : List Value} (hc : vwCl[ci]? = some (C, T, N)) (hin : ∀ w ∈ u_ws C T N, w ∈ zw_A) (ty0 : Nat → FieldType) (hty : ∀ k, k < N → parseFieldDescriptor (T k).2.2.1 = some (ty0 k)) (hcl : Cond.classLink own index C ∈ zw_A) (hinst : Cond.instantiable C N ∈ zw_A) (hini : Cond.initialized C ∈ zw_A) (hfs : ∀ j, j < N → defaultValue (ty0 j) = vp_V fs j) (hcells : cells + 1 ≤ rm.cells) (hslots : slots + N ≤ rm.slots) (hz : ∀ w z, P w z → z = sz) (hP : ∀ w, P w sz → w sz = none → P' (zg_u w sz (.inr (ci, fs))) (sz + 1)) (d : decode cc pc = .ok (.new index, 3)) (k : zg_G K P' (cells + 1) (slots + N) (pc + 3) L (.ref sz :: st)) : zg_G K P cells slots pc L st := by
  intro w H locs ls h1 h2 h3 h4
  have hts := F.2.2.2.2.1
  have hKn := F.2.2.2.2.2.1.1 ci _ hc
  have hsz := hz w _ h1
  have hbase : zk_z K ≤ H.size := Nat.le_trans (zf_b F) h3.1
  refine W.newcK F.1 F.2.1 F.2.2.2.1 (hts _ hcl) (hts _ hinst) (hts _ hini) rfl d (by rw [zf_R F]; exact hcells) (by rw [zf_R F]; exact hslots) hKn.2.1 hsz fun H1 kC hkC e1 z1 o1 => ?_
  subst hsz
  refine k (zg_u w H.size (.inr (ci, fs))) H1 locs ls (by rw [z1]; exact hP w h1 (h2.none (Nat.le_refl _))) (h2.push hbase ⟨_, hc, (u_born ty0 hts hin hKn hkC e1 hty).to hfs⟩ o1) ⟨Nat.le_trans h3.1 (by omega), fun x g1 g2 => (o1 x (Nat.lt_of_lt_of_le g1 h3.1)).trans (h3.2.1 x g1 g2), h3.2.2⟩ h4
theorem zg_newI (F : zg_F K cc own rm) {P' : zg_P} {n sz : Nat} (harr : Cond.arrayClass .int ∈ zw_A) (hn : n < 1024) (hcells : cells + 1 ≤ rm.cells) (hslots : slots + n ≤ rm.slots) (hz : ∀ w z, P w z → z = sz) (hP : ∀ w, P w sz → w sz = none → P' (zg_u w sz (.inl (zk_A K 0, n, .inl (fun _ => 0)))) (sz + 1)) (d : decode cc pc = .ok (.newarray .int, 2)) (k : zg_G K P' (cells + 1) (slots + n) (pc + 2) L (.ref sz :: st)) : zg_G K P cells slots pc L (.int (nI n) :: st) := by
  intro w H locs ls h1 h2 h3 h4
  have hts := F.2.2.2.2.1
  have hsz := hz w _ h1
  have hbase : zk_z K ≤ H.size := Nat.le_trans (zf_b F) h3.1
  refine va_newaK (atype := .int) F.1 F.2.1 (hts _ harr) rfl d rfl (nI_pos (by omega)) (nI_clamp (by omega)) (by show n * _ ≤ _; simp only [componentBytes, newarray.typeOf]; omega) (by rw [zf_R F]; exact hcells) (by rw [zf_R F]; exact hslots) hsz fun H1 cA e1 z1 o1 hAr hNm => ?_
  have hcA : cA = zk_A K 0 := Option.some.inj (hNm.symm.trans (F.2.2.2.2.2.1.2 0 _ rfl).2)
  subst hcA
  subst hsz
  refine k (zg_u w H.size (.inl (zk_A K 0, n, .inl (fun _ => 0)))) H1 locs ls (by rw [z1]; exact hP w h1 (h2.none (Nat.le_refl _))) (h2.push hbase ?_ o1) ⟨Nat.le_trans h3.1 (by omega), fun x g1 g2 => (o1 x (Nat.lt_of_lt_of_le g1 h3.1)).trans (h3.2.1 x g1 g2), h3.2.2⟩ h4
  show H1[H.size]? = some (vp_cell _ _)
  rw [e1, vp_cell_i]
  rfl
theorem zg_newZ (F : zg_F K cc own rm) {P' : zg_P} {n sz : Nat} (harr : Cond.arrayClass .boolean ∈ zw_A) (hn : n < 1024) (hcells : cells + 1 ≤ rm.cells) (hslots : slots + n ≤ rm.slots) (hz : ∀ w z, P w z → z = sz) (hP : ∀ w, P w sz → w sz = none → P' (zg_u w sz (.inl (zk_A K 1, n, .inl (fun _ => 0)))) (sz + 1)) (d : decode cc pc = .ok (.newarray .boolean, 2)) (k : zg_G K P' (cells + 1) (slots + n) (pc + 2) L (.ref sz :: st)) : zg_G K P cells slots pc L (.int (nI n) :: st) := by
  intro w H locs ls h1 h2 h3 h4
  have hts := F.2.2.2.2.1
  have hsz := hz w _ h1
  have hbase : zk_z K ≤ H.size := Nat.le_trans (zf_b F) h3.1
  refine va_newaK (atype := .boolean) F.1 F.2.1 (hts _ harr) rfl d rfl (nI_pos (by omega)) (nI_clamp (by omega)) (by show n * _ ≤ _; simp only [componentBytes, newarray.typeOf]; omega) (by rw [zf_R F]; exact hcells) (by rw [zf_R F]; exact hslots) hsz fun H1 cA e1 z1 o1 hAr hNm => ?_
  have hcA : cA = zk_A K 1 := Option.some.inj (hNm.symm.trans (F.2.2.2.2.2.1.2 1 _ rfl).2)
  subst hcA
  subst hsz
  refine k (zg_u w H.size (.inl (zk_A K 1, n, .inl (fun _ => 0)))) H1 locs ls (by rw [z1]; exact hP w h1 (h2.none (Nat.le_refl _))) (h2.push hbase ?_ o1) ⟨Nat.le_trans h3.1 (by omega), fun x g1 g2 => (o1 x (Nat.lt_of_lt_of_le g1 h3.1)).trans (h3.2.1 x g1 g2), h3.2.2⟩ h4
  show H1[H.size]? = some (vp_cell _ _)
  rw [e1, vp_cell_i]
  rfl
theorem zg_newL (F : zg_F K cc own rm) {P' : zg_P} {n sz : Nat} (harr : Cond.arrayClass .long ∈ zw_A) (hn : n < 1024) (hcells : cells + 1 ≤ rm.cells) (hslots : slots + n ≤ rm.slots) (hz : ∀ w z, P w z → z = sz) (hP : ∀ w, P w sz → w sz = none → P' (zg_u w sz (.inl (zk_A K 2, n, .inr (.inl (fun _ => 0))))) (sz + 1)) (d : decode cc pc = .ok (.newarray .long, 2)) (k : zg_G K P' (cells + 1) (slots + n) (pc + 2) L (.ref sz :: st)) : zg_G K P cells slots pc L (.int (nI n) :: st) := by
  intro w H locs ls h1 h2 h3 h4
  have hts := F.2.2.2.2.1
  have hsz := hz w _ h1
  have hbase : zk_z K ≤ H.size := Nat.le_trans (zf_b F) h3.1
  refine va_newaK (atype := .long) F.1 F.2.1 (hts _ harr) rfl d rfl (nI_pos (by omega)) (nI_clamp (by omega)) (by show n * _ ≤ _; simp only [componentBytes, newarray.typeOf]; omega) (by rw [zf_R F]; exact hcells) (by rw [zf_R F]; exact hslots) hsz fun H1 cA e1 z1 o1 hAr hNm => ?_
  have hcA : cA = zk_A K 2 := Option.some.inj (hNm.symm.trans (F.2.2.2.2.2.1.2 2 _ rfl).2)
  subst hcA
  subst hsz
  refine k (zg_u w H.size (.inl (zk_A K 2, n, .inr (.inl (fun _ => 0))))) H1 locs ls (by rw [z1]; exact hP w h1 (h2.none (Nat.le_refl _))) (h2.push hbase ?_ o1) ⟨Nat.le_trans h3.1 (by omega), fun x g1 g2 => (o1 x (Nat.lt_of_lt_of_le g1 h3.1)).trans (h3.2.1 x g1 g2), h3.2.2⟩ h4
  show H1[H.size]? = some (vp_cell _ _)
  rw [e1, vp_cell_l]
  rfl
theorem zg_newA (F : zg_F K cc own rm) {P' : zg_P} {n sz t0 index : Nat} {C : String} (ht : (zg_T (zk_A K))[t0]? = some (zk_A K t0, .object C)) (hcl : Cond.classLink own index C ∈ zw_A) (hover : va_AO C (zk_s K)) (hn : n < 1024) (hcells : cells + 1 ≤ rm.cells) (hslots : slots + n ≤ rm.slots) (hz : ∀ w z, P w z → z = sz) (hP : ∀ w, P w sz → w sz = none → P' (zg_u w sz (.inl (zk_A K t0, n, .inr (.inr (.inr (.inr (fun _ => none))))))) (sz + 1)) (d : decode cc pc = .ok (.anewarray index, 3)) (k : zg_G K P' (cells + 1) (slots + n) (pc + 3) L (.ref sz :: st)) : zg_G K P cells slots pc L (.int (nI n) :: st) := by
  intro w H locs ls h1 h2 h3 h4
  have hts := F.2.2.2.2.1
  have hsz := hz w _ h1
  have hbase : zk_z K ≤ H.size := Nat.le_trans (zf_b F) h3.1
  have hcn : (nI n).toNatClampNeg = n := nI_clamp (by omega)
  refine W.anew F.1 F.2.1 F.2.2.2.1 (hts _ hcl) (va_AO.use hover) rfl d rfl (nI_pos (by omega)) (by rw [hcn]; omega) (by rw [zf_R F]; exact hcells) (by rw [hcn, zf_R F]; exact hslots) fun cA kA comp f1 f2 f3 f4 => ?_
  rw [hcn]
  have hcA : cA = zk_A K t0 := by
    obtain ⟨kA', comp', k1, k2, k3, k4⟩ := (F.2.2.2.2.2.1.2 t0 _ ht).2
    first | exact Option.some.inj (f4.symm.trans k4) | exact Option.some.inj (f1.symm.trans k4)
  subst hcA
  subst hsz
  generalize hH1 : H.push ({ cls := zk_A K t0, slots := Array.replicate n .null, vm := .none } : Cell) = H1
  have z1 : H1.size = H.size + 1 := by rw [← hH1, Array.size_push]
  have e1 : H1[H.size]? = some (arrV (zk_A K t0) n (fun _ => .null)) := by rw [← hH1, Array.getElem?_push_size, ← arrV_new]
  have o1 : ∀ q : Nat, q < H.size → H1[q]? = H[q]? := fun q hq => by rw [← hH1, Array.getElem?_push, if_neg (Nat.ne_of_lt hq)]
  refine k (zg_u w H.size (.inl (zk_A K t0, n, .inr (.inr (.inr (.inr (fun _ => none))))))) H1 locs ls (by rw [z1]; exact hP w h1 (h2.none (Nat.le_refl _))) (h2.push hbase ?_ o1) ⟨Nat.le_trans h3.1 (by omega), fun x g1 g2 => (o1 x (Nat.lt_of_lt_of_le g1 h3.1)).trans (h3.2.1 x g1 g2), h3.2.2⟩ h4
  show H1[H.size]? = some (vp_cell _ _)
  rw [e1, vp_cell_q]
  rfl
end ZGA
end
section
def zg_rm (d mc ms : Nat) : Room := { frames := d, cells := mc, slots := ms, locals := 32 * d }
def zg_Pc (D : va_G) (A : Nat → ClassId) (base : Nat) (av : List Value) (P : zg_P) : Array Value → State → Prop := va_Pc av (fun U => base ≤ U.heap.size ∧ va_K D vwCl (zg_T A) U ∧ zg_N base U ∧ ∃ w, P w U.heap.size ∧ zg_H D vwCl base w U.heap)
def zg_Qc (D : va_G) (base : Nat) (r : Option Value) (P' : zg_P) : Array Value → State → Outcome → State → Prop := fun _ st oc t => oc = .returned r ∧ (∃ w, P' w t.heap.size ∧ zg_H D vwCl base w t.heap) ∧ va_F (fun q => base ≤ q) st t
/-- a method's contract: from a world with P, at these arguments, it returns r in a world with P' -/
def zg_Met (l : Launch) (y : MethodName) (cc : ByteArray) (maxL : Nat) (ret : Option FieldType) (d mc ms : Nat) (D : va_G) (A : Nat → ClassId) (base : Nat) (av : List Value) (P : zg_P) (r : Option Value) (P' : zg_P) : Prop := Met l y (zw_ y cc maxL ret) (zg_rm d mc ms) (zg_Pc D A base av P) (zg_Qc D base r P') mc ms (fun q => base ≤ q)
def zg_E (K : zg_K) (ret : Option FieldType) (mc ms : Nat) (r : Option Value) (P' : zg_P) : Prop := (zk_t K).sig.returnType = ret ∧ (zk_t K).locks = false ∧ ∀ t, MQ (zk_b K) (zg_Qc (zk_D K) (zk_z K) r P') (zk_a K) (zk_s K) mc ms (fun q => zk_z K ≤ q) t → zk_Q K t
theorem zg_Wmono {p : Program} {l : Launch} {e : Env} {R : Room} {s : State} {m : MethodId} {args : Array Value} {below : List Frame} {meth : Method} {c : Code} {H : Heap} {locs : List Loc} {cells slots : Nat} {Q Q' : State → Prop} {g : JFrame} (h : ∀ t, Q t → Q' t) (k : W p l e R s m args below meth c H locs cells slots Q g) : W p l e R s m args below meth c H locs cells slots Q' g := fun T hT X => by
  obtain ⟨t, a, b⟩ := k T hT X
  exact ⟨t, a, h t b⟩
theorem zg_met {l : Launch} {y : MethodName} {d mc ms maxL base : Nat} {D : va_G} {A : Nat → ClassId} {av : List Value} {P P' : zg_P} {r : Option Value} {cc : ByteArray} {ret : Option FieldType} (hy : plainName y.cls = true) (hlen : (lg_sl av).length ≤ maxL)
    (body : ∀ K : zg_K, zk_l K = l → zk_D K = D → zk_A K = A → zk_z K = base → zk_n K = maxL → (zk_t K).name = y.name → zg_F K cc y.cls (zg_rm d mc ms) → zg_E K ret mc ms r P' → zg_G K P 0 0 0 (lv_args 0 av) []) : zg_Met l y cc maxL ret d mc ms D A base av P r P' := by
  refine Met.ofW (cc := cc) (maxL := maxL) (ret := ret) hy rfl ?_
  intro p e s m args below meth c s₁ B hml hv
  obtain ⟨rfl, hbase, hK, hN, w, hP, hH⟩ := hv
  have hts := atoms_spec (ws := zw_ y cc maxL ret) B.pre
  have hown : s.vm.findClass y.cls = some m.cls := findClass_of_methodNamed B.named
  have hk := body (p, l, e, (headSpec (zw_ y cc maxL ret) (zg_rm d mc ms)).room, s, m, av.toArray, below, meth, c, MQ below (zg_Qc D base r P') av.toArray s mc ms (fun q => base ≤ q), D, A, base, maxL) rfl rfl rfl rfl rfl (name_of_methodNamed B.named B.method).1
    ⟨B.exec, B.bytes, hml, hown, fun w hw => hts w (List.mem_cons_of_mem _ hw), hK, hN, hbase, rfl⟩ ⟨B.returns, B.notSynchronized, fun t h => h⟩
  rw [lg_entry_eq]
  exact hk w s.heap [] _ hP hH va_S.rf (lv_entry av hlen)
section ZGR
variable {K : zg_K} {P : zg_P} {cells slots pc : Nat} {L : List (Nat × Value)} {st : List Value} {cc : ByteArray} {own : String} {rm : Room} {mc ms : Nat} {P' : zg_P}
theorem zg_iret (F : zg_F K cc own rm) {v : Int32} (E : zg_E K (some .int) mc ms (some (.int v)) P') (hc : cells ≤ mc) (hs : slots ≤ ms) (hP : ∀ w z, P w z → P' w z) (d : decode cc pc = .ok (.ireturn, 1)) : zg_G K P cells slots pc L [.int v] := fun w H locs ls h1 h2 h3 _ =>
  zg_Wmono E.2.2 (W.widen hc hs (W.iret F.1 F.2.1 E.1 (fun t ht _ => ⟨rfl, ⟨w, by rw [ht]; exact hP w _ h1, by rw [ht]; exact h2⟩, h3.F ht⟩) h3.2.2 d E.2.1))
theorem zg_zret (F : zg_F K cc own rm) {v : Int32} (E : zg_E K (some .boolean) mc ms (some (.int v)) P') (hn : narrow .boolean (.int v) = .int v) (hc : cells ≤ mc) (hs : slots ≤ ms) (hP : ∀ w z, P w z → P' w z) (d : decode cc pc = .ok (.ireturn, 1)) : zg_G K P cells slots pc L [.int v] := fun w H locs ls h1 h2 h3 _ =>
  zg_Wmono E.2.2 (W.widen hc hs (W.zret F.1 F.2.1 E.1 hn (fun t ht _ => ⟨rfl, ⟨w, by rw [ht]; exact hP w _ h1, by rw [ht]; exact h2⟩, h3.F ht⟩) h3.2.2 d E.2.1))
theorem zg_lret (F : zg_F K cc own rm) {v : Int64} (E : zg_E K (some .long) mc ms (some (.long v)) P') (hc : cells ≤ mc) (hs : slots ≤ ms) (hP : ∀ w z, P w z → P' w z) (d : decode cc pc = .ok (.lreturn, 1)) : zg_G K P cells slots pc L [.long v] := fun w H locs ls h1 h2 h3 _ =>
  zg_Wmono E.2.2 (W.widen hc hs (W.lret F.1 F.2.1 E.1 (fun t ht _ => ⟨rfl, ⟨w, by rw [ht]; exact hP w _ h1, by rw [ht]; exact h2⟩, h3.F ht⟩) h3.2.2 d E.2.1))
theorem zg_vret (F : zg_F K cc own rm) (E : zg_E K none mc ms none P') (hc : cells ≤ mc) (hs : slots ≤ ms) (hP : ∀ w z, P w z → P' w z) (d : decode cc pc = .ok (.return_, 1)) : zg_G K P cells slots pc L [] := fun w H locs ls h1 h2 h3 _ =>
  zg_Wmono E.2.2 (W.widen hc hs (W.vret F.1 F.2.1 E.1 (fun t ht _ => ⟨rfl, ⟨w, by rw [ht]; exact hP w _ h1, by rw [ht]; exact h2⟩, h3.F ht⟩) h3.2.2 d E.2.1))
theorem zg_aret (F : zg_F K cc own rm) {a : Nat} {C : String} (E : zg_E K (some (.object C)) mc ms (some (.ref a)) P') (hc : cells ≤ mc) (hs : slots ≤ ms) (hP : ∀ w z, P w z → P' w z) (d : decode cc pc = .ok (.areturn, 1)) : zg_G K P cells slots pc L [.ref a] := fun w H locs ls h1 h2 h3 _ =>
  zg_Wmono E.2.2 (W.widen hc hs (W.aret F.1 F.2.1 E.1 (Or.inl ⟨C, rfl⟩) (Or.inr ⟨a, rfl⟩) (fun t ht _ => ⟨rfl, ⟨w, by rw [ht]; exact hP w _ h1, by rw [ht]; exact h2⟩, h3.F ht⟩) h3.2.2 d E.2.1))
end ZGR
theorem zg_blind {D : va_G} {A : Nat → ClassId} {base : Nat} {av : List Value} {P : zg_P} : FrameBlind (zg_Pc D A base av P) := by
  intro a U g mk h
  obtain ⟨h0, h1, h2, h3, h4⟩ := h
  exact ⟨h0, h1, va_K.moved (u := U) (U := U.calling g mk a) (Vm.Alike.refl U.vm) h2, zg_N.calling h3, h4⟩
section ZGC
variable {K : zg_K} {P : zg_P} {cells slots pc : Nat} {L : List (Nat × Value)} {st : List Value} {cc : ByteArray} {own : String} {rm : Room} {mc ms : Nat} {P' : zg_P}
theorem zg_pre (F : zg_F K cc own rm) {w : zg_w} {H : Heap} {locs : List Loc} {av : List Value} (h1 : P w H.size) (h2 : zg_H (zk_D K) vwCl (zk_z K) w H) (h3 : va_S (fun q => zk_z K ≤ q) (zk_s K).heap H locs) : ∀ U : State, U.heap = H → (zk_s K).WarmedH U.vm → zg_Pc (zk_D K) (zk_A K) (zk_z K) av P av.toArray U := by
  intro U hU hW
  subst hU
  exact ⟨rfl, Nat.le_trans (zf_b F) h3.1, va_K.moved hW.alike F.2.2.2.2.2.1, zg_N.moved hW h3 (zf_N F), w, h1, h2⟩
theorem zg_after {r : Option Value} {rest st0 : List Value} {a : Array Value} {w : zg_w} {H : Heap} {locs : List Loc} {ls : Array Slot} (h3 : va_S (fun q => zk_z K ≤ q) (zk_s K).heap H locs) (h4 : lv_has ls (zk_n K) L)
    (hr : va_Run (zk_p K) (zk_l K) (zk_e K) (zk_R K) (zk_s K) (zk_m K) (zk_a K) (zk_b K) (zk_t K) (zk_c K) H locs cells slots mc ms (F0 (zk_m K) pc ls st0) rest (zg_Qc (zk_D K) (zk_z K) r P' a) (fun q => zk_z K ≤ q))
    (k : zg_G K P' (cells + mc) (slots + ms) (pc + 3) L (r.toList ++ rest)) : zg_W K H locs cells slots (F0 (zk_m K) pc ls st0) := by
  intro T hT X
  obtain ⟨v, st₀, t, T', L', h0, X', hL, e1, e2, ⟨hv, ⟨w', hP', hH'⟩, hz, hk⟩, sts⟩ := hr T hT X
  cases hv
  rw [h0] at hz hk
  obtain ⟨t2, a1, b1⟩ := k w' T'.heap (locs ++ L') ls (by rw [e1]; exact hP') (by rw [e1]; exact hH')
    ⟨Nat.le_trans h3.1 (by rw [e1]; exact hz), fun q g1 g2 => by rw [e1, hk q (Nat.lt_of_lt_of_le g1 h3.1) g2]; exact h3.2.1 q g1 g2, fun q hq => by
      rcases List.mem_append.mp hq with h | h
      · exact h3.2.2 q h
      · exact hL q h⟩ h4 T' rfl X'
  exact ⟨t2, sts t2 a1, b1⟩
/-- the words that say of a method what a call needs -/
def zg_V (y : MethodName) (bytes : ByteArray) (maxL : Nat) (ret : Option FieldType) (n : Nat) : Prop := Cond.code y bytes maxL ret ∈ zw_A ∧ Cond.initialized y.cls ∈ zw_A ∧ (y.cls ≠ "java/lang/invoke/MethodHandle" ∧ y.cls ≠ "java/lang/invoke/VarHandle" ∧ (parseMethodDescriptor y.desc).map (fun d => d.parameters.length) = some n)
theorem zg_cb (F : zg_F K cc own rm) {y : MethodName} {bytes : ByteArray} {maxL n index d : Nat} {ret : Option FieldType} (hv : zg_V y bytes maxL ret n) (hl : Cond.methodLink own index y ∈ zw_A) (hR : d + 1 ≤ rm.frames ∧ 8 + (maxL + 11) + 32 * d ≤ rm.locals) : CallB (zk_R K) (zk_s K) (zk_a K) own index y bytes maxL ret (zw_ y bytes maxL ret) (zg_rm d mc ms) mc ms n :=
  callB_of n F.2.2.2.2.1 (zw_good hv.1) rfl rfl rfl (F.2.2.2.2.1 _ hv.2.1) (F.2.2.2.2.1 _ hl) hv.2.2 (by rw [zf_R F]; exact hR)
theorem zg_recv (F : zg_F K cc own rm) {w : zg_w} {H : Heap} {b ci : Nat} {fs : List Value} {q : vw_C} (h2 : zg_H (zk_D K) vwCl (zk_z K) w H) (hw : w b = some (.inr (ci, fs))) (hc : vwCl[ci]? = some q) : ∃ cell : Cell, H[b]? = some cell ∧ cell.vm.isStatics = false ∧ (zk_s K).vm.findClass q.1 = some cell.cls := by
  obtain ⟨-, q', h1, cell, g1, g2, g3, -⟩ := h2 b _ hw
  exact ⟨cell, g1, by rw [g3]; rfl, by rw [g2]; exact (F.2.2.2.2.2.1.1 ci q hc).2.1⟩
theorem zg_callV (F : zg_F K cc own rm) {y : MethodName} {bytes : ByteArray} {maxL n index d b ci : Nat} {ret : Option FieldType} {As rest : List Value} {r : Option Value} {fs : List Value} {T : u_T} {N : Nat} (hM : zg_Met (zk_l K) y bytes maxL ret d mc ms (zk_D K) (zk_A K) (zk_z K) (.ref b :: As) P r P') (hv : zg_V y bytes maxL ret n) (hi : Cond.instanceMethod y ∈ zw_A ∧ Cond.selects y.cls y y ∈ zw_A) (hl : Cond.methodLink own index y ∈ zw_A) (hw : ∀ w z, P w z → w b = some (.inr (ci, fs))) (hc : vwCl[ci]? = some (y.cls, T, N)) (hn : As.length = n) (hR : d + 1 ≤ rm.frames ∧ 8 + (maxL + 11) + 32 * d ≤ rm.locals) (hf : cells + mc ≤ rm.cells ∧ slots + ms ≤ rm.slots) (hst : st = As.reverse ++ .ref b :: rest) (hW : (rest.map fun v => v.category).sum ≤ 8) (dd : decode cc pc = .ok (.invokevirtual index, 3)) (k : zg_G K P' (cells + mc) (slots + ms) (pc + 3) L (r.toList ++ rest)) : zg_G K P cells slots pc L st := fun w H locs ls h1 h2 h3 h4 =>
  zg_after (w := w) h3 h4 (va_runV (b := b) (As := As) ⟨F.1, F.2.1, F.2.2.1, F.2.2.2.1, F.2.2.2.2.1⟩ hM ⟨zg_cb F hv hl hR, F.2.2.2.2.1 _ hi.1, F.2.2.2.2.1 _ hi.2⟩ ⟨zg_blind, zg_recv F h2 (hw w _ h1) hc, zg_pre F h1 h2 h3⟩ rfl hn h4.1 hst (by show 2 * 0 + _ ≤ 8; omega) dd (by rw [zf_R F]; exact hf)) k
theorem zg_callS (F : zg_F K cc own rm) {y : MethodName} {bytes : ByteArray} {maxL n index d : Nat} {ret : Option FieldType} {As rest : List Value} {r : Option Value} (hM : zg_Met (zk_l K) y bytes maxL ret d mc ms (zk_D K) (zk_A K) (zk_z K) As P r P') (hv : zg_V y bytes maxL ret n) (hi : Cond.static y ∈ zw_A) (hl : Cond.methodLink own index y ∈ zw_A) (hn : As.length = n) (hR : d + 1 ≤ rm.frames ∧ 8 + (maxL + 11) + 32 * d ≤ rm.locals) (hf : cells + mc ≤ rm.cells ∧ slots + ms ≤ rm.slots) (hst : st = As.reverse ++ rest) (hW : (rest.map fun v => v.category).sum ≤ 8) (dd : decode cc pc = .ok (.invokestatic index, 3)) (k : zg_G K P' (cells + mc) (slots + ms) (pc + 3) L (r.toList ++ rest)) : zg_G K P cells slots pc L st := fun w H locs ls h1 h2 h3 h4 =>
  zg_after (w := w) h3 h4 (va_runS (As := As) ⟨F.1, F.2.1, F.2.2.1, F.2.2.2.1, F.2.2.2.2.1⟩ hM ⟨zg_cb F hv hl hR, F.2.2.2.2.1 _ hi⟩ ⟨zg_blind, zg_pre F h1 h2 h3⟩ rfl hn h4.1 hst (by show 2 * 0 + _ ≤ 8; omega) dd (by rw [zf_R F]; exact hf)) k
theorem zg_callI (F : zg_F K cc own rm) {y : MethodName} {bytes : ByteArray} {maxL n index d b : Nat} {As rest : List Value} {r : Option Value} (hM : zg_Met (zk_l K) y bytes maxL none d mc ms (zk_D K) (zk_A K) (zk_z K) (.ref b :: As) P r P') (hv : zg_V y bytes maxL none n) (hi : y.name = "<init>" ∧ Cond.instanceMethod y ∈ zw_A) (hl : Cond.methodLink own index y ∈ zw_A) (hn : As.length = n) (hR : d + 1 ≤ rm.frames ∧ 8 + (maxL + 11) + 32 * d ≤ rm.locals) (hf : cells + mc ≤ rm.cells ∧ slots + ms ≤ rm.slots) (hst : st = As.reverse ++ .ref b :: rest) (hW : (rest.map fun v => v.category).sum ≤ 8) (dd : decode cc pc = .ok (.invokespecial index, 3)) (k : zg_G K P' (cells + mc) (slots + ms) (pc + 3) L (r.toList ++ rest)) : zg_G K P cells slots pc L st := fun w H locs ls h1 h2 h3 h4 =>
  zg_after (w := w) h3 h4 (va_runI (b := b) (As := As) ⟨F.1, F.2.1, F.2.2.1, F.2.2.2.1, F.2.2.2.2.1⟩ hM ⟨zg_cb F hv hl hR, hi.1, F.2.2.2.2.1 _ hi.2⟩ ⟨zg_blind, zg_pre F h1 h2 h3⟩ rfl hn h4.1 hst (by show 2 * 0 + _ ≤ 8; omega) dd (by rw [zf_R F]; exact hf)) k
theorem zg_cn (F : zg_F K cc own rm) {y : MethodName} {bytes : ByteArray} {maxL n index d : Nat} {ret : Option FieldType} {host : String} (hv : zg_V y bytes maxL ret n) (hl : (own, index, y, host) ∈ zn_nest) (hR : d + 1 ≤ rm.frames ∧ 8 + (maxL + 11) + 32 * d ≤ rm.locals) : va_CN (zk_R K) (zk_s K) (zk_a K) own index y host bytes maxL ret (zw_ y bytes maxL ret) (zg_rm d mc ms) mc ms n :=
  va_cnB n F.2.2.2.2.1 (zw_good hv.1) rfl rfl rfl ((zf_N F).1 _ hl) (F.2.2.2.2.1 _ hv.2.1) hv.2.2 (by rw [zf_R F]; exact hR)
theorem zg_callSN (F : zg_F K cc own rm) {y : MethodName} {bytes : ByteArray} {maxL n index d : Nat} {ret : Option FieldType} {host : String} {As rest : List Value} {r : Option Value} (hM : zg_Met (zk_l K) y bytes maxL ret d mc ms (zk_D K) (zk_A K) (zk_z K) As P r P') (hv : zg_V y bytes maxL ret n) (hi : Cond.static y ∈ zw_A) (hl : (own, index, y, host) ∈ zn_nest) (hn : As.length = n) (hR : d + 1 ≤ rm.frames ∧ 8 + (maxL + 11) + 32 * d ≤ rm.locals) (hf : cells + mc ≤ rm.cells ∧ slots + ms ≤ rm.slots) (hst : st = As.reverse ++ rest) (hW : (rest.map fun v => v.category).sum ≤ 8) (dd : decode cc pc = .ok (.invokestatic index, 3)) (k : zg_G K P' (cells + mc) (slots + ms) (pc + 3) L (r.toList ++ rest)) : zg_G K P cells slots pc L st := fun w H locs ls h1 h2 h3 h4 =>
  zg_after (w := w) h3 h4 (va_runSN (As := As) ⟨F.1, F.2.1, F.2.2.1, F.2.2.2.1, F.2.2.2.2.1⟩ hM ⟨zg_cn F hv hl hR, F.2.2.2.2.1 _ hi, trivial⟩ ⟨zg_blind, zg_pre F h1 h2 h3⟩ rfl hn h4.1 hst (by show 2 * 0 + _ ≤ 8; omega) dd (by rw [zf_R F]; exact hf)) k
theorem zg_callIN (F : zg_F K cc own rm) {y : MethodName} {bytes : ByteArray} {maxL n index d b : Nat} {host : String} {As rest : List Value} {r : Option Value} (hM : zg_Met (zk_l K) y bytes maxL none d mc ms (zk_D K) (zk_A K) (zk_z K) (.ref b :: As) P r P') (hv : zg_V y bytes maxL none n) (hi : y.name = "<init>" ∧ Cond.instanceMethod y ∈ zw_A) (hl : (own, index, y, host) ∈ zn_nest) (hn : As.length = n) (hR : d + 1 ≤ rm.frames ∧ 8 + (maxL + 11) + 32 * d ≤ rm.locals) (hf : cells + mc ≤ rm.cells ∧ slots + ms ≤ rm.slots) (hst : st = As.reverse ++ .ref b :: rest) (hW : (rest.map fun v => v.category).sum ≤ 8) (dd : decode cc pc = .ok (.invokespecial index, 3)) (k : zg_G K P' (cells + mc) (slots + ms) (pc + 3) L (r.toList ++ rest)) : zg_G K P cells slots pc L st := fun w H locs ls h1 h2 h3 h4 =>
  zg_after (w := w) h3 h4 (va_runIN (b := b) (As := As) ⟨F.1, F.2.1, F.2.2.1, F.2.2.2.1, F.2.2.2.2.1⟩ hM ⟨zg_cn F hv hl hR, hi.1, F.2.2.2.2.1 _ hi.2⟩ ⟨zg_blind, zg_pre F h1 h2 h3⟩ rfl hn h4.1 hst (by show 2 * 0 + _ ≤ 8; omega) dd (by rw [zf_R F]; exact hf)) k
/-- a number on the stack under another name -/
theorem zg_eqi {x y : Int32} (h : x = y) (k : zg_G K P cells slots pc L (.int y :: st)) : zg_G K P cells slots pc L (.int x :: st) := by rw [h]; exact k
theorem zg_eql {x y : Int64} (h : x = y) (k : zg_G K P cells slots pc L (.long y :: st)) : zg_G K P cells slots pc L (.long x :: st) := by rw [h]; exact k
end ZGC
theorem zc_inc (a : Nat) : nI a + Int32.ofInt 1 = nI (a + 1) := nI_1 a
theorem zc_inc' (x : Int32) : x + Int32.ofInt 1 = x + nI 1 := rfl
end
section
theorem zv_X_init : zg_V zm_X_init zc_X_init 2 none 0 := ⟨zk_19, zk_1, by decide +kernel⟩
theorem zu_X_init : zm_X_init.name = "<init>" ∧ Cond.instanceMethod zm_X_init ∈ zw_A := ⟨rfl, zk_18⟩
theorem zv_J_init : zg_V zm_J_init zc_J_init 1 none 0 := ⟨zk_33, zk_2, by decide +kernel⟩
theorem zu_J_init : zm_J_init.name = "<init>" ∧ Cond.instanceMethod zm_J_init ∈ zw_A := ⟨rfl, zk_32⟩
theorem zv_P_init : zg_V zm_P_init zc_P_init 1 none 0 := ⟨zk_50, zk_3, by decide +kernel⟩
theorem zu_P_init : zm_P_init.name = "<init>" ∧ Cond.instanceMethod zm_P_init ∈ zw_A := ⟨rfl, zk_49⟩
theorem zv_N_init : zg_V zm_N_init zc_N_init 1 none 0 := ⟨zk_74, zk_4, by decide +kernel⟩
theorem zu_N_init : zm_N_init.name = "<init>" ∧ Cond.instanceMethod zm_N_init ∈ zw_A := ⟨rfl, zk_73⟩
theorem zv_X_open : zg_V zm_X_open zc_X_open 4 none 2 := ⟨zk_142, zk_1, by decide +kernel⟩
theorem zu_X_open : Cond.instanceMethod zm_X_open ∈ zw_A ∧ Cond.selects zm_X_open.cls zm_X_open zm_X_open ∈ zw_A := ⟨zk_140, zk_141⟩
theorem zv_X_checkSailing : zg_V zm_X_checkSailing zc_X_checkSailing 1 none 1 := ⟨zk_145, zk_1, by decide +kernel⟩
theorem zu_X_checkSailing : Cond.static zm_X_checkSailing ∈ zw_A := zk_144
theorem zv_X_checkSeats : zg_V zm_X_checkSeats zc_X_checkSeats 1 none 1 := ⟨zk_216, zk_1, by decide +kernel⟩
theorem zu_X_checkSeats : Cond.static zm_X_checkSeats ∈ zw_A := zk_215
theorem zv_X_placeOf : zg_V zm_X_placeOf zc_X_placeOf 2 (some .int) 2 := ⟨zk_251, zk_1, by decide +kernel⟩
theorem zu_X_placeOf : Cond.static zm_X_placeOf ∈ zw_A := zk_250
theorem zv_X_fare : zg_V zm_X_fare zc_X_fare 4 none 3 := ⟨zk_258, zk_1, by decide +kernel⟩
theorem zu_X_fare : Cond.instanceMethod zm_X_fare ∈ zw_A ∧ Cond.selects zm_X_fare.cls zm_X_fare zm_X_fare ∈ zw_A := ⟨zk_256, zk_257⟩
theorem zv_X_checkLeg : zg_V zm_X_checkLeg zc_X_checkLeg 1 none 1 := ⟨zk_261, zk_1, by decide +kernel⟩
theorem zu_X_checkLeg : Cond.static zm_X_checkLeg ∈ zw_A := zk_260
theorem zv_X_part : zg_V zm_X_part zc_X_part 4 (some .int) 3 := ⟨zk_271, zk_1, by decide +kernel⟩
theorem zu_X_part : Cond.instanceMethod zm_X_part ∈ zw_A ∧ Cond.selects zm_X_part.cls zm_X_part zm_X_part ∈ zw_A := ⟨zk_269, zk_270⟩
theorem zv_X_checkStop : zg_V zm_X_checkStop zc_X_checkStop 1 none 1 := ⟨zk_274, zk_1, by decide +kernel⟩
theorem zu_X_checkStop : Cond.static zm_X_checkStop ∈ zw_A := zk_273
theorem zv_J_addPart : zg_V zm_J_addPart zc_J_addPart 5 none 3 := ⟨zk_282, zk_2, by decide +kernel⟩
theorem zu_J_addPart : Cond.instanceMethod zm_J_addPart ∈ zw_A ∧ Cond.selects zm_J_addPart.cls zm_J_addPart zm_J_addPart ∈ zw_A := ⟨zk_280, zk_281⟩
theorem zv_X_buy : zg_V zm_X_buy zc_X_buy 4 (some .int) 2 := ⟨zk_290, zk_1, by decide +kernel⟩
theorem zu_X_buy : Cond.instanceMethod zm_X_buy ∈ zw_A ∧ Cond.selects zm_X_buy.cls zm_X_buy zm_X_buy ∈ zw_A := ⟨zk_288, zk_289⟩
theorem zv_X_checkPort : zg_V zm_X_checkPort zc_X_checkPort 1 none 1 := ⟨zk_293, zk_1, by decide +kernel⟩
theorem zu_X_checkPort : Cond.static zm_X_checkPort ∈ zw_A := zk_292
theorem zv_X_checkDraft : zg_V zm_X_checkDraft zc_X_checkDraft 1 none 0 := ⟨zk_298, zk_1, by decide +kernel⟩
theorem zu_X_checkDraft : Cond.instanceMethod zm_X_checkDraft ∈ zw_A ∧ Cond.selects zm_X_checkDraft.cls zm_X_checkDraft zm_X_checkDraft ∈ zw_A := ⟨zk_297, zs_X_checkDraft⟩
theorem zv_X_takeDraft : zg_V zm_X_takeDraft zc_X_takeDraft 2 (some (.object "IslandRights$Journey")) 0 := ⟨zk_304, zk_1, by decide +kernel⟩
theorem zu_X_takeDraft : Cond.instanceMethod zm_X_takeDraft ∈ zw_A ∧ Cond.selects zm_X_takeDraft.cls zm_X_takeDraft zm_X_takeDraft ∈ zw_A := ⟨zk_303, zs_X_takeDraft⟩
theorem zv_P_fits : zg_V zm_P_fits zc_P_fits 4 (some .boolean) 2 := ⟨zk_308, zk_3, by decide +kernel⟩
theorem zu_P_fits : Cond.instanceMethod zm_P_fits ∈ zw_A ∧ Cond.selects zm_P_fits.cls zm_P_fits zm_P_fits ∈ zw_A := ⟨zk_306, zk_307⟩
theorem zv_X_sell : zg_V zm_X_sell zc_X_sell 7 (some .int) 3 := ⟨zk_312, zk_1, by decide +kernel⟩
theorem zu_X_sell : Cond.instanceMethod zm_X_sell ∈ zw_A ∧ Cond.selects zm_X_sell.cls zm_X_sell zm_X_sell ∈ zw_A := ⟨zk_311, zs_X_sell⟩
theorem zv_X_costOf : zg_V zm_X_costOf zc_X_costOf 6 (some .long) 2 := ⟨zk_316, zk_1, by decide +kernel⟩
theorem zu_X_costOf : Cond.instanceMethod zm_X_costOf ∈ zw_A ∧ Cond.selects zm_X_costOf.cls zm_X_costOf zm_X_costOf ∈ zw_A := ⟨zk_315, zs_X_costOf⟩
theorem zv_X_moveToSold : zg_V zm_X_moveToSold zc_X_moveToSold 7 none 3 := ⟨zk_320, zk_1, by decide +kernel⟩
theorem zu_X_moveToSold : Cond.instanceMethod zm_X_moveToSold ∈ zw_A ∧ Cond.selects zm_X_moveToSold.cls zm_X_moveToSold zm_X_moveToSold ∈ zw_A := ⟨zk_319, zs_X_moveToSold⟩
theorem zv_T_init : zg_V zm_T_init zc_T_init 6 none 4 := ⟨zk_324, zk_12, by decide +kernel⟩
theorem zu_T_init : zm_T_init.name = "<init>" ∧ Cond.instanceMethod zm_T_init ∈ zw_A := ⟨rfl, zk_323⟩
theorem zv_X_wish : zg_V zm_X_wish zc_X_wish 3 (some .int) 2 := ⟨zk_353, zk_1, by decide +kernel⟩
theorem zu_X_wish : Cond.instanceMethod zm_X_wish ∈ zw_A ∧ Cond.selects zm_X_wish.cls zm_X_wish zm_X_wish ∈ zw_A := ⟨zk_351, zk_352⟩
theorem zv_P_addWish : zg_V zm_P_addWish zc_P_addWish 3 none 2 := ⟨zk_358, zk_3, by decide +kernel⟩
theorem zu_P_addWish : Cond.instanceMethod zm_P_addWish ∈ zw_A ∧ Cond.selects zm_P_addWish.cls zm_P_addWish zm_P_addWish ∈ zw_A := ⟨zk_356, zk_357⟩
theorem zv_H_init : zg_V zm_H_init zc_H_init 3 none 2 := ⟨zk_362, zk_13, by decide +kernel⟩
theorem zu_H_init : zm_H_init.name = "<init>" ∧ Cond.instanceMethod zm_H_init ∈ zw_A := ⟨rfl, zk_361⟩
theorem zv_X_serve : zg_V zm_X_serve zc_X_serve 7 (some .int) 1 := ⟨zk_376, zk_1, by decide +kernel⟩
theorem zu_X_serve : Cond.instanceMethod zm_X_serve ∈ zw_A ∧ Cond.selects zm_X_serve.cls zm_X_serve zm_X_serve ∈ zw_A := ⟨zk_375, zs_X_serve⟩
theorem zv_X_cancel : zg_V zm_X_cancel zc_X_cancel 3 (some .int) 1 := ⟨zk_383, zk_1, by decide +kernel⟩
theorem zu_X_cancel : Cond.instanceMethod zm_X_cancel ∈ zw_A ∧ Cond.selects zm_X_cancel.cls zm_X_cancel zm_X_cancel ∈ zw_A := ⟨zk_381, zk_382⟩
theorem zv_X_checkTicket : zg_V zm_X_checkTicket zc_X_checkTicket 2 none 1 := ⟨zk_387, zk_1, by decide +kernel⟩
theorem zu_X_checkTicket : Cond.instanceMethod zm_X_checkTicket ∈ zw_A ∧ Cond.selects zm_X_checkTicket.cls zm_X_checkTicket zm_X_checkTicket ∈ zw_A := ⟨zk_386, zs_X_checkTicket⟩
theorem zv_X_ticket : zg_V zm_X_ticket zc_X_ticket 4 (some .int) 2 := ⟨zk_396, zk_1, by decide +kernel⟩
theorem zu_X_ticket : Cond.instanceMethod zm_X_ticket ∈ zw_A ∧ Cond.selects zm_X_ticket.cls zm_X_ticket zm_X_ticket ∈ zw_A := ⟨zk_394, zk_395⟩
theorem zv_X_price : zg_V zm_X_price zc_X_price 2 (some .long) 1 := ⟨zk_404, zk_1, by decide +kernel⟩
theorem zu_X_price : Cond.instanceMethod zm_X_price ∈ zw_A ∧ Cond.selects zm_X_price.cls zm_X_price zm_X_price ∈ zw_A := ⟨zk_402, zk_403⟩
theorem zv_X_hand : zg_V zm_X_hand zc_X_hand 7 (some .int) 5 := ⟨zk_411, zk_1, by decide +kernel⟩
theorem zu_X_hand : Cond.instanceMethod zm_X_hand ∈ zw_A ∧ Cond.selects zm_X_hand.cls zm_X_hand zm_X_hand ∈ zw_A := ⟨zk_409, zk_410⟩
theorem zv_X_checkDifferent : zg_V zm_X_checkDifferent zc_X_checkDifferent 2 none 2 := ⟨zk_414, zk_1, by decide +kernel⟩
theorem zu_X_checkDifferent : Cond.static zm_X_checkDifferent ∈ zw_A := zk_413
theorem zv_X_laneOf : zg_V zm_X_laneOf zc_X_laneOf 3 (some (.object "IslandRights$Lane")) 2 := ⟨zk_419, zk_1, by decide +kernel⟩
theorem zu_X_laneOf : Cond.instanceMethod zm_X_laneOf ∈ zw_A ∧ Cond.selects zm_X_laneOf.cls zm_X_laneOf zm_X_laneOf ∈ zw_A := ⟨zk_418, zs_X_laneOf⟩
theorem zv_N_isFull : zg_V zm_N_isFull zc_N_isFull 1 (some .boolean) 0 := ⟨zk_423, zk_4, by decide +kernel⟩
theorem zu_N_isFull : Cond.instanceMethod zm_N_isFull ∈ zw_A ∧ Cond.selects zm_N_isFull.cls zm_N_isFull zm_N_isFull ∈ zw_A := ⟨zk_421, zk_422⟩
theorem zv_X_putInOutbox : zg_V zm_X_putInOutbox zc_X_putInOutbox 5 (some .int) 4 := ⟨zk_428, zk_1, by decide +kernel⟩
theorem zu_X_putInOutbox : Cond.instanceMethod zm_X_putInOutbox ∈ zw_A ∧ Cond.selects zm_X_putInOutbox.cls zm_X_putInOutbox zm_X_putInOutbox ∈ zw_A := ⟨zk_427, zs_X_putInOutbox⟩
theorem zv_N_add : zg_V zm_N_add zc_N_add 4 (some .int) 2 := ⟨zk_432, zk_4, by decide +kernel⟩
theorem zu_N_add : Cond.instanceMethod zm_N_add ∈ zw_A ∧ Cond.selects zm_N_add.cls zm_N_add zm_N_add ∈ zw_A := ⟨zk_430, zk_431⟩
theorem zv_N_cellOf : zg_V zm_N_cellOf zc_N_cellOf 1 (some .int) 1 := ⟨zk_435, zk_4, by decide +kernel⟩
theorem zu_N_cellOf : Cond.static zm_N_cellOf ∈ zw_A := zk_434
theorem zv_X_share : zg_V zm_X_share zc_X_share 8 (some .int) 3 := ⟨zk_445, zk_1, by decide +kernel⟩
theorem zu_X_share : Cond.instanceMethod zm_X_share ∈ zw_A ∧ Cond.selects zm_X_share.cls zm_X_share zm_X_share ∈ zw_A := ⟨zk_443, zk_444⟩
theorem zv_X_send : zg_V zm_X_send zc_X_send 4 (some .int) 2 := ⟨zk_452, zk_1, by decide +kernel⟩
theorem zu_X_send : Cond.instanceMethod zm_X_send ∈ zw_A ∧ Cond.selects zm_X_send.cls zm_X_send zm_X_send ∈ zw_A := ⟨zk_450, zk_451⟩
theorem zv_X_checkTwoPorts : zg_V zm_X_checkTwoPorts zc_X_checkTwoPorts 2 none 2 := ⟨zk_455, zk_1, by decide +kernel⟩
theorem zu_X_checkTwoPorts : Cond.static zm_X_checkTwoPorts ∈ zw_A := zk_454
theorem zv_X_arrive : zg_V zm_X_arrive zc_X_arrive 6 (some .int) 2 := ⟨zk_462, zk_1, by decide +kernel⟩
theorem zu_X_arrive : Cond.instanceMethod zm_X_arrive ∈ zw_A ∧ Cond.selects zm_X_arrive.cls zm_X_arrive zm_X_arrive ∈ zw_A := ⟨zk_460, zk_461⟩
theorem zv_X_takeNext : zg_V zm_X_takeNext zc_X_takeNext 6 (some .int) 2 := ⟨zk_466, zk_1, by decide +kernel⟩
theorem zu_X_takeNext : Cond.instanceMethod zm_X_takeNext ∈ zw_A ∧ Cond.selects zm_X_takeNext.cls zm_X_takeNext zm_X_takeNext ∈ zw_A := ⟨zk_465, zs_X_takeNext⟩
theorem zv_X_receipt : zg_V zm_X_receipt zc_X_receipt 5 (some .int) 2 := ⟨zk_474, zk_1, by decide +kernel⟩
theorem zu_X_receipt : Cond.instanceMethod zm_X_receipt ∈ zw_A ∧ Cond.selects zm_X_receipt.cls zm_X_receipt zm_X_receipt ∈ zw_A := ⟨zk_472, zk_473⟩
theorem zv_N_removeUpTo : zg_V zm_N_removeUpTo zc_N_removeUpTo 3 (some .int) 1 := ⟨zk_478, zk_4, by decide +kernel⟩
theorem zu_N_removeUpTo : Cond.instanceMethod zm_N_removeUpTo ∈ zw_A ∧ Cond.selects zm_N_removeUpTo.cls zm_N_removeUpTo zm_N_removeUpTo ∈ zw_A := ⟨zk_476, zk_477⟩
theorem zv_X_lose : zg_V zm_X_lose zc_X_lose 3 (some .int) 2 := ⟨zk_485, zk_1, by decide +kernel⟩
theorem zu_X_lose : Cond.instanceMethod zm_X_lose ∈ zw_A ∧ Cond.selects zm_X_lose.cls zm_X_lose zm_X_lose ∈ zw_A := ⟨zk_483, zk_484⟩
theorem zv_N_loseAll : zg_V zm_N_loseAll zc_N_loseAll 2 (some .int) 0 := ⟨zk_489, zk_4, by decide +kernel⟩
theorem zu_N_loseAll : Cond.instanceMethod zm_N_loseAll ∈ zw_A ∧ Cond.selects zm_N_loseAll.cls zm_N_loseAll zm_N_loseAll ∈ zw_A := ⟨zk_487, zk_488⟩
theorem zv_X_crash : zg_V zm_X_crash zc_X_crash 4 (some .int) 1 := ⟨zk_496, zk_1, by decide +kernel⟩
theorem zu_X_crash : Cond.instanceMethod zm_X_crash ∈ zw_A ∧ Cond.selects zm_X_crash.cls zm_X_crash zm_X_crash ∈ zw_A := ⟨zk_494, zk_495⟩
theorem zv_X_rights : zg_V zm_X_rights zc_X_rights 4 (some .int) 3 := ⟨zk_503, zk_1, by decide +kernel⟩
theorem zu_X_rights : Cond.instanceMethod zm_X_rights ∈ zw_A ∧ Cond.selects zm_X_rights.cls zm_X_rights zm_X_rights ∈ zw_A := ⟨zk_501, zk_502⟩
theorem zv_X_air : zg_V zm_X_air zc_X_air 3 (some .int) 2 := ⟨zk_510, zk_1, by decide +kernel⟩
theorem zu_X_air : Cond.instanceMethod zm_X_air ∈ zw_A ∧ Cond.selects zm_X_air.cls zm_X_air zm_X_air ∈ zw_A := ⟨zk_508, zk_509⟩
theorem zv_X_sold : zg_V zm_X_sold zc_X_sold 3 (some .int) 2 := ⟨zk_517, zk_1, by decide +kernel⟩
theorem zu_X_sold : Cond.instanceMethod zm_X_sold ∈ zw_A ∧ Cond.selects zm_X_sold.cls zm_X_sold zm_X_sold ∈ zw_A := ⟨zk_515, zk_516⟩
theorem zv_X_wishes : zg_V zm_X_wishes zc_X_wishes 2 (some .int) 1 := ⟨zk_524, zk_1, by decide +kernel⟩
theorem zu_X_wishes : Cond.instanceMethod zm_X_wishes ∈ zw_A ∧ Cond.selects zm_X_wishes.cls zm_X_wishes zm_X_wishes ∈ zw_A := ⟨zk_522, zk_523⟩
theorem zv_X_till : zg_V zm_X_till zc_X_till 2 (some .long) 1 := ⟨zk_531, zk_1, by decide +kernel⟩
theorem zu_X_till : Cond.instanceMethod zm_X_till ∈ zw_A ∧ Cond.selects zm_X_till.cls zm_X_till zm_X_till ∈ zw_A := ⟨zk_529, zk_530⟩
theorem zv_M_init : zg_V zm_M_init zc_M_init 2 none 0 := ⟨zk_536, zk_5, by decide +kernel⟩
theorem zu_M_init : zm_M_init.name = "<init>" ∧ Cond.instanceMethod zm_M_init ∈ zw_A := ⟨rfl, zk_535⟩
theorem zv_M_thrown : zg_V zm_M_thrown zc_M_thrown 1 (some .int) 0 := ⟨zk_627, zk_5, by decide +kernel⟩
theorem zu_M_thrown : Cond.instanceMethod zm_M_thrown ∈ zw_A ∧ Cond.selects zm_M_thrown.cls zm_M_thrown zm_M_thrown ∈ zw_A := ⟨zk_625, zk_626⟩
theorem zv_M_open : zg_V zm_M_open zc_M_open 4 none 2 := ⟨zk_631, zk_5, by decide +kernel⟩
theorem zu_M_open : Cond.instanceMethod zm_M_open ∈ zw_A ∧ Cond.selects zm_M_open.cls zm_M_open zm_M_open ∈ zw_A := ⟨zk_629, zk_630⟩
theorem zv_M_isFour : zg_V zm_M_isFour zc_M_isFour 1 (some .boolean) 1 := ⟨zk_634, zk_5, by decide +kernel⟩
theorem zu_M_isFour : Cond.static zm_M_isFour ∈ zw_A := zk_633
theorem zv_M_refused : zg_V zm_M_refused zc_M_refused 2 (some .boolean) 1 := ⟨zk_638, zk_5, by decide +kernel⟩
theorem zu_M_refused : Cond.instanceMethod zm_M_refused ∈ zw_A ∧ Cond.selects zm_M_refused.cls zm_M_refused zm_M_refused ∈ zw_A := ⟨zk_637, zs_M_refused⟩
theorem zv_M_fare : zg_V zm_M_fare zc_M_fare 4 none 3 := ⟨zk_642, zk_5, by decide +kernel⟩
theorem zu_M_fare : Cond.instanceMethod zm_M_fare ∈ zw_A ∧ Cond.selects zm_M_fare.cls zm_M_fare zm_M_fare ∈ zw_A := ⟨zk_640, zk_641⟩
theorem zv_M_part : zg_V zm_M_part zc_M_part 5 (some .int) 3 := ⟨zk_647, zk_5, by decide +kernel⟩
theorem zu_M_part : Cond.instanceMethod zm_M_part ∈ zw_A ∧ Cond.selects zm_M_part.cls zm_M_part zm_M_part ∈ zw_A := ⟨zk_645, zk_646⟩
theorem zv_M_buy : zg_V zm_M_buy zc_M_buy 4 (some .int) 2 := ⟨zk_651, zk_5, by decide +kernel⟩
theorem zu_M_buy : Cond.instanceMethod zm_M_buy ∈ zw_A ∧ Cond.selects zm_M_buy.cls zm_M_buy zm_M_buy ∈ zw_A := ⟨zk_649, zk_650⟩
theorem zv_M_fits : zg_V zm_M_fits zc_M_fits 7 (some .boolean) 4 := ⟨zk_655, zk_5, by decide +kernel⟩
theorem zu_M_fits : Cond.instanceMethod zm_M_fits ∈ zw_A ∧ Cond.selects zm_M_fits.cls zm_M_fits zm_M_fits ∈ zw_A := ⟨zk_654, zs_M_fits⟩
theorem zv_M_lies : zg_V zm_M_lies zc_M_lies 6 (some .int) 3 := ⟨zk_659, zk_5, by decide +kernel⟩
theorem zu_M_lies : Cond.instanceMethod zm_M_lies ∈ zw_A ∧ Cond.selects zm_M_lies.cls zm_M_lies zm_M_lies ∈ zw_A := ⟨zk_658, zs_M_lies⟩
theorem zv_M_sell : zg_V zm_M_sell zc_M_sell 8 (some .int) 4 := ⟨zk_663, zk_5, by decide +kernel⟩
theorem zu_M_sell : Cond.instanceMethod zm_M_sell ∈ zw_A ∧ Cond.selects zm_M_sell.cls zm_M_sell zm_M_sell ∈ zw_A := ⟨zk_662, zs_M_sell⟩
theorem zv_M_give : zg_V zm_M_give zc_M_give 6 none 4 := ⟨zk_667, zk_5, by decide +kernel⟩
theorem zu_M_give : Cond.instanceMethod zm_M_give ∈ zw_A ∧ Cond.selects zm_M_give.cls zm_M_give zm_M_give ∈ zw_A := ⟨zk_666, zs_M_give⟩
theorem zv_M_copy : zg_V zm_M_copy zc_M_copy 5 none 3 := ⟨zk_671, zk_5, by decide +kernel⟩
theorem zu_M_copy : Cond.instanceMethod zm_M_copy ∈ zw_A ∧ Cond.selects zm_M_copy.cls zm_M_copy zm_M_copy ∈ zw_A := ⟨zk_670, zs_M_copy⟩
theorem zv_M_wish : zg_V zm_M_wish zc_M_wish 4 (some .int) 2 := ⟨zk_675, zk_5, by decide +kernel⟩
theorem zu_M_wish : Cond.instanceMethod zm_M_wish ∈ zw_A ∧ Cond.selects zm_M_wish.cls zm_M_wish zm_M_wish ∈ zw_A := ⟨zk_673, zk_674⟩
theorem zv_M_serve : zg_V zm_M_serve zc_M_serve 9 (some .int) 1 := ⟨zk_679, zk_5, by decide +kernel⟩
theorem zu_M_serve : Cond.instanceMethod zm_M_serve ∈ zw_A ∧ Cond.selects zm_M_serve.cls zm_M_serve zm_M_serve ∈ zw_A := ⟨zk_678, zs_M_serve⟩
theorem zv_M_cancel : zg_V zm_M_cancel zc_M_cancel 2 (some .int) 1 := ⟨zk_683, zk_5, by decide +kernel⟩
theorem zu_M_cancel : Cond.instanceMethod zm_M_cancel ∈ zw_A ∧ Cond.selects zm_M_cancel.cls zm_M_cancel zm_M_cancel ∈ zw_A := ⟨zk_681, zk_682⟩
theorem zv_M_isTicket : zg_V zm_M_isTicket zc_M_isTicket 2 (some .boolean) 1 := ⟨zk_687, zk_5, by decide +kernel⟩
theorem zu_M_isTicket : Cond.instanceMethod zm_M_isTicket ∈ zw_A ∧ Cond.selects zm_M_isTicket.cls zm_M_isTicket zm_M_isTicket ∈ zw_A := ⟨zk_686, zs_M_isTicket⟩
theorem zv_M_ticket : zg_V zm_M_ticket zc_M_ticket 3 (some .int) 2 := ⟨zk_691, zk_5, by decide +kernel⟩
theorem zu_M_ticket : Cond.instanceMethod zm_M_ticket ∈ zw_A ∧ Cond.selects zm_M_ticket.cls zm_M_ticket zm_M_ticket ∈ zw_A := ⟨zk_689, zk_690⟩
theorem zv_M_price : zg_V zm_M_price zc_M_price 2 (some .long) 1 := ⟨zk_695, zk_5, by decide +kernel⟩
theorem zu_M_price : Cond.instanceMethod zm_M_price ∈ zw_A ∧ Cond.selects zm_M_price.cls zm_M_price zm_M_price ∈ zw_A := ⟨zk_693, zk_694⟩
theorem zv_M_hand : zg_V zm_M_hand zc_M_hand 7 (some .int) 5 := ⟨zk_699, zk_5, by decide +kernel⟩
theorem zu_M_hand : Cond.instanceMethod zm_M_hand ∈ zw_A ∧ Cond.selects zm_M_hand.cls zm_M_hand zm_M_hand ∈ zw_A := ⟨zk_697, zk_698⟩
theorem zv_M_enclose : zg_V zm_M_enclose zc_M_enclose 7 (some .int) 4 := ⟨zk_703, zk_5, by decide +kernel⟩
theorem zu_M_enclose : Cond.instanceMethod zm_M_enclose ∈ zw_A ∧ Cond.selects zm_M_enclose.cls zm_M_enclose zm_M_enclose ∈ zw_A := ⟨zk_702, zs_M_enclose⟩
theorem zv_M_share : zg_V zm_M_share zc_M_share 7 (some .int) 3 := ⟨zk_707, zk_5, by decide +kernel⟩
theorem zu_M_share : Cond.instanceMethod zm_M_share ∈ zw_A ∧ Cond.selects zm_M_share.cls zm_M_share zm_M_share ∈ zw_A := ⟨zk_705, zk_706⟩
theorem zv_M_wrong : zg_V zm_M_wrong zc_M_wrong 2 (some .int) 2 := ⟨zk_710, zk_5, by decide +kernel⟩
theorem zu_M_wrong : Cond.static zm_M_wrong ∈ zw_A := zk_709
theorem zv_M_send : zg_V zm_M_send zc_M_send 4 (some .int) 2 := ⟨zk_714, zk_5, by decide +kernel⟩
theorem zu_M_send : Cond.instanceMethod zm_M_send ∈ zw_A ∧ Cond.selects zm_M_send.cls zm_M_send zm_M_send ∈ zw_A := ⟨zk_712, zk_713⟩
theorem zv_M_arrive : zg_V zm_M_arrive zc_M_arrive 6 (some .int) 2 := ⟨zk_718, zk_5, by decide +kernel⟩
theorem zu_M_arrive : Cond.instanceMethod zm_M_arrive ∈ zw_A ∧ Cond.selects zm_M_arrive.cls zm_M_arrive zm_M_arrive ∈ zw_A := ⟨zk_716, zk_717⟩
theorem zv_M_receipt : zg_V zm_M_receipt zc_M_receipt 8 (some .int) 2 := ⟨zk_722, zk_5, by decide +kernel⟩
theorem zu_M_receipt : Cond.instanceMethod zm_M_receipt ∈ zw_A ∧ Cond.selects zm_M_receipt.cls zm_M_receipt zm_M_receipt ∈ zw_A := ⟨zk_720, zk_721⟩
theorem zv_M_lose : zg_V zm_M_lose zc_M_lose 3 (some .int) 2 := ⟨zk_726, zk_5, by decide +kernel⟩
theorem zu_M_lose : Cond.instanceMethod zm_M_lose ∈ zw_A ∧ Cond.selects zm_M_lose.cls zm_M_lose zm_M_lose ∈ zw_A := ⟨zk_724, zk_725⟩
theorem zv_M_loseOne : zg_V zm_M_loseOne zc_M_loseOne 3 (some .int) 1 := ⟨zk_730, zk_5, by decide +kernel⟩
theorem zu_M_loseOne : Cond.instanceMethod zm_M_loseOne ∈ zw_A ∧ Cond.selects zm_M_loseOne.cls zm_M_loseOne zm_M_loseOne ∈ zw_A := ⟨zk_729, zs_M_loseOne⟩
theorem zv_M_crash : zg_V zm_M_crash zc_M_crash 4 (some .int) 1 := ⟨zk_734, zk_5, by decide +kernel⟩
theorem zu_M_crash : Cond.instanceMethod zm_M_crash ∈ zw_A ∧ Cond.selects zm_M_crash.cls zm_M_crash zm_M_crash ∈ zw_A := ⟨zk_732, zk_733⟩
theorem zv_M_rights : zg_V zm_M_rights zc_M_rights 5 (some .int) 3 := ⟨zk_738, zk_5, by decide +kernel⟩
theorem zu_M_rights : Cond.instanceMethod zm_M_rights ∈ zw_A ∧ Cond.selects zm_M_rights.cls zm_M_rights zm_M_rights ∈ zw_A := ⟨zk_736, zk_737⟩
theorem zv_M_air : zg_V zm_M_air zc_M_air 6 (some .int) 2 := ⟨zk_742, zk_5, by decide +kernel⟩
theorem zu_M_air : Cond.instanceMethod zm_M_air ∈ zw_A ∧ Cond.selects zm_M_air.cls zm_M_air zm_M_air ∈ zw_A := ⟨zk_740, zk_741⟩
theorem zv_M_sold : zg_V zm_M_sold zc_M_sold 5 (some .int) 2 := ⟨zk_746, zk_5, by decide +kernel⟩
theorem zu_M_sold : Cond.instanceMethod zm_M_sold ∈ zw_A ∧ Cond.selects zm_M_sold.cls zm_M_sold zm_M_sold ∈ zw_A := ⟨zk_744, zk_745⟩
theorem zv_M_wishes : zg_V zm_M_wishes zc_M_wishes 2 (some .int) 1 := ⟨zk_750, zk_5, by decide +kernel⟩
theorem zu_M_wishes : Cond.instanceMethod zm_M_wishes ∈ zw_A ∧ Cond.selects zm_M_wishes.cls zm_M_wishes zm_M_wishes ∈ zw_A := ⟨zk_748, zk_749⟩
theorem zv_M_till : zg_V zm_M_till zc_M_till 2 (some .long) 1 := ⟨zk_754, zk_5, by decide +kernel⟩
theorem zu_M_till : Cond.instanceMethod zm_M_till ∈ zw_A ∧ Cond.selects zm_M_till.cls zm_M_till zm_M_till ∈ zw_A := ⟨zk_752, zk_753⟩
end
section
theorem dL_open_0 : decode zc_L_open 0 = .ok (.aload_n 0, 1) := by decide +kernel
theorem dL_open_1 : decode zc_L_open 1 = .ok (.iload_n 1, 1) := by decide +kernel
theorem dL_open_2 : decode zc_L_open 2 = .ok (.iload_n 2, 1) := by decide +kernel
theorem dL_open_3 : decode zc_L_open 3 = .ok (.invokevirtual 7, 3) := by decide +kernel
theorem dL_open_6 : decode zc_L_open 6 = .ok (.goto 12, 3) := by decide +kernel
theorem dL_open_9 : decode zc_L_open 9 = .ok (.astore_n 3, 1) := by decide +kernel
theorem dL_open_10 : decode zc_L_open 10 = .ok (.iconst 1, 1) := by decide +kernel
theorem dL_open_11 : decode zc_L_open 11 = .ok (.ireturn, 1) := by decide +kernel
theorem dL_open_12 : decode zc_L_open 12 = .ok (.astore_n 3, 1) := by decide +kernel
theorem dL_open_13 : decode zc_L_open 13 = .ok (.iconst 2, 1) := by decide +kernel
theorem dL_open_14 : decode zc_L_open 14 = .ok (.ireturn, 1) := by decide +kernel
theorem dL_open_15 : decode zc_L_open 15 = .ok (.astore_n 3, 1) := by decide +kernel
theorem dL_open_16 : decode zc_L_open 16 = .ok (.iconst 3, 1) := by decide +kernel
theorem dL_open_17 : decode zc_L_open 17 = .ok (.ireturn, 1) := by decide +kernel
theorem dL_open_18 : decode zc_L_open 18 = .ok (.iconst 0, 1) := by decide +kernel
theorem dL_open_19 : decode zc_L_open 19 = .ok (.ireturn, 1) := by decide +kernel
theorem dL_fare_0 : decode zc_L_fare 0 = .ok (.aload_n 0, 1) := by decide +kernel
theorem dL_fare_1 : decode zc_L_fare 1 = .ok (.iload_n 1, 1) := by decide +kernel
theorem dL_fare_2 : decode zc_L_fare 2 = .ok (.iload_n 2, 1) := by decide +kernel
theorem dL_fare_3 : decode zc_L_fare 3 = .ok (.iload_n 3, 1) := by decide +kernel
theorem dL_fare_4 : decode zc_L_fare 4 = .ok (.invokevirtual 19, 3) := by decide +kernel
theorem dL_fare_7 : decode zc_L_fare 7 = .ok (.goto 11, 3) := by decide +kernel
theorem dL_fare_10 : decode zc_L_fare 10 = .ok (.astore 4, 2) := by decide +kernel
theorem dL_fare_12 : decode zc_L_fare 12 = .ok (.iconst 1, 1) := by decide +kernel
theorem dL_fare_13 : decode zc_L_fare 13 = .ok (.ireturn, 1) := by decide +kernel
theorem dL_fare_14 : decode zc_L_fare 14 = .ok (.astore 4, 2) := by decide +kernel
theorem dL_fare_16 : decode zc_L_fare 16 = .ok (.iconst 2, 1) := by decide +kernel
theorem dL_fare_17 : decode zc_L_fare 17 = .ok (.ireturn, 1) := by decide +kernel
theorem dL_fare_18 : decode zc_L_fare 18 = .ok (.iconst 0, 1) := by decide +kernel
theorem dL_fare_19 : decode zc_L_fare 19 = .ok (.ireturn, 1) := by decide +kernel
theorem dL_part_0 : decode zc_L_part 0 = .ok (.aload 4, 2) := by decide +kernel
theorem dL_part_2 : decode zc_L_part 2 = .ok (.iconst 0, 1) := by decide +kernel
theorem dL_part_3 : decode zc_L_part 3 = .ok (.aload_n 0, 1) := by decide +kernel
theorem dL_part_4 : decode zc_L_part 4 = .ok (.iload_n 1, 1) := by decide +kernel
theorem dL_part_5 : decode zc_L_part 5 = .ok (.iload_n 2, 1) := by decide +kernel
theorem dL_part_6 : decode zc_L_part 6 = .ok (.iload_n 3, 1) := by decide +kernel
theorem dL_part_7 : decode zc_L_part 7 = .ok (.invokevirtual 23, 3) := by decide +kernel
theorem dL_part_10 : decode zc_L_part 10 = .ok (.i2l, 1) := by decide +kernel
theorem dL_part_11 : decode zc_L_part 11 = .ok (.lastore, 1) := by decide +kernel
theorem dL_part_12 : decode zc_L_part 12 = .ok (.goto 15, 3) := by decide +kernel
theorem dL_part_15 : decode zc_L_part 15 = .ok (.astore 5, 2) := by decide +kernel
theorem dL_part_17 : decode zc_L_part 17 = .ok (.iconst 1, 1) := by decide +kernel
theorem dL_part_18 : decode zc_L_part 18 = .ok (.ireturn, 1) := by decide +kernel
theorem dL_part_19 : decode zc_L_part 19 = .ok (.astore 5, 2) := by decide +kernel
theorem dL_part_21 : decode zc_L_part 21 = .ok (.iconst 2, 1) := by decide +kernel
theorem dL_part_22 : decode zc_L_part 22 = .ok (.ireturn, 1) := by decide +kernel
theorem dL_part_23 : decode zc_L_part 23 = .ok (.astore 5, 2) := by decide +kernel
theorem dL_part_25 : decode zc_L_part 25 = .ok (.iconst 3, 1) := by decide +kernel
theorem dL_part_26 : decode zc_L_part 26 = .ok (.ireturn, 1) := by decide +kernel
theorem dL_part_27 : decode zc_L_part 27 = .ok (.iconst 0, 1) := by decide +kernel
theorem dL_part_28 : decode zc_L_part 28 = .ok (.ireturn, 1) := by decide +kernel
theorem dL_buy_0 : decode zc_L_buy 0 = .ok (.aload_n 3, 1) := by decide +kernel
theorem dL_buy_1 : decode zc_L_buy 1 = .ok (.iconst 0, 1) := by decide +kernel
theorem dL_buy_2 : decode zc_L_buy 2 = .ok (.aload_n 0, 1) := by decide +kernel
theorem dL_buy_3 : decode zc_L_buy 3 = .ok (.iload_n 1, 1) := by decide +kernel
theorem dL_buy_4 : decode zc_L_buy 4 = .ok (.iload_n 2, 1) := by decide +kernel
theorem dL_buy_5 : decode zc_L_buy 5 = .ok (.invokevirtual 27, 3) := by decide +kernel
theorem dL_buy_8 : decode zc_L_buy 8 = .ok (.i2l, 1) := by decide +kernel
theorem dL_buy_9 : decode zc_L_buy 9 = .ok (.lastore, 1) := by decide +kernel
theorem dL_buy_10 : decode zc_L_buy 10 = .ok (.goto 15, 3) := by decide +kernel
theorem dL_buy_13 : decode zc_L_buy 13 = .ok (.astore 4, 2) := by decide +kernel
theorem dL_buy_15 : decode zc_L_buy 15 = .ok (.iconst 1, 1) := by decide +kernel
theorem dL_buy_16 : decode zc_L_buy 16 = .ok (.ireturn, 1) := by decide +kernel
theorem dL_buy_17 : decode zc_L_buy 17 = .ok (.astore 4, 2) := by decide +kernel
theorem dL_buy_19 : decode zc_L_buy 19 = .ok (.iconst 2, 1) := by decide +kernel
theorem dL_buy_20 : decode zc_L_buy 20 = .ok (.ireturn, 1) := by decide +kernel
theorem dL_buy_21 : decode zc_L_buy 21 = .ok (.astore 4, 2) := by decide +kernel
theorem dL_buy_23 : decode zc_L_buy 23 = .ok (.iconst 3, 1) := by decide +kernel
theorem dL_buy_24 : decode zc_L_buy 24 = .ok (.ireturn, 1) := by decide +kernel
theorem dL_buy_25 : decode zc_L_buy 25 = .ok (.iconst 0, 1) := by decide +kernel
theorem dL_buy_26 : decode zc_L_buy 26 = .ok (.ireturn, 1) := by decide +kernel
theorem dL_wish_0 : decode zc_L_wish 0 = .ok (.aload_n 3, 1) := by decide +kernel
theorem dL_wish_1 : decode zc_L_wish 1 = .ok (.iconst 0, 1) := by decide +kernel
theorem dL_wish_2 : decode zc_L_wish 2 = .ok (.aload_n 0, 1) := by decide +kernel
theorem dL_wish_3 : decode zc_L_wish 3 = .ok (.iload_n 1, 1) := by decide +kernel
theorem dL_wish_4 : decode zc_L_wish 4 = .ok (.iload_n 2, 1) := by decide +kernel
theorem dL_wish_5 : decode zc_L_wish 5 = .ok (.invokevirtual 31, 3) := by decide +kernel
theorem dL_wish_8 : decode zc_L_wish 8 = .ok (.i2l, 1) := by decide +kernel
theorem dL_wish_9 : decode zc_L_wish 9 = .ok (.lastore, 1) := by decide +kernel
theorem dL_wish_10 : decode zc_L_wish 10 = .ok (.goto 15, 3) := by decide +kernel
theorem dL_wish_13 : decode zc_L_wish 13 = .ok (.astore 4, 2) := by decide +kernel
theorem dL_wish_15 : decode zc_L_wish 15 = .ok (.iconst 1, 1) := by decide +kernel
theorem dL_wish_16 : decode zc_L_wish 16 = .ok (.ireturn, 1) := by decide +kernel
theorem dL_wish_17 : decode zc_L_wish 17 = .ok (.astore 4, 2) := by decide +kernel
theorem dL_wish_19 : decode zc_L_wish 19 = .ok (.iconst 2, 1) := by decide +kernel
theorem dL_wish_20 : decode zc_L_wish 20 = .ok (.ireturn, 1) := by decide +kernel
theorem dL_wish_21 : decode zc_L_wish 21 = .ok (.astore 4, 2) := by decide +kernel
theorem dL_wish_23 : decode zc_L_wish 23 = .ok (.iconst 3, 1) := by decide +kernel
theorem dL_wish_24 : decode zc_L_wish 24 = .ok (.ireturn, 1) := by decide +kernel
theorem dL_wish_25 : decode zc_L_wish 25 = .ok (.iconst 0, 1) := by decide +kernel
theorem dL_wish_26 : decode zc_L_wish 26 = .ok (.ireturn, 1) := by decide +kernel
theorem dL_cancel_0 : decode zc_L_cancel 0 = .ok (.aload_n 2, 1) := by decide +kernel
theorem dL_cancel_1 : decode zc_L_cancel 1 = .ok (.iconst 0, 1) := by decide +kernel
theorem dL_cancel_2 : decode zc_L_cancel 2 = .ok (.aload_n 0, 1) := by decide +kernel
theorem dL_cancel_3 : decode zc_L_cancel 3 = .ok (.iload_n 1, 1) := by decide +kernel
theorem dL_cancel_4 : decode zc_L_cancel 4 = .ok (.invokevirtual 34, 3) := by decide +kernel
theorem dL_cancel_7 : decode zc_L_cancel 7 = .ok (.i2l, 1) := by decide +kernel
theorem dL_cancel_8 : decode zc_L_cancel 8 = .ok (.lastore, 1) := by decide +kernel
theorem dL_cancel_9 : decode zc_L_cancel 9 = .ok (.goto 9, 3) := by decide +kernel
theorem dL_cancel_12 : decode zc_L_cancel 12 = .ok (.astore_n 3, 1) := by decide +kernel
theorem dL_cancel_13 : decode zc_L_cancel 13 = .ok (.iconst 1, 1) := by decide +kernel
theorem dL_cancel_14 : decode zc_L_cancel 14 = .ok (.ireturn, 1) := by decide +kernel
theorem dL_cancel_15 : decode zc_L_cancel 15 = .ok (.astore_n 3, 1) := by decide +kernel
theorem dL_cancel_16 : decode zc_L_cancel 16 = .ok (.iconst 2, 1) := by decide +kernel
theorem dL_cancel_17 : decode zc_L_cancel 17 = .ok (.ireturn, 1) := by decide +kernel
theorem dL_cancel_18 : decode zc_L_cancel 18 = .ok (.iconst 0, 1) := by decide +kernel
theorem dL_cancel_19 : decode zc_L_cancel 19 = .ok (.ireturn, 1) := by decide +kernel
theorem dL_ticket_0 : decode zc_L_ticket 0 = .ok (.aload_n 3, 1) := by decide +kernel
theorem dL_ticket_1 : decode zc_L_ticket 1 = .ok (.iconst 0, 1) := by decide +kernel
theorem dL_ticket_2 : decode zc_L_ticket 2 = .ok (.aload_n 0, 1) := by decide +kernel
theorem dL_ticket_3 : decode zc_L_ticket 3 = .ok (.iload_n 1, 1) := by decide +kernel
theorem dL_ticket_4 : decode zc_L_ticket 4 = .ok (.iload_n 2, 1) := by decide +kernel
theorem dL_ticket_5 : decode zc_L_ticket 5 = .ok (.invokevirtual 38, 3) := by decide +kernel
theorem dL_ticket_8 : decode zc_L_ticket 8 = .ok (.i2l, 1) := by decide +kernel
theorem dL_ticket_9 : decode zc_L_ticket 9 = .ok (.lastore, 1) := by decide +kernel
theorem dL_ticket_10 : decode zc_L_ticket 10 = .ok (.goto 11, 3) := by decide +kernel
theorem dL_ticket_13 : decode zc_L_ticket 13 = .ok (.astore 4, 2) := by decide +kernel
theorem dL_ticket_15 : decode zc_L_ticket 15 = .ok (.iconst 1, 1) := by decide +kernel
theorem dL_ticket_16 : decode zc_L_ticket 16 = .ok (.ireturn, 1) := by decide +kernel
theorem dL_ticket_17 : decode zc_L_ticket 17 = .ok (.astore 4, 2) := by decide +kernel
theorem dL_ticket_19 : decode zc_L_ticket 19 = .ok (.iconst 2, 1) := by decide +kernel
theorem dL_ticket_20 : decode zc_L_ticket 20 = .ok (.ireturn, 1) := by decide +kernel
theorem dL_ticket_21 : decode zc_L_ticket 21 = .ok (.iconst 0, 1) := by decide +kernel
theorem dL_ticket_22 : decode zc_L_ticket 22 = .ok (.ireturn, 1) := by decide +kernel
theorem dL_price_0 : decode zc_L_price 0 = .ok (.aload_n 2, 1) := by decide +kernel
theorem dL_price_1 : decode zc_L_price 1 = .ok (.iconst 0, 1) := by decide +kernel
theorem dL_price_2 : decode zc_L_price 2 = .ok (.aload_n 0, 1) := by decide +kernel
theorem dL_price_3 : decode zc_L_price 3 = .ok (.iload_n 1, 1) := by decide +kernel
theorem dL_price_4 : decode zc_L_price 4 = .ok (.invokevirtual 41, 3) := by decide +kernel
theorem dL_price_7 : decode zc_L_price 7 = .ok (.lastore, 1) := by decide +kernel
theorem dL_price_8 : decode zc_L_price 8 = .ok (.goto 6, 3) := by decide +kernel
theorem dL_price_11 : decode zc_L_price 11 = .ok (.astore_n 3, 1) := by decide +kernel
theorem dL_price_12 : decode zc_L_price 12 = .ok (.iconst 1, 1) := by decide +kernel
theorem dL_price_13 : decode zc_L_price 13 = .ok (.ireturn, 1) := by decide +kernel
theorem dL_price_14 : decode zc_L_price 14 = .ok (.iconst 0, 1) := by decide +kernel
theorem dL_price_15 : decode zc_L_price 15 = .ok (.ireturn, 1) := by decide +kernel
theorem dL_hand_0 : decode zc_L_hand 0 = .ok (.aload 6, 2) := by decide +kernel
theorem dL_hand_2 : decode zc_L_hand 2 = .ok (.iconst 0, 1) := by decide +kernel
theorem dL_hand_3 : decode zc_L_hand 3 = .ok (.aload_n 0, 1) := by decide +kernel
theorem dL_hand_4 : decode zc_L_hand 4 = .ok (.iload_n 1, 1) := by decide +kernel
theorem dL_hand_5 : decode zc_L_hand 5 = .ok (.iload_n 2, 1) := by decide +kernel
theorem dL_hand_6 : decode zc_L_hand 6 = .ok (.iload_n 3, 1) := by decide +kernel
theorem dL_hand_7 : decode zc_L_hand 7 = .ok (.iload 4, 2) := by decide +kernel
theorem dL_hand_9 : decode zc_L_hand 9 = .ok (.iload 5, 2) := by decide +kernel
theorem dL_hand_11 : decode zc_L_hand 11 = .ok (.invokevirtual 45, 3) := by decide +kernel
theorem dL_hand_14 : decode zc_L_hand 14 = .ok (.i2l, 1) := by decide +kernel
theorem dL_hand_15 : decode zc_L_hand 15 = .ok (.lastore, 1) := by decide +kernel
theorem dL_hand_16 : decode zc_L_hand 16 = .ok (.goto 15, 3) := by decide +kernel
theorem dL_hand_19 : decode zc_L_hand 19 = .ok (.astore 7, 2) := by decide +kernel
theorem dL_hand_21 : decode zc_L_hand 21 = .ok (.iconst 1, 1) := by decide +kernel
theorem dL_hand_22 : decode zc_L_hand 22 = .ok (.ireturn, 1) := by decide +kernel
theorem dL_hand_23 : decode zc_L_hand 23 = .ok (.astore 7, 2) := by decide +kernel
theorem dL_hand_25 : decode zc_L_hand 25 = .ok (.iconst 2, 1) := by decide +kernel
theorem dL_hand_26 : decode zc_L_hand 26 = .ok (.ireturn, 1) := by decide +kernel
theorem dL_hand_27 : decode zc_L_hand 27 = .ok (.astore 7, 2) := by decide +kernel
theorem dL_hand_29 : decode zc_L_hand 29 = .ok (.iconst 3, 1) := by decide +kernel
theorem dL_hand_30 : decode zc_L_hand 30 = .ok (.ireturn, 1) := by decide +kernel
theorem dL_hand_31 : decode zc_L_hand 31 = .ok (.iconst 0, 1) := by decide +kernel
theorem dL_hand_32 : decode zc_L_hand 32 = .ok (.ireturn, 1) := by decide +kernel
theorem dL_share_0 : decode zc_L_share 0 = .ok (.aload 4, 2) := by decide +kernel
theorem dL_share_2 : decode zc_L_share 2 = .ok (.iconst 0, 1) := by decide +kernel
theorem dL_share_3 : decode zc_L_share 3 = .ok (.aload_n 0, 1) := by decide +kernel
theorem dL_share_4 : decode zc_L_share 4 = .ok (.iload_n 1, 1) := by decide +kernel
theorem dL_share_5 : decode zc_L_share 5 = .ok (.iload_n 2, 1) := by decide +kernel
theorem dL_share_6 : decode zc_L_share 6 = .ok (.iload_n 3, 1) := by decide +kernel
theorem dL_share_7 : decode zc_L_share 7 = .ok (.invokevirtual 49, 3) := by decide +kernel
theorem dL_share_10 : decode zc_L_share 10 = .ok (.i2l, 1) := by decide +kernel
theorem dL_share_11 : decode zc_L_share 11 = .ok (.lastore, 1) := by decide +kernel
theorem dL_share_12 : decode zc_L_share 12 = .ok (.goto 11, 3) := by decide +kernel
theorem dL_share_15 : decode zc_L_share 15 = .ok (.astore 5, 2) := by decide +kernel
theorem dL_share_17 : decode zc_L_share 17 = .ok (.iconst 1, 1) := by decide +kernel
theorem dL_share_18 : decode zc_L_share 18 = .ok (.ireturn, 1) := by decide +kernel
theorem dL_share_19 : decode zc_L_share 19 = .ok (.astore 5, 2) := by decide +kernel
theorem dL_share_21 : decode zc_L_share 21 = .ok (.iconst 2, 1) := by decide +kernel
theorem dL_share_22 : decode zc_L_share 22 = .ok (.ireturn, 1) := by decide +kernel
theorem dL_share_23 : decode zc_L_share 23 = .ok (.iconst 0, 1) := by decide +kernel
theorem dL_share_24 : decode zc_L_share 24 = .ok (.ireturn, 1) := by decide +kernel
theorem dL_send_0 : decode zc_L_send 0 = .ok (.aload_n 3, 1) := by decide +kernel
theorem dL_send_1 : decode zc_L_send 1 = .ok (.iconst 0, 1) := by decide +kernel
theorem dL_send_2 : decode zc_L_send 2 = .ok (.aload_n 0, 1) := by decide +kernel
theorem dL_send_3 : decode zc_L_send 3 = .ok (.iload_n 1, 1) := by decide +kernel
theorem dL_send_4 : decode zc_L_send 4 = .ok (.iload_n 2, 1) := by decide +kernel
theorem dL_send_5 : decode zc_L_send 5 = .ok (.invokevirtual 52, 3) := by decide +kernel
theorem dL_send_8 : decode zc_L_send 8 = .ok (.i2l, 1) := by decide +kernel
theorem dL_send_9 : decode zc_L_send 9 = .ok (.lastore, 1) := by decide +kernel
theorem dL_send_10 : decode zc_L_send 10 = .ok (.goto 11, 3) := by decide +kernel
theorem dL_send_13 : decode zc_L_send 13 = .ok (.astore 4, 2) := by decide +kernel
theorem dL_send_15 : decode zc_L_send 15 = .ok (.iconst 1, 1) := by decide +kernel
theorem dL_send_16 : decode zc_L_send 16 = .ok (.ireturn, 1) := by decide +kernel
theorem dL_send_17 : decode zc_L_send 17 = .ok (.astore 4, 2) := by decide +kernel
theorem dL_send_19 : decode zc_L_send 19 = .ok (.iconst 2, 1) := by decide +kernel
theorem dL_send_20 : decode zc_L_send 20 = .ok (.ireturn, 1) := by decide +kernel
theorem dL_send_21 : decode zc_L_send 21 = .ok (.iconst 0, 1) := by decide +kernel
theorem dL_send_22 : decode zc_L_send 22 = .ok (.ireturn, 1) := by decide +kernel
theorem dL_arrive_0 : decode zc_L_arrive 0 = .ok (.aload_n 3, 1) := by decide +kernel
theorem dL_arrive_1 : decode zc_L_arrive 1 = .ok (.iconst 0, 1) := by decide +kernel
theorem dL_arrive_2 : decode zc_L_arrive 2 = .ok (.aload_n 0, 1) := by decide +kernel
theorem dL_arrive_3 : decode zc_L_arrive 3 = .ok (.iload_n 1, 1) := by decide +kernel
theorem dL_arrive_4 : decode zc_L_arrive 4 = .ok (.iload_n 2, 1) := by decide +kernel
theorem dL_arrive_5 : decode zc_L_arrive 5 = .ok (.invokevirtual 55, 3) := by decide +kernel
theorem dL_arrive_8 : decode zc_L_arrive 8 = .ok (.i2l, 1) := by decide +kernel
theorem dL_arrive_9 : decode zc_L_arrive 9 = .ok (.lastore, 1) := by decide +kernel
theorem dL_arrive_10 : decode zc_L_arrive 10 = .ok (.goto 11, 3) := by decide +kernel
theorem dL_arrive_13 : decode zc_L_arrive 13 = .ok (.astore 4, 2) := by decide +kernel
theorem dL_arrive_15 : decode zc_L_arrive 15 = .ok (.iconst 1, 1) := by decide +kernel
theorem dL_arrive_16 : decode zc_L_arrive 16 = .ok (.ireturn, 1) := by decide +kernel
theorem dL_arrive_17 : decode zc_L_arrive 17 = .ok (.astore 4, 2) := by decide +kernel
theorem dL_arrive_19 : decode zc_L_arrive 19 = .ok (.iconst 2, 1) := by decide +kernel
theorem dL_arrive_20 : decode zc_L_arrive 20 = .ok (.ireturn, 1) := by decide +kernel
theorem dL_arrive_21 : decode zc_L_arrive 21 = .ok (.iconst 0, 1) := by decide +kernel
theorem dL_arrive_22 : decode zc_L_arrive 22 = .ok (.ireturn, 1) := by decide +kernel
theorem dL_receipt_0 : decode zc_L_receipt 0 = .ok (.aload_n 3, 1) := by decide +kernel
theorem dL_receipt_1 : decode zc_L_receipt 1 = .ok (.iconst 0, 1) := by decide +kernel
theorem dL_receipt_2 : decode zc_L_receipt 2 = .ok (.aload_n 0, 1) := by decide +kernel
theorem dL_receipt_3 : decode zc_L_receipt 3 = .ok (.iload_n 1, 1) := by decide +kernel
theorem dL_receipt_4 : decode zc_L_receipt 4 = .ok (.iload_n 2, 1) := by decide +kernel
theorem dL_receipt_5 : decode zc_L_receipt 5 = .ok (.invokevirtual 58, 3) := by decide +kernel
theorem dL_receipt_8 : decode zc_L_receipt 8 = .ok (.i2l, 1) := by decide +kernel
theorem dL_receipt_9 : decode zc_L_receipt 9 = .ok (.lastore, 1) := by decide +kernel
theorem dL_receipt_10 : decode zc_L_receipt 10 = .ok (.goto 11, 3) := by decide +kernel
theorem dL_receipt_13 : decode zc_L_receipt 13 = .ok (.astore 4, 2) := by decide +kernel
theorem dL_receipt_15 : decode zc_L_receipt 15 = .ok (.iconst 1, 1) := by decide +kernel
theorem dL_receipt_16 : decode zc_L_receipt 16 = .ok (.ireturn, 1) := by decide +kernel
theorem dL_receipt_17 : decode zc_L_receipt 17 = .ok (.astore 4, 2) := by decide +kernel
theorem dL_receipt_19 : decode zc_L_receipt 19 = .ok (.iconst 2, 1) := by decide +kernel
theorem dL_receipt_20 : decode zc_L_receipt 20 = .ok (.ireturn, 1) := by decide +kernel
theorem dL_receipt_21 : decode zc_L_receipt 21 = .ok (.iconst 0, 1) := by decide +kernel
theorem dL_receipt_22 : decode zc_L_receipt 22 = .ok (.ireturn, 1) := by decide +kernel
theorem dL_lose_0 : decode zc_L_lose 0 = .ok (.aload_n 3, 1) := by decide +kernel
theorem dL_lose_1 : decode zc_L_lose 1 = .ok (.iconst 0, 1) := by decide +kernel
theorem dL_lose_2 : decode zc_L_lose 2 = .ok (.aload_n 0, 1) := by decide +kernel
theorem dL_lose_3 : decode zc_L_lose 3 = .ok (.iload_n 1, 1) := by decide +kernel
theorem dL_lose_4 : decode zc_L_lose 4 = .ok (.iload_n 2, 1) := by decide +kernel
theorem dL_lose_5 : decode zc_L_lose 5 = .ok (.invokevirtual 61, 3) := by decide +kernel
theorem dL_lose_8 : decode zc_L_lose 8 = .ok (.i2l, 1) := by decide +kernel
theorem dL_lose_9 : decode zc_L_lose 9 = .ok (.lastore, 1) := by decide +kernel
theorem dL_lose_10 : decode zc_L_lose 10 = .ok (.goto 11, 3) := by decide +kernel
theorem dL_lose_13 : decode zc_L_lose 13 = .ok (.astore 4, 2) := by decide +kernel
theorem dL_lose_15 : decode zc_L_lose 15 = .ok (.iconst 1, 1) := by decide +kernel
theorem dL_lose_16 : decode zc_L_lose 16 = .ok (.ireturn, 1) := by decide +kernel
theorem dL_lose_17 : decode zc_L_lose 17 = .ok (.astore 4, 2) := by decide +kernel
theorem dL_lose_19 : decode zc_L_lose 19 = .ok (.iconst 2, 1) := by decide +kernel
theorem dL_lose_20 : decode zc_L_lose 20 = .ok (.ireturn, 1) := by decide +kernel
theorem dL_lose_21 : decode zc_L_lose 21 = .ok (.iconst 0, 1) := by decide +kernel
theorem dL_lose_22 : decode zc_L_lose 22 = .ok (.ireturn, 1) := by decide +kernel
theorem dL_crash_0 : decode zc_L_crash 0 = .ok (.aload_n 2, 1) := by decide +kernel
theorem dL_crash_1 : decode zc_L_crash 1 = .ok (.iconst 0, 1) := by decide +kernel
theorem dL_crash_2 : decode zc_L_crash 2 = .ok (.aload_n 0, 1) := by decide +kernel
theorem dL_crash_3 : decode zc_L_crash 3 = .ok (.iload_n 1, 1) := by decide +kernel
theorem dL_crash_4 : decode zc_L_crash 4 = .ok (.invokevirtual 64, 3) := by decide +kernel
theorem dL_crash_7 : decode zc_L_crash 7 = .ok (.i2l, 1) := by decide +kernel
theorem dL_crash_8 : decode zc_L_crash 8 = .ok (.lastore, 1) := by decide +kernel
theorem dL_crash_9 : decode zc_L_crash 9 = .ok (.goto 6, 3) := by decide +kernel
theorem dL_crash_12 : decode zc_L_crash 12 = .ok (.astore_n 3, 1) := by decide +kernel
theorem dL_crash_13 : decode zc_L_crash 13 = .ok (.iconst 1, 1) := by decide +kernel
theorem dL_crash_14 : decode zc_L_crash 14 = .ok (.ireturn, 1) := by decide +kernel
theorem dL_crash_15 : decode zc_L_crash 15 = .ok (.iconst 0, 1) := by decide +kernel
theorem dL_crash_16 : decode zc_L_crash 16 = .ok (.ireturn, 1) := by decide +kernel
theorem dL_rights_0 : decode zc_L_rights 0 = .ok (.aload 4, 2) := by decide +kernel
theorem dL_rights_2 : decode zc_L_rights 2 = .ok (.iconst 0, 1) := by decide +kernel
theorem dL_rights_3 : decode zc_L_rights 3 = .ok (.aload_n 0, 1) := by decide +kernel
theorem dL_rights_4 : decode zc_L_rights 4 = .ok (.iload_n 1, 1) := by decide +kernel
theorem dL_rights_5 : decode zc_L_rights 5 = .ok (.iload_n 2, 1) := by decide +kernel
theorem dL_rights_6 : decode zc_L_rights 6 = .ok (.iload_n 3, 1) := by decide +kernel
theorem dL_rights_7 : decode zc_L_rights 7 = .ok (.invokevirtual 67, 3) := by decide +kernel
theorem dL_rights_10 : decode zc_L_rights 10 = .ok (.i2l, 1) := by decide +kernel
theorem dL_rights_11 : decode zc_L_rights 11 = .ok (.lastore, 1) := by decide +kernel
theorem dL_rights_12 : decode zc_L_rights 12 = .ok (.goto 7, 3) := by decide +kernel
theorem dL_rights_15 : decode zc_L_rights 15 = .ok (.astore 5, 2) := by decide +kernel
theorem dL_rights_17 : decode zc_L_rights 17 = .ok (.iconst 1, 1) := by decide +kernel
theorem dL_rights_18 : decode zc_L_rights 18 = .ok (.ireturn, 1) := by decide +kernel
theorem dL_rights_19 : decode zc_L_rights 19 = .ok (.iconst 0, 1) := by decide +kernel
theorem dL_rights_20 : decode zc_L_rights 20 = .ok (.ireturn, 1) := by decide +kernel
theorem dL_air_0 : decode zc_L_air 0 = .ok (.aload_n 3, 1) := by decide +kernel
theorem dL_air_1 : decode zc_L_air 1 = .ok (.iconst 0, 1) := by decide +kernel
theorem dL_air_2 : decode zc_L_air 2 = .ok (.aload_n 0, 1) := by decide +kernel
theorem dL_air_3 : decode zc_L_air 3 = .ok (.iload_n 1, 1) := by decide +kernel
theorem dL_air_4 : decode zc_L_air 4 = .ok (.iload_n 2, 1) := by decide +kernel
theorem dL_air_5 : decode zc_L_air 5 = .ok (.invokevirtual 70, 3) := by decide +kernel
theorem dL_air_8 : decode zc_L_air 8 = .ok (.i2l, 1) := by decide +kernel
theorem dL_air_9 : decode zc_L_air 9 = .ok (.lastore, 1) := by decide +kernel
theorem dL_air_10 : decode zc_L_air 10 = .ok (.goto 7, 3) := by decide +kernel
theorem dL_air_13 : decode zc_L_air 13 = .ok (.astore 4, 2) := by decide +kernel
theorem dL_air_15 : decode zc_L_air 15 = .ok (.iconst 1, 1) := by decide +kernel
theorem dL_air_16 : decode zc_L_air 16 = .ok (.ireturn, 1) := by decide +kernel
theorem dL_air_17 : decode zc_L_air 17 = .ok (.iconst 0, 1) := by decide +kernel
theorem dL_air_18 : decode zc_L_air 18 = .ok (.ireturn, 1) := by decide +kernel
theorem dL_sold_0 : decode zc_L_sold 0 = .ok (.aload_n 3, 1) := by decide +kernel
theorem dL_sold_1 : decode zc_L_sold 1 = .ok (.iconst 0, 1) := by decide +kernel
theorem dL_sold_2 : decode zc_L_sold 2 = .ok (.aload_n 0, 1) := by decide +kernel
theorem dL_sold_3 : decode zc_L_sold 3 = .ok (.iload_n 1, 1) := by decide +kernel
theorem dL_sold_4 : decode zc_L_sold 4 = .ok (.iload_n 2, 1) := by decide +kernel
theorem dL_sold_5 : decode zc_L_sold 5 = .ok (.invokevirtual 73, 3) := by decide +kernel
theorem dL_sold_8 : decode zc_L_sold 8 = .ok (.i2l, 1) := by decide +kernel
theorem dL_sold_9 : decode zc_L_sold 9 = .ok (.lastore, 1) := by decide +kernel
theorem dL_sold_10 : decode zc_L_sold 10 = .ok (.goto 7, 3) := by decide +kernel
theorem dL_sold_13 : decode zc_L_sold 13 = .ok (.astore 4, 2) := by decide +kernel
theorem dL_sold_15 : decode zc_L_sold 15 = .ok (.iconst 1, 1) := by decide +kernel
theorem dL_sold_16 : decode zc_L_sold 16 = .ok (.ireturn, 1) := by decide +kernel
theorem dL_sold_17 : decode zc_L_sold 17 = .ok (.iconst 0, 1) := by decide +kernel
theorem dL_sold_18 : decode zc_L_sold 18 = .ok (.ireturn, 1) := by decide +kernel
theorem dL_wishes_0 : decode zc_L_wishes 0 = .ok (.aload_n 2, 1) := by decide +kernel
theorem dL_wishes_1 : decode zc_L_wishes 1 = .ok (.iconst 0, 1) := by decide +kernel
theorem dL_wishes_2 : decode zc_L_wishes 2 = .ok (.aload_n 0, 1) := by decide +kernel
theorem dL_wishes_3 : decode zc_L_wishes 3 = .ok (.iload_n 1, 1) := by decide +kernel
theorem dL_wishes_4 : decode zc_L_wishes 4 = .ok (.invokevirtual 76, 3) := by decide +kernel
theorem dL_wishes_7 : decode zc_L_wishes 7 = .ok (.i2l, 1) := by decide +kernel
theorem dL_wishes_8 : decode zc_L_wishes 8 = .ok (.lastore, 1) := by decide +kernel
theorem dL_wishes_9 : decode zc_L_wishes 9 = .ok (.goto 6, 3) := by decide +kernel
theorem dL_wishes_12 : decode zc_L_wishes 12 = .ok (.astore_n 3, 1) := by decide +kernel
theorem dL_wishes_13 : decode zc_L_wishes 13 = .ok (.iconst 1, 1) := by decide +kernel
theorem dL_wishes_14 : decode zc_L_wishes 14 = .ok (.ireturn, 1) := by decide +kernel
theorem dL_wishes_15 : decode zc_L_wishes 15 = .ok (.iconst 0, 1) := by decide +kernel
theorem dL_wishes_16 : decode zc_L_wishes 16 = .ok (.ireturn, 1) := by decide +kernel
theorem dL_till_0 : decode zc_L_till 0 = .ok (.aload_n 2, 1) := by decide +kernel
theorem dL_till_1 : decode zc_L_till 1 = .ok (.iconst 0, 1) := by decide +kernel
theorem dL_till_2 : decode zc_L_till 2 = .ok (.aload_n 0, 1) := by decide +kernel
theorem dL_till_3 : decode zc_L_till 3 = .ok (.iload_n 1, 1) := by decide +kernel
theorem dL_till_4 : decode zc_L_till 4 = .ok (.invokevirtual 79, 3) := by decide +kernel
theorem dL_till_7 : decode zc_L_till 7 = .ok (.lastore, 1) := by decide +kernel
theorem dL_till_8 : decode zc_L_till 8 = .ok (.goto 6, 3) := by decide +kernel
theorem dL_till_11 : decode zc_L_till 11 = .ok (.astore_n 3, 1) := by decide +kernel
theorem dL_till_12 : decode zc_L_till 12 = .ok (.iconst 1, 1) := by decide +kernel
theorem dL_till_13 : decode zc_L_till 13 = .ok (.ireturn, 1) := by decide +kernel
theorem dL_till_14 : decode zc_L_till 14 = .ok (.iconst 0, 1) := by decide +kernel
theorem dL_till_15 : decode zc_L_till 15 = .ok (.ireturn, 1) := by decide +kernel
theorem dL_law_0 : decode zc_L_law 0 = .ok (.new 8, 3) := by decide +kernel
theorem dL_law_3 : decode zc_L_law 3 = .ok (.dup, 1) := by decide +kernel
theorem dL_law_4 : decode zc_L_law 4 = .ok (.invokespecial 82, 3) := by decide +kernel
theorem dL_law_7 : decode zc_L_law 7 = .ok (.astore_n 1, 1) := by decide +kernel
end
section
theorem dL_law_8 : decode zc_L_law 8 = .ok (.new 83, 3) := by decide +kernel
theorem dL_law_11 : decode zc_L_law 11 = .ok (.dup, 1) := by decide +kernel
theorem dL_law_12 : decode zc_L_law 12 = .ok (.invokespecial 85, 3) := by decide +kernel
theorem dL_law_15 : decode zc_L_law 15 = .ok (.astore_n 2, 1) := by decide +kernel
theorem dL_law_16 : decode zc_L_law 16 = .ok (.iconst 1, 1) := by decide +kernel
theorem dL_law_17 : decode zc_L_law 17 = .ok (.newarray .long, 2) := by decide +kernel
theorem dL_law_19 : decode zc_L_law 19 = .ok (.astore_n 3, 1) := by decide +kernel
theorem dL_law_20 : decode zc_L_law 20 = .ok (.iconst 0, 1) := by decide +kernel
theorem dL_law_21 : decode zc_L_law 21 = .ok (.istore 4, 2) := by decide +kernel
theorem dL_law_23 : decode zc_L_law 23 = .ok (.iload 4, 2) := by decide +kernel
theorem dL_law_25 : decode zc_L_law 25 = .ok (.aload_n 0, 1) := by decide +kernel
theorem dL_law_26 : decode zc_L_law 26 = .ok (.arraylength, 1) := by decide +kernel
theorem dL_law_27 : decode zc_L_law 27 = .ok (.bipush 6, 2) := by decide +kernel
theorem dL_law_29 : decode zc_L_law 29 = .ok (.isub, 1) := by decide +kernel
theorem dL_law_30 : decode zc_L_law 30 = .ok (.if_icmp .gt 1454, 3) := by decide +kernel
theorem dL_law_33 : decode zc_L_law 33 = .ok (.aload_n 0, 1) := by decide +kernel
theorem dL_law_34 : decode zc_L_law 34 = .ok (.iload 4, 2) := by decide +kernel
theorem dL_law_36 : decode zc_L_law 36 = .ok (.iaload, 1) := by decide +kernel
theorem dL_law_37 : decode zc_L_law 37 = .ok (.bipush 31, 2) := by decide +kernel
theorem dL_law_39 : decode zc_L_law 39 = .ok (.iand, 1) := by decide +kernel
theorem dL_law_40 : decode zc_L_law 40 = .ok (.tableswitch 1438 0 19 #[96, 144, 204, 284, 352, 420, 476, 544, 599, 703, 783, 851, 919, 987, 1055, 1111, 1191, 1259, 1327, 1383], 96) := by decide +kernel
theorem dL_law_136 : decode zc_L_law 136 = .ok (.aload_n 1, 1) := by decide +kernel
theorem dL_law_137 : decode zc_L_law 137 = .ok (.aload_n 0, 1) := by decide +kernel
theorem dL_law_138 : decode zc_L_law 138 = .ok (.iload 4, 2) := by decide +kernel
theorem dL_law_140 : decode zc_L_law 140 = .ok (.iconst 1, 1) := by decide +kernel
theorem dL_law_141 : decode zc_L_law 141 = .ok (.iadd, 1) := by decide +kernel
theorem dL_law_142 : decode zc_L_law 142 = .ok (.iaload, 1) := by decide +kernel
theorem dL_law_143 : decode zc_L_law 143 = .ok (.aload_n 0, 1) := by decide +kernel
theorem dL_law_144 : decode zc_L_law 144 = .ok (.iload 4, 2) := by decide +kernel
theorem dL_law_146 : decode zc_L_law 146 = .ok (.iconst 2, 1) := by decide +kernel
theorem dL_law_147 : decode zc_L_law 147 = .ok (.iadd, 1) := by decide +kernel
theorem dL_law_148 : decode zc_L_law 148 = .ok (.iaload, 1) := by decide +kernel
theorem dL_law_149 : decode zc_L_law 149 = .ok (.invokestatic 86, 3) := by decide +kernel
theorem dL_law_152 : decode zc_L_law 152 = .ok (.istore 5, 2) := by decide +kernel
theorem dL_law_154 : decode zc_L_law 154 = .ok (.aload_n 2, 1) := by decide +kernel
theorem dL_law_155 : decode zc_L_law 155 = .ok (.aload_n 0, 1) := by decide +kernel
theorem dL_law_156 : decode zc_L_law 156 = .ok (.iload 4, 2) := by decide +kernel
theorem dL_law_158 : decode zc_L_law 158 = .ok (.iconst 1, 1) := by decide +kernel
theorem dL_law_159 : decode zc_L_law 159 = .ok (.iadd, 1) := by decide +kernel
theorem dL_law_160 : decode zc_L_law 160 = .ok (.iaload, 1) := by decide +kernel
theorem dL_law_161 : decode zc_L_law 161 = .ok (.aload_n 0, 1) := by decide +kernel
theorem dL_law_162 : decode zc_L_law 162 = .ok (.iload 4, 2) := by decide +kernel
theorem dL_law_164 : decode zc_L_law 164 = .ok (.iconst 2, 1) := by decide +kernel
theorem dL_law_165 : decode zc_L_law 165 = .ok (.iadd, 1) := by decide +kernel
theorem dL_law_166 : decode zc_L_law 166 = .ok (.iaload, 1) := by decide +kernel
theorem dL_law_167 : decode zc_L_law 167 = .ok (.invokevirtual 91, 3) := by decide +kernel
theorem dL_law_170 : decode zc_L_law 170 = .ok (.aload_n 2, 1) := by decide +kernel
theorem dL_law_171 : decode zc_L_law 171 = .ok (.invokevirtual 92, 3) := by decide +kernel
theorem dL_law_174 : decode zc_L_law 174 = .ok (.iload 5, 2) := by decide +kernel
theorem dL_law_176 : decode zc_L_law 176 = .ok (.if_icmp .eq 5, 3) := by decide +kernel
theorem dL_law_179 : decode zc_L_law 179 = .ok (.iconst 0, 1) := by decide +kernel
theorem dL_law_180 : decode zc_L_law 180 = .ok (.ireturn, 1) := by decide +kernel
theorem dL_law_181 : decode zc_L_law 181 = .ok (.goto 1297, 3) := by decide +kernel
theorem dL_law_184 : decode zc_L_law 184 = .ok (.aload_n 1, 1) := by decide +kernel
theorem dL_law_185 : decode zc_L_law 185 = .ok (.aload_n 0, 1) := by decide +kernel
theorem dL_law_186 : decode zc_L_law 186 = .ok (.iload 4, 2) := by decide +kernel
theorem dL_law_188 : decode zc_L_law 188 = .ok (.iconst 1, 1) := by decide +kernel
theorem dL_law_189 : decode zc_L_law 189 = .ok (.iadd, 1) := by decide +kernel
theorem dL_law_190 : decode zc_L_law 190 = .ok (.iaload, 1) := by decide +kernel
theorem dL_law_191 : decode zc_L_law 191 = .ok (.aload_n 0, 1) := by decide +kernel
theorem dL_law_192 : decode zc_L_law 192 = .ok (.iload 4, 2) := by decide +kernel
theorem dL_law_194 : decode zc_L_law 194 = .ok (.iconst 2, 1) := by decide +kernel
theorem dL_law_195 : decode zc_L_law 195 = .ok (.iadd, 1) := by decide +kernel
theorem dL_law_196 : decode zc_L_law 196 = .ok (.iaload, 1) := by decide +kernel
theorem dL_law_197 : decode zc_L_law 197 = .ok (.aload_n 0, 1) := by decide +kernel
theorem dL_law_198 : decode zc_L_law 198 = .ok (.iload 4, 2) := by decide +kernel
theorem dL_law_200 : decode zc_L_law 200 = .ok (.iconst 3, 1) := by decide +kernel
theorem dL_law_201 : decode zc_L_law 201 = .ok (.iadd, 1) := by decide +kernel
theorem dL_law_202 : decode zc_L_law 202 = .ok (.iaload, 1) := by decide +kernel
theorem dL_law_203 : decode zc_L_law 203 = .ok (.invokestatic 96, 3) := by decide +kernel
theorem dL_law_206 : decode zc_L_law 206 = .ok (.istore 5, 2) := by decide +kernel
theorem dL_law_208 : decode zc_L_law 208 = .ok (.aload_n 2, 1) := by decide +kernel
theorem dL_law_209 : decode zc_L_law 209 = .ok (.aload_n 0, 1) := by decide +kernel
theorem dL_law_210 : decode zc_L_law 210 = .ok (.iload 4, 2) := by decide +kernel
theorem dL_law_212 : decode zc_L_law 212 = .ok (.iconst 1, 1) := by decide +kernel
theorem dL_law_213 : decode zc_L_law 213 = .ok (.iadd, 1) := by decide +kernel
theorem dL_law_214 : decode zc_L_law 214 = .ok (.iaload, 1) := by decide +kernel
theorem dL_law_215 : decode zc_L_law 215 = .ok (.aload_n 0, 1) := by decide +kernel
theorem dL_law_216 : decode zc_L_law 216 = .ok (.iload 4, 2) := by decide +kernel
theorem dL_law_218 : decode zc_L_law 218 = .ok (.iconst 2, 1) := by decide +kernel
theorem dL_law_219 : decode zc_L_law 219 = .ok (.iadd, 1) := by decide +kernel
theorem dL_law_220 : decode zc_L_law 220 = .ok (.iaload, 1) := by decide +kernel
theorem dL_law_221 : decode zc_L_law 221 = .ok (.aload_n 0, 1) := by decide +kernel
theorem dL_law_222 : decode zc_L_law 222 = .ok (.iload 4, 2) := by decide +kernel
theorem dL_law_224 : decode zc_L_law 224 = .ok (.iconst 3, 1) := by decide +kernel
theorem dL_law_225 : decode zc_L_law 225 = .ok (.iadd, 1) := by decide +kernel
theorem dL_law_226 : decode zc_L_law 226 = .ok (.iaload, 1) := by decide +kernel
theorem dL_law_227 : decode zc_L_law 227 = .ok (.invokevirtual 99, 3) := by decide +kernel
theorem dL_law_230 : decode zc_L_law 230 = .ok (.aload_n 2, 1) := by decide +kernel
theorem dL_law_231 : decode zc_L_law 231 = .ok (.invokevirtual 92, 3) := by decide +kernel
theorem dL_law_234 : decode zc_L_law 234 = .ok (.iload 5, 2) := by decide +kernel
theorem dL_law_236 : decode zc_L_law 236 = .ok (.if_icmp .eq 5, 3) := by decide +kernel
theorem dL_law_239 : decode zc_L_law 239 = .ok (.iconst 0, 1) := by decide +kernel
theorem dL_law_240 : decode zc_L_law 240 = .ok (.ireturn, 1) := by decide +kernel
theorem dL_law_241 : decode zc_L_law 241 = .ok (.goto 1237, 3) := by decide +kernel
theorem dL_law_244 : decode zc_L_law 244 = .ok (.aload_n 1, 1) := by decide +kernel
theorem dL_law_245 : decode zc_L_law 245 = .ok (.aload_n 0, 1) := by decide +kernel
theorem dL_law_246 : decode zc_L_law 246 = .ok (.iload 4, 2) := by decide +kernel
theorem dL_law_248 : decode zc_L_law 248 = .ok (.iconst 1, 1) := by decide +kernel
theorem dL_law_249 : decode zc_L_law 249 = .ok (.iadd, 1) := by decide +kernel
theorem dL_law_250 : decode zc_L_law 250 = .ok (.iaload, 1) := by decide +kernel
theorem dL_law_251 : decode zc_L_law 251 = .ok (.aload_n 0, 1) := by decide +kernel
theorem dL_law_252 : decode zc_L_law 252 = .ok (.iload 4, 2) := by decide +kernel
theorem dL_law_254 : decode zc_L_law 254 = .ok (.iconst 2, 1) := by decide +kernel
theorem dL_law_255 : decode zc_L_law 255 = .ok (.iadd, 1) := by decide +kernel
theorem dL_law_256 : decode zc_L_law 256 = .ok (.iaload, 1) := by decide +kernel
theorem dL_law_257 : decode zc_L_law 257 = .ok (.aload_n 0, 1) := by decide +kernel
theorem dL_law_258 : decode zc_L_law 258 = .ok (.iload 4, 2) := by decide +kernel
theorem dL_law_260 : decode zc_L_law 260 = .ok (.iconst 3, 1) := by decide +kernel
theorem dL_law_261 : decode zc_L_law 261 = .ok (.iadd, 1) := by decide +kernel
theorem dL_law_262 : decode zc_L_law 262 = .ok (.iaload, 1) := by decide +kernel
theorem dL_law_263 : decode zc_L_law 263 = .ok (.aload_n 3, 1) := by decide +kernel
theorem dL_law_264 : decode zc_L_law 264 = .ok (.invokestatic 100, 3) := by decide +kernel
theorem dL_law_267 : decode zc_L_law 267 = .ok (.istore 5, 2) := by decide +kernel
theorem dL_law_269 : decode zc_L_law 269 = .ok (.aload_n 2, 1) := by decide +kernel
theorem dL_law_270 : decode zc_L_law 270 = .ok (.aload_n 0, 1) := by decide +kernel
theorem dL_law_271 : decode zc_L_law 271 = .ok (.iload 4, 2) := by decide +kernel
theorem dL_law_273 : decode zc_L_law 273 = .ok (.iconst 1, 1) := by decide +kernel
theorem dL_law_274 : decode zc_L_law 274 = .ok (.iadd, 1) := by decide +kernel
theorem dL_law_275 : decode zc_L_law 275 = .ok (.iaload, 1) := by decide +kernel
theorem dL_law_276 : decode zc_L_law 276 = .ok (.aload_n 0, 1) := by decide +kernel
theorem dL_law_277 : decode zc_L_law 277 = .ok (.iload 4, 2) := by decide +kernel
theorem dL_law_279 : decode zc_L_law 279 = .ok (.iconst 2, 1) := by decide +kernel
theorem dL_law_280 : decode zc_L_law 280 = .ok (.iadd, 1) := by decide +kernel
theorem dL_law_281 : decode zc_L_law 281 = .ok (.iaload, 1) := by decide +kernel
theorem dL_law_282 : decode zc_L_law 282 = .ok (.aload_n 0, 1) := by decide +kernel
theorem dL_law_283 : decode zc_L_law 283 = .ok (.iload 4, 2) := by decide +kernel
theorem dL_law_285 : decode zc_L_law 285 = .ok (.iconst 3, 1) := by decide +kernel
theorem dL_law_286 : decode zc_L_law 286 = .ok (.iadd, 1) := by decide +kernel
theorem dL_law_287 : decode zc_L_law 287 = .ok (.iaload, 1) := by decide +kernel
theorem dL_law_288 : decode zc_L_law 288 = .ok (.invokevirtual 103, 3) := by decide +kernel
theorem dL_law_291 : decode zc_L_law 291 = .ok (.istore 6, 2) := by decide +kernel
theorem dL_law_293 : decode zc_L_law 293 = .ok (.aload_n 2, 1) := by decide +kernel
theorem dL_law_294 : decode zc_L_law 294 = .ok (.invokevirtual 92, 3) := by decide +kernel
theorem dL_law_297 : decode zc_L_law 297 = .ok (.iload 5, 2) := by decide +kernel
theorem dL_law_299 : decode zc_L_law 299 = .ok (.if_icmp .eq 5, 3) := by decide +kernel
theorem dL_law_302 : decode zc_L_law 302 = .ok (.iconst 0, 1) := by decide +kernel
theorem dL_law_303 : decode zc_L_law 303 = .ok (.ireturn, 1) := by decide +kernel
theorem dL_law_304 : decode zc_L_law 304 = .ok (.iload 5, 2) := by decide +kernel
theorem dL_law_306 : decode zc_L_law 306 = .ok (.ifCond .ne 15, 3) := by decide +kernel
theorem dL_law_309 : decode zc_L_law 309 = .ok (.aload_n 3, 1) := by decide +kernel
theorem dL_law_310 : decode zc_L_law 310 = .ok (.iconst 0, 1) := by decide +kernel
theorem dL_law_311 : decode zc_L_law 311 = .ok (.laload, 1) := by decide +kernel
theorem dL_law_312 : decode zc_L_law 312 = .ok (.iload 6, 2) := by decide +kernel
theorem dL_law_314 : decode zc_L_law 314 = .ok (.i2l, 1) := by decide +kernel
theorem dL_law_315 : decode zc_L_law 315 = .ok (.lcmp, 1) := by decide +kernel
theorem dL_law_316 : decode zc_L_law 316 = .ok (.ifCond .eq 5, 3) := by decide +kernel
theorem dL_law_319 : decode zc_L_law 319 = .ok (.iconst 0, 1) := by decide +kernel
theorem dL_law_320 : decode zc_L_law 320 = .ok (.ireturn, 1) := by decide +kernel
theorem dL_law_321 : decode zc_L_law 321 = .ok (.goto 1157, 3) := by decide +kernel
theorem dL_law_324 : decode zc_L_law 324 = .ok (.aload_n 1, 1) := by decide +kernel
theorem dL_law_325 : decode zc_L_law 325 = .ok (.aload_n 0, 1) := by decide +kernel
theorem dL_law_326 : decode zc_L_law 326 = .ok (.iload 4, 2) := by decide +kernel
theorem dL_law_328 : decode zc_L_law 328 = .ok (.iconst 1, 1) := by decide +kernel
theorem dL_law_329 : decode zc_L_law 329 = .ok (.iadd, 1) := by decide +kernel
theorem dL_law_330 : decode zc_L_law 330 = .ok (.iaload, 1) := by decide +kernel
theorem dL_law_331 : decode zc_L_law 331 = .ok (.aload_n 0, 1) := by decide +kernel
theorem dL_law_332 : decode zc_L_law 332 = .ok (.iload 4, 2) := by decide +kernel
theorem dL_law_334 : decode zc_L_law 334 = .ok (.iconst 2, 1) := by decide +kernel
theorem dL_law_335 : decode zc_L_law 335 = .ok (.iadd, 1) := by decide +kernel
theorem dL_law_336 : decode zc_L_law 336 = .ok (.iaload, 1) := by decide +kernel
theorem dL_law_337 : decode zc_L_law 337 = .ok (.aload_n 3, 1) := by decide +kernel
theorem dL_law_338 : decode zc_L_law 338 = .ok (.invokestatic 104, 3) := by decide +kernel
theorem dL_law_341 : decode zc_L_law 341 = .ok (.istore 5, 2) := by decide +kernel
theorem dL_law_343 : decode zc_L_law 343 = .ok (.aload_n 2, 1) := by decide +kernel
theorem dL_law_344 : decode zc_L_law 344 = .ok (.aload_n 0, 1) := by decide +kernel
theorem dL_law_345 : decode zc_L_law 345 = .ok (.iload 4, 2) := by decide +kernel
theorem dL_law_347 : decode zc_L_law 347 = .ok (.iconst 1, 1) := by decide +kernel
theorem dL_law_348 : decode zc_L_law 348 = .ok (.iadd, 1) := by decide +kernel
theorem dL_law_349 : decode zc_L_law 349 = .ok (.iaload, 1) := by decide +kernel
theorem dL_law_350 : decode zc_L_law 350 = .ok (.aload_n 0, 1) := by decide +kernel
theorem dL_law_351 : decode zc_L_law 351 = .ok (.iload 4, 2) := by decide +kernel
theorem dL_law_353 : decode zc_L_law 353 = .ok (.iconst 2, 1) := by decide +kernel
theorem dL_law_354 : decode zc_L_law 354 = .ok (.iadd, 1) := by decide +kernel
theorem dL_law_355 : decode zc_L_law 355 = .ok (.iaload, 1) := by decide +kernel
theorem dL_law_356 : decode zc_L_law 356 = .ok (.invokevirtual 107, 3) := by decide +kernel
theorem dL_law_359 : decode zc_L_law 359 = .ok (.istore 6, 2) := by decide +kernel
theorem dL_law_361 : decode zc_L_law 361 = .ok (.aload_n 2, 1) := by decide +kernel
theorem dL_law_362 : decode zc_L_law 362 = .ok (.invokevirtual 92, 3) := by decide +kernel
theorem dL_law_365 : decode zc_L_law 365 = .ok (.iload 5, 2) := by decide +kernel
theorem dL_law_367 : decode zc_L_law 367 = .ok (.if_icmp .eq 5, 3) := by decide +kernel
theorem dL_law_370 : decode zc_L_law 370 = .ok (.iconst 0, 1) := by decide +kernel
theorem dL_law_371 : decode zc_L_law 371 = .ok (.ireturn, 1) := by decide +kernel
theorem dL_law_372 : decode zc_L_law 372 = .ok (.iload 5, 2) := by decide +kernel
theorem dL_law_374 : decode zc_L_law 374 = .ok (.ifCond .ne 15, 3) := by decide +kernel
theorem dL_law_377 : decode zc_L_law 377 = .ok (.aload_n 3, 1) := by decide +kernel
theorem dL_law_378 : decode zc_L_law 378 = .ok (.iconst 0, 1) := by decide +kernel
theorem dL_law_379 : decode zc_L_law 379 = .ok (.laload, 1) := by decide +kernel
theorem dL_law_380 : decode zc_L_law 380 = .ok (.iload 6, 2) := by decide +kernel
theorem dL_law_382 : decode zc_L_law 382 = .ok (.i2l, 1) := by decide +kernel
theorem dL_law_383 : decode zc_L_law 383 = .ok (.lcmp, 1) := by decide +kernel
theorem dL_law_384 : decode zc_L_law 384 = .ok (.ifCond .eq 5, 3) := by decide +kernel
theorem dL_law_387 : decode zc_L_law 387 = .ok (.iconst 0, 1) := by decide +kernel
theorem dL_law_388 : decode zc_L_law 388 = .ok (.ireturn, 1) := by decide +kernel
theorem dL_law_389 : decode zc_L_law 389 = .ok (.goto 1089, 3) := by decide +kernel
theorem dL_law_392 : decode zc_L_law 392 = .ok (.aload_n 1, 1) := by decide +kernel
theorem dL_law_393 : decode zc_L_law 393 = .ok (.aload_n 0, 1) := by decide +kernel
theorem dL_law_394 : decode zc_L_law 394 = .ok (.iload 4, 2) := by decide +kernel
theorem dL_law_396 : decode zc_L_law 396 = .ok (.iconst 1, 1) := by decide +kernel
theorem dL_law_397 : decode zc_L_law 397 = .ok (.iadd, 1) := by decide +kernel
theorem dL_law_398 : decode zc_L_law 398 = .ok (.iaload, 1) := by decide +kernel
theorem dL_law_399 : decode zc_L_law 399 = .ok (.aload_n 0, 1) := by decide +kernel
theorem dL_law_400 : decode zc_L_law 400 = .ok (.iload 4, 2) := by decide +kernel
theorem dL_law_402 : decode zc_L_law 402 = .ok (.iconst 2, 1) := by decide +kernel
theorem dL_law_403 : decode zc_L_law 403 = .ok (.iadd, 1) := by decide +kernel
theorem dL_law_404 : decode zc_L_law 404 = .ok (.iaload, 1) := by decide +kernel
theorem dL_law_405 : decode zc_L_law 405 = .ok (.aload_n 3, 1) := by decide +kernel
theorem dL_law_406 : decode zc_L_law 406 = .ok (.invokestatic 108, 3) := by decide +kernel
theorem dL_law_409 : decode zc_L_law 409 = .ok (.istore 5, 2) := by decide +kernel
theorem dL_law_411 : decode zc_L_law 411 = .ok (.aload_n 2, 1) := by decide +kernel
theorem dL_law_412 : decode zc_L_law 412 = .ok (.aload_n 0, 1) := by decide +kernel
theorem dL_law_413 : decode zc_L_law 413 = .ok (.iload 4, 2) := by decide +kernel
theorem dL_law_415 : decode zc_L_law 415 = .ok (.iconst 1, 1) := by decide +kernel
theorem dL_law_416 : decode zc_L_law 416 = .ok (.iadd, 1) := by decide +kernel
theorem dL_law_417 : decode zc_L_law 417 = .ok (.iaload, 1) := by decide +kernel
theorem dL_law_418 : decode zc_L_law 418 = .ok (.aload_n 0, 1) := by decide +kernel
theorem dL_law_419 : decode zc_L_law 419 = .ok (.iload 4, 2) := by decide +kernel
theorem dL_law_421 : decode zc_L_law 421 = .ok (.iconst 2, 1) := by decide +kernel
theorem dL_law_422 : decode zc_L_law 422 = .ok (.iadd, 1) := by decide +kernel
theorem dL_law_423 : decode zc_L_law 423 = .ok (.iaload, 1) := by decide +kernel
theorem dL_law_424 : decode zc_L_law 424 = .ok (.invokevirtual 110, 3) := by decide +kernel
theorem dL_law_427 : decode zc_L_law 427 = .ok (.istore 6, 2) := by decide +kernel
theorem dL_law_429 : decode zc_L_law 429 = .ok (.aload_n 2, 1) := by decide +kernel
theorem dL_law_430 : decode zc_L_law 430 = .ok (.invokevirtual 92, 3) := by decide +kernel
theorem dL_law_433 : decode zc_L_law 433 = .ok (.iload 5, 2) := by decide +kernel
theorem dL_law_435 : decode zc_L_law 435 = .ok (.if_icmp .eq 5, 3) := by decide +kernel
theorem dL_law_438 : decode zc_L_law 438 = .ok (.iconst 0, 1) := by decide +kernel
theorem dL_law_439 : decode zc_L_law 439 = .ok (.ireturn, 1) := by decide +kernel
theorem dL_law_440 : decode zc_L_law 440 = .ok (.iload 5, 2) := by decide +kernel
theorem dL_law_442 : decode zc_L_law 442 = .ok (.ifCond .ne 15, 3) := by decide +kernel
theorem dL_law_445 : decode zc_L_law 445 = .ok (.aload_n 3, 1) := by decide +kernel
theorem dL_law_446 : decode zc_L_law 446 = .ok (.iconst 0, 1) := by decide +kernel
theorem dL_law_447 : decode zc_L_law 447 = .ok (.laload, 1) := by decide +kernel
theorem dL_law_448 : decode zc_L_law 448 = .ok (.iload 6, 2) := by decide +kernel
theorem dL_law_450 : decode zc_L_law 450 = .ok (.i2l, 1) := by decide +kernel
theorem dL_law_451 : decode zc_L_law 451 = .ok (.lcmp, 1) := by decide +kernel
theorem dL_law_452 : decode zc_L_law 452 = .ok (.ifCond .eq 5, 3) := by decide +kernel
theorem dL_law_455 : decode zc_L_law 455 = .ok (.iconst 0, 1) := by decide +kernel
theorem dL_law_456 : decode zc_L_law 456 = .ok (.ireturn, 1) := by decide +kernel
theorem dL_law_457 : decode zc_L_law 457 = .ok (.goto 1021, 3) := by decide +kernel
theorem dL_law_460 : decode zc_L_law 460 = .ok (.aload_n 1, 1) := by decide +kernel
theorem dL_law_461 : decode zc_L_law 461 = .ok (.aload_n 0, 1) := by decide +kernel
theorem dL_law_462 : decode zc_L_law 462 = .ok (.iload 4, 2) := by decide +kernel
theorem dL_law_464 : decode zc_L_law 464 = .ok (.iconst 1, 1) := by decide +kernel
theorem dL_law_465 : decode zc_L_law 465 = .ok (.iadd, 1) := by decide +kernel
theorem dL_law_466 : decode zc_L_law 466 = .ok (.iaload, 1) := by decide +kernel
theorem dL_law_467 : decode zc_L_law 467 = .ok (.aload_n 3, 1) := by decide +kernel
theorem dL_law_468 : decode zc_L_law 468 = .ok (.invokestatic 111, 3) := by decide +kernel
theorem dL_law_471 : decode zc_L_law 471 = .ok (.istore 5, 2) := by decide +kernel
theorem dL_law_473 : decode zc_L_law 473 = .ok (.aload_n 2, 1) := by decide +kernel
theorem dL_law_474 : decode zc_L_law 474 = .ok (.aload_n 0, 1) := by decide +kernel
theorem dL_law_475 : decode zc_L_law 475 = .ok (.iload 4, 2) := by decide +kernel
theorem dL_law_477 : decode zc_L_law 477 = .ok (.iconst 1, 1) := by decide +kernel
theorem dL_law_478 : decode zc_L_law 478 = .ok (.iadd, 1) := by decide +kernel
theorem dL_law_479 : decode zc_L_law 479 = .ok (.iaload, 1) := by decide +kernel
theorem dL_law_480 : decode zc_L_law 480 = .ok (.invokevirtual 114, 3) := by decide +kernel
theorem dL_law_483 : decode zc_L_law 483 = .ok (.istore 6, 2) := by decide +kernel
theorem dL_law_485 : decode zc_L_law 485 = .ok (.aload_n 2, 1) := by decide +kernel
theorem dL_law_486 : decode zc_L_law 486 = .ok (.invokevirtual 92, 3) := by decide +kernel
theorem dL_law_489 : decode zc_L_law 489 = .ok (.iload 5, 2) := by decide +kernel
theorem dL_law_491 : decode zc_L_law 491 = .ok (.if_icmp .eq 5, 3) := by decide +kernel
theorem dL_law_494 : decode zc_L_law 494 = .ok (.iconst 0, 1) := by decide +kernel
theorem dL_law_495 : decode zc_L_law 495 = .ok (.ireturn, 1) := by decide +kernel
theorem dL_law_496 : decode zc_L_law 496 = .ok (.iload 5, 2) := by decide +kernel
theorem dL_law_498 : decode zc_L_law 498 = .ok (.ifCond .ne 15, 3) := by decide +kernel
theorem dL_law_501 : decode zc_L_law 501 = .ok (.aload_n 3, 1) := by decide +kernel
theorem dL_law_502 : decode zc_L_law 502 = .ok (.iconst 0, 1) := by decide +kernel
theorem dL_law_503 : decode zc_L_law 503 = .ok (.laload, 1) := by decide +kernel
theorem dL_law_504 : decode zc_L_law 504 = .ok (.iload 6, 2) := by decide +kernel
theorem dL_law_506 : decode zc_L_law 506 = .ok (.i2l, 1) := by decide +kernel
theorem dL_law_507 : decode zc_L_law 507 = .ok (.lcmp, 1) := by decide +kernel
theorem dL_law_508 : decode zc_L_law 508 = .ok (.ifCond .eq 5, 3) := by decide +kernel
theorem dL_law_511 : decode zc_L_law 511 = .ok (.iconst 0, 1) := by decide +kernel
theorem dL_law_512 : decode zc_L_law 512 = .ok (.ireturn, 1) := by decide +kernel
theorem dL_law_513 : decode zc_L_law 513 = .ok (.goto 965, 3) := by decide +kernel
theorem dL_law_516 : decode zc_L_law 516 = .ok (.aload_n 1, 1) := by decide +kernel
theorem dL_law_517 : decode zc_L_law 517 = .ok (.aload_n 0, 1) := by decide +kernel
theorem dL_law_518 : decode zc_L_law 518 = .ok (.iload 4, 2) := by decide +kernel
theorem dL_law_520 : decode zc_L_law 520 = .ok (.iconst 1, 1) := by decide +kernel
theorem dL_law_521 : decode zc_L_law 521 = .ok (.iadd, 1) := by decide +kernel
theorem dL_law_522 : decode zc_L_law 522 = .ok (.iaload, 1) := by decide +kernel
theorem dL_law_523 : decode zc_L_law 523 = .ok (.aload_n 0, 1) := by decide +kernel
theorem dL_law_524 : decode zc_L_law 524 = .ok (.iload 4, 2) := by decide +kernel
theorem dL_law_526 : decode zc_L_law 526 = .ok (.iconst 2, 1) := by decide +kernel
theorem dL_law_527 : decode zc_L_law 527 = .ok (.iadd, 1) := by decide +kernel
theorem dL_law_528 : decode zc_L_law 528 = .ok (.iaload, 1) := by decide +kernel
theorem dL_law_529 : decode zc_L_law 529 = .ok (.aload_n 3, 1) := by decide +kernel
theorem dL_law_530 : decode zc_L_law 530 = .ok (.invokestatic 115, 3) := by decide +kernel
theorem dL_law_533 : decode zc_L_law 533 = .ok (.istore 5, 2) := by decide +kernel
theorem dL_law_535 : decode zc_L_law 535 = .ok (.aload_n 2, 1) := by decide +kernel
theorem dL_law_536 : decode zc_L_law 536 = .ok (.aload_n 0, 1) := by decide +kernel
theorem dL_law_537 : decode zc_L_law 537 = .ok (.iload 4, 2) := by decide +kernel
theorem dL_law_539 : decode zc_L_law 539 = .ok (.iconst 1, 1) := by decide +kernel
theorem dL_law_540 : decode zc_L_law 540 = .ok (.iadd, 1) := by decide +kernel
theorem dL_law_541 : decode zc_L_law 541 = .ok (.iaload, 1) := by decide +kernel
theorem dL_law_542 : decode zc_L_law 542 = .ok (.aload_n 0, 1) := by decide +kernel
theorem dL_law_543 : decode zc_L_law 543 = .ok (.iload 4, 2) := by decide +kernel
theorem dL_law_545 : decode zc_L_law 545 = .ok (.iconst 2, 1) := by decide +kernel
theorem dL_law_546 : decode zc_L_law 546 = .ok (.iadd, 1) := by decide +kernel
theorem dL_law_547 : decode zc_L_law 547 = .ok (.iaload, 1) := by decide +kernel
theorem dL_law_548 : decode zc_L_law 548 = .ok (.invokevirtual 117, 3) := by decide +kernel
theorem dL_law_551 : decode zc_L_law 551 = .ok (.istore 6, 2) := by decide +kernel
theorem dL_law_553 : decode zc_L_law 553 = .ok (.aload_n 2, 1) := by decide +kernel
theorem dL_law_554 : decode zc_L_law 554 = .ok (.invokevirtual 92, 3) := by decide +kernel
theorem dL_law_557 : decode zc_L_law 557 = .ok (.iload 5, 2) := by decide +kernel
theorem dL_law_559 : decode zc_L_law 559 = .ok (.if_icmp .eq 5, 3) := by decide +kernel
theorem dL_law_562 : decode zc_L_law 562 = .ok (.iconst 0, 1) := by decide +kernel
theorem dL_law_563 : decode zc_L_law 563 = .ok (.ireturn, 1) := by decide +kernel
theorem dL_law_564 : decode zc_L_law 564 = .ok (.iload 5, 2) := by decide +kernel
theorem dL_law_566 : decode zc_L_law 566 = .ok (.ifCond .ne 15, 3) := by decide +kernel
theorem dL_law_569 : decode zc_L_law 569 = .ok (.aload_n 3, 1) := by decide +kernel
theorem dL_law_570 : decode zc_L_law 570 = .ok (.iconst 0, 1) := by decide +kernel
theorem dL_law_571 : decode zc_L_law 571 = .ok (.laload, 1) := by decide +kernel
theorem dL_law_572 : decode zc_L_law 572 = .ok (.iload 6, 2) := by decide +kernel
theorem dL_law_574 : decode zc_L_law 574 = .ok (.i2l, 1) := by decide +kernel
theorem dL_law_575 : decode zc_L_law 575 = .ok (.lcmp, 1) := by decide +kernel
theorem dL_law_576 : decode zc_L_law 576 = .ok (.ifCond .eq 5, 3) := by decide +kernel
theorem dL_law_579 : decode zc_L_law 579 = .ok (.iconst 0, 1) := by decide +kernel
theorem dL_law_580 : decode zc_L_law 580 = .ok (.ireturn, 1) := by decide +kernel
theorem dL_law_581 : decode zc_L_law 581 = .ok (.goto 897, 3) := by decide +kernel
theorem dL_law_584 : decode zc_L_law 584 = .ok (.aload_n 1, 1) := by decide +kernel
theorem dL_law_585 : decode zc_L_law 585 = .ok (.aload_n 0, 1) := by decide +kernel
theorem dL_law_586 : decode zc_L_law 586 = .ok (.iload 4, 2) := by decide +kernel
theorem dL_law_588 : decode zc_L_law 588 = .ok (.iconst 1, 1) := by decide +kernel
theorem dL_law_589 : decode zc_L_law 589 = .ok (.iadd, 1) := by decide +kernel
theorem dL_law_590 : decode zc_L_law 590 = .ok (.iaload, 1) := by decide +kernel
theorem dL_law_591 : decode zc_L_law 591 = .ok (.aload_n 3, 1) := by decide +kernel
theorem dL_law_592 : decode zc_L_law 592 = .ok (.invokestatic 118, 3) := by decide +kernel
theorem dL_law_595 : decode zc_L_law 595 = .ok (.istore 5, 2) := by decide +kernel
theorem dL_law_597 : decode zc_L_law 597 = .ok (.aload_n 2, 1) := by decide +kernel
end
section
theorem dL_law_598 : decode zc_L_law 598 = .ok (.aload_n 0, 1) := by decide +kernel
theorem dL_law_599 : decode zc_L_law 599 = .ok (.iload 4, 2) := by decide +kernel
theorem dL_law_601 : decode zc_L_law 601 = .ok (.iconst 1, 1) := by decide +kernel
theorem dL_law_602 : decode zc_L_law 602 = .ok (.iadd, 1) := by decide +kernel
theorem dL_law_603 : decode zc_L_law 603 = .ok (.iaload, 1) := by decide +kernel
theorem dL_law_604 : decode zc_L_law 604 = .ok (.invokevirtual 120, 3) := by decide +kernel
theorem dL_law_607 : decode zc_L_law 607 = .ok (.lstore 6, 2) := by decide +kernel
theorem dL_law_609 : decode zc_L_law 609 = .ok (.aload_n 2, 1) := by decide +kernel
theorem dL_law_610 : decode zc_L_law 610 = .ok (.invokevirtual 92, 3) := by decide +kernel
theorem dL_law_613 : decode zc_L_law 613 = .ok (.iload 5, 2) := by decide +kernel
theorem dL_law_615 : decode zc_L_law 615 = .ok (.if_icmp .eq 5, 3) := by decide +kernel
theorem dL_law_618 : decode zc_L_law 618 = .ok (.iconst 0, 1) := by decide +kernel
theorem dL_law_619 : decode zc_L_law 619 = .ok (.ireturn, 1) := by decide +kernel
theorem dL_law_620 : decode zc_L_law 620 = .ok (.iload 5, 2) := by decide +kernel
theorem dL_law_622 : decode zc_L_law 622 = .ok (.ifCond .ne 14, 3) := by decide +kernel
theorem dL_law_625 : decode zc_L_law 625 = .ok (.aload_n 3, 1) := by decide +kernel
theorem dL_law_626 : decode zc_L_law 626 = .ok (.iconst 0, 1) := by decide +kernel
theorem dL_law_627 : decode zc_L_law 627 = .ok (.laload, 1) := by decide +kernel
theorem dL_law_628 : decode zc_L_law 628 = .ok (.lload 6, 2) := by decide +kernel
theorem dL_law_630 : decode zc_L_law 630 = .ok (.lcmp, 1) := by decide +kernel
theorem dL_law_631 : decode zc_L_law 631 = .ok (.ifCond .eq 5, 3) := by decide +kernel
theorem dL_law_634 : decode zc_L_law 634 = .ok (.iconst 0, 1) := by decide +kernel
theorem dL_law_635 : decode zc_L_law 635 = .ok (.ireturn, 1) := by decide +kernel
theorem dL_law_636 : decode zc_L_law 636 = .ok (.goto 842, 3) := by decide +kernel
theorem dL_law_639 : decode zc_L_law 639 = .ok (.aload_n 1, 1) := by decide +kernel
theorem dL_law_640 : decode zc_L_law 640 = .ok (.aload_n 0, 1) := by decide +kernel
theorem dL_law_641 : decode zc_L_law 641 = .ok (.iload 4, 2) := by decide +kernel
theorem dL_law_643 : decode zc_L_law 643 = .ok (.iconst 1, 1) := by decide +kernel
theorem dL_law_644 : decode zc_L_law 644 = .ok (.iadd, 1) := by decide +kernel
theorem dL_law_645 : decode zc_L_law 645 = .ok (.iaload, 1) := by decide +kernel
theorem dL_law_646 : decode zc_L_law 646 = .ok (.aload_n 0, 1) := by decide +kernel
theorem dL_law_647 : decode zc_L_law 647 = .ok (.iload 4, 2) := by decide +kernel
theorem dL_law_649 : decode zc_L_law 649 = .ok (.iconst 2, 1) := by decide +kernel
theorem dL_law_650 : decode zc_L_law 650 = .ok (.iadd, 1) := by decide +kernel
theorem dL_law_651 : decode zc_L_law 651 = .ok (.iaload, 1) := by decide +kernel
theorem dL_law_652 : decode zc_L_law 652 = .ok (.aload_n 0, 1) := by decide +kernel
theorem dL_law_653 : decode zc_L_law 653 = .ok (.iload 4, 2) := by decide +kernel
theorem dL_law_655 : decode zc_L_law 655 = .ok (.iconst 3, 1) := by decide +kernel
theorem dL_law_656 : decode zc_L_law 656 = .ok (.iadd, 1) := by decide +kernel
theorem dL_law_657 : decode zc_L_law 657 = .ok (.iaload, 1) := by decide +kernel
theorem dL_law_658 : decode zc_L_law 658 = .ok (.aload_n 0, 1) := by decide +kernel
theorem dL_law_659 : decode zc_L_law 659 = .ok (.iload 4, 2) := by decide +kernel
theorem dL_law_661 : decode zc_L_law 661 = .ok (.iconst 4, 1) := by decide +kernel
theorem dL_law_662 : decode zc_L_law 662 = .ok (.iadd, 1) := by decide +kernel
theorem dL_law_663 : decode zc_L_law 663 = .ok (.iaload, 1) := by decide +kernel
theorem dL_law_664 : decode zc_L_law 664 = .ok (.aload_n 0, 1) := by decide +kernel
theorem dL_law_665 : decode zc_L_law 665 = .ok (.iload 4, 2) := by decide +kernel
theorem dL_law_667 : decode zc_L_law 667 = .ok (.iconst 5, 1) := by decide +kernel
theorem dL_law_668 : decode zc_L_law 668 = .ok (.iadd, 1) := by decide +kernel
theorem dL_law_669 : decode zc_L_law 669 = .ok (.iaload, 1) := by decide +kernel
theorem dL_law_670 : decode zc_L_law 670 = .ok (.aload_n 3, 1) := by decide +kernel
theorem dL_law_671 : decode zc_L_law 671 = .ok (.invokestatic 121, 3) := by decide +kernel
theorem dL_law_674 : decode zc_L_law 674 = .ok (.istore 5, 2) := by decide +kernel
theorem dL_law_676 : decode zc_L_law 676 = .ok (.aload_n 2, 1) := by decide +kernel
theorem dL_law_677 : decode zc_L_law 677 = .ok (.aload_n 0, 1) := by decide +kernel
theorem dL_law_678 : decode zc_L_law 678 = .ok (.iload 4, 2) := by decide +kernel
theorem dL_law_680 : decode zc_L_law 680 = .ok (.iconst 1, 1) := by decide +kernel
theorem dL_law_681 : decode zc_L_law 681 = .ok (.iadd, 1) := by decide +kernel
theorem dL_law_682 : decode zc_L_law 682 = .ok (.iaload, 1) := by decide +kernel
theorem dL_law_683 : decode zc_L_law 683 = .ok (.aload_n 0, 1) := by decide +kernel
theorem dL_law_684 : decode zc_L_law 684 = .ok (.iload 4, 2) := by decide +kernel
theorem dL_law_686 : decode zc_L_law 686 = .ok (.iconst 2, 1) := by decide +kernel
theorem dL_law_687 : decode zc_L_law 687 = .ok (.iadd, 1) := by decide +kernel
theorem dL_law_688 : decode zc_L_law 688 = .ok (.iaload, 1) := by decide +kernel
theorem dL_law_689 : decode zc_L_law 689 = .ok (.aload_n 0, 1) := by decide +kernel
theorem dL_law_690 : decode zc_L_law 690 = .ok (.iload 4, 2) := by decide +kernel
theorem dL_law_692 : decode zc_L_law 692 = .ok (.iconst 3, 1) := by decide +kernel
theorem dL_law_693 : decode zc_L_law 693 = .ok (.iadd, 1) := by decide +kernel
theorem dL_law_694 : decode zc_L_law 694 = .ok (.iaload, 1) := by decide +kernel
theorem dL_law_695 : decode zc_L_law 695 = .ok (.aload_n 0, 1) := by decide +kernel
theorem dL_law_696 : decode zc_L_law 696 = .ok (.iload 4, 2) := by decide +kernel
theorem dL_law_698 : decode zc_L_law 698 = .ok (.iconst 4, 1) := by decide +kernel
theorem dL_law_699 : decode zc_L_law 699 = .ok (.iadd, 1) := by decide +kernel
theorem dL_law_700 : decode zc_L_law 700 = .ok (.iaload, 1) := by decide +kernel
theorem dL_law_701 : decode zc_L_law 701 = .ok (.aload_n 0, 1) := by decide +kernel
theorem dL_law_702 : decode zc_L_law 702 = .ok (.iload 4, 2) := by decide +kernel
theorem dL_law_704 : decode zc_L_law 704 = .ok (.iconst 5, 1) := by decide +kernel
theorem dL_law_705 : decode zc_L_law 705 = .ok (.iadd, 1) := by decide +kernel
theorem dL_law_706 : decode zc_L_law 706 = .ok (.iaload, 1) := by decide +kernel
theorem dL_law_707 : decode zc_L_law 707 = .ok (.invokevirtual 124, 3) := by decide +kernel
theorem dL_law_710 : decode zc_L_law 710 = .ok (.istore 6, 2) := by decide +kernel
theorem dL_law_712 : decode zc_L_law 712 = .ok (.aload_n 2, 1) := by decide +kernel
theorem dL_law_713 : decode zc_L_law 713 = .ok (.invokevirtual 92, 3) := by decide +kernel
theorem dL_law_716 : decode zc_L_law 716 = .ok (.iload 5, 2) := by decide +kernel
theorem dL_law_718 : decode zc_L_law 718 = .ok (.if_icmp .eq 5, 3) := by decide +kernel
theorem dL_law_721 : decode zc_L_law 721 = .ok (.iconst 0, 1) := by decide +kernel
theorem dL_law_722 : decode zc_L_law 722 = .ok (.ireturn, 1) := by decide +kernel
theorem dL_law_723 : decode zc_L_law 723 = .ok (.iload 5, 2) := by decide +kernel
theorem dL_law_725 : decode zc_L_law 725 = .ok (.ifCond .ne 15, 3) := by decide +kernel
theorem dL_law_728 : decode zc_L_law 728 = .ok (.aload_n 3, 1) := by decide +kernel
theorem dL_law_729 : decode zc_L_law 729 = .ok (.iconst 0, 1) := by decide +kernel
theorem dL_law_730 : decode zc_L_law 730 = .ok (.laload, 1) := by decide +kernel
theorem dL_law_731 : decode zc_L_law 731 = .ok (.iload 6, 2) := by decide +kernel
theorem dL_law_733 : decode zc_L_law 733 = .ok (.i2l, 1) := by decide +kernel
theorem dL_law_734 : decode zc_L_law 734 = .ok (.lcmp, 1) := by decide +kernel
theorem dL_law_735 : decode zc_L_law 735 = .ok (.ifCond .eq 5, 3) := by decide +kernel
theorem dL_law_738 : decode zc_L_law 738 = .ok (.iconst 0, 1) := by decide +kernel
theorem dL_law_739 : decode zc_L_law 739 = .ok (.ireturn, 1) := by decide +kernel
theorem dL_law_740 : decode zc_L_law 740 = .ok (.goto 738, 3) := by decide +kernel
theorem dL_law_743 : decode zc_L_law 743 = .ok (.aload_n 1, 1) := by decide +kernel
theorem dL_law_744 : decode zc_L_law 744 = .ok (.aload_n 0, 1) := by decide +kernel
theorem dL_law_745 : decode zc_L_law 745 = .ok (.iload 4, 2) := by decide +kernel
theorem dL_law_747 : decode zc_L_law 747 = .ok (.iconst 1, 1) := by decide +kernel
theorem dL_law_748 : decode zc_L_law 748 = .ok (.iadd, 1) := by decide +kernel
theorem dL_law_749 : decode zc_L_law 749 = .ok (.iaload, 1) := by decide +kernel
theorem dL_law_750 : decode zc_L_law 750 = .ok (.aload_n 0, 1) := by decide +kernel
theorem dL_law_751 : decode zc_L_law 751 = .ok (.iload 4, 2) := by decide +kernel
theorem dL_law_753 : decode zc_L_law 753 = .ok (.iconst 2, 1) := by decide +kernel
theorem dL_law_754 : decode zc_L_law 754 = .ok (.iadd, 1) := by decide +kernel
theorem dL_law_755 : decode zc_L_law 755 = .ok (.iaload, 1) := by decide +kernel
theorem dL_law_756 : decode zc_L_law 756 = .ok (.aload_n 0, 1) := by decide +kernel
theorem dL_law_757 : decode zc_L_law 757 = .ok (.iload 4, 2) := by decide +kernel
theorem dL_law_759 : decode zc_L_law 759 = .ok (.iconst 3, 1) := by decide +kernel
theorem dL_law_760 : decode zc_L_law 760 = .ok (.iadd, 1) := by decide +kernel
theorem dL_law_761 : decode zc_L_law 761 = .ok (.iaload, 1) := by decide +kernel
theorem dL_law_762 : decode zc_L_law 762 = .ok (.aload_n 3, 1) := by decide +kernel
theorem dL_law_763 : decode zc_L_law 763 = .ok (.invokestatic 125, 3) := by decide +kernel
theorem dL_law_766 : decode zc_L_law 766 = .ok (.istore 5, 2) := by decide +kernel
theorem dL_law_768 : decode zc_L_law 768 = .ok (.aload_n 2, 1) := by decide +kernel
theorem dL_law_769 : decode zc_L_law 769 = .ok (.aload_n 0, 1) := by decide +kernel
theorem dL_law_770 : decode zc_L_law 770 = .ok (.iload 4, 2) := by decide +kernel
theorem dL_law_772 : decode zc_L_law 772 = .ok (.iconst 1, 1) := by decide +kernel
theorem dL_law_773 : decode zc_L_law 773 = .ok (.iadd, 1) := by decide +kernel
theorem dL_law_774 : decode zc_L_law 774 = .ok (.iaload, 1) := by decide +kernel
theorem dL_law_775 : decode zc_L_law 775 = .ok (.aload_n 0, 1) := by decide +kernel
theorem dL_law_776 : decode zc_L_law 776 = .ok (.iload 4, 2) := by decide +kernel
theorem dL_law_778 : decode zc_L_law 778 = .ok (.iconst 2, 1) := by decide +kernel
theorem dL_law_779 : decode zc_L_law 779 = .ok (.iadd, 1) := by decide +kernel
theorem dL_law_780 : decode zc_L_law 780 = .ok (.iaload, 1) := by decide +kernel
theorem dL_law_781 : decode zc_L_law 781 = .ok (.aload_n 0, 1) := by decide +kernel
theorem dL_law_782 : decode zc_L_law 782 = .ok (.iload 4, 2) := by decide +kernel
theorem dL_law_784 : decode zc_L_law 784 = .ok (.iconst 3, 1) := by decide +kernel
theorem dL_law_785 : decode zc_L_law 785 = .ok (.iadd, 1) := by decide +kernel
theorem dL_law_786 : decode zc_L_law 786 = .ok (.iaload, 1) := by decide +kernel
theorem dL_law_787 : decode zc_L_law 787 = .ok (.invokevirtual 127, 3) := by decide +kernel
theorem dL_law_790 : decode zc_L_law 790 = .ok (.istore 6, 2) := by decide +kernel
theorem dL_law_792 : decode zc_L_law 792 = .ok (.aload_n 2, 1) := by decide +kernel
theorem dL_law_793 : decode zc_L_law 793 = .ok (.invokevirtual 92, 3) := by decide +kernel
theorem dL_law_796 : decode zc_L_law 796 = .ok (.iload 5, 2) := by decide +kernel
theorem dL_law_798 : decode zc_L_law 798 = .ok (.if_icmp .eq 5, 3) := by decide +kernel
theorem dL_law_801 : decode zc_L_law 801 = .ok (.iconst 0, 1) := by decide +kernel
theorem dL_law_802 : decode zc_L_law 802 = .ok (.ireturn, 1) := by decide +kernel
theorem dL_law_803 : decode zc_L_law 803 = .ok (.iload 5, 2) := by decide +kernel
theorem dL_law_805 : decode zc_L_law 805 = .ok (.ifCond .ne 15, 3) := by decide +kernel
theorem dL_law_808 : decode zc_L_law 808 = .ok (.aload_n 3, 1) := by decide +kernel
theorem dL_law_809 : decode zc_L_law 809 = .ok (.iconst 0, 1) := by decide +kernel
theorem dL_law_810 : decode zc_L_law 810 = .ok (.laload, 1) := by decide +kernel
theorem dL_law_811 : decode zc_L_law 811 = .ok (.iload 6, 2) := by decide +kernel
theorem dL_law_813 : decode zc_L_law 813 = .ok (.i2l, 1) := by decide +kernel
theorem dL_law_814 : decode zc_L_law 814 = .ok (.lcmp, 1) := by decide +kernel
theorem dL_law_815 : decode zc_L_law 815 = .ok (.ifCond .eq 5, 3) := by decide +kernel
theorem dL_law_818 : decode zc_L_law 818 = .ok (.iconst 0, 1) := by decide +kernel
theorem dL_law_819 : decode zc_L_law 819 = .ok (.ireturn, 1) := by decide +kernel
theorem dL_law_820 : decode zc_L_law 820 = .ok (.goto 658, 3) := by decide +kernel
theorem dL_law_823 : decode zc_L_law 823 = .ok (.aload_n 1, 1) := by decide +kernel
theorem dL_law_824 : decode zc_L_law 824 = .ok (.aload_n 0, 1) := by decide +kernel
theorem dL_law_825 : decode zc_L_law 825 = .ok (.iload 4, 2) := by decide +kernel
theorem dL_law_827 : decode zc_L_law 827 = .ok (.iconst 1, 1) := by decide +kernel
theorem dL_law_828 : decode zc_L_law 828 = .ok (.iadd, 1) := by decide +kernel
theorem dL_law_829 : decode zc_L_law 829 = .ok (.iaload, 1) := by decide +kernel
theorem dL_law_830 : decode zc_L_law 830 = .ok (.aload_n 0, 1) := by decide +kernel
theorem dL_law_831 : decode zc_L_law 831 = .ok (.iload 4, 2) := by decide +kernel
theorem dL_law_833 : decode zc_L_law 833 = .ok (.iconst 2, 1) := by decide +kernel
theorem dL_law_834 : decode zc_L_law 834 = .ok (.iadd, 1) := by decide +kernel
theorem dL_law_835 : decode zc_L_law 835 = .ok (.iaload, 1) := by decide +kernel
theorem dL_law_836 : decode zc_L_law 836 = .ok (.aload_n 3, 1) := by decide +kernel
theorem dL_law_837 : decode zc_L_law 837 = .ok (.invokestatic 128, 3) := by decide +kernel
theorem dL_law_840 : decode zc_L_law 840 = .ok (.istore 5, 2) := by decide +kernel
theorem dL_law_842 : decode zc_L_law 842 = .ok (.aload_n 2, 1) := by decide +kernel
theorem dL_law_843 : decode zc_L_law 843 = .ok (.aload_n 0, 1) := by decide +kernel
theorem dL_law_844 : decode zc_L_law 844 = .ok (.iload 4, 2) := by decide +kernel
theorem dL_law_846 : decode zc_L_law 846 = .ok (.iconst 1, 1) := by decide +kernel
theorem dL_law_847 : decode zc_L_law 847 = .ok (.iadd, 1) := by decide +kernel
theorem dL_law_848 : decode zc_L_law 848 = .ok (.iaload, 1) := by decide +kernel
theorem dL_law_849 : decode zc_L_law 849 = .ok (.aload_n 0, 1) := by decide +kernel
theorem dL_law_850 : decode zc_L_law 850 = .ok (.iload 4, 2) := by decide +kernel
theorem dL_law_852 : decode zc_L_law 852 = .ok (.iconst 2, 1) := by decide +kernel
theorem dL_law_853 : decode zc_L_law 853 = .ok (.iadd, 1) := by decide +kernel
theorem dL_law_854 : decode zc_L_law 854 = .ok (.iaload, 1) := by decide +kernel
theorem dL_law_855 : decode zc_L_law 855 = .ok (.invokevirtual 130, 3) := by decide +kernel
theorem dL_law_858 : decode zc_L_law 858 = .ok (.istore 6, 2) := by decide +kernel
theorem dL_law_860 : decode zc_L_law 860 = .ok (.aload_n 2, 1) := by decide +kernel
theorem dL_law_861 : decode zc_L_law 861 = .ok (.invokevirtual 92, 3) := by decide +kernel
theorem dL_law_864 : decode zc_L_law 864 = .ok (.iload 5, 2) := by decide +kernel
theorem dL_law_866 : decode zc_L_law 866 = .ok (.if_icmp .eq 5, 3) := by decide +kernel
theorem dL_law_869 : decode zc_L_law 869 = .ok (.iconst 0, 1) := by decide +kernel
theorem dL_law_870 : decode zc_L_law 870 = .ok (.ireturn, 1) := by decide +kernel
theorem dL_law_871 : decode zc_L_law 871 = .ok (.iload 5, 2) := by decide +kernel
theorem dL_law_873 : decode zc_L_law 873 = .ok (.ifCond .ne 15, 3) := by decide +kernel
theorem dL_law_876 : decode zc_L_law 876 = .ok (.aload_n 3, 1) := by decide +kernel
theorem dL_law_877 : decode zc_L_law 877 = .ok (.iconst 0, 1) := by decide +kernel
theorem dL_law_878 : decode zc_L_law 878 = .ok (.laload, 1) := by decide +kernel
theorem dL_law_879 : decode zc_L_law 879 = .ok (.iload 6, 2) := by decide +kernel
theorem dL_law_881 : decode zc_L_law 881 = .ok (.i2l, 1) := by decide +kernel
theorem dL_law_882 : decode zc_L_law 882 = .ok (.lcmp, 1) := by decide +kernel
theorem dL_law_883 : decode zc_L_law 883 = .ok (.ifCond .eq 5, 3) := by decide +kernel
theorem dL_law_886 : decode zc_L_law 886 = .ok (.iconst 0, 1) := by decide +kernel
theorem dL_law_887 : decode zc_L_law 887 = .ok (.ireturn, 1) := by decide +kernel
theorem dL_law_888 : decode zc_L_law 888 = .ok (.goto 590, 3) := by decide +kernel
theorem dL_law_891 : decode zc_L_law 891 = .ok (.aload_n 1, 1) := by decide +kernel
theorem dL_law_892 : decode zc_L_law 892 = .ok (.aload_n 0, 1) := by decide +kernel
theorem dL_law_893 : decode zc_L_law 893 = .ok (.iload 4, 2) := by decide +kernel
theorem dL_law_895 : decode zc_L_law 895 = .ok (.iconst 1, 1) := by decide +kernel
theorem dL_law_896 : decode zc_L_law 896 = .ok (.iadd, 1) := by decide +kernel
theorem dL_law_897 : decode zc_L_law 897 = .ok (.iaload, 1) := by decide +kernel
theorem dL_law_898 : decode zc_L_law 898 = .ok (.aload_n 0, 1) := by decide +kernel
theorem dL_law_899 : decode zc_L_law 899 = .ok (.iload 4, 2) := by decide +kernel
theorem dL_law_901 : decode zc_L_law 901 = .ok (.iconst 2, 1) := by decide +kernel
theorem dL_law_902 : decode zc_L_law 902 = .ok (.iadd, 1) := by decide +kernel
theorem dL_law_903 : decode zc_L_law 903 = .ok (.iaload, 1) := by decide +kernel
theorem dL_law_904 : decode zc_L_law 904 = .ok (.aload_n 3, 1) := by decide +kernel
theorem dL_law_905 : decode zc_L_law 905 = .ok (.invokestatic 131, 3) := by decide +kernel
theorem dL_law_908 : decode zc_L_law 908 = .ok (.istore 5, 2) := by decide +kernel
theorem dL_law_910 : decode zc_L_law 910 = .ok (.aload_n 2, 1) := by decide +kernel
theorem dL_law_911 : decode zc_L_law 911 = .ok (.aload_n 0, 1) := by decide +kernel
theorem dL_law_912 : decode zc_L_law 912 = .ok (.iload 4, 2) := by decide +kernel
theorem dL_law_914 : decode zc_L_law 914 = .ok (.iconst 1, 1) := by decide +kernel
theorem dL_law_915 : decode zc_L_law 915 = .ok (.iadd, 1) := by decide +kernel
theorem dL_law_916 : decode zc_L_law 916 = .ok (.iaload, 1) := by decide +kernel
theorem dL_law_917 : decode zc_L_law 917 = .ok (.aload_n 0, 1) := by decide +kernel
theorem dL_law_918 : decode zc_L_law 918 = .ok (.iload 4, 2) := by decide +kernel
theorem dL_law_920 : decode zc_L_law 920 = .ok (.iconst 2, 1) := by decide +kernel
theorem dL_law_921 : decode zc_L_law 921 = .ok (.iadd, 1) := by decide +kernel
theorem dL_law_922 : decode zc_L_law 922 = .ok (.iaload, 1) := by decide +kernel
theorem dL_law_923 : decode zc_L_law 923 = .ok (.invokevirtual 133, 3) := by decide +kernel
theorem dL_law_926 : decode zc_L_law 926 = .ok (.istore 6, 2) := by decide +kernel
theorem dL_law_928 : decode zc_L_law 928 = .ok (.aload_n 2, 1) := by decide +kernel
theorem dL_law_929 : decode zc_L_law 929 = .ok (.invokevirtual 92, 3) := by decide +kernel
theorem dL_law_932 : decode zc_L_law 932 = .ok (.iload 5, 2) := by decide +kernel
theorem dL_law_934 : decode zc_L_law 934 = .ok (.if_icmp .eq 5, 3) := by decide +kernel
theorem dL_law_937 : decode zc_L_law 937 = .ok (.iconst 0, 1) := by decide +kernel
theorem dL_law_938 : decode zc_L_law 938 = .ok (.ireturn, 1) := by decide +kernel
theorem dL_law_939 : decode zc_L_law 939 = .ok (.iload 5, 2) := by decide +kernel
theorem dL_law_941 : decode zc_L_law 941 = .ok (.ifCond .ne 15, 3) := by decide +kernel
theorem dL_law_944 : decode zc_L_law 944 = .ok (.aload_n 3, 1) := by decide +kernel
theorem dL_law_945 : decode zc_L_law 945 = .ok (.iconst 0, 1) := by decide +kernel
theorem dL_law_946 : decode zc_L_law 946 = .ok (.laload, 1) := by decide +kernel
theorem dL_law_947 : decode zc_L_law 947 = .ok (.iload 6, 2) := by decide +kernel
theorem dL_law_949 : decode zc_L_law 949 = .ok (.i2l, 1) := by decide +kernel
theorem dL_law_950 : decode zc_L_law 950 = .ok (.lcmp, 1) := by decide +kernel
theorem dL_law_951 : decode zc_L_law 951 = .ok (.ifCond .eq 5, 3) := by decide +kernel
theorem dL_law_954 : decode zc_L_law 954 = .ok (.iconst 0, 1) := by decide +kernel
theorem dL_law_955 : decode zc_L_law 955 = .ok (.ireturn, 1) := by decide +kernel
theorem dL_law_956 : decode zc_L_law 956 = .ok (.goto 522, 3) := by decide +kernel
theorem dL_law_959 : decode zc_L_law 959 = .ok (.aload_n 1, 1) := by decide +kernel
theorem dL_law_960 : decode zc_L_law 960 = .ok (.aload_n 0, 1) := by decide +kernel
theorem dL_law_961 : decode zc_L_law 961 = .ok (.iload 4, 2) := by decide +kernel
theorem dL_law_963 : decode zc_L_law 963 = .ok (.iconst 1, 1) := by decide +kernel
theorem dL_law_964 : decode zc_L_law 964 = .ok (.iadd, 1) := by decide +kernel
theorem dL_law_965 : decode zc_L_law 965 = .ok (.iaload, 1) := by decide +kernel
theorem dL_law_966 : decode zc_L_law 966 = .ok (.aload_n 0, 1) := by decide +kernel
theorem dL_law_967 : decode zc_L_law 967 = .ok (.iload 4, 2) := by decide +kernel
theorem dL_law_969 : decode zc_L_law 969 = .ok (.iconst 2, 1) := by decide +kernel
theorem dL_law_970 : decode zc_L_law 970 = .ok (.iadd, 1) := by decide +kernel
theorem dL_law_971 : decode zc_L_law 971 = .ok (.iaload, 1) := by decide +kernel
theorem dL_law_972 : decode zc_L_law 972 = .ok (.aload_n 3, 1) := by decide +kernel
theorem dL_law_973 : decode zc_L_law 973 = .ok (.invokestatic 134, 3) := by decide +kernel
theorem dL_law_976 : decode zc_L_law 976 = .ok (.istore 5, 2) := by decide +kernel
theorem dL_law_978 : decode zc_L_law 978 = .ok (.aload_n 2, 1) := by decide +kernel
theorem dL_law_979 : decode zc_L_law 979 = .ok (.aload_n 0, 1) := by decide +kernel
theorem dL_law_980 : decode zc_L_law 980 = .ok (.iload 4, 2) := by decide +kernel
theorem dL_law_982 : decode zc_L_law 982 = .ok (.iconst 1, 1) := by decide +kernel
theorem dL_law_983 : decode zc_L_law 983 = .ok (.iadd, 1) := by decide +kernel
theorem dL_law_984 : decode zc_L_law 984 = .ok (.iaload, 1) := by decide +kernel
theorem dL_law_985 : decode zc_L_law 985 = .ok (.aload_n 0, 1) := by decide +kernel
theorem dL_law_986 : decode zc_L_law 986 = .ok (.iload 4, 2) := by decide +kernel
theorem dL_law_988 : decode zc_L_law 988 = .ok (.iconst 2, 1) := by decide +kernel
theorem dL_law_989 : decode zc_L_law 989 = .ok (.iadd, 1) := by decide +kernel
theorem dL_law_990 : decode zc_L_law 990 = .ok (.iaload, 1) := by decide +kernel
theorem dL_law_991 : decode zc_L_law 991 = .ok (.invokevirtual 136, 3) := by decide +kernel
theorem dL_law_994 : decode zc_L_law 994 = .ok (.istore 6, 2) := by decide +kernel
theorem dL_law_996 : decode zc_L_law 996 = .ok (.aload_n 2, 1) := by decide +kernel
theorem dL_law_997 : decode zc_L_law 997 = .ok (.invokevirtual 92, 3) := by decide +kernel
theorem dL_law_1000 : decode zc_L_law 1000 = .ok (.iload 5, 2) := by decide +kernel
theorem dL_law_1002 : decode zc_L_law 1002 = .ok (.if_icmp .eq 5, 3) := by decide +kernel
theorem dL_law_1005 : decode zc_L_law 1005 = .ok (.iconst 0, 1) := by decide +kernel
theorem dL_law_1006 : decode zc_L_law 1006 = .ok (.ireturn, 1) := by decide +kernel
theorem dL_law_1007 : decode zc_L_law 1007 = .ok (.iload 5, 2) := by decide +kernel
theorem dL_law_1009 : decode zc_L_law 1009 = .ok (.ifCond .ne 15, 3) := by decide +kernel
theorem dL_law_1012 : decode zc_L_law 1012 = .ok (.aload_n 3, 1) := by decide +kernel
theorem dL_law_1013 : decode zc_L_law 1013 = .ok (.iconst 0, 1) := by decide +kernel
theorem dL_law_1014 : decode zc_L_law 1014 = .ok (.laload, 1) := by decide +kernel
theorem dL_law_1015 : decode zc_L_law 1015 = .ok (.iload 6, 2) := by decide +kernel
theorem dL_law_1017 : decode zc_L_law 1017 = .ok (.i2l, 1) := by decide +kernel
theorem dL_law_1018 : decode zc_L_law 1018 = .ok (.lcmp, 1) := by decide +kernel
theorem dL_law_1019 : decode zc_L_law 1019 = .ok (.ifCond .eq 5, 3) := by decide +kernel
theorem dL_law_1022 : decode zc_L_law 1022 = .ok (.iconst 0, 1) := by decide +kernel
theorem dL_law_1023 : decode zc_L_law 1023 = .ok (.ireturn, 1) := by decide +kernel
theorem dL_law_1024 : decode zc_L_law 1024 = .ok (.goto 454, 3) := by decide +kernel
theorem dL_law_1027 : decode zc_L_law 1027 = .ok (.aload_n 1, 1) := by decide +kernel
theorem dL_law_1028 : decode zc_L_law 1028 = .ok (.aload_n 0, 1) := by decide +kernel
theorem dL_law_1029 : decode zc_L_law 1029 = .ok (.iload 4, 2) := by decide +kernel
theorem dL_law_1031 : decode zc_L_law 1031 = .ok (.iconst 1, 1) := by decide +kernel
theorem dL_law_1032 : decode zc_L_law 1032 = .ok (.iadd, 1) := by decide +kernel
theorem dL_law_1033 : decode zc_L_law 1033 = .ok (.iaload, 1) := by decide +kernel
theorem dL_law_1034 : decode zc_L_law 1034 = .ok (.aload_n 0, 1) := by decide +kernel
theorem dL_law_1035 : decode zc_L_law 1035 = .ok (.iload 4, 2) := by decide +kernel
theorem dL_law_1037 : decode zc_L_law 1037 = .ok (.iconst 2, 1) := by decide +kernel
theorem dL_law_1038 : decode zc_L_law 1038 = .ok (.iadd, 1) := by decide +kernel
theorem dL_law_1039 : decode zc_L_law 1039 = .ok (.iaload, 1) := by decide +kernel
theorem dL_law_1040 : decode zc_L_law 1040 = .ok (.aload_n 3, 1) := by decide +kernel
theorem dL_law_1041 : decode zc_L_law 1041 = .ok (.invokestatic 137, 3) := by decide +kernel
theorem dL_law_1044 : decode zc_L_law 1044 = .ok (.istore 5, 2) := by decide +kernel
theorem dL_law_1046 : decode zc_L_law 1046 = .ok (.aload_n 2, 1) := by decide +kernel
theorem dL_law_1047 : decode zc_L_law 1047 = .ok (.aload_n 0, 1) := by decide +kernel
theorem dL_law_1048 : decode zc_L_law 1048 = .ok (.iload 4, 2) := by decide +kernel
theorem dL_law_1050 : decode zc_L_law 1050 = .ok (.iconst 1, 1) := by decide +kernel
theorem dL_law_1051 : decode zc_L_law 1051 = .ok (.iadd, 1) := by decide +kernel
theorem dL_law_1052 : decode zc_L_law 1052 = .ok (.iaload, 1) := by decide +kernel
theorem dL_law_1053 : decode zc_L_law 1053 = .ok (.aload_n 0, 1) := by decide +kernel
theorem dL_law_1054 : decode zc_L_law 1054 = .ok (.iload 4, 2) := by decide +kernel
theorem dL_law_1056 : decode zc_L_law 1056 = .ok (.iconst 2, 1) := by decide +kernel
theorem dL_law_1057 : decode zc_L_law 1057 = .ok (.iadd, 1) := by decide +kernel
theorem dL_law_1058 : decode zc_L_law 1058 = .ok (.iaload, 1) := by decide +kernel
theorem dL_law_1059 : decode zc_L_law 1059 = .ok (.invokevirtual 139, 3) := by decide +kernel
theorem dL_law_1062 : decode zc_L_law 1062 = .ok (.istore 6, 2) := by decide +kernel
theorem dL_law_1064 : decode zc_L_law 1064 = .ok (.aload_n 2, 1) := by decide +kernel
theorem dL_law_1065 : decode zc_L_law 1065 = .ok (.invokevirtual 92, 3) := by decide +kernel
theorem dL_law_1068 : decode zc_L_law 1068 = .ok (.iload 5, 2) := by decide +kernel
theorem dL_law_1070 : decode zc_L_law 1070 = .ok (.if_icmp .eq 5, 3) := by decide +kernel
theorem dL_law_1073 : decode zc_L_law 1073 = .ok (.iconst 0, 1) := by decide +kernel
theorem dL_law_1074 : decode zc_L_law 1074 = .ok (.ireturn, 1) := by decide +kernel
theorem dL_law_1075 : decode zc_L_law 1075 = .ok (.iload 5, 2) := by decide +kernel
theorem dL_law_1077 : decode zc_L_law 1077 = .ok (.ifCond .ne 15, 3) := by decide +kernel
theorem dL_law_1080 : decode zc_L_law 1080 = .ok (.aload_n 3, 1) := by decide +kernel
theorem dL_law_1081 : decode zc_L_law 1081 = .ok (.iconst 0, 1) := by decide +kernel
theorem dL_law_1082 : decode zc_L_law 1082 = .ok (.laload, 1) := by decide +kernel
theorem dL_law_1083 : decode zc_L_law 1083 = .ok (.iload 6, 2) := by decide +kernel
theorem dL_law_1085 : decode zc_L_law 1085 = .ok (.i2l, 1) := by decide +kernel
theorem dL_law_1086 : decode zc_L_law 1086 = .ok (.lcmp, 1) := by decide +kernel
end
section
theorem dL_law_1087 : decode zc_L_law 1087 = .ok (.ifCond .eq 5, 3) := by decide +kernel
theorem dL_law_1090 : decode zc_L_law 1090 = .ok (.iconst 0, 1) := by decide +kernel
theorem dL_law_1091 : decode zc_L_law 1091 = .ok (.ireturn, 1) := by decide +kernel
theorem dL_law_1092 : decode zc_L_law 1092 = .ok (.goto 386, 3) := by decide +kernel
theorem dL_law_1095 : decode zc_L_law 1095 = .ok (.aload_n 1, 1) := by decide +kernel
theorem dL_law_1096 : decode zc_L_law 1096 = .ok (.aload_n 0, 1) := by decide +kernel
theorem dL_law_1097 : decode zc_L_law 1097 = .ok (.iload 4, 2) := by decide +kernel
theorem dL_law_1099 : decode zc_L_law 1099 = .ok (.iconst 1, 1) := by decide +kernel
theorem dL_law_1100 : decode zc_L_law 1100 = .ok (.iadd, 1) := by decide +kernel
theorem dL_law_1101 : decode zc_L_law 1101 = .ok (.iaload, 1) := by decide +kernel
theorem dL_law_1102 : decode zc_L_law 1102 = .ok (.aload_n 3, 1) := by decide +kernel
theorem dL_law_1103 : decode zc_L_law 1103 = .ok (.invokestatic 140, 3) := by decide +kernel
theorem dL_law_1106 : decode zc_L_law 1106 = .ok (.istore 5, 2) := by decide +kernel
theorem dL_law_1108 : decode zc_L_law 1108 = .ok (.aload_n 2, 1) := by decide +kernel
theorem dL_law_1109 : decode zc_L_law 1109 = .ok (.aload_n 0, 1) := by decide +kernel
theorem dL_law_1110 : decode zc_L_law 1110 = .ok (.iload 4, 2) := by decide +kernel
theorem dL_law_1112 : decode zc_L_law 1112 = .ok (.iconst 1, 1) := by decide +kernel
theorem dL_law_1113 : decode zc_L_law 1113 = .ok (.iadd, 1) := by decide +kernel
theorem dL_law_1114 : decode zc_L_law 1114 = .ok (.iaload, 1) := by decide +kernel
theorem dL_law_1115 : decode zc_L_law 1115 = .ok (.invokevirtual 142, 3) := by decide +kernel
theorem dL_law_1118 : decode zc_L_law 1118 = .ok (.istore 6, 2) := by decide +kernel
theorem dL_law_1120 : decode zc_L_law 1120 = .ok (.aload_n 2, 1) := by decide +kernel
theorem dL_law_1121 : decode zc_L_law 1121 = .ok (.invokevirtual 92, 3) := by decide +kernel
theorem dL_law_1124 : decode zc_L_law 1124 = .ok (.iload 5, 2) := by decide +kernel
theorem dL_law_1126 : decode zc_L_law 1126 = .ok (.if_icmp .eq 5, 3) := by decide +kernel
theorem dL_law_1129 : decode zc_L_law 1129 = .ok (.iconst 0, 1) := by decide +kernel
theorem dL_law_1130 : decode zc_L_law 1130 = .ok (.ireturn, 1) := by decide +kernel
theorem dL_law_1131 : decode zc_L_law 1131 = .ok (.iload 5, 2) := by decide +kernel
theorem dL_law_1133 : decode zc_L_law 1133 = .ok (.ifCond .ne 15, 3) := by decide +kernel
theorem dL_law_1136 : decode zc_L_law 1136 = .ok (.aload_n 3, 1) := by decide +kernel
theorem dL_law_1137 : decode zc_L_law 1137 = .ok (.iconst 0, 1) := by decide +kernel
theorem dL_law_1138 : decode zc_L_law 1138 = .ok (.laload, 1) := by decide +kernel
theorem dL_law_1139 : decode zc_L_law 1139 = .ok (.iload 6, 2) := by decide +kernel
theorem dL_law_1141 : decode zc_L_law 1141 = .ok (.i2l, 1) := by decide +kernel
theorem dL_law_1142 : decode zc_L_law 1142 = .ok (.lcmp, 1) := by decide +kernel
theorem dL_law_1143 : decode zc_L_law 1143 = .ok (.ifCond .eq 5, 3) := by decide +kernel
theorem dL_law_1146 : decode zc_L_law 1146 = .ok (.iconst 0, 1) := by decide +kernel
theorem dL_law_1147 : decode zc_L_law 1147 = .ok (.ireturn, 1) := by decide +kernel
theorem dL_law_1148 : decode zc_L_law 1148 = .ok (.goto 330, 3) := by decide +kernel
theorem dL_law_1151 : decode zc_L_law 1151 = .ok (.aload_n 1, 1) := by decide +kernel
theorem dL_law_1152 : decode zc_L_law 1152 = .ok (.aload_n 0, 1) := by decide +kernel
theorem dL_law_1153 : decode zc_L_law 1153 = .ok (.iload 4, 2) := by decide +kernel
theorem dL_law_1155 : decode zc_L_law 1155 = .ok (.iconst 1, 1) := by decide +kernel
theorem dL_law_1156 : decode zc_L_law 1156 = .ok (.iadd, 1) := by decide +kernel
theorem dL_law_1157 : decode zc_L_law 1157 = .ok (.iaload, 1) := by decide +kernel
theorem dL_law_1158 : decode zc_L_law 1158 = .ok (.aload_n 0, 1) := by decide +kernel
theorem dL_law_1159 : decode zc_L_law 1159 = .ok (.iload 4, 2) := by decide +kernel
theorem dL_law_1161 : decode zc_L_law 1161 = .ok (.iconst 2, 1) := by decide +kernel
theorem dL_law_1162 : decode zc_L_law 1162 = .ok (.iadd, 1) := by decide +kernel
theorem dL_law_1163 : decode zc_L_law 1163 = .ok (.iaload, 1) := by decide +kernel
theorem dL_law_1164 : decode zc_L_law 1164 = .ok (.aload_n 0, 1) := by decide +kernel
theorem dL_law_1165 : decode zc_L_law 1165 = .ok (.iload 4, 2) := by decide +kernel
theorem dL_law_1167 : decode zc_L_law 1167 = .ok (.iconst 3, 1) := by decide +kernel
theorem dL_law_1168 : decode zc_L_law 1168 = .ok (.iadd, 1) := by decide +kernel
theorem dL_law_1169 : decode zc_L_law 1169 = .ok (.iaload, 1) := by decide +kernel
theorem dL_law_1170 : decode zc_L_law 1170 = .ok (.aload_n 3, 1) := by decide +kernel
theorem dL_law_1171 : decode zc_L_law 1171 = .ok (.invokestatic 143, 3) := by decide +kernel
theorem dL_law_1174 : decode zc_L_law 1174 = .ok (.istore 5, 2) := by decide +kernel
theorem dL_law_1176 : decode zc_L_law 1176 = .ok (.aload_n 2, 1) := by decide +kernel
theorem dL_law_1177 : decode zc_L_law 1177 = .ok (.aload_n 0, 1) := by decide +kernel
theorem dL_law_1178 : decode zc_L_law 1178 = .ok (.iload 4, 2) := by decide +kernel
theorem dL_law_1180 : decode zc_L_law 1180 = .ok (.iconst 1, 1) := by decide +kernel
theorem dL_law_1181 : decode zc_L_law 1181 = .ok (.iadd, 1) := by decide +kernel
theorem dL_law_1182 : decode zc_L_law 1182 = .ok (.iaload, 1) := by decide +kernel
theorem dL_law_1183 : decode zc_L_law 1183 = .ok (.aload_n 0, 1) := by decide +kernel
theorem dL_law_1184 : decode zc_L_law 1184 = .ok (.iload 4, 2) := by decide +kernel
theorem dL_law_1186 : decode zc_L_law 1186 = .ok (.iconst 2, 1) := by decide +kernel
theorem dL_law_1187 : decode zc_L_law 1187 = .ok (.iadd, 1) := by decide +kernel
theorem dL_law_1188 : decode zc_L_law 1188 = .ok (.iaload, 1) := by decide +kernel
theorem dL_law_1189 : decode zc_L_law 1189 = .ok (.aload_n 0, 1) := by decide +kernel
theorem dL_law_1190 : decode zc_L_law 1190 = .ok (.iload 4, 2) := by decide +kernel
theorem dL_law_1192 : decode zc_L_law 1192 = .ok (.iconst 3, 1) := by decide +kernel
theorem dL_law_1193 : decode zc_L_law 1193 = .ok (.iadd, 1) := by decide +kernel
theorem dL_law_1194 : decode zc_L_law 1194 = .ok (.iaload, 1) := by decide +kernel
theorem dL_law_1195 : decode zc_L_law 1195 = .ok (.invokevirtual 145, 3) := by decide +kernel
theorem dL_law_1198 : decode zc_L_law 1198 = .ok (.istore 6, 2) := by decide +kernel
theorem dL_law_1200 : decode zc_L_law 1200 = .ok (.aload_n 2, 1) := by decide +kernel
theorem dL_law_1201 : decode zc_L_law 1201 = .ok (.invokevirtual 92, 3) := by decide +kernel
theorem dL_law_1204 : decode zc_L_law 1204 = .ok (.iload 5, 2) := by decide +kernel
theorem dL_law_1206 : decode zc_L_law 1206 = .ok (.if_icmp .eq 5, 3) := by decide +kernel
theorem dL_law_1209 : decode zc_L_law 1209 = .ok (.iconst 0, 1) := by decide +kernel
theorem dL_law_1210 : decode zc_L_law 1210 = .ok (.ireturn, 1) := by decide +kernel
theorem dL_law_1211 : decode zc_L_law 1211 = .ok (.iload 5, 2) := by decide +kernel
theorem dL_law_1213 : decode zc_L_law 1213 = .ok (.ifCond .ne 15, 3) := by decide +kernel
theorem dL_law_1216 : decode zc_L_law 1216 = .ok (.aload_n 3, 1) := by decide +kernel
theorem dL_law_1217 : decode zc_L_law 1217 = .ok (.iconst 0, 1) := by decide +kernel
theorem dL_law_1218 : decode zc_L_law 1218 = .ok (.laload, 1) := by decide +kernel
theorem dL_law_1219 : decode zc_L_law 1219 = .ok (.iload 6, 2) := by decide +kernel
theorem dL_law_1221 : decode zc_L_law 1221 = .ok (.i2l, 1) := by decide +kernel
theorem dL_law_1222 : decode zc_L_law 1222 = .ok (.lcmp, 1) := by decide +kernel
theorem dL_law_1223 : decode zc_L_law 1223 = .ok (.ifCond .eq 5, 3) := by decide +kernel
theorem dL_law_1226 : decode zc_L_law 1226 = .ok (.iconst 0, 1) := by decide +kernel
theorem dL_law_1227 : decode zc_L_law 1227 = .ok (.ireturn, 1) := by decide +kernel
theorem dL_law_1228 : decode zc_L_law 1228 = .ok (.goto 250, 3) := by decide +kernel
theorem dL_law_1231 : decode zc_L_law 1231 = .ok (.aload_n 1, 1) := by decide +kernel
theorem dL_law_1232 : decode zc_L_law 1232 = .ok (.aload_n 0, 1) := by decide +kernel
theorem dL_law_1233 : decode zc_L_law 1233 = .ok (.iload 4, 2) := by decide +kernel
theorem dL_law_1235 : decode zc_L_law 1235 = .ok (.iconst 1, 1) := by decide +kernel
theorem dL_law_1236 : decode zc_L_law 1236 = .ok (.iadd, 1) := by decide +kernel
theorem dL_law_1237 : decode zc_L_law 1237 = .ok (.iaload, 1) := by decide +kernel
theorem dL_law_1238 : decode zc_L_law 1238 = .ok (.aload_n 0, 1) := by decide +kernel
theorem dL_law_1239 : decode zc_L_law 1239 = .ok (.iload 4, 2) := by decide +kernel
theorem dL_law_1241 : decode zc_L_law 1241 = .ok (.iconst 2, 1) := by decide +kernel
theorem dL_law_1242 : decode zc_L_law 1242 = .ok (.iadd, 1) := by decide +kernel
theorem dL_law_1243 : decode zc_L_law 1243 = .ok (.iaload, 1) := by decide +kernel
theorem dL_law_1244 : decode zc_L_law 1244 = .ok (.aload_n 3, 1) := by decide +kernel
theorem dL_law_1245 : decode zc_L_law 1245 = .ok (.invokestatic 146, 3) := by decide +kernel
theorem dL_law_1248 : decode zc_L_law 1248 = .ok (.istore 5, 2) := by decide +kernel
theorem dL_law_1250 : decode zc_L_law 1250 = .ok (.aload_n 2, 1) := by decide +kernel
theorem dL_law_1251 : decode zc_L_law 1251 = .ok (.aload_n 0, 1) := by decide +kernel
theorem dL_law_1252 : decode zc_L_law 1252 = .ok (.iload 4, 2) := by decide +kernel
theorem dL_law_1254 : decode zc_L_law 1254 = .ok (.iconst 1, 1) := by decide +kernel
theorem dL_law_1255 : decode zc_L_law 1255 = .ok (.iadd, 1) := by decide +kernel
theorem dL_law_1256 : decode zc_L_law 1256 = .ok (.iaload, 1) := by decide +kernel
theorem dL_law_1257 : decode zc_L_law 1257 = .ok (.aload_n 0, 1) := by decide +kernel
theorem dL_law_1258 : decode zc_L_law 1258 = .ok (.iload 4, 2) := by decide +kernel
theorem dL_law_1260 : decode zc_L_law 1260 = .ok (.iconst 2, 1) := by decide +kernel
theorem dL_law_1261 : decode zc_L_law 1261 = .ok (.iadd, 1) := by decide +kernel
theorem dL_law_1262 : decode zc_L_law 1262 = .ok (.iaload, 1) := by decide +kernel
theorem dL_law_1263 : decode zc_L_law 1263 = .ok (.invokevirtual 148, 3) := by decide +kernel
theorem dL_law_1266 : decode zc_L_law 1266 = .ok (.istore 6, 2) := by decide +kernel
theorem dL_law_1268 : decode zc_L_law 1268 = .ok (.aload_n 2, 1) := by decide +kernel
theorem dL_law_1269 : decode zc_L_law 1269 = .ok (.invokevirtual 92, 3) := by decide +kernel
theorem dL_law_1272 : decode zc_L_law 1272 = .ok (.iload 5, 2) := by decide +kernel
theorem dL_law_1274 : decode zc_L_law 1274 = .ok (.if_icmp .eq 5, 3) := by decide +kernel
theorem dL_law_1277 : decode zc_L_law 1277 = .ok (.iconst 0, 1) := by decide +kernel
theorem dL_law_1278 : decode zc_L_law 1278 = .ok (.ireturn, 1) := by decide +kernel
theorem dL_law_1279 : decode zc_L_law 1279 = .ok (.iload 5, 2) := by decide +kernel
theorem dL_law_1281 : decode zc_L_law 1281 = .ok (.ifCond .ne 15, 3) := by decide +kernel
theorem dL_law_1284 : decode zc_L_law 1284 = .ok (.aload_n 3, 1) := by decide +kernel
theorem dL_law_1285 : decode zc_L_law 1285 = .ok (.iconst 0, 1) := by decide +kernel
theorem dL_law_1286 : decode zc_L_law 1286 = .ok (.laload, 1) := by decide +kernel
theorem dL_law_1287 : decode zc_L_law 1287 = .ok (.iload 6, 2) := by decide +kernel
theorem dL_law_1289 : decode zc_L_law 1289 = .ok (.i2l, 1) := by decide +kernel
theorem dL_law_1290 : decode zc_L_law 1290 = .ok (.lcmp, 1) := by decide +kernel
theorem dL_law_1291 : decode zc_L_law 1291 = .ok (.ifCond .eq 5, 3) := by decide +kernel
theorem dL_law_1294 : decode zc_L_law 1294 = .ok (.iconst 0, 1) := by decide +kernel
theorem dL_law_1295 : decode zc_L_law 1295 = .ok (.ireturn, 1) := by decide +kernel
theorem dL_law_1296 : decode zc_L_law 1296 = .ok (.goto 182, 3) := by decide +kernel
theorem dL_law_1299 : decode zc_L_law 1299 = .ok (.aload_n 1, 1) := by decide +kernel
theorem dL_law_1300 : decode zc_L_law 1300 = .ok (.aload_n 0, 1) := by decide +kernel
theorem dL_law_1301 : decode zc_L_law 1301 = .ok (.iload 4, 2) := by decide +kernel
theorem dL_law_1303 : decode zc_L_law 1303 = .ok (.iconst 1, 1) := by decide +kernel
theorem dL_law_1304 : decode zc_L_law 1304 = .ok (.iadd, 1) := by decide +kernel
theorem dL_law_1305 : decode zc_L_law 1305 = .ok (.iaload, 1) := by decide +kernel
theorem dL_law_1306 : decode zc_L_law 1306 = .ok (.aload_n 0, 1) := by decide +kernel
theorem dL_law_1307 : decode zc_L_law 1307 = .ok (.iload 4, 2) := by decide +kernel
theorem dL_law_1309 : decode zc_L_law 1309 = .ok (.iconst 2, 1) := by decide +kernel
theorem dL_law_1310 : decode zc_L_law 1310 = .ok (.iadd, 1) := by decide +kernel
theorem dL_law_1311 : decode zc_L_law 1311 = .ok (.iaload, 1) := by decide +kernel
theorem dL_law_1312 : decode zc_L_law 1312 = .ok (.aload_n 3, 1) := by decide +kernel
theorem dL_law_1313 : decode zc_L_law 1313 = .ok (.invokestatic 149, 3) := by decide +kernel
theorem dL_law_1316 : decode zc_L_law 1316 = .ok (.istore 5, 2) := by decide +kernel
theorem dL_law_1318 : decode zc_L_law 1318 = .ok (.aload_n 2, 1) := by decide +kernel
theorem dL_law_1319 : decode zc_L_law 1319 = .ok (.aload_n 0, 1) := by decide +kernel
theorem dL_law_1320 : decode zc_L_law 1320 = .ok (.iload 4, 2) := by decide +kernel
theorem dL_law_1322 : decode zc_L_law 1322 = .ok (.iconst 1, 1) := by decide +kernel
theorem dL_law_1323 : decode zc_L_law 1323 = .ok (.iadd, 1) := by decide +kernel
theorem dL_law_1324 : decode zc_L_law 1324 = .ok (.iaload, 1) := by decide +kernel
theorem dL_law_1325 : decode zc_L_law 1325 = .ok (.aload_n 0, 1) := by decide +kernel
theorem dL_law_1326 : decode zc_L_law 1326 = .ok (.iload 4, 2) := by decide +kernel
theorem dL_law_1328 : decode zc_L_law 1328 = .ok (.iconst 2, 1) := by decide +kernel
theorem dL_law_1329 : decode zc_L_law 1329 = .ok (.iadd, 1) := by decide +kernel
theorem dL_law_1330 : decode zc_L_law 1330 = .ok (.iaload, 1) := by decide +kernel
theorem dL_law_1331 : decode zc_L_law 1331 = .ok (.invokevirtual 151, 3) := by decide +kernel
theorem dL_law_1334 : decode zc_L_law 1334 = .ok (.istore 6, 2) := by decide +kernel
theorem dL_law_1336 : decode zc_L_law 1336 = .ok (.aload_n 2, 1) := by decide +kernel
theorem dL_law_1337 : decode zc_L_law 1337 = .ok (.invokevirtual 92, 3) := by decide +kernel
theorem dL_law_1340 : decode zc_L_law 1340 = .ok (.iload 5, 2) := by decide +kernel
theorem dL_law_1342 : decode zc_L_law 1342 = .ok (.if_icmp .eq 5, 3) := by decide +kernel
theorem dL_law_1345 : decode zc_L_law 1345 = .ok (.iconst 0, 1) := by decide +kernel
theorem dL_law_1346 : decode zc_L_law 1346 = .ok (.ireturn, 1) := by decide +kernel
theorem dL_law_1347 : decode zc_L_law 1347 = .ok (.iload 5, 2) := by decide +kernel
theorem dL_law_1349 : decode zc_L_law 1349 = .ok (.ifCond .ne 15, 3) := by decide +kernel
theorem dL_law_1352 : decode zc_L_law 1352 = .ok (.aload_n 3, 1) := by decide +kernel
theorem dL_law_1353 : decode zc_L_law 1353 = .ok (.iconst 0, 1) := by decide +kernel
theorem dL_law_1354 : decode zc_L_law 1354 = .ok (.laload, 1) := by decide +kernel
theorem dL_law_1355 : decode zc_L_law 1355 = .ok (.iload 6, 2) := by decide +kernel
theorem dL_law_1357 : decode zc_L_law 1357 = .ok (.i2l, 1) := by decide +kernel
theorem dL_law_1358 : decode zc_L_law 1358 = .ok (.lcmp, 1) := by decide +kernel
theorem dL_law_1359 : decode zc_L_law 1359 = .ok (.ifCond .eq 5, 3) := by decide +kernel
theorem dL_law_1362 : decode zc_L_law 1362 = .ok (.iconst 0, 1) := by decide +kernel
theorem dL_law_1363 : decode zc_L_law 1363 = .ok (.ireturn, 1) := by decide +kernel
theorem dL_law_1364 : decode zc_L_law 1364 = .ok (.goto 114, 3) := by decide +kernel
theorem dL_law_1367 : decode zc_L_law 1367 = .ok (.aload_n 1, 1) := by decide +kernel
theorem dL_law_1368 : decode zc_L_law 1368 = .ok (.aload_n 0, 1) := by decide +kernel
theorem dL_law_1369 : decode zc_L_law 1369 = .ok (.iload 4, 2) := by decide +kernel
theorem dL_law_1371 : decode zc_L_law 1371 = .ok (.iconst 1, 1) := by decide +kernel
theorem dL_law_1372 : decode zc_L_law 1372 = .ok (.iadd, 1) := by decide +kernel
theorem dL_law_1373 : decode zc_L_law 1373 = .ok (.iaload, 1) := by decide +kernel
theorem dL_law_1374 : decode zc_L_law 1374 = .ok (.aload_n 3, 1) := by decide +kernel
theorem dL_law_1375 : decode zc_L_law 1375 = .ok (.invokestatic 152, 3) := by decide +kernel
theorem dL_law_1378 : decode zc_L_law 1378 = .ok (.istore 5, 2) := by decide +kernel
theorem dL_law_1380 : decode zc_L_law 1380 = .ok (.aload_n 2, 1) := by decide +kernel
theorem dL_law_1381 : decode zc_L_law 1381 = .ok (.aload_n 0, 1) := by decide +kernel
theorem dL_law_1382 : decode zc_L_law 1382 = .ok (.iload 4, 2) := by decide +kernel
theorem dL_law_1384 : decode zc_L_law 1384 = .ok (.iconst 1, 1) := by decide +kernel
theorem dL_law_1385 : decode zc_L_law 1385 = .ok (.iadd, 1) := by decide +kernel
theorem dL_law_1386 : decode zc_L_law 1386 = .ok (.iaload, 1) := by decide +kernel
theorem dL_law_1387 : decode zc_L_law 1387 = .ok (.invokevirtual 154, 3) := by decide +kernel
theorem dL_law_1390 : decode zc_L_law 1390 = .ok (.istore 6, 2) := by decide +kernel
theorem dL_law_1392 : decode zc_L_law 1392 = .ok (.aload_n 2, 1) := by decide +kernel
theorem dL_law_1393 : decode zc_L_law 1393 = .ok (.invokevirtual 92, 3) := by decide +kernel
theorem dL_law_1396 : decode zc_L_law 1396 = .ok (.iload 5, 2) := by decide +kernel
theorem dL_law_1398 : decode zc_L_law 1398 = .ok (.if_icmp .eq 5, 3) := by decide +kernel
theorem dL_law_1401 : decode zc_L_law 1401 = .ok (.iconst 0, 1) := by decide +kernel
theorem dL_law_1402 : decode zc_L_law 1402 = .ok (.ireturn, 1) := by decide +kernel
theorem dL_law_1403 : decode zc_L_law 1403 = .ok (.iload 5, 2) := by decide +kernel
theorem dL_law_1405 : decode zc_L_law 1405 = .ok (.ifCond .ne 15, 3) := by decide +kernel
theorem dL_law_1408 : decode zc_L_law 1408 = .ok (.aload_n 3, 1) := by decide +kernel
theorem dL_law_1409 : decode zc_L_law 1409 = .ok (.iconst 0, 1) := by decide +kernel
theorem dL_law_1410 : decode zc_L_law 1410 = .ok (.laload, 1) := by decide +kernel
theorem dL_law_1411 : decode zc_L_law 1411 = .ok (.iload 6, 2) := by decide +kernel
theorem dL_law_1413 : decode zc_L_law 1413 = .ok (.i2l, 1) := by decide +kernel
theorem dL_law_1414 : decode zc_L_law 1414 = .ok (.lcmp, 1) := by decide +kernel
theorem dL_law_1415 : decode zc_L_law 1415 = .ok (.ifCond .eq 5, 3) := by decide +kernel
theorem dL_law_1418 : decode zc_L_law 1418 = .ok (.iconst 0, 1) := by decide +kernel
theorem dL_law_1419 : decode zc_L_law 1419 = .ok (.ireturn, 1) := by decide +kernel
theorem dL_law_1420 : decode zc_L_law 1420 = .ok (.goto 58, 3) := by decide +kernel
theorem dL_law_1423 : decode zc_L_law 1423 = .ok (.aload_n 1, 1) := by decide +kernel
theorem dL_law_1424 : decode zc_L_law 1424 = .ok (.aload_n 0, 1) := by decide +kernel
theorem dL_law_1425 : decode zc_L_law 1425 = .ok (.iload 4, 2) := by decide +kernel
theorem dL_law_1427 : decode zc_L_law 1427 = .ok (.iconst 1, 1) := by decide +kernel
theorem dL_law_1428 : decode zc_L_law 1428 = .ok (.iadd, 1) := by decide +kernel
theorem dL_law_1429 : decode zc_L_law 1429 = .ok (.iaload, 1) := by decide +kernel
theorem dL_law_1430 : decode zc_L_law 1430 = .ok (.aload_n 3, 1) := by decide +kernel
theorem dL_law_1431 : decode zc_L_law 1431 = .ok (.invokestatic 155, 3) := by decide +kernel
theorem dL_law_1434 : decode zc_L_law 1434 = .ok (.istore 5, 2) := by decide +kernel
theorem dL_law_1436 : decode zc_L_law 1436 = .ok (.aload_n 2, 1) := by decide +kernel
theorem dL_law_1437 : decode zc_L_law 1437 = .ok (.aload_n 0, 1) := by decide +kernel
theorem dL_law_1438 : decode zc_L_law 1438 = .ok (.iload 4, 2) := by decide +kernel
theorem dL_law_1440 : decode zc_L_law 1440 = .ok (.iconst 1, 1) := by decide +kernel
theorem dL_law_1441 : decode zc_L_law 1441 = .ok (.iadd, 1) := by decide +kernel
theorem dL_law_1442 : decode zc_L_law 1442 = .ok (.iaload, 1) := by decide +kernel
theorem dL_law_1443 : decode zc_L_law 1443 = .ok (.invokevirtual 157, 3) := by decide +kernel
theorem dL_law_1446 : decode zc_L_law 1446 = .ok (.lstore 6, 2) := by decide +kernel
theorem dL_law_1448 : decode zc_L_law 1448 = .ok (.aload_n 2, 1) := by decide +kernel
theorem dL_law_1449 : decode zc_L_law 1449 = .ok (.invokevirtual 92, 3) := by decide +kernel
theorem dL_law_1452 : decode zc_L_law 1452 = .ok (.iload 5, 2) := by decide +kernel
theorem dL_law_1454 : decode zc_L_law 1454 = .ok (.if_icmp .eq 5, 3) := by decide +kernel
theorem dL_law_1457 : decode zc_L_law 1457 = .ok (.iconst 0, 1) := by decide +kernel
theorem dL_law_1458 : decode zc_L_law 1458 = .ok (.ireturn, 1) := by decide +kernel
theorem dL_law_1459 : decode zc_L_law 1459 = .ok (.iload 5, 2) := by decide +kernel
theorem dL_law_1461 : decode zc_L_law 1461 = .ok (.ifCond .ne 14, 3) := by decide +kernel
theorem dL_law_1464 : decode zc_L_law 1464 = .ok (.aload_n 3, 1) := by decide +kernel
theorem dL_law_1465 : decode zc_L_law 1465 = .ok (.iconst 0, 1) := by decide +kernel
theorem dL_law_1466 : decode zc_L_law 1466 = .ok (.laload, 1) := by decide +kernel
theorem dL_law_1467 : decode zc_L_law 1467 = .ok (.lload 6, 2) := by decide +kernel
theorem dL_law_1469 : decode zc_L_law 1469 = .ok (.lcmp, 1) := by decide +kernel
theorem dL_law_1470 : decode zc_L_law 1470 = .ok (.ifCond .eq 5, 3) := by decide +kernel
theorem dL_law_1473 : decode zc_L_law 1473 = .ok (.iconst 0, 1) := by decide +kernel
theorem dL_law_1474 : decode zc_L_law 1474 = .ok (.ireturn, 1) := by decide +kernel
theorem dL_law_1475 : decode zc_L_law 1475 = .ok (.goto 3, 3) := by decide +kernel
theorem dL_law_1478 : decode zc_L_law 1478 = .ok (.iinc 4 6, 3) := by decide +kernel
theorem dL_law_1481 : decode zc_L_law 1481 = .ok (.goto (-1458), 3) := by decide +kernel
theorem dL_law_1484 : decode zc_L_law 1484 = .ok (.iconst 1, 1) := by decide +kernel
theorem dL_law_1485 : decode zc_L_law 1485 = .ok (.ireturn, 1) := by decide +kernel
end
section
theorem dM_init_0 : decode zc_M_init 0 = .ok (.aload_n 0, 1) := by decide +kernel
theorem dM_init_1 : decode zc_M_init 1 = .ok (.invokespecial 1, 3) := by decide +kernel
theorem dM_init_4 : decode zc_M_init 4 = .ok (.aload_n 0, 1) := by decide +kernel
theorem dM_init_5 : decode zc_M_init 5 = .ok (.iconst 4, 1) := by decide +kernel
theorem dM_init_6 : decode zc_M_init 6 = .ok (.newarray .boolean, 2) := by decide +kernel
theorem dM_init_8 : decode zc_M_init 8 = .ok (.putfield 7, 3) := by decide +kernel
theorem dM_init_11 : decode zc_M_init 11 = .ok (.aload_n 0, 1) := by decide +kernel
theorem dM_init_12 : decode zc_M_init 12 = .ok (.bipush 16, 2) := by decide +kernel
theorem dM_init_14 : decode zc_M_init 14 = .ok (.newarray .int, 2) := by decide +kernel
theorem dM_init_16 : decode zc_M_init 16 = .ok (.putfield 13, 3) := by decide +kernel
theorem dM_init_19 : decode zc_M_init 19 = .ok (.aload_n 0, 1) := by decide +kernel
theorem dM_init_20 : decode zc_M_init 20 = .ok (.bipush 64, 2) := by decide +kernel
theorem dM_init_22 : decode zc_M_init 22 = .ok (.newarray .int, 2) := by decide +kernel
theorem dM_init_24 : decode zc_M_init 24 = .ok (.putfield 17, 3) := by decide +kernel
theorem dM_init_27 : decode zc_M_init 27 = .ok (.aload_n 0, 1) := by decide +kernel
theorem dM_init_28 : decode zc_M_init 28 = .ok (.sipush 420, 3) := by decide +kernel
theorem dM_init_31 : decode zc_M_init 31 = .ok (.newarray .int, 2) := by decide +kernel
theorem dM_init_33 : decode zc_M_init 33 = .ok (.putfield 20, 3) := by decide +kernel
theorem dM_init_36 : decode zc_M_init 36 = .ok (.aload_n 0, 1) := by decide +kernel
theorem dM_init_37 : decode zc_M_init 37 = .ok (.sipush 420, 3) := by decide +kernel
theorem dM_init_40 : decode zc_M_init 40 = .ok (.newarray .int, 2) := by decide +kernel
theorem dM_init_42 : decode zc_M_init 42 = .ok (.putfield 23, 3) := by decide +kernel
theorem dM_init_45 : decode zc_M_init 45 = .ok (.aload_n 0, 1) := by decide +kernel
theorem dM_init_46 : decode zc_M_init 46 = .ok (.sipush 420, 3) := by decide +kernel
theorem dM_init_49 : decode zc_M_init 49 = .ok (.newarray .int, 2) := by decide +kernel
theorem dM_init_51 : decode zc_M_init 51 = .ok (.putfield 26, 3) := by decide +kernel
theorem dM_init_54 : decode zc_M_init 54 = .ok (.aload_n 0, 1) := by decide +kernel
theorem dM_init_55 : decode zc_M_init 55 = .ok (.bipush 80, 2) := by decide +kernel
theorem dM_init_57 : decode zc_M_init 57 = .ok (.newarray .int, 2) := by decide +kernel
theorem dM_init_59 : decode zc_M_init 59 = .ok (.putfield 29, 3) := by decide +kernel
theorem dM_init_62 : decode zc_M_init 62 = .ok (.aload_n 0, 1) := by decide +kernel
theorem dM_init_63 : decode zc_M_init 63 = .ok (.bipush 80, 2) := by decide +kernel
theorem dM_init_65 : decode zc_M_init 65 = .ok (.newarray .int, 2) := by decide +kernel
theorem dM_init_67 : decode zc_M_init 67 = .ok (.putfield 32, 3) := by decide +kernel
theorem dM_init_70 : decode zc_M_init 70 = .ok (.aload_n 0, 1) := by decide +kernel
theorem dM_init_71 : decode zc_M_init 71 = .ok (.bipush 80, 2) := by decide +kernel
theorem dM_init_73 : decode zc_M_init 73 = .ok (.newarray .int, 2) := by decide +kernel
theorem dM_init_75 : decode zc_M_init 75 = .ok (.putfield 35, 3) := by decide +kernel
theorem dM_init_78 : decode zc_M_init 78 = .ok (.aload_n 0, 1) := by decide +kernel
theorem dM_init_79 : decode zc_M_init 79 = .ok (.bipush 80, 2) := by decide +kernel
theorem dM_init_81 : decode zc_M_init 81 = .ok (.newarray .long, 2) := by decide +kernel
theorem dM_init_83 : decode zc_M_init 83 = .ok (.putfield 38, 3) := by decide +kernel
theorem dM_init_86 : decode zc_M_init 86 = .ok (.aload_n 0, 1) := by decide +kernel
theorem dM_init_87 : decode zc_M_init 87 = .ok (.bipush 80, 2) := by decide +kernel
theorem dM_init_89 : decode zc_M_init 89 = .ok (.newarray .boolean, 2) := by decide +kernel
theorem dM_init_91 : decode zc_M_init 91 = .ok (.putfield 42, 3) := by decide +kernel
theorem dM_init_94 : decode zc_M_init 94 = .ok (.aload_n 0, 1) := by decide +kernel
theorem dM_init_95 : decode zc_M_init 95 = .ok (.iconst 4, 1) := by decide +kernel
theorem dM_init_96 : decode zc_M_init 96 = .ok (.newarray .long, 2) := by decide +kernel
theorem dM_init_98 : decode zc_M_init 98 = .ok (.putfield 45, 3) := by decide +kernel
theorem dM_init_101 : decode zc_M_init 101 = .ok (.aload_n 0, 1) := by decide +kernel
theorem dM_init_102 : decode zc_M_init 102 = .ok (.iconst 4, 1) := by decide +kernel
theorem dM_init_103 : decode zc_M_init 103 = .ok (.newarray .int, 2) := by decide +kernel
theorem dM_init_105 : decode zc_M_init 105 = .ok (.putfield 48, 3) := by decide +kernel
theorem dM_init_108 : decode zc_M_init 108 = .ok (.aload_n 0, 1) := by decide +kernel
theorem dM_init_109 : decode zc_M_init 109 = .ok (.bipush 24, 2) := by decide +kernel
theorem dM_init_111 : decode zc_M_init 111 = .ok (.newarray .int, 2) := by decide +kernel
theorem dM_init_113 : decode zc_M_init 113 = .ok (.putfield 51, 3) := by decide +kernel
theorem dM_init_116 : decode zc_M_init 116 = .ok (.aload_n 0, 1) := by decide +kernel
theorem dM_init_117 : decode zc_M_init 117 = .ok (.bipush 24, 2) := by decide +kernel
theorem dM_init_119 : decode zc_M_init 119 = .ok (.newarray .int, 2) := by decide +kernel
theorem dM_init_121 : decode zc_M_init 121 = .ok (.putfield 54, 3) := by decide +kernel
theorem dM_init_124 : decode zc_M_init 124 = .ok (.aload_n 0, 1) := by decide +kernel
theorem dM_init_125 : decode zc_M_init 125 = .ok (.bipush 16, 2) := by decide +kernel
theorem dM_init_127 : decode zc_M_init 127 = .ok (.newarray .int, 2) := by decide +kernel
theorem dM_init_129 : decode zc_M_init 129 = .ok (.putfield 57, 3) := by decide +kernel
theorem dM_init_132 : decode zc_M_init 132 = .ok (.aload_n 0, 1) := by decide +kernel
theorem dM_init_133 : decode zc_M_init 133 = .ok (.bipush 16, 2) := by decide +kernel
theorem dM_init_135 : decode zc_M_init 135 = .ok (.newarray .int, 2) := by decide +kernel
theorem dM_init_137 : decode zc_M_init 137 = .ok (.putfield 60, 3) := by decide +kernel
theorem dM_init_140 : decode zc_M_init 140 = .ok (.aload_n 0, 1) := by decide +kernel
theorem dM_init_141 : decode zc_M_init 141 = .ok (.bipush 16, 2) := by decide +kernel
theorem dM_init_143 : decode zc_M_init 143 = .ok (.newarray .int, 2) := by decide +kernel
theorem dM_init_145 : decode zc_M_init 145 = .ok (.putfield 63, 3) := by decide +kernel
theorem dM_init_148 : decode zc_M_init 148 = .ok (.aload_n 0, 1) := by decide +kernel
theorem dM_init_149 : decode zc_M_init 149 = .ok (.bipush 16, 2) := by decide +kernel
theorem dM_init_151 : decode zc_M_init 151 = .ok (.newarray .int, 2) := by decide +kernel
theorem dM_init_153 : decode zc_M_init 153 = .ok (.putfield 66, 3) := by decide +kernel
theorem dM_init_156 : decode zc_M_init 156 = .ok (.aload_n 0, 1) := by decide +kernel
theorem dM_init_157 : decode zc_M_init 157 = .ok (.bipush 16, 2) := by decide +kernel
theorem dM_init_159 : decode zc_M_init 159 = .ok (.newarray .int, 2) := by decide +kernel
theorem dM_init_161 : decode zc_M_init 161 = .ok (.putfield 69, 3) := by decide +kernel
theorem dM_init_164 : decode zc_M_init 164 = .ok (.aload_n 0, 1) := by decide +kernel
theorem dM_init_165 : decode zc_M_init 165 = .ok (.sipush 128, 3) := by decide +kernel
theorem dM_init_168 : decode zc_M_init 168 = .ok (.newarray .int, 2) := by decide +kernel
theorem dM_init_170 : decode zc_M_init 170 = .ok (.putfield 72, 3) := by decide +kernel
theorem dM_init_173 : decode zc_M_init 173 = .ok (.aload_n 0, 1) := by decide +kernel
theorem dM_init_174 : decode zc_M_init 174 = .ok (.sipush 128, 3) := by decide +kernel
theorem dM_init_177 : decode zc_M_init 177 = .ok (.newarray .int, 2) := by decide +kernel
theorem dM_init_179 : decode zc_M_init 179 = .ok (.putfield 75, 3) := by decide +kernel
theorem dM_init_182 : decode zc_M_init 182 = .ok (.aload_n 0, 1) := by decide +kernel
theorem dM_init_183 : decode zc_M_init 183 = .ok (.sipush 128, 3) := by decide +kernel
theorem dM_init_186 : decode zc_M_init 186 = .ok (.newarray .int, 2) := by decide +kernel
theorem dM_init_188 : decode zc_M_init 188 = .ok (.putfield 78, 3) := by decide +kernel
theorem dM_init_191 : decode zc_M_init 191 = .ok (.aload_n 0, 1) := by decide +kernel
theorem dM_init_192 : decode zc_M_init 192 = .ok (.bipush 16, 2) := by decide +kernel
theorem dM_init_194 : decode zc_M_init 194 = .ok (.newarray .int, 2) := by decide +kernel
theorem dM_init_196 : decode zc_M_init 196 = .ok (.putfield 81, 3) := by decide +kernel
theorem dM_init_199 : decode zc_M_init 199 = .ok (.aload_n 0, 1) := by decide +kernel
theorem dM_init_200 : decode zc_M_init 200 = .ok (.bipush 16, 2) := by decide +kernel
theorem dM_init_202 : decode zc_M_init 202 = .ok (.newarray .int, 2) := by decide +kernel
theorem dM_init_204 : decode zc_M_init 204 = .ok (.putfield 84, 3) := by decide +kernel
theorem dM_init_207 : decode zc_M_init 207 = .ok (.iconst 0, 1) := by decide +kernel
theorem dM_init_208 : decode zc_M_init 208 = .ok (.istore_n 1, 1) := by decide +kernel
theorem dM_init_209 : decode zc_M_init 209 = .ok (.iload_n 1, 1) := by decide +kernel
theorem dM_init_210 : decode zc_M_init 210 = .ok (.bipush 16, 2) := by decide +kernel
theorem dM_init_212 : decode zc_M_init 212 = .ok (.if_icmp .ge 16, 3) := by decide +kernel
theorem dM_init_215 : decode zc_M_init 215 = .ok (.aload_n 0, 1) := by decide +kernel
theorem dM_init_216 : decode zc_M_init 216 = .ok (.getfield 69, 3) := by decide +kernel
theorem dM_init_219 : decode zc_M_init 219 = .ok (.iload_n 1, 1) := by decide +kernel
theorem dM_init_220 : decode zc_M_init 220 = .ok (.iconst (-1), 1) := by decide +kernel
theorem dM_init_221 : decode zc_M_init 221 = .ok (.iastore, 1) := by decide +kernel
theorem dM_init_222 : decode zc_M_init 222 = .ok (.iinc 1 1, 3) := by decide +kernel
theorem dM_init_225 : decode zc_M_init 225 = .ok (.goto (-16), 3) := by decide +kernel
theorem dM_init_228 : decode zc_M_init 228 = .ok (.return_, 1) := by decide +kernel
theorem dM_thrown_0 : decode zc_M_thrown 0 = .ok (.aload_n 0, 1) := by decide +kernel
theorem dM_thrown_1 : decode zc_M_thrown 1 = .ok (.getfield 87, 3) := by decide +kernel
theorem dM_thrown_4 : decode zc_M_thrown 4 = .ok (.ireturn, 1) := by decide +kernel
theorem dM_open_0 : decode zc_M_open 0 = .ok (.aload_n 0, 1) := by decide +kernel
theorem dM_open_1 : decode zc_M_open 1 = .ok (.iload_n 1, 1) := by decide +kernel
theorem dM_open_2 : decode zc_M_open 2 = .ok (.invokestatic 91, 3) := by decide +kernel
theorem dM_open_5 : decode zc_M_open 5 = .ok (.ifCond .ne 7, 3) := by decide +kernel
theorem dM_open_8 : decode zc_M_open 8 = .ok (.iconst 1, 1) := by decide +kernel
theorem dM_open_9 : decode zc_M_open 9 = .ok (.goto 32, 3) := by decide +kernel
theorem dM_open_12 : decode zc_M_open 12 = .ok (.iload_n 2, 1) := by decide +kernel
theorem dM_open_13 : decode zc_M_open 13 = .ok (.iconst 1, 1) := by decide +kernel
theorem dM_open_14 : decode zc_M_open 14 = .ok (.if_icmp .lt 9, 3) := by decide +kernel
theorem dM_open_17 : decode zc_M_open 17 = .ok (.iload_n 2, 1) := by decide +kernel
theorem dM_open_18 : decode zc_M_open 18 = .ok (.bipush 100, 2) := by decide +kernel
theorem dM_open_20 : decode zc_M_open 20 = .ok (.if_icmp .le 7, 3) := by decide +kernel
theorem dM_open_23 : decode zc_M_open 23 = .ok (.iconst 2, 1) := by decide +kernel
theorem dM_open_24 : decode zc_M_open 24 = .ok (.goto 17, 3) := by decide +kernel
theorem dM_open_27 : decode zc_M_open 27 = .ok (.aload_n 0, 1) := by decide +kernel
theorem dM_open_28 : decode zc_M_open 28 = .ok (.getfield 7, 3) := by decide +kernel
theorem dM_open_31 : decode zc_M_open 31 = .ok (.iload_n 1, 1) := by decide +kernel
theorem dM_open_32 : decode zc_M_open 32 = .ok (.baload, 1) := by decide +kernel
theorem dM_open_33 : decode zc_M_open 33 = .ok (.ifCond .eq 7, 3) := by decide +kernel
theorem dM_open_36 : decode zc_M_open 36 = .ok (.iconst 3, 1) := by decide +kernel
theorem dM_open_37 : decode zc_M_open 37 = .ok (.goto 4, 3) := by decide +kernel
theorem dM_open_40 : decode zc_M_open 40 = .ok (.iconst 0, 1) := by decide +kernel
theorem dM_open_41 : decode zc_M_open 41 = .ok (.invokevirtual 95, 3) := by decide +kernel
theorem dM_open_44 : decode zc_M_open 44 = .ok (.ifCond .eq 4, 3) := by decide +kernel
theorem dM_open_47 : decode zc_M_open 47 = .ok (.return_, 1) := by decide +kernel
theorem dM_open_48 : decode zc_M_open 48 = .ok (.aload_n 0, 1) := by decide +kernel
theorem dM_open_49 : decode zc_M_open 49 = .ok (.getfield 7, 3) := by decide +kernel
theorem dM_open_52 : decode zc_M_open 52 = .ok (.iload_n 1, 1) := by decide +kernel
theorem dM_open_53 : decode zc_M_open 53 = .ok (.iconst 1, 1) := by decide +kernel
theorem dM_open_54 : decode zc_M_open 54 = .ok (.bastore, 1) := by decide +kernel
theorem dM_open_55 : decode zc_M_open 55 = .ok (.iconst 0, 1) := by decide +kernel
theorem dM_open_56 : decode zc_M_open 56 = .ok (.istore_n 3, 1) := by decide +kernel
theorem dM_open_57 : decode zc_M_open 57 = .ok (.iload_n 3, 1) := by decide +kernel
theorem dM_open_58 : decode zc_M_open 58 = .ok (.iconst 4, 1) := by decide +kernel
theorem dM_open_59 : decode zc_M_open 59 = .ok (.if_icmp .ge 20, 3) := by decide +kernel
theorem dM_open_62 : decode zc_M_open 62 = .ok (.aload_n 0, 1) := by decide +kernel
theorem dM_open_63 : decode zc_M_open 63 = .ok (.getfield 17, 3) := by decide +kernel
theorem dM_open_66 : decode zc_M_open 66 = .ok (.iconst 4, 1) := by decide +kernel
theorem dM_open_67 : decode zc_M_open 67 = .ok (.iload_n 1, 1) := by decide +kernel
theorem dM_open_68 : decode zc_M_open 68 = .ok (.imul, 1) := by decide +kernel
theorem dM_open_69 : decode zc_M_open 69 = .ok (.iload_n 3, 1) := by decide +kernel
theorem dM_open_70 : decode zc_M_open 70 = .ok (.iadd, 1) := by decide +kernel
theorem dM_open_71 : decode zc_M_open 71 = .ok (.iload_n 2, 1) := by decide +kernel
theorem dM_open_72 : decode zc_M_open 72 = .ok (.iastore, 1) := by decide +kernel
theorem dM_open_73 : decode zc_M_open 73 = .ok (.iinc 3 1, 3) := by decide +kernel
theorem dM_open_76 : decode zc_M_open 76 = .ok (.goto (-19), 3) := by decide +kernel
theorem dM_open_79 : decode zc_M_open 79 = .ok (.return_, 1) := by decide +kernel
theorem dM_isFour_0 : decode zc_M_isFour 0 = .ok (.iload_n 0, 1) := by decide +kernel
theorem dM_isFour_1 : decode zc_M_isFour 1 = .ok (.ifCond .lt 12, 3) := by decide +kernel
theorem dM_isFour_4 : decode zc_M_isFour 4 = .ok (.iload_n 0, 1) := by decide +kernel
theorem dM_isFour_5 : decode zc_M_isFour 5 = .ok (.iconst 4, 1) := by decide +kernel
theorem dM_isFour_6 : decode zc_M_isFour 6 = .ok (.if_icmp .ge 7, 3) := by decide +kernel
theorem dM_isFour_9 : decode zc_M_isFour 9 = .ok (.iconst 1, 1) := by decide +kernel
theorem dM_isFour_10 : decode zc_M_isFour 10 = .ok (.goto 4, 3) := by decide +kernel
theorem dM_isFour_13 : decode zc_M_isFour 13 = .ok (.iconst 0, 1) := by decide +kernel
theorem dM_isFour_14 : decode zc_M_isFour 14 = .ok (.ireturn, 1) := by decide +kernel
theorem dM_refused_0 : decode zc_M_refused 0 = .ok (.aload_n 0, 1) := by decide +kernel
theorem dM_refused_1 : decode zc_M_refused 1 = .ok (.iload_n 1, 1) := by decide +kernel
theorem dM_refused_2 : decode zc_M_refused 2 = .ok (.putfield 87, 3) := by decide +kernel
theorem dM_refused_5 : decode zc_M_refused 5 = .ok (.iload_n 1, 1) := by decide +kernel
theorem dM_refused_6 : decode zc_M_refused 6 = .ok (.ifCond .le 7, 3) := by decide +kernel
theorem dM_refused_9 : decode zc_M_refused 9 = .ok (.iconst 1, 1) := by decide +kernel
theorem dM_refused_10 : decode zc_M_refused 10 = .ok (.goto 4, 3) := by decide +kernel
theorem dM_refused_13 : decode zc_M_refused 13 = .ok (.iconst 0, 1) := by decide +kernel
theorem dM_refused_14 : decode zc_M_refused 14 = .ok (.ireturn, 1) := by decide +kernel
theorem dM_fare_0 : decode zc_M_fare 0 = .ok (.aload_n 0, 1) := by decide +kernel
theorem dM_fare_1 : decode zc_M_fare 1 = .ok (.iload_n 1, 1) := by decide +kernel
theorem dM_fare_2 : decode zc_M_fare 2 = .ok (.invokestatic 91, 3) := by decide +kernel
theorem dM_fare_5 : decode zc_M_fare 5 = .ok (.ifCond .eq 10, 3) := by decide +kernel
theorem dM_fare_8 : decode zc_M_fare 8 = .ok (.iload_n 2, 1) := by decide +kernel
theorem dM_fare_9 : decode zc_M_fare 9 = .ok (.invokestatic 91, 3) := by decide +kernel
theorem dM_fare_12 : decode zc_M_fare 12 = .ok (.ifCond .ne 7, 3) := by decide +kernel
theorem dM_fare_15 : decode zc_M_fare 15 = .ok (.iconst 1, 1) := by decide +kernel
theorem dM_fare_16 : decode zc_M_fare 16 = .ok (.goto 18, 3) := by decide +kernel
theorem dM_fare_19 : decode zc_M_fare 19 = .ok (.iload_n 3, 1) := by decide +kernel
theorem dM_fare_20 : decode zc_M_fare 20 = .ok (.ifCond .lt 9, 3) := by decide +kernel
theorem dM_fare_23 : decode zc_M_fare 23 = .ok (.iload_n 3, 1) := by decide +kernel
theorem dM_fare_24 : decode zc_M_fare 24 = .ok (.ldc 98, 2) := by decide +kernel
theorem dM_fare_26 : decode zc_M_fare 26 = .ok (.if_icmp .le 7, 3) := by decide +kernel
theorem dM_fare_29 : decode zc_M_fare 29 = .ok (.iconst 2, 1) := by decide +kernel
theorem dM_fare_30 : decode zc_M_fare 30 = .ok (.goto 4, 3) := by decide +kernel
theorem dM_fare_33 : decode zc_M_fare 33 = .ok (.iconst 0, 1) := by decide +kernel
theorem dM_fare_34 : decode zc_M_fare 34 = .ok (.invokevirtual 95, 3) := by decide +kernel
theorem dM_fare_37 : decode zc_M_fare 37 = .ok (.ifCond .ne 14, 3) := by decide +kernel
theorem dM_fare_40 : decode zc_M_fare 40 = .ok (.aload_n 0, 1) := by decide +kernel
theorem dM_fare_41 : decode zc_M_fare 41 = .ok (.getfield 13, 3) := by decide +kernel
theorem dM_fare_44 : decode zc_M_fare 44 = .ok (.iconst 4, 1) := by decide +kernel
theorem dM_fare_45 : decode zc_M_fare 45 = .ok (.iload_n 1, 1) := by decide +kernel
theorem dM_fare_46 : decode zc_M_fare 46 = .ok (.imul, 1) := by decide +kernel
theorem dM_fare_47 : decode zc_M_fare 47 = .ok (.iload_n 2, 1) := by decide +kernel
theorem dM_fare_48 : decode zc_M_fare 48 = .ok (.iadd, 1) := by decide +kernel
theorem dM_fare_49 : decode zc_M_fare 49 = .ok (.iload_n 3, 1) := by decide +kernel
theorem dM_fare_50 : decode zc_M_fare 50 = .ok (.iastore, 1) := by decide +kernel
theorem dM_fare_51 : decode zc_M_fare 51 = .ok (.return_, 1) := by decide +kernel
theorem dM_part_0 : decode zc_M_part 0 = .ok (.iload_n 1, 1) := by decide +kernel
theorem dM_part_1 : decode zc_M_part 1 = .ok (.invokestatic 91, 3) := by decide +kernel
theorem dM_part_4 : decode zc_M_part 4 = .ok (.ifCond .eq 25, 3) := by decide +kernel
theorem dM_part_7 : decode zc_M_part 7 = .ok (.iload_n 2, 1) := by decide +kernel
theorem dM_part_8 : decode zc_M_part 8 = .ok (.ifCond .lt 21, 3) := by decide +kernel
theorem dM_part_11 : decode zc_M_part 11 = .ok (.iload_n 2, 1) := by decide +kernel
theorem dM_part_12 : decode zc_M_part 12 = .ok (.iconst 5, 1) := by decide +kernel
theorem dM_part_13 : decode zc_M_part 13 = .ok (.if_icmp .ge 16, 3) := by decide +kernel
theorem dM_part_16 : decode zc_M_part 16 = .ok (.iload_n 3, 1) := by decide +kernel
theorem dM_part_17 : decode zc_M_part 17 = .ok (.ifCond .lt 12, 3) := by decide +kernel
theorem dM_part_20 : decode zc_M_part 20 = .ok (.iload_n 3, 1) := by decide +kernel
theorem dM_part_21 : decode zc_M_part 21 = .ok (.iconst 5, 1) := by decide +kernel
theorem dM_part_22 : decode zc_M_part 22 = .ok (.if_icmp .ge 7, 3) := by decide +kernel
theorem dM_part_25 : decode zc_M_part 25 = .ok (.iconst 1, 1) := by decide +kernel
theorem dM_part_26 : decode zc_M_part 26 = .ok (.goto 4, 3) := by decide +kernel
theorem dM_part_29 : decode zc_M_part 29 = .ok (.iconst 0, 1) := by decide +kernel
theorem dM_part_30 : decode zc_M_part 30 = .ok (.istore 4, 2) := by decide +kernel
theorem dM_part_32 : decode zc_M_part 32 = .ok (.aload_n 0, 1) := by decide +kernel
theorem dM_part_33 : decode zc_M_part 33 = .ok (.iload 4, 2) := by decide +kernel
theorem dM_part_35 : decode zc_M_part 35 = .ok (.ifCond .ne 7, 3) := by decide +kernel
theorem dM_part_38 : decode zc_M_part 38 = .ok (.iconst 1, 1) := by decide +kernel
theorem dM_part_39 : decode zc_M_part 39 = .ok (.goto 34, 3) := by decide +kernel
theorem dM_part_42 : decode zc_M_part 42 = .ok (.iload_n 2, 1) := by decide +kernel
theorem dM_part_43 : decode zc_M_part 43 = .ok (.iload_n 3, 1) := by decide +kernel
theorem dM_part_44 : decode zc_M_part 44 = .ok (.if_icmp .lt 7, 3) := by decide +kernel
theorem dM_part_47 : decode zc_M_part 47 = .ok (.iconst 2, 1) := by decide +kernel
theorem dM_part_48 : decode zc_M_part 48 = .ok (.goto 25, 3) := by decide +kernel
theorem dM_part_51 : decode zc_M_part 51 = .ok (.aload_n 0, 1) := by decide +kernel
theorem dM_part_52 : decode zc_M_part 52 = .ok (.getfield 7, 3) := by decide +kernel
theorem dM_part_55 : decode zc_M_part 55 = .ok (.iload_n 1, 1) := by decide +kernel
theorem dM_part_56 : decode zc_M_part 56 = .ok (.baload, 1) := by decide +kernel
theorem dM_part_57 : decode zc_M_part 57 = .ok (.ifCond .eq 11, 3) := by decide +kernel
theorem dM_part_60 : decode zc_M_part 60 = .ok (.aload_n 0, 1) := by decide +kernel
theorem dM_part_61 : decode zc_M_part 61 = .ok (.getfield 99, 3) := by decide +kernel
theorem dM_part_64 : decode zc_M_part 64 = .ok (.iconst 4, 1) := by decide +kernel
theorem dM_part_65 : decode zc_M_part 65 = .ok (.if_icmp .ne 7, 3) := by decide +kernel
theorem dM_part_68 : decode zc_M_part 68 = .ok (.iconst 3, 1) := by decide +kernel
theorem dM_part_69 : decode zc_M_part 69 = .ok (.goto 4, 3) := by decide +kernel
theorem dM_part_72 : decode zc_M_part 72 = .ok (.iconst 0, 1) := by decide +kernel
theorem dM_part_73 : decode zc_M_part 73 = .ok (.invokevirtual 95, 3) := by decide +kernel
theorem dM_part_76 : decode zc_M_part 76 = .ok (.ifCond .eq 5, 3) := by decide +kernel
theorem dM_part_79 : decode zc_M_part 79 = .ok (.iconst 0, 1) := by decide +kernel
theorem dM_part_80 : decode zc_M_part 80 = .ok (.ireturn, 1) := by decide +kernel
theorem dM_part_81 : decode zc_M_part 81 = .ok (.aload_n 0, 1) := by decide +kernel
theorem dM_part_82 : decode zc_M_part 82 = .ok (.getfield 20, 3) := by decide +kernel
theorem dM_part_85 : decode zc_M_part 85 = .ok (.aload_n 0, 1) := by decide +kernel
theorem dM_part_86 : decode zc_M_part 86 = .ok (.getfield 99, 3) := by decide +kernel
theorem dM_part_89 : decode zc_M_part 89 = .ok (.iload_n 1, 1) := by decide +kernel
theorem dM_part_90 : decode zc_M_part 90 = .ok (.iastore, 1) := by decide +kernel
theorem dM_part_91 : decode zc_M_part 91 = .ok (.aload_n 0, 1) := by decide +kernel
theorem dM_part_92 : decode zc_M_part 92 = .ok (.getfield 23, 3) := by decide +kernel
theorem dM_part_95 : decode zc_M_part 95 = .ok (.aload_n 0, 1) := by decide +kernel
theorem dM_part_96 : decode zc_M_part 96 = .ok (.getfield 99, 3) := by decide +kernel
theorem dM_part_99 : decode zc_M_part 99 = .ok (.iload_n 2, 1) := by decide +kernel
theorem dM_part_100 : decode zc_M_part 100 = .ok (.iastore, 1) := by decide +kernel
theorem dM_part_101 : decode zc_M_part 101 = .ok (.aload_n 0, 1) := by decide +kernel
theorem dM_part_102 : decode zc_M_part 102 = .ok (.getfield 26, 3) := by decide +kernel
theorem dM_part_105 : decode zc_M_part 105 = .ok (.aload_n 0, 1) := by decide +kernel
theorem dM_part_106 : decode zc_M_part 106 = .ok (.getfield 99, 3) := by decide +kernel
theorem dM_part_109 : decode zc_M_part 109 = .ok (.iload_n 3, 1) := by decide +kernel
theorem dM_part_110 : decode zc_M_part 110 = .ok (.iastore, 1) := by decide +kernel
theorem dM_part_111 : decode zc_M_part 111 = .ok (.aload_n 0, 1) := by decide +kernel
theorem dM_part_112 : decode zc_M_part 112 = .ok (.dup, 1) := by decide +kernel
theorem dM_part_113 : decode zc_M_part 113 = .ok (.getfield 99, 3) := by decide +kernel
theorem dM_part_116 : decode zc_M_part 116 = .ok (.iconst 1, 1) := by decide +kernel
theorem dM_part_117 : decode zc_M_part 117 = .ok (.iadd, 1) := by decide +kernel
theorem dM_part_118 : decode zc_M_part 118 = .ok (.putfield 99, 3) := by decide +kernel
theorem dM_part_121 : decode zc_M_part 121 = .ok (.aload_n 0, 1) := by decide +kernel
theorem dM_part_122 : decode zc_M_part 122 = .ok (.getfield 99, 3) := by decide +kernel
theorem dM_part_125 : decode zc_M_part 125 = .ok (.ireturn, 1) := by decide +kernel
theorem dM_buy_0 : decode zc_M_buy 0 = .ok (.aload_n 0, 1) := by decide +kernel
theorem dM_buy_1 : decode zc_M_buy 1 = .ok (.iload_n 1, 1) := by decide +kernel
theorem dM_buy_2 : decode zc_M_buy 2 = .ok (.invokestatic 91, 3) := by decide +kernel
theorem dM_buy_5 : decode zc_M_buy 5 = .ok (.ifCond .ne 7, 3) := by decide +kernel
theorem dM_buy_8 : decode zc_M_buy 8 = .ok (.iconst 1, 1) := by decide +kernel
theorem dM_buy_9 : decode zc_M_buy 9 = .ok (.goto 39, 3) := by decide +kernel
theorem dM_buy_12 : decode zc_M_buy 12 = .ok (.iload_n 2, 1) := by decide +kernel
theorem dM_buy_13 : decode zc_M_buy 13 = .ok (.iconst 1, 1) := by decide +kernel
theorem dM_buy_14 : decode zc_M_buy 14 = .ok (.if_icmp .lt 9, 3) := by decide +kernel
theorem dM_buy_17 : decode zc_M_buy 17 = .ok (.iload_n 2, 1) := by decide +kernel
theorem dM_buy_18 : decode zc_M_buy 18 = .ok (.bipush 100, 2) := by decide +kernel
theorem dM_buy_20 : decode zc_M_buy 20 = .ok (.if_icmp .le 7, 3) := by decide +kernel
theorem dM_buy_23 : decode zc_M_buy 23 = .ok (.iconst 2, 1) := by decide +kernel
theorem dM_buy_24 : decode zc_M_buy 24 = .ok (.goto 24, 3) := by decide +kernel
theorem dM_buy_27 : decode zc_M_buy 27 = .ok (.aload_n 0, 1) := by decide +kernel
theorem dM_buy_28 : decode zc_M_buy 28 = .ok (.getfield 99, 3) := by decide +kernel
theorem dM_buy_31 : decode zc_M_buy 31 = .ok (.ifCond .eq 12, 3) := by decide +kernel
theorem dM_buy_34 : decode zc_M_buy 34 = .ok (.aload_n 0, 1) := by decide +kernel
theorem dM_buy_35 : decode zc_M_buy 35 = .ok (.getfield 110, 3) := by decide +kernel
theorem dM_buy_38 : decode zc_M_buy 38 = .ok (.bipush 80, 2) := by decide +kernel
theorem dM_buy_40 : decode zc_M_buy 40 = .ok (.if_icmp .ne 7, 3) := by decide +kernel
theorem dM_buy_43 : decode zc_M_buy 43 = .ok (.iconst 3, 1) := by decide +kernel
theorem dM_buy_44 : decode zc_M_buy 44 = .ok (.goto 4, 3) := by decide +kernel
theorem dM_buy_47 : decode zc_M_buy 47 = .ok (.iconst 0, 1) := by decide +kernel
theorem dM_buy_48 : decode zc_M_buy 48 = .ok (.invokevirtual 95, 3) := by decide +kernel
theorem dM_buy_51 : decode zc_M_buy 51 = .ok (.ifCond .eq 5, 3) := by decide +kernel
theorem dM_buy_54 : decode zc_M_buy 54 = .ok (.iconst 0, 1) := by decide +kernel
theorem dM_buy_55 : decode zc_M_buy 55 = .ok (.ireturn, 1) := by decide +kernel
theorem dM_buy_56 : decode zc_M_buy 56 = .ok (.aload_n 0, 1) := by decide +kernel
theorem dM_buy_57 : decode zc_M_buy 57 = .ok (.getfield 99, 3) := by decide +kernel
theorem dM_buy_60 : decode zc_M_buy 60 = .ok (.istore_n 3, 1) := by decide +kernel
theorem dM_buy_61 : decode zc_M_buy 61 = .ok (.aload_n 0, 1) := by decide +kernel
theorem dM_buy_62 : decode zc_M_buy 62 = .ok (.iconst 0, 1) := by decide +kernel
theorem dM_buy_63 : decode zc_M_buy 63 = .ok (.putfield 99, 3) := by decide +kernel
theorem dM_buy_66 : decode zc_M_buy 66 = .ok (.aload_n 0, 1) := by decide +kernel
theorem dM_buy_67 : decode zc_M_buy 67 = .ok (.iload_n 1, 1) := by decide +kernel
theorem dM_buy_68 : decode zc_M_buy 68 = .ok (.iconst 0, 1) := by decide +kernel
theorem dM_buy_69 : decode zc_M_buy 69 = .ok (.iload_n 3, 1) := by decide +kernel
theorem dM_buy_70 : decode zc_M_buy 70 = .ok (.iload_n 2, 1) := by decide +kernel
theorem dM_buy_71 : decode zc_M_buy 71 = .ok (.invokevirtual 117, 3) := by decide +kernel
theorem dM_buy_74 : decode zc_M_buy 74 = .ok (.ifCond .eq 14, 3) := by decide +kernel
theorem dM_buy_77 : decode zc_M_buy 77 = .ok (.aload_n 0, 1) := by decide +kernel
theorem dM_buy_78 : decode zc_M_buy 78 = .ok (.iload_n 1, 1) := by decide +kernel
theorem dM_buy_79 : decode zc_M_buy 79 = .ok (.iconst 0, 1) := by decide +kernel
theorem dM_buy_80 : decode zc_M_buy 80 = .ok (.iload_n 3, 1) := by decide +kernel
theorem dM_buy_81 : decode zc_M_buy 81 = .ok (.iload_n 2, 1) := by decide +kernel
theorem dM_buy_82 : decode zc_M_buy 82 = .ok (.invokevirtual 121, 3) := by decide +kernel
theorem dM_buy_85 : decode zc_M_buy 85 = .ok (.goto 4, 3) := by decide +kernel
end
section
theorem dM_buy_88 : decode zc_M_buy 88 = .ok (.iconst (-1), 1) := by decide +kernel
theorem dM_buy_89 : decode zc_M_buy 89 = .ok (.ireturn, 1) := by decide +kernel
theorem dM_fits_0 : decode zc_M_fits 0 = .ok (.iconst 1, 1) := by decide +kernel
theorem dM_fits_1 : decode zc_M_fits 1 = .ok (.istore 5, 2) := by decide +kernel
theorem dM_fits_3 : decode zc_M_fits 3 = .ok (.iconst 0, 1) := by decide +kernel
theorem dM_fits_4 : decode zc_M_fits 4 = .ok (.istore 6, 2) := by decide +kernel
theorem dM_fits_6 : decode zc_M_fits 6 = .ok (.iload 6, 2) := by decide +kernel
theorem dM_fits_8 : decode zc_M_fits 8 = .ok (.bipush 16, 2) := by decide +kernel
theorem dM_fits_10 : decode zc_M_fits 10 = .ok (.if_icmp .ge 47, 3) := by decide +kernel
theorem dM_fits_13 : decode zc_M_fits 13 = .ok (.iload 5, 2) := by decide +kernel
theorem dM_fits_15 : decode zc_M_fits 15 = .ok (.ifCond .eq 33, 3) := by decide +kernel
theorem dM_fits_18 : decode zc_M_fits 18 = .ok (.iload 4, 2) := by decide +kernel
theorem dM_fits_20 : decode zc_M_fits 20 = .ok (.aload_n 0, 1) := by decide +kernel
theorem dM_fits_21 : decode zc_M_fits 21 = .ok (.iload_n 2, 1) := by decide +kernel
theorem dM_fits_22 : decode zc_M_fits 22 = .ok (.iload_n 3, 1) := by decide +kernel
theorem dM_fits_23 : decode zc_M_fits 23 = .ok (.iload 6, 2) := by decide +kernel
theorem dM_fits_25 : decode zc_M_fits 25 = .ok (.invokevirtual 102, 3) := by decide +kernel
theorem dM_fits_28 : decode zc_M_fits 28 = .ok (.imul, 1) := by decide +kernel
theorem dM_fits_29 : decode zc_M_fits 29 = .ok (.aload_n 0, 1) := by decide +kernel
theorem dM_fits_30 : decode zc_M_fits 30 = .ok (.getfield 17, 3) := by decide +kernel
theorem dM_fits_33 : decode zc_M_fits 33 = .ok (.bipush 16, 2) := by decide +kernel
theorem dM_fits_35 : decode zc_M_fits 35 = .ok (.iload_n 1, 1) := by decide +kernel
theorem dM_fits_36 : decode zc_M_fits 36 = .ok (.imul, 1) := by decide +kernel
theorem dM_fits_37 : decode zc_M_fits 37 = .ok (.iload 6, 2) := by decide +kernel
theorem dM_fits_39 : decode zc_M_fits 39 = .ok (.iadd, 1) := by decide +kernel
theorem dM_fits_40 : decode zc_M_fits 40 = .ok (.iaload, 1) := by decide +kernel
theorem dM_fits_41 : decode zc_M_fits 41 = .ok (.if_icmp .gt 7, 3) := by decide +kernel
theorem dM_fits_44 : decode zc_M_fits 44 = .ok (.iconst 1, 1) := by decide +kernel
theorem dM_fits_45 : decode zc_M_fits 45 = .ok (.goto 4, 3) := by decide +kernel
theorem dM_fits_48 : decode zc_M_fits 48 = .ok (.iconst 0, 1) := by decide +kernel
theorem dM_fits_49 : decode zc_M_fits 49 = .ok (.istore 5, 2) := by decide +kernel
theorem dM_fits_51 : decode zc_M_fits 51 = .ok (.iinc 6 1, 3) := by decide +kernel
theorem dM_fits_54 : decode zc_M_fits 54 = .ok (.goto (-48), 3) := by decide +kernel
theorem dM_fits_57 : decode zc_M_fits 57 = .ok (.iload 5, 2) := by decide +kernel
theorem dM_fits_59 : decode zc_M_fits 59 = .ok (.ireturn, 1) := by decide +kernel
theorem dM_lies_0 : decode zc_M_lies 0 = .ok (.iconst 0, 1) := by decide +kernel
theorem dM_lies_1 : decode zc_M_lies 1 = .ok (.istore 4, 2) := by decide +kernel
theorem dM_lies_3 : decode zc_M_lies 3 = .ok (.iload_n 1, 1) := by decide +kernel
theorem dM_lies_4 : decode zc_M_lies 4 = .ok (.istore 5, 2) := by decide +kernel
theorem dM_lies_6 : decode zc_M_lies 6 = .ok (.iload 5, 2) := by decide +kernel
theorem dM_lies_8 : decode zc_M_lies 8 = .ok (.iload_n 1, 1) := by decide +kernel
theorem dM_lies_9 : decode zc_M_lies 9 = .ok (.iload_n 2, 1) := by decide +kernel
theorem dM_lies_10 : decode zc_M_lies 10 = .ok (.iadd, 1) := by decide +kernel
theorem dM_lies_11 : decode zc_M_lies 11 = .ok (.if_icmp .ge 59, 3) := by decide +kernel
theorem dM_lies_14 : decode zc_M_lies 14 = .ok (.aload_n 0, 1) := by decide +kernel
theorem dM_lies_15 : decode zc_M_lies 15 = .ok (.getfield 20, 3) := by decide +kernel
theorem dM_lies_18 : decode zc_M_lies 18 = .ok (.iload 5, 2) := by decide +kernel
theorem dM_lies_20 : decode zc_M_lies 20 = .ok (.iaload, 1) := by decide +kernel
theorem dM_lies_21 : decode zc_M_lies 21 = .ok (.iload_n 3, 1) := by decide +kernel
theorem dM_lies_22 : decode zc_M_lies 22 = .ok (.iconst 4, 1) := by decide +kernel
theorem dM_lies_23 : decode zc_M_lies 23 = .ok (.idiv, 1) := by decide +kernel
theorem dM_lies_24 : decode zc_M_lies 24 = .ok (.if_icmp .ne 36, 3) := by decide +kernel
theorem dM_lies_27 : decode zc_M_lies 27 = .ok (.aload_n 0, 1) := by decide +kernel
theorem dM_lies_28 : decode zc_M_lies 28 = .ok (.getfield 23, 3) := by decide +kernel
theorem dM_lies_31 : decode zc_M_lies 31 = .ok (.iload 5, 2) := by decide +kernel
theorem dM_lies_33 : decode zc_M_lies 33 = .ok (.iaload, 1) := by decide +kernel
theorem dM_lies_34 : decode zc_M_lies 34 = .ok (.iload_n 3, 1) := by decide +kernel
theorem dM_lies_35 : decode zc_M_lies 35 = .ok (.iconst 4, 1) := by decide +kernel
theorem dM_lies_36 : decode zc_M_lies 36 = .ok (.irem, 1) := by decide +kernel
theorem dM_lies_37 : decode zc_M_lies 37 = .ok (.if_icmp .gt 23, 3) := by decide +kernel
theorem dM_lies_40 : decode zc_M_lies 40 = .ok (.iload_n 3, 1) := by decide +kernel
theorem dM_lies_41 : decode zc_M_lies 41 = .ok (.iconst 4, 1) := by decide +kernel
theorem dM_lies_42 : decode zc_M_lies 42 = .ok (.irem, 1) := by decide +kernel
theorem dM_lies_43 : decode zc_M_lies 43 = .ok (.aload_n 0, 1) := by decide +kernel
theorem dM_lies_44 : decode zc_M_lies 44 = .ok (.getfield 26, 3) := by decide +kernel
theorem dM_lies_47 : decode zc_M_lies 47 = .ok (.iload 5, 2) := by decide +kernel
theorem dM_lies_49 : decode zc_M_lies 49 = .ok (.iaload, 1) := by decide +kernel
theorem dM_lies_50 : decode zc_M_lies 50 = .ok (.if_icmp .ge 10, 3) := by decide +kernel
theorem dM_lies_53 : decode zc_M_lies 53 = .ok (.iload 4, 2) := by decide +kernel
theorem dM_lies_55 : decode zc_M_lies 55 = .ok (.iconst 1, 1) := by decide +kernel
theorem dM_lies_56 : decode zc_M_lies 56 = .ok (.iadd, 1) := by decide +kernel
theorem dM_lies_57 : decode zc_M_lies 57 = .ok (.goto 5, 3) := by decide +kernel
theorem dM_lies_60 : decode zc_M_lies 60 = .ok (.iload 4, 2) := by decide +kernel
theorem dM_lies_62 : decode zc_M_lies 62 = .ok (.istore 4, 2) := by decide +kernel
theorem dM_lies_64 : decode zc_M_lies 64 = .ok (.iinc 5 1, 3) := by decide +kernel
theorem dM_lies_67 : decode zc_M_lies 67 = .ok (.goto (-61), 3) := by decide +kernel
theorem dM_lies_70 : decode zc_M_lies 70 = .ok (.iload 4, 2) := by decide +kernel
theorem dM_lies_72 : decode zc_M_lies 72 = .ok (.ireturn, 1) := by decide +kernel
theorem dM_sell_0 : decode zc_M_sell 0 = .ok (.lconst 0, 1) := by decide +kernel
theorem dM_sell_1 : decode zc_M_sell 1 = .ok (.lstore 5, 2) := by decide +kernel
theorem dM_sell_3 : decode zc_M_sell 3 = .ok (.iconst 0, 1) := by decide +kernel
theorem dM_sell_4 : decode zc_M_sell 4 = .ok (.istore 7, 2) := by decide +kernel
theorem dM_sell_6 : decode zc_M_sell 6 = .ok (.iload 7, 2) := by decide +kernel
theorem dM_sell_8 : decode zc_M_sell 8 = .ok (.bipush 16, 2) := by decide +kernel
theorem dM_sell_10 : decode zc_M_sell 10 = .ok (.if_icmp .ge 32, 3) := by decide +kernel
theorem dM_sell_13 : decode zc_M_sell 13 = .ok (.lload 5, 2) := by decide +kernel
theorem dM_sell_15 : decode zc_M_sell 15 = .ok (.aload_n 0, 1) := by decide +kernel
theorem dM_sell_16 : decode zc_M_sell 16 = .ok (.iload_n 2, 1) := by decide +kernel
theorem dM_sell_17 : decode zc_M_sell 17 = .ok (.iload_n 3, 1) := by decide +kernel
theorem dM_sell_18 : decode zc_M_sell 18 = .ok (.iload 7, 2) := by decide +kernel
theorem dM_sell_20 : decode zc_M_sell 20 = .ok (.invokevirtual 102, 3) := by decide +kernel
theorem dM_sell_23 : decode zc_M_sell 23 = .ok (.i2l, 1) := by decide +kernel
theorem dM_sell_24 : decode zc_M_sell 24 = .ok (.aload_n 0, 1) := by decide +kernel
theorem dM_sell_25 : decode zc_M_sell 25 = .ok (.getfield 13, 3) := by decide +kernel
theorem dM_sell_28 : decode zc_M_sell 28 = .ok (.iload 7, 2) := by decide +kernel
theorem dM_sell_30 : decode zc_M_sell 30 = .ok (.iaload, 1) := by decide +kernel
theorem dM_sell_31 : decode zc_M_sell 31 = .ok (.i2l, 1) := by decide +kernel
theorem dM_sell_32 : decode zc_M_sell 32 = .ok (.lmul, 1) := by decide +kernel
theorem dM_sell_33 : decode zc_M_sell 33 = .ok (.ladd, 1) := by decide +kernel
theorem dM_sell_34 : decode zc_M_sell 34 = .ok (.lstore 5, 2) := by decide +kernel
theorem dM_sell_36 : decode zc_M_sell 36 = .ok (.iinc 7 1, 3) := by decide +kernel
theorem dM_sell_39 : decode zc_M_sell 39 = .ok (.goto (-33), 3) := by decide +kernel
theorem dM_sell_42 : decode zc_M_sell 42 = .ok (.aload_n 0, 1) := by decide +kernel
theorem dM_sell_43 : decode zc_M_sell 43 = .ok (.iload_n 1, 1) := by decide +kernel
theorem dM_sell_44 : decode zc_M_sell 44 = .ok (.iload_n 2, 1) := by decide +kernel
theorem dM_sell_45 : decode zc_M_sell 45 = .ok (.iload_n 3, 1) := by decide +kernel
theorem dM_sell_46 : decode zc_M_sell 46 = .ok (.iload 4, 2) := by decide +kernel
theorem dM_sell_48 : decode zc_M_sell 48 = .ok (.ineg, 1) := by decide +kernel
theorem dM_sell_49 : decode zc_M_sell 49 = .ok (.invokevirtual 106, 3) := by decide +kernel
theorem dM_sell_52 : decode zc_M_sell 52 = .ok (.aload_n 0, 1) := by decide +kernel
theorem dM_sell_53 : decode zc_M_sell 53 = .ok (.iconst 4, 1) := by decide +kernel
theorem dM_sell_54 : decode zc_M_sell 54 = .ok (.iconst 4, 1) := by decide +kernel
theorem dM_sell_55 : decode zc_M_sell 55 = .ok (.aload_n 0, 1) := by decide +kernel
theorem dM_sell_56 : decode zc_M_sell 56 = .ok (.getfield 110, 3) := by decide +kernel
theorem dM_sell_59 : decode zc_M_sell 59 = .ok (.imul, 1) := by decide +kernel
theorem dM_sell_60 : decode zc_M_sell 60 = .ok (.iadd, 1) := by decide +kernel
theorem dM_sell_61 : decode zc_M_sell 61 = .ok (.iload_n 2, 1) := by decide +kernel
theorem dM_sell_62 : decode zc_M_sell 62 = .ok (.iload_n 3, 1) := by decide +kernel
theorem dM_sell_63 : decode zc_M_sell 63 = .ok (.invokevirtual 113, 3) := by decide +kernel
theorem dM_sell_66 : decode zc_M_sell 66 = .ok (.aload_n 0, 1) := by decide +kernel
theorem dM_sell_67 : decode zc_M_sell 67 = .ok (.getfield 29, 3) := by decide +kernel
theorem dM_sell_70 : decode zc_M_sell 70 = .ok (.aload_n 0, 1) := by decide +kernel
theorem dM_sell_71 : decode zc_M_sell 71 = .ok (.getfield 110, 3) := by decide +kernel
theorem dM_sell_74 : decode zc_M_sell 74 = .ok (.iload_n 1, 1) := by decide +kernel
theorem dM_sell_75 : decode zc_M_sell 75 = .ok (.iastore, 1) := by decide +kernel
theorem dM_sell_76 : decode zc_M_sell 76 = .ok (.aload_n 0, 1) := by decide +kernel
theorem dM_sell_77 : decode zc_M_sell 77 = .ok (.getfield 32, 3) := by decide +kernel
theorem dM_sell_80 : decode zc_M_sell 80 = .ok (.aload_n 0, 1) := by decide +kernel
theorem dM_sell_81 : decode zc_M_sell 81 = .ok (.getfield 110, 3) := by decide +kernel
theorem dM_sell_84 : decode zc_M_sell 84 = .ok (.iload 4, 2) := by decide +kernel
theorem dM_sell_86 : decode zc_M_sell 86 = .ok (.iastore, 1) := by decide +kernel
theorem dM_sell_87 : decode zc_M_sell 87 = .ok (.aload_n 0, 1) := by decide +kernel
theorem dM_sell_88 : decode zc_M_sell 88 = .ok (.getfield 35, 3) := by decide +kernel
theorem dM_sell_91 : decode zc_M_sell 91 = .ok (.aload_n 0, 1) := by decide +kernel
theorem dM_sell_92 : decode zc_M_sell 92 = .ok (.getfield 110, 3) := by decide +kernel
theorem dM_sell_95 : decode zc_M_sell 95 = .ok (.iload_n 3, 1) := by decide +kernel
theorem dM_sell_96 : decode zc_M_sell 96 = .ok (.iastore, 1) := by decide +kernel
theorem dM_sell_97 : decode zc_M_sell 97 = .ok (.aload_n 0, 1) := by decide +kernel
theorem dM_sell_98 : decode zc_M_sell 98 = .ok (.getfield 38, 3) := by decide +kernel
theorem dM_sell_101 : decode zc_M_sell 101 = .ok (.aload_n 0, 1) := by decide +kernel
theorem dM_sell_102 : decode zc_M_sell 102 = .ok (.getfield 110, 3) := by decide +kernel
theorem dM_sell_105 : decode zc_M_sell 105 = .ok (.iload 4, 2) := by decide +kernel
theorem dM_sell_107 : decode zc_M_sell 107 = .ok (.i2l, 1) := by decide +kernel
theorem dM_sell_108 : decode zc_M_sell 108 = .ok (.lload 5, 2) := by decide +kernel
theorem dM_sell_110 : decode zc_M_sell 110 = .ok (.lmul, 1) := by decide +kernel
theorem dM_sell_111 : decode zc_M_sell 111 = .ok (.lastore, 1) := by decide +kernel
theorem dM_sell_112 : decode zc_M_sell 112 = .ok (.aload_n 0, 1) := by decide +kernel
theorem dM_sell_113 : decode zc_M_sell 113 = .ok (.getfield 42, 3) := by decide +kernel
theorem dM_sell_116 : decode zc_M_sell 116 = .ok (.aload_n 0, 1) := by decide +kernel
theorem dM_sell_117 : decode zc_M_sell 117 = .ok (.getfield 110, 3) := by decide +kernel
theorem dM_sell_120 : decode zc_M_sell 120 = .ok (.iconst 1, 1) := by decide +kernel
theorem dM_sell_121 : decode zc_M_sell 121 = .ok (.bastore, 1) := by decide +kernel
theorem dM_sell_122 : decode zc_M_sell 122 = .ok (.aload_n 0, 1) := by decide +kernel
theorem dM_sell_123 : decode zc_M_sell 123 = .ok (.getfield 45, 3) := by decide +kernel
theorem dM_sell_126 : decode zc_M_sell 126 = .ok (.iload_n 1, 1) := by decide +kernel
theorem dM_sell_127 : decode zc_M_sell 127 = .ok (.aload_n 0, 1) := by decide +kernel
theorem dM_sell_128 : decode zc_M_sell 128 = .ok (.getfield 45, 3) := by decide +kernel
theorem dM_sell_131 : decode zc_M_sell 131 = .ok (.iload_n 1, 1) := by decide +kernel
theorem dM_sell_132 : decode zc_M_sell 132 = .ok (.laload, 1) := by decide +kernel
theorem dM_sell_133 : decode zc_M_sell 133 = .ok (.iload 4, 2) := by decide +kernel
theorem dM_sell_135 : decode zc_M_sell 135 = .ok (.i2l, 1) := by decide +kernel
theorem dM_sell_136 : decode zc_M_sell 136 = .ok (.lload 5, 2) := by decide +kernel
theorem dM_sell_138 : decode zc_M_sell 138 = .ok (.lmul, 1) := by decide +kernel
theorem dM_sell_139 : decode zc_M_sell 139 = .ok (.ladd, 1) := by decide +kernel
theorem dM_sell_140 : decode zc_M_sell 140 = .ok (.lastore, 1) := by decide +kernel
theorem dM_sell_141 : decode zc_M_sell 141 = .ok (.aload_n 0, 1) := by decide +kernel
theorem dM_sell_142 : decode zc_M_sell 142 = .ok (.dup, 1) := by decide +kernel
theorem dM_sell_143 : decode zc_M_sell 143 = .ok (.getfield 110, 3) := by decide +kernel
theorem dM_sell_146 : decode zc_M_sell 146 = .ok (.iconst 1, 1) := by decide +kernel
theorem dM_sell_147 : decode zc_M_sell 147 = .ok (.iadd, 1) := by decide +kernel
theorem dM_sell_148 : decode zc_M_sell 148 = .ok (.putfield 110, 3) := by decide +kernel
theorem dM_sell_151 : decode zc_M_sell 151 = .ok (.aload_n 0, 1) := by decide +kernel
theorem dM_sell_152 : decode zc_M_sell 152 = .ok (.getfield 110, 3) := by decide +kernel
theorem dM_sell_155 : decode zc_M_sell 155 = .ok (.iconst 1, 1) := by decide +kernel
theorem dM_sell_156 : decode zc_M_sell 156 = .ok (.isub, 1) := by decide +kernel
theorem dM_sell_157 : decode zc_M_sell 157 = .ok (.ireturn, 1) := by decide +kernel
theorem dM_give_0 : decode zc_M_give 0 = .ok (.iconst 0, 1) := by decide +kernel
theorem dM_give_1 : decode zc_M_give 1 = .ok (.istore 5, 2) := by decide +kernel
theorem dM_give_3 : decode zc_M_give 3 = .ok (.iload 5, 2) := by decide +kernel
theorem dM_give_5 : decode zc_M_give 5 = .ok (.bipush 16, 2) := by decide +kernel
theorem dM_give_7 : decode zc_M_give 7 = .ok (.if_icmp .ge 45, 3) := by decide +kernel
theorem dM_give_10 : decode zc_M_give 10 = .ok (.aload_n 0, 1) := by decide +kernel
theorem dM_give_11 : decode zc_M_give 11 = .ok (.getfield 17, 3) := by decide +kernel
theorem dM_give_14 : decode zc_M_give 14 = .ok (.bipush 16, 2) := by decide +kernel
theorem dM_give_16 : decode zc_M_give 16 = .ok (.iload_n 1, 1) := by decide +kernel
theorem dM_give_17 : decode zc_M_give 17 = .ok (.imul, 1) := by decide +kernel
theorem dM_give_18 : decode zc_M_give 18 = .ok (.iload 5, 2) := by decide +kernel
theorem dM_give_20 : decode zc_M_give 20 = .ok (.iadd, 1) := by decide +kernel
theorem dM_give_21 : decode zc_M_give 21 = .ok (.aload_n 0, 1) := by decide +kernel
theorem dM_give_22 : decode zc_M_give 22 = .ok (.getfield 17, 3) := by decide +kernel
theorem dM_give_25 : decode zc_M_give 25 = .ok (.bipush 16, 2) := by decide +kernel
theorem dM_give_27 : decode zc_M_give 27 = .ok (.iload_n 1, 1) := by decide +kernel
theorem dM_give_28 : decode zc_M_give 28 = .ok (.imul, 1) := by decide +kernel
theorem dM_give_29 : decode zc_M_give 29 = .ok (.iload 5, 2) := by decide +kernel
theorem dM_give_31 : decode zc_M_give 31 = .ok (.iadd, 1) := by decide +kernel
theorem dM_give_32 : decode zc_M_give 32 = .ok (.iaload, 1) := by decide +kernel
theorem dM_give_33 : decode zc_M_give 33 = .ok (.iload 4, 2) := by decide +kernel
theorem dM_give_35 : decode zc_M_give 35 = .ok (.aload_n 0, 1) := by decide +kernel
theorem dM_give_36 : decode zc_M_give 36 = .ok (.iload_n 2, 1) := by decide +kernel
theorem dM_give_37 : decode zc_M_give 37 = .ok (.iload_n 3, 1) := by decide +kernel
theorem dM_give_38 : decode zc_M_give 38 = .ok (.iload 5, 2) := by decide +kernel
theorem dM_give_40 : decode zc_M_give 40 = .ok (.invokevirtual 102, 3) := by decide +kernel
theorem dM_give_43 : decode zc_M_give 43 = .ok (.imul, 1) := by decide +kernel
theorem dM_give_44 : decode zc_M_give 44 = .ok (.iadd, 1) := by decide +kernel
theorem dM_give_45 : decode zc_M_give 45 = .ok (.iastore, 1) := by decide +kernel
theorem dM_give_46 : decode zc_M_give 46 = .ok (.iinc 5 1, 3) := by decide +kernel
theorem dM_give_49 : decode zc_M_give 49 = .ok (.goto (-46), 3) := by decide +kernel
theorem dM_give_52 : decode zc_M_give 52 = .ok (.return_, 1) := by decide +kernel
theorem dM_copy_0 : decode zc_M_copy 0 = .ok (.iconst 0, 1) := by decide +kernel
theorem dM_copy_1 : decode zc_M_copy 1 = .ok (.istore 4, 2) := by decide +kernel
theorem dM_copy_3 : decode zc_M_copy 3 = .ok (.iload 4, 2) := by decide +kernel
theorem dM_copy_5 : decode zc_M_copy 5 = .ok (.iload_n 3, 1) := by decide +kernel
theorem dM_copy_6 : decode zc_M_copy 6 = .ok (.if_icmp .ge 63, 3) := by decide +kernel
theorem dM_copy_9 : decode zc_M_copy 9 = .ok (.aload_n 0, 1) := by decide +kernel
theorem dM_copy_10 : decode zc_M_copy 10 = .ok (.getfield 20, 3) := by decide +kernel
theorem dM_copy_13 : decode zc_M_copy 13 = .ok (.iload_n 1, 1) := by decide +kernel
theorem dM_copy_14 : decode zc_M_copy 14 = .ok (.iload 4, 2) := by decide +kernel
theorem dM_copy_16 : decode zc_M_copy 16 = .ok (.iadd, 1) := by decide +kernel
theorem dM_copy_17 : decode zc_M_copy 17 = .ok (.aload_n 0, 1) := by decide +kernel
theorem dM_copy_18 : decode zc_M_copy 18 = .ok (.getfield 20, 3) := by decide +kernel
theorem dM_copy_21 : decode zc_M_copy 21 = .ok (.iload_n 2, 1) := by decide +kernel
theorem dM_copy_22 : decode zc_M_copy 22 = .ok (.iload 4, 2) := by decide +kernel
theorem dM_copy_24 : decode zc_M_copy 24 = .ok (.iadd, 1) := by decide +kernel
theorem dM_copy_25 : decode zc_M_copy 25 = .ok (.iaload, 1) := by decide +kernel
theorem dM_copy_26 : decode zc_M_copy 26 = .ok (.iastore, 1) := by decide +kernel
theorem dM_copy_27 : decode zc_M_copy 27 = .ok (.aload_n 0, 1) := by decide +kernel
theorem dM_copy_28 : decode zc_M_copy 28 = .ok (.getfield 23, 3) := by decide +kernel
theorem dM_copy_31 : decode zc_M_copy 31 = .ok (.iload_n 1, 1) := by decide +kernel
theorem dM_copy_32 : decode zc_M_copy 32 = .ok (.iload 4, 2) := by decide +kernel
theorem dM_copy_34 : decode zc_M_copy 34 = .ok (.iadd, 1) := by decide +kernel
theorem dM_copy_35 : decode zc_M_copy 35 = .ok (.aload_n 0, 1) := by decide +kernel
theorem dM_copy_36 : decode zc_M_copy 36 = .ok (.getfield 23, 3) := by decide +kernel
theorem dM_copy_39 : decode zc_M_copy 39 = .ok (.iload_n 2, 1) := by decide +kernel
theorem dM_copy_40 : decode zc_M_copy 40 = .ok (.iload 4, 2) := by decide +kernel
theorem dM_copy_42 : decode zc_M_copy 42 = .ok (.iadd, 1) := by decide +kernel
theorem dM_copy_43 : decode zc_M_copy 43 = .ok (.iaload, 1) := by decide +kernel
theorem dM_copy_44 : decode zc_M_copy 44 = .ok (.iastore, 1) := by decide +kernel
theorem dM_copy_45 : decode zc_M_copy 45 = .ok (.aload_n 0, 1) := by decide +kernel
theorem dM_copy_46 : decode zc_M_copy 46 = .ok (.getfield 26, 3) := by decide +kernel
theorem dM_copy_49 : decode zc_M_copy 49 = .ok (.iload_n 1, 1) := by decide +kernel
theorem dM_copy_50 : decode zc_M_copy 50 = .ok (.iload 4, 2) := by decide +kernel
theorem dM_copy_52 : decode zc_M_copy 52 = .ok (.iadd, 1) := by decide +kernel
theorem dM_copy_53 : decode zc_M_copy 53 = .ok (.aload_n 0, 1) := by decide +kernel
theorem dM_copy_54 : decode zc_M_copy 54 = .ok (.getfield 26, 3) := by decide +kernel
theorem dM_copy_57 : decode zc_M_copy 57 = .ok (.iload_n 2, 1) := by decide +kernel
theorem dM_copy_58 : decode zc_M_copy 58 = .ok (.iload 4, 2) := by decide +kernel
theorem dM_copy_60 : decode zc_M_copy 60 = .ok (.iadd, 1) := by decide +kernel
theorem dM_copy_61 : decode zc_M_copy 61 = .ok (.iaload, 1) := by decide +kernel
theorem dM_copy_62 : decode zc_M_copy 62 = .ok (.iastore, 1) := by decide +kernel
theorem dM_copy_63 : decode zc_M_copy 63 = .ok (.iinc 4 1, 3) := by decide +kernel
theorem dM_copy_66 : decode zc_M_copy 66 = .ok (.goto (-63), 3) := by decide +kernel
theorem dM_copy_69 : decode zc_M_copy 69 = .ok (.return_, 1) := by decide +kernel
theorem dM_wish_0 : decode zc_M_wish 0 = .ok (.aload_n 0, 1) := by decide +kernel
theorem dM_wish_1 : decode zc_M_wish 1 = .ok (.iload_n 1, 1) := by decide +kernel
theorem dM_wish_2 : decode zc_M_wish 2 = .ok (.invokestatic 91, 3) := by decide +kernel
theorem dM_wish_5 : decode zc_M_wish 5 = .ok (.ifCond .ne 7, 3) := by decide +kernel
theorem dM_wish_8 : decode zc_M_wish 8 = .ok (.iconst 1, 1) := by decide +kernel
theorem dM_wish_9 : decode zc_M_wish 9 = .ok (.goto 41, 3) := by decide +kernel
theorem dM_wish_12 : decode zc_M_wish 12 = .ok (.iload_n 2, 1) := by decide +kernel
theorem dM_wish_13 : decode zc_M_wish 13 = .ok (.iconst 1, 1) := by decide +kernel
theorem dM_wish_14 : decode zc_M_wish 14 = .ok (.if_icmp .lt 9, 3) := by decide +kernel
theorem dM_wish_17 : decode zc_M_wish 17 = .ok (.iload_n 2, 1) := by decide +kernel
theorem dM_wish_18 : decode zc_M_wish 18 = .ok (.bipush 100, 2) := by decide +kernel
theorem dM_wish_20 : decode zc_M_wish 20 = .ok (.if_icmp .le 7, 3) := by decide +kernel
theorem dM_wish_23 : decode zc_M_wish 23 = .ok (.iconst 2, 1) := by decide +kernel
theorem dM_wish_24 : decode zc_M_wish 24 = .ok (.goto 26, 3) := by decide +kernel
theorem dM_wish_27 : decode zc_M_wish 27 = .ok (.aload_n 0, 1) := by decide +kernel
theorem dM_wish_28 : decode zc_M_wish 28 = .ok (.getfield 99, 3) := by decide +kernel
theorem dM_wish_31 : decode zc_M_wish 31 = .ok (.ifCond .eq 14, 3) := by decide +kernel
theorem dM_wish_34 : decode zc_M_wish 34 = .ok (.aload_n 0, 1) := by decide +kernel
theorem dM_wish_35 : decode zc_M_wish 35 = .ok (.getfield 48, 3) := by decide +kernel
theorem dM_wish_38 : decode zc_M_wish 38 = .ok (.iload_n 1, 1) := by decide +kernel
theorem dM_wish_39 : decode zc_M_wish 39 = .ok (.iaload, 1) := by decide +kernel
theorem dM_wish_40 : decode zc_M_wish 40 = .ok (.bipush 6, 2) := by decide +kernel
theorem dM_wish_42 : decode zc_M_wish 42 = .ok (.if_icmp .ne 7, 3) := by decide +kernel
theorem dM_wish_45 : decode zc_M_wish 45 = .ok (.iconst 3, 1) := by decide +kernel
theorem dM_wish_46 : decode zc_M_wish 46 = .ok (.goto 4, 3) := by decide +kernel
theorem dM_wish_49 : decode zc_M_wish 49 = .ok (.iconst 0, 1) := by decide +kernel
theorem dM_wish_50 : decode zc_M_wish 50 = .ok (.invokevirtual 95, 3) := by decide +kernel
theorem dM_wish_53 : decode zc_M_wish 53 = .ok (.ifCond .eq 5, 3) := by decide +kernel
theorem dM_wish_56 : decode zc_M_wish 56 = .ok (.iconst 0, 1) := by decide +kernel
theorem dM_wish_57 : decode zc_M_wish 57 = .ok (.ireturn, 1) := by decide +kernel
theorem dM_wish_58 : decode zc_M_wish 58 = .ok (.bipush 6, 2) := by decide +kernel
theorem dM_wish_60 : decode zc_M_wish 60 = .ok (.iload_n 1, 1) := by decide +kernel
theorem dM_wish_61 : decode zc_M_wish 61 = .ok (.imul, 1) := by decide +kernel
theorem dM_wish_62 : decode zc_M_wish 62 = .ok (.aload_n 0, 1) := by decide +kernel
theorem dM_wish_63 : decode zc_M_wish 63 = .ok (.getfield 48, 3) := by decide +kernel
theorem dM_wish_66 : decode zc_M_wish 66 = .ok (.iload_n 1, 1) := by decide +kernel
theorem dM_wish_67 : decode zc_M_wish 67 = .ok (.iaload, 1) := by decide +kernel
theorem dM_wish_68 : decode zc_M_wish 68 = .ok (.iadd, 1) := by decide +kernel
theorem dM_wish_69 : decode zc_M_wish 69 = .ok (.istore_n 3, 1) := by decide +kernel
theorem dM_wish_70 : decode zc_M_wish 70 = .ok (.aload_n 0, 1) := by decide +kernel
theorem dM_wish_71 : decode zc_M_wish 71 = .ok (.sipush 324, 3) := by decide +kernel
theorem dM_wish_74 : decode zc_M_wish 74 = .ok (.iconst 4, 1) := by decide +kernel
theorem dM_wish_75 : decode zc_M_wish 75 = .ok (.iload_n 3, 1) := by decide +kernel
theorem dM_wish_76 : decode zc_M_wish 76 = .ok (.imul, 1) := by decide +kernel
theorem dM_wish_77 : decode zc_M_wish 77 = .ok (.iadd, 1) := by decide +kernel
theorem dM_wish_78 : decode zc_M_wish 78 = .ok (.iconst 0, 1) := by decide +kernel
theorem dM_wish_79 : decode zc_M_wish 79 = .ok (.aload_n 0, 1) := by decide +kernel
theorem dM_wish_80 : decode zc_M_wish 80 = .ok (.getfield 99, 3) := by decide +kernel
theorem dM_wish_83 : decode zc_M_wish 83 = .ok (.invokevirtual 113, 3) := by decide +kernel
theorem dM_wish_86 : decode zc_M_wish 86 = .ok (.aload_n 0, 1) := by decide +kernel
theorem dM_wish_87 : decode zc_M_wish 87 = .ok (.getfield 51, 3) := by decide +kernel
theorem dM_wish_90 : decode zc_M_wish 90 = .ok (.iload_n 3, 1) := by decide +kernel
theorem dM_wish_91 : decode zc_M_wish 91 = .ok (.iload_n 2, 1) := by decide +kernel
theorem dM_wish_92 : decode zc_M_wish 92 = .ok (.iastore, 1) := by decide +kernel
theorem dM_wish_93 : decode zc_M_wish 93 = .ok (.aload_n 0, 1) := by decide +kernel
theorem dM_wish_94 : decode zc_M_wish 94 = .ok (.getfield 54, 3) := by decide +kernel
theorem dM_wish_97 : decode zc_M_wish 97 = .ok (.iload_n 3, 1) := by decide +kernel
theorem dM_wish_98 : decode zc_M_wish 98 = .ok (.aload_n 0, 1) := by decide +kernel
theorem dM_wish_99 : decode zc_M_wish 99 = .ok (.getfield 99, 3) := by decide +kernel
theorem dM_wish_102 : decode zc_M_wish 102 = .ok (.iastore, 1) := by decide +kernel
theorem dM_wish_103 : decode zc_M_wish 103 = .ok (.aload_n 0, 1) := by decide +kernel
theorem dM_wish_104 : decode zc_M_wish 104 = .ok (.getfield 48, 3) := by decide +kernel
theorem dM_wish_107 : decode zc_M_wish 107 = .ok (.iload_n 1, 1) := by decide +kernel
theorem dM_wish_108 : decode zc_M_wish 108 = .ok (.dup2, 1) := by decide +kernel
theorem dM_wish_109 : decode zc_M_wish 109 = .ok (.iaload, 1) := by decide +kernel
theorem dM_wish_110 : decode zc_M_wish 110 = .ok (.iconst 1, 1) := by decide +kernel
theorem dM_wish_111 : decode zc_M_wish 111 = .ok (.iadd, 1) := by decide +kernel
theorem dM_wish_112 : decode zc_M_wish 112 = .ok (.iastore, 1) := by decide +kernel
theorem dM_wish_113 : decode zc_M_wish 113 = .ok (.aload_n 0, 1) := by decide +kernel
theorem dM_wish_114 : decode zc_M_wish 114 = .ok (.iconst 0, 1) := by decide +kernel
theorem dM_wish_115 : decode zc_M_wish 115 = .ok (.putfield 99, 3) := by decide +kernel
theorem dM_wish_118 : decode zc_M_wish 118 = .ok (.aload_n 0, 1) := by decide +kernel
theorem dM_wish_119 : decode zc_M_wish 119 = .ok (.iload_n 1, 1) := by decide +kernel
theorem dM_wish_120 : decode zc_M_wish 120 = .ok (.invokevirtual 125, 3) := by decide +kernel
theorem dM_wish_123 : decode zc_M_wish 123 = .ok (.ireturn, 1) := by decide +kernel
theorem dM_serve_0 : decode zc_M_serve 0 = .ok (.iconst 0, 1) := by decide +kernel
theorem dM_serve_1 : decode zc_M_serve 1 = .ok (.istore_n 2, 1) := by decide +kernel
theorem dM_serve_2 : decode zc_M_serve 2 = .ok (.iconst 0, 1) := by decide +kernel
end
section
theorem dM_serve_3 : decode zc_M_serve 3 = .ok (.istore_n 3, 1) := by decide +kernel
theorem dM_serve_4 : decode zc_M_serve 4 = .ok (.aload_n 0, 1) := by decide +kernel
theorem dM_serve_5 : decode zc_M_serve 5 = .ok (.getfield 48, 3) := by decide +kernel
theorem dM_serve_8 : decode zc_M_serve 8 = .ok (.iload_n 1, 1) := by decide +kernel
theorem dM_serve_9 : decode zc_M_serve 9 = .ok (.iaload, 1) := by decide +kernel
theorem dM_serve_10 : decode zc_M_serve 10 = .ok (.istore 4, 2) := by decide +kernel
theorem dM_serve_12 : decode zc_M_serve 12 = .ok (.iconst 0, 1) := by decide +kernel
theorem dM_serve_13 : decode zc_M_serve 13 = .ok (.istore 5, 2) := by decide +kernel
theorem dM_serve_15 : decode zc_M_serve 15 = .ok (.iload 5, 2) := by decide +kernel
theorem dM_serve_17 : decode zc_M_serve 17 = .ok (.iload 4, 2) := by decide +kernel
theorem dM_serve_19 : decode zc_M_serve 19 = .ok (.if_icmp .ge 149, 3) := by decide +kernel
theorem dM_serve_22 : decode zc_M_serve 22 = .ok (.bipush 6, 2) := by decide +kernel
theorem dM_serve_24 : decode zc_M_serve 24 = .ok (.iload_n 1, 1) := by decide +kernel
theorem dM_serve_25 : decode zc_M_serve 25 = .ok (.imul, 1) := by decide +kernel
theorem dM_serve_26 : decode zc_M_serve 26 = .ok (.iload 5, 2) := by decide +kernel
theorem dM_serve_28 : decode zc_M_serve 28 = .ok (.iadd, 1) := by decide +kernel
theorem dM_serve_29 : decode zc_M_serve 29 = .ok (.istore 6, 2) := by decide +kernel
theorem dM_serve_31 : decode zc_M_serve 31 = .ok (.sipush 324, 3) := by decide +kernel
theorem dM_serve_34 : decode zc_M_serve 34 = .ok (.iconst 4, 1) := by decide +kernel
theorem dM_serve_35 : decode zc_M_serve 35 = .ok (.iload 6, 2) := by decide +kernel
theorem dM_serve_37 : decode zc_M_serve 37 = .ok (.imul, 1) := by decide +kernel
theorem dM_serve_38 : decode zc_M_serve 38 = .ok (.iadd, 1) := by decide +kernel
theorem dM_serve_39 : decode zc_M_serve 39 = .ok (.istore 7, 2) := by decide +kernel
theorem dM_serve_41 : decode zc_M_serve 41 = .ok (.aload_n 0, 1) := by decide +kernel
theorem dM_serve_42 : decode zc_M_serve 42 = .ok (.getfield 110, 3) := by decide +kernel
theorem dM_serve_45 : decode zc_M_serve 45 = .ok (.bipush 80, 2) := by decide +kernel
theorem dM_serve_47 : decode zc_M_serve 47 = .ok (.if_icmp .ge 55, 3) := by decide +kernel
theorem dM_serve_50 : decode zc_M_serve 50 = .ok (.aload_n 0, 1) := by decide +kernel
theorem dM_serve_51 : decode zc_M_serve 51 = .ok (.iload_n 1, 1) := by decide +kernel
theorem dM_serve_52 : decode zc_M_serve 52 = .ok (.iload 7, 2) := by decide +kernel
theorem dM_serve_54 : decode zc_M_serve 54 = .ok (.aload_n 0, 1) := by decide +kernel
theorem dM_serve_55 : decode zc_M_serve 55 = .ok (.getfield 54, 3) := by decide +kernel
theorem dM_serve_58 : decode zc_M_serve 58 = .ok (.iload 6, 2) := by decide +kernel
theorem dM_serve_60 : decode zc_M_serve 60 = .ok (.iaload, 1) := by decide +kernel
theorem dM_serve_61 : decode zc_M_serve 61 = .ok (.aload_n 0, 1) := by decide +kernel
theorem dM_serve_62 : decode zc_M_serve 62 = .ok (.getfield 51, 3) := by decide +kernel
theorem dM_serve_65 : decode zc_M_serve 65 = .ok (.iload 6, 2) := by decide +kernel
theorem dM_serve_67 : decode zc_M_serve 67 = .ok (.iaload, 1) := by decide +kernel
theorem dM_serve_68 : decode zc_M_serve 68 = .ok (.invokevirtual 117, 3) := by decide +kernel
theorem dM_serve_71 : decode zc_M_serve 71 = .ok (.ifCond .eq 31, 3) := by decide +kernel
theorem dM_serve_74 : decode zc_M_serve 74 = .ok (.aload_n 0, 1) := by decide +kernel
theorem dM_serve_75 : decode zc_M_serve 75 = .ok (.iload_n 1, 1) := by decide +kernel
theorem dM_serve_76 : decode zc_M_serve 76 = .ok (.iload 7, 2) := by decide +kernel
theorem dM_serve_78 : decode zc_M_serve 78 = .ok (.aload_n 0, 1) := by decide +kernel
theorem dM_serve_79 : decode zc_M_serve 79 = .ok (.getfield 54, 3) := by decide +kernel
theorem dM_serve_82 : decode zc_M_serve 82 = .ok (.iload 6, 2) := by decide +kernel
theorem dM_serve_84 : decode zc_M_serve 84 = .ok (.iaload, 1) := by decide +kernel
theorem dM_serve_85 : decode zc_M_serve 85 = .ok (.aload_n 0, 1) := by decide +kernel
theorem dM_serve_86 : decode zc_M_serve 86 = .ok (.getfield 51, 3) := by decide +kernel
theorem dM_serve_89 : decode zc_M_serve 89 = .ok (.iload 6, 2) := by decide +kernel
theorem dM_serve_91 : decode zc_M_serve 91 = .ok (.iaload, 1) := by decide +kernel
theorem dM_serve_92 : decode zc_M_serve 92 = .ok (.invokevirtual 121, 3) := by decide +kernel
theorem dM_serve_95 : decode zc_M_serve 95 = .ok (.pop, 1) := by decide +kernel
theorem dM_serve_96 : decode zc_M_serve 96 = .ok (.iinc 2 1, 3) := by decide +kernel
theorem dM_serve_99 : decode zc_M_serve 99 = .ok (.goto 63, 3) := by decide +kernel
theorem dM_serve_102 : decode zc_M_serve 102 = .ok (.bipush 6, 2) := by decide +kernel
theorem dM_serve_104 : decode zc_M_serve 104 = .ok (.iload_n 1, 1) := by decide +kernel
theorem dM_serve_105 : decode zc_M_serve 105 = .ok (.imul, 1) := by decide +kernel
theorem dM_serve_106 : decode zc_M_serve 106 = .ok (.iload_n 3, 1) := by decide +kernel
theorem dM_serve_107 : decode zc_M_serve 107 = .ok (.iadd, 1) := by decide +kernel
theorem dM_serve_108 : decode zc_M_serve 108 = .ok (.istore 8, 2) := by decide +kernel
theorem dM_serve_110 : decode zc_M_serve 110 = .ok (.aload_n 0, 1) := by decide +kernel
theorem dM_serve_111 : decode zc_M_serve 111 = .ok (.sipush 324, 3) := by decide +kernel
theorem dM_serve_114 : decode zc_M_serve 114 = .ok (.iconst 4, 1) := by decide +kernel
theorem dM_serve_115 : decode zc_M_serve 115 = .ok (.iload 8, 2) := by decide +kernel
theorem dM_serve_117 : decode zc_M_serve 117 = .ok (.imul, 1) := by decide +kernel
theorem dM_serve_118 : decode zc_M_serve 118 = .ok (.iadd, 1) := by decide +kernel
theorem dM_serve_119 : decode zc_M_serve 119 = .ok (.iload 7, 2) := by decide +kernel
theorem dM_serve_121 : decode zc_M_serve 121 = .ok (.aload_n 0, 1) := by decide +kernel
theorem dM_serve_122 : decode zc_M_serve 122 = .ok (.getfield 54, 3) := by decide +kernel
theorem dM_serve_125 : decode zc_M_serve 125 = .ok (.iload 6, 2) := by decide +kernel
theorem dM_serve_127 : decode zc_M_serve 127 = .ok (.iaload, 1) := by decide +kernel
theorem dM_serve_128 : decode zc_M_serve 128 = .ok (.invokevirtual 113, 3) := by decide +kernel
theorem dM_serve_131 : decode zc_M_serve 131 = .ok (.aload_n 0, 1) := by decide +kernel
theorem dM_serve_132 : decode zc_M_serve 132 = .ok (.getfield 51, 3) := by decide +kernel
theorem dM_serve_135 : decode zc_M_serve 135 = .ok (.iload 8, 2) := by decide +kernel
theorem dM_serve_137 : decode zc_M_serve 137 = .ok (.aload_n 0, 1) := by decide +kernel
theorem dM_serve_138 : decode zc_M_serve 138 = .ok (.getfield 51, 3) := by decide +kernel
theorem dM_serve_141 : decode zc_M_serve 141 = .ok (.iload 6, 2) := by decide +kernel
theorem dM_serve_143 : decode zc_M_serve 143 = .ok (.iaload, 1) := by decide +kernel
theorem dM_serve_144 : decode zc_M_serve 144 = .ok (.iastore, 1) := by decide +kernel
theorem dM_serve_145 : decode zc_M_serve 145 = .ok (.aload_n 0, 1) := by decide +kernel
theorem dM_serve_146 : decode zc_M_serve 146 = .ok (.getfield 54, 3) := by decide +kernel
theorem dM_serve_149 : decode zc_M_serve 149 = .ok (.iload 8, 2) := by decide +kernel
theorem dM_serve_151 : decode zc_M_serve 151 = .ok (.aload_n 0, 1) := by decide +kernel
theorem dM_serve_152 : decode zc_M_serve 152 = .ok (.getfield 54, 3) := by decide +kernel
theorem dM_serve_155 : decode zc_M_serve 155 = .ok (.iload 6, 2) := by decide +kernel
theorem dM_serve_157 : decode zc_M_serve 157 = .ok (.iaload, 1) := by decide +kernel
theorem dM_serve_158 : decode zc_M_serve 158 = .ok (.iastore, 1) := by decide +kernel
theorem dM_serve_159 : decode zc_M_serve 159 = .ok (.iinc 3 1, 3) := by decide +kernel
theorem dM_serve_162 : decode zc_M_serve 162 = .ok (.iinc 5 1, 3) := by decide +kernel
theorem dM_serve_165 : decode zc_M_serve 165 = .ok (.goto (-150), 3) := by decide +kernel
theorem dM_serve_168 : decode zc_M_serve 168 = .ok (.aload_n 0, 1) := by decide +kernel
theorem dM_serve_169 : decode zc_M_serve 169 = .ok (.getfield 48, 3) := by decide +kernel
theorem dM_serve_172 : decode zc_M_serve 172 = .ok (.iload_n 1, 1) := by decide +kernel
theorem dM_serve_173 : decode zc_M_serve 173 = .ok (.iload_n 3, 1) := by decide +kernel
theorem dM_serve_174 : decode zc_M_serve 174 = .ok (.iastore, 1) := by decide +kernel
theorem dM_serve_175 : decode zc_M_serve 175 = .ok (.iload_n 2, 1) := by decide +kernel
theorem dM_serve_176 : decode zc_M_serve 176 = .ok (.ireturn, 1) := by decide +kernel
theorem dM_cancel_0 : decode zc_M_cancel 0 = .ok (.aload_n 0, 1) := by decide +kernel
theorem dM_cancel_1 : decode zc_M_cancel 1 = .ok (.aload_n 0, 1) := by decide +kernel
theorem dM_cancel_2 : decode zc_M_cancel 2 = .ok (.iload_n 1, 1) := by decide +kernel
theorem dM_cancel_3 : decode zc_M_cancel 3 = .ok (.invokevirtual 129, 3) := by decide +kernel
theorem dM_cancel_6 : decode zc_M_cancel 6 = .ok (.ifCond .ne 7, 3) := by decide +kernel
theorem dM_cancel_9 : decode zc_M_cancel 9 = .ok (.iconst 1, 1) := by decide +kernel
theorem dM_cancel_10 : decode zc_M_cancel 10 = .ok (.goto 17, 3) := by decide +kernel
theorem dM_cancel_13 : decode zc_M_cancel 13 = .ok (.aload_n 0, 1) := by decide +kernel
theorem dM_cancel_14 : decode zc_M_cancel 14 = .ok (.getfield 42, 3) := by decide +kernel
theorem dM_cancel_17 : decode zc_M_cancel 17 = .ok (.iload_n 1, 1) := by decide +kernel
theorem dM_cancel_18 : decode zc_M_cancel 18 = .ok (.baload, 1) := by decide +kernel
theorem dM_cancel_19 : decode zc_M_cancel 19 = .ok (.ifCond .ne 7, 3) := by decide +kernel
theorem dM_cancel_22 : decode zc_M_cancel 22 = .ok (.iconst 2, 1) := by decide +kernel
theorem dM_cancel_23 : decode zc_M_cancel 23 = .ok (.goto 4, 3) := by decide +kernel
theorem dM_cancel_26 : decode zc_M_cancel 26 = .ok (.iconst 0, 1) := by decide +kernel
theorem dM_cancel_27 : decode zc_M_cancel 27 = .ok (.invokevirtual 95, 3) := by decide +kernel
theorem dM_cancel_30 : decode zc_M_cancel 30 = .ok (.ifCond .eq 5, 3) := by decide +kernel
theorem dM_cancel_33 : decode zc_M_cancel 33 = .ok (.iconst 0, 1) := by decide +kernel
theorem dM_cancel_34 : decode zc_M_cancel 34 = .ok (.ireturn, 1) := by decide +kernel
theorem dM_cancel_35 : decode zc_M_cancel 35 = .ok (.aload_n 0, 1) := by decide +kernel
theorem dM_cancel_36 : decode zc_M_cancel 36 = .ok (.getfield 42, 3) := by decide +kernel
theorem dM_cancel_39 : decode zc_M_cancel 39 = .ok (.iload_n 1, 1) := by decide +kernel
theorem dM_cancel_40 : decode zc_M_cancel 40 = .ok (.iconst 0, 1) := by decide +kernel
theorem dM_cancel_41 : decode zc_M_cancel 41 = .ok (.bastore, 1) := by decide +kernel
theorem dM_cancel_42 : decode zc_M_cancel 42 = .ok (.aload_n 0, 1) := by decide +kernel
theorem dM_cancel_43 : decode zc_M_cancel 43 = .ok (.aload_n 0, 1) := by decide +kernel
theorem dM_cancel_44 : decode zc_M_cancel 44 = .ok (.getfield 29, 3) := by decide +kernel
theorem dM_cancel_47 : decode zc_M_cancel 47 = .ok (.iload_n 1, 1) := by decide +kernel
theorem dM_cancel_48 : decode zc_M_cancel 48 = .ok (.iaload, 1) := by decide +kernel
theorem dM_cancel_49 : decode zc_M_cancel 49 = .ok (.iconst 4, 1) := by decide +kernel
theorem dM_cancel_50 : decode zc_M_cancel 50 = .ok (.iconst 4, 1) := by decide +kernel
theorem dM_cancel_51 : decode zc_M_cancel 51 = .ok (.iload_n 1, 1) := by decide +kernel
theorem dM_cancel_52 : decode zc_M_cancel 52 = .ok (.imul, 1) := by decide +kernel
theorem dM_cancel_53 : decode zc_M_cancel 53 = .ok (.iadd, 1) := by decide +kernel
theorem dM_cancel_54 : decode zc_M_cancel 54 = .ok (.aload_n 0, 1) := by decide +kernel
theorem dM_cancel_55 : decode zc_M_cancel 55 = .ok (.getfield 35, 3) := by decide +kernel
theorem dM_cancel_58 : decode zc_M_cancel 58 = .ok (.iload_n 1, 1) := by decide +kernel
theorem dM_cancel_59 : decode zc_M_cancel 59 = .ok (.iaload, 1) := by decide +kernel
theorem dM_cancel_60 : decode zc_M_cancel 60 = .ok (.aload_n 0, 1) := by decide +kernel
theorem dM_cancel_61 : decode zc_M_cancel 61 = .ok (.getfield 32, 3) := by decide +kernel
theorem dM_cancel_64 : decode zc_M_cancel 64 = .ok (.iload_n 1, 1) := by decide +kernel
theorem dM_cancel_65 : decode zc_M_cancel 65 = .ok (.iaload, 1) := by decide +kernel
theorem dM_cancel_66 : decode zc_M_cancel 66 = .ok (.invokevirtual 106, 3) := by decide +kernel
theorem dM_cancel_69 : decode zc_M_cancel 69 = .ok (.aload_n 0, 1) := by decide +kernel
theorem dM_cancel_70 : decode zc_M_cancel 70 = .ok (.getfield 45, 3) := by decide +kernel
theorem dM_cancel_73 : decode zc_M_cancel 73 = .ok (.aload_n 0, 1) := by decide +kernel
theorem dM_cancel_74 : decode zc_M_cancel 74 = .ok (.getfield 29, 3) := by decide +kernel
theorem dM_cancel_77 : decode zc_M_cancel 77 = .ok (.iload_n 1, 1) := by decide +kernel
theorem dM_cancel_78 : decode zc_M_cancel 78 = .ok (.iaload, 1) := by decide +kernel
theorem dM_cancel_79 : decode zc_M_cancel 79 = .ok (.aload_n 0, 1) := by decide +kernel
theorem dM_cancel_80 : decode zc_M_cancel 80 = .ok (.getfield 45, 3) := by decide +kernel
theorem dM_cancel_83 : decode zc_M_cancel 83 = .ok (.aload_n 0, 1) := by decide +kernel
theorem dM_cancel_84 : decode zc_M_cancel 84 = .ok (.getfield 29, 3) := by decide +kernel
theorem dM_cancel_87 : decode zc_M_cancel 87 = .ok (.iload_n 1, 1) := by decide +kernel
theorem dM_cancel_88 : decode zc_M_cancel 88 = .ok (.iaload, 1) := by decide +kernel
theorem dM_cancel_89 : decode zc_M_cancel 89 = .ok (.laload, 1) := by decide +kernel
theorem dM_cancel_90 : decode zc_M_cancel 90 = .ok (.aload_n 0, 1) := by decide +kernel
theorem dM_cancel_91 : decode zc_M_cancel 91 = .ok (.getfield 38, 3) := by decide +kernel
theorem dM_cancel_94 : decode zc_M_cancel 94 = .ok (.iload_n 1, 1) := by decide +kernel
theorem dM_cancel_95 : decode zc_M_cancel 95 = .ok (.laload, 1) := by decide +kernel
theorem dM_cancel_96 : decode zc_M_cancel 96 = .ok (.lsub, 1) := by decide +kernel
theorem dM_cancel_97 : decode zc_M_cancel 97 = .ok (.lastore, 1) := by decide +kernel
theorem dM_cancel_98 : decode zc_M_cancel 98 = .ok (.aload_n 0, 1) := by decide +kernel
theorem dM_cancel_99 : decode zc_M_cancel 99 = .ok (.aload_n 0, 1) := by decide +kernel
theorem dM_cancel_100 : decode zc_M_cancel 100 = .ok (.getfield 29, 3) := by decide +kernel
theorem dM_cancel_103 : decode zc_M_cancel 103 = .ok (.iload_n 1, 1) := by decide +kernel
theorem dM_cancel_104 : decode zc_M_cancel 104 = .ok (.iaload, 1) := by decide +kernel
theorem dM_cancel_105 : decode zc_M_cancel 105 = .ok (.invokevirtual 125, 3) := by decide +kernel
theorem dM_cancel_108 : decode zc_M_cancel 108 = .ok (.ireturn, 1) := by decide +kernel
theorem dM_isTicket_0 : decode zc_M_isTicket 0 = .ok (.iload_n 1, 1) := by decide +kernel
theorem dM_isTicket_1 : decode zc_M_isTicket 1 = .ok (.ifCond .lt 15, 3) := by decide +kernel
theorem dM_isTicket_4 : decode zc_M_isTicket 4 = .ok (.iload_n 1, 1) := by decide +kernel
theorem dM_isTicket_5 : decode zc_M_isTicket 5 = .ok (.aload_n 0, 1) := by decide +kernel
theorem dM_isTicket_6 : decode zc_M_isTicket 6 = .ok (.getfield 110, 3) := by decide +kernel
theorem dM_isTicket_9 : decode zc_M_isTicket 9 = .ok (.if_icmp .ge 7, 3) := by decide +kernel
theorem dM_isTicket_12 : decode zc_M_isTicket 12 = .ok (.iconst 1, 1) := by decide +kernel
theorem dM_isTicket_13 : decode zc_M_isTicket 13 = .ok (.goto 4, 3) := by decide +kernel
theorem dM_isTicket_16 : decode zc_M_isTicket 16 = .ok (.iconst 0, 1) := by decide +kernel
theorem dM_isTicket_17 : decode zc_M_isTicket 17 = .ok (.ireturn, 1) := by decide +kernel
theorem dM_ticket_0 : decode zc_M_ticket 0 = .ok (.aload_n 0, 1) := by decide +kernel
theorem dM_ticket_1 : decode zc_M_ticket 1 = .ok (.aload_n 0, 1) := by decide +kernel
theorem dM_ticket_2 : decode zc_M_ticket 2 = .ok (.iload_n 1, 1) := by decide +kernel
theorem dM_ticket_3 : decode zc_M_ticket 3 = .ok (.invokevirtual 129, 3) := by decide +kernel
theorem dM_ticket_6 : decode zc_M_ticket 6 = .ok (.ifCond .ne 7, 3) := by decide +kernel
theorem dM_ticket_9 : decode zc_M_ticket 9 = .ok (.iconst 1, 1) := by decide +kernel
theorem dM_ticket_10 : decode zc_M_ticket 10 = .ok (.goto 17, 3) := by decide +kernel
theorem dM_ticket_13 : decode zc_M_ticket 13 = .ok (.iload_n 2, 1) := by decide +kernel
theorem dM_ticket_14 : decode zc_M_ticket 14 = .ok (.ifCond .lt 8, 3) := by decide +kernel
theorem dM_ticket_17 : decode zc_M_ticket 17 = .ok (.iload_n 2, 1) := by decide +kernel
theorem dM_ticket_18 : decode zc_M_ticket 18 = .ok (.iconst 3, 1) := by decide +kernel
theorem dM_ticket_19 : decode zc_M_ticket 19 = .ok (.if_icmp .le 7, 3) := by decide +kernel
theorem dM_ticket_22 : decode zc_M_ticket 22 = .ok (.iconst 2, 1) := by decide +kernel
theorem dM_ticket_23 : decode zc_M_ticket 23 = .ok (.goto 4, 3) := by decide +kernel
theorem dM_ticket_26 : decode zc_M_ticket 26 = .ok (.iconst 0, 1) := by decide +kernel
theorem dM_ticket_27 : decode zc_M_ticket 27 = .ok (.invokevirtual 95, 3) := by decide +kernel
theorem dM_ticket_30 : decode zc_M_ticket 30 = .ok (.ifCond .eq 5, 3) := by decide +kernel
theorem dM_ticket_33 : decode zc_M_ticket 33 = .ok (.iconst 0, 1) := by decide +kernel
theorem dM_ticket_34 : decode zc_M_ticket 34 = .ok (.ireturn, 1) := by decide +kernel
theorem dM_ticket_35 : decode zc_M_ticket 35 = .ok (.iload_n 2, 1) := by decide +kernel
theorem dM_ticket_36 : decode zc_M_ticket 36 = .ok (.ifCond .ne 12, 3) := by decide +kernel
theorem dM_ticket_39 : decode zc_M_ticket 39 = .ok (.aload_n 0, 1) := by decide +kernel
theorem dM_ticket_40 : decode zc_M_ticket 40 = .ok (.getfield 29, 3) := by decide +kernel
theorem dM_ticket_43 : decode zc_M_ticket 43 = .ok (.iload_n 1, 1) := by decide +kernel
theorem dM_ticket_44 : decode zc_M_ticket 44 = .ok (.iaload, 1) := by decide +kernel
theorem dM_ticket_45 : decode zc_M_ticket 45 = .ok (.goto 45, 3) := by decide +kernel
theorem dM_ticket_48 : decode zc_M_ticket 48 = .ok (.iload_n 2, 1) := by decide +kernel
theorem dM_ticket_49 : decode zc_M_ticket 49 = .ok (.iconst 1, 1) := by decide +kernel
theorem dM_ticket_50 : decode zc_M_ticket 50 = .ok (.if_icmp .ne 12, 3) := by decide +kernel
theorem dM_ticket_53 : decode zc_M_ticket 53 = .ok (.aload_n 0, 1) := by decide +kernel
theorem dM_ticket_54 : decode zc_M_ticket 54 = .ok (.getfield 32, 3) := by decide +kernel
theorem dM_ticket_57 : decode zc_M_ticket 57 = .ok (.iload_n 1, 1) := by decide +kernel
theorem dM_ticket_58 : decode zc_M_ticket 58 = .ok (.iaload, 1) := by decide +kernel
theorem dM_ticket_59 : decode zc_M_ticket 59 = .ok (.goto 31, 3) := by decide +kernel
theorem dM_ticket_62 : decode zc_M_ticket 62 = .ok (.iload_n 2, 1) := by decide +kernel
theorem dM_ticket_63 : decode zc_M_ticket 63 = .ok (.iconst 2, 1) := by decide +kernel
theorem dM_ticket_64 : decode zc_M_ticket 64 = .ok (.if_icmp .ne 12, 3) := by decide +kernel
theorem dM_ticket_67 : decode zc_M_ticket 67 = .ok (.aload_n 0, 1) := by decide +kernel
theorem dM_ticket_68 : decode zc_M_ticket 68 = .ok (.getfield 35, 3) := by decide +kernel
theorem dM_ticket_71 : decode zc_M_ticket 71 = .ok (.iload_n 1, 1) := by decide +kernel
theorem dM_ticket_72 : decode zc_M_ticket 72 = .ok (.iaload, 1) := by decide +kernel
theorem dM_ticket_73 : decode zc_M_ticket 73 = .ok (.goto 17, 3) := by decide +kernel
theorem dM_ticket_76 : decode zc_M_ticket 76 = .ok (.aload_n 0, 1) := by decide +kernel
theorem dM_ticket_77 : decode zc_M_ticket 77 = .ok (.getfield 42, 3) := by decide +kernel
theorem dM_ticket_80 : decode zc_M_ticket 80 = .ok (.iload_n 1, 1) := by decide +kernel
theorem dM_ticket_81 : decode zc_M_ticket 81 = .ok (.baload, 1) := by decide +kernel
theorem dM_ticket_82 : decode zc_M_ticket 82 = .ok (.ifCond .eq 7, 3) := by decide +kernel
theorem dM_ticket_85 : decode zc_M_ticket 85 = .ok (.iconst 1, 1) := by decide +kernel
theorem dM_ticket_86 : decode zc_M_ticket 86 = .ok (.goto 4, 3) := by decide +kernel
theorem dM_ticket_89 : decode zc_M_ticket 89 = .ok (.iconst 0, 1) := by decide +kernel
theorem dM_ticket_90 : decode zc_M_ticket 90 = .ok (.ireturn, 1) := by decide +kernel
theorem dM_price_0 : decode zc_M_price 0 = .ok (.aload_n 0, 1) := by decide +kernel
theorem dM_price_1 : decode zc_M_price 1 = .ok (.aload_n 0, 1) := by decide +kernel
theorem dM_price_2 : decode zc_M_price 2 = .ok (.iload_n 1, 1) := by decide +kernel
theorem dM_price_3 : decode zc_M_price 3 = .ok (.invokevirtual 129, 3) := by decide +kernel
theorem dM_price_6 : decode zc_M_price 6 = .ok (.ifCond .eq 7, 3) := by decide +kernel
theorem dM_price_9 : decode zc_M_price 9 = .ok (.iconst 0, 1) := by decide +kernel
theorem dM_price_10 : decode zc_M_price 10 = .ok (.goto 4, 3) := by decide +kernel
theorem dM_price_13 : decode zc_M_price 13 = .ok (.iconst 1, 1) := by decide +kernel
theorem dM_price_14 : decode zc_M_price 14 = .ok (.invokevirtual 95, 3) := by decide +kernel
theorem dM_price_17 : decode zc_M_price 17 = .ok (.ifCond .eq 7, 3) := by decide +kernel
theorem dM_price_20 : decode zc_M_price 20 = .ok (.lconst 0, 1) := by decide +kernel
theorem dM_price_21 : decode zc_M_price 21 = .ok (.goto 9, 3) := by decide +kernel
theorem dM_price_24 : decode zc_M_price 24 = .ok (.aload_n 0, 1) := by decide +kernel
theorem dM_price_25 : decode zc_M_price 25 = .ok (.getfield 38, 3) := by decide +kernel
theorem dM_price_28 : decode zc_M_price 28 = .ok (.iload_n 1, 1) := by decide +kernel
theorem dM_price_29 : decode zc_M_price 29 = .ok (.laload, 1) := by decide +kernel
theorem dM_price_30 : decode zc_M_price 30 = .ok (.lreturn, 1) := by decide +kernel
theorem dM_hand_0 : decode zc_M_hand 0 = .ok (.iload_n 1, 1) := by decide +kernel
theorem dM_hand_1 : decode zc_M_hand 1 = .ok (.invokestatic 91, 3) := by decide +kernel
theorem dM_hand_4 : decode zc_M_hand 4 = .ok (.ifCond .eq 29, 3) := by decide +kernel
theorem dM_hand_7 : decode zc_M_hand 7 = .ok (.iload_n 2, 1) := by decide +kernel
theorem dM_hand_8 : decode zc_M_hand 8 = .ok (.invokestatic 91, 3) := by decide +kernel
theorem dM_hand_11 : decode zc_M_hand 11 = .ok (.ifCond .eq 22, 3) := by decide +kernel
theorem dM_hand_14 : decode zc_M_hand 14 = .ok (.iload_n 3, 1) := by decide +kernel
theorem dM_hand_15 : decode zc_M_hand 15 = .ok (.invokestatic 91, 3) := by decide +kernel
theorem dM_hand_18 : decode zc_M_hand 18 = .ok (.ifCond .eq 15, 3) := by decide +kernel
theorem dM_hand_21 : decode zc_M_hand 21 = .ok (.iload 4, 2) := by decide +kernel
theorem dM_hand_23 : decode zc_M_hand 23 = .ok (.invokestatic 91, 3) := by decide +kernel
theorem dM_hand_26 : decode zc_M_hand 26 = .ok (.ifCond .eq 7, 3) := by decide +kernel
theorem dM_hand_29 : decode zc_M_hand 29 = .ok (.iconst 1, 1) := by decide +kernel
theorem dM_hand_30 : decode zc_M_hand 30 = .ok (.goto 4, 3) := by decide +kernel
theorem dM_hand_33 : decode zc_M_hand 33 = .ok (.iconst 0, 1) := by decide +kernel
theorem dM_hand_34 : decode zc_M_hand 34 = .ok (.istore 6, 2) := by decide +kernel
theorem dM_hand_36 : decode zc_M_hand 36 = .ok (.aload_n 0, 1) := by decide +kernel
theorem dM_hand_37 : decode zc_M_hand 37 = .ok (.iload 6, 2) := by decide +kernel
theorem dM_hand_39 : decode zc_M_hand 39 = .ok (.ifCond .ne 7, 3) := by decide +kernel
theorem dM_hand_42 : decode zc_M_hand 42 = .ok (.iconst 1, 1) := by decide +kernel
theorem dM_hand_43 : decode zc_M_hand 43 = .ok (.goto 45, 3) := by decide +kernel
theorem dM_hand_46 : decode zc_M_hand 46 = .ok (.iload_n 1, 1) := by decide +kernel
theorem dM_hand_47 : decode zc_M_hand 47 = .ok (.iload_n 2, 1) := by decide +kernel
theorem dM_hand_48 : decode zc_M_hand 48 = .ok (.if_icmp .eq 16, 3) := by decide +kernel
theorem dM_hand_51 : decode zc_M_hand 51 = .ok (.iload 5, 2) := by decide +kernel
theorem dM_hand_53 : decode zc_M_hand 53 = .ok (.iconst 1, 1) := by decide +kernel
theorem dM_hand_54 : decode zc_M_hand 54 = .ok (.if_icmp .lt 10, 3) := by decide +kernel
theorem dM_hand_57 : decode zc_M_hand 57 = .ok (.iload 5, 2) := by decide +kernel
theorem dM_hand_59 : decode zc_M_hand 59 = .ok (.bipush 100, 2) := by decide +kernel
theorem dM_hand_61 : decode zc_M_hand 61 = .ok (.if_icmp .le 7, 3) := by decide +kernel
theorem dM_hand_64 : decode zc_M_hand 64 = .ok (.iconst 2, 1) := by decide +kernel
theorem dM_hand_65 : decode zc_M_hand 65 = .ok (.goto 23, 3) := by decide +kernel
theorem dM_hand_68 : decode zc_M_hand 68 = .ok (.aload_n 0, 1) := by decide +kernel
theorem dM_hand_69 : decode zc_M_hand 69 = .ok (.getfield 60, 3) := by decide +kernel
theorem dM_hand_72 : decode zc_M_hand 72 = .ok (.iconst 4, 1) := by decide +kernel
theorem dM_hand_73 : decode zc_M_hand 73 = .ok (.iload_n 1, 1) := by decide +kernel
theorem dM_hand_74 : decode zc_M_hand 74 = .ok (.imul, 1) := by decide +kernel
theorem dM_hand_75 : decode zc_M_hand 75 = .ok (.iload_n 2, 1) := by decide +kernel
theorem dM_hand_76 : decode zc_M_hand 76 = .ok (.iadd, 1) := by decide +kernel
theorem dM_hand_77 : decode zc_M_hand 77 = .ok (.iaload, 1) := by decide +kernel
theorem dM_hand_78 : decode zc_M_hand 78 = .ok (.bipush 8, 2) := by decide +kernel
theorem dM_hand_80 : decode zc_M_hand 80 = .ok (.if_icmp .ne 7, 3) := by decide +kernel
theorem dM_hand_83 : decode zc_M_hand 83 = .ok (.iconst 3, 1) := by decide +kernel
theorem dM_hand_84 : decode zc_M_hand 84 = .ok (.goto 4, 3) := by decide +kernel
theorem dM_hand_87 : decode zc_M_hand 87 = .ok (.iconst 0, 1) := by decide +kernel
theorem dM_hand_88 : decode zc_M_hand 88 = .ok (.invokevirtual 95, 3) := by decide +kernel
theorem dM_hand_91 : decode zc_M_hand 91 = .ok (.ifCond .eq 5, 3) := by decide +kernel
theorem dM_hand_94 : decode zc_M_hand 94 = .ok (.iconst 0, 1) := by decide +kernel
theorem dM_hand_95 : decode zc_M_hand 95 = .ok (.ireturn, 1) := by decide +kernel
theorem dM_hand_96 : decode zc_M_hand 96 = .ok (.aload_n 0, 1) := by decide +kernel
theorem dM_hand_97 : decode zc_M_hand 97 = .ok (.getfield 17, 3) := by decide +kernel
theorem dM_hand_100 : decode zc_M_hand 100 = .ok (.bipush 16, 2) := by decide +kernel
theorem dM_hand_102 : decode zc_M_hand 102 = .ok (.iload_n 1, 1) := by decide +kernel
theorem dM_hand_103 : decode zc_M_hand 103 = .ok (.imul, 1) := by decide +kernel
theorem dM_hand_104 : decode zc_M_hand 104 = .ok (.iconst 4, 1) := by decide +kernel
theorem dM_hand_105 : decode zc_M_hand 105 = .ok (.iload_n 3, 1) := by decide +kernel
theorem dM_hand_106 : decode zc_M_hand 106 = .ok (.imul, 1) := by decide +kernel
theorem dM_hand_107 : decode zc_M_hand 107 = .ok (.iadd, 1) := by decide +kernel
theorem dM_hand_108 : decode zc_M_hand 108 = .ok (.iload 4, 2) := by decide +kernel
theorem dM_hand_110 : decode zc_M_hand 110 = .ok (.iadd, 1) := by decide +kernel
theorem dM_hand_111 : decode zc_M_hand 111 = .ok (.iaload, 1) := by decide +kernel
theorem dM_hand_112 : decode zc_M_hand 112 = .ok (.iload 5, 2) := by decide +kernel
theorem dM_hand_114 : decode zc_M_hand 114 = .ok (.if_icmp .ge 7, 3) := by decide +kernel
theorem dM_hand_117 : decode zc_M_hand 117 = .ok (.iconst (-1), 1) := by decide +kernel
theorem dM_hand_118 : decode zc_M_hand 118 = .ok (.goto 17, 3) := by decide +kernel
theorem dM_hand_121 : decode zc_M_hand 121 = .ok (.aload_n 0, 1) := by decide +kernel
theorem dM_hand_122 : decode zc_M_hand 122 = .ok (.iload_n 1, 1) := by decide +kernel
theorem dM_hand_123 : decode zc_M_hand 123 = .ok (.iload_n 2, 1) := by decide +kernel
theorem dM_hand_124 : decode zc_M_hand 124 = .ok (.iconst 4, 1) := by decide +kernel
theorem dM_hand_125 : decode zc_M_hand 125 = .ok (.iload_n 3, 1) := by decide +kernel
theorem dM_hand_126 : decode zc_M_hand 126 = .ok (.imul, 1) := by decide +kernel
theorem dM_hand_127 : decode zc_M_hand 127 = .ok (.iload 4, 2) := by decide +kernel
theorem dM_hand_129 : decode zc_M_hand 129 = .ok (.iadd, 1) := by decide +kernel
theorem dM_hand_130 : decode zc_M_hand 130 = .ok (.iload 5, 2) := by decide +kernel
theorem dM_hand_132 : decode zc_M_hand 132 = .ok (.invokevirtual 132, 3) := by decide +kernel
theorem dM_hand_135 : decode zc_M_hand 135 = .ok (.ireturn, 1) := by decide +kernel
theorem dM_enclose_0 : decode zc_M_enclose 0 = .ok (.iconst 4, 1) := by decide +kernel
theorem dM_enclose_1 : decode zc_M_enclose 1 = .ok (.iload_n 1, 1) := by decide +kernel
theorem dM_enclose_2 : decode zc_M_enclose 2 = .ok (.imul, 1) := by decide +kernel
theorem dM_enclose_3 : decode zc_M_enclose 3 = .ok (.iload_n 2, 1) := by decide +kernel
theorem dM_enclose_4 : decode zc_M_enclose 4 = .ok (.iadd, 1) := by decide +kernel
theorem dM_enclose_5 : decode zc_M_enclose 5 = .ok (.istore 5, 2) := by decide +kernel
theorem dM_enclose_7 : decode zc_M_enclose 7 = .ok (.aload_n 0, 1) := by decide +kernel
theorem dM_enclose_8 : decode zc_M_enclose 8 = .ok (.getfield 57, 3) := by decide +kernel
end
section
theorem dM_enclose_11 : decode zc_M_enclose 11 = .ok (.iload 5, 2) := by decide +kernel
theorem dM_enclose_13 : decode zc_M_enclose 13 = .ok (.dup2, 1) := by decide +kernel
theorem dM_enclose_14 : decode zc_M_enclose 14 = .ok (.iaload, 1) := by decide +kernel
theorem dM_enclose_15 : decode zc_M_enclose 15 = .ok (.iconst 1, 1) := by decide +kernel
theorem dM_enclose_16 : decode zc_M_enclose 16 = .ok (.iadd, 1) := by decide +kernel
theorem dM_enclose_17 : decode zc_M_enclose 17 = .ok (.iastore, 1) := by decide +kernel
theorem dM_enclose_18 : decode zc_M_enclose 18 = .ok (.bipush 8, 2) := by decide +kernel
theorem dM_enclose_20 : decode zc_M_enclose 20 = .ok (.iload 5, 2) := by decide +kernel
theorem dM_enclose_22 : decode zc_M_enclose 22 = .ok (.imul, 1) := by decide +kernel
theorem dM_enclose_23 : decode zc_M_enclose 23 = .ok (.aload_n 0, 1) := by decide +kernel
theorem dM_enclose_24 : decode zc_M_enclose 24 = .ok (.getfield 60, 3) := by decide +kernel
theorem dM_enclose_27 : decode zc_M_enclose 27 = .ok (.iload 5, 2) := by decide +kernel
theorem dM_enclose_29 : decode zc_M_enclose 29 = .ok (.iaload, 1) := by decide +kernel
theorem dM_enclose_30 : decode zc_M_enclose 30 = .ok (.iadd, 1) := by decide +kernel
theorem dM_enclose_31 : decode zc_M_enclose 31 = .ok (.istore 6, 2) := by decide +kernel
theorem dM_enclose_33 : decode zc_M_enclose 33 = .ok (.aload_n 0, 1) := by decide +kernel
theorem dM_enclose_34 : decode zc_M_enclose 34 = .ok (.getfield 72, 3) := by decide +kernel
theorem dM_enclose_37 : decode zc_M_enclose 37 = .ok (.iload 6, 2) := by decide +kernel
theorem dM_enclose_39 : decode zc_M_enclose 39 = .ok (.aload_n 0, 1) := by decide +kernel
theorem dM_enclose_40 : decode zc_M_enclose 40 = .ok (.getfield 57, 3) := by decide +kernel
theorem dM_enclose_43 : decode zc_M_enclose 43 = .ok (.iload 5, 2) := by decide +kernel
theorem dM_enclose_45 : decode zc_M_enclose 45 = .ok (.iaload, 1) := by decide +kernel
theorem dM_enclose_46 : decode zc_M_enclose 46 = .ok (.iastore, 1) := by decide +kernel
theorem dM_enclose_47 : decode zc_M_enclose 47 = .ok (.aload_n 0, 1) := by decide +kernel
theorem dM_enclose_48 : decode zc_M_enclose 48 = .ok (.getfield 75, 3) := by decide +kernel
theorem dM_enclose_51 : decode zc_M_enclose 51 = .ok (.iload 6, 2) := by decide +kernel
theorem dM_enclose_53 : decode zc_M_enclose 53 = .ok (.iload_n 3, 1) := by decide +kernel
theorem dM_enclose_54 : decode zc_M_enclose 54 = .ok (.iastore, 1) := by decide +kernel
theorem dM_enclose_55 : decode zc_M_enclose 55 = .ok (.aload_n 0, 1) := by decide +kernel
theorem dM_enclose_56 : decode zc_M_enclose 56 = .ok (.getfield 78, 3) := by decide +kernel
theorem dM_enclose_59 : decode zc_M_enclose 59 = .ok (.iload 6, 2) := by decide +kernel
theorem dM_enclose_61 : decode zc_M_enclose 61 = .ok (.iload 4, 2) := by decide +kernel
theorem dM_enclose_63 : decode zc_M_enclose 63 = .ok (.iastore, 1) := by decide +kernel
theorem dM_enclose_64 : decode zc_M_enclose 64 = .ok (.aload_n 0, 1) := by decide +kernel
theorem dM_enclose_65 : decode zc_M_enclose 65 = .ok (.getfield 60, 3) := by decide +kernel
theorem dM_enclose_68 : decode zc_M_enclose 68 = .ok (.iload 5, 2) := by decide +kernel
theorem dM_enclose_70 : decode zc_M_enclose 70 = .ok (.dup2, 1) := by decide +kernel
theorem dM_enclose_71 : decode zc_M_enclose 71 = .ok (.iaload, 1) := by decide +kernel
theorem dM_enclose_72 : decode zc_M_enclose 72 = .ok (.iconst 1, 1) := by decide +kernel
theorem dM_enclose_73 : decode zc_M_enclose 73 = .ok (.iadd, 1) := by decide +kernel
theorem dM_enclose_74 : decode zc_M_enclose 74 = .ok (.iastore, 1) := by decide +kernel
theorem dM_enclose_75 : decode zc_M_enclose 75 = .ok (.aload_n 0, 1) := by decide +kernel
theorem dM_enclose_76 : decode zc_M_enclose 76 = .ok (.getfield 17, 3) := by decide +kernel
theorem dM_enclose_79 : decode zc_M_enclose 79 = .ok (.bipush 16, 2) := by decide +kernel
theorem dM_enclose_81 : decode zc_M_enclose 81 = .ok (.iload_n 1, 1) := by decide +kernel
theorem dM_enclose_82 : decode zc_M_enclose 82 = .ok (.imul, 1) := by decide +kernel
theorem dM_enclose_83 : decode zc_M_enclose 83 = .ok (.iload_n 3, 1) := by decide +kernel
theorem dM_enclose_84 : decode zc_M_enclose 84 = .ok (.iadd, 1) := by decide +kernel
theorem dM_enclose_85 : decode zc_M_enclose 85 = .ok (.aload_n 0, 1) := by decide +kernel
theorem dM_enclose_86 : decode zc_M_enclose 86 = .ok (.getfield 17, 3) := by decide +kernel
theorem dM_enclose_89 : decode zc_M_enclose 89 = .ok (.bipush 16, 2) := by decide +kernel
theorem dM_enclose_91 : decode zc_M_enclose 91 = .ok (.iload_n 1, 1) := by decide +kernel
theorem dM_enclose_92 : decode zc_M_enclose 92 = .ok (.imul, 1) := by decide +kernel
theorem dM_enclose_93 : decode zc_M_enclose 93 = .ok (.iload_n 3, 1) := by decide +kernel
theorem dM_enclose_94 : decode zc_M_enclose 94 = .ok (.iadd, 1) := by decide +kernel
theorem dM_enclose_95 : decode zc_M_enclose 95 = .ok (.iaload, 1) := by decide +kernel
theorem dM_enclose_96 : decode zc_M_enclose 96 = .ok (.iload 4, 2) := by decide +kernel
theorem dM_enclose_98 : decode zc_M_enclose 98 = .ok (.isub, 1) := by decide +kernel
theorem dM_enclose_99 : decode zc_M_enclose 99 = .ok (.iastore, 1) := by decide +kernel
theorem dM_enclose_100 : decode zc_M_enclose 100 = .ok (.aload_n 0, 1) := by decide +kernel
theorem dM_enclose_101 : decode zc_M_enclose 101 = .ok (.getfield 57, 3) := by decide +kernel
theorem dM_enclose_104 : decode zc_M_enclose 104 = .ok (.iload 5, 2) := by decide +kernel
theorem dM_enclose_106 : decode zc_M_enclose 106 = .ok (.iaload, 1) := by decide +kernel
theorem dM_enclose_107 : decode zc_M_enclose 107 = .ok (.ireturn, 1) := by decide +kernel
theorem dM_share_0 : decode zc_M_share 0 = .ok (.aload_n 0, 1) := by decide +kernel
theorem dM_share_1 : decode zc_M_share 1 = .ok (.iload_n 3, 1) := by decide +kernel
theorem dM_share_2 : decode zc_M_share 2 = .ok (.invokestatic 91, 3) := by decide +kernel
theorem dM_share_5 : decode zc_M_share 5 = .ok (.ifCond .ne 7, 3) := by decide +kernel
theorem dM_share_8 : decode zc_M_share 8 = .ok (.iconst 1, 1) := by decide +kernel
theorem dM_share_9 : decode zc_M_share 9 = .ok (.goto 8, 3) := by decide +kernel
theorem dM_share_12 : decode zc_M_share 12 = .ok (.iload_n 1, 1) := by decide +kernel
theorem dM_share_13 : decode zc_M_share 13 = .ok (.iload_n 2, 1) := by decide +kernel
theorem dM_share_14 : decode zc_M_share 14 = .ok (.invokestatic 135, 3) := by decide +kernel
theorem dM_share_17 : decode zc_M_share 17 = .ok (.invokevirtual 95, 3) := by decide +kernel
theorem dM_share_20 : decode zc_M_share 20 = .ok (.ifCond .eq 5, 3) := by decide +kernel
theorem dM_share_23 : decode zc_M_share 23 = .ok (.iconst 0, 1) := by decide +kernel
theorem dM_share_24 : decode zc_M_share 24 = .ok (.ireturn, 1) := by decide +kernel
theorem dM_share_25 : decode zc_M_share 25 = .ok (.iconst 0, 1) := by decide +kernel
theorem dM_share_26 : decode zc_M_share 26 = .ok (.istore 4, 2) := by decide +kernel
theorem dM_share_28 : decode zc_M_share 28 = .ok (.iconst 4, 1) := by decide +kernel
theorem dM_share_29 : decode zc_M_share 29 = .ok (.iload_n 3, 1) := by decide +kernel
theorem dM_share_30 : decode zc_M_share 30 = .ok (.imul, 1) := by decide +kernel
theorem dM_share_31 : decode zc_M_share 31 = .ok (.istore 5, 2) := by decide +kernel
theorem dM_share_33 : decode zc_M_share 33 = .ok (.iload 5, 2) := by decide +kernel
theorem dM_share_35 : decode zc_M_share 35 = .ok (.iconst 4, 1) := by decide +kernel
theorem dM_share_36 : decode zc_M_share 36 = .ok (.iload_n 3, 1) := by decide +kernel
theorem dM_share_37 : decode zc_M_share 37 = .ok (.imul, 1) := by decide +kernel
theorem dM_share_38 : decode zc_M_share 38 = .ok (.iconst 4, 1) := by decide +kernel
theorem dM_share_39 : decode zc_M_share 39 = .ok (.iadd, 1) := by decide +kernel
theorem dM_share_40 : decode zc_M_share 40 = .ok (.if_icmp .ge 72, 3) := by decide +kernel
theorem dM_share_43 : decode zc_M_share 43 = .ok (.aload_n 0, 1) := by decide +kernel
theorem dM_share_44 : decode zc_M_share 44 = .ok (.getfield 17, 3) := by decide +kernel
theorem dM_share_47 : decode zc_M_share 47 = .ok (.bipush 16, 2) := by decide +kernel
theorem dM_share_49 : decode zc_M_share 49 = .ok (.iload_n 1, 1) := by decide +kernel
theorem dM_share_50 : decode zc_M_share 50 = .ok (.imul, 1) := by decide +kernel
theorem dM_share_51 : decode zc_M_share 51 = .ok (.iload 5, 2) := by decide +kernel
theorem dM_share_53 : decode zc_M_share 53 = .ok (.iadd, 1) := by decide +kernel
theorem dM_share_54 : decode zc_M_share 54 = .ok (.iaload, 1) := by decide +kernel
theorem dM_share_55 : decode zc_M_share 55 = .ok (.aload_n 0, 1) := by decide +kernel
theorem dM_share_56 : decode zc_M_share 56 = .ok (.getfield 17, 3) := by decide +kernel
theorem dM_share_59 : decode zc_M_share 59 = .ok (.bipush 16, 2) := by decide +kernel
theorem dM_share_61 : decode zc_M_share 61 = .ok (.iload_n 2, 1) := by decide +kernel
theorem dM_share_62 : decode zc_M_share 62 = .ok (.imul, 1) := by decide +kernel
theorem dM_share_63 : decode zc_M_share 63 = .ok (.iload 5, 2) := by decide +kernel
theorem dM_share_65 : decode zc_M_share 65 = .ok (.iadd, 1) := by decide +kernel
theorem dM_share_66 : decode zc_M_share 66 = .ok (.iaload, 1) := by decide +kernel
theorem dM_share_67 : decode zc_M_share 67 = .ok (.isub, 1) := by decide +kernel
theorem dM_share_68 : decode zc_M_share 68 = .ok (.iconst 2, 1) := by decide +kernel
theorem dM_share_69 : decode zc_M_share 69 = .ok (.idiv, 1) := by decide +kernel
theorem dM_share_70 : decode zc_M_share 70 = .ok (.istore 6, 2) := by decide +kernel
theorem dM_share_72 : decode zc_M_share 72 = .ok (.iload 6, 2) := by decide +kernel
theorem dM_share_74 : decode zc_M_share 74 = .ok (.ifCond .le 32, 3) := by decide +kernel
theorem dM_share_77 : decode zc_M_share 77 = .ok (.aload_n 0, 1) := by decide +kernel
theorem dM_share_78 : decode zc_M_share 78 = .ok (.getfield 60, 3) := by decide +kernel
theorem dM_share_81 : decode zc_M_share 81 = .ok (.iconst 4, 1) := by decide +kernel
theorem dM_share_82 : decode zc_M_share 82 = .ok (.iload_n 1, 1) := by decide +kernel
theorem dM_share_83 : decode zc_M_share 83 = .ok (.imul, 1) := by decide +kernel
theorem dM_share_84 : decode zc_M_share 84 = .ok (.iload_n 2, 1) := by decide +kernel
theorem dM_share_85 : decode zc_M_share 85 = .ok (.iadd, 1) := by decide +kernel
theorem dM_share_86 : decode zc_M_share 86 = .ok (.iaload, 1) := by decide +kernel
theorem dM_share_87 : decode zc_M_share 87 = .ok (.bipush 8, 2) := by decide +kernel
theorem dM_share_89 : decode zc_M_share 89 = .ok (.if_icmp .ge 17, 3) := by decide +kernel
theorem dM_share_92 : decode zc_M_share 92 = .ok (.aload_n 0, 1) := by decide +kernel
theorem dM_share_93 : decode zc_M_share 93 = .ok (.iload_n 1, 1) := by decide +kernel
theorem dM_share_94 : decode zc_M_share 94 = .ok (.iload_n 2, 1) := by decide +kernel
theorem dM_share_95 : decode zc_M_share 95 = .ok (.iload 5, 2) := by decide +kernel
theorem dM_share_97 : decode zc_M_share 97 = .ok (.iload 6, 2) := by decide +kernel
theorem dM_share_99 : decode zc_M_share 99 = .ok (.invokevirtual 132, 3) := by decide +kernel
theorem dM_share_102 : decode zc_M_share 102 = .ok (.pop, 1) := by decide +kernel
theorem dM_share_103 : decode zc_M_share 103 = .ok (.iinc 4 1, 3) := by decide +kernel
theorem dM_share_106 : decode zc_M_share 106 = .ok (.iinc 5 1, 3) := by decide +kernel
theorem dM_share_109 : decode zc_M_share 109 = .ok (.goto (-76), 3) := by decide +kernel
theorem dM_share_112 : decode zc_M_share 112 = .ok (.iload 4, 2) := by decide +kernel
theorem dM_share_114 : decode zc_M_share 114 = .ok (.ireturn, 1) := by decide +kernel
theorem dM_wrong_0 : decode zc_M_wrong 0 = .ok (.iload_n 0, 1) := by decide +kernel
theorem dM_wrong_1 : decode zc_M_wrong 1 = .ok (.invokestatic 91, 3) := by decide +kernel
theorem dM_wrong_4 : decode zc_M_wrong 4 = .ok (.ifCond .eq 10, 3) := by decide +kernel
theorem dM_wrong_7 : decode zc_M_wrong 7 = .ok (.iload_n 1, 1) := by decide +kernel
theorem dM_wrong_8 : decode zc_M_wrong 8 = .ok (.invokestatic 91, 3) := by decide +kernel
theorem dM_wrong_11 : decode zc_M_wrong 11 = .ok (.ifCond .ne 7, 3) := by decide +kernel
theorem dM_wrong_14 : decode zc_M_wrong 14 = .ok (.iconst 1, 1) := by decide +kernel
theorem dM_wrong_15 : decode zc_M_wrong 15 = .ok (.goto 13, 3) := by decide +kernel
theorem dM_wrong_18 : decode zc_M_wrong 18 = .ok (.iload_n 0, 1) := by decide +kernel
theorem dM_wrong_19 : decode zc_M_wrong 19 = .ok (.iload_n 1, 1) := by decide +kernel
theorem dM_wrong_20 : decode zc_M_wrong 20 = .ok (.if_icmp .ne 7, 3) := by decide +kernel
theorem dM_wrong_23 : decode zc_M_wrong 23 = .ok (.iconst 2, 1) := by decide +kernel
theorem dM_wrong_24 : decode zc_M_wrong 24 = .ok (.goto 4, 3) := by decide +kernel
theorem dM_wrong_27 : decode zc_M_wrong 27 = .ok (.iconst 0, 1) := by decide +kernel
theorem dM_wrong_28 : decode zc_M_wrong 28 = .ok (.ireturn, 1) := by decide +kernel
theorem dM_send_0 : decode zc_M_send 0 = .ok (.aload_n 0, 1) := by decide +kernel
theorem dM_send_1 : decode zc_M_send 1 = .ok (.iload_n 1, 1) := by decide +kernel
theorem dM_send_2 : decode zc_M_send 2 = .ok (.iload_n 2, 1) := by decide +kernel
theorem dM_send_3 : decode zc_M_send 3 = .ok (.invokestatic 135, 3) := by decide +kernel
theorem dM_send_6 : decode zc_M_send 6 = .ok (.invokevirtual 95, 3) := by decide +kernel
theorem dM_send_9 : decode zc_M_send 9 = .ok (.ifCond .eq 5, 3) := by decide +kernel
theorem dM_send_12 : decode zc_M_send 12 = .ok (.iconst 0, 1) := by decide +kernel
theorem dM_send_13 : decode zc_M_send 13 = .ok (.ireturn, 1) := by decide +kernel
theorem dM_send_14 : decode zc_M_send 14 = .ok (.iconst 4, 1) := by decide +kernel
theorem dM_send_15 : decode zc_M_send 15 = .ok (.iload_n 1, 1) := by decide +kernel
theorem dM_send_16 : decode zc_M_send 16 = .ok (.imul, 1) := by decide +kernel
theorem dM_send_17 : decode zc_M_send 17 = .ok (.iload_n 2, 1) := by decide +kernel
theorem dM_send_18 : decode zc_M_send 18 = .ok (.iadd, 1) := by decide +kernel
theorem dM_send_19 : decode zc_M_send 19 = .ok (.istore_n 3, 1) := by decide +kernel
theorem dM_send_20 : decode zc_M_send 20 = .ok (.aload_n 0, 1) := by decide +kernel
theorem dM_send_21 : decode zc_M_send 21 = .ok (.getfield 60, 3) := by decide +kernel
theorem dM_send_24 : decode zc_M_send 24 = .ok (.iload_n 3, 1) := by decide +kernel
theorem dM_send_25 : decode zc_M_send 25 = .ok (.iaload, 1) := by decide +kernel
theorem dM_send_26 : decode zc_M_send 26 = .ok (.ifCond .ne 5, 3) := by decide +kernel
theorem dM_send_29 : decode zc_M_send 29 = .ok (.iconst 0, 1) := by decide +kernel
theorem dM_send_30 : decode zc_M_send 30 = .ok (.ireturn, 1) := by decide +kernel
theorem dM_send_31 : decode zc_M_send 31 = .ok (.aload_n 0, 1) := by decide +kernel
theorem dM_send_32 : decode zc_M_send 32 = .ok (.getfield 63, 3) := by decide +kernel
theorem dM_send_35 : decode zc_M_send 35 = .ok (.iload_n 3, 1) := by decide +kernel
theorem dM_send_36 : decode zc_M_send 36 = .ok (.aload_n 0, 1) := by decide +kernel
theorem dM_send_37 : decode zc_M_send 37 = .ok (.getfield 72, 3) := by decide +kernel
theorem dM_send_40 : decode zc_M_send 40 = .ok (.bipush 8, 2) := by decide +kernel
theorem dM_send_42 : decode zc_M_send 42 = .ok (.iload_n 3, 1) := by decide +kernel
theorem dM_send_43 : decode zc_M_send 43 = .ok (.imul, 1) := by decide +kernel
theorem dM_send_44 : decode zc_M_send 44 = .ok (.iaload, 1) := by decide +kernel
theorem dM_send_45 : decode zc_M_send 45 = .ok (.iastore, 1) := by decide +kernel
theorem dM_send_46 : decode zc_M_send 46 = .ok (.aload_n 0, 1) := by decide +kernel
theorem dM_send_47 : decode zc_M_send 47 = .ok (.getfield 81, 3) := by decide +kernel
theorem dM_send_50 : decode zc_M_send 50 = .ok (.iload_n 3, 1) := by decide +kernel
theorem dM_send_51 : decode zc_M_send 51 = .ok (.aload_n 0, 1) := by decide +kernel
theorem dM_send_52 : decode zc_M_send 52 = .ok (.getfield 75, 3) := by decide +kernel
theorem dM_send_55 : decode zc_M_send 55 = .ok (.bipush 8, 2) := by decide +kernel
theorem dM_send_57 : decode zc_M_send 57 = .ok (.iload_n 3, 1) := by decide +kernel
theorem dM_send_58 : decode zc_M_send 58 = .ok (.imul, 1) := by decide +kernel
theorem dM_send_59 : decode zc_M_send 59 = .ok (.iaload, 1) := by decide +kernel
theorem dM_send_60 : decode zc_M_send 60 = .ok (.iastore, 1) := by decide +kernel
theorem dM_send_61 : decode zc_M_send 61 = .ok (.aload_n 0, 1) := by decide +kernel
theorem dM_send_62 : decode zc_M_send 62 = .ok (.getfield 84, 3) := by decide +kernel
theorem dM_send_65 : decode zc_M_send 65 = .ok (.iload_n 3, 1) := by decide +kernel
theorem dM_send_66 : decode zc_M_send 66 = .ok (.aload_n 0, 1) := by decide +kernel
theorem dM_send_67 : decode zc_M_send 67 = .ok (.getfield 78, 3) := by decide +kernel
theorem dM_send_70 : decode zc_M_send 70 = .ok (.bipush 8, 2) := by decide +kernel
theorem dM_send_72 : decode zc_M_send 72 = .ok (.iload_n 3, 1) := by decide +kernel
theorem dM_send_73 : decode zc_M_send 73 = .ok (.imul, 1) := by decide +kernel
theorem dM_send_74 : decode zc_M_send 74 = .ok (.iaload, 1) := by decide +kernel
theorem dM_send_75 : decode zc_M_send 75 = .ok (.iastore, 1) := by decide +kernel
theorem dM_send_76 : decode zc_M_send 76 = .ok (.aload_n 0, 1) := by decide +kernel
theorem dM_send_77 : decode zc_M_send 77 = .ok (.getfield 63, 3) := by decide +kernel
theorem dM_send_80 : decode zc_M_send 80 = .ok (.iload_n 3, 1) := by decide +kernel
theorem dM_send_81 : decode zc_M_send 81 = .ok (.iaload, 1) := by decide +kernel
theorem dM_send_82 : decode zc_M_send 82 = .ok (.ireturn, 1) := by decide +kernel
theorem dM_arrive_0 : decode zc_M_arrive 0 = .ok (.aload_n 0, 1) := by decide +kernel
theorem dM_arrive_1 : decode zc_M_arrive 1 = .ok (.iload_n 1, 1) := by decide +kernel
theorem dM_arrive_2 : decode zc_M_arrive 2 = .ok (.iload_n 2, 1) := by decide +kernel
theorem dM_arrive_3 : decode zc_M_arrive 3 = .ok (.invokestatic 135, 3) := by decide +kernel
theorem dM_arrive_6 : decode zc_M_arrive 6 = .ok (.invokevirtual 95, 3) := by decide +kernel
theorem dM_arrive_9 : decode zc_M_arrive 9 = .ok (.ifCond .eq 5, 3) := by decide +kernel
theorem dM_arrive_12 : decode zc_M_arrive 12 = .ok (.iconst 0, 1) := by decide +kernel
theorem dM_arrive_13 : decode zc_M_arrive 13 = .ok (.ireturn, 1) := by decide +kernel
theorem dM_arrive_14 : decode zc_M_arrive 14 = .ok (.iconst 4, 1) := by decide +kernel
theorem dM_arrive_15 : decode zc_M_arrive 15 = .ok (.iload_n 1, 1) := by decide +kernel
theorem dM_arrive_16 : decode zc_M_arrive 16 = .ok (.imul, 1) := by decide +kernel
theorem dM_arrive_17 : decode zc_M_arrive 17 = .ok (.iload_n 2, 1) := by decide +kernel
theorem dM_arrive_18 : decode zc_M_arrive 18 = .ok (.iadd, 1) := by decide +kernel
theorem dM_arrive_19 : decode zc_M_arrive 19 = .ok (.istore_n 3, 1) := by decide +kernel
theorem dM_arrive_20 : decode zc_M_arrive 20 = .ok (.aload_n 0, 1) := by decide +kernel
theorem dM_arrive_21 : decode zc_M_arrive 21 = .ok (.getfield 63, 3) := by decide +kernel
theorem dM_arrive_24 : decode zc_M_arrive 24 = .ok (.iload_n 3, 1) := by decide +kernel
theorem dM_arrive_25 : decode zc_M_arrive 25 = .ok (.iaload, 1) := by decide +kernel
theorem dM_arrive_26 : decode zc_M_arrive 26 = .ok (.istore 4, 2) := by decide +kernel
theorem dM_arrive_28 : decode zc_M_arrive 28 = .ok (.iload 4, 2) := by decide +kernel
theorem dM_arrive_30 : decode zc_M_arrive 30 = .ok (.ifCond .ne 5, 3) := by decide +kernel
theorem dM_arrive_33 : decode zc_M_arrive 33 = .ok (.iconst (-1), 1) := by decide +kernel
theorem dM_arrive_34 : decode zc_M_arrive 34 = .ok (.ireturn, 1) := by decide +kernel
theorem dM_arrive_35 : decode zc_M_arrive 35 = .ok (.aload_n 0, 1) := by decide +kernel
theorem dM_arrive_36 : decode zc_M_arrive 36 = .ok (.getfield 63, 3) := by decide +kernel
theorem dM_arrive_39 : decode zc_M_arrive 39 = .ok (.iload_n 3, 1) := by decide +kernel
theorem dM_arrive_40 : decode zc_M_arrive 40 = .ok (.iconst 0, 1) := by decide +kernel
theorem dM_arrive_41 : decode zc_M_arrive 41 = .ok (.iastore, 1) := by decide +kernel
theorem dM_arrive_42 : decode zc_M_arrive 42 = .ok (.iconst 0, 1) := by decide +kernel
theorem dM_arrive_43 : decode zc_M_arrive 43 = .ok (.istore 5, 2) := by decide +kernel
theorem dM_arrive_45 : decode zc_M_arrive 45 = .ok (.iload 4, 2) := by decide +kernel
theorem dM_arrive_47 : decode zc_M_arrive 47 = .ok (.aload_n 0, 1) := by decide +kernel
theorem dM_arrive_48 : decode zc_M_arrive 48 = .ok (.getfield 66, 3) := by decide +kernel
theorem dM_arrive_51 : decode zc_M_arrive 51 = .ok (.iload_n 3, 1) := by decide +kernel
theorem dM_arrive_52 : decode zc_M_arrive 52 = .ok (.iaload, 1) := by decide +kernel
theorem dM_arrive_53 : decode zc_M_arrive 53 = .ok (.iconst 1, 1) := by decide +kernel
theorem dM_arrive_54 : decode zc_M_arrive 54 = .ok (.iadd, 1) := by decide +kernel
theorem dM_arrive_55 : decode zc_M_arrive 55 = .ok (.if_icmp .ne 57, 3) := by decide +kernel
theorem dM_arrive_58 : decode zc_M_arrive 58 = .ok (.aload_n 0, 1) := by decide +kernel
theorem dM_arrive_59 : decode zc_M_arrive 59 = .ok (.getfield 66, 3) := by decide +kernel
theorem dM_arrive_62 : decode zc_M_arrive 62 = .ok (.iload_n 3, 1) := by decide +kernel
theorem dM_arrive_63 : decode zc_M_arrive 63 = .ok (.iload 4, 2) := by decide +kernel
theorem dM_arrive_65 : decode zc_M_arrive 65 = .ok (.iastore, 1) := by decide +kernel
theorem dM_arrive_66 : decode zc_M_arrive 66 = .ok (.aload_n 0, 1) := by decide +kernel
theorem dM_arrive_67 : decode zc_M_arrive 67 = .ok (.getfield 17, 3) := by decide +kernel
theorem dM_arrive_70 : decode zc_M_arrive 70 = .ok (.bipush 16, 2) := by decide +kernel
theorem dM_arrive_72 : decode zc_M_arrive 72 = .ok (.iload_n 2, 1) := by decide +kernel
theorem dM_arrive_73 : decode zc_M_arrive 73 = .ok (.imul, 1) := by decide +kernel
theorem dM_arrive_74 : decode zc_M_arrive 74 = .ok (.aload_n 0, 1) := by decide +kernel
theorem dM_arrive_75 : decode zc_M_arrive 75 = .ok (.getfield 81, 3) := by decide +kernel
theorem dM_arrive_78 : decode zc_M_arrive 78 = .ok (.iload_n 3, 1) := by decide +kernel
theorem dM_arrive_79 : decode zc_M_arrive 79 = .ok (.iaload, 1) := by decide +kernel
theorem dM_arrive_80 : decode zc_M_arrive 80 = .ok (.iadd, 1) := by decide +kernel
theorem dM_arrive_81 : decode zc_M_arrive 81 = .ok (.aload_n 0, 1) := by decide +kernel
theorem dM_arrive_82 : decode zc_M_arrive 82 = .ok (.getfield 17, 3) := by decide +kernel
theorem dM_arrive_85 : decode zc_M_arrive 85 = .ok (.bipush 16, 2) := by decide +kernel
theorem dM_arrive_87 : decode zc_M_arrive 87 = .ok (.iload_n 2, 1) := by decide +kernel
theorem dM_arrive_88 : decode zc_M_arrive 88 = .ok (.imul, 1) := by decide +kernel
theorem dM_arrive_89 : decode zc_M_arrive 89 = .ok (.aload_n 0, 1) := by decide +kernel
theorem dM_arrive_90 : decode zc_M_arrive 90 = .ok (.getfield 81, 3) := by decide +kernel
theorem dM_arrive_93 : decode zc_M_arrive 93 = .ok (.iload_n 3, 1) := by decide +kernel
theorem dM_arrive_94 : decode zc_M_arrive 94 = .ok (.iaload, 1) := by decide +kernel
theorem dM_arrive_95 : decode zc_M_arrive 95 = .ok (.iadd, 1) := by decide +kernel
theorem dM_arrive_96 : decode zc_M_arrive 96 = .ok (.iaload, 1) := by decide +kernel
theorem dM_arrive_97 : decode zc_M_arrive 97 = .ok (.aload_n 0, 1) := by decide +kernel
theorem dM_arrive_98 : decode zc_M_arrive 98 = .ok (.getfield 84, 3) := by decide +kernel
theorem dM_arrive_101 : decode zc_M_arrive 101 = .ok (.iload_n 3, 1) := by decide +kernel
theorem dM_arrive_102 : decode zc_M_arrive 102 = .ok (.iaload, 1) := by decide +kernel
theorem dM_arrive_103 : decode zc_M_arrive 103 = .ok (.iadd, 1) := by decide +kernel
theorem dM_arrive_104 : decode zc_M_arrive 104 = .ok (.iastore, 1) := by decide +kernel
theorem dM_arrive_105 : decode zc_M_arrive 105 = .ok (.aload_n 0, 1) := by decide +kernel
theorem dM_arrive_106 : decode zc_M_arrive 106 = .ok (.iload_n 2, 1) := by decide +kernel
theorem dM_arrive_107 : decode zc_M_arrive 107 = .ok (.invokevirtual 125, 3) := by decide +kernel
theorem dM_arrive_110 : decode zc_M_arrive 110 = .ok (.istore 5, 2) := by decide +kernel
theorem dM_arrive_112 : decode zc_M_arrive 112 = .ok (.aload_n 0, 1) := by decide +kernel
theorem dM_arrive_113 : decode zc_M_arrive 113 = .ok (.getfield 69, 3) := by decide +kernel
theorem dM_arrive_116 : decode zc_M_arrive 116 = .ok (.iload_n 3, 1) := by decide +kernel
theorem dM_arrive_117 : decode zc_M_arrive 117 = .ok (.aload_n 0, 1) := by decide +kernel
theorem dM_arrive_118 : decode zc_M_arrive 118 = .ok (.getfield 66, 3) := by decide +kernel
theorem dM_arrive_121 : decode zc_M_arrive 121 = .ok (.iload_n 3, 1) := by decide +kernel
theorem dM_arrive_122 : decode zc_M_arrive 122 = .ok (.iaload, 1) := by decide +kernel
theorem dM_arrive_123 : decode zc_M_arrive 123 = .ok (.iastore, 1) := by decide +kernel
theorem dM_arrive_124 : decode zc_M_arrive 124 = .ok (.iload 5, 2) := by decide +kernel
theorem dM_arrive_126 : decode zc_M_arrive 126 = .ok (.ireturn, 1) := by decide +kernel
theorem dM_receipt_0 : decode zc_M_receipt 0 = .ok (.aload_n 0, 1) := by decide +kernel
theorem dM_receipt_1 : decode zc_M_receipt 1 = .ok (.iload_n 1, 1) := by decide +kernel
theorem dM_receipt_2 : decode zc_M_receipt 2 = .ok (.iload_n 2, 1) := by decide +kernel
theorem dM_receipt_3 : decode zc_M_receipt 3 = .ok (.invokestatic 135, 3) := by decide +kernel
theorem dM_receipt_6 : decode zc_M_receipt 6 = .ok (.invokevirtual 95, 3) := by decide +kernel
theorem dM_receipt_9 : decode zc_M_receipt 9 = .ok (.ifCond .eq 5, 3) := by decide +kernel
theorem dM_receipt_12 : decode zc_M_receipt 12 = .ok (.iconst 0, 1) := by decide +kernel
theorem dM_receipt_13 : decode zc_M_receipt 13 = .ok (.ireturn, 1) := by decide +kernel
theorem dM_receipt_14 : decode zc_M_receipt 14 = .ok (.iconst 4, 1) := by decide +kernel
theorem dM_receipt_15 : decode zc_M_receipt 15 = .ok (.iload_n 1, 1) := by decide +kernel
theorem dM_receipt_16 : decode zc_M_receipt 16 = .ok (.imul, 1) := by decide +kernel
theorem dM_receipt_17 : decode zc_M_receipt 17 = .ok (.iload_n 2, 1) := by decide +kernel
theorem dM_receipt_18 : decode zc_M_receipt 18 = .ok (.iadd, 1) := by decide +kernel
theorem dM_receipt_19 : decode zc_M_receipt 19 = .ok (.istore_n 3, 1) := by decide +kernel
theorem dM_receipt_20 : decode zc_M_receipt 20 = .ok (.aload_n 0, 1) := by decide +kernel
theorem dM_receipt_21 : decode zc_M_receipt 21 = .ok (.getfield 69, 3) := by decide +kernel
theorem dM_receipt_24 : decode zc_M_receipt 24 = .ok (.iload_n 3, 1) := by decide +kernel
theorem dM_receipt_25 : decode zc_M_receipt 25 = .ok (.iaload, 1) := by decide +kernel
theorem dM_receipt_26 : decode zc_M_receipt 26 = .ok (.istore 4, 2) := by decide +kernel
theorem dM_receipt_28 : decode zc_M_receipt 28 = .ok (.iload 4, 2) := by decide +kernel
theorem dM_receipt_30 : decode zc_M_receipt 30 = .ok (.ifCond .ge 5, 3) := by decide +kernel
theorem dM_receipt_33 : decode zc_M_receipt 33 = .ok (.iconst (-1), 1) := by decide +kernel
theorem dM_receipt_34 : decode zc_M_receipt 34 = .ok (.ireturn, 1) := by decide +kernel
theorem dM_receipt_35 : decode zc_M_receipt 35 = .ok (.aload_n 0, 1) := by decide +kernel
theorem dM_receipt_36 : decode zc_M_receipt 36 = .ok (.getfield 69, 3) := by decide +kernel
theorem dM_receipt_39 : decode zc_M_receipt 39 = .ok (.iload_n 3, 1) := by decide +kernel
theorem dM_receipt_40 : decode zc_M_receipt 40 = .ok (.iconst (-1), 1) := by decide +kernel
theorem dM_receipt_41 : decode zc_M_receipt 41 = .ok (.iastore, 1) := by decide +kernel
theorem dM_receipt_42 : decode zc_M_receipt 42 = .ok (.iconst 0, 1) := by decide +kernel
theorem dM_receipt_43 : decode zc_M_receipt 43 = .ok (.istore 5, 2) := by decide +kernel
theorem dM_receipt_45 : decode zc_M_receipt 45 = .ok (.aload_n 0, 1) := by decide +kernel
theorem dM_receipt_46 : decode zc_M_receipt 46 = .ok (.getfield 60, 3) := by decide +kernel
theorem dM_receipt_49 : decode zc_M_receipt 49 = .ok (.iload_n 3, 1) := by decide +kernel
theorem dM_receipt_50 : decode zc_M_receipt 50 = .ok (.iaload, 1) := by decide +kernel
theorem dM_receipt_51 : decode zc_M_receipt 51 = .ok (.istore 6, 2) := by decide +kernel
theorem dM_receipt_53 : decode zc_M_receipt 53 = .ok (.bipush 8, 2) := by decide +kernel
theorem dM_receipt_55 : decode zc_M_receipt 55 = .ok (.iload_n 3, 1) := by decide +kernel
theorem dM_receipt_56 : decode zc_M_receipt 56 = .ok (.imul, 1) := by decide +kernel
theorem dM_receipt_57 : decode zc_M_receipt 57 = .ok (.istore 7, 2) := by decide +kernel
theorem dM_receipt_59 : decode zc_M_receipt 59 = .ok (.iload 7, 2) := by decide +kernel
theorem dM_receipt_61 : decode zc_M_receipt 61 = .ok (.bipush 8, 2) := by decide +kernel
end
section
theorem dM_receipt_63 : decode zc_M_receipt 63 = .ok (.iload_n 3, 1) := by decide +kernel
theorem dM_receipt_64 : decode zc_M_receipt 64 = .ok (.imul, 1) := by decide +kernel
theorem dM_receipt_65 : decode zc_M_receipt 65 = .ok (.iload 6, 2) := by decide +kernel
theorem dM_receipt_67 : decode zc_M_receipt 67 = .ok (.iadd, 1) := by decide +kernel
theorem dM_receipt_68 : decode zc_M_receipt 68 = .ok (.if_icmp .ge 81, 3) := by decide +kernel
theorem dM_receipt_71 : decode zc_M_receipt 71 = .ok (.aload_n 0, 1) := by decide +kernel
theorem dM_receipt_72 : decode zc_M_receipt 72 = .ok (.getfield 72, 3) := by decide +kernel
theorem dM_receipt_75 : decode zc_M_receipt 75 = .ok (.iload 7, 2) := by decide +kernel
theorem dM_receipt_77 : decode zc_M_receipt 77 = .ok (.iaload, 1) := by decide +kernel
theorem dM_receipt_78 : decode zc_M_receipt 78 = .ok (.iload 4, 2) := by decide +kernel
theorem dM_receipt_80 : decode zc_M_receipt 80 = .ok (.if_icmp .le 63, 3) := by decide +kernel
theorem dM_receipt_83 : decode zc_M_receipt 83 = .ok (.aload_n 0, 1) := by decide +kernel
theorem dM_receipt_84 : decode zc_M_receipt 84 = .ok (.getfield 72, 3) := by decide +kernel
theorem dM_receipt_87 : decode zc_M_receipt 87 = .ok (.bipush 8, 2) := by decide +kernel
theorem dM_receipt_89 : decode zc_M_receipt 89 = .ok (.iload_n 3, 1) := by decide +kernel
theorem dM_receipt_90 : decode zc_M_receipt 90 = .ok (.imul, 1) := by decide +kernel
theorem dM_receipt_91 : decode zc_M_receipt 91 = .ok (.iload 5, 2) := by decide +kernel
theorem dM_receipt_93 : decode zc_M_receipt 93 = .ok (.iadd, 1) := by decide +kernel
theorem dM_receipt_94 : decode zc_M_receipt 94 = .ok (.aload_n 0, 1) := by decide +kernel
theorem dM_receipt_95 : decode zc_M_receipt 95 = .ok (.getfield 72, 3) := by decide +kernel
theorem dM_receipt_98 : decode zc_M_receipt 98 = .ok (.iload 7, 2) := by decide +kernel
theorem dM_receipt_100 : decode zc_M_receipt 100 = .ok (.iaload, 1) := by decide +kernel
theorem dM_receipt_101 : decode zc_M_receipt 101 = .ok (.iastore, 1) := by decide +kernel
theorem dM_receipt_102 : decode zc_M_receipt 102 = .ok (.aload_n 0, 1) := by decide +kernel
theorem dM_receipt_103 : decode zc_M_receipt 103 = .ok (.getfield 75, 3) := by decide +kernel
theorem dM_receipt_106 : decode zc_M_receipt 106 = .ok (.bipush 8, 2) := by decide +kernel
theorem dM_receipt_108 : decode zc_M_receipt 108 = .ok (.iload_n 3, 1) := by decide +kernel
theorem dM_receipt_109 : decode zc_M_receipt 109 = .ok (.imul, 1) := by decide +kernel
theorem dM_receipt_110 : decode zc_M_receipt 110 = .ok (.iload 5, 2) := by decide +kernel
theorem dM_receipt_112 : decode zc_M_receipt 112 = .ok (.iadd, 1) := by decide +kernel
theorem dM_receipt_113 : decode zc_M_receipt 113 = .ok (.aload_n 0, 1) := by decide +kernel
theorem dM_receipt_114 : decode zc_M_receipt 114 = .ok (.getfield 75, 3) := by decide +kernel
theorem dM_receipt_117 : decode zc_M_receipt 117 = .ok (.iload 7, 2) := by decide +kernel
theorem dM_receipt_119 : decode zc_M_receipt 119 = .ok (.iaload, 1) := by decide +kernel
theorem dM_receipt_120 : decode zc_M_receipt 120 = .ok (.iastore, 1) := by decide +kernel
theorem dM_receipt_121 : decode zc_M_receipt 121 = .ok (.aload_n 0, 1) := by decide +kernel
theorem dM_receipt_122 : decode zc_M_receipt 122 = .ok (.getfield 78, 3) := by decide +kernel
theorem dM_receipt_125 : decode zc_M_receipt 125 = .ok (.bipush 8, 2) := by decide +kernel
theorem dM_receipt_127 : decode zc_M_receipt 127 = .ok (.iload_n 3, 1) := by decide +kernel
theorem dM_receipt_128 : decode zc_M_receipt 128 = .ok (.imul, 1) := by decide +kernel
theorem dM_receipt_129 : decode zc_M_receipt 129 = .ok (.iload 5, 2) := by decide +kernel
theorem dM_receipt_131 : decode zc_M_receipt 131 = .ok (.iadd, 1) := by decide +kernel
theorem dM_receipt_132 : decode zc_M_receipt 132 = .ok (.aload_n 0, 1) := by decide +kernel
theorem dM_receipt_133 : decode zc_M_receipt 133 = .ok (.getfield 78, 3) := by decide +kernel
theorem dM_receipt_136 : decode zc_M_receipt 136 = .ok (.iload 7, 2) := by decide +kernel
theorem dM_receipt_138 : decode zc_M_receipt 138 = .ok (.iaload, 1) := by decide +kernel
theorem dM_receipt_139 : decode zc_M_receipt 139 = .ok (.iastore, 1) := by decide +kernel
theorem dM_receipt_140 : decode zc_M_receipt 140 = .ok (.iinc 5 1, 3) := by decide +kernel
theorem dM_receipt_143 : decode zc_M_receipt 143 = .ok (.iinc 7 1, 3) := by decide +kernel
theorem dM_receipt_146 : decode zc_M_receipt 146 = .ok (.goto (-87), 3) := by decide +kernel
theorem dM_receipt_149 : decode zc_M_receipt 149 = .ok (.aload_n 0, 1) := by decide +kernel
theorem dM_receipt_150 : decode zc_M_receipt 150 = .ok (.getfield 60, 3) := by decide +kernel
theorem dM_receipt_153 : decode zc_M_receipt 153 = .ok (.iload_n 3, 1) := by decide +kernel
theorem dM_receipt_154 : decode zc_M_receipt 154 = .ok (.iload 5, 2) := by decide +kernel
theorem dM_receipt_156 : decode zc_M_receipt 156 = .ok (.iastore, 1) := by decide +kernel
theorem dM_receipt_157 : decode zc_M_receipt 157 = .ok (.iload 6, 2) := by decide +kernel
theorem dM_receipt_159 : decode zc_M_receipt 159 = .ok (.iload 5, 2) := by decide +kernel
theorem dM_receipt_161 : decode zc_M_receipt 161 = .ok (.isub, 1) := by decide +kernel
theorem dM_receipt_162 : decode zc_M_receipt 162 = .ok (.ireturn, 1) := by decide +kernel
theorem dM_lose_0 : decode zc_M_lose 0 = .ok (.aload_n 0, 1) := by decide +kernel
theorem dM_lose_1 : decode zc_M_lose 1 = .ok (.iload_n 1, 1) := by decide +kernel
theorem dM_lose_2 : decode zc_M_lose 2 = .ok (.iload_n 2, 1) := by decide +kernel
theorem dM_lose_3 : decode zc_M_lose 3 = .ok (.invokestatic 135, 3) := by decide +kernel
theorem dM_lose_6 : decode zc_M_lose 6 = .ok (.invokevirtual 95, 3) := by decide +kernel
theorem dM_lose_9 : decode zc_M_lose 9 = .ok (.ifCond .eq 7, 3) := by decide +kernel
theorem dM_lose_12 : decode zc_M_lose 12 = .ok (.iconst 0, 1) := by decide +kernel
theorem dM_lose_13 : decode zc_M_lose 13 = .ok (.goto 12, 3) := by decide +kernel
theorem dM_lose_16 : decode zc_M_lose 16 = .ok (.aload_n 0, 1) := by decide +kernel
theorem dM_lose_17 : decode zc_M_lose 17 = .ok (.iconst 4, 1) := by decide +kernel
theorem dM_lose_18 : decode zc_M_lose 18 = .ok (.iload_n 1, 1) := by decide +kernel
theorem dM_lose_19 : decode zc_M_lose 19 = .ok (.imul, 1) := by decide +kernel
theorem dM_lose_20 : decode zc_M_lose 20 = .ok (.iload_n 2, 1) := by decide +kernel
theorem dM_lose_21 : decode zc_M_lose 21 = .ok (.iadd, 1) := by decide +kernel
theorem dM_lose_22 : decode zc_M_lose 22 = .ok (.invokevirtual 139, 3) := by decide +kernel
theorem dM_lose_25 : decode zc_M_lose 25 = .ok (.ireturn, 1) := by decide +kernel
theorem dM_loseOne_0 : decode zc_M_loseOne 0 = .ok (.aload_n 0, 1) := by decide +kernel
theorem dM_loseOne_1 : decode zc_M_loseOne 1 = .ok (.getfield 63, 3) := by decide +kernel
theorem dM_loseOne_4 : decode zc_M_loseOne 4 = .ok (.iload_n 1, 1) := by decide +kernel
theorem dM_loseOne_5 : decode zc_M_loseOne 5 = .ok (.iaload, 1) := by decide +kernel
theorem dM_loseOne_6 : decode zc_M_loseOne 6 = .ok (.ifCond .le 7, 3) := by decide +kernel
theorem dM_loseOne_9 : decode zc_M_loseOne 9 = .ok (.iconst 1, 1) := by decide +kernel
theorem dM_loseOne_10 : decode zc_M_loseOne 10 = .ok (.goto 4, 3) := by decide +kernel
theorem dM_loseOne_13 : decode zc_M_loseOne 13 = .ok (.iconst 0, 1) := by decide +kernel
theorem dM_loseOne_14 : decode zc_M_loseOne 14 = .ok (.aload_n 0, 1) := by decide +kernel
theorem dM_loseOne_15 : decode zc_M_loseOne 15 = .ok (.getfield 69, 3) := by decide +kernel
theorem dM_loseOne_18 : decode zc_M_loseOne 18 = .ok (.iload_n 1, 1) := by decide +kernel
theorem dM_loseOne_19 : decode zc_M_loseOne 19 = .ok (.iaload, 1) := by decide +kernel
theorem dM_loseOne_20 : decode zc_M_loseOne 20 = .ok (.ifCond .lt 7, 3) := by decide +kernel
theorem dM_loseOne_23 : decode zc_M_loseOne 23 = .ok (.iconst 1, 1) := by decide +kernel
theorem dM_loseOne_24 : decode zc_M_loseOne 24 = .ok (.goto 4, 3) := by decide +kernel
theorem dM_loseOne_27 : decode zc_M_loseOne 27 = .ok (.iconst 0, 1) := by decide +kernel
theorem dM_loseOne_28 : decode zc_M_loseOne 28 = .ok (.iadd, 1) := by decide +kernel
theorem dM_loseOne_29 : decode zc_M_loseOne 29 = .ok (.istore_n 2, 1) := by decide +kernel
theorem dM_loseOne_30 : decode zc_M_loseOne 30 = .ok (.aload_n 0, 1) := by decide +kernel
theorem dM_loseOne_31 : decode zc_M_loseOne 31 = .ok (.getfield 63, 3) := by decide +kernel
theorem dM_loseOne_34 : decode zc_M_loseOne 34 = .ok (.iload_n 1, 1) := by decide +kernel
theorem dM_loseOne_35 : decode zc_M_loseOne 35 = .ok (.iconst 0, 1) := by decide +kernel
theorem dM_loseOne_36 : decode zc_M_loseOne 36 = .ok (.iastore, 1) := by decide +kernel
theorem dM_loseOne_37 : decode zc_M_loseOne 37 = .ok (.aload_n 0, 1) := by decide +kernel
theorem dM_loseOne_38 : decode zc_M_loseOne 38 = .ok (.getfield 69, 3) := by decide +kernel
theorem dM_loseOne_41 : decode zc_M_loseOne 41 = .ok (.iload_n 1, 1) := by decide +kernel
theorem dM_loseOne_42 : decode zc_M_loseOne 42 = .ok (.iconst (-1), 1) := by decide +kernel
theorem dM_loseOne_43 : decode zc_M_loseOne 43 = .ok (.iastore, 1) := by decide +kernel
theorem dM_loseOne_44 : decode zc_M_loseOne 44 = .ok (.iload_n 2, 1) := by decide +kernel
theorem dM_loseOne_45 : decode zc_M_loseOne 45 = .ok (.ireturn, 1) := by decide +kernel
theorem dM_crash_0 : decode zc_M_crash 0 = .ok (.aload_n 0, 1) := by decide +kernel
theorem dM_crash_1 : decode zc_M_crash 1 = .ok (.iload_n 1, 1) := by decide +kernel
theorem dM_crash_2 : decode zc_M_crash 2 = .ok (.invokestatic 91, 3) := by decide +kernel
theorem dM_crash_5 : decode zc_M_crash 5 = .ok (.ifCond .eq 7, 3) := by decide +kernel
theorem dM_crash_8 : decode zc_M_crash 8 = .ok (.iconst 0, 1) := by decide +kernel
theorem dM_crash_9 : decode zc_M_crash 9 = .ok (.goto 4, 3) := by decide +kernel
theorem dM_crash_12 : decode zc_M_crash 12 = .ok (.iconst 1, 1) := by decide +kernel
theorem dM_crash_13 : decode zc_M_crash 13 = .ok (.invokevirtual 95, 3) := by decide +kernel
theorem dM_crash_16 : decode zc_M_crash 16 = .ok (.ifCond .eq 5, 3) := by decide +kernel
theorem dM_crash_19 : decode zc_M_crash 19 = .ok (.iconst 0, 1) := by decide +kernel
theorem dM_crash_20 : decode zc_M_crash 20 = .ok (.ireturn, 1) := by decide +kernel
theorem dM_crash_21 : decode zc_M_crash 21 = .ok (.iconst 0, 1) := by decide +kernel
theorem dM_crash_22 : decode zc_M_crash 22 = .ok (.istore_n 2, 1) := by decide +kernel
theorem dM_crash_23 : decode zc_M_crash 23 = .ok (.iconst 0, 1) := by decide +kernel
theorem dM_crash_24 : decode zc_M_crash 24 = .ok (.istore_n 3, 1) := by decide +kernel
theorem dM_crash_25 : decode zc_M_crash 25 = .ok (.iload_n 3, 1) := by decide +kernel
theorem dM_crash_26 : decode zc_M_crash 26 = .ok (.iconst 4, 1) := by decide +kernel
theorem dM_crash_27 : decode zc_M_crash 27 = .ok (.if_icmp .ge 36, 3) := by decide +kernel
theorem dM_crash_30 : decode zc_M_crash 30 = .ok (.iload_n 3, 1) := by decide +kernel
theorem dM_crash_31 : decode zc_M_crash 31 = .ok (.iload_n 1, 1) := by decide +kernel
theorem dM_crash_32 : decode zc_M_crash 32 = .ok (.if_icmp .eq 25, 3) := by decide +kernel
theorem dM_crash_35 : decode zc_M_crash 35 = .ok (.iload_n 2, 1) := by decide +kernel
theorem dM_crash_36 : decode zc_M_crash 36 = .ok (.aload_n 0, 1) := by decide +kernel
theorem dM_crash_37 : decode zc_M_crash 37 = .ok (.iconst 4, 1) := by decide +kernel
theorem dM_crash_38 : decode zc_M_crash 38 = .ok (.iload_n 1, 1) := by decide +kernel
theorem dM_crash_39 : decode zc_M_crash 39 = .ok (.imul, 1) := by decide +kernel
theorem dM_crash_40 : decode zc_M_crash 40 = .ok (.iload_n 3, 1) := by decide +kernel
theorem dM_crash_41 : decode zc_M_crash 41 = .ok (.iadd, 1) := by decide +kernel
theorem dM_crash_42 : decode zc_M_crash 42 = .ok (.invokevirtual 139, 3) := by decide +kernel
theorem dM_crash_45 : decode zc_M_crash 45 = .ok (.iadd, 1) := by decide +kernel
theorem dM_crash_46 : decode zc_M_crash 46 = .ok (.aload_n 0, 1) := by decide +kernel
theorem dM_crash_47 : decode zc_M_crash 47 = .ok (.iconst 4, 1) := by decide +kernel
theorem dM_crash_48 : decode zc_M_crash 48 = .ok (.iload_n 3, 1) := by decide +kernel
theorem dM_crash_49 : decode zc_M_crash 49 = .ok (.imul, 1) := by decide +kernel
theorem dM_crash_50 : decode zc_M_crash 50 = .ok (.iload_n 1, 1) := by decide +kernel
theorem dM_crash_51 : decode zc_M_crash 51 = .ok (.iadd, 1) := by decide +kernel
theorem dM_crash_52 : decode zc_M_crash 52 = .ok (.invokevirtual 139, 3) := by decide +kernel
theorem dM_crash_55 : decode zc_M_crash 55 = .ok (.iadd, 1) := by decide +kernel
theorem dM_crash_56 : decode zc_M_crash 56 = .ok (.istore_n 2, 1) := by decide +kernel
theorem dM_crash_57 : decode zc_M_crash 57 = .ok (.iinc 3 1, 3) := by decide +kernel
theorem dM_crash_60 : decode zc_M_crash 60 = .ok (.goto (-35), 3) := by decide +kernel
theorem dM_crash_63 : decode zc_M_crash 63 = .ok (.iload_n 2, 1) := by decide +kernel
theorem dM_crash_64 : decode zc_M_crash 64 = .ok (.ireturn, 1) := by decide +kernel
theorem dM_rights_0 : decode zc_M_rights 0 = .ok (.iload_n 1, 1) := by decide +kernel
theorem dM_rights_1 : decode zc_M_rights 1 = .ok (.invokestatic 91, 3) := by decide +kernel
theorem dM_rights_4 : decode zc_M_rights 4 = .ok (.ifCond .eq 21, 3) := by decide +kernel
theorem dM_rights_7 : decode zc_M_rights 7 = .ok (.iload_n 2, 1) := by decide +kernel
theorem dM_rights_8 : decode zc_M_rights 8 = .ok (.invokestatic 91, 3) := by decide +kernel
theorem dM_rights_11 : decode zc_M_rights 11 = .ok (.ifCond .eq 14, 3) := by decide +kernel
theorem dM_rights_14 : decode zc_M_rights 14 = .ok (.iload_n 3, 1) := by decide +kernel
theorem dM_rights_15 : decode zc_M_rights 15 = .ok (.invokestatic 91, 3) := by decide +kernel
theorem dM_rights_18 : decode zc_M_rights 18 = .ok (.ifCond .eq 7, 3) := by decide +kernel
theorem dM_rights_21 : decode zc_M_rights 21 = .ok (.iconst 1, 1) := by decide +kernel
theorem dM_rights_22 : decode zc_M_rights 22 = .ok (.goto 4, 3) := by decide +kernel
theorem dM_rights_25 : decode zc_M_rights 25 = .ok (.iconst 0, 1) := by decide +kernel
theorem dM_rights_26 : decode zc_M_rights 26 = .ok (.istore 4, 2) := by decide +kernel
theorem dM_rights_28 : decode zc_M_rights 28 = .ok (.aload_n 0, 1) := by decide +kernel
theorem dM_rights_29 : decode zc_M_rights 29 = .ok (.iload 4, 2) := by decide +kernel
theorem dM_rights_31 : decode zc_M_rights 31 = .ok (.ifCond .eq 7, 3) := by decide +kernel
theorem dM_rights_34 : decode zc_M_rights 34 = .ok (.iconst 0, 1) := by decide +kernel
theorem dM_rights_35 : decode zc_M_rights 35 = .ok (.goto 4, 3) := by decide +kernel
theorem dM_rights_38 : decode zc_M_rights 38 = .ok (.iconst 1, 1) := by decide +kernel
theorem dM_rights_39 : decode zc_M_rights 39 = .ok (.invokevirtual 95, 3) := by decide +kernel
theorem dM_rights_42 : decode zc_M_rights 42 = .ok (.ifCond .eq 7, 3) := by decide +kernel
theorem dM_rights_45 : decode zc_M_rights 45 = .ok (.iconst 0, 1) := by decide +kernel
theorem dM_rights_46 : decode zc_M_rights 46 = .ok (.goto 18, 3) := by decide +kernel
theorem dM_rights_49 : decode zc_M_rights 49 = .ok (.aload_n 0, 1) := by decide +kernel
theorem dM_rights_50 : decode zc_M_rights 50 = .ok (.getfield 17, 3) := by decide +kernel
theorem dM_rights_53 : decode zc_M_rights 53 = .ok (.bipush 16, 2) := by decide +kernel
theorem dM_rights_55 : decode zc_M_rights 55 = .ok (.iload_n 1, 1) := by decide +kernel
theorem dM_rights_56 : decode zc_M_rights 56 = .ok (.imul, 1) := by decide +kernel
theorem dM_rights_57 : decode zc_M_rights 57 = .ok (.iconst 4, 1) := by decide +kernel
theorem dM_rights_58 : decode zc_M_rights 58 = .ok (.iload_n 2, 1) := by decide +kernel
theorem dM_rights_59 : decode zc_M_rights 59 = .ok (.imul, 1) := by decide +kernel
theorem dM_rights_60 : decode zc_M_rights 60 = .ok (.iadd, 1) := by decide +kernel
theorem dM_rights_61 : decode zc_M_rights 61 = .ok (.iload_n 3, 1) := by decide +kernel
theorem dM_rights_62 : decode zc_M_rights 62 = .ok (.iadd, 1) := by decide +kernel
theorem dM_rights_63 : decode zc_M_rights 63 = .ok (.iaload, 1) := by decide +kernel
theorem dM_rights_64 : decode zc_M_rights 64 = .ok (.ireturn, 1) := by decide +kernel
theorem dM_air_0 : decode zc_M_air 0 = .ok (.aload_n 0, 1) := by decide +kernel
theorem dM_air_1 : decode zc_M_air 1 = .ok (.iload_n 1, 1) := by decide +kernel
theorem dM_air_2 : decode zc_M_air 2 = .ok (.invokestatic 91, 3) := by decide +kernel
theorem dM_air_5 : decode zc_M_air 5 = .ok (.ifCond .eq 14, 3) := by decide +kernel
theorem dM_air_8 : decode zc_M_air 8 = .ok (.iload_n 2, 1) := by decide +kernel
theorem dM_air_9 : decode zc_M_air 9 = .ok (.invokestatic 91, 3) := by decide +kernel
theorem dM_air_12 : decode zc_M_air 12 = .ok (.ifCond .eq 7, 3) := by decide +kernel
theorem dM_air_15 : decode zc_M_air 15 = .ok (.iconst 0, 1) := by decide +kernel
theorem dM_air_16 : decode zc_M_air 16 = .ok (.goto 4, 3) := by decide +kernel
theorem dM_air_19 : decode zc_M_air 19 = .ok (.iconst 1, 1) := by decide +kernel
theorem dM_air_20 : decode zc_M_air 20 = .ok (.invokevirtual 95, 3) := by decide +kernel
theorem dM_air_23 : decode zc_M_air 23 = .ok (.ifCond .eq 5, 3) := by decide +kernel
theorem dM_air_26 : decode zc_M_air 26 = .ok (.iconst 0, 1) := by decide +kernel
theorem dM_air_27 : decode zc_M_air 27 = .ok (.ireturn, 1) := by decide +kernel
theorem dM_air_28 : decode zc_M_air 28 = .ok (.iconst 0, 1) := by decide +kernel
theorem dM_air_29 : decode zc_M_air 29 = .ok (.istore_n 3, 1) := by decide +kernel
theorem dM_air_30 : decode zc_M_air 30 = .ok (.iconst 0, 1) := by decide +kernel
theorem dM_air_31 : decode zc_M_air 31 = .ok (.istore 4, 2) := by decide +kernel
theorem dM_air_33 : decode zc_M_air 33 = .ok (.iload 4, 2) := by decide +kernel
theorem dM_air_35 : decode zc_M_air 35 = .ok (.bipush 16, 2) := by decide +kernel
theorem dM_air_37 : decode zc_M_air 37 = .ok (.if_icmp .ge 86, 3) := by decide +kernel
theorem dM_air_40 : decode zc_M_air 40 = .ok (.bipush 8, 2) := by decide +kernel
theorem dM_air_42 : decode zc_M_air 42 = .ok (.iload 4, 2) := by decide +kernel
theorem dM_air_44 : decode zc_M_air 44 = .ok (.imul, 1) := by decide +kernel
theorem dM_air_45 : decode zc_M_air 45 = .ok (.istore 5, 2) := by decide +kernel
theorem dM_air_47 : decode zc_M_air 47 = .ok (.iload 5, 2) := by decide +kernel
theorem dM_air_49 : decode zc_M_air 49 = .ok (.bipush 8, 2) := by decide +kernel
theorem dM_air_51 : decode zc_M_air 51 = .ok (.iload 4, 2) := by decide +kernel
theorem dM_air_53 : decode zc_M_air 53 = .ok (.imul, 1) := by decide +kernel
theorem dM_air_54 : decode zc_M_air 54 = .ok (.aload_n 0, 1) := by decide +kernel
theorem dM_air_55 : decode zc_M_air 55 = .ok (.getfield 60, 3) := by decide +kernel
theorem dM_air_58 : decode zc_M_air 58 = .ok (.iload 4, 2) := by decide +kernel
theorem dM_air_60 : decode zc_M_air 60 = .ok (.iaload, 1) := by decide +kernel
theorem dM_air_61 : decode zc_M_air 61 = .ok (.iadd, 1) := by decide +kernel
theorem dM_air_62 : decode zc_M_air 62 = .ok (.if_icmp .ge 55, 3) := by decide +kernel
theorem dM_air_65 : decode zc_M_air 65 = .ok (.aload_n 0, 1) := by decide +kernel
theorem dM_air_66 : decode zc_M_air 66 = .ok (.getfield 75, 3) := by decide +kernel
theorem dM_air_69 : decode zc_M_air 69 = .ok (.iload 5, 2) := by decide +kernel
theorem dM_air_71 : decode zc_M_air 71 = .ok (.iaload, 1) := by decide +kernel
theorem dM_air_72 : decode zc_M_air 72 = .ok (.iconst 4, 1) := by decide +kernel
theorem dM_air_73 : decode zc_M_air 73 = .ok (.iload_n 1, 1) := by decide +kernel
theorem dM_air_74 : decode zc_M_air 74 = .ok (.imul, 1) := by decide +kernel
theorem dM_air_75 : decode zc_M_air 75 = .ok (.iload_n 2, 1) := by decide +kernel
theorem dM_air_76 : decode zc_M_air 76 = .ok (.iadd, 1) := by decide +kernel
theorem dM_air_77 : decode zc_M_air 77 = .ok (.if_icmp .ne 32, 3) := by decide +kernel
theorem dM_air_80 : decode zc_M_air 80 = .ok (.aload_n 0, 1) := by decide +kernel
theorem dM_air_81 : decode zc_M_air 81 = .ok (.getfield 72, 3) := by decide +kernel
theorem dM_air_84 : decode zc_M_air 84 = .ok (.iload 5, 2) := by decide +kernel
theorem dM_air_86 : decode zc_M_air 86 = .ok (.iaload, 1) := by decide +kernel
theorem dM_air_87 : decode zc_M_air 87 = .ok (.aload_n 0, 1) := by decide +kernel
theorem dM_air_88 : decode zc_M_air 88 = .ok (.getfield 66, 3) := by decide +kernel
theorem dM_air_91 : decode zc_M_air 91 = .ok (.iload 4, 2) := by decide +kernel
theorem dM_air_93 : decode zc_M_air 93 = .ok (.iaload, 1) := by decide +kernel
theorem dM_air_94 : decode zc_M_air 94 = .ok (.if_icmp .le 15, 3) := by decide +kernel
theorem dM_air_97 : decode zc_M_air 97 = .ok (.iload_n 3, 1) := by decide +kernel
theorem dM_air_98 : decode zc_M_air 98 = .ok (.aload_n 0, 1) := by decide +kernel
theorem dM_air_99 : decode zc_M_air 99 = .ok (.getfield 78, 3) := by decide +kernel
theorem dM_air_102 : decode zc_M_air 102 = .ok (.iload 5, 2) := by decide +kernel
theorem dM_air_104 : decode zc_M_air 104 = .ok (.iaload, 1) := by decide +kernel
theorem dM_air_105 : decode zc_M_air 105 = .ok (.iadd, 1) := by decide +kernel
theorem dM_air_106 : decode zc_M_air 106 = .ok (.goto 4, 3) := by decide +kernel
theorem dM_air_109 : decode zc_M_air 109 = .ok (.iload_n 3, 1) := by decide +kernel
theorem dM_air_110 : decode zc_M_air 110 = .ok (.istore_n 3, 1) := by decide +kernel
theorem dM_air_111 : decode zc_M_air 111 = .ok (.iinc 5 1, 3) := by decide +kernel
theorem dM_air_114 : decode zc_M_air 114 = .ok (.goto (-67), 3) := by decide +kernel
theorem dM_air_117 : decode zc_M_air 117 = .ok (.iinc 4 1, 3) := by decide +kernel
theorem dM_air_120 : decode zc_M_air 120 = .ok (.goto (-87), 3) := by decide +kernel
theorem dM_air_123 : decode zc_M_air 123 = .ok (.iload_n 3, 1) := by decide +kernel
theorem dM_air_124 : decode zc_M_air 124 = .ok (.ireturn, 1) := by decide +kernel
theorem dM_sold_0 : decode zc_M_sold 0 = .ok (.aload_n 0, 1) := by decide +kernel
theorem dM_sold_1 : decode zc_M_sold 1 = .ok (.iload_n 1, 1) := by decide +kernel
theorem dM_sold_2 : decode zc_M_sold 2 = .ok (.invokestatic 91, 3) := by decide +kernel
theorem dM_sold_5 : decode zc_M_sold 5 = .ok (.ifCond .eq 14, 3) := by decide +kernel
theorem dM_sold_8 : decode zc_M_sold 8 = .ok (.iload_n 2, 1) := by decide +kernel
theorem dM_sold_9 : decode zc_M_sold 9 = .ok (.invokestatic 91, 3) := by decide +kernel
theorem dM_sold_12 : decode zc_M_sold 12 = .ok (.ifCond .eq 7, 3) := by decide +kernel
theorem dM_sold_15 : decode zc_M_sold 15 = .ok (.iconst 0, 1) := by decide +kernel
theorem dM_sold_16 : decode zc_M_sold 16 = .ok (.goto 4, 3) := by decide +kernel
theorem dM_sold_19 : decode zc_M_sold 19 = .ok (.iconst 1, 1) := by decide +kernel
theorem dM_sold_20 : decode zc_M_sold 20 = .ok (.invokevirtual 95, 3) := by decide +kernel
theorem dM_sold_23 : decode zc_M_sold 23 = .ok (.ifCond .eq 5, 3) := by decide +kernel
theorem dM_sold_26 : decode zc_M_sold 26 = .ok (.iconst 0, 1) := by decide +kernel
theorem dM_sold_27 : decode zc_M_sold 27 = .ok (.ireturn, 1) := by decide +kernel
theorem dM_sold_28 : decode zc_M_sold 28 = .ok (.iconst 0, 1) := by decide +kernel
theorem dM_sold_29 : decode zc_M_sold 29 = .ok (.istore_n 3, 1) := by decide +kernel
theorem dM_sold_30 : decode zc_M_sold 30 = .ok (.iconst 0, 1) := by decide +kernel
theorem dM_sold_31 : decode zc_M_sold 31 = .ok (.istore 4, 2) := by decide +kernel
theorem dM_sold_33 : decode zc_M_sold 33 = .ok (.iload 4, 2) := by decide +kernel
theorem dM_sold_35 : decode zc_M_sold 35 = .ok (.aload_n 0, 1) := by decide +kernel
theorem dM_sold_36 : decode zc_M_sold 36 = .ok (.getfield 110, 3) := by decide +kernel
theorem dM_sold_39 : decode zc_M_sold 39 = .ok (.if_icmp .ge 56, 3) := by decide +kernel
theorem dM_sold_42 : decode zc_M_sold 42 = .ok (.aload_n 0, 1) := by decide +kernel
theorem dM_sold_43 : decode zc_M_sold 43 = .ok (.getfield 42, 3) := by decide +kernel
theorem dM_sold_46 : decode zc_M_sold 46 = .ok (.iload 4, 2) := by decide +kernel
theorem dM_sold_48 : decode zc_M_sold 48 = .ok (.baload, 1) := by decide +kernel
theorem dM_sold_49 : decode zc_M_sold 49 = .ok (.ifCond .eq 38, 3) := by decide +kernel
theorem dM_sold_52 : decode zc_M_sold 52 = .ok (.iload_n 3, 1) := by decide +kernel
theorem dM_sold_53 : decode zc_M_sold 53 = .ok (.aload_n 0, 1) := by decide +kernel
theorem dM_sold_54 : decode zc_M_sold 54 = .ok (.getfield 32, 3) := by decide +kernel
theorem dM_sold_57 : decode zc_M_sold 57 = .ok (.iload 4, 2) := by decide +kernel
theorem dM_sold_59 : decode zc_M_sold 59 = .ok (.iaload, 1) := by decide +kernel
theorem dM_sold_60 : decode zc_M_sold 60 = .ok (.aload_n 0, 1) := by decide +kernel
theorem dM_sold_61 : decode zc_M_sold 61 = .ok (.iconst 4, 1) := by decide +kernel
theorem dM_sold_62 : decode zc_M_sold 62 = .ok (.iconst 4, 1) := by decide +kernel
theorem dM_sold_63 : decode zc_M_sold 63 = .ok (.iload 4, 2) := by decide +kernel
theorem dM_sold_65 : decode zc_M_sold 65 = .ok (.imul, 1) := by decide +kernel
theorem dM_sold_66 : decode zc_M_sold 66 = .ok (.iadd, 1) := by decide +kernel
theorem dM_sold_67 : decode zc_M_sold 67 = .ok (.aload_n 0, 1) := by decide +kernel
theorem dM_sold_68 : decode zc_M_sold 68 = .ok (.getfield 35, 3) := by decide +kernel
theorem dM_sold_71 : decode zc_M_sold 71 = .ok (.iload 4, 2) := by decide +kernel
theorem dM_sold_73 : decode zc_M_sold 73 = .ok (.iaload, 1) := by decide +kernel
theorem dM_sold_74 : decode zc_M_sold 74 = .ok (.iconst 4, 1) := by decide +kernel
theorem dM_sold_75 : decode zc_M_sold 75 = .ok (.iload_n 1, 1) := by decide +kernel
theorem dM_sold_76 : decode zc_M_sold 76 = .ok (.imul, 1) := by decide +kernel
theorem dM_sold_77 : decode zc_M_sold 77 = .ok (.iload_n 2, 1) := by decide +kernel
theorem dM_sold_78 : decode zc_M_sold 78 = .ok (.iadd, 1) := by decide +kernel
theorem dM_sold_79 : decode zc_M_sold 79 = .ok (.invokevirtual 102, 3) := by decide +kernel
theorem dM_sold_82 : decode zc_M_sold 82 = .ok (.imul, 1) := by decide +kernel
theorem dM_sold_83 : decode zc_M_sold 83 = .ok (.iadd, 1) := by decide +kernel
theorem dM_sold_84 : decode zc_M_sold 84 = .ok (.goto 4, 3) := by decide +kernel
theorem dM_sold_87 : decode zc_M_sold 87 = .ok (.iload_n 3, 1) := by decide +kernel
theorem dM_sold_88 : decode zc_M_sold 88 = .ok (.istore_n 3, 1) := by decide +kernel
theorem dM_sold_89 : decode zc_M_sold 89 = .ok (.iinc 4 1, 3) := by decide +kernel
theorem dM_sold_92 : decode zc_M_sold 92 = .ok (.goto (-59), 3) := by decide +kernel
theorem dM_sold_95 : decode zc_M_sold 95 = .ok (.iload_n 3, 1) := by decide +kernel
theorem dM_sold_96 : decode zc_M_sold 96 = .ok (.ireturn, 1) := by decide +kernel
theorem dM_wishes_0 : decode zc_M_wishes 0 = .ok (.aload_n 0, 1) := by decide +kernel
theorem dM_wishes_1 : decode zc_M_wishes 1 = .ok (.iload_n 1, 1) := by decide +kernel
theorem dM_wishes_2 : decode zc_M_wishes 2 = .ok (.invokestatic 91, 3) := by decide +kernel
theorem dM_wishes_5 : decode zc_M_wishes 5 = .ok (.ifCond .eq 7, 3) := by decide +kernel
theorem dM_wishes_8 : decode zc_M_wishes 8 = .ok (.iconst 0, 1) := by decide +kernel
theorem dM_wishes_9 : decode zc_M_wishes 9 = .ok (.goto 4, 3) := by decide +kernel
theorem dM_wishes_12 : decode zc_M_wishes 12 = .ok (.iconst 1, 1) := by decide +kernel
theorem dM_wishes_13 : decode zc_M_wishes 13 = .ok (.invokevirtual 95, 3) := by decide +kernel
theorem dM_wishes_16 : decode zc_M_wishes 16 = .ok (.ifCond .eq 7, 3) := by decide +kernel
theorem dM_wishes_19 : decode zc_M_wishes 19 = .ok (.iconst 0, 1) := by decide +kernel
theorem dM_wishes_20 : decode zc_M_wishes 20 = .ok (.goto 9, 3) := by decide +kernel
theorem dM_wishes_23 : decode zc_M_wishes 23 = .ok (.aload_n 0, 1) := by decide +kernel
theorem dM_wishes_24 : decode zc_M_wishes 24 = .ok (.getfield 48, 3) := by decide +kernel
theorem dM_wishes_27 : decode zc_M_wishes 27 = .ok (.iload_n 1, 1) := by decide +kernel
theorem dM_wishes_28 : decode zc_M_wishes 28 = .ok (.iaload, 1) := by decide +kernel
theorem dM_wishes_29 : decode zc_M_wishes 29 = .ok (.ireturn, 1) := by decide +kernel
theorem dM_till_0 : decode zc_M_till 0 = .ok (.aload_n 0, 1) := by decide +kernel
theorem dM_till_1 : decode zc_M_till 1 = .ok (.iload_n 1, 1) := by decide +kernel
theorem dM_till_2 : decode zc_M_till 2 = .ok (.invokestatic 91, 3) := by decide +kernel
theorem dM_till_5 : decode zc_M_till 5 = .ok (.ifCond .eq 7, 3) := by decide +kernel
end
section
theorem dM_till_8 : decode zc_M_till 8 = .ok (.iconst 0, 1) := by decide +kernel
theorem dM_till_9 : decode zc_M_till 9 = .ok (.goto 4, 3) := by decide +kernel
theorem dM_till_12 : decode zc_M_till 12 = .ok (.iconst 1, 1) := by decide +kernel
theorem dM_till_13 : decode zc_M_till 13 = .ok (.invokevirtual 95, 3) := by decide +kernel
theorem dM_till_16 : decode zc_M_till 16 = .ok (.ifCond .eq 7, 3) := by decide +kernel
theorem dM_till_19 : decode zc_M_till 19 = .ok (.lconst 0, 1) := by decide +kernel
theorem dM_till_20 : decode zc_M_till 20 = .ok (.goto 9, 3) := by decide +kernel
theorem dM_till_23 : decode zc_M_till 23 = .ok (.aload_n 0, 1) := by decide +kernel
theorem dM_till_24 : decode zc_M_till 24 = .ok (.getfield 45, 3) := by decide +kernel
theorem dM_till_27 : decode zc_M_till 27 = .ok (.iload_n 1, 1) := by decide +kernel
theorem dM_till_28 : decode zc_M_till 28 = .ok (.laload, 1) := by decide +kernel
theorem dM_till_29 : decode zc_M_till 29 = .ok (.lreturn, 1) := by decide +kernel
end
section
theorem dX_init_0 : decode zc_X_init 0 = .ok (.aload_n 0, 1) := by decide +kernel
theorem dX_init_1 : decode zc_X_init 1 = .ok (.invokespecial 3, 3) := by decide +kernel
theorem dX_init_4 : decode zc_X_init 4 = .ok (.aload_n 0, 1) := by decide +kernel
theorem dX_init_5 : decode zc_X_init 5 = .ok (.iconst 4, 1) := by decide +kernel
theorem dX_init_6 : decode zc_X_init 6 = .ok (.newarray .boolean, 2) := by decide +kernel
theorem dX_init_8 : decode zc_X_init 8 = .ok (.putfield 9, 3) := by decide +kernel
theorem dX_init_11 : decode zc_X_init 11 = .ok (.aload_n 0, 1) := by decide +kernel
theorem dX_init_12 : decode zc_X_init 12 = .ok (.bipush 16, 2) := by decide +kernel
theorem dX_init_14 : decode zc_X_init 14 = .ok (.newarray .int, 2) := by decide +kernel
theorem dX_init_16 : decode zc_X_init 16 = .ok (.putfield 13, 3) := by decide +kernel
theorem dX_init_19 : decode zc_X_init 19 = .ok (.aload_n 0, 1) := by decide +kernel
theorem dX_init_20 : decode zc_X_init 20 = .ok (.bipush 16, 2) := by decide +kernel
theorem dX_init_22 : decode zc_X_init 22 = .ok (.newarray .int, 2) := by decide +kernel
theorem dX_init_24 : decode zc_X_init 24 = .ok (.putfield 17, 3) := by decide +kernel
theorem dX_init_27 : decode zc_X_init 27 = .ok (.aload_n 0, 1) := by decide +kernel
theorem dX_init_28 : decode zc_X_init 28 = .ok (.bipush 16, 2) := by decide +kernel
theorem dX_init_30 : decode zc_X_init 30 = .ok (.newarray .int, 2) := by decide +kernel
theorem dX_init_32 : decode zc_X_init 32 = .ok (.putfield 20, 3) := by decide +kernel
theorem dX_init_35 : decode zc_X_init 35 = .ok (.aload_n 0, 1) := by decide +kernel
theorem dX_init_36 : decode zc_X_init 36 = .ok (.iconst 4, 1) := by decide +kernel
theorem dX_init_37 : decode zc_X_init 37 = .ok (.anewarray 23, 3) := by decide +kernel
theorem dX_init_40 : decode zc_X_init 40 = .ok (.putfield 25, 3) := by decide +kernel
theorem dX_init_43 : decode zc_X_init 43 = .ok (.aload_n 0, 1) := by decide +kernel
theorem dX_init_44 : decode zc_X_init 44 = .ok (.bipush 16, 2) := by decide +kernel
theorem dX_init_46 : decode zc_X_init 46 = .ok (.anewarray 29, 3) := by decide +kernel
theorem dX_init_49 : decode zc_X_init 49 = .ok (.putfield 31, 3) := by decide +kernel
theorem dX_init_52 : decode zc_X_init 52 = .ok (.aload_n 0, 1) := by decide +kernel
theorem dX_init_53 : decode zc_X_init 53 = .ok (.bipush 80, 2) := by decide +kernel
theorem dX_init_55 : decode zc_X_init 55 = .ok (.anewarray 35, 3) := by decide +kernel
theorem dX_init_58 : decode zc_X_init 58 = .ok (.putfield 37, 3) := by decide +kernel
theorem dX_init_61 : decode zc_X_init 61 = .ok (.aload_n 0, 1) := by decide +kernel
theorem dX_init_62 : decode zc_X_init 62 = .ok (.iconst 0, 1) := by decide +kernel
theorem dX_init_63 : decode zc_X_init 63 = .ok (.putfield 41, 3) := by decide +kernel
theorem dX_init_66 : decode zc_X_init 66 = .ok (.aload_n 0, 1) := by decide +kernel
theorem dX_init_67 : decode zc_X_init 67 = .ok (.new 45, 3) := by decide +kernel
theorem dX_init_70 : decode zc_X_init 70 = .ok (.dup, 1) := by decide +kernel
theorem dX_init_71 : decode zc_X_init 71 = .ok (.invokespecial 47, 3) := by decide +kernel
theorem dX_init_74 : decode zc_X_init 74 = .ok (.putfield 48, 3) := by decide +kernel
theorem dX_init_77 : decode zc_X_init 77 = .ok (.iconst 0, 1) := by decide +kernel
theorem dX_init_78 : decode zc_X_init 78 = .ok (.istore_n 1, 1) := by decide +kernel
theorem dX_init_79 : decode zc_X_init 79 = .ok (.iload_n 1, 1) := by decide +kernel
theorem dX_init_80 : decode zc_X_init 80 = .ok (.iconst 4, 1) := by decide +kernel
theorem dX_init_81 : decode zc_X_init 81 = .ok (.if_icmp .ge 22, 3) := by decide +kernel
theorem dX_init_84 : decode zc_X_init 84 = .ok (.aload_n 0, 1) := by decide +kernel
theorem dX_init_85 : decode zc_X_init 85 = .ok (.getfield 25, 3) := by decide +kernel
theorem dX_init_88 : decode zc_X_init 88 = .ok (.iload_n 1, 1) := by decide +kernel
theorem dX_init_89 : decode zc_X_init 89 = .ok (.new 23, 3) := by decide +kernel
theorem dX_init_92 : decode zc_X_init 92 = .ok (.dup, 1) := by decide +kernel
theorem dX_init_93 : decode zc_X_init 93 = .ok (.invokespecial 52, 3) := by decide +kernel
theorem dX_init_96 : decode zc_X_init 96 = .ok (.aastore, 1) := by decide +kernel
theorem dX_init_97 : decode zc_X_init 97 = .ok (.iinc 1 1, 3) := by decide +kernel
theorem dX_init_100 : decode zc_X_init 100 = .ok (.goto (-21), 3) := by decide +kernel
theorem dX_init_103 : decode zc_X_init 103 = .ok (.iconst 0, 1) := by decide +kernel
theorem dX_init_104 : decode zc_X_init 104 = .ok (.istore_n 1, 1) := by decide +kernel
theorem dX_init_105 : decode zc_X_init 105 = .ok (.iload_n 1, 1) := by decide +kernel
theorem dX_init_106 : decode zc_X_init 106 = .ok (.bipush 16, 2) := by decide +kernel
theorem dX_init_108 : decode zc_X_init 108 = .ok (.if_icmp .ge 22, 3) := by decide +kernel
theorem dX_init_111 : decode zc_X_init 111 = .ok (.aload_n 0, 1) := by decide +kernel
theorem dX_init_112 : decode zc_X_init 112 = .ok (.getfield 31, 3) := by decide +kernel
theorem dX_init_115 : decode zc_X_init 115 = .ok (.iload_n 1, 1) := by decide +kernel
theorem dX_init_116 : decode zc_X_init 116 = .ok (.new 29, 3) := by decide +kernel
theorem dX_init_119 : decode zc_X_init 119 = .ok (.dup, 1) := by decide +kernel
theorem dX_init_120 : decode zc_X_init 120 = .ok (.invokespecial 53, 3) := by decide +kernel
theorem dX_init_123 : decode zc_X_init 123 = .ok (.aastore, 1) := by decide +kernel
theorem dX_init_124 : decode zc_X_init 124 = .ok (.iinc 1 1, 3) := by decide +kernel
theorem dX_init_127 : decode zc_X_init 127 = .ok (.goto (-22), 3) := by decide +kernel
theorem dX_init_130 : decode zc_X_init 130 = .ok (.return_, 1) := by decide +kernel
theorem dJ_init_0 : decode zc_J_init 0 = .ok (.aload_n 0, 1) := by decide +kernel
theorem dJ_init_1 : decode zc_J_init 1 = .ok (.invokespecial 3, 3) := by decide +kernel
theorem dJ_init_4 : decode zc_J_init 4 = .ok (.aload_n 0, 1) := by decide +kernel
theorem dJ_init_5 : decode zc_J_init 5 = .ok (.bipush 16, 2) := by decide +kernel
theorem dJ_init_7 : decode zc_J_init 7 = .ok (.newarray .int, 2) := by decide +kernel
theorem dJ_init_9 : decode zc_J_init 9 = .ok (.putfield 9, 3) := by decide +kernel
theorem dJ_init_12 : decode zc_J_init 12 = .ok (.aload_n 0, 1) := by decide +kernel
theorem dJ_init_13 : decode zc_J_init 13 = .ok (.iconst 0, 1) := by decide +kernel
theorem dJ_init_14 : decode zc_J_init 14 = .ok (.putfield 15, 3) := by decide +kernel
theorem dJ_init_17 : decode zc_J_init 17 = .ok (.return_, 1) := by decide +kernel
theorem dP_init_0 : decode zc_P_init 0 = .ok (.aload_n 0, 1) := by decide +kernel
theorem dP_init_1 : decode zc_P_init 1 = .ok (.invokespecial 3, 3) := by decide +kernel
theorem dP_init_4 : decode zc_P_init 4 = .ok (.aload_n 0, 1) := by decide +kernel
theorem dP_init_5 : decode zc_P_init 5 = .ok (.bipush 16, 2) := by decide +kernel
theorem dP_init_7 : decode zc_P_init 7 = .ok (.newarray .int, 2) := by decide +kernel
theorem dP_init_9 : decode zc_P_init 9 = .ok (.putfield 9, 3) := by decide +kernel
theorem dP_init_12 : decode zc_P_init 12 = .ok (.aload_n 0, 1) := by decide +kernel
theorem dP_init_13 : decode zc_P_init 13 = .ok (.bipush 6, 2) := by decide +kernel
theorem dP_init_15 : decode zc_P_init 15 = .ok (.anewarray 15, 3) := by decide +kernel
theorem dP_init_18 : decode zc_P_init 18 = .ok (.putfield 17, 3) := by decide +kernel
theorem dP_init_21 : decode zc_P_init 21 = .ok (.aload_n 0, 1) := by decide +kernel
theorem dP_init_22 : decode zc_P_init 22 = .ok (.iconst 0, 1) := by decide +kernel
theorem dP_init_23 : decode zc_P_init 23 = .ok (.putfield 21, 3) := by decide +kernel
theorem dP_init_26 : decode zc_P_init 26 = .ok (.aload_n 0, 1) := by decide +kernel
theorem dP_init_27 : decode zc_P_init 27 = .ok (.lconst 0, 1) := by decide +kernel
theorem dP_init_28 : decode zc_P_init 28 = .ok (.putfield 25, 3) := by decide +kernel
theorem dP_init_31 : decode zc_P_init 31 = .ok (.return_, 1) := by decide +kernel
theorem dN_init_0 : decode zc_N_init 0 = .ok (.aload_n 0, 1) := by decide +kernel
theorem dN_init_1 : decode zc_N_init 1 = .ok (.invokespecial 3, 3) := by decide +kernel
theorem dN_init_4 : decode zc_N_init 4 = .ok (.aload_n 0, 1) := by decide +kernel
theorem dN_init_5 : decode zc_N_init 5 = .ok (.bipush 8, 2) := by decide +kernel
theorem dN_init_7 : decode zc_N_init 7 = .ok (.newarray .int, 2) := by decide +kernel
theorem dN_init_9 : decode zc_N_init 9 = .ok (.putfield 9, 3) := by decide +kernel
theorem dN_init_12 : decode zc_N_init 12 = .ok (.aload_n 0, 1) := by decide +kernel
theorem dN_init_13 : decode zc_N_init 13 = .ok (.bipush 8, 2) := by decide +kernel
theorem dN_init_15 : decode zc_N_init 15 = .ok (.newarray .int, 2) := by decide +kernel
theorem dN_init_17 : decode zc_N_init 17 = .ok (.putfield 15, 3) := by decide +kernel
theorem dN_init_20 : decode zc_N_init 20 = .ok (.aload_n 0, 1) := by decide +kernel
theorem dN_init_21 : decode zc_N_init 21 = .ok (.iconst 0, 1) := by decide +kernel
theorem dN_init_22 : decode zc_N_init 22 = .ok (.putfield 18, 3) := by decide +kernel
theorem dN_init_25 : decode zc_N_init 25 = .ok (.aload_n 0, 1) := by decide +kernel
theorem dN_init_26 : decode zc_N_init 26 = .ok (.iconst 0, 1) := by decide +kernel
theorem dN_init_27 : decode zc_N_init 27 = .ok (.putfield 22, 3) := by decide +kernel
theorem dN_init_30 : decode zc_N_init 30 = .ok (.aload_n 0, 1) := by decide +kernel
theorem dN_init_31 : decode zc_N_init 31 = .ok (.iconst 0, 1) := by decide +kernel
theorem dN_init_32 : decode zc_N_init 32 = .ok (.putfield 25, 3) := by decide +kernel
theorem dN_init_35 : decode zc_N_init 35 = .ok (.aload_n 0, 1) := by decide +kernel
theorem dN_init_36 : decode zc_N_init 36 = .ok (.iconst 0, 1) := by decide +kernel
theorem dN_init_37 : decode zc_N_init 37 = .ok (.putfield 28, 3) := by decide +kernel
theorem dN_init_40 : decode zc_N_init 40 = .ok (.aload_n 0, 1) := by decide +kernel
theorem dN_init_41 : decode zc_N_init 41 = .ok (.iconst 0, 1) := by decide +kernel
theorem dN_init_42 : decode zc_N_init 42 = .ok (.putfield 31, 3) := by decide +kernel
theorem dN_init_45 : decode zc_N_init 45 = .ok (.return_, 1) := by decide +kernel
theorem dX_open_0 : decode zc_X_open 0 = .ok (.iload_n 1, 1) := by decide +kernel
theorem dX_open_1 : decode zc_X_open 1 = .ok (.invokestatic 54, 3) := by decide +kernel
theorem dX_open_4 : decode zc_X_open 4 = .ok (.iload_n 2, 1) := by decide +kernel
theorem dX_open_5 : decode zc_X_open 5 = .ok (.invokestatic 58, 3) := by decide +kernel
theorem dX_open_8 : decode zc_X_open 8 = .ok (.aload_n 0, 1) := by decide +kernel
theorem dX_open_9 : decode zc_X_open 9 = .ok (.getfield 9, 3) := by decide +kernel
theorem dX_open_12 : decode zc_X_open 12 = .ok (.iload_n 1, 1) := by decide +kernel
theorem dX_open_13 : decode zc_X_open 13 = .ok (.baload, 1) := by decide +kernel
theorem dX_open_14 : decode zc_X_open 14 = .ok (.ifCond .eq 13, 3) := by decide +kernel
theorem dX_open_17 : decode zc_X_open 17 = .ok (.new 61, 3) := by decide +kernel
theorem dX_open_20 : decode zc_X_open 20 = .ok (.dup, 1) := by decide +kernel
theorem dX_open_21 : decode zc_X_open 21 = .ok (.ldc 63, 2) := by decide +kernel
theorem dX_open_23 : decode zc_X_open 23 = .ok (.invokespecial 65, 3) := by decide +kernel
theorem dX_open_26 : decode zc_X_open 26 = .ok (.athrow, 1) := by decide +kernel
theorem dX_open_27 : decode zc_X_open 27 = .ok (.aload_n 0, 1) := by decide +kernel
theorem dX_open_28 : decode zc_X_open 28 = .ok (.getfield 9, 3) := by decide +kernel
theorem dX_open_31 : decode zc_X_open 31 = .ok (.iload_n 1, 1) := by decide +kernel
theorem dX_open_32 : decode zc_X_open 32 = .ok (.iconst 1, 1) := by decide +kernel
theorem dX_open_33 : decode zc_X_open 33 = .ok (.bastore, 1) := by decide +kernel
theorem dX_open_34 : decode zc_X_open 34 = .ok (.iconst 0, 1) := by decide +kernel
theorem dX_open_35 : decode zc_X_open 35 = .ok (.istore_n 3, 1) := by decide +kernel
theorem dX_open_36 : decode zc_X_open 36 = .ok (.iload_n 3, 1) := by decide +kernel
theorem dX_open_37 : decode zc_X_open 37 = .ok (.iconst 4, 1) := by decide +kernel
theorem dX_open_38 : decode zc_X_open 38 = .ok (.if_icmp .ge 25, 3) := by decide +kernel
theorem dX_open_41 : decode zc_X_open 41 = .ok (.aload_n 0, 1) := by decide +kernel
theorem dX_open_42 : decode zc_X_open 42 = .ok (.getfield 25, 3) := by decide +kernel
theorem dX_open_45 : decode zc_X_open 45 = .ok (.iconst 0, 1) := by decide +kernel
theorem dX_open_46 : decode zc_X_open 46 = .ok (.aaload, 1) := by decide +kernel
theorem dX_open_47 : decode zc_X_open 47 = .ok (.getfield 68, 3) := by decide +kernel
theorem dX_open_50 : decode zc_X_open 50 = .ok (.iload_n 1, 1) := by decide +kernel
theorem dX_open_51 : decode zc_X_open 51 = .ok (.iload_n 3, 1) := by decide +kernel
theorem dX_open_52 : decode zc_X_open 52 = .ok (.invokestatic 71, 3) := by decide +kernel
theorem dX_open_55 : decode zc_X_open 55 = .ok (.iload_n 2, 1) := by decide +kernel
theorem dX_open_56 : decode zc_X_open 56 = .ok (.iastore, 1) := by decide +kernel
theorem dX_open_57 : decode zc_X_open 57 = .ok (.iinc 3 1, 3) := by decide +kernel
theorem dX_open_60 : decode zc_X_open 60 = .ok (.goto (-24), 3) := by decide +kernel
theorem dX_open_63 : decode zc_X_open 63 = .ok (.return_, 1) := by decide +kernel
theorem dX_checkSailing_0 : decode zc_X_checkSailing 0 = .ok (.iload_n 0, 1) := by decide +kernel
theorem dX_checkSailing_1 : decode zc_X_checkSailing 1 = .ok (.ifCond .lt 8, 3) := by decide +kernel
theorem dX_checkSailing_4 : decode zc_X_checkSailing 4 = .ok (.iload_n 0, 1) := by decide +kernel
theorem dX_checkSailing_5 : decode zc_X_checkSailing 5 = .ok (.iconst 4, 1) := by decide +kernel
theorem dX_checkSailing_6 : decode zc_X_checkSailing 6 = .ok (.if_icmp .lt 13, 3) := by decide +kernel
theorem dX_checkSailing_9 : decode zc_X_checkSailing 9 = .ok (.new 209, 3) := by decide +kernel
theorem dX_checkSailing_12 : decode zc_X_checkSailing 12 = .ok (.dup, 1) := by decide +kernel
theorem dX_checkSailing_13 : decode zc_X_checkSailing 13 = .ok (.ldc 214, 2) := by decide +kernel
theorem dX_checkSailing_15 : decode zc_X_checkSailing 15 = .ok (.invokespecial 213, 3) := by decide +kernel
theorem dX_checkSailing_18 : decode zc_X_checkSailing 18 = .ok (.athrow, 1) := by decide +kernel
theorem dX_checkSailing_19 : decode zc_X_checkSailing 19 = .ok (.return_, 1) := by decide +kernel
theorem dX_checkSeats_0 : decode zc_X_checkSeats 0 = .ok (.iload_n 0, 1) := by decide +kernel
theorem dX_checkSeats_1 : decode zc_X_checkSeats 1 = .ok (.iconst 1, 1) := by decide +kernel
theorem dX_checkSeats_2 : decode zc_X_checkSeats 2 = .ok (.if_icmp .lt 9, 3) := by decide +kernel
theorem dX_checkSeats_5 : decode zc_X_checkSeats 5 = .ok (.iload_n 0, 1) := by decide +kernel
theorem dX_checkSeats_6 : decode zc_X_checkSeats 6 = .ok (.bipush 100, 2) := by decide +kernel
theorem dX_checkSeats_8 : decode zc_X_checkSeats 8 = .ok (.if_icmp .le 13, 3) := by decide +kernel
theorem dX_checkSeats_11 : decode zc_X_checkSeats 11 = .ok (.new 79, 3) := by decide +kernel
theorem dX_checkSeats_14 : decode zc_X_checkSeats 14 = .ok (.dup, 1) := by decide +kernel
theorem dX_checkSeats_15 : decode zc_X_checkSeats 15 = .ok (.ldc 224, 2) := by decide +kernel
theorem dX_checkSeats_17 : decode zc_X_checkSeats 17 = .ok (.invokespecial 83, 3) := by decide +kernel
theorem dX_checkSeats_20 : decode zc_X_checkSeats 20 = .ok (.athrow, 1) := by decide +kernel
theorem dX_checkSeats_21 : decode zc_X_checkSeats 21 = .ok (.return_, 1) := by decide +kernel
theorem dX_placeOf_0 : decode zc_X_placeOf 0 = .ok (.iload_n 0, 1) := by decide +kernel
theorem dX_placeOf_1 : decode zc_X_placeOf 1 = .ok (.iconst 4, 1) := by decide +kernel
theorem dX_placeOf_2 : decode zc_X_placeOf 2 = .ok (.imul, 1) := by decide +kernel
theorem dX_placeOf_3 : decode zc_X_placeOf 3 = .ok (.iload_n 1, 1) := by decide +kernel
theorem dX_placeOf_4 : decode zc_X_placeOf 4 = .ok (.iadd, 1) := by decide +kernel
theorem dX_placeOf_5 : decode zc_X_placeOf 5 = .ok (.ireturn, 1) := by decide +kernel
theorem dX_fare_0 : decode zc_X_fare 0 = .ok (.iload_n 1, 1) := by decide +kernel
theorem dX_fare_1 : decode zc_X_fare 1 = .ok (.invokestatic 54, 3) := by decide +kernel
theorem dX_fare_4 : decode zc_X_fare 4 = .ok (.iload_n 2, 1) := by decide +kernel
theorem dX_fare_5 : decode zc_X_fare 5 = .ok (.invokestatic 75, 3) := by decide +kernel
theorem dX_fare_8 : decode zc_X_fare 8 = .ok (.iload_n 3, 1) := by decide +kernel
theorem dX_fare_9 : decode zc_X_fare 9 = .ok (.ifCond .lt 9, 3) := by decide +kernel
theorem dX_fare_12 : decode zc_X_fare 12 = .ok (.iload_n 3, 1) := by decide +kernel
theorem dX_fare_13 : decode zc_X_fare 13 = .ok (.ldc 78, 2) := by decide +kernel
theorem dX_fare_15 : decode zc_X_fare 15 = .ok (.if_icmp .le 13, 3) := by decide +kernel
theorem dX_fare_18 : decode zc_X_fare 18 = .ok (.new 79, 3) := by decide +kernel
theorem dX_fare_21 : decode zc_X_fare 21 = .ok (.dup, 1) := by decide +kernel
theorem dX_fare_22 : decode zc_X_fare 22 = .ok (.ldc 81, 2) := by decide +kernel
theorem dX_fare_24 : decode zc_X_fare 24 = .ok (.invokespecial 83, 3) := by decide +kernel
theorem dX_fare_27 : decode zc_X_fare 27 = .ok (.athrow, 1) := by decide +kernel
theorem dX_fare_28 : decode zc_X_fare 28 = .ok (.aload_n 0, 1) := by decide +kernel
theorem dX_fare_29 : decode zc_X_fare 29 = .ok (.getfield 13, 3) := by decide +kernel
theorem dX_fare_32 : decode zc_X_fare 32 = .ok (.iload_n 1, 1) := by decide +kernel
theorem dX_fare_33 : decode zc_X_fare 33 = .ok (.iload_n 2, 1) := by decide +kernel
theorem dX_fare_34 : decode zc_X_fare 34 = .ok (.invokestatic 71, 3) := by decide +kernel
theorem dX_fare_37 : decode zc_X_fare 37 = .ok (.iload_n 3, 1) := by decide +kernel
theorem dX_fare_38 : decode zc_X_fare 38 = .ok (.iastore, 1) := by decide +kernel
theorem dX_fare_39 : decode zc_X_fare 39 = .ok (.return_, 1) := by decide +kernel
theorem dX_checkLeg_0 : decode zc_X_checkLeg 0 = .ok (.iload_n 0, 1) := by decide +kernel
theorem dX_checkLeg_1 : decode zc_X_checkLeg 1 = .ok (.ifCond .lt 8, 3) := by decide +kernel
theorem dX_checkLeg_4 : decode zc_X_checkLeg 4 = .ok (.iload_n 0, 1) := by decide +kernel
theorem dX_checkLeg_5 : decode zc_X_checkLeg 5 = .ok (.iconst 4, 1) := by decide +kernel
theorem dX_checkLeg_6 : decode zc_X_checkLeg 6 = .ok (.if_icmp .lt 13, 3) := by decide +kernel
theorem dX_checkLeg_9 : decode zc_X_checkLeg 9 = .ok (.new 209, 3) := by decide +kernel
theorem dX_checkLeg_12 : decode zc_X_checkLeg 12 = .ok (.dup, 1) := by decide +kernel
theorem dX_checkLeg_13 : decode zc_X_checkLeg 13 = .ok (.ldc 216, 2) := by decide +kernel
theorem dX_checkLeg_15 : decode zc_X_checkLeg 15 = .ok (.invokespecial 213, 3) := by decide +kernel
theorem dX_checkLeg_18 : decode zc_X_checkLeg 18 = .ok (.athrow, 1) := by decide +kernel
theorem dX_checkLeg_19 : decode zc_X_checkLeg 19 = .ok (.return_, 1) := by decide +kernel
theorem dX_part_0 : decode zc_X_part 0 = .ok (.iload_n 1, 1) := by decide +kernel
theorem dX_part_1 : decode zc_X_part 1 = .ok (.invokestatic 54, 3) := by decide +kernel
theorem dX_part_4 : decode zc_X_part 4 = .ok (.iload_n 2, 1) := by decide +kernel
theorem dX_part_5 : decode zc_X_part 5 = .ok (.invokestatic 84, 3) := by decide +kernel
theorem dX_part_8 : decode zc_X_part 8 = .ok (.iload_n 3, 1) := by decide +kernel
theorem dX_part_9 : decode zc_X_part 9 = .ok (.invokestatic 84, 3) := by decide +kernel
theorem dX_part_12 : decode zc_X_part 12 = .ok (.iload_n 2, 1) := by decide +kernel
theorem dX_part_13 : decode zc_X_part 13 = .ok (.iload_n 3, 1) := by decide +kernel
theorem dX_part_14 : decode zc_X_part 14 = .ok (.if_icmp .lt 13, 3) := by decide +kernel
theorem dX_part_17 : decode zc_X_part 17 = .ok (.new 79, 3) := by decide +kernel
theorem dX_part_20 : decode zc_X_part 20 = .ok (.dup, 1) := by decide +kernel
theorem dX_part_21 : decode zc_X_part 21 = .ok (.ldc 87, 2) := by decide +kernel
theorem dX_part_23 : decode zc_X_part 23 = .ok (.invokespecial 83, 3) := by decide +kernel
theorem dX_part_26 : decode zc_X_part 26 = .ok (.athrow, 1) := by decide +kernel
theorem dX_part_27 : decode zc_X_part 27 = .ok (.aload_n 0, 1) := by decide +kernel
theorem dX_part_28 : decode zc_X_part 28 = .ok (.getfield 9, 3) := by decide +kernel
theorem dX_part_31 : decode zc_X_part 31 = .ok (.iload_n 1, 1) := by decide +kernel
theorem dX_part_32 : decode zc_X_part 32 = .ok (.baload, 1) := by decide +kernel
theorem dX_part_33 : decode zc_X_part 33 = .ok (.ifCond .ne 13, 3) := by decide +kernel
theorem dX_part_36 : decode zc_X_part 36 = .ok (.new 61, 3) := by decide +kernel
theorem dX_part_39 : decode zc_X_part 39 = .ok (.dup, 1) := by decide +kernel
theorem dX_part_40 : decode zc_X_part 40 = .ok (.ldc 89, 2) := by decide +kernel
theorem dX_part_42 : decode zc_X_part 42 = .ok (.invokespecial 65, 3) := by decide +kernel
theorem dX_part_45 : decode zc_X_part 45 = .ok (.athrow, 1) := by decide +kernel
theorem dX_part_46 : decode zc_X_part 46 = .ok (.aload_n 0, 1) := by decide +kernel
theorem dX_part_47 : decode zc_X_part 47 = .ok (.getfield 48, 3) := by decide +kernel
theorem dX_part_50 : decode zc_X_part 50 = .ok (.getfield 91, 3) := by decide +kernel
theorem dX_part_53 : decode zc_X_part 53 = .ok (.iconst 4, 1) := by decide +kernel
theorem dX_part_54 : decode zc_X_part 54 = .ok (.if_icmp .ne 13, 3) := by decide +kernel
theorem dX_part_57 : decode zc_X_part 57 = .ok (.new 61, 3) := by decide +kernel
theorem dX_part_60 : decode zc_X_part 60 = .ok (.dup, 1) := by decide +kernel
theorem dX_part_61 : decode zc_X_part 61 = .ok (.ldc 94, 2) := by decide +kernel
theorem dX_part_63 : decode zc_X_part 63 = .ok (.invokespecial 65, 3) := by decide +kernel
theorem dX_part_66 : decode zc_X_part 66 = .ok (.athrow, 1) := by decide +kernel
theorem dX_part_67 : decode zc_X_part 67 = .ok (.aload_n 0, 1) := by decide +kernel
theorem dX_part_68 : decode zc_X_part 68 = .ok (.getfield 48, 3) := by decide +kernel
theorem dX_part_71 : decode zc_X_part 71 = .ok (.iload_n 1, 1) := by decide +kernel
theorem dX_part_72 : decode zc_X_part 72 = .ok (.iload_n 2, 1) := by decide +kernel
theorem dX_part_73 : decode zc_X_part 73 = .ok (.iload_n 3, 1) := by decide +kernel
theorem dX_part_74 : decode zc_X_part 74 = .ok (.invokevirtual 96, 3) := by decide +kernel
theorem dX_part_77 : decode zc_X_part 77 = .ok (.aload_n 0, 1) := by decide +kernel
theorem dX_part_78 : decode zc_X_part 78 = .ok (.getfield 48, 3) := by decide +kernel
theorem dX_part_81 : decode zc_X_part 81 = .ok (.getfield 91, 3) := by decide +kernel
theorem dX_part_84 : decode zc_X_part 84 = .ok (.ireturn, 1) := by decide +kernel
theorem dX_checkStop_0 : decode zc_X_checkStop 0 = .ok (.iload_n 0, 1) := by decide +kernel
theorem dX_checkStop_1 : decode zc_X_checkStop 1 = .ok (.ifCond .lt 8, 3) := by decide +kernel
theorem dX_checkStop_4 : decode zc_X_checkStop 4 = .ok (.iload_n 0, 1) := by decide +kernel
theorem dX_checkStop_5 : decode zc_X_checkStop 5 = .ok (.iconst 5, 1) := by decide +kernel
theorem dX_checkStop_6 : decode zc_X_checkStop 6 = .ok (.if_icmp .lt 13, 3) := by decide +kernel
theorem dX_checkStop_9 : decode zc_X_checkStop 9 = .ok (.new 209, 3) := by decide +kernel
theorem dX_checkStop_12 : decode zc_X_checkStop 12 = .ok (.dup, 1) := by decide +kernel
theorem dX_checkStop_13 : decode zc_X_checkStop 13 = .ok (.ldc 218, 2) := by decide +kernel
theorem dX_checkStop_15 : decode zc_X_checkStop 15 = .ok (.invokespecial 213, 3) := by decide +kernel
theorem dX_checkStop_18 : decode zc_X_checkStop 18 = .ok (.athrow, 1) := by decide +kernel
theorem dX_checkStop_19 : decode zc_X_checkStop 19 = .ok (.return_, 1) := by decide +kernel
theorem dJ_addPart_0 : decode zc_J_addPart 0 = .ok (.iload_n 2, 1) := by decide +kernel
theorem dJ_addPart_1 : decode zc_J_addPart 1 = .ok (.istore 4, 2) := by decide +kernel
theorem dJ_addPart_3 : decode zc_J_addPart 3 = .ok (.iload 4, 2) := by decide +kernel
theorem dJ_addPart_5 : decode zc_J_addPart 5 = .ok (.iload_n 3, 1) := by decide +kernel
theorem dJ_addPart_6 : decode zc_J_addPart 6 = .ok (.if_icmp .ge 24, 3) := by decide +kernel
theorem dJ_addPart_9 : decode zc_J_addPart 9 = .ok (.aload_n 0, 1) := by decide +kernel
theorem dJ_addPart_10 : decode zc_J_addPart 10 = .ok (.getfield 9, 3) := by decide +kernel
theorem dJ_addPart_13 : decode zc_J_addPart 13 = .ok (.iload_n 1, 1) := by decide +kernel
theorem dJ_addPart_14 : decode zc_J_addPart 14 = .ok (.iload 4, 2) := by decide +kernel
theorem dJ_addPart_16 : decode zc_J_addPart 16 = .ok (.invokestatic 19, 3) := by decide +kernel
theorem dJ_addPart_19 : decode zc_J_addPart 19 = .ok (.dup2, 1) := by decide +kernel
theorem dJ_addPart_20 : decode zc_J_addPart 20 = .ok (.iaload, 1) := by decide +kernel
theorem dJ_addPart_21 : decode zc_J_addPart 21 = .ok (.iconst 1, 1) := by decide +kernel
theorem dJ_addPart_22 : decode zc_J_addPart 22 = .ok (.iadd, 1) := by decide +kernel
theorem dJ_addPart_23 : decode zc_J_addPart 23 = .ok (.iastore, 1) := by decide +kernel
theorem dJ_addPart_24 : decode zc_J_addPart 24 = .ok (.iinc 4 1, 3) := by decide +kernel
theorem dJ_addPart_27 : decode zc_J_addPart 27 = .ok (.goto (-24), 3) := by decide +kernel
theorem dJ_addPart_30 : decode zc_J_addPart 30 = .ok (.aload_n 0, 1) := by decide +kernel
theorem dJ_addPart_31 : decode zc_J_addPart 31 = .ok (.dup, 1) := by decide +kernel
theorem dJ_addPart_32 : decode zc_J_addPart 32 = .ok (.getfield 15, 3) := by decide +kernel
theorem dJ_addPart_35 : decode zc_J_addPart 35 = .ok (.iconst 1, 1) := by decide +kernel
theorem dJ_addPart_36 : decode zc_J_addPart 36 = .ok (.iadd, 1) := by decide +kernel
theorem dJ_addPart_37 : decode zc_J_addPart 37 = .ok (.putfield 15, 3) := by decide +kernel
theorem dJ_addPart_40 : decode zc_J_addPart 40 = .ok (.return_, 1) := by decide +kernel
theorem dX_buy_0 : decode zc_X_buy 0 = .ok (.iload_n 1, 1) := by decide +kernel
theorem dX_buy_1 : decode zc_X_buy 1 = .ok (.invokestatic 100, 3) := by decide +kernel
theorem dX_buy_4 : decode zc_X_buy 4 = .ok (.iload_n 2, 1) := by decide +kernel
theorem dX_buy_5 : decode zc_X_buy 5 = .ok (.invokestatic 58, 3) := by decide +kernel
theorem dX_buy_8 : decode zc_X_buy 8 = .ok (.aload_n 0, 1) := by decide +kernel
theorem dX_buy_9 : decode zc_X_buy 9 = .ok (.invokevirtual 103, 3) := by decide +kernel
theorem dX_buy_12 : decode zc_X_buy 12 = .ok (.aload_n 0, 1) := by decide +kernel
theorem dX_buy_13 : decode zc_X_buy 13 = .ok (.getfield 41, 3) := by decide +kernel
theorem dX_buy_16 : decode zc_X_buy 16 = .ok (.bipush 80, 2) := by decide +kernel
theorem dX_buy_18 : decode zc_X_buy 18 = .ok (.if_icmp .ne 13, 3) := by decide +kernel
theorem dX_buy_21 : decode zc_X_buy 21 = .ok (.new 61, 3) := by decide +kernel
theorem dX_buy_24 : decode zc_X_buy 24 = .ok (.dup, 1) := by decide +kernel
theorem dX_buy_25 : decode zc_X_buy 25 = .ok (.ldc 106, 2) := by decide +kernel
theorem dX_buy_27 : decode zc_X_buy 27 = .ok (.invokespecial 65, 3) := by decide +kernel
theorem dX_buy_30 : decode zc_X_buy 30 = .ok (.athrow, 1) := by decide +kernel
theorem dX_buy_31 : decode zc_X_buy 31 = .ok (.aload_n 0, 1) := by decide +kernel
theorem dX_buy_32 : decode zc_X_buy 32 = .ok (.invokevirtual 108, 3) := by decide +kernel
theorem dX_buy_35 : decode zc_X_buy 35 = .ok (.astore_n 3, 1) := by decide +kernel
theorem dX_buy_36 : decode zc_X_buy 36 = .ok (.aload_n 0, 1) := by decide +kernel
theorem dX_buy_37 : decode zc_X_buy 37 = .ok (.getfield 25, 3) := by decide +kernel
theorem dX_buy_40 : decode zc_X_buy 40 = .ok (.iload_n 1, 1) := by decide +kernel
theorem dX_buy_41 : decode zc_X_buy 41 = .ok (.aaload, 1) := by decide +kernel
theorem dX_buy_42 : decode zc_X_buy 42 = .ok (.aload_n 3, 1) := by decide +kernel
theorem dX_buy_43 : decode zc_X_buy 43 = .ok (.iload_n 2, 1) := by decide +kernel
theorem dX_buy_44 : decode zc_X_buy 44 = .ok (.invokevirtual 112, 3) := by decide +kernel
theorem dX_buy_47 : decode zc_X_buy 47 = .ok (.ifCond .eq 13, 3) := by decide +kernel
theorem dX_buy_50 : decode zc_X_buy 50 = .ok (.aload_n 0, 1) := by decide +kernel
theorem dX_buy_51 : decode zc_X_buy 51 = .ok (.iload_n 1, 1) := by decide +kernel
theorem dX_buy_52 : decode zc_X_buy 52 = .ok (.aload_n 3, 1) := by decide +kernel
theorem dX_buy_53 : decode zc_X_buy 53 = .ok (.iload_n 2, 1) := by decide +kernel
theorem dX_buy_54 : decode zc_X_buy 54 = .ok (.invokevirtual 116, 3) := by decide +kernel
theorem dX_buy_57 : decode zc_X_buy 57 = .ok (.goto 4, 3) := by decide +kernel
end
section
theorem dX_buy_60 : decode zc_X_buy 60 = .ok (.iconst (-1), 1) := by decide +kernel
theorem dX_buy_61 : decode zc_X_buy 61 = .ok (.ireturn, 1) := by decide +kernel
theorem dX_checkPort_0 : decode zc_X_checkPort 0 = .ok (.iload_n 0, 1) := by decide +kernel
theorem dX_checkPort_1 : decode zc_X_checkPort 1 = .ok (.ifCond .lt 8, 3) := by decide +kernel
theorem dX_checkPort_4 : decode zc_X_checkPort 4 = .ok (.iload_n 0, 1) := by decide +kernel
theorem dX_checkPort_5 : decode zc_X_checkPort 5 = .ok (.iconst 4, 1) := by decide +kernel
theorem dX_checkPort_6 : decode zc_X_checkPort 6 = .ok (.if_icmp .lt 13, 3) := by decide +kernel
theorem dX_checkPort_9 : decode zc_X_checkPort 9 = .ok (.new 209, 3) := by decide +kernel
theorem dX_checkPort_12 : decode zc_X_checkPort 12 = .ok (.dup, 1) := by decide +kernel
theorem dX_checkPort_13 : decode zc_X_checkPort 13 = .ok (.ldc 211, 2) := by decide +kernel
theorem dX_checkPort_15 : decode zc_X_checkPort 15 = .ok (.invokespecial 213, 3) := by decide +kernel
theorem dX_checkPort_18 : decode zc_X_checkPort 18 = .ok (.athrow, 1) := by decide +kernel
theorem dX_checkPort_19 : decode zc_X_checkPort 19 = .ok (.return_, 1) := by decide +kernel
theorem dX_checkDraft_0 : decode zc_X_checkDraft 0 = .ok (.aload_n 0, 1) := by decide +kernel
theorem dX_checkDraft_1 : decode zc_X_checkDraft 1 = .ok (.getfield 48, 3) := by decide +kernel
theorem dX_checkDraft_4 : decode zc_X_checkDraft 4 = .ok (.getfield 91, 3) := by decide +kernel
theorem dX_checkDraft_7 : decode zc_X_checkDraft 7 = .ok (.ifCond .ne 13, 3) := by decide +kernel
theorem dX_checkDraft_10 : decode zc_X_checkDraft 10 = .ok (.new 61, 3) := by decide +kernel
theorem dX_checkDraft_13 : decode zc_X_checkDraft 13 = .ok (.dup, 1) := by decide +kernel
theorem dX_checkDraft_14 : decode zc_X_checkDraft 14 = .ok (.ldc 226, 2) := by decide +kernel
theorem dX_checkDraft_16 : decode zc_X_checkDraft 16 = .ok (.invokespecial 65, 3) := by decide +kernel
theorem dX_checkDraft_19 : decode zc_X_checkDraft 19 = .ok (.athrow, 1) := by decide +kernel
theorem dX_checkDraft_20 : decode zc_X_checkDraft 20 = .ok (.return_, 1) := by decide +kernel
theorem dX_takeDraft_0 : decode zc_X_takeDraft 0 = .ok (.aload_n 0, 1) := by decide +kernel
theorem dX_takeDraft_1 : decode zc_X_takeDraft 1 = .ok (.getfield 48, 3) := by decide +kernel
theorem dX_takeDraft_4 : decode zc_X_takeDraft 4 = .ok (.astore_n 1, 1) := by decide +kernel
theorem dX_takeDraft_5 : decode zc_X_takeDraft 5 = .ok (.aload_n 0, 1) := by decide +kernel
theorem dX_takeDraft_6 : decode zc_X_takeDraft 6 = .ok (.new 45, 3) := by decide +kernel
theorem dX_takeDraft_9 : decode zc_X_takeDraft 9 = .ok (.dup, 1) := by decide +kernel
theorem dX_takeDraft_10 : decode zc_X_takeDraft 10 = .ok (.invokespecial 47, 3) := by decide +kernel
theorem dX_takeDraft_13 : decode zc_X_takeDraft 13 = .ok (.putfield 48, 3) := by decide +kernel
theorem dX_takeDraft_16 : decode zc_X_takeDraft 16 = .ok (.aload_n 1, 1) := by decide +kernel
theorem dX_takeDraft_17 : decode zc_X_takeDraft 17 = .ok (.areturn, 1) := by decide +kernel
theorem dP_fits_0 : decode zc_P_fits 0 = .ok (.iconst 0, 1) := by decide +kernel
theorem dP_fits_1 : decode zc_P_fits 1 = .ok (.istore_n 3, 1) := by decide +kernel
theorem dP_fits_2 : decode zc_P_fits 2 = .ok (.iload_n 3, 1) := by decide +kernel
theorem dP_fits_3 : decode zc_P_fits 3 = .ok (.bipush 16, 2) := by decide +kernel
theorem dP_fits_5 : decode zc_P_fits 5 = .ok (.if_icmp .ge 28, 3) := by decide +kernel
theorem dP_fits_8 : decode zc_P_fits 8 = .ok (.aload_n 0, 1) := by decide +kernel
theorem dP_fits_9 : decode zc_P_fits 9 = .ok (.getfield 9, 3) := by decide +kernel
theorem dP_fits_12 : decode zc_P_fits 12 = .ok (.iload_n 3, 1) := by decide +kernel
theorem dP_fits_13 : decode zc_P_fits 13 = .ok (.iaload, 1) := by decide +kernel
theorem dP_fits_14 : decode zc_P_fits 14 = .ok (.iload_n 2, 1) := by decide +kernel
theorem dP_fits_15 : decode zc_P_fits 15 = .ok (.aload_n 1, 1) := by decide +kernel
theorem dP_fits_16 : decode zc_P_fits 16 = .ok (.getfield 29, 3) := by decide +kernel
theorem dP_fits_19 : decode zc_P_fits 19 = .ok (.iload_n 3, 1) := by decide +kernel
theorem dP_fits_20 : decode zc_P_fits 20 = .ok (.iaload, 1) := by decide +kernel
theorem dP_fits_21 : decode zc_P_fits 21 = .ok (.imul, 1) := by decide +kernel
theorem dP_fits_22 : decode zc_P_fits 22 = .ok (.if_icmp .ge 5, 3) := by decide +kernel
theorem dP_fits_25 : decode zc_P_fits 25 = .ok (.iconst 0, 1) := by decide +kernel
theorem dP_fits_26 : decode zc_P_fits 26 = .ok (.ireturn, 1) := by decide +kernel
theorem dP_fits_27 : decode zc_P_fits 27 = .ok (.iinc 3 1, 3) := by decide +kernel
theorem dP_fits_30 : decode zc_P_fits 30 = .ok (.goto (-28), 3) := by decide +kernel
theorem dP_fits_33 : decode zc_P_fits 33 = .ok (.iconst 1, 1) := by decide +kernel
theorem dP_fits_34 : decode zc_P_fits 34 = .ok (.ireturn, 1) := by decide +kernel
theorem dX_sell_0 : decode zc_X_sell 0 = .ok (.aload_n 0, 1) := by decide +kernel
theorem dX_sell_1 : decode zc_X_sell 1 = .ok (.aload_n 2, 1) := by decide +kernel
theorem dX_sell_2 : decode zc_X_sell 2 = .ok (.iload_n 3, 1) := by decide +kernel
theorem dX_sell_3 : decode zc_X_sell 3 = .ok (.invokevirtual 228, 3) := by decide +kernel
theorem dX_sell_6 : decode zc_X_sell 6 = .ok (.lstore 4, 2) := by decide +kernel
theorem dX_sell_8 : decode zc_X_sell 8 = .ok (.aload_n 0, 1) := by decide +kernel
theorem dX_sell_9 : decode zc_X_sell 9 = .ok (.iload_n 1, 1) := by decide +kernel
theorem dX_sell_10 : decode zc_X_sell 10 = .ok (.aload_n 2, 1) := by decide +kernel
theorem dX_sell_11 : decode zc_X_sell 11 = .ok (.iload_n 3, 1) := by decide +kernel
theorem dX_sell_12 : decode zc_X_sell 12 = .ok (.invokevirtual 151, 3) := by decide +kernel
theorem dX_sell_15 : decode zc_X_sell 15 = .ok (.aload_n 0, 1) := by decide +kernel
theorem dX_sell_16 : decode zc_X_sell 16 = .ok (.getfield 25, 3) := by decide +kernel
theorem dX_sell_19 : decode zc_X_sell 19 = .ok (.iload_n 1, 1) := by decide +kernel
theorem dX_sell_20 : decode zc_X_sell 20 = .ok (.aaload, 1) := by decide +kernel
theorem dX_sell_21 : decode zc_X_sell 21 = .ok (.dup, 1) := by decide +kernel
theorem dX_sell_22 : decode zc_X_sell 22 = .ok (.getfield 155, 3) := by decide +kernel
theorem dX_sell_25 : decode zc_X_sell 25 = .ok (.lload 4, 2) := by decide +kernel
theorem dX_sell_27 : decode zc_X_sell 27 = .ok (.ladd, 1) := by decide +kernel
theorem dX_sell_28 : decode zc_X_sell 28 = .ok (.putfield 155, 3) := by decide +kernel
theorem dX_sell_31 : decode zc_X_sell 31 = .ok (.aload_n 0, 1) := by decide +kernel
theorem dX_sell_32 : decode zc_X_sell 32 = .ok (.getfield 41, 3) := by decide +kernel
theorem dX_sell_35 : decode zc_X_sell 35 = .ok (.istore 6, 2) := by decide +kernel
theorem dX_sell_37 : decode zc_X_sell 37 = .ok (.aload_n 0, 1) := by decide +kernel
theorem dX_sell_38 : decode zc_X_sell 38 = .ok (.getfield 37, 3) := by decide +kernel
theorem dX_sell_41 : decode zc_X_sell 41 = .ok (.iload 6, 2) := by decide +kernel
theorem dX_sell_43 : decode zc_X_sell 43 = .ok (.new 35, 3) := by decide +kernel
theorem dX_sell_46 : decode zc_X_sell 46 = .ok (.dup, 1) := by decide +kernel
theorem dX_sell_47 : decode zc_X_sell 47 = .ok (.iload_n 1, 1) := by decide +kernel
theorem dX_sell_48 : decode zc_X_sell 48 = .ok (.iload_n 3, 1) := by decide +kernel
theorem dX_sell_49 : decode zc_X_sell 49 = .ok (.aload_n 2, 1) := by decide +kernel
theorem dX_sell_50 : decode zc_X_sell 50 = .ok (.lload 4, 2) := by decide +kernel
theorem dX_sell_52 : decode zc_X_sell 52 = .ok (.invokespecial 232, 3) := by decide +kernel
theorem dX_sell_55 : decode zc_X_sell 55 = .ok (.aastore, 1) := by decide +kernel
theorem dX_sell_56 : decode zc_X_sell 56 = .ok (.aload_n 0, 1) := by decide +kernel
theorem dX_sell_57 : decode zc_X_sell 57 = .ok (.dup, 1) := by decide +kernel
theorem dX_sell_58 : decode zc_X_sell 58 = .ok (.getfield 41, 3) := by decide +kernel
theorem dX_sell_61 : decode zc_X_sell 61 = .ok (.iconst 1, 1) := by decide +kernel
theorem dX_sell_62 : decode zc_X_sell 62 = .ok (.iadd, 1) := by decide +kernel
theorem dX_sell_63 : decode zc_X_sell 63 = .ok (.putfield 41, 3) := by decide +kernel
theorem dX_sell_66 : decode zc_X_sell 66 = .ok (.iload 6, 2) := by decide +kernel
theorem dX_sell_68 : decode zc_X_sell 68 = .ok (.ireturn, 1) := by decide +kernel
theorem dX_costOf_0 : decode zc_X_costOf 0 = .ok (.lconst 0, 1) := by decide +kernel
theorem dX_costOf_1 : decode zc_X_costOf 1 = .ok (.lstore_n 3, 1) := by decide +kernel
theorem dX_costOf_2 : decode zc_X_costOf 2 = .ok (.iconst 0, 1) := by decide +kernel
theorem dX_costOf_3 : decode zc_X_costOf 3 = .ok (.istore 5, 2) := by decide +kernel
theorem dX_costOf_5 : decode zc_X_costOf 5 = .ok (.iload 5, 2) := by decide +kernel
theorem dX_costOf_7 : decode zc_X_costOf 7 = .ok (.bipush 16, 2) := by decide +kernel
theorem dX_costOf_9 : decode zc_X_costOf 9 = .ok (.if_icmp .ge 29, 3) := by decide +kernel
theorem dX_costOf_12 : decode zc_X_costOf 12 = .ok (.lload_n 3, 1) := by decide +kernel
theorem dX_costOf_13 : decode zc_X_costOf 13 = .ok (.aload_n 1, 1) := by decide +kernel
theorem dX_costOf_14 : decode zc_X_costOf 14 = .ok (.getfield 235, 3) := by decide +kernel
theorem dX_costOf_17 : decode zc_X_costOf 17 = .ok (.iload 5, 2) := by decide +kernel
theorem dX_costOf_19 : decode zc_X_costOf 19 = .ok (.iaload, 1) := by decide +kernel
theorem dX_costOf_20 : decode zc_X_costOf 20 = .ok (.i2l, 1) := by decide +kernel
theorem dX_costOf_21 : decode zc_X_costOf 21 = .ok (.aload_n 0, 1) := by decide +kernel
theorem dX_costOf_22 : decode zc_X_costOf 22 = .ok (.getfield 13, 3) := by decide +kernel
theorem dX_costOf_25 : decode zc_X_costOf 25 = .ok (.iload 5, 2) := by decide +kernel
theorem dX_costOf_27 : decode zc_X_costOf 27 = .ok (.iaload, 1) := by decide +kernel
theorem dX_costOf_28 : decode zc_X_costOf 28 = .ok (.i2l, 1) := by decide +kernel
theorem dX_costOf_29 : decode zc_X_costOf 29 = .ok (.lmul, 1) := by decide +kernel
theorem dX_costOf_30 : decode zc_X_costOf 30 = .ok (.ladd, 1) := by decide +kernel
theorem dX_costOf_31 : decode zc_X_costOf 31 = .ok (.lstore_n 3, 1) := by decide +kernel
theorem dX_costOf_32 : decode zc_X_costOf 32 = .ok (.iinc 5 1, 3) := by decide +kernel
theorem dX_costOf_35 : decode zc_X_costOf 35 = .ok (.goto (-30), 3) := by decide +kernel
theorem dX_costOf_38 : decode zc_X_costOf 38 = .ok (.lload_n 3, 1) := by decide +kernel
theorem dX_costOf_39 : decode zc_X_costOf 39 = .ok (.iload_n 2, 1) := by decide +kernel
theorem dX_costOf_40 : decode zc_X_costOf 40 = .ok (.i2l, 1) := by decide +kernel
theorem dX_costOf_41 : decode zc_X_costOf 41 = .ok (.lmul, 1) := by decide +kernel
theorem dX_costOf_42 : decode zc_X_costOf 42 = .ok (.lreturn, 1) := by decide +kernel
theorem dX_moveToSold_0 : decode zc_X_moveToSold 0 = .ok (.aload_n 0, 1) := by decide +kernel
theorem dX_moveToSold_1 : decode zc_X_moveToSold 1 = .ok (.getfield 25, 3) := by decide +kernel
theorem dX_moveToSold_4 : decode zc_X_moveToSold 4 = .ok (.iload_n 1, 1) := by decide +kernel
theorem dX_moveToSold_5 : decode zc_X_moveToSold 5 = .ok (.aaload, 1) := by decide +kernel
theorem dX_moveToSold_6 : decode zc_X_moveToSold 6 = .ok (.getfield 68, 3) := by decide +kernel
theorem dX_moveToSold_9 : decode zc_X_moveToSold 9 = .ok (.astore 4, 2) := by decide +kernel
theorem dX_moveToSold_11 : decode zc_X_moveToSold 11 = .ok (.iconst 0, 1) := by decide +kernel
theorem dX_moveToSold_12 : decode zc_X_moveToSold 12 = .ok (.istore 5, 2) := by decide +kernel
theorem dX_moveToSold_14 : decode zc_X_moveToSold 14 = .ok (.iload 5, 2) := by decide +kernel
theorem dX_moveToSold_16 : decode zc_X_moveToSold 16 = .ok (.bipush 16, 2) := by decide +kernel
theorem dX_moveToSold_18 : decode zc_X_moveToSold 18 = .ok (.if_icmp .ge 42, 3) := by decide +kernel
theorem dX_moveToSold_21 : decode zc_X_moveToSold 21 = .ok (.iload_n 3, 1) := by decide +kernel
theorem dX_moveToSold_22 : decode zc_X_moveToSold 22 = .ok (.aload_n 2, 1) := by decide +kernel
theorem dX_moveToSold_23 : decode zc_X_moveToSold 23 = .ok (.getfield 235, 3) := by decide +kernel
theorem dX_moveToSold_26 : decode zc_X_moveToSold 26 = .ok (.iload 5, 2) := by decide +kernel
theorem dX_moveToSold_28 : decode zc_X_moveToSold 28 = .ok (.iaload, 1) := by decide +kernel
theorem dX_moveToSold_29 : decode zc_X_moveToSold 29 = .ok (.imul, 1) := by decide +kernel
theorem dX_moveToSold_30 : decode zc_X_moveToSold 30 = .ok (.istore 6, 2) := by decide +kernel
theorem dX_moveToSold_32 : decode zc_X_moveToSold 32 = .ok (.aload 4, 2) := by decide +kernel
theorem dX_moveToSold_34 : decode zc_X_moveToSold 34 = .ok (.iload 5, 2) := by decide +kernel
theorem dX_moveToSold_36 : decode zc_X_moveToSold 36 = .ok (.dup2, 1) := by decide +kernel
theorem dX_moveToSold_37 : decode zc_X_moveToSold 37 = .ok (.iaload, 1) := by decide +kernel
theorem dX_moveToSold_38 : decode zc_X_moveToSold 38 = .ok (.iload 6, 2) := by decide +kernel
theorem dX_moveToSold_40 : decode zc_X_moveToSold 40 = .ok (.isub, 1) := by decide +kernel
theorem dX_moveToSold_41 : decode zc_X_moveToSold 41 = .ok (.iastore, 1) := by decide +kernel
theorem dX_moveToSold_42 : decode zc_X_moveToSold 42 = .ok (.aload_n 0, 1) := by decide +kernel
theorem dX_moveToSold_43 : decode zc_X_moveToSold 43 = .ok (.getfield 17, 3) := by decide +kernel
theorem dX_moveToSold_46 : decode zc_X_moveToSold 46 = .ok (.iload 5, 2) := by decide +kernel
theorem dX_moveToSold_48 : decode zc_X_moveToSold 48 = .ok (.dup2, 1) := by decide +kernel
theorem dX_moveToSold_49 : decode zc_X_moveToSold 49 = .ok (.iaload, 1) := by decide +kernel
theorem dX_moveToSold_50 : decode zc_X_moveToSold 50 = .ok (.iload 6, 2) := by decide +kernel
theorem dX_moveToSold_52 : decode zc_X_moveToSold 52 = .ok (.iadd, 1) := by decide +kernel
theorem dX_moveToSold_53 : decode zc_X_moveToSold 53 = .ok (.iastore, 1) := by decide +kernel
theorem dX_moveToSold_54 : decode zc_X_moveToSold 54 = .ok (.iinc 5 1, 3) := by decide +kernel
theorem dX_moveToSold_57 : decode zc_X_moveToSold 57 = .ok (.goto (-43), 3) := by decide +kernel
theorem dX_moveToSold_60 : decode zc_X_moveToSold 60 = .ok (.return_, 1) := by decide +kernel
theorem dT_init_0 : decode zc_T_init 0 = .ok (.aload_n 0, 1) := by decide +kernel
theorem dT_init_1 : decode zc_T_init 1 = .ok (.invokespecial 1, 3) := by decide +kernel
theorem dT_init_4 : decode zc_T_init 4 = .ok (.aload_n 0, 1) := by decide +kernel
theorem dT_init_5 : decode zc_T_init 5 = .ok (.iconst 0, 1) := by decide +kernel
theorem dT_init_6 : decode zc_T_init 6 = .ok (.putfield 7, 3) := by decide +kernel
theorem dT_init_9 : decode zc_T_init 9 = .ok (.aload_n 0, 1) := by decide +kernel
theorem dT_init_10 : decode zc_T_init 10 = .ok (.iload_n 1, 1) := by decide +kernel
theorem dT_init_11 : decode zc_T_init 11 = .ok (.putfield 13, 3) := by decide +kernel
theorem dT_init_14 : decode zc_T_init 14 = .ok (.aload_n 0, 1) := by decide +kernel
theorem dT_init_15 : decode zc_T_init 15 = .ok (.iload_n 2, 1) := by decide +kernel
theorem dT_init_16 : decode zc_T_init 16 = .ok (.putfield 17, 3) := by decide +kernel
theorem dT_init_19 : decode zc_T_init 19 = .ok (.aload_n 0, 1) := by decide +kernel
theorem dT_init_20 : decode zc_T_init 20 = .ok (.aload_n 3, 1) := by decide +kernel
theorem dT_init_21 : decode zc_T_init 21 = .ok (.putfield 20, 3) := by decide +kernel
theorem dT_init_24 : decode zc_T_init 24 = .ok (.aload_n 0, 1) := by decide +kernel
theorem dT_init_25 : decode zc_T_init 25 = .ok (.lload 4, 2) := by decide +kernel
theorem dT_init_27 : decode zc_T_init 27 = .ok (.putfield 24, 3) := by decide +kernel
theorem dT_init_30 : decode zc_T_init 30 = .ok (.return_, 1) := by decide +kernel
theorem dX_wish_0 : decode zc_X_wish 0 = .ok (.iload_n 1, 1) := by decide +kernel
theorem dX_wish_1 : decode zc_X_wish 1 = .ok (.invokestatic 100, 3) := by decide +kernel
theorem dX_wish_4 : decode zc_X_wish 4 = .ok (.iload_n 2, 1) := by decide +kernel
theorem dX_wish_5 : decode zc_X_wish 5 = .ok (.invokestatic 58, 3) := by decide +kernel
theorem dX_wish_8 : decode zc_X_wish 8 = .ok (.aload_n 0, 1) := by decide +kernel
theorem dX_wish_9 : decode zc_X_wish 9 = .ok (.invokevirtual 103, 3) := by decide +kernel
theorem dX_wish_12 : decode zc_X_wish 12 = .ok (.aload_n 0, 1) := by decide +kernel
theorem dX_wish_13 : decode zc_X_wish 13 = .ok (.getfield 25, 3) := by decide +kernel
theorem dX_wish_16 : decode zc_X_wish 16 = .ok (.iload_n 1, 1) := by decide +kernel
theorem dX_wish_17 : decode zc_X_wish 17 = .ok (.aaload, 1) := by decide +kernel
theorem dX_wish_18 : decode zc_X_wish 18 = .ok (.getfield 120, 3) := by decide +kernel
theorem dX_wish_21 : decode zc_X_wish 21 = .ok (.bipush 6, 2) := by decide +kernel
theorem dX_wish_23 : decode zc_X_wish 23 = .ok (.if_icmp .ne 13, 3) := by decide +kernel
theorem dX_wish_26 : decode zc_X_wish 26 = .ok (.new 61, 3) := by decide +kernel
theorem dX_wish_29 : decode zc_X_wish 29 = .ok (.dup, 1) := by decide +kernel
theorem dX_wish_30 : decode zc_X_wish 30 = .ok (.ldc 123, 2) := by decide +kernel
theorem dX_wish_32 : decode zc_X_wish 32 = .ok (.invokespecial 65, 3) := by decide +kernel
theorem dX_wish_35 : decode zc_X_wish 35 = .ok (.athrow, 1) := by decide +kernel
theorem dX_wish_36 : decode zc_X_wish 36 = .ok (.aload_n 0, 1) := by decide +kernel
theorem dX_wish_37 : decode zc_X_wish 37 = .ok (.getfield 25, 3) := by decide +kernel
theorem dX_wish_40 : decode zc_X_wish 40 = .ok (.iload_n 1, 1) := by decide +kernel
theorem dX_wish_41 : decode zc_X_wish 41 = .ok (.aaload, 1) := by decide +kernel
theorem dX_wish_42 : decode zc_X_wish 42 = .ok (.aload_n 0, 1) := by decide +kernel
theorem dX_wish_43 : decode zc_X_wish 43 = .ok (.invokevirtual 108, 3) := by decide +kernel
theorem dX_wish_46 : decode zc_X_wish 46 = .ok (.iload_n 2, 1) := by decide +kernel
theorem dX_wish_47 : decode zc_X_wish 47 = .ok (.invokevirtual 125, 3) := by decide +kernel
theorem dX_wish_50 : decode zc_X_wish 50 = .ok (.aload_n 0, 1) := by decide +kernel
theorem dX_wish_51 : decode zc_X_wish 51 = .ok (.iload_n 1, 1) := by decide +kernel
theorem dX_wish_52 : decode zc_X_wish 52 = .ok (.invokevirtual 129, 3) := by decide +kernel
theorem dX_wish_55 : decode zc_X_wish 55 = .ok (.ireturn, 1) := by decide +kernel
theorem dP_addWish_0 : decode zc_P_addWish 0 = .ok (.aload_n 0, 1) := by decide +kernel
theorem dP_addWish_1 : decode zc_P_addWish 1 = .ok (.getfield 17, 3) := by decide +kernel
theorem dP_addWish_4 : decode zc_P_addWish 4 = .ok (.aload_n 0, 1) := by decide +kernel
theorem dP_addWish_5 : decode zc_P_addWish 5 = .ok (.getfield 21, 3) := by decide +kernel
theorem dP_addWish_8 : decode zc_P_addWish 8 = .ok (.new 15, 3) := by decide +kernel
theorem dP_addWish_11 : decode zc_P_addWish 11 = .ok (.dup, 1) := by decide +kernel
theorem dP_addWish_12 : decode zc_P_addWish 12 = .ok (.aload_n 1, 1) := by decide +kernel
theorem dP_addWish_13 : decode zc_P_addWish 13 = .ok (.iload_n 2, 1) := by decide +kernel
theorem dP_addWish_14 : decode zc_P_addWish 14 = .ok (.invokespecial 34, 3) := by decide +kernel
theorem dP_addWish_17 : decode zc_P_addWish 17 = .ok (.aastore, 1) := by decide +kernel
theorem dP_addWish_18 : decode zc_P_addWish 18 = .ok (.aload_n 0, 1) := by decide +kernel
theorem dP_addWish_19 : decode zc_P_addWish 19 = .ok (.dup, 1) := by decide +kernel
theorem dP_addWish_20 : decode zc_P_addWish 20 = .ok (.getfield 21, 3) := by decide +kernel
theorem dP_addWish_23 : decode zc_P_addWish 23 = .ok (.iconst 1, 1) := by decide +kernel
theorem dP_addWish_24 : decode zc_P_addWish 24 = .ok (.iadd, 1) := by decide +kernel
theorem dP_addWish_25 : decode zc_P_addWish 25 = .ok (.putfield 21, 3) := by decide +kernel
theorem dP_addWish_28 : decode zc_P_addWish 28 = .ok (.return_, 1) := by decide +kernel
theorem dH_init_0 : decode zc_H_init 0 = .ok (.aload_n 0, 1) := by decide +kernel
theorem dH_init_1 : decode zc_H_init 1 = .ok (.invokespecial 1, 3) := by decide +kernel
theorem dH_init_4 : decode zc_H_init 4 = .ok (.aload_n 0, 1) := by decide +kernel
theorem dH_init_5 : decode zc_H_init 5 = .ok (.aload_n 1, 1) := by decide +kernel
theorem dH_init_6 : decode zc_H_init 6 = .ok (.putfield 7, 3) := by decide +kernel
theorem dH_init_9 : decode zc_H_init 9 = .ok (.aload_n 0, 1) := by decide +kernel
theorem dH_init_10 : decode zc_H_init 10 = .ok (.iload_n 2, 1) := by decide +kernel
theorem dH_init_11 : decode zc_H_init 11 = .ok (.putfield 13, 3) := by decide +kernel
theorem dH_init_14 : decode zc_H_init 14 = .ok (.return_, 1) := by decide +kernel
theorem dX_serve_0 : decode zc_X_serve 0 = .ok (.aload_n 0, 1) := by decide +kernel
theorem dX_serve_1 : decode zc_X_serve 1 = .ok (.getfield 25, 3) := by decide +kernel
theorem dX_serve_4 : decode zc_X_serve 4 = .ok (.iload_n 1, 1) := by decide +kernel
theorem dX_serve_5 : decode zc_X_serve 5 = .ok (.aaload, 1) := by decide +kernel
theorem dX_serve_6 : decode zc_X_serve 6 = .ok (.astore_n 2, 1) := by decide +kernel
theorem dX_serve_7 : decode zc_X_serve 7 = .ok (.aload_n 2, 1) := by decide +kernel
theorem dX_serve_8 : decode zc_X_serve 8 = .ok (.getfield 120, 3) := by decide +kernel
theorem dX_serve_11 : decode zc_X_serve 11 = .ok (.istore_n 3, 1) := by decide +kernel
theorem dX_serve_12 : decode zc_X_serve 12 = .ok (.iconst 0, 1) := by decide +kernel
theorem dX_serve_13 : decode zc_X_serve 13 = .ok (.istore 4, 2) := by decide +kernel
theorem dX_serve_15 : decode zc_X_serve 15 = .ok (.iconst 0, 1) := by decide +kernel
theorem dX_serve_16 : decode zc_X_serve 16 = .ok (.istore 5, 2) := by decide +kernel
theorem dX_serve_18 : decode zc_X_serve 18 = .ok (.iload 5, 2) := by decide +kernel
theorem dX_serve_20 : decode zc_X_serve 20 = .ok (.iload_n 3, 1) := by decide +kernel
theorem dX_serve_21 : decode zc_X_serve 21 = .ok (.if_icmp .ge 75, 3) := by decide +kernel
theorem dX_serve_24 : decode zc_X_serve 24 = .ok (.aload_n 2, 1) := by decide +kernel
theorem dX_serve_25 : decode zc_X_serve 25 = .ok (.getfield 238, 3) := by decide +kernel
theorem dX_serve_28 : decode zc_X_serve 28 = .ok (.iload 5, 2) := by decide +kernel
theorem dX_serve_30 : decode zc_X_serve 30 = .ok (.aaload, 1) := by decide +kernel
theorem dX_serve_31 : decode zc_X_serve 31 = .ok (.astore 6, 2) := by decide +kernel
theorem dX_serve_33 : decode zc_X_serve 33 = .ok (.aload_n 0, 1) := by decide +kernel
theorem dX_serve_34 : decode zc_X_serve 34 = .ok (.getfield 41, 3) := by decide +kernel
theorem dX_serve_37 : decode zc_X_serve 37 = .ok (.bipush 80, 2) := by decide +kernel
theorem dX_serve_39 : decode zc_X_serve 39 = .ok (.if_icmp .ge 39, 3) := by decide +kernel
theorem dX_serve_42 : decode zc_X_serve 42 = .ok (.aload_n 2, 1) := by decide +kernel
theorem dX_serve_43 : decode zc_X_serve 43 = .ok (.aload 6, 2) := by decide +kernel
theorem dX_serve_45 : decode zc_X_serve 45 = .ok (.getfield 242, 3) := by decide +kernel
theorem dX_serve_48 : decode zc_X_serve 48 = .ok (.aload 6, 2) := by decide +kernel
theorem dX_serve_50 : decode zc_X_serve 50 = .ok (.getfield 245, 3) := by decide +kernel
theorem dX_serve_53 : decode zc_X_serve 53 = .ok (.invokevirtual 112, 3) := by decide +kernel
theorem dX_serve_56 : decode zc_X_serve 56 = .ok (.ifCond .eq 22, 3) := by decide +kernel
theorem dX_serve_59 : decode zc_X_serve 59 = .ok (.aload_n 0, 1) := by decide +kernel
theorem dX_serve_60 : decode zc_X_serve 60 = .ok (.iload_n 1, 1) := by decide +kernel
theorem dX_serve_61 : decode zc_X_serve 61 = .ok (.aload 6, 2) := by decide +kernel
theorem dX_serve_63 : decode zc_X_serve 63 = .ok (.getfield 242, 3) := by decide +kernel
theorem dX_serve_66 : decode zc_X_serve 66 = .ok (.aload 6, 2) := by decide +kernel
theorem dX_serve_68 : decode zc_X_serve 68 = .ok (.getfield 245, 3) := by decide +kernel
theorem dX_serve_71 : decode zc_X_serve 71 = .ok (.invokevirtual 116, 3) := by decide +kernel
theorem dX_serve_74 : decode zc_X_serve 74 = .ok (.pop, 1) := by decide +kernel
theorem dX_serve_75 : decode zc_X_serve 75 = .ok (.goto 15, 3) := by decide +kernel
theorem dX_serve_78 : decode zc_X_serve 78 = .ok (.aload_n 2, 1) := by decide +kernel
theorem dX_serve_79 : decode zc_X_serve 79 = .ok (.getfield 238, 3) := by decide +kernel
theorem dX_serve_82 : decode zc_X_serve 82 = .ok (.iload 4, 2) := by decide +kernel
theorem dX_serve_84 : decode zc_X_serve 84 = .ok (.aload 6, 2) := by decide +kernel
theorem dX_serve_86 : decode zc_X_serve 86 = .ok (.aastore, 1) := by decide +kernel
theorem dX_serve_87 : decode zc_X_serve 87 = .ok (.iinc 4 1, 3) := by decide +kernel
theorem dX_serve_90 : decode zc_X_serve 90 = .ok (.iinc 5 1, 3) := by decide +kernel
theorem dX_serve_93 : decode zc_X_serve 93 = .ok (.goto (-75), 3) := by decide +kernel
theorem dX_serve_96 : decode zc_X_serve 96 = .ok (.aload_n 2, 1) := by decide +kernel
theorem dX_serve_97 : decode zc_X_serve 97 = .ok (.iload 4, 2) := by decide +kernel
theorem dX_serve_99 : decode zc_X_serve 99 = .ok (.putfield 120, 3) := by decide +kernel
theorem dX_serve_102 : decode zc_X_serve 102 = .ok (.iload_n 3, 1) := by decide +kernel
theorem dX_serve_103 : decode zc_X_serve 103 = .ok (.iload 4, 2) := by decide +kernel
theorem dX_serve_105 : decode zc_X_serve 105 = .ok (.isub, 1) := by decide +kernel
theorem dX_serve_106 : decode zc_X_serve 106 = .ok (.ireturn, 1) := by decide +kernel
theorem dX_cancel_0 : decode zc_X_cancel 0 = .ok (.aload_n 0, 1) := by decide +kernel
theorem dX_cancel_1 : decode zc_X_cancel 1 = .ok (.iload_n 1, 1) := by decide +kernel
theorem dX_cancel_2 : decode zc_X_cancel 2 = .ok (.invokevirtual 133, 3) := by decide +kernel
theorem dX_cancel_5 : decode zc_X_cancel 5 = .ok (.aload_n 0, 1) := by decide +kernel
theorem dX_cancel_6 : decode zc_X_cancel 6 = .ok (.getfield 37, 3) := by decide +kernel
theorem dX_cancel_9 : decode zc_X_cancel 9 = .ok (.iload_n 1, 1) := by decide +kernel
theorem dX_cancel_10 : decode zc_X_cancel 10 = .ok (.aaload, 1) := by decide +kernel
theorem dX_cancel_11 : decode zc_X_cancel 11 = .ok (.astore_n 2, 1) := by decide +kernel
theorem dX_cancel_12 : decode zc_X_cancel 12 = .ok (.aload_n 2, 1) := by decide +kernel
theorem dX_cancel_13 : decode zc_X_cancel 13 = .ok (.getfield 136, 3) := by decide +kernel
theorem dX_cancel_16 : decode zc_X_cancel 16 = .ok (.ifCond .eq 13, 3) := by decide +kernel
theorem dX_cancel_19 : decode zc_X_cancel 19 = .ok (.new 61, 3) := by decide +kernel
theorem dX_cancel_22 : decode zc_X_cancel 22 = .ok (.dup, 1) := by decide +kernel
theorem dX_cancel_23 : decode zc_X_cancel 23 = .ok (.ldc 140, 2) := by decide +kernel
theorem dX_cancel_25 : decode zc_X_cancel 25 = .ok (.invokespecial 65, 3) := by decide +kernel
theorem dX_cancel_28 : decode zc_X_cancel 28 = .ok (.athrow, 1) := by decide +kernel
theorem dX_cancel_29 : decode zc_X_cancel 29 = .ok (.aload_n 2, 1) := by decide +kernel
theorem dX_cancel_30 : decode zc_X_cancel 30 = .ok (.iconst 1, 1) := by decide +kernel
theorem dX_cancel_31 : decode zc_X_cancel 31 = .ok (.putfield 136, 3) := by decide +kernel
theorem dX_cancel_34 : decode zc_X_cancel 34 = .ok (.aload_n 0, 1) := by decide +kernel
theorem dX_cancel_35 : decode zc_X_cancel 35 = .ok (.aload_n 2, 1) := by decide +kernel
theorem dX_cancel_36 : decode zc_X_cancel 36 = .ok (.getfield 142, 3) := by decide +kernel
theorem dX_cancel_39 : decode zc_X_cancel 39 = .ok (.aload_n 2, 1) := by decide +kernel
theorem dX_cancel_40 : decode zc_X_cancel 40 = .ok (.getfield 145, 3) := by decide +kernel
theorem dX_cancel_43 : decode zc_X_cancel 43 = .ok (.aload_n 2, 1) := by decide +kernel
theorem dX_cancel_44 : decode zc_X_cancel 44 = .ok (.getfield 148, 3) := by decide +kernel
theorem dX_cancel_47 : decode zc_X_cancel 47 = .ok (.ineg, 1) := by decide +kernel
theorem dX_cancel_48 : decode zc_X_cancel 48 = .ok (.invokevirtual 151, 3) := by decide +kernel
theorem dX_cancel_51 : decode zc_X_cancel 51 = .ok (.aload_n 0, 1) := by decide +kernel
theorem dX_cancel_52 : decode zc_X_cancel 52 = .ok (.getfield 25, 3) := by decide +kernel
theorem dX_cancel_55 : decode zc_X_cancel 55 = .ok (.aload_n 2, 1) := by decide +kernel
theorem dX_cancel_56 : decode zc_X_cancel 56 = .ok (.getfield 142, 3) := by decide +kernel
theorem dX_cancel_59 : decode zc_X_cancel 59 = .ok (.aaload, 1) := by decide +kernel
theorem dX_cancel_60 : decode zc_X_cancel 60 = .ok (.dup, 1) := by decide +kernel
theorem dX_cancel_61 : decode zc_X_cancel 61 = .ok (.getfield 155, 3) := by decide +kernel
theorem dX_cancel_64 : decode zc_X_cancel 64 = .ok (.aload_n 2, 1) := by decide +kernel
theorem dX_cancel_65 : decode zc_X_cancel 65 = .ok (.getfield 159, 3) := by decide +kernel
theorem dX_cancel_68 : decode zc_X_cancel 68 = .ok (.lsub, 1) := by decide +kernel
theorem dX_cancel_69 : decode zc_X_cancel 69 = .ok (.putfield 155, 3) := by decide +kernel
theorem dX_cancel_72 : decode zc_X_cancel 72 = .ok (.aload_n 0, 1) := by decide +kernel
theorem dX_cancel_73 : decode zc_X_cancel 73 = .ok (.aload_n 2, 1) := by decide +kernel
end
section
theorem dX_cancel_74 : decode zc_X_cancel 74 = .ok (.getfield 142, 3) := by decide +kernel
theorem dX_cancel_77 : decode zc_X_cancel 77 = .ok (.invokevirtual 129, 3) := by decide +kernel
theorem dX_cancel_80 : decode zc_X_cancel 80 = .ok (.ireturn, 1) := by decide +kernel
theorem dX_checkTicket_0 : decode zc_X_checkTicket 0 = .ok (.iload_n 1, 1) := by decide +kernel
theorem dX_checkTicket_1 : decode zc_X_checkTicket 1 = .ok (.ifCond .lt 11, 3) := by decide +kernel
theorem dX_checkTicket_4 : decode zc_X_checkTicket 4 = .ok (.iload_n 1, 1) := by decide +kernel
theorem dX_checkTicket_5 : decode zc_X_checkTicket 5 = .ok (.aload_n 0, 1) := by decide +kernel
theorem dX_checkTicket_6 : decode zc_X_checkTicket 6 = .ok (.getfield 41, 3) := by decide +kernel
theorem dX_checkTicket_9 : decode zc_X_checkTicket 9 = .ok (.if_icmp .lt 13, 3) := by decide +kernel
theorem dX_checkTicket_12 : decode zc_X_checkTicket 12 = .ok (.new 209, 3) := by decide +kernel
theorem dX_checkTicket_15 : decode zc_X_checkTicket 15 = .ok (.dup, 1) := by decide +kernel
theorem dX_checkTicket_16 : decode zc_X_checkTicket 16 = .ok (.ldc 220, 2) := by decide +kernel
theorem dX_checkTicket_18 : decode zc_X_checkTicket 18 = .ok (.invokespecial 213, 3) := by decide +kernel
theorem dX_checkTicket_21 : decode zc_X_checkTicket 21 = .ok (.athrow, 1) := by decide +kernel
theorem dX_checkTicket_22 : decode zc_X_checkTicket 22 = .ok (.return_, 1) := by decide +kernel
theorem dX_ticket_0 : decode zc_X_ticket 0 = .ok (.aload_n 0, 1) := by decide +kernel
theorem dX_ticket_1 : decode zc_X_ticket 1 = .ok (.iload_n 1, 1) := by decide +kernel
theorem dX_ticket_2 : decode zc_X_ticket 2 = .ok (.invokevirtual 133, 3) := by decide +kernel
theorem dX_ticket_5 : decode zc_X_ticket 5 = .ok (.aload_n 0, 1) := by decide +kernel
theorem dX_ticket_6 : decode zc_X_ticket 6 = .ok (.getfield 37, 3) := by decide +kernel
theorem dX_ticket_9 : decode zc_X_ticket 9 = .ok (.iload_n 1, 1) := by decide +kernel
theorem dX_ticket_10 : decode zc_X_ticket 10 = .ok (.aaload, 1) := by decide +kernel
theorem dX_ticket_11 : decode zc_X_ticket 11 = .ok (.astore_n 3, 1) := by decide +kernel
theorem dX_ticket_12 : decode zc_X_ticket 12 = .ok (.iload_n 2, 1) := by decide +kernel
theorem dX_ticket_13 : decode zc_X_ticket 13 = .ok (.tableswitch 62 0 3 #[31, 36, 41, 49], 31) := by decide +kernel
theorem dX_ticket_44 : decode zc_X_ticket 44 = .ok (.aload_n 3, 1) := by decide +kernel
theorem dX_ticket_45 : decode zc_X_ticket 45 = .ok (.getfield 142, 3) := by decide +kernel
theorem dX_ticket_48 : decode zc_X_ticket 48 = .ok (.ireturn, 1) := by decide +kernel
theorem dX_ticket_49 : decode zc_X_ticket 49 = .ok (.aload_n 3, 1) := by decide +kernel
theorem dX_ticket_50 : decode zc_X_ticket 50 = .ok (.getfield 148, 3) := by decide +kernel
theorem dX_ticket_53 : decode zc_X_ticket 53 = .ok (.ireturn, 1) := by decide +kernel
theorem dX_ticket_54 : decode zc_X_ticket 54 = .ok (.aload_n 3, 1) := by decide +kernel
theorem dX_ticket_55 : decode zc_X_ticket 55 = .ok (.getfield 145, 3) := by decide +kernel
theorem dX_ticket_58 : decode zc_X_ticket 58 = .ok (.getfield 91, 3) := by decide +kernel
theorem dX_ticket_61 : decode zc_X_ticket 61 = .ok (.ireturn, 1) := by decide +kernel
theorem dX_ticket_62 : decode zc_X_ticket 62 = .ok (.aload_n 3, 1) := by decide +kernel
theorem dX_ticket_63 : decode zc_X_ticket 63 = .ok (.getfield 136, 3) := by decide +kernel
theorem dX_ticket_66 : decode zc_X_ticket 66 = .ok (.ifCond .eq 7, 3) := by decide +kernel
theorem dX_ticket_69 : decode zc_X_ticket 69 = .ok (.iconst 0, 1) := by decide +kernel
theorem dX_ticket_70 : decode zc_X_ticket 70 = .ok (.goto 4, 3) := by decide +kernel
theorem dX_ticket_73 : decode zc_X_ticket 73 = .ok (.iconst 1, 1) := by decide +kernel
theorem dX_ticket_74 : decode zc_X_ticket 74 = .ok (.ireturn, 1) := by decide +kernel
theorem dX_ticket_75 : decode zc_X_ticket 75 = .ok (.new 79, 3) := by decide +kernel
theorem dX_ticket_78 : decode zc_X_ticket 78 = .ok (.dup, 1) := by decide +kernel
theorem dX_ticket_79 : decode zc_X_ticket 79 = .ok (.ldc 162, 2) := by decide +kernel
theorem dX_ticket_81 : decode zc_X_ticket 81 = .ok (.invokespecial 83, 3) := by decide +kernel
theorem dX_ticket_84 : decode zc_X_ticket 84 = .ok (.athrow, 1) := by decide +kernel
theorem dX_price_0 : decode zc_X_price 0 = .ok (.aload_n 0, 1) := by decide +kernel
theorem dX_price_1 : decode zc_X_price 1 = .ok (.iload_n 1, 1) := by decide +kernel
theorem dX_price_2 : decode zc_X_price 2 = .ok (.invokevirtual 133, 3) := by decide +kernel
theorem dX_price_5 : decode zc_X_price 5 = .ok (.aload_n 0, 1) := by decide +kernel
theorem dX_price_6 : decode zc_X_price 6 = .ok (.getfield 37, 3) := by decide +kernel
theorem dX_price_9 : decode zc_X_price 9 = .ok (.iload_n 1, 1) := by decide +kernel
theorem dX_price_10 : decode zc_X_price 10 = .ok (.aaload, 1) := by decide +kernel
theorem dX_price_11 : decode zc_X_price 11 = .ok (.getfield 159, 3) := by decide +kernel
theorem dX_price_14 : decode zc_X_price 14 = .ok (.lreturn, 1) := by decide +kernel
theorem dX_hand_0 : decode zc_X_hand 0 = .ok (.iload_n 1, 1) := by decide +kernel
theorem dX_hand_1 : decode zc_X_hand 1 = .ok (.invokestatic 100, 3) := by decide +kernel
theorem dX_hand_4 : decode zc_X_hand 4 = .ok (.iload_n 2, 1) := by decide +kernel
theorem dX_hand_5 : decode zc_X_hand 5 = .ok (.invokestatic 100, 3) := by decide +kernel
theorem dX_hand_8 : decode zc_X_hand 8 = .ok (.iload_n 3, 1) := by decide +kernel
theorem dX_hand_9 : decode zc_X_hand 9 = .ok (.invokestatic 54, 3) := by decide +kernel
theorem dX_hand_12 : decode zc_X_hand 12 = .ok (.iload 4, 2) := by decide +kernel
theorem dX_hand_14 : decode zc_X_hand 14 = .ok (.invokestatic 75, 3) := by decide +kernel
theorem dX_hand_17 : decode zc_X_hand 17 = .ok (.iload_n 1, 1) := by decide +kernel
theorem dX_hand_18 : decode zc_X_hand 18 = .ok (.iload_n 2, 1) := by decide +kernel
theorem dX_hand_19 : decode zc_X_hand 19 = .ok (.invokestatic 164, 3) := by decide +kernel
theorem dX_hand_22 : decode zc_X_hand 22 = .ok (.iload 5, 2) := by decide +kernel
theorem dX_hand_24 : decode zc_X_hand 24 = .ok (.invokestatic 58, 3) := by decide +kernel
theorem dX_hand_27 : decode zc_X_hand 27 = .ok (.aload_n 0, 1) := by decide +kernel
theorem dX_hand_28 : decode zc_X_hand 28 = .ok (.iload_n 1, 1) := by decide +kernel
theorem dX_hand_29 : decode zc_X_hand 29 = .ok (.iload_n 2, 1) := by decide +kernel
theorem dX_hand_30 : decode zc_X_hand 30 = .ok (.invokevirtual 168, 3) := by decide +kernel
theorem dX_hand_33 : decode zc_X_hand 33 = .ok (.invokevirtual 172, 3) := by decide +kernel
theorem dX_hand_36 : decode zc_X_hand 36 = .ok (.ifCond .eq 13, 3) := by decide +kernel
theorem dX_hand_39 : decode zc_X_hand 39 = .ok (.new 61, 3) := by decide +kernel
theorem dX_hand_42 : decode zc_X_hand 42 = .ok (.dup, 1) := by decide +kernel
theorem dX_hand_43 : decode zc_X_hand 43 = .ok (.ldc 176, 2) := by decide +kernel
theorem dX_hand_45 : decode zc_X_hand 45 = .ok (.invokespecial 65, 3) := by decide +kernel
theorem dX_hand_48 : decode zc_X_hand 48 = .ok (.athrow, 1) := by decide +kernel
theorem dX_hand_49 : decode zc_X_hand 49 = .ok (.iload_n 3, 1) := by decide +kernel
theorem dX_hand_50 : decode zc_X_hand 50 = .ok (.iload 4, 2) := by decide +kernel
theorem dX_hand_52 : decode zc_X_hand 52 = .ok (.invokestatic 71, 3) := by decide +kernel
theorem dX_hand_55 : decode zc_X_hand 55 = .ok (.istore 6, 2) := by decide +kernel
theorem dX_hand_57 : decode zc_X_hand 57 = .ok (.aload_n 0, 1) := by decide +kernel
theorem dX_hand_58 : decode zc_X_hand 58 = .ok (.getfield 25, 3) := by decide +kernel
theorem dX_hand_61 : decode zc_X_hand 61 = .ok (.iload_n 1, 1) := by decide +kernel
theorem dX_hand_62 : decode zc_X_hand 62 = .ok (.aaload, 1) := by decide +kernel
theorem dX_hand_63 : decode zc_X_hand 63 = .ok (.getfield 68, 3) := by decide +kernel
theorem dX_hand_66 : decode zc_X_hand 66 = .ok (.iload 6, 2) := by decide +kernel
theorem dX_hand_68 : decode zc_X_hand 68 = .ok (.iaload, 1) := by decide +kernel
theorem dX_hand_69 : decode zc_X_hand 69 = .ok (.iload 5, 2) := by decide +kernel
theorem dX_hand_71 : decode zc_X_hand 71 = .ok (.if_icmp .ge 7, 3) := by decide +kernel
theorem dX_hand_74 : decode zc_X_hand 74 = .ok (.iconst (-1), 1) := by decide +kernel
theorem dX_hand_75 : decode zc_X_hand 75 = .ok (.goto 13, 3) := by decide +kernel
theorem dX_hand_78 : decode zc_X_hand 78 = .ok (.aload_n 0, 1) := by decide +kernel
theorem dX_hand_79 : decode zc_X_hand 79 = .ok (.iload_n 1, 1) := by decide +kernel
theorem dX_hand_80 : decode zc_X_hand 80 = .ok (.iload_n 2, 1) := by decide +kernel
theorem dX_hand_81 : decode zc_X_hand 81 = .ok (.iload 6, 2) := by decide +kernel
theorem dX_hand_83 : decode zc_X_hand 83 = .ok (.iload 5, 2) := by decide +kernel
theorem dX_hand_85 : decode zc_X_hand 85 = .ok (.invokevirtual 178, 3) := by decide +kernel
theorem dX_hand_88 : decode zc_X_hand 88 = .ok (.ireturn, 1) := by decide +kernel
theorem dX_checkDifferent_0 : decode zc_X_checkDifferent 0 = .ok (.iload_n 0, 1) := by decide +kernel
theorem dX_checkDifferent_1 : decode zc_X_checkDifferent 1 = .ok (.iload_n 1, 1) := by decide +kernel
theorem dX_checkDifferent_2 : decode zc_X_checkDifferent 2 = .ok (.if_icmp .ne 13, 3) := by decide +kernel
theorem dX_checkDifferent_5 : decode zc_X_checkDifferent 5 = .ok (.new 79, 3) := by decide +kernel
theorem dX_checkDifferent_8 : decode zc_X_checkDifferent 8 = .ok (.dup, 1) := by decide +kernel
theorem dX_checkDifferent_9 : decode zc_X_checkDifferent 9 = .ok (.ldc 222, 2) := by decide +kernel
theorem dX_checkDifferent_11 : decode zc_X_checkDifferent 11 = .ok (.invokespecial 83, 3) := by decide +kernel
theorem dX_checkDifferent_14 : decode zc_X_checkDifferent 14 = .ok (.athrow, 1) := by decide +kernel
theorem dX_checkDifferent_15 : decode zc_X_checkDifferent 15 = .ok (.return_, 1) := by decide +kernel
theorem dX_laneOf_0 : decode zc_X_laneOf 0 = .ok (.aload_n 0, 1) := by decide +kernel
theorem dX_laneOf_1 : decode zc_X_laneOf 1 = .ok (.getfield 31, 3) := by decide +kernel
theorem dX_laneOf_4 : decode zc_X_laneOf 4 = .ok (.iload_n 1, 1) := by decide +kernel
theorem dX_laneOf_5 : decode zc_X_laneOf 5 = .ok (.iconst 4, 1) := by decide +kernel
theorem dX_laneOf_6 : decode zc_X_laneOf 6 = .ok (.imul, 1) := by decide +kernel
theorem dX_laneOf_7 : decode zc_X_laneOf 7 = .ok (.iload_n 2, 1) := by decide +kernel
theorem dX_laneOf_8 : decode zc_X_laneOf 8 = .ok (.iadd, 1) := by decide +kernel
theorem dX_laneOf_9 : decode zc_X_laneOf 9 = .ok (.aaload, 1) := by decide +kernel
theorem dX_laneOf_10 : decode zc_X_laneOf 10 = .ok (.areturn, 1) := by decide +kernel
theorem dN_isFull_0 : decode zc_N_isFull 0 = .ok (.aload_n 0, 1) := by decide +kernel
theorem dN_isFull_1 : decode zc_N_isFull 1 = .ok (.getfield 22, 3) := by decide +kernel
theorem dN_isFull_4 : decode zc_N_isFull 4 = .ok (.bipush 8, 2) := by decide +kernel
theorem dN_isFull_6 : decode zc_N_isFull 6 = .ok (.if_icmp .ne 7, 3) := by decide +kernel
theorem dN_isFull_9 : decode zc_N_isFull 9 = .ok (.iconst 1, 1) := by decide +kernel
theorem dN_isFull_10 : decode zc_N_isFull 10 = .ok (.goto 4, 3) := by decide +kernel
theorem dN_isFull_13 : decode zc_N_isFull 13 = .ok (.iconst 0, 1) := by decide +kernel
theorem dN_isFull_14 : decode zc_N_isFull 14 = .ok (.ireturn, 1) := by decide +kernel
theorem dX_putInOutbox_0 : decode zc_X_putInOutbox 0 = .ok (.aload_n 0, 1) := by decide +kernel
theorem dX_putInOutbox_1 : decode zc_X_putInOutbox 1 = .ok (.getfield 25, 3) := by decide +kernel
theorem dX_putInOutbox_4 : decode zc_X_putInOutbox 4 = .ok (.iload_n 1, 1) := by decide +kernel
theorem dX_putInOutbox_5 : decode zc_X_putInOutbox 5 = .ok (.aaload, 1) := by decide +kernel
theorem dX_putInOutbox_6 : decode zc_X_putInOutbox 6 = .ok (.getfield 68, 3) := by decide +kernel
theorem dX_putInOutbox_9 : decode zc_X_putInOutbox 9 = .ok (.iload_n 3, 1) := by decide +kernel
theorem dX_putInOutbox_10 : decode zc_X_putInOutbox 10 = .ok (.dup2, 1) := by decide +kernel
theorem dX_putInOutbox_11 : decode zc_X_putInOutbox 11 = .ok (.iaload, 1) := by decide +kernel
theorem dX_putInOutbox_12 : decode zc_X_putInOutbox 12 = .ok (.iload 4, 2) := by decide +kernel
theorem dX_putInOutbox_14 : decode zc_X_putInOutbox 14 = .ok (.isub, 1) := by decide +kernel
theorem dX_putInOutbox_15 : decode zc_X_putInOutbox 15 = .ok (.iastore, 1) := by decide +kernel
theorem dX_putInOutbox_16 : decode zc_X_putInOutbox 16 = .ok (.aload_n 0, 1) := by decide +kernel
theorem dX_putInOutbox_17 : decode zc_X_putInOutbox 17 = .ok (.getfield 20, 3) := by decide +kernel
theorem dX_putInOutbox_20 : decode zc_X_putInOutbox 20 = .ok (.iload_n 3, 1) := by decide +kernel
theorem dX_putInOutbox_21 : decode zc_X_putInOutbox 21 = .ok (.dup2, 1) := by decide +kernel
theorem dX_putInOutbox_22 : decode zc_X_putInOutbox 22 = .ok (.iaload, 1) := by decide +kernel
theorem dX_putInOutbox_23 : decode zc_X_putInOutbox 23 = .ok (.iload 4, 2) := by decide +kernel
theorem dX_putInOutbox_25 : decode zc_X_putInOutbox 25 = .ok (.iadd, 1) := by decide +kernel
theorem dX_putInOutbox_26 : decode zc_X_putInOutbox 26 = .ok (.iastore, 1) := by decide +kernel
theorem dX_putInOutbox_27 : decode zc_X_putInOutbox 27 = .ok (.aload_n 0, 1) := by decide +kernel
theorem dX_putInOutbox_28 : decode zc_X_putInOutbox 28 = .ok (.iload_n 1, 1) := by decide +kernel
theorem dX_putInOutbox_29 : decode zc_X_putInOutbox 29 = .ok (.iload_n 2, 1) := by decide +kernel
theorem dX_putInOutbox_30 : decode zc_X_putInOutbox 30 = .ok (.invokevirtual 168, 3) := by decide +kernel
theorem dX_putInOutbox_33 : decode zc_X_putInOutbox 33 = .ok (.iload_n 3, 1) := by decide +kernel
theorem dX_putInOutbox_34 : decode zc_X_putInOutbox 34 = .ok (.iload 4, 2) := by decide +kernel
theorem dX_putInOutbox_36 : decode zc_X_putInOutbox 36 = .ok (.invokevirtual 246, 3) := by decide +kernel
theorem dX_putInOutbox_39 : decode zc_X_putInOutbox 39 = .ok (.ireturn, 1) := by decide +kernel
theorem dN_add_0 : decode zc_N_add 0 = .ok (.aload_n 0, 1) := by decide +kernel
theorem dN_add_1 : decode zc_N_add 1 = .ok (.dup, 1) := by decide +kernel
theorem dN_add_2 : decode zc_N_add 2 = .ok (.getfield 22, 3) := by decide +kernel
theorem dN_add_5 : decode zc_N_add 5 = .ok (.iconst 1, 1) := by decide +kernel
theorem dN_add_6 : decode zc_N_add 6 = .ok (.iadd, 1) := by decide +kernel
theorem dN_add_7 : decode zc_N_add 7 = .ok (.putfield 22, 3) := by decide +kernel
theorem dN_add_10 : decode zc_N_add 10 = .ok (.aload_n 0, 1) := by decide +kernel
theorem dN_add_11 : decode zc_N_add 11 = .ok (.getfield 18, 3) := by decide +kernel
theorem dN_add_14 : decode zc_N_add 14 = .ok (.aload_n 0, 1) := by decide +kernel
theorem dN_add_15 : decode zc_N_add 15 = .ok (.getfield 22, 3) := by decide +kernel
theorem dN_add_18 : decode zc_N_add 18 = .ok (.iadd, 1) := by decide +kernel
theorem dN_add_19 : decode zc_N_add 19 = .ok (.istore_n 3, 1) := by decide +kernel
theorem dN_add_20 : decode zc_N_add 20 = .ok (.aload_n 0, 1) := by decide +kernel
theorem dN_add_21 : decode zc_N_add 21 = .ok (.getfield 9, 3) := by decide +kernel
theorem dN_add_24 : decode zc_N_add 24 = .ok (.iload_n 3, 1) := by decide +kernel
theorem dN_add_25 : decode zc_N_add 25 = .ok (.invokestatic 40, 3) := by decide +kernel
theorem dN_add_28 : decode zc_N_add 28 = .ok (.iload_n 1, 1) := by decide +kernel
theorem dN_add_29 : decode zc_N_add 29 = .ok (.iastore, 1) := by decide +kernel
theorem dN_add_30 : decode zc_N_add 30 = .ok (.aload_n 0, 1) := by decide +kernel
theorem dN_add_31 : decode zc_N_add 31 = .ok (.getfield 15, 3) := by decide +kernel
theorem dN_add_34 : decode zc_N_add 34 = .ok (.iload_n 3, 1) := by decide +kernel
theorem dN_add_35 : decode zc_N_add 35 = .ok (.invokestatic 40, 3) := by decide +kernel
theorem dN_add_38 : decode zc_N_add 38 = .ok (.iload_n 2, 1) := by decide +kernel
theorem dN_add_39 : decode zc_N_add 39 = .ok (.iastore, 1) := by decide +kernel
theorem dN_add_40 : decode zc_N_add 40 = .ok (.iload_n 3, 1) := by decide +kernel
theorem dN_add_41 : decode zc_N_add 41 = .ok (.ireturn, 1) := by decide +kernel
theorem dN_cellOf_0 : decode zc_N_cellOf 0 = .ok (.iload_n 0, 1) := by decide +kernel
theorem dN_cellOf_1 : decode zc_N_cellOf 1 = .ok (.bipush 8, 2) := by decide +kernel
theorem dN_cellOf_3 : decode zc_N_cellOf 3 = .ok (.invokestatic 34, 3) := by decide +kernel
theorem dN_cellOf_6 : decode zc_N_cellOf 6 = .ok (.ireturn, 1) := by decide +kernel
theorem dX_share_0 : decode zc_X_share 0 = .ok (.iload_n 1, 1) := by decide +kernel
theorem dX_share_1 : decode zc_X_share 1 = .ok (.invokestatic 100, 3) := by decide +kernel
theorem dX_share_4 : decode zc_X_share 4 = .ok (.iload_n 2, 1) := by decide +kernel
theorem dX_share_5 : decode zc_X_share 5 = .ok (.invokestatic 100, 3) := by decide +kernel
theorem dX_share_8 : decode zc_X_share 8 = .ok (.iload_n 3, 1) := by decide +kernel
theorem dX_share_9 : decode zc_X_share 9 = .ok (.invokestatic 54, 3) := by decide +kernel
theorem dX_share_12 : decode zc_X_share 12 = .ok (.iload_n 1, 1) := by decide +kernel
theorem dX_share_13 : decode zc_X_share 13 = .ok (.iload_n 2, 1) := by decide +kernel
theorem dX_share_14 : decode zc_X_share 14 = .ok (.invokestatic 164, 3) := by decide +kernel
theorem dX_share_17 : decode zc_X_share 17 = .ok (.iconst 0, 1) := by decide +kernel
theorem dX_share_18 : decode zc_X_share 18 = .ok (.istore 4, 2) := by decide +kernel
theorem dX_share_20 : decode zc_X_share 20 = .ok (.iconst 0, 1) := by decide +kernel
theorem dX_share_21 : decode zc_X_share 21 = .ok (.istore 5, 2) := by decide +kernel
theorem dX_share_23 : decode zc_X_share 23 = .ok (.iload 5, 2) := by decide +kernel
theorem dX_share_25 : decode zc_X_share 25 = .ok (.iconst 4, 1) := by decide +kernel
theorem dX_share_26 : decode zc_X_share 26 = .ok (.if_icmp .ge 77, 3) := by decide +kernel
theorem dX_share_29 : decode zc_X_share 29 = .ok (.iload_n 3, 1) := by decide +kernel
theorem dX_share_30 : decode zc_X_share 30 = .ok (.iload 5, 2) := by decide +kernel
theorem dX_share_32 : decode zc_X_share 32 = .ok (.invokestatic 71, 3) := by decide +kernel
theorem dX_share_35 : decode zc_X_share 35 = .ok (.istore 6, 2) := by decide +kernel
theorem dX_share_37 : decode zc_X_share 37 = .ok (.aload_n 0, 1) := by decide +kernel
theorem dX_share_38 : decode zc_X_share 38 = .ok (.getfield 25, 3) := by decide +kernel
theorem dX_share_41 : decode zc_X_share 41 = .ok (.iload_n 1, 1) := by decide +kernel
theorem dX_share_42 : decode zc_X_share 42 = .ok (.aaload, 1) := by decide +kernel
theorem dX_share_43 : decode zc_X_share 43 = .ok (.getfield 68, 3) := by decide +kernel
theorem dX_share_46 : decode zc_X_share 46 = .ok (.iload 6, 2) := by decide +kernel
theorem dX_share_48 : decode zc_X_share 48 = .ok (.iaload, 1) := by decide +kernel
theorem dX_share_49 : decode zc_X_share 49 = .ok (.aload_n 0, 1) := by decide +kernel
theorem dX_share_50 : decode zc_X_share 50 = .ok (.getfield 25, 3) := by decide +kernel
theorem dX_share_53 : decode zc_X_share 53 = .ok (.iload_n 2, 1) := by decide +kernel
theorem dX_share_54 : decode zc_X_share 54 = .ok (.aaload, 1) := by decide +kernel
theorem dX_share_55 : decode zc_X_share 55 = .ok (.getfield 68, 3) := by decide +kernel
theorem dX_share_58 : decode zc_X_share 58 = .ok (.iload 6, 2) := by decide +kernel
theorem dX_share_60 : decode zc_X_share 60 = .ok (.iaload, 1) := by decide +kernel
theorem dX_share_61 : decode zc_X_share 61 = .ok (.isub, 1) := by decide +kernel
theorem dX_share_62 : decode zc_X_share 62 = .ok (.iconst 2, 1) := by decide +kernel
theorem dX_share_63 : decode zc_X_share 63 = .ok (.idiv, 1) := by decide +kernel
theorem dX_share_64 : decode zc_X_share 64 = .ok (.istore 7, 2) := by decide +kernel
theorem dX_share_66 : decode zc_X_share 66 = .ok (.iload 7, 2) := by decide +kernel
theorem dX_share_68 : decode zc_X_share 68 = .ok (.ifCond .le 29, 3) := by decide +kernel
theorem dX_share_71 : decode zc_X_share 71 = .ok (.aload_n 0, 1) := by decide +kernel
theorem dX_share_72 : decode zc_X_share 72 = .ok (.iload_n 1, 1) := by decide +kernel
theorem dX_share_73 : decode zc_X_share 73 = .ok (.iload_n 2, 1) := by decide +kernel
theorem dX_share_74 : decode zc_X_share 74 = .ok (.invokevirtual 168, 3) := by decide +kernel
theorem dX_share_77 : decode zc_X_share 77 = .ok (.invokevirtual 172, 3) := by decide +kernel
theorem dX_share_80 : decode zc_X_share 80 = .ok (.ifCond .ne 17, 3) := by decide +kernel
theorem dX_share_83 : decode zc_X_share 83 = .ok (.aload_n 0, 1) := by decide +kernel
theorem dX_share_84 : decode zc_X_share 84 = .ok (.iload_n 1, 1) := by decide +kernel
theorem dX_share_85 : decode zc_X_share 85 = .ok (.iload_n 2, 1) := by decide +kernel
theorem dX_share_86 : decode zc_X_share 86 = .ok (.iload 6, 2) := by decide +kernel
theorem dX_share_88 : decode zc_X_share 88 = .ok (.iload 7, 2) := by decide +kernel
theorem dX_share_90 : decode zc_X_share 90 = .ok (.invokevirtual 178, 3) := by decide +kernel
theorem dX_share_93 : decode zc_X_share 93 = .ok (.pop, 1) := by decide +kernel
theorem dX_share_94 : decode zc_X_share 94 = .ok (.iinc 4 1, 3) := by decide +kernel
theorem dX_share_97 : decode zc_X_share 97 = .ok (.iinc 5 1, 3) := by decide +kernel
theorem dX_share_100 : decode zc_X_share 100 = .ok (.goto (-77), 3) := by decide +kernel
theorem dX_share_103 : decode zc_X_share 103 = .ok (.iload 4, 2) := by decide +kernel
theorem dX_share_105 : decode zc_X_share 105 = .ok (.ireturn, 1) := by decide +kernel
theorem dX_send_0 : decode zc_X_send 0 = .ok (.iload_n 1, 1) := by decide +kernel
theorem dX_send_1 : decode zc_X_send 1 = .ok (.iload_n 2, 1) := by decide +kernel
theorem dX_send_2 : decode zc_X_send 2 = .ok (.invokestatic 182, 3) := by decide +kernel
theorem dX_send_5 : decode zc_X_send 5 = .ok (.aload_n 0, 1) := by decide +kernel
theorem dX_send_6 : decode zc_X_send 6 = .ok (.iload_n 1, 1) := by decide +kernel
theorem dX_send_7 : decode zc_X_send 7 = .ok (.iload_n 2, 1) := by decide +kernel
theorem dX_send_8 : decode zc_X_send 8 = .ok (.invokevirtual 168, 3) := by decide +kernel
theorem dX_send_11 : decode zc_X_send 11 = .ok (.astore_n 3, 1) := by decide +kernel
theorem dX_send_12 : decode zc_X_send 12 = .ok (.aload_n 3, 1) := by decide +kernel
theorem dX_send_13 : decode zc_X_send 13 = .ok (.getfield 185, 3) := by decide +kernel
theorem dX_send_16 : decode zc_X_send 16 = .ok (.ifCond .ne 5, 3) := by decide +kernel
theorem dX_send_19 : decode zc_X_send 19 = .ok (.iconst 0, 1) := by decide +kernel
theorem dX_send_20 : decode zc_X_send 20 = .ok (.ireturn, 1) := by decide +kernel
theorem dX_send_21 : decode zc_X_send 21 = .ok (.aload_n 3, 1) := by decide +kernel
theorem dX_send_22 : decode zc_X_send 22 = .ok (.aload_n 3, 1) := by decide +kernel
theorem dX_send_23 : decode zc_X_send 23 = .ok (.getfield 186, 3) := by decide +kernel
theorem dX_send_26 : decode zc_X_send 26 = .ok (.iconst 1, 1) := by decide +kernel
theorem dX_send_27 : decode zc_X_send 27 = .ok (.iadd, 1) := by decide +kernel
theorem dX_send_28 : decode zc_X_send 28 = .ok (.putfield 189, 3) := by decide +kernel
theorem dX_send_31 : decode zc_X_send 31 = .ok (.aload_n 3, 1) := by decide +kernel
theorem dX_send_32 : decode zc_X_send 32 = .ok (.getfield 189, 3) := by decide +kernel
theorem dX_send_35 : decode zc_X_send 35 = .ok (.ireturn, 1) := by decide +kernel
theorem dX_checkTwoPorts_0 : decode zc_X_checkTwoPorts 0 = .ok (.iload_n 0, 1) := by decide +kernel
theorem dX_checkTwoPorts_1 : decode zc_X_checkTwoPorts 1 = .ok (.invokestatic 100, 3) := by decide +kernel
theorem dX_checkTwoPorts_4 : decode zc_X_checkTwoPorts 4 = .ok (.iload_n 1, 1) := by decide +kernel
theorem dX_checkTwoPorts_5 : decode zc_X_checkTwoPorts 5 = .ok (.invokestatic 100, 3) := by decide +kernel
theorem dX_checkTwoPorts_8 : decode zc_X_checkTwoPorts 8 = .ok (.iload_n 0, 1) := by decide +kernel
theorem dX_checkTwoPorts_9 : decode zc_X_checkTwoPorts 9 = .ok (.iload_n 1, 1) := by decide +kernel
theorem dX_checkTwoPorts_10 : decode zc_X_checkTwoPorts 10 = .ok (.invokestatic 164, 3) := by decide +kernel
theorem dX_checkTwoPorts_13 : decode zc_X_checkTwoPorts 13 = .ok (.return_, 1) := by decide +kernel
theorem dX_arrive_0 : decode zc_X_arrive 0 = .ok (.iload_n 1, 1) := by decide +kernel
theorem dX_arrive_1 : decode zc_X_arrive 1 = .ok (.iload_n 2, 1) := by decide +kernel
theorem dX_arrive_2 : decode zc_X_arrive 2 = .ok (.invokestatic 182, 3) := by decide +kernel
theorem dX_arrive_5 : decode zc_X_arrive 5 = .ok (.aload_n 0, 1) := by decide +kernel
theorem dX_arrive_6 : decode zc_X_arrive 6 = .ok (.iload_n 1, 1) := by decide +kernel
theorem dX_arrive_7 : decode zc_X_arrive 7 = .ok (.iload_n 2, 1) := by decide +kernel
theorem dX_arrive_8 : decode zc_X_arrive 8 = .ok (.invokevirtual 168, 3) := by decide +kernel
theorem dX_arrive_11 : decode zc_X_arrive 11 = .ok (.astore_n 3, 1) := by decide +kernel
theorem dX_arrive_12 : decode zc_X_arrive 12 = .ok (.aload_n 3, 1) := by decide +kernel
theorem dX_arrive_13 : decode zc_X_arrive 13 = .ok (.getfield 189, 3) := by decide +kernel
theorem dX_arrive_16 : decode zc_X_arrive 16 = .ok (.ifCond .ne 5, 3) := by decide +kernel
theorem dX_arrive_19 : decode zc_X_arrive 19 = .ok (.iconst (-1), 1) := by decide +kernel
theorem dX_arrive_20 : decode zc_X_arrive 20 = .ok (.ireturn, 1) := by decide +kernel
theorem dX_arrive_21 : decode zc_X_arrive 21 = .ok (.aload_n 3, 1) := by decide +kernel
theorem dX_arrive_22 : decode zc_X_arrive 22 = .ok (.getfield 189, 3) := by decide +kernel
theorem dX_arrive_25 : decode zc_X_arrive 25 = .ok (.aload_n 3, 1) := by decide +kernel
theorem dX_arrive_26 : decode zc_X_arrive 26 = .ok (.getfield 192, 3) := by decide +kernel
theorem dX_arrive_29 : decode zc_X_arrive 29 = .ok (.iconst 1, 1) := by decide +kernel
theorem dX_arrive_30 : decode zc_X_arrive 30 = .ok (.iadd, 1) := by decide +kernel
theorem dX_arrive_31 : decode zc_X_arrive 31 = .ok (.if_icmp .ne 7, 3) := by decide +kernel
theorem dX_arrive_34 : decode zc_X_arrive 34 = .ok (.iconst 1, 1) := by decide +kernel
theorem dX_arrive_35 : decode zc_X_arrive 35 = .ok (.goto 4, 3) := by decide +kernel
theorem dX_arrive_38 : decode zc_X_arrive 38 = .ok (.iconst 0, 1) := by decide +kernel
theorem dX_arrive_39 : decode zc_X_arrive 39 = .ok (.istore 4, 2) := by decide +kernel
theorem dX_arrive_41 : decode zc_X_arrive 41 = .ok (.aload_n 3, 1) := by decide +kernel
theorem dX_arrive_42 : decode zc_X_arrive 42 = .ok (.iconst 0, 1) := by decide +kernel
theorem dX_arrive_43 : decode zc_X_arrive 43 = .ok (.putfield 189, 3) := by decide +kernel
theorem dX_arrive_46 : decode zc_X_arrive 46 = .ok (.iload 4, 2) := by decide +kernel
theorem dX_arrive_48 : decode zc_X_arrive 48 = .ok (.ifCond .eq 12, 3) := by decide +kernel
theorem dX_arrive_51 : decode zc_X_arrive 51 = .ok (.aload_n 0, 1) := by decide +kernel
theorem dX_arrive_52 : decode zc_X_arrive 52 = .ok (.aload_n 3, 1) := by decide +kernel
theorem dX_arrive_53 : decode zc_X_arrive 53 = .ok (.iload_n 2, 1) := by decide +kernel
theorem dX_arrive_54 : decode zc_X_arrive 54 = .ok (.invokevirtual 195, 3) := by decide +kernel
theorem dX_arrive_57 : decode zc_X_arrive 57 = .ok (.goto 4, 3) := by decide +kernel
theorem dX_arrive_60 : decode zc_X_arrive 60 = .ok (.iconst 0, 1) := by decide +kernel
theorem dX_arrive_61 : decode zc_X_arrive 61 = .ok (.istore 5, 2) := by decide +kernel
theorem dX_arrive_63 : decode zc_X_arrive 63 = .ok (.aload_n 3, 1) := by decide +kernel
theorem dX_arrive_64 : decode zc_X_arrive 64 = .ok (.aload_n 3, 1) := by decide +kernel
theorem dX_arrive_65 : decode zc_X_arrive 65 = .ok (.getfield 192, 3) := by decide +kernel
theorem dX_arrive_68 : decode zc_X_arrive 68 = .ok (.putfield 199, 3) := by decide +kernel
theorem dX_arrive_71 : decode zc_X_arrive 71 = .ok (.iload 5, 2) := by decide +kernel
theorem dX_arrive_73 : decode zc_X_arrive 73 = .ok (.ireturn, 1) := by decide +kernel
theorem dX_takeNext_0 : decode zc_X_takeNext 0 = .ok (.aload_n 1, 1) := by decide +kernel
theorem dX_takeNext_1 : decode zc_X_takeNext 1 = .ok (.dup, 1) := by decide +kernel
theorem dX_takeNext_2 : decode zc_X_takeNext 2 = .ok (.getfield 192, 3) := by decide +kernel
theorem dX_takeNext_5 : decode zc_X_takeNext 5 = .ok (.iconst 1, 1) := by decide +kernel
theorem dX_takeNext_6 : decode zc_X_takeNext 6 = .ok (.iadd, 1) := by decide +kernel
theorem dX_takeNext_7 : decode zc_X_takeNext 7 = .ok (.putfield 192, 3) := by decide +kernel
theorem dX_takeNext_10 : decode zc_X_takeNext 10 = .ok (.aload_n 1, 1) := by decide +kernel
theorem dX_takeNext_11 : decode zc_X_takeNext 11 = .ok (.getfield 192, 3) := by decide +kernel
theorem dX_takeNext_14 : decode zc_X_takeNext 14 = .ok (.invokestatic 249, 3) := by decide +kernel
theorem dX_takeNext_17 : decode zc_X_takeNext 17 = .ok (.istore_n 3, 1) := by decide +kernel
theorem dX_takeNext_18 : decode zc_X_takeNext 18 = .ok (.aload_n 1, 1) := by decide +kernel
theorem dX_takeNext_19 : decode zc_X_takeNext 19 = .ok (.getfield 252, 3) := by decide +kernel
theorem dX_takeNext_22 : decode zc_X_takeNext 22 = .ok (.iload_n 3, 1) := by decide +kernel
theorem dX_takeNext_23 : decode zc_X_takeNext 23 = .ok (.iaload, 1) := by decide +kernel
theorem dX_takeNext_24 : decode zc_X_takeNext 24 = .ok (.istore 4, 2) := by decide +kernel
end
section
theorem dX_takeNext_26 : decode zc_X_takeNext 26 = .ok (.aload_n 1, 1) := by decide +kernel
theorem dX_takeNext_27 : decode zc_X_takeNext 27 = .ok (.getfield 255, 3) := by decide +kernel
theorem dX_takeNext_30 : decode zc_X_takeNext 30 = .ok (.iload_n 3, 1) := by decide +kernel
theorem dX_takeNext_31 : decode zc_X_takeNext 31 = .ok (.iaload, 1) := by decide +kernel
theorem dX_takeNext_32 : decode zc_X_takeNext 32 = .ok (.istore 5, 2) := by decide +kernel
theorem dX_takeNext_34 : decode zc_X_takeNext 34 = .ok (.aload_n 0, 1) := by decide +kernel
theorem dX_takeNext_35 : decode zc_X_takeNext 35 = .ok (.getfield 20, 3) := by decide +kernel
theorem dX_takeNext_38 : decode zc_X_takeNext 38 = .ok (.iload 4, 2) := by decide +kernel
theorem dX_takeNext_40 : decode zc_X_takeNext 40 = .ok (.dup2, 1) := by decide +kernel
theorem dX_takeNext_41 : decode zc_X_takeNext 41 = .ok (.iaload, 1) := by decide +kernel
theorem dX_takeNext_42 : decode zc_X_takeNext 42 = .ok (.iload 5, 2) := by decide +kernel
theorem dX_takeNext_44 : decode zc_X_takeNext 44 = .ok (.isub, 1) := by decide +kernel
theorem dX_takeNext_45 : decode zc_X_takeNext 45 = .ok (.iastore, 1) := by decide +kernel
theorem dX_takeNext_46 : decode zc_X_takeNext 46 = .ok (.aload_n 0, 1) := by decide +kernel
theorem dX_takeNext_47 : decode zc_X_takeNext 47 = .ok (.getfield 25, 3) := by decide +kernel
theorem dX_takeNext_50 : decode zc_X_takeNext 50 = .ok (.iload_n 2, 1) := by decide +kernel
theorem dX_takeNext_51 : decode zc_X_takeNext 51 = .ok (.aaload, 1) := by decide +kernel
theorem dX_takeNext_52 : decode zc_X_takeNext 52 = .ok (.getfield 68, 3) := by decide +kernel
theorem dX_takeNext_55 : decode zc_X_takeNext 55 = .ok (.iload 4, 2) := by decide +kernel
theorem dX_takeNext_57 : decode zc_X_takeNext 57 = .ok (.dup2, 1) := by decide +kernel
theorem dX_takeNext_58 : decode zc_X_takeNext 58 = .ok (.iaload, 1) := by decide +kernel
theorem dX_takeNext_59 : decode zc_X_takeNext 59 = .ok (.iload 5, 2) := by decide +kernel
theorem dX_takeNext_61 : decode zc_X_takeNext 61 = .ok (.iadd, 1) := by decide +kernel
theorem dX_takeNext_62 : decode zc_X_takeNext 62 = .ok (.iastore, 1) := by decide +kernel
theorem dX_takeNext_63 : decode zc_X_takeNext 63 = .ok (.aload_n 0, 1) := by decide +kernel
theorem dX_takeNext_64 : decode zc_X_takeNext 64 = .ok (.iload_n 2, 1) := by decide +kernel
theorem dX_takeNext_65 : decode zc_X_takeNext 65 = .ok (.invokevirtual 129, 3) := by decide +kernel
theorem dX_takeNext_68 : decode zc_X_takeNext 68 = .ok (.ireturn, 1) := by decide +kernel
theorem dX_receipt_0 : decode zc_X_receipt 0 = .ok (.iload_n 1, 1) := by decide +kernel
theorem dX_receipt_1 : decode zc_X_receipt 1 = .ok (.iload_n 2, 1) := by decide +kernel
theorem dX_receipt_2 : decode zc_X_receipt 2 = .ok (.invokestatic 182, 3) := by decide +kernel
theorem dX_receipt_5 : decode zc_X_receipt 5 = .ok (.aload_n 0, 1) := by decide +kernel
theorem dX_receipt_6 : decode zc_X_receipt 6 = .ok (.iload_n 1, 1) := by decide +kernel
theorem dX_receipt_7 : decode zc_X_receipt 7 = .ok (.iload_n 2, 1) := by decide +kernel
theorem dX_receipt_8 : decode zc_X_receipt 8 = .ok (.invokevirtual 168, 3) := by decide +kernel
theorem dX_receipt_11 : decode zc_X_receipt 11 = .ok (.astore_n 3, 1) := by decide +kernel
theorem dX_receipt_12 : decode zc_X_receipt 12 = .ok (.aload_n 3, 1) := by decide +kernel
theorem dX_receipt_13 : decode zc_X_receipt 13 = .ok (.getfield 199, 3) := by decide +kernel
theorem dX_receipt_16 : decode zc_X_receipt 16 = .ok (.ifCond .ne 5, 3) := by decide +kernel
theorem dX_receipt_19 : decode zc_X_receipt 19 = .ok (.iconst (-1), 1) := by decide +kernel
theorem dX_receipt_20 : decode zc_X_receipt 20 = .ok (.ireturn, 1) := by decide +kernel
theorem dX_receipt_21 : decode zc_X_receipt 21 = .ok (.aload_n 3, 1) := by decide +kernel
theorem dX_receipt_22 : decode zc_X_receipt 22 = .ok (.getfield 199, 3) := by decide +kernel
theorem dX_receipt_25 : decode zc_X_receipt 25 = .ok (.istore 4, 2) := by decide +kernel
theorem dX_receipt_27 : decode zc_X_receipt 27 = .ok (.aload_n 3, 1) := by decide +kernel
theorem dX_receipt_28 : decode zc_X_receipt 28 = .ok (.iconst 0, 1) := by decide +kernel
theorem dX_receipt_29 : decode zc_X_receipt 29 = .ok (.putfield 199, 3) := by decide +kernel
theorem dX_receipt_32 : decode zc_X_receipt 32 = .ok (.aload_n 3, 1) := by decide +kernel
theorem dX_receipt_33 : decode zc_X_receipt 33 = .ok (.iload 4, 2) := by decide +kernel
theorem dX_receipt_35 : decode zc_X_receipt 35 = .ok (.invokevirtual 202, 3) := by decide +kernel
theorem dX_receipt_38 : decode zc_X_receipt 38 = .ok (.ireturn, 1) := by decide +kernel
theorem dN_removeUpTo_0 : decode zc_N_removeUpTo 0 = .ok (.iload_n 1, 1) := by decide +kernel
theorem dN_removeUpTo_1 : decode zc_N_removeUpTo 1 = .ok (.aload_n 0, 1) := by decide +kernel
theorem dN_removeUpTo_2 : decode zc_N_removeUpTo 2 = .ok (.getfield 18, 3) := by decide +kernel
theorem dN_removeUpTo_5 : decode zc_N_removeUpTo 5 = .ok (.isub, 1) := by decide +kernel
theorem dN_removeUpTo_6 : decode zc_N_removeUpTo 6 = .ok (.istore_n 2, 1) := by decide +kernel
theorem dN_removeUpTo_7 : decode zc_N_removeUpTo 7 = .ok (.aload_n 0, 1) := by decide +kernel
theorem dN_removeUpTo_8 : decode zc_N_removeUpTo 8 = .ok (.dup, 1) := by decide +kernel
theorem dN_removeUpTo_9 : decode zc_N_removeUpTo 9 = .ok (.getfield 22, 3) := by decide +kernel
theorem dN_removeUpTo_12 : decode zc_N_removeUpTo 12 = .ok (.iload_n 2, 1) := by decide +kernel
theorem dN_removeUpTo_13 : decode zc_N_removeUpTo 13 = .ok (.isub, 1) := by decide +kernel
theorem dN_removeUpTo_14 : decode zc_N_removeUpTo 14 = .ok (.putfield 22, 3) := by decide +kernel
theorem dN_removeUpTo_17 : decode zc_N_removeUpTo 17 = .ok (.aload_n 0, 1) := by decide +kernel
theorem dN_removeUpTo_18 : decode zc_N_removeUpTo 18 = .ok (.iload_n 1, 1) := by decide +kernel
theorem dN_removeUpTo_19 : decode zc_N_removeUpTo 19 = .ok (.putfield 18, 3) := by decide +kernel
theorem dN_removeUpTo_22 : decode zc_N_removeUpTo 22 = .ok (.iload_n 2, 1) := by decide +kernel
theorem dN_removeUpTo_23 : decode zc_N_removeUpTo 23 = .ok (.ireturn, 1) := by decide +kernel
theorem dX_lose_0 : decode zc_X_lose 0 = .ok (.iload_n 1, 1) := by decide +kernel
theorem dX_lose_1 : decode zc_X_lose 1 = .ok (.iload_n 2, 1) := by decide +kernel
theorem dX_lose_2 : decode zc_X_lose 2 = .ok (.invokestatic 182, 3) := by decide +kernel
theorem dX_lose_5 : decode zc_X_lose 5 = .ok (.aload_n 0, 1) := by decide +kernel
theorem dX_lose_6 : decode zc_X_lose 6 = .ok (.iload_n 1, 1) := by decide +kernel
theorem dX_lose_7 : decode zc_X_lose 7 = .ok (.iload_n 2, 1) := by decide +kernel
theorem dX_lose_8 : decode zc_X_lose 8 = .ok (.invokevirtual 168, 3) := by decide +kernel
theorem dX_lose_11 : decode zc_X_lose 11 = .ok (.invokevirtual 205, 3) := by decide +kernel
theorem dX_lose_14 : decode zc_X_lose 14 = .ok (.ireturn, 1) := by decide +kernel
theorem dN_loseAll_0 : decode zc_N_loseAll 0 = .ok (.aload_n 0, 1) := by decide +kernel
theorem dN_loseAll_1 : decode zc_N_loseAll 1 = .ok (.getfield 28, 3) := by decide +kernel
theorem dN_loseAll_4 : decode zc_N_loseAll 4 = .ok (.ifCond .ne 7, 3) := by decide +kernel
theorem dN_loseAll_7 : decode zc_N_loseAll 7 = .ok (.iconst 0, 1) := by decide +kernel
theorem dN_loseAll_8 : decode zc_N_loseAll 8 = .ok (.goto 4, 3) := by decide +kernel
theorem dN_loseAll_11 : decode zc_N_loseAll 11 = .ok (.iconst 1, 1) := by decide +kernel
theorem dN_loseAll_12 : decode zc_N_loseAll 12 = .ok (.aload_n 0, 1) := by decide +kernel
theorem dN_loseAll_13 : decode zc_N_loseAll 13 = .ok (.getfield 31, 3) := by decide +kernel
theorem dN_loseAll_16 : decode zc_N_loseAll 16 = .ok (.ifCond .ne 7, 3) := by decide +kernel
theorem dN_loseAll_19 : decode zc_N_loseAll 19 = .ok (.iconst 0, 1) := by decide +kernel
theorem dN_loseAll_20 : decode zc_N_loseAll 20 = .ok (.goto 4, 3) := by decide +kernel
theorem dN_loseAll_23 : decode zc_N_loseAll 23 = .ok (.iconst 1, 1) := by decide +kernel
theorem dN_loseAll_24 : decode zc_N_loseAll 24 = .ok (.iadd, 1) := by decide +kernel
theorem dN_loseAll_25 : decode zc_N_loseAll 25 = .ok (.istore_n 1, 1) := by decide +kernel
theorem dN_loseAll_26 : decode zc_N_loseAll 26 = .ok (.aload_n 0, 1) := by decide +kernel
theorem dN_loseAll_27 : decode zc_N_loseAll 27 = .ok (.iconst 0, 1) := by decide +kernel
theorem dN_loseAll_28 : decode zc_N_loseAll 28 = .ok (.putfield 28, 3) := by decide +kernel
theorem dN_loseAll_31 : decode zc_N_loseAll 31 = .ok (.aload_n 0, 1) := by decide +kernel
theorem dN_loseAll_32 : decode zc_N_loseAll 32 = .ok (.iconst 0, 1) := by decide +kernel
theorem dN_loseAll_33 : decode zc_N_loseAll 33 = .ok (.putfield 31, 3) := by decide +kernel
theorem dN_loseAll_36 : decode zc_N_loseAll 36 = .ok (.iload_n 1, 1) := by decide +kernel
theorem dN_loseAll_37 : decode zc_N_loseAll 37 = .ok (.ireturn, 1) := by decide +kernel
theorem dX_crash_0 : decode zc_X_crash 0 = .ok (.iload_n 1, 1) := by decide +kernel
theorem dX_crash_1 : decode zc_X_crash 1 = .ok (.invokestatic 100, 3) := by decide +kernel
theorem dX_crash_4 : decode zc_X_crash 4 = .ok (.iconst 0, 1) := by decide +kernel
theorem dX_crash_5 : decode zc_X_crash 5 = .ok (.istore_n 2, 1) := by decide +kernel
theorem dX_crash_6 : decode zc_X_crash 6 = .ok (.iconst 0, 1) := by decide +kernel
theorem dX_crash_7 : decode zc_X_crash 7 = .ok (.istore_n 3, 1) := by decide +kernel
theorem dX_crash_8 : decode zc_X_crash 8 = .ok (.iload_n 3, 1) := by decide +kernel
theorem dX_crash_9 : decode zc_X_crash 9 = .ok (.iconst 4, 1) := by decide +kernel
theorem dX_crash_10 : decode zc_X_crash 10 = .ok (.if_icmp .ge 36, 3) := by decide +kernel
theorem dX_crash_13 : decode zc_X_crash 13 = .ok (.iload_n 3, 1) := by decide +kernel
theorem dX_crash_14 : decode zc_X_crash 14 = .ok (.iload_n 1, 1) := by decide +kernel
theorem dX_crash_15 : decode zc_X_crash 15 = .ok (.if_icmp .eq 25, 3) := by decide +kernel
theorem dX_crash_18 : decode zc_X_crash 18 = .ok (.iload_n 2, 1) := by decide +kernel
theorem dX_crash_19 : decode zc_X_crash 19 = .ok (.aload_n 0, 1) := by decide +kernel
theorem dX_crash_20 : decode zc_X_crash 20 = .ok (.iload_n 1, 1) := by decide +kernel
theorem dX_crash_21 : decode zc_X_crash 21 = .ok (.iload_n 3, 1) := by decide +kernel
theorem dX_crash_22 : decode zc_X_crash 22 = .ok (.invokevirtual 168, 3) := by decide +kernel
theorem dX_crash_25 : decode zc_X_crash 25 = .ok (.invokevirtual 205, 3) := by decide +kernel
theorem dX_crash_28 : decode zc_X_crash 28 = .ok (.aload_n 0, 1) := by decide +kernel
theorem dX_crash_29 : decode zc_X_crash 29 = .ok (.iload_n 3, 1) := by decide +kernel
theorem dX_crash_30 : decode zc_X_crash 30 = .ok (.iload_n 1, 1) := by decide +kernel
theorem dX_crash_31 : decode zc_X_crash 31 = .ok (.invokevirtual 168, 3) := by decide +kernel
theorem dX_crash_34 : decode zc_X_crash 34 = .ok (.invokevirtual 205, 3) := by decide +kernel
theorem dX_crash_37 : decode zc_X_crash 37 = .ok (.iadd, 1) := by decide +kernel
theorem dX_crash_38 : decode zc_X_crash 38 = .ok (.iadd, 1) := by decide +kernel
theorem dX_crash_39 : decode zc_X_crash 39 = .ok (.istore_n 2, 1) := by decide +kernel
theorem dX_crash_40 : decode zc_X_crash 40 = .ok (.iinc 3 1, 3) := by decide +kernel
theorem dX_crash_43 : decode zc_X_crash 43 = .ok (.goto (-35), 3) := by decide +kernel
theorem dX_crash_46 : decode zc_X_crash 46 = .ok (.iload_n 2, 1) := by decide +kernel
theorem dX_crash_47 : decode zc_X_crash 47 = .ok (.ireturn, 1) := by decide +kernel
theorem dX_rights_0 : decode zc_X_rights 0 = .ok (.iload_n 1, 1) := by decide +kernel
theorem dX_rights_1 : decode zc_X_rights 1 = .ok (.invokestatic 100, 3) := by decide +kernel
theorem dX_rights_4 : decode zc_X_rights 4 = .ok (.iload_n 2, 1) := by decide +kernel
theorem dX_rights_5 : decode zc_X_rights 5 = .ok (.invokestatic 54, 3) := by decide +kernel
theorem dX_rights_8 : decode zc_X_rights 8 = .ok (.iload_n 3, 1) := by decide +kernel
theorem dX_rights_9 : decode zc_X_rights 9 = .ok (.invokestatic 75, 3) := by decide +kernel
theorem dX_rights_12 : decode zc_X_rights 12 = .ok (.aload_n 0, 1) := by decide +kernel
theorem dX_rights_13 : decode zc_X_rights 13 = .ok (.getfield 25, 3) := by decide +kernel
theorem dX_rights_16 : decode zc_X_rights 16 = .ok (.iload_n 1, 1) := by decide +kernel
theorem dX_rights_17 : decode zc_X_rights 17 = .ok (.aaload, 1) := by decide +kernel
theorem dX_rights_18 : decode zc_X_rights 18 = .ok (.getfield 68, 3) := by decide +kernel
theorem dX_rights_21 : decode zc_X_rights 21 = .ok (.iload_n 2, 1) := by decide +kernel
theorem dX_rights_22 : decode zc_X_rights 22 = .ok (.iload_n 3, 1) := by decide +kernel
theorem dX_rights_23 : decode zc_X_rights 23 = .ok (.invokestatic 71, 3) := by decide +kernel
theorem dX_rights_26 : decode zc_X_rights 26 = .ok (.iaload, 1) := by decide +kernel
theorem dX_rights_27 : decode zc_X_rights 27 = .ok (.ireturn, 1) := by decide +kernel
theorem dX_air_0 : decode zc_X_air 0 = .ok (.iload_n 1, 1) := by decide +kernel
theorem dX_air_1 : decode zc_X_air 1 = .ok (.invokestatic 54, 3) := by decide +kernel
theorem dX_air_4 : decode zc_X_air 4 = .ok (.iload_n 2, 1) := by decide +kernel
theorem dX_air_5 : decode zc_X_air 5 = .ok (.invokestatic 75, 3) := by decide +kernel
theorem dX_air_8 : decode zc_X_air 8 = .ok (.aload_n 0, 1) := by decide +kernel
theorem dX_air_9 : decode zc_X_air 9 = .ok (.getfield 20, 3) := by decide +kernel
theorem dX_air_12 : decode zc_X_air 12 = .ok (.iload_n 1, 1) := by decide +kernel
theorem dX_air_13 : decode zc_X_air 13 = .ok (.iload_n 2, 1) := by decide +kernel
theorem dX_air_14 : decode zc_X_air 14 = .ok (.invokestatic 71, 3) := by decide +kernel
theorem dX_air_17 : decode zc_X_air 17 = .ok (.iaload, 1) := by decide +kernel
theorem dX_air_18 : decode zc_X_air 18 = .ok (.ireturn, 1) := by decide +kernel
theorem dX_sold_0 : decode zc_X_sold 0 = .ok (.iload_n 1, 1) := by decide +kernel
theorem dX_sold_1 : decode zc_X_sold 1 = .ok (.invokestatic 54, 3) := by decide +kernel
theorem dX_sold_4 : decode zc_X_sold 4 = .ok (.iload_n 2, 1) := by decide +kernel
theorem dX_sold_5 : decode zc_X_sold 5 = .ok (.invokestatic 75, 3) := by decide +kernel
theorem dX_sold_8 : decode zc_X_sold 8 = .ok (.aload_n 0, 1) := by decide +kernel
theorem dX_sold_9 : decode zc_X_sold 9 = .ok (.getfield 17, 3) := by decide +kernel
theorem dX_sold_12 : decode zc_X_sold 12 = .ok (.iload_n 1, 1) := by decide +kernel
theorem dX_sold_13 : decode zc_X_sold 13 = .ok (.iload_n 2, 1) := by decide +kernel
theorem dX_sold_14 : decode zc_X_sold 14 = .ok (.invokestatic 71, 3) := by decide +kernel
theorem dX_sold_17 : decode zc_X_sold 17 = .ok (.iaload, 1) := by decide +kernel
theorem dX_sold_18 : decode zc_X_sold 18 = .ok (.ireturn, 1) := by decide +kernel
theorem dX_wishes_0 : decode zc_X_wishes 0 = .ok (.iload_n 1, 1) := by decide +kernel
theorem dX_wishes_1 : decode zc_X_wishes 1 = .ok (.invokestatic 100, 3) := by decide +kernel
theorem dX_wishes_4 : decode zc_X_wishes 4 = .ok (.aload_n 0, 1) := by decide +kernel
theorem dX_wishes_5 : decode zc_X_wishes 5 = .ok (.getfield 25, 3) := by decide +kernel
theorem dX_wishes_8 : decode zc_X_wishes 8 = .ok (.iload_n 1, 1) := by decide +kernel
theorem dX_wishes_9 : decode zc_X_wishes 9 = .ok (.aaload, 1) := by decide +kernel
theorem dX_wishes_10 : decode zc_X_wishes 10 = .ok (.getfield 120, 3) := by decide +kernel
theorem dX_wishes_13 : decode zc_X_wishes 13 = .ok (.ireturn, 1) := by decide +kernel
theorem dX_till_0 : decode zc_X_till 0 = .ok (.iload_n 1, 1) := by decide +kernel
theorem dX_till_1 : decode zc_X_till 1 = .ok (.invokestatic 100, 3) := by decide +kernel
theorem dX_till_4 : decode zc_X_till 4 = .ok (.aload_n 0, 1) := by decide +kernel
theorem dX_till_5 : decode zc_X_till 5 = .ok (.getfield 25, 3) := by decide +kernel
theorem dX_till_8 : decode zc_X_till 8 = .ok (.iload_n 1, 1) := by decide +kernel
theorem dX_till_9 : decode zc_X_till 9 = .ok (.aaload, 1) := by decide +kernel
theorem dX_till_10 : decode zc_X_till 10 = .ok (.getfield 155, 3) := by decide +kernel
theorem dX_till_13 : decode zc_X_till 13 = .ok (.lreturn, 1) := by decide +kernel
end
section
/-! the reference's state: ints by array and place (25: fault, drafted, tickets), longs by array and place -/
abbrev zm_S : Type := (Nat → Nat → Int32) × (Nat → Nat → Int64)
def zm_set (σ : zm_S) (k i : Nat) (x : Int32) : zm_S := (fun k' => if k' = k then upd (σ.1 k) i x else σ.1 k', σ.2)
def zm_setL (σ : zm_S) (k i : Nat) (x : Int64) : zm_S := (σ.1, fun k' => if k' = k then vp_updL (σ.2 k) i x else σ.2 k')
def zm_len (k : Nat) : Nat := [4, 16, 64, 420, 420, 420, 80, 80, 80, 80, 80, 4, 4, 24, 24, 16, 16, 16, 16, 16, 128, 128, 128, 16, 16].getD k 0
def zm_ty (k : Nat) : Nat := [1, 0, 0, 0, 0, 0, 0, 0, 0, 2, 1, 2, 0, 0, 0, 0, 0, 0, 0, 0, 0, 0, 0, 0, 0].getD k 3
def zm_cell (A : Nat → ClassId) (σ : zm_S) (k : Nat) : va_E := if zm_ty k = 2 then .inl (A 2, zm_len k, .inr (.inl (σ.2 k))) else .inl (A (zm_ty k), zm_len k, .inl (σ.1 k))
def zm_fs (mo : Nat) (σ : zm_S) : List Value := [.int (σ.1 25 0), .ref (mo + 1 + 0), .ref (mo + 1 + 1), .ref (mo + 1 + 2), .ref (mo + 1 + 3), .ref (mo + 1 + 4), .ref (mo + 1 + 5), .int (σ.1 25 1), .int (σ.1 25 2), .ref (mo + 1 + 6), .ref (mo + 1 + 7), .ref (mo + 1 + 8), .ref (mo + 1 + 9), .ref (mo + 1 + 10), .ref (mo + 1 + 11), .ref (mo + 1 + 12), .ref (mo + 1 + 13), .ref (mo + 1 + 14), .ref (mo + 1 + 15), .ref (mo + 1 + 16), .ref (mo + 1 + 17), .ref (mo + 1 + 18), .ref (mo + 1 + 19), .ref (mo + 1 + 20), .ref (mo + 1 + 21), .ref (mo + 1 + 22), .ref (mo + 1 + 23), .ref (mo + 1 + 24)]
abbrev zm_ci : Nat := 6
def zm_h (A : Nat → ClassId) (mo : Nat) (σ : zm_S) (w : zg_w) : Prop := w mo = some (.inr (zm_ci, zm_fs mo σ)) ∧ ∀ k, k < 25 → w (mo + 1 + k) = some (zm_cell A σ k)
def zm_P (A : Nat → ClassId) (mo : Nat) (w0 : zg_w) (sz : Nat) (σ : zm_S) : zg_P := fun w z => z = sz ∧ zm_h A mo σ w ∧ ∀ q, (q < mo ∨ mo + 26 ≤ q) → w q = w0 q
theorem zm_cell_n {A : Nat → ClassId} {σ : zm_S} {k i : Nat} {x : Int32} {j : Nat} (h : j ≠ k) : zm_cell A (zm_set σ k i x) j = zm_cell A σ j := by simp [zm_cell, zm_set, h]
theorem zm_cell_nL {A : Nat → ClassId} {σ : zm_S} {k i : Nat} {x : Int64} {j : Nat} (h : j ≠ k) : zm_cell A (zm_setL σ k i x) j = zm_cell A σ j := by simp [zm_cell, zm_setL, h]
theorem zm_cell_i {A : Nat → ClassId} {σ : zm_S} {k t : Nat} (h : zm_ty k = t) (ht : t ≠ 2) : zm_cell A σ k = .inl (A t, zm_len k, .inl (σ.1 k)) := by
  subst h
  simp [zm_cell, ht]
theorem zm_cell_l {A : Nat → ClassId} {σ : zm_S} {k : Nat} (h : zm_ty k = 2) : zm_cell A σ k = .inl (A 2, zm_len k, .inr (.inl (σ.2 k))) := by simp [zm_cell, h]
theorem zm_len_lt : ∀ k, k < 25 → zm_len k < 2 ^ 31 := by decide
theorem zm_fs_n {mo : Nat} {σ : zm_S} {k i : Nat} {x : Int32} (h : k ≠ 25) : zm_fs mo (zm_set σ k i x) = zm_fs mo σ := by simp [zm_fs, zm_set, Ne.symm h]
theorem zm_fs_nL {mo : Nat} {σ : zm_S} {k i : Nat} {x : Int64} : zm_fs mo (zm_setL σ k i x) = zm_fs mo σ := rfl
theorem zm_P.st {A : Nat → ClassId} {mo sz : Nat} {w0 : zg_w} {σ : zm_S} {k i : Nat} {x : Int32} (hk : k < 25) (ht : zm_ty k = 0 ∨ zm_ty k = 1) (w : zg_w) (z : Nat) (h : zm_P A mo w0 sz σ w z) : zm_P A mo w0 sz (zm_set σ k i x) (zg_u w (mo + 1 + k) (.inl (A (zm_ty k), zm_len k, .inl (upd (σ.1 k) i x)))) z := by
  obtain ⟨hz, ⟨h1, h2⟩, h3⟩ := h
  refine ⟨hz, ⟨?_, fun j hj => ?_⟩, fun q hq => ?_⟩
  · rw [zg_un (by omega), zm_fs_n (by omega)]; exact h1
  · by_cases hjk : j = k
    · subst hjk
      rw [zg_us, zm_cell_i rfl (by omega)]
      simp [zm_set]
    · rw [zg_un (by omega), zm_cell_n hjk]; exact h2 j hj
  · rw [zg_un (by omega)]; exact h3 q hq
theorem zm_P.stL {A : Nat → ClassId} {mo sz : Nat} {w0 : zg_w} {σ : zm_S} {k i : Nat} {x : Int64} (hk : k < 25) (ht : zm_ty k = 2) (w : zg_w) (z : Nat) (h : zm_P A mo w0 sz σ w z) : zm_P A mo w0 sz (zm_setL σ k i x) (zg_u w (mo + 1 + k) (.inl (A 2, zm_len k, .inr (.inl (vp_updL (σ.2 k) i x))))) z := by
  obtain ⟨hz, ⟨h1, h2⟩, h3⟩ := h
  refine ⟨hz, ⟨?_, fun j hj => ?_⟩, fun q hq => ?_⟩
  · rw [zg_un (by omega), zm_fs_nL]; exact h1
  · by_cases hjk : j = k
    · subst hjk
      rw [zg_us, zm_cell_l ht]
      simp [zm_setL]
    · rw [zg_un (by omega), zm_cell_nL hjk]; exact h2 j hj
  · rw [zg_un (by omega)]; exact h3 q hq
/-- the places of the object's own ints among its fields -/
def zm_fp (i : Nat) : Nat := [0, 7, 8].getD i 0
theorem zm_P.pt {A : Nat → ClassId} {mo sz : Nat} {w0 : zg_w} {σ : zm_S} {i : Nat} {x : Int32} (hi : i < 3) (w : zg_w) (z : Nat) (h : zm_P A mo w0 sz σ w z) : zm_P A mo w0 sz (zm_set σ 25 i x) (zg_u w mo (.inr (zm_ci, (zm_fs mo σ).set (zm_fp i) (.int x)))) z := by
  obtain ⟨hz, ⟨h1, h2⟩, h3⟩ := h
  refine ⟨hz, ⟨?_, fun j hj => ?_⟩, fun q hq => ?_⟩
  · rw [zg_us]
    rcases (show i = 0 ∨ i = 1 ∨ i = 2 by omega) with rfl | rfl | rfl <;> simp [zm_fs, zm_set, zm_fp, upd]
  · rw [zg_un (by omega), zm_cell_n (by omega)]; exact h2 j hj
  · rw [zg_un (by omega)]; exact h3 q hq
section ZMR
variable {K : zg_K} {cells slots pc : Nat} {L : List (Nat × Value)} {st : List Value} {cc : ByteArray} {own : String} {rm : Room} {mo sz : Nat} {w0 : zg_w} {σ : zm_S}
theorem zm_iald (F : zg_F K cc own rm) (k : Nat) {j : Nat} {v : Int32} (hk : k < 25) (ht : zm_ty k = 0) (hj : j < zm_len k) (hv : σ.1 k j = v) (d : decode cc pc = .ok (.iaload, 1)) (kk : zg_G K (zm_P (zk_A K) mo w0 sz σ) cells slots (pc + 1) L (.int v :: st)) : zg_G K (zm_P (zk_A K) mo w0 sz σ) cells slots pc L (.int (nI j) :: .ref (mo + 1 + k) :: st) :=
  zg_iald F (fun w z h => by rw [h.2.1.2 k hk, zm_cell_i ht (by decide)]) hj (zm_len_lt k hk) hv d kk
theorem zm_zald (F : zg_F K cc own rm) (k : Nat) {j : Nat} {v : Int32} (hk : k < 25) (ht : zm_ty k = 1) (hj : j < zm_len k) (hv : σ.1 k j = v) (d : decode cc pc = .ok (.baload, 1)) (kk : zg_G K (zm_P (zk_A K) mo w0 sz σ) cells slots (pc + 1) L (.int v :: st)) : zg_G K (zm_P (zk_A K) mo w0 sz σ) cells slots pc L (.int (nI j) :: .ref (mo + 1 + k) :: st) :=
  zg_zald F (fun w z h => by rw [h.2.1.2 k hk, zm_cell_i ht (by decide)]) hj (zm_len_lt k hk) hv d kk
theorem zm_lald (F : zg_F K cc own rm) (k : Nat) {j : Nat} {v : Int64} (hk : k < 25) (ht : zm_ty k = 2) (hj : j < zm_len k) (hv : σ.2 k j = v) (d : decode cc pc = .ok (.laload, 1)) (kk : zg_G K (zm_P (zk_A K) mo w0 sz σ) cells slots (pc + 1) L (.long v :: st)) : zg_G K (zm_P (zk_A K) mo w0 sz σ) cells slots pc L (.int (nI j) :: .ref (mo + 1 + k) :: st) :=
  zg_lald F (fun w z h => by rw [h.2.1.2 k hk, zm_cell_l ht]) hj (zm_len_lt k hk) hv d kk
theorem zm_iast (F : zg_F K cc own rm) (k : Nat) {j : Nat} {x : Int32} (hk : k < 25) (ht : zm_ty k = 0) (hj : j < zm_len k) (d : decode cc pc = .ok (.iastore, 1)) (kk : zg_G K (zm_P (zk_A K) mo w0 sz (zm_set σ k j x)) cells slots (pc + 1) L st) : zg_G K (zm_P (zk_A K) mo w0 sz σ) cells slots pc L (.int x :: .int (nI j) :: .ref (mo + 1 + k) :: st) :=
  zg_iast F (fun w z h => by rw [h.2.1.2 k hk, zm_cell_i ht (by decide)]) hj (zm_len_lt k hk) (fun w z h => by have g := zm_P.st (i := j) (x := x) hk (Or.inl ht) w z h; rw [ht] at g; exact g) d kk
theorem zm_zast (F : zg_F K cc own rm) (k : Nat) {j : Nat} {x : Int32} (hk : k < 25) (ht : zm_ty k = 1) (hj : j < zm_len k) (hx : vp_nar .boolean x = x) (d : decode cc pc = .ok (.bastore, 1)) (kk : zg_G K (zm_P (zk_A K) mo w0 sz (zm_set σ k j x)) cells slots (pc + 1) L st) : zg_G K (zm_P (zk_A K) mo w0 sz σ) cells slots pc L (.int x :: .int (nI j) :: .ref (mo + 1 + k) :: st) :=
  zg_zast F (fun w z h => by rw [h.2.1.2 k hk, zm_cell_i ht (by decide)]) hj (zm_len_lt k hk) (fun w z h => by have g := zm_P.st (i := j) (x := x) hk (Or.inr ht) w z h; rw [ht] at g; rw [hx]; exact g) d kk
theorem zm_last (F : zg_F K cc own rm) (k : Nat) {j : Nat} {x : Int64} (hk : k < 25) (ht : zm_ty k = 2) (hj : j < zm_len k) (d : decode cc pc = .ok (.lastore, 1)) (kk : zg_G K (zm_P (zk_A K) mo w0 sz (zm_setL σ k j x)) cells slots (pc + 1) L st) : zg_G K (zm_P (zk_A K) mo w0 sz σ) cells slots pc L (.long x :: .int (nI j) :: .ref (mo + 1 + k) :: st) :=
  zg_last F (fun w z h => by rw [h.2.1.2 k hk, zm_cell_l ht]) hj (zm_len_lt k hk) (fun w z h => zm_P.stL hk ht w z h) d kk
end ZMR
/-! what the reference's methods do, as functions of its state -/
abbrev zz4 (k : Int32) : Prop := ¬ k < 0 ∧ ¬ nI 4 ≤ k
def zb (p : Prop) [Decidable p] : Int32 := if p then nI 1 else nI 0
def zn (x : Int32) : Nat := x.toNatClampNeg
theorem zn_nI {n : Nat} (h : n < 2 ^ 31) : zn (nI n) = n := nI_clamp h
def zm_lies (σ : zm_S) (at' leg : Nat) : Nat → Int32
  | 0 => nI 0
  | i + 1 => if σ.1 3 (at' + i) = nI (leg / 4) ∧ σ.1 4 (at' + i) ≤ nI (leg % 4) ∧ nI (leg % 4) < σ.1 5 (at' + i) then zm_lies σ at' leg i + nI 1 else zm_lies σ at' leg i
def zm_fits (σ : zm_S) (port at' parts : Nat) (n : Int32) : Nat → Int32
  | 0 => nI 1
  | i + 1 => if zm_fits σ port at' parts n i = 0 then nI 0 else if n * zm_lies σ at' i parts ≤ σ.1 2 (16 * port + i) then nI 1 else nI 0
def zm_give (σ : zm_S) (port at' parts : Nat) (n : Int32) : Nat → zm_S
  | 0 => σ
  | i + 1 => zm_set (zm_give σ port at' parts n i) 2 (16 * port + i) ((zm_give σ port at' parts n i).1 2 (16 * port + i) + n * zm_lies (zm_give σ port at' parts n i) at' i parts)
def zm_cp1 (σ : zm_S) (a b : Nat) : zm_S := zm_set (zm_set (zm_set σ 3 a (σ.1 3 b)) 4 a (σ.1 4 b)) 5 a (σ.1 5 b)
def zm_copy (σ : zm_S) (tg at' : Nat) : Nat → zm_S
  | 0 => σ
  | i + 1 => zm_cp1 (zm_copy σ tg at' i) (tg + i) (at' + i)
def zm_sum (σ : zm_S) (at' parts : Nat) : Nat → Int64
  | 0 => 0
  | i + 1 => zm_sum σ at' parts i + (zm_lies σ at' i parts).toInt64 * (σ.1 1 i).toInt64
end
section
set_option maxRecDepth 100000 in
set_option maxHeartbeats 4000000 in
theorem zM_isFour (l : Launch) (D : va_G) (A : Nat → ClassId) (base : Nat) (P : zg_P) (k : Int32) : zg_Met l zm_M_isFour zc_M_isFour 1 (some .boolean) 0 0 0 D A base [.int k] (P) (some (.int (zb (zz4 k)))) (P) := by
  refine zg_met (by decide) (Nat.le_of_ble_eq_true rfl) ?_
  intro K hl hD hA hz hn hnm F E
  subst hl hD hA hz
  show zg_G K (P) 0 0 0 [(0, .int k)] []
  by_cases h1 : k < 0
  · have e : zb (zz4 k) = nI 0 := if_neg (fun q => q.1 h1)
    rw [e] at E
    refine zg_iload_n F 0 rfl rfl dM_isFour_0 ?_
    refine zg_if_ltT F (tgt := 13) dM_isFour_1 (by decide) (h1) ?_
    refine zg_iconst F (v := nI 0) (by decide) dM_isFour_13 ?_
    exact zg_zret F E rfl (Nat.zero_le _) (Nat.zero_le _) (fun _ _ h => h) dM_isFour_14
  · refine zg_iload_n F 0 rfl rfl dM_isFour_0 ?_
    refine zg_if_ltF F dM_isFour_1 (tgt := 13) (by decide) (h1) ?_
    refine zg_iload_n F 0 rfl rfl dM_isFour_4 ?_
    refine zg_iconst F (v := nI 4) (by decide) dM_isFour_5 ?_
    by_cases h2 : nI 4 ≤ k
    · have e : zb (zz4 k) = nI 0 := if_neg (fun q => q.2 h2)
      rw [e] at E
      refine zg_icmp_geT F (tgt := 13) dM_isFour_6 (by decide) (h2) ?_
      refine zg_iconst F (v := nI 0) (by decide) dM_isFour_13 ?_
      exact zg_zret F E rfl (Nat.zero_le _) (Nat.zero_le _) (fun _ _ h => h) dM_isFour_14
    · have e : zb (zz4 k) = nI 1 := if_pos ⟨h1, h2⟩
      rw [e] at E
      refine zg_icmp_geF F dM_isFour_6 (tgt := 13) (by decide) (h2) ?_
      refine zg_iconst F (v := nI 1) (by decide) dM_isFour_9 ?_
      refine zg_goto F (tgt := 14) dM_isFour_10 (by decide) ?_
      exact zg_zret F E rfl (Nat.zero_le _) (Nat.zero_le _) (fun _ _ h => h) dM_isFour_14
set_option maxRecDepth 100000 in
set_option maxHeartbeats 4000000 in
theorem zM_refused (l : Launch) (D : va_G) (A : Nat → ClassId) (base : Nat) (mo sz : Nat) (w0 : zg_w) (σ : zm_S) (c : Int32) : zg_Met l zm_M_refused zc_M_refused 2 (some .boolean) 0 0 0 D A base [.ref mo, .int c] (zm_P A mo w0 sz σ) (some (.int (zb (0 < c)))) (zm_P A mo w0 sz (zm_set σ 25 0 c)) := by
  refine zg_met (by decide) (Nat.le_of_ble_eq_true rfl) ?_
  intro K hl hD hA hz hn hnm F E
  subst hl hD hA hz
  show zg_G K (zm_P (zk_A K) mo w0 sz σ) 0 0 0 [(0, .ref mo), (1, .int c)] []
  refine zg_aload_n F 0 rfl rfl dM_refused_0 ?_
  refine zg_iload_n F 1 rfl rfl dM_refused_1 ?_
  refine zg_put F (fun _ _ h => h.2.1.1) rfl zi_M zy_M zt_M zn_M 0 (by decide) rfl zk_538 rfl rfl rfl rfl (Nat.le_of_ble_eq_true rfl) (fun w z h => zm_P.pt (i := 0) (by decide) w z h) dM_refused_2 ?_
  refine zg_iload_n F 1 rfl rfl dM_refused_5 ?_
  by_cases h1 : 0 < c
  · have e : zb (0 < c) = nI 1 := if_pos h1
    rw [e] at E
    refine zg_if_leF F dM_refused_6 (tgt := 13) (by decide) (Int32.not_le.mpr h1) ?_
    refine zg_iconst F (v := nI 1) (by decide) dM_refused_9 ?_
    refine zg_goto F (tgt := 14) dM_refused_10 (by decide) ?_
    exact zg_zret F E rfl (Nat.zero_le _) (Nat.zero_le _) (fun _ _ h => h) dM_refused_14
  · have e : zb (0 < c) = nI 0 := if_neg h1
    rw [e] at E
    refine zg_if_leT F (tgt := 13) dM_refused_6 (by decide) (Int32.not_lt.mp h1) ?_
    refine zg_iconst F (v := nI 0) (by decide) dM_refused_13 ?_
    exact zg_zret F E rfl (Nat.zero_le _) (Nat.zero_le _) (fun _ _ h => h) dM_refused_14
set_option maxRecDepth 100000 in
set_option maxHeartbeats 4000000 in
theorem zM_thrown (l : Launch) (D : va_G) (A : Nat → ClassId) (base : Nat) (mo sz : Nat) (w0 : zg_w) (σ : zm_S) : zg_Met l zm_M_thrown zc_M_thrown 1 (some .int) 0 0 0 D A base [.ref mo] (zm_P A mo w0 sz σ) (some (.int (σ.1 25 0))) (zm_P A mo w0 sz σ) := by
  refine zg_met (by decide) (Nat.le_of_ble_eq_true rfl) ?_
  intro K hl hD hA hz hn hnm F E
  subst hl hD hA hz
  show zg_G K (zm_P (zk_A K) mo w0 sz σ) 0 0 0 [(0, .ref mo)] []
  refine zg_aload_n F 0 rfl rfl dM_thrown_0 ?_
  refine zg_get F (fun _ _ h => h.2.1.1) rfl zi_M 0 (by decide) rfl zk_538 rfl dM_thrown_1 ?_
  exact zg_iret F E (Nat.zero_le _) (Nat.zero_le _) (fun _ _ h => h) dM_thrown_4
set_option maxRecDepth 100000 in
set_option maxHeartbeats 4000000 in
theorem zM_lies (l : Launch) (D : va_G) (A : Nat → ClassId) (base : Nat) (mo sz : Nat) (w0 : zg_w) (σ : zm_S) (at' parts leg : Nat) (h1 : at' + parts ≤ 420) (h2 : leg < 16) : zg_Met l zm_M_lies zc_M_lies 6 (some .int) 0 0 0 D A base [.ref mo, .int (nI at'), .int (nI parts), .int (nI leg)] (zm_P A mo w0 sz σ) (some (.int (zm_lies σ at' leg parts))) (zm_P A mo w0 sz σ) := by
  refine zg_met (by decide) (Nat.le_of_ble_eq_true rfl) ?_
  intro K hl hD hA hz hn hnm F E
  subst hl hD hA hz
  show zg_G K (zm_P (zk_A K) mo w0 sz σ) 0 0 0 [(0, .ref mo), (1, .int (nI at')), (2, .int (nI parts)), (3, .int (nI leg))] []
  refine zg_iconst F (v := nI 0) (by decide) dM_lies_0 ?_
  refine zg_istore F (by rw [hn]; decide) (L' := [(4, _), (0, _), (1, _), (2, _), (3, _)]) rfl dM_lies_1 ?_
  refine zg_iload_n F 2 rfl rfl dM_lies_3 ?_
  refine zg_istore F (by rw [hn]; decide) (L' := [(5, _), (4, _), (0, _), (1, _), (2, _), (3, _)]) rfl dM_lies_4 ?_
  have loop : ∀ r i, i + r = parts → zg_G K (zm_P (zk_A K) mo w0 sz σ) 0 0 6 [(5, .int (nI (at' + i))), (4, .int (zm_lies σ at' leg i)), (0, .ref mo), (1, .int (nI at')), (2, .int (nI parts)), (3, .int (nI leg))] [] := by
    intro r
    induction r with
    | zero =>
      intro i hi
      obtain rfl : i = parts := by omega
      refine zg_iload F 0 rfl dM_lies_6 ?_
      refine zg_iload_n F 3 rfl rfl dM_lies_8 ?_
      refine zg_iload_n F 4 rfl rfl dM_lies_9 ?_
      refine zg_iadd F (by first | exact nI_add _ _ | rfl) dM_lies_10 ?_
      refine zg_icmp_geT F (tgt := 70) dM_lies_11 (by decide) (nI_le (by omega) (by omega)) ?_
      refine zg_iload F 1 rfl dM_lies_70 ?_
      exact zg_iret F E (Nat.zero_le _) (Nat.zero_le _) (fun _ _ h => h) dM_lies_72
    | succ r ih =>
      intro i hi
      refine zg_iload F 0 rfl dM_lies_6 ?_
      refine zg_iload_n F 3 rfl rfl dM_lies_8 ?_
      refine zg_iload_n F 4 rfl rfl dM_lies_9 ?_
      refine zg_iadd F (by first | exact nI_add _ _ | rfl) dM_lies_10 ?_
      refine zg_icmp_geF F dM_lies_11 (tgt := 70) (by decide) (nI_ge (by omega) (by omega)) ?_
      refine zg_aload_n F 2 rfl rfl dM_lies_14 ?_
      refine zg_get F (fun _ _ h => h.2.1.1) rfl zi_M 4 (by decide) rfl zk_542 rfl dM_lies_15 ?_
      refine zg_iload F 0 rfl dM_lies_18 ?_
      refine zm_iald F 3 (by decide) rfl (by show _ < 420; omega) rfl dM_lies_20 ?_
      refine zg_iload_n F 5 rfl rfl dM_lies_21 ?_
      refine zg_iconst F (v := nI 4) (by decide) dM_lies_22 ?_
      refine zg_idiv F (by decide) (pk_div (by omega) (by omega) (by omega)) dM_lies_23 ?_
      refine zg_icmp_ne F (tgt := 60) dM_lies_24 (by decide) (fun g1 => ?_) (fun g1 => ?_)
      · refine zg_iload F 1 rfl dM_lies_60 ?_
        refine zg_istore F (by rw [hn]; decide) (L' := [(4, _), (5, _), (0, _), (1, _), (2, _), (3, _)]) rfl dM_lies_62 ?_
        refine zg_iinc F 1 rfl (by first | exact zc_inc _ | rfl) (by rw [hn]; decide) (L' := [(5, _), (4, _), (0, _), (1, _), (2, _), (3, _)]) rfl dM_lies_64 ?_
        refine zg_goto F (tgt := 6) dM_lies_67 (by decide) ?_
        have e : zm_lies σ at' leg (i + 1) = zm_lies σ at' leg i := if_neg (fun q => g1 q.1)
        have g := ih (i + 1) (by omega)
        rw [e] at g
        exact g
      · refine zg_aload_n F 2 rfl rfl dM_lies_27 ?_
        refine zg_get F (fun _ _ h => h.2.1.1) rfl zi_M 5 (by decide) rfl zk_543 rfl dM_lies_28 ?_
        refine zg_iload F 0 rfl dM_lies_31 ?_
        refine zm_iald F 4 (by decide) rfl (by show _ < 420; omega) rfl dM_lies_33 ?_
        refine zg_iload_n F 5 rfl rfl dM_lies_34 ?_
        refine zg_iconst F (v := nI 4) (by decide) dM_lies_35 ?_
        refine zg_irem F (by decide) (pk_rem (by omega) (by omega) (by omega)) dM_lies_36 ?_
        refine zg_icmp_gt F (tgt := 60) dM_lies_37 (by decide) (fun g2 => ?_) (fun g2 => ?_)
        · refine zg_iload F 1 rfl dM_lies_60 ?_
          refine zg_istore F (by rw [hn]; decide) (L' := [(4, _), (5, _), (0, _), (1, _), (2, _), (3, _)]) rfl dM_lies_62 ?_
          refine zg_iinc F 1 rfl (by first | exact zc_inc _ | rfl) (by rw [hn]; decide) (L' := [(5, _), (4, _), (0, _), (1, _), (2, _), (3, _)]) rfl dM_lies_64 ?_
          refine zg_goto F (tgt := 6) dM_lies_67 (by decide) ?_
          have e : zm_lies σ at' leg (i + 1) = zm_lies σ at' leg i := if_neg (fun q => Int32.not_le.mpr g2 q.2.1)
          have g := ih (i + 1) (by omega)
          rw [e] at g
          exact g
        · refine zg_iload_n F 5 rfl rfl dM_lies_40 ?_
          refine zg_iconst F (v := nI 4) (by decide) dM_lies_41 ?_
          refine zg_irem F (by decide) (pk_rem (by omega) (by omega) (by omega)) dM_lies_42 ?_
          refine zg_aload_n F 2 rfl rfl dM_lies_43 ?_
          refine zg_get F (fun _ _ h => h.2.1.1) rfl zi_M 6 (by decide) rfl zk_544 rfl dM_lies_44 ?_
          refine zg_iload F 0 rfl dM_lies_47 ?_
          refine zm_iald F 5 (by decide) rfl (by show _ < 420; omega) rfl dM_lies_49 ?_
          refine zg_icmp_ge F (tgt := 60) dM_lies_50 (by decide) (fun g3 => ?_) (fun g3 => ?_)
          · refine zg_iload F 1 rfl dM_lies_60 ?_
            refine zg_istore F (by rw [hn]; decide) (L' := [(4, _), (5, _), (0, _), (1, _), (2, _), (3, _)]) rfl dM_lies_62 ?_
            refine zg_iinc F 1 rfl (by first | exact zc_inc _ | rfl) (by rw [hn]; decide) (L' := [(5, _), (4, _), (0, _), (1, _), (2, _), (3, _)]) rfl dM_lies_64 ?_
            refine zg_goto F (tgt := 6) dM_lies_67 (by decide) ?_
            have e : zm_lies σ at' leg (i + 1) = zm_lies σ at' leg i := if_neg (fun q => Int32.not_lt.mpr g3 q.2.2)
            have g := ih (i + 1) (by omega)
            rw [e] at g
            exact g
          · refine zg_iload F 1 rfl dM_lies_53 ?_
            refine zg_iconst F (v := nI 1) (by decide) dM_lies_55 ?_
            refine zg_iadd F (by first | exact nI_add _ _ | rfl) dM_lies_56 ?_
            refine zg_goto F (tgt := 62) dM_lies_57 (by decide) ?_
            refine zg_istore F (by rw [hn]; decide) (L' := [(4, _), (5, _), (0, _), (1, _), (2, _), (3, _)]) rfl dM_lies_62 ?_
            refine zg_iinc F 1 rfl (by first | exact zc_inc _ | rfl) (by rw [hn]; decide) (L' := [(5, _), (4, _), (0, _), (1, _), (2, _), (3, _)]) rfl dM_lies_64 ?_
            refine zg_goto F (tgt := 6) dM_lies_67 (by decide) ?_
            have e : zm_lies σ at' leg (i + 1) = zm_lies σ at' leg i + nI 1 := if_pos ⟨g1, Int32.not_lt.mp g2, Int32.not_le.mp g3⟩
            have g := ih (i + 1) (by omega)
            rw [e] at g
            exact g
  exact loop parts 0 (by omega)
end
section
def zc_wrong (a b : Int32) : Nat := if zz4 a ∧ zz4 b then (if a = b then 2 else 0) else 1
def zm_loseN (σ : zm_S) (p : Nat) : Int32 := zb (0 < σ.1 17 p) + zb (¬ σ.1 19 p < 0)
def zm_lose1 (σ : zm_S) (p : Nat) : zm_S := zm_set (zm_set σ 17 p (nI 0)) 19 p (-1)
def zm_encl (σ : zm_S) (a b leg bx : Nat) (n : Int32) : zm_S :=
  let p := 4 * a + b
  let k := 8 * p + bx
  let s1 := zm_set σ 15 p (σ.1 15 p + nI 1)
  let s5 := zm_set (zm_set (zm_set (zm_set s1 20 k (s1.1 15 p)) 21 k (nI leg)) 22 k n) 16 p (nI (bx + 1))
  zm_set s5 2 (16 * a + leg) (s5.1 2 (16 * a + leg) - n)
theorem zm_set_o {σ : zm_S} {k i j : Nat} {x : Int32} (h : j ≠ k) : (zm_set σ k i x).1 j = σ.1 j := by simp [zm_set, h]
theorem zm_set_s {σ : zm_S} {k i : Nat} {x : Int32} : (zm_set σ k i x).1 k i = x := by simp [zm_set, upd]
theorem zm_set_n {σ : zm_S} {k i j : Nat} {x : Int32} (h : j ≠ i) : (zm_set σ k i x).1 k j = σ.1 k j := by simp [zm_set, upd, h]
theorem zm_give_o {σ : zm_S} {port at' parts j : Nat} {n : Int32} (h : j ≠ 2) : ∀ i, (zm_give σ port at' parts n i).1 j = σ.1 j
  | 0 => rfl
  | i + 1 => by rw [zm_give, zm_set_o h]; exact zm_give_o h i
theorem zm_cp1_o {σ : zm_S} {a b j : Nat} (h : j ≠ 3 ∧ j ≠ 4 ∧ j ≠ 5) : (zm_cp1 σ a b).1 j = σ.1 j := by rw [zm_cp1, zm_set_o h.2.2, zm_set_o h.2.1, zm_set_o h.1]
theorem zm_copy_o {σ : zm_S} {tg at' j : Nat} (h : j ≠ 3 ∧ j ≠ 4 ∧ j ≠ 5) : ∀ i, (zm_copy σ tg at' i).1 j = σ.1 j
  | 0 => rfl
  | i + 1 => by rw [zm_copy, zm_cp1_o h]; exact zm_copy_o h i
theorem zm_give_L {σ : zm_S} {port at' parts : Nat} {n : Int32} : ∀ i, (zm_give σ port at' parts n i).2 = σ.2
  | 0 => rfl
  | i + 1 => zm_give_L i
theorem zm_copy_L {σ : zm_S} {tg at' : Nat} : ∀ i, (zm_copy σ tg at' i).2 = σ.2
  | 0 => rfl
  | i + 1 => zm_copy_L i
def zm_sell (σ : zm_S) (T port at' parts : Nat) (n : Int32) : zm_S :=
  let q := n.toInt64 * zm_sum σ at' parts 16
  let s2 := zm_copy (zm_give σ port at' parts (-n) 16) (4 + 4 * T) at' parts
  let s6 := zm_setL (zm_set (zm_set (zm_set s2 6 T (nI port)) 7 T n) 8 T (nI parts)) 9 T q
  let s7 := zm_set s6 10 T (nI 1)
  zm_set (zm_setL s7 11 port (s7.2 11 port + q)) 25 2 (nI (T + 1))
theorem zm_sell_o {σ : zm_S} {T port at' parts j : Nat} {n : Int32} (h : j = 12 ∨ j = 13 ∨ j = 14) : (zm_sell σ T port at' parts n).1 j = σ.1 j := by
  unfold zm_sell
  rcases h with rfl | rfl | rfl <;> (show (zm_copy _ _ _ _).1 _ = _; rw [zm_copy_o (by decide), zm_give_o (by decide)])
def zm_keep (s : zm_S) (tg w p : Nat) : zm_S :=
  let s1 := zm_copy s (324 + 4 * tg) (324 + 4 * w) p
  let s2 := zm_set s1 13 tg (s1.1 13 w)
  zm_set s2 14 tg (s2.1 14 w)
/-- k turns of the loop of serve: the state, and how many wishes were kept -/
def zm_sv (σ : zm_S) (port T : Nat) : Nat → zm_S × Nat
  | 0 => (σ, 0)
  | k + 1 => if T + (k - (zm_sv σ port T k).2) < 80 ∧ ¬ zm_fits (zm_sv σ port T k).1 port (324 + 4 * (6 * port + k)) (zn (σ.1 14 (6 * port + k))) ((zm_sv σ port T k).1.1 13 (6 * port + k)) 16 = 0
      then (zm_sell (zm_sv σ port T k).1 (T + (k - (zm_sv σ port T k).2)) port (324 + 4 * (6 * port + k)) (zn (σ.1 14 (6 * port + k))) ((zm_sv σ port T k).1.1 13 (6 * port + k)), (zm_sv σ port T k).2)
      else (zm_keep (zm_sv σ port T k).1 (6 * port + (zm_sv σ port T k).2) (6 * port + k) (zn (σ.1 14 (6 * port + k))), (zm_sv σ port T k).2 + 1)
def zm_serve (σ : zm_S) (port T had : Nat) : zm_S := zm_set (zm_sv σ port T had).1 12 port (nI (zm_sv σ port T had).2)
theorem zm_sv_le (σ : zm_S) (port T : Nat) : ∀ k, (zm_sv σ port T k).2 ≤ k
  | 0 => Nat.le_refl _
  | k + 1 => by
    have h := zm_sv_le σ port T k
    rw [zm_sv]
    split
    · exact Nat.le_succ_of_le h
    · exact Nat.succ_le_succ h
theorem zm_sv_14 (σ : zm_S) (port T : Nat) : ∀ k j, k ≤ j → (zm_sv σ port T k).1.1 14 (6 * port + j) = σ.1 14 (6 * port + j)
  | 0, j, _ => rfl
  | k + 1, j, h => by
    have ih := zm_sv_14 σ port T k j (by omega)
    have hle := zm_sv_le σ port T k
    rw [zm_sv]
    split
    · show (zm_sell _ _ _ _ _ _).1 14 _ = _
      rw [zm_sell_o (Or.inr (Or.inr rfl))]; exact ih
    · show (zm_keep _ _ _ _).1 14 _ = _
      unfold zm_keep
      rw [zm_set_n (by omega), zm_set_o (by decide), zm_copy_o (by decide)]; exact ih
theorem zm_sv_T (σ : zm_S) (port T : Nat) (hT : σ.1 25 2 = nI T) : ∀ k, (zm_sv σ port T k).1.1 25 2 = nI (T + (k - (zm_sv σ port T k).2))
  | 0 => hT
  | k + 1 => by
    have ih := zm_sv_T σ port T hT k
    have hle := zm_sv_le σ port T k
    rw [zm_sv]
    split
    · show (zm_sell _ _ _ _ _ _).1 25 2 = _
      unfold zm_sell
      rw [zm_set_s]
      show nI _ = nI _
      congr 1; dsimp only; omega
    · show (zm_keep _ _ _ _).1 25 2 = nI (T + (k + 1 - (_ + 1)))
      unfold zm_keep
      rw [zm_set_o (by decide), zm_set_o (by decide), zm_copy_o (by decide), ih]
      congr 1; omega
theorem zm_sv_80 (σ : zm_S) (port T : Nat) (hT : T ≤ 80) : ∀ k, T + (k - (zm_sv σ port T k).2) ≤ 80
  | 0 => by show T + (0 - 0) ≤ 80; omega
  | k + 1 => by
    have ih := zm_sv_80 σ port T hT k
    have hle := zm_sv_le σ port T k
    rw [zm_sv]
    split
    · rename_i h; dsimp only; omega
    · dsimp only; omega
end
section
set_option maxRecDepth 100000 in
set_option maxHeartbeats 4000000 in
theorem zM_isTicket (l : Launch) (D : va_G) (A : Nat → ClassId) (base : Nat) (mo sz : Nat) (w0 : zg_w) (σ : zm_S) (t : Int32) : zg_Met l zm_M_isTicket zc_M_isTicket 2 (some .boolean) 0 0 0 D A base [.ref mo, .int t] (zm_P A mo w0 sz σ) (some (.int (zb (¬ t < 0 ∧ ¬ σ.1 25 2 ≤ t)))) (zm_P A mo w0 sz σ) := by
  refine zg_met (by decide) (Nat.le_of_ble_eq_true rfl) ?_
  intro K hl hD hA hz hn hnm F E
  subst hl hD hA hz
  show zg_G K (zm_P (zk_A K) mo w0 sz σ) 0 0 0 [(0, .ref mo), (1, .int t)] []
  refine zg_iload_n F 1 rfl rfl dM_isTicket_0 ?_
  by_cases h1 : t < 0
  · have e : zb (¬ t < 0 ∧ ¬ σ.1 25 2 ≤ t) = nI 0 := if_neg (fun q => q.1 h1)
    rw [e] at E
    refine zg_if_ltT F (tgt := 16) dM_isTicket_1 (by decide) (h1) ?_
    refine zg_iconst F (v := nI 0) (by decide) dM_isTicket_16 ?_
    exact zg_zret F E rfl (Nat.zero_le _) (Nat.zero_le _) (fun _ _ h => h) dM_isTicket_17
  · refine zg_if_ltF F dM_isTicket_1 (tgt := 16) (by decide) (h1) ?_
    refine zg_iload_n F 1 rfl rfl dM_isTicket_4 ?_
    refine zg_aload_n F 0 rfl rfl dM_isTicket_5 ?_
    refine zg_get F (fun _ _ h => h.2.1.1) rfl zi_M 8 (by decide) rfl zk_546 rfl dM_isTicket_6 ?_
    by_cases h2 : σ.1 25 2 ≤ t
    · have e : zb (¬ t < 0 ∧ ¬ σ.1 25 2 ≤ t) = nI 0 := if_neg (fun q => q.2 h2)
      rw [e] at E
      refine zg_icmp_geT F (tgt := 16) dM_isTicket_9 (by decide) (h2) ?_
      refine zg_iconst F (v := nI 0) (by decide) dM_isTicket_16 ?_
      exact zg_zret F E rfl (Nat.zero_le _) (Nat.zero_le _) (fun _ _ h => h) dM_isTicket_17
    · have e : zb (¬ t < 0 ∧ ¬ σ.1 25 2 ≤ t) = nI 1 := if_pos ⟨h1, h2⟩
      rw [e] at E
      refine zg_icmp_geF F dM_isTicket_9 (tgt := 16) (by decide) (h2) ?_
      refine zg_iconst F (v := nI 1) (by decide) dM_isTicket_12 ?_
      refine zg_goto F (tgt := 17) dM_isTicket_13 (by decide) ?_
      exact zg_zret F E rfl (Nat.zero_le _) (Nat.zero_le _) (fun _ _ h => h) dM_isTicket_17
set_option maxRecDepth 100000 in
set_option maxHeartbeats 4000000 in
theorem zM_wrong (l : Launch) (D : va_G) (A : Nat → ClassId) (base : Nat) (P : zg_P) (a b : Int32) : zg_Met l zm_M_wrong zc_M_wrong 2 (some .int) 1 0 0 D A base [.int a, .int b] (P) (some (.int (nI (zc_wrong a b)))) (P) := by
  refine zg_met (by decide) (Nat.le_of_ble_eq_true rfl) ?_
  intro K hl hD hA hz hn hnm F E
  subst hl hD hA hz
  show zg_G K (P) 0 0 0 [(0, .int a), (1, .int b)] []
  refine zg_iload_n F 0 rfl rfl dM_wrong_0 ?_
  refine zg_callS F (zM_isFour _ _ _ _ _ _) zv_M_isFour zu_M_isFour zk_632 rfl ⟨by decide, by decide⟩ ⟨by decide, by decide⟩ rfl (Nat.le_of_ble_eq_true rfl) dM_wrong_1 ?_
  by_cases h1 : zz4 a
  · have e1 : zb (zz4 a) = nI 1 := if_pos h1
    refine zg_eqi e1 ?_
    refine zg_if_eqF F dM_wrong_4 (tgt := 14) (by decide) (by decide) ?_
    refine zg_iload_n F 1 rfl rfl dM_wrong_7 ?_
    refine zg_callS F (zM_isFour _ _ _ _ _ _) zv_M_isFour zu_M_isFour zk_632 rfl ⟨by decide, by decide⟩ ⟨by decide, by decide⟩ rfl (Nat.le_of_ble_eq_true rfl) dM_wrong_8 ?_
    by_cases h2 : zz4 b
    · have e2 : zb (zz4 b) = nI 1 := if_pos h2
      refine zg_eqi e2 ?_
      refine zg_if_neT F (tgt := 18) dM_wrong_11 (by decide) (by decide) ?_
      refine zg_iload_n F 0 rfl rfl dM_wrong_18 ?_
      refine zg_iload_n F 1 rfl rfl dM_wrong_19 ?_
      by_cases h3 : a = b
      · have e : zc_wrong a b = 2 := by rw [zc_wrong, if_pos ⟨h1, h2⟩, if_pos h3]
        rw [e] at E
        refine zg_icmp_neF F dM_wrong_20 (tgt := 27) (by decide) (h3) ?_
        refine zg_iconst F (v := nI 2) (by decide) dM_wrong_23 ?_
        refine zg_goto F (tgt := 28) dM_wrong_24 (by decide) ?_
        exact zg_iret F E (Nat.zero_le _) (Nat.zero_le _) (fun _ _ h => h) dM_wrong_28
      · have e : zc_wrong a b = 0 := by rw [zc_wrong, if_pos ⟨h1, h2⟩, if_neg h3]
        rw [e] at E
        refine zg_icmp_neT F (tgt := 27) dM_wrong_20 (by decide) (h3) ?_
        refine zg_iconst F (v := nI 0) (by decide) dM_wrong_27 ?_
        exact zg_iret F E (Nat.zero_le _) (Nat.zero_le _) (fun _ _ h => h) dM_wrong_28
    · have e : zc_wrong a b = 1 := if_neg (fun q => h2 q.2)
      rw [e] at E
      have e2 : zb (zz4 b) = nI 0 := if_neg h2
      refine zg_eqi e2 ?_
      refine zg_if_neF F dM_wrong_11 (tgt := 18) (by decide) (by decide) ?_
      refine zg_iconst F (v := nI 1) (by decide) dM_wrong_14 ?_
      refine zg_goto F (tgt := 28) dM_wrong_15 (by decide) ?_
      exact zg_iret F E (Nat.zero_le _) (Nat.zero_le _) (fun _ _ h => h) dM_wrong_28
  · have e : zc_wrong a b = 1 := if_neg (fun q => h1 q.1)
    rw [e] at E
    have e1 : zb (zz4 a) = nI 0 := if_neg h1
    refine zg_eqi e1 ?_
    refine zg_if_eqT F (tgt := 14) dM_wrong_4 (by decide) (by decide) ?_
    refine zg_iconst F (v := nI 1) (by decide) dM_wrong_14 ?_
    refine zg_goto F (tgt := 28) dM_wrong_15 (by decide) ?_
    exact zg_iret F E (Nat.zero_le _) (Nat.zero_le _) (fun _ _ h => h) dM_wrong_28
set_option maxRecDepth 100000 in
set_option maxHeartbeats 4000000 in
theorem zM_loseOne (l : Launch) (D : va_G) (A : Nat → ClassId) (base : Nat) (mo sz : Nat) (w0 : zg_w) (σ : zm_S) (p : Nat) (hp : p < 16) : zg_Met l zm_M_loseOne zc_M_loseOne 3 (some .int) 0 0 0 D A base [.ref mo, .int (nI p)] (zm_P A mo w0 sz σ) (some (.int (zm_loseN σ p))) (zm_P A mo w0 sz (zm_lose1 σ p)) := by
  refine zg_met (by decide) (Nat.le_of_ble_eq_true rfl) ?_
  intro K hl hD hA hz hn hnm F E
  subst hl hD hA hz
  show zg_G K (zm_P (zk_A K) mo w0 sz σ) 0 0 0 [(0, .ref mo), (1, .int (nI p))] []
  refine zg_aload_n F 0 rfl rfl dM_loseOne_0 ?_
  refine zg_get F (fun _ _ h => h.2.1.1) rfl zi_M 20 (by decide) rfl zk_558 rfl dM_loseOne_1 ?_
  refine zg_iload_n F 1 rfl rfl dM_loseOne_4 ?_
  refine zm_iald F 17 (by decide) rfl (by show _ < 16; omega) rfl dM_loseOne_5 ?_
  by_cases h1 : 0 < σ.1 17 p
  · have e1 : zb (0 < σ.1 17 p) = nI 1 := if_pos h1
    refine zg_if_leF F dM_loseOne_6 (tgt := 13) (by decide) (Int32.not_le.mpr h1) ?_
    refine zg_iconst F (v := nI 1) (by decide) dM_loseOne_9 ?_
    refine zg_goto F (tgt := 14) dM_loseOne_10 (by decide) ?_
    refine zg_aload_n F 0 rfl rfl dM_loseOne_14 ?_
    refine zg_get F (fun _ _ h => h.2.1.1) rfl zi_M 22 (by decide) rfl zk_560 rfl dM_loseOne_15 ?_
    refine zg_iload_n F 1 rfl rfl dM_loseOne_18 ?_
    refine zm_iald F 19 (by decide) rfl (by show _ < 16; omega) rfl dM_loseOne_19 ?_
    by_cases h2 : σ.1 19 p < 0
    · have e : zm_loseN σ p = nI (1 + 0) := by rw [zm_loseN, e1, show zb (¬ σ.1 19 p < 0) = nI 0 from if_neg (fun q => q h2)]; rfl
      rw [e] at E
      refine zg_if_ltT F (tgt := 27) dM_loseOne_20 (by decide) (h2) ?_
      refine zg_iconst F (v := nI 0) (by decide) dM_loseOne_27 ?_
      refine zg_iadd F (by first | exact nI_add _ _ | rfl) dM_loseOne_28 ?_
      refine zg_istore_n F rfl (by rw [hn]; decide) (L' := [(2, _), (0, _), (1, _)]) rfl dM_loseOne_29 ?_
      refine zg_aload_n F 1 rfl rfl dM_loseOne_30 ?_
      refine zg_get F (fun _ _ h => h.2.1.1) rfl zi_M 20 (by decide) rfl zk_558 rfl dM_loseOne_31 ?_
      refine zg_iload_n F 2 rfl rfl dM_loseOne_34 ?_
      refine zg_iconst F (v := nI 0) (by decide) dM_loseOne_35 ?_
      refine zm_iast F 17 (by decide) rfl (by show _ < 16; omega) dM_loseOne_36 ?_
      refine zg_aload_n F 1 rfl rfl dM_loseOne_37 ?_
      refine zg_get F (fun _ _ h => h.2.1.1) rfl zi_M 22 (by decide) rfl zk_560 rfl dM_loseOne_38 ?_
      refine zg_iload_n F 2 rfl rfl dM_loseOne_41 ?_
      refine zg_iconst F (v := -1) (by decide) dM_loseOne_42 ?_
      refine zm_iast F 19 (by decide) rfl (by show _ < 16; omega) dM_loseOne_43 ?_
      refine zg_iload_n F 0 rfl rfl dM_loseOne_44 ?_
      exact zg_iret F E (Nat.zero_le _) (Nat.zero_le _) (fun _ _ h => h) dM_loseOne_45
    · have e : zm_loseN σ p = nI (1 + 1) := by rw [zm_loseN, e1, show zb (¬ σ.1 19 p < 0) = nI 1 from if_pos h2]; rfl
      rw [e] at E
      refine zg_if_ltF F dM_loseOne_20 (tgt := 27) (by decide) (h2) ?_
      refine zg_iconst F (v := nI 1) (by decide) dM_loseOne_23 ?_
      refine zg_goto F (tgt := 28) dM_loseOne_24 (by decide) ?_
      refine zg_iadd F (by first | exact nI_add _ _ | rfl) dM_loseOne_28 ?_
      refine zg_istore_n F rfl (by rw [hn]; decide) (L' := [(2, _), (0, _), (1, _)]) rfl dM_loseOne_29 ?_
      refine zg_aload_n F 1 rfl rfl dM_loseOne_30 ?_
      refine zg_get F (fun _ _ h => h.2.1.1) rfl zi_M 20 (by decide) rfl zk_558 rfl dM_loseOne_31 ?_
      refine zg_iload_n F 2 rfl rfl dM_loseOne_34 ?_
      refine zg_iconst F (v := nI 0) (by decide) dM_loseOne_35 ?_
      refine zm_iast F 17 (by decide) rfl (by show _ < 16; omega) dM_loseOne_36 ?_
      refine zg_aload_n F 1 rfl rfl dM_loseOne_37 ?_
      refine zg_get F (fun _ _ h => h.2.1.1) rfl zi_M 22 (by decide) rfl zk_560 rfl dM_loseOne_38 ?_
      refine zg_iload_n F 2 rfl rfl dM_loseOne_41 ?_
      refine zg_iconst F (v := -1) (by decide) dM_loseOne_42 ?_
      refine zm_iast F 19 (by decide) rfl (by show _ < 16; omega) dM_loseOne_43 ?_
      refine zg_iload_n F 0 rfl rfl dM_loseOne_44 ?_
      exact zg_iret F E (Nat.zero_le _) (Nat.zero_le _) (fun _ _ h => h) dM_loseOne_45
  · have e1 : zb (0 < σ.1 17 p) = nI 0 := if_neg h1
    refine zg_if_leT F (tgt := 13) dM_loseOne_6 (by decide) (Int32.not_lt.mp h1) ?_
    refine zg_iconst F (v := nI 0) (by decide) dM_loseOne_13 ?_
    refine zg_aload_n F 0 rfl rfl dM_loseOne_14 ?_
    refine zg_get F (fun _ _ h => h.2.1.1) rfl zi_M 22 (by decide) rfl zk_560 rfl dM_loseOne_15 ?_
    refine zg_iload_n F 1 rfl rfl dM_loseOne_18 ?_
    refine zm_iald F 19 (by decide) rfl (by show _ < 16; omega) rfl dM_loseOne_19 ?_
    by_cases h2 : σ.1 19 p < 0
    · have e : zm_loseN σ p = nI (0 + 0) := by rw [zm_loseN, e1, show zb (¬ σ.1 19 p < 0) = nI 0 from if_neg (fun q => q h2)]; rfl
      rw [e] at E
      refine zg_if_ltT F (tgt := 27) dM_loseOne_20 (by decide) (h2) ?_
      refine zg_iconst F (v := nI 0) (by decide) dM_loseOne_27 ?_
      refine zg_iadd F (by first | exact nI_add _ _ | rfl) dM_loseOne_28 ?_
      refine zg_istore_n F rfl (by rw [hn]; decide) (L' := [(2, _), (0, _), (1, _)]) rfl dM_loseOne_29 ?_
      refine zg_aload_n F 1 rfl rfl dM_loseOne_30 ?_
      refine zg_get F (fun _ _ h => h.2.1.1) rfl zi_M 20 (by decide) rfl zk_558 rfl dM_loseOne_31 ?_
      refine zg_iload_n F 2 rfl rfl dM_loseOne_34 ?_
      refine zg_iconst F (v := nI 0) (by decide) dM_loseOne_35 ?_
      refine zm_iast F 17 (by decide) rfl (by show _ < 16; omega) dM_loseOne_36 ?_
      refine zg_aload_n F 1 rfl rfl dM_loseOne_37 ?_
      refine zg_get F (fun _ _ h => h.2.1.1) rfl zi_M 22 (by decide) rfl zk_560 rfl dM_loseOne_38 ?_
      refine zg_iload_n F 2 rfl rfl dM_loseOne_41 ?_
      refine zg_iconst F (v := -1) (by decide) dM_loseOne_42 ?_
      refine zm_iast F 19 (by decide) rfl (by show _ < 16; omega) dM_loseOne_43 ?_
      refine zg_iload_n F 0 rfl rfl dM_loseOne_44 ?_
      exact zg_iret F E (Nat.zero_le _) (Nat.zero_le _) (fun _ _ h => h) dM_loseOne_45
    · have e : zm_loseN σ p = nI (0 + 1) := by rw [zm_loseN, e1, show zb (¬ σ.1 19 p < 0) = nI 1 from if_pos h2]; rfl
      rw [e] at E
      refine zg_if_ltF F dM_loseOne_20 (tgt := 27) (by decide) (h2) ?_
      refine zg_iconst F (v := nI 1) (by decide) dM_loseOne_23 ?_
      refine zg_goto F (tgt := 28) dM_loseOne_24 (by decide) ?_
      refine zg_iadd F (by first | exact nI_add _ _ | rfl) dM_loseOne_28 ?_
      refine zg_istore_n F rfl (by rw [hn]; decide) (L' := [(2, _), (0, _), (1, _)]) rfl dM_loseOne_29 ?_
      refine zg_aload_n F 1 rfl rfl dM_loseOne_30 ?_
      refine zg_get F (fun _ _ h => h.2.1.1) rfl zi_M 20 (by decide) rfl zk_558 rfl dM_loseOne_31 ?_
      refine zg_iload_n F 2 rfl rfl dM_loseOne_34 ?_
      refine zg_iconst F (v := nI 0) (by decide) dM_loseOne_35 ?_
      refine zm_iast F 17 (by decide) rfl (by show _ < 16; omega) dM_loseOne_36 ?_
      refine zg_aload_n F 1 rfl rfl dM_loseOne_37 ?_
      refine zg_get F (fun _ _ h => h.2.1.1) rfl zi_M 22 (by decide) rfl zk_560 rfl dM_loseOne_38 ?_
      refine zg_iload_n F 2 rfl rfl dM_loseOne_41 ?_
      refine zg_iconst F (v := -1) (by decide) dM_loseOne_42 ?_
      refine zm_iast F 19 (by decide) rfl (by show _ < 16; omega) dM_loseOne_43 ?_
      refine zg_iload_n F 0 rfl rfl dM_loseOne_44 ?_
      exact zg_iret F E (Nat.zero_le _) (Nat.zero_le _) (fun _ _ h => h) dM_loseOne_45
set_option maxRecDepth 100000 in
set_option maxHeartbeats 4000000 in
theorem zM_enclose (l : Launch) (D : va_G) (A : Nat → ClassId) (base : Nat) (mo sz : Nat) (w0 : zg_w) (σ : zm_S) (a b leg bx : Nat) (n : Int32) (ha : a < 4) (hb : b < 4) (hl : leg < 16) (hx : bx < 8) (he : σ.1 16 (4 * a + b) = nI bx) : zg_Met l zm_M_enclose zc_M_enclose 7 (some .int) 0 0 0 D A base [.ref mo, .int (nI a), .int (nI b), .int (nI leg), .int n] (zm_P A mo w0 sz σ) (some (.int ((zm_encl σ a b leg bx n).1 15 (4 * a + b)))) (zm_P A mo w0 sz (zm_encl σ a b leg bx n)) := by
  refine zg_met (by decide) (Nat.le_of_ble_eq_true rfl) ?_
  intro K hl0 hD hA hz hn hnm F E
  subst hl0 hD hA hz
  show zg_G K (zm_P (zk_A K) mo w0 sz σ) 0 0 0 [(0, .ref mo), (1, .int (nI a)), (2, .int (nI b)), (3, .int (nI leg)), (4, .int n)] []
  refine zg_iconst F (v := nI 4) (by decide) dM_enclose_0 ?_
  refine zg_iload_n F 1 rfl rfl dM_enclose_1 ?_
  refine zg_imul F (by first | exact pk_mul _ _ | rfl) dM_enclose_2 ?_
  refine zg_iload_n F 2 rfl rfl dM_enclose_3 ?_
  refine zg_iadd F (by first | exact nI_add _ _ | rfl) dM_enclose_4 ?_
  refine zg_istore F (by rw [hn]; decide) (L' := [(5, _), (0, _), (1, _), (2, _), (3, _), (4, _)]) rfl dM_enclose_5 ?_
  refine zg_aload_n F 1 rfl rfl dM_enclose_7 ?_
  refine zg_get F (fun _ _ h => h.2.1.1) rfl zi_M 18 (by decide) rfl zk_556 rfl dM_enclose_8 ?_
  refine zg_iload F 0 rfl dM_enclose_11 ?_
  refine zg_dup2 F rfl rfl dM_enclose_13 ?_
  refine zm_iald F 15 (by decide) rfl (by show _ < 16; omega) rfl dM_enclose_14 ?_
  refine zg_iconst F (v := nI 1) (by decide) dM_enclose_15 ?_
  refine zg_iadd F (by first | exact nI_add _ _ | rfl) dM_enclose_16 ?_
  refine zm_iast F 15 (by decide) rfl (by show _ < 16; omega) dM_enclose_17 ?_
  refine zg_bipush F (v := nI 8) (by decide) dM_enclose_18 ?_
  refine zg_iload F 0 rfl dM_enclose_20 ?_
  refine zg_imul F (by first | exact pk_mul _ _ | rfl) dM_enclose_22 ?_
  refine zg_aload_n F 1 rfl rfl dM_enclose_23 ?_
  refine zg_get F (fun _ _ h => h.2.1.1) rfl zi_M 19 (by decide) rfl zk_557 rfl dM_enclose_24 ?_
  refine zg_iload F 0 rfl dM_enclose_27 ?_
  refine zm_iald F 16 (by decide) rfl (by show _ < 16; omega) rfl dM_enclose_29 ?_
  refine zg_eqi (he) ?_
  refine zg_iadd F (by first | exact nI_add _ _ | rfl) dM_enclose_30 ?_
  refine zg_istore F (by rw [hn]; decide) (L' := [(6, _), (5, _), (0, _), (1, _), (2, _), (3, _), (4, _)]) rfl dM_enclose_31 ?_
  refine zg_aload_n F 2 rfl rfl dM_enclose_33 ?_
  refine zg_get F (fun _ _ h => h.2.1.1) rfl zi_M 23 (by decide) rfl zk_561 rfl dM_enclose_34 ?_
  refine zg_iload F 0 rfl dM_enclose_37 ?_
  refine zg_aload_n F 2 rfl rfl dM_enclose_39 ?_
  refine zg_get F (fun _ _ h => h.2.1.1) rfl zi_M 18 (by decide) rfl zk_556 rfl dM_enclose_40 ?_
  refine zg_iload F 1 rfl dM_enclose_43 ?_
  refine zm_iald F 15 (by decide) rfl (by show _ < 16; omega) rfl dM_enclose_45 ?_
  refine zm_iast F 20 (by decide) rfl (by show _ < 128; omega) dM_enclose_46 ?_
  refine zg_aload_n F 2 rfl rfl dM_enclose_47 ?_
  refine zg_get F (fun _ _ h => h.2.1.1) rfl zi_M 24 (by decide) rfl zk_562 rfl dM_enclose_48 ?_
  refine zg_iload F 0 rfl dM_enclose_51 ?_
  refine zg_iload_n F 5 rfl rfl dM_enclose_53 ?_
  refine zm_iast F 21 (by decide) rfl (by show _ < 128; omega) dM_enclose_54 ?_
  refine zg_aload_n F 2 rfl rfl dM_enclose_55 ?_
  refine zg_get F (fun _ _ h => h.2.1.1) rfl zi_M 25 (by decide) rfl zk_563 rfl dM_enclose_56 ?_
  refine zg_iload F 0 rfl dM_enclose_59 ?_
  refine zg_iload F 6 rfl dM_enclose_61 ?_
  refine zm_iast F 22 (by decide) rfl (by show _ < 128; omega) dM_enclose_63 ?_
  refine zg_aload_n F 2 rfl rfl dM_enclose_64 ?_
  refine zg_get F (fun _ _ h => h.2.1.1) rfl zi_M 19 (by decide) rfl zk_557 rfl dM_enclose_65 ?_
  refine zg_iload F 1 rfl dM_enclose_68 ?_
  refine zg_dup2 F rfl rfl dM_enclose_70 ?_
  refine zm_iald F 16 (by decide) rfl (by show _ < 16; omega) rfl dM_enclose_71 ?_
  refine zg_eqi (he) ?_
  refine zg_iconst F (v := nI 1) (by decide) dM_enclose_72 ?_
  refine zg_iadd F (by first | exact nI_add _ _ | rfl) dM_enclose_73 ?_
  refine zm_iast F 16 (by decide) rfl (by show _ < 16; omega) dM_enclose_74 ?_
  refine zg_aload_n F 2 rfl rfl dM_enclose_75 ?_
  refine zg_get F (fun _ _ h => h.2.1.1) rfl zi_M 3 (by decide) rfl zk_541 rfl dM_enclose_76 ?_
  refine zg_bipush F (v := nI 16) (by decide) dM_enclose_79 ?_
  refine zg_iload_n F 3 rfl rfl dM_enclose_81 ?_
  refine zg_imul F (by first | exact pk_mul _ _ | rfl) dM_enclose_82 ?_
  refine zg_iload_n F 5 rfl rfl dM_enclose_83 ?_
  refine zg_iadd F (by first | exact nI_add _ _ | rfl) dM_enclose_84 ?_
  refine zg_aload_n F 2 rfl rfl dM_enclose_85 ?_
  refine zg_get F (fun _ _ h => h.2.1.1) rfl zi_M 3 (by decide) rfl zk_541 rfl dM_enclose_86 ?_
  refine zg_bipush F (v := nI 16) (by decide) dM_enclose_89 ?_
  refine zg_iload_n F 3 rfl rfl dM_enclose_91 ?_
  refine zg_imul F (by first | exact pk_mul _ _ | rfl) dM_enclose_92 ?_
  refine zg_iload_n F 5 rfl rfl dM_enclose_93 ?_
  refine zg_iadd F (by first | exact nI_add _ _ | rfl) dM_enclose_94 ?_
  refine zm_iald F 2 (by decide) rfl (by show _ < 64; omega) rfl dM_enclose_95 ?_
  refine zg_iload F 6 rfl dM_enclose_96 ?_
  refine zg_isub F rfl dM_enclose_98 ?_
  refine zm_iast F 2 (by decide) rfl (by show _ < 64; omega) dM_enclose_99 ?_
  refine zg_aload_n F 2 rfl rfl dM_enclose_100 ?_
  refine zg_get F (fun _ _ h => h.2.1.1) rfl zi_M 18 (by decide) rfl zk_556 rfl dM_enclose_101 ?_
  refine zg_iload F 1 rfl dM_enclose_104 ?_
  refine zm_iald F 15 (by decide) rfl (by show _ < 16; omega) rfl dM_enclose_106 ?_
  exact zg_iret F E (Nat.zero_le _) (Nat.zero_le _) (fun _ _ h => h) dM_enclose_107
theorem zm_fits01 (σ : zm_S) (port at' parts : Nat) (n : Int32) : ∀ i, zm_fits σ port at' parts n i = nI 0 ∨ zm_fits σ port at' parts n i = nI 1
  | 0 => Or.inr rfl
  | i + 1 => by
    rw [zm_fits]
    split
    · exact Or.inl rfl
    · split
      · exact Or.inr rfl
      · exact Or.inl rfl
set_option maxRecDepth 100000 in
set_option maxHeartbeats 4000000 in
theorem zM_fits (l : Launch) (D : va_G) (A : Nat → ClassId) (base : Nat) (mo sz : Nat) (w0 : zg_w) (σ : zm_S) (port at' parts : Nat) (n : Int32) (h0 : port < 4) (h1 : at' + parts ≤ 420) : zg_Met l zm_M_fits zc_M_fits 7 (some .boolean) 1 0 0 D A base [.ref mo, .int (nI port), .int (nI at'), .int (nI parts), .int n] (zm_P A mo w0 sz σ) (some (.int (zm_fits σ port at' parts n 16))) (zm_P A mo w0 sz σ) := by
  refine zg_met (by decide) (Nat.le_of_ble_eq_true rfl) ?_
  intro K hl hD hA hz hn hnm F E
  subst hl hD hA hz
  show zg_G K (zm_P (zk_A K) mo w0 sz σ) 0 0 0 [(0, .ref mo), (1, .int (nI port)), (2, .int (nI at')), (3, .int (nI parts)), (4, .int n)] []
  refine zg_iconst F (v := nI 1) (by decide) dM_fits_0 ?_
  refine zg_istore F (by rw [hn]; decide) (L' := [(5, _), (0, _), (1, _), (2, _), (3, _), (4, _)]) rfl dM_fits_1 ?_
  refine zg_iconst F (v := nI 0) (by decide) dM_fits_3 ?_
  refine zg_istore F (by rw [hn]; decide) (L' := [(6, _), (5, _), (0, _), (1, _), (2, _), (3, _), (4, _)]) rfl dM_fits_4 ?_
  have loop : ∀ r i, i + r = 16 → zg_G K (zm_P (zk_A K) mo w0 sz σ) 0 0 6 [(6, .int (nI i)), (5, .int (zm_fits σ port at' parts n i)), (0, .ref mo), (1, .int (nI port)), (2, .int (nI at')), (3, .int (nI parts)), (4, .int n)] [] := by
    intro r
    induction r with
    | zero =>
      intro i hi
      obtain rfl : i = 16 := by omega
      refine zg_iload F 0 rfl dM_fits_6 ?_
      refine zg_bipush F (v := nI 16) (by decide) dM_fits_8 ?_
      refine zg_icmp_geT F (tgt := 57) dM_fits_10 (by decide) (nI_le (by omega) (by omega)) ?_
      refine zg_iload F 1 rfl dM_fits_57 ?_
      rcases zm_fits01 σ port at' parts n 16 with e | e
      · rw [e] at E ⊢; exact zg_zret F E rfl (Nat.zero_le _) (Nat.zero_le _) (fun _ _ h => h) dM_fits_59
      · rw [e] at E ⊢; exact zg_zret F E rfl (Nat.zero_le _) (Nat.zero_le _) (fun _ _ h => h) dM_fits_59
    | succ r ih =>
      intro i hi
      refine zg_iload F 0 rfl dM_fits_6 ?_
      refine zg_bipush F (v := nI 16) (by decide) dM_fits_8 ?_
      refine zg_icmp_geF F dM_fits_10 (tgt := 57) (by decide) (nI_ge (by omega) (by omega)) ?_
      refine zg_iload F 1 rfl dM_fits_13 ?_
      refine zg_if_eq F (tgt := 48) dM_fits_15 (by decide) (fun g1 => ?_) (fun g1 => ?_)
      · refine zg_iconst F (v := nI 0) (by decide) dM_fits_48 ?_
        refine zg_istore F (by rw [hn]; decide) (L' := [(5, _), (6, _), (0, _), (1, _), (2, _), (3, _), (4, _)]) rfl dM_fits_49 ?_
        refine zg_iinc F 1 rfl (by first | exact zc_inc _ | rfl) (by rw [hn]; decide) (L' := [(6, _), (5, _), (0, _), (1, _), (2, _), (3, _), (4, _)]) rfl dM_fits_51 ?_
        refine zg_goto F (tgt := 6) dM_fits_54 (by decide) ?_
        have e : zm_fits σ port at' parts n (i + 1) = nI 0 := by rw [zm_fits, if_pos g1]
        have g := ih (i + 1) (by omega)
        rw [e] at g
        exact g
      · refine zg_iload F 6 rfl dM_fits_18 ?_
        refine zg_aload_n F 2 rfl rfl dM_fits_20 ?_
        refine zg_iload_n F 4 rfl rfl dM_fits_21 ?_
        refine zg_iload_n F 5 rfl rfl dM_fits_22 ?_
        refine zg_iload F 0 rfl dM_fits_23 ?_
        refine zg_callV F (zM_lies _ _ _ _ _ _ _ _ at' parts i (by omega) (by omega)) zv_M_lies zu_M_lies zk_656 (fun _ _ h => h.2.1.1) rfl rfl ⟨by decide, by decide⟩ ⟨by decide, by decide⟩ rfl (Nat.le_of_ble_eq_true rfl) dM_fits_25 ?_
        refine zg_imul F (by first | exact pk_mul _ _ | rfl) dM_fits_28 ?_
        refine zg_aload_n F 2 rfl rfl dM_fits_29 ?_
        refine zg_get F (fun _ _ h => h.2.1.1) rfl zi_M 3 (by decide) rfl zk_541 rfl dM_fits_30 ?_
        refine zg_bipush F (v := nI 16) (by decide) dM_fits_33 ?_
        refine zg_iload_n F 3 rfl rfl dM_fits_35 ?_
        refine zg_imul F (by first | exact pk_mul _ _ | rfl) dM_fits_36 ?_
        refine zg_iload F 0 rfl dM_fits_37 ?_
        refine zg_iadd F (by first | exact nI_add _ _ | rfl) dM_fits_39 ?_
        refine zm_iald F 2 (by decide) rfl (by show _ < 64; omega) rfl dM_fits_40 ?_
        refine zg_icmp_gt F (tgt := 48) dM_fits_41 (by decide) (fun g2 => ?_) (fun g2 => ?_)
        · refine zg_iconst F (v := nI 0) (by decide) dM_fits_48 ?_
          refine zg_istore F (by rw [hn]; decide) (L' := [(5, _), (6, _), (0, _), (1, _), (2, _), (3, _), (4, _)]) rfl dM_fits_49 ?_
          refine zg_iinc F 1 rfl (by first | exact zc_inc _ | rfl) (by rw [hn]; decide) (L' := [(6, _), (5, _), (0, _), (1, _), (2, _), (3, _), (4, _)]) rfl dM_fits_51 ?_
          refine zg_goto F (tgt := 6) dM_fits_54 (by decide) ?_
          have e : zm_fits σ port at' parts n (i + 1) = nI 0 := by rw [zm_fits, if_neg g1, if_neg (Int32.not_le.mpr g2)]
          have g := ih (i + 1) (by omega)
          rw [e] at g
          exact g
        · refine zg_iconst F (v := nI 1) (by decide) dM_fits_44 ?_
          refine zg_goto F (tgt := 49) dM_fits_45 (by decide) ?_
          refine zg_istore F (by rw [hn]; decide) (L' := [(5, _), (6, _), (0, _), (1, _), (2, _), (3, _), (4, _)]) rfl dM_fits_49 ?_
          refine zg_iinc F 1 rfl (by first | exact zc_inc _ | rfl) (by rw [hn]; decide) (L' := [(6, _), (5, _), (0, _), (1, _), (2, _), (3, _), (4, _)]) rfl dM_fits_51 ?_
          refine zg_goto F (tgt := 6) dM_fits_54 (by decide) ?_
          have e : zm_fits σ port at' parts n (i + 1) = nI 1 := by rw [zm_fits, if_neg g1, if_pos (Int32.not_lt.mp g2)]
          have g := ih (i + 1) (by omega)
          rw [e] at g
          exact g
  exact loop 16 0 rfl
set_option maxRecDepth 100000 in
set_option maxHeartbeats 4000000 in
theorem zM_give (l : Launch) (D : va_G) (A : Nat → ClassId) (base : Nat) (mo sz : Nat) (w0 : zg_w) (σ : zm_S) (port at' parts : Nat) (n : Int32) (h0 : port < 4) (h1 : at' + parts ≤ 420) : zg_Met l zm_M_give zc_M_give 6 none 1 0 0 D A base [.ref mo, .int (nI port), .int (nI at'), .int (nI parts), .int n] (zm_P A mo w0 sz σ) none (zm_P A mo w0 sz (zm_give σ port at' parts n 16)) := by
  refine zg_met (by decide) (Nat.le_of_ble_eq_true rfl) ?_
  intro K hl hD hA hz hn hnm F E
  subst hl hD hA hz
  show zg_G K (zm_P (zk_A K) mo w0 sz σ) 0 0 0 [(0, .ref mo), (1, .int (nI port)), (2, .int (nI at')), (3, .int (nI parts)), (4, .int n)] []
  refine zg_iconst F (v := nI 0) (by decide) dM_give_0 ?_
  refine zg_istore F (by rw [hn]; decide) (L' := [(5, _), (0, _), (1, _), (2, _), (3, _), (4, _)]) rfl dM_give_1 ?_
  have loop : ∀ r i, i + r = 16 → zg_G K (zm_P (zk_A K) mo w0 sz (zm_give σ port at' parts n i)) 0 0 3 [(5, .int (nI i)), (0, .ref mo), (1, .int (nI port)), (2, .int (nI at')), (3, .int (nI parts)), (4, .int n)] [] := by
    intro r
    induction r with
    | zero =>
      intro i hi
      obtain rfl : i = 16 := by omega
      refine zg_iload F 0 rfl dM_give_3 ?_
      refine zg_bipush F (v := nI 16) (by decide) dM_give_5 ?_
      refine zg_icmp_geT F (tgt := 52) dM_give_7 (by decide) (nI_le (by omega) (by omega)) ?_
      exact zg_vret F E (Nat.zero_le _) (Nat.zero_le _) (fun _ _ h => h) dM_give_52
    | succ r ih =>
      intro i hi
      refine zg_iload F 0 rfl dM_give_3 ?_
      refine zg_bipush F (v := nI 16) (by decide) dM_give_5 ?_
      refine zg_icmp_geF F dM_give_7 (tgt := 52) (by decide) (nI_ge (by omega) (by omega)) ?_
      refine zg_aload_n F 1 rfl rfl dM_give_10 ?_
      refine zg_get F (fun _ _ h => h.2.1.1) rfl zi_M 3 (by decide) rfl zk_541 rfl dM_give_11 ?_
      refine zg_bipush F (v := nI 16) (by decide) dM_give_14 ?_
      refine zg_iload_n F 2 rfl rfl dM_give_16 ?_
      refine zg_imul F (by first | exact pk_mul _ _ | rfl) dM_give_17 ?_
      refine zg_iload F 0 rfl dM_give_18 ?_
      refine zg_iadd F (by first | exact nI_add _ _ | rfl) dM_give_20 ?_
      refine zg_aload_n F 1 rfl rfl dM_give_21 ?_
      refine zg_get F (fun _ _ h => h.2.1.1) rfl zi_M 3 (by decide) rfl zk_541 rfl dM_give_22 ?_
      refine zg_bipush F (v := nI 16) (by decide) dM_give_25 ?_
      refine zg_iload_n F 2 rfl rfl dM_give_27 ?_
      refine zg_imul F (by first | exact pk_mul _ _ | rfl) dM_give_28 ?_
      refine zg_iload F 0 rfl dM_give_29 ?_
      refine zg_iadd F (by first | exact nI_add _ _ | rfl) dM_give_31 ?_
      refine zm_iald F 2 (by decide) rfl (by show _ < 64; omega) rfl dM_give_32 ?_
      refine zg_iload F 5 rfl dM_give_33 ?_
      refine zg_aload_n F 1 rfl rfl dM_give_35 ?_
      refine zg_iload_n F 3 rfl rfl dM_give_36 ?_
      refine zg_iload_n F 4 rfl rfl dM_give_37 ?_
      refine zg_iload F 0 rfl dM_give_38 ?_
      refine zg_callV F (zM_lies _ _ _ _ _ _ _ _ at' parts i (by omega) (by omega)) zv_M_lies zu_M_lies zk_656 (fun _ _ h => h.2.1.1) rfl rfl ⟨by decide, by decide⟩ ⟨by decide, by decide⟩ rfl (Nat.le_of_ble_eq_true rfl) dM_give_40 ?_
      refine zg_imul F (by first | exact pk_mul _ _ | rfl) dM_give_43 ?_
      refine zg_iadd F (by first | exact nI_add _ _ | rfl) dM_give_44 ?_
      refine zm_iast F 2 (by decide) rfl (by show _ < 64; omega) dM_give_45 ?_
      refine zg_iinc F 0 rfl (by first | exact zc_inc _ | rfl) (by rw [hn]; decide) (L' := [(5, _), (0, _), (1, _), (2, _), (3, _), (4, _)]) rfl dM_give_46 ?_
      refine zg_goto F (tgt := 3) dM_give_49 (by decide) ?_
      exact ih (i + 1) (by omega)
  exact loop 16 0 rfl
set_option maxRecDepth 100000 in
set_option maxHeartbeats 4000000 in
theorem zM_copy (l : Launch) (D : va_G) (A : Nat → ClassId) (base : Nat) (mo sz : Nat) (w0 : zg_w) (σ : zm_S) (tg at' parts : Nat) (h0 : tg + parts ≤ 420) (h1 : at' + parts ≤ 420) : zg_Met l zm_M_copy zc_M_copy 5 none 0 0 0 D A base [.ref mo, .int (nI tg), .int (nI at'), .int (nI parts)] (zm_P A mo w0 sz σ) none (zm_P A mo w0 sz (zm_copy σ tg at' parts)) := by
  refine zg_met (by decide) (Nat.le_of_ble_eq_true rfl) ?_
  intro K hl hD hA hz hn hnm F E
  subst hl hD hA hz
  show zg_G K (zm_P (zk_A K) mo w0 sz σ) 0 0 0 [(0, .ref mo), (1, .int (nI tg)), (2, .int (nI at')), (3, .int (nI parts))] []
  refine zg_iconst F (v := nI 0) (by decide) dM_copy_0 ?_
  refine zg_istore F (by rw [hn]; decide) (L' := [(4, _), (0, _), (1, _), (2, _), (3, _)]) rfl dM_copy_1 ?_
  have loop : ∀ r i, i + r = parts → zg_G K (zm_P (zk_A K) mo w0 sz (zm_copy σ tg at' i)) 0 0 3 [(4, .int (nI i)), (0, .ref mo), (1, .int (nI tg)), (2, .int (nI at')), (3, .int (nI parts))] [] := by
    intro r
    induction r with
    | zero =>
      intro i hi
      obtain rfl : i = parts := by omega
      refine zg_iload F 0 rfl dM_copy_3 ?_
      refine zg_iload_n F 4 rfl rfl dM_copy_5 ?_
      refine zg_icmp_geT F (tgt := 69) dM_copy_6 (by decide) (nI_le (by omega) (by omega)) ?_
      exact zg_vret F E (Nat.zero_le _) (Nat.zero_le _) (fun _ _ h => h) dM_copy_69
    | succ r ih =>
      intro i hi
      refine zg_iload F 0 rfl dM_copy_3 ?_
      refine zg_iload_n F 4 rfl rfl dM_copy_5 ?_
      refine zg_icmp_geF F dM_copy_6 (tgt := 69) (by decide) (nI_ge (by omega) (by omega)) ?_
      refine zg_aload_n F 1 rfl rfl dM_copy_9 ?_
      refine zg_get F (fun _ _ h => h.2.1.1) rfl zi_M 4 (by decide) rfl zk_542 rfl dM_copy_10 ?_
      refine zg_iload_n F 2 rfl rfl dM_copy_13 ?_
      refine zg_iload F 0 rfl dM_copy_14 ?_
      refine zg_iadd F (by first | exact nI_add _ _ | rfl) dM_copy_16 ?_
      refine zg_aload_n F 1 rfl rfl dM_copy_17 ?_
      refine zg_get F (fun _ _ h => h.2.1.1) rfl zi_M 4 (by decide) rfl zk_542 rfl dM_copy_18 ?_
      refine zg_iload_n F 3 rfl rfl dM_copy_21 ?_
      refine zg_iload F 0 rfl dM_copy_22 ?_
      refine zg_iadd F (by first | exact nI_add _ _ | rfl) dM_copy_24 ?_
      refine zm_iald F 3 (by decide) rfl (by show _ < 420; omega) rfl dM_copy_25 ?_
      refine zm_iast F 3 (by decide) rfl (by show _ < 420; omega) dM_copy_26 ?_
      refine zg_aload_n F 1 rfl rfl dM_copy_27 ?_
      refine zg_get F (fun _ _ h => h.2.1.1) rfl zi_M 5 (by decide) rfl zk_543 rfl dM_copy_28 ?_
      refine zg_iload_n F 2 rfl rfl dM_copy_31 ?_
      refine zg_iload F 0 rfl dM_copy_32 ?_
      refine zg_iadd F (by first | exact nI_add _ _ | rfl) dM_copy_34 ?_
      refine zg_aload_n F 1 rfl rfl dM_copy_35 ?_
      refine zg_get F (fun _ _ h => h.2.1.1) rfl zi_M 5 (by decide) rfl zk_543 rfl dM_copy_36 ?_
      refine zg_iload_n F 3 rfl rfl dM_copy_39 ?_
      refine zg_iload F 0 rfl dM_copy_40 ?_
      refine zg_iadd F (by first | exact nI_add _ _ | rfl) dM_copy_42 ?_
      refine zm_iald F 4 (by decide) rfl (by show _ < 420; omega) rfl dM_copy_43 ?_
      refine zm_iast F 4 (by decide) rfl (by show _ < 420; omega) dM_copy_44 ?_
      refine zg_aload_n F 1 rfl rfl dM_copy_45 ?_
      refine zg_get F (fun _ _ h => h.2.1.1) rfl zi_M 6 (by decide) rfl zk_544 rfl dM_copy_46 ?_
      refine zg_iload_n F 2 rfl rfl dM_copy_49 ?_
      refine zg_iload F 0 rfl dM_copy_50 ?_
      refine zg_iadd F (by first | exact nI_add _ _ | rfl) dM_copy_52 ?_
      refine zg_aload_n F 1 rfl rfl dM_copy_53 ?_
      refine zg_get F (fun _ _ h => h.2.1.1) rfl zi_M 6 (by decide) rfl zk_544 rfl dM_copy_54 ?_
      refine zg_iload_n F 3 rfl rfl dM_copy_57 ?_
      refine zg_iload F 0 rfl dM_copy_58 ?_
      refine zg_iadd F (by first | exact nI_add _ _ | rfl) dM_copy_60 ?_
      refine zm_iald F 5 (by decide) rfl (by show _ < 420; omega) rfl dM_copy_61 ?_
      refine zm_iast F 5 (by decide) rfl (by show _ < 420; omega) dM_copy_62 ?_
      refine zg_iinc F 0 rfl (by first | exact zc_inc _ | rfl) (by rw [hn]; decide) (L' := [(4, _), (0, _), (1, _), (2, _), (3, _)]) rfl dM_copy_63 ?_
      refine zg_goto F (tgt := 3) dM_copy_66 (by decide) ?_
      exact ih (i + 1) (by omega)
  exact loop parts 0 (by omega)
end
section
set_option maxRecDepth 100000 in
set_option maxHeartbeats 4000000 in
theorem zM_sell (l : Launch) (D : va_G) (A : Nat → ClassId) (base : Nat) (mo sz : Nat) (w0 : zg_w) (σ : zm_S) (T port at' parts : Nat) (n : Int32) (h0 : port < 4) (h1 : at' + parts ≤ 420) (h2 : T < 80) (h3 : parts ≤ 4) (hT : σ.1 25 2 = nI T) : zg_Met l zm_M_sell zc_M_sell 8 (some .int) 2 0 0 D A base [.ref mo, .int (nI port), .int (nI at'), .int (nI parts), .int n] (zm_P A mo w0 sz σ) (some (.int (nI T))) (zm_P A mo w0 sz (zm_sell σ T port at' parts n)) := by
  refine zg_met (by decide) (Nat.le_of_ble_eq_true rfl) ?_
  intro K hl hD hA hz hn hnm F E
  subst hl hD hA hz
  show zg_G K (zm_P (zk_A K) mo w0 sz σ) 0 0 0 [(0, .ref mo), (1, .int (nI port)), (2, .int (nI at')), (3, .int (nI parts)), (4, .int n)] []
  refine zg_lconst F (v := 0) rfl dM_sell_0 ?_
  refine zg_lstore F (by rw [hn]; decide) (L' := [(5, _), (0, _), (1, _), (2, _), (3, _), (4, _)]) rfl dM_sell_1 ?_
  refine zg_iconst F (v := nI 0) (by decide) dM_sell_3 ?_
  refine zg_istore F (by rw [hn]; decide) (L' := [(7, _), (5, _), (0, _), (1, _), (2, _), (3, _), (4, _)]) rfl dM_sell_4 ?_
  have loop : ∀ r i, i + r = 16 → zg_G K (zm_P (zk_A K) mo w0 sz σ) 0 0 6 [(7, .int (nI i)), (5, .long (zm_sum σ at' parts i)), (0, .ref mo), (1, .int (nI port)), (2, .int (nI at')), (3, .int (nI parts)), (4, .int n)] [] := by
    intro r
    induction r with
    | zero =>
      intro i hi
      obtain rfl : i = 16 := by omega
      refine zg_iload F 0 rfl dM_sell_6 ?_
      refine zg_bipush F (v := nI 16) (by decide) dM_sell_8 ?_
      refine zg_icmp_geT F (tgt := 42) dM_sell_10 (by decide) (nI_le (by omega) (by omega)) ?_
      refine zg_aload_n F 2 rfl rfl dM_sell_42 ?_
      refine zg_iload_n F 3 rfl rfl dM_sell_43 ?_
      refine zg_iload_n F 4 rfl rfl dM_sell_44 ?_
      refine zg_iload_n F 5 rfl rfl dM_sell_45 ?_
      refine zg_iload F 6 rfl dM_sell_46 ?_
      refine zg_ineg F rfl dM_sell_48 ?_
      refine zg_callV F (zM_give _ _ _ _ _ _ _ _ port at' parts (-n) h0 h1) zv_M_give zu_M_give zk_664 (fun _ _ h => h.2.1.1) rfl rfl ⟨by decide, by decide⟩ ⟨by decide, by decide⟩ rfl (Nat.le_of_ble_eq_true rfl) dM_sell_49 ?_
      have hT1 : (zm_give σ port at' parts (-n) 16).1 25 2 = nI T := by rw [zm_give_o (by decide)]; exact hT
      have hT2 : (zm_copy (zm_give σ port at' parts (-n) 16) (4 + 4 * T) at' parts).1 25 2 = nI T := by rw [zm_copy_o (by decide)]; exact hT1
      refine zg_aload_n F 2 rfl rfl dM_sell_52 ?_
      refine zg_iconst F (v := nI 4) (by decide) dM_sell_53 ?_
      refine zg_iconst F (v := nI 4) (by decide) dM_sell_54 ?_
      refine zg_aload_n F 2 rfl rfl dM_sell_55 ?_
      refine zg_get F (fun _ _ h => h.2.1.1) rfl zi_M 8 (by decide) rfl zk_546 rfl dM_sell_56 ?_
      refine zg_eqi (hT1) ?_
      refine zg_imul F (by first | exact pk_mul _ _ | rfl) dM_sell_59 ?_
      refine zg_iadd F (by first | exact nI_add _ _ | rfl) dM_sell_60 ?_
      refine zg_iload_n F 4 rfl rfl dM_sell_61 ?_
      refine zg_iload_n F 5 rfl rfl dM_sell_62 ?_
      refine zg_callV F (zM_copy _ _ _ _ _ _ _ _ (4 + 4 * T) at' parts (by omega) h1) zv_M_copy zu_M_copy zk_668 (fun _ _ h => h.2.1.1) rfl rfl ⟨by decide, by decide⟩ ⟨by decide, by decide⟩ rfl (Nat.le_of_ble_eq_true rfl) dM_sell_63 ?_
      refine zg_aload_n F 2 rfl rfl dM_sell_66 ?_
      refine zg_get F (fun _ _ h => h.2.1.1) rfl zi_M 9 (by decide) rfl zk_547 rfl dM_sell_67 ?_
      refine zg_aload_n F 2 rfl rfl dM_sell_70 ?_
      refine zg_get F (fun _ _ h => h.2.1.1) rfl zi_M 8 (by decide) rfl zk_546 rfl dM_sell_71 ?_
      refine zg_eqi (hT2) ?_
      refine zg_iload_n F 3 rfl rfl dM_sell_74 ?_
      refine zm_iast F 6 (by decide) rfl (by show _ < 80; omega) dM_sell_75 ?_
      refine zg_aload_n F 2 rfl rfl dM_sell_76 ?_
      refine zg_get F (fun _ _ h => h.2.1.1) rfl zi_M 10 (by decide) rfl zk_548 rfl dM_sell_77 ?_
      refine zg_aload_n F 2 rfl rfl dM_sell_80 ?_
      refine zg_get F (fun _ _ h => h.2.1.1) rfl zi_M 8 (by decide) rfl zk_546 rfl dM_sell_81 ?_
      refine zg_eqi (hT2) ?_
      refine zg_iload F 6 rfl dM_sell_84 ?_
      refine zm_iast F 7 (by decide) rfl (by show _ < 80; omega) dM_sell_86 ?_
      refine zg_aload_n F 2 rfl rfl dM_sell_87 ?_
      refine zg_get F (fun _ _ h => h.2.1.1) rfl zi_M 11 (by decide) rfl zk_549 rfl dM_sell_88 ?_
      refine zg_aload_n F 2 rfl rfl dM_sell_91 ?_
      refine zg_get F (fun _ _ h => h.2.1.1) rfl zi_M 8 (by decide) rfl zk_546 rfl dM_sell_92 ?_
      refine zg_eqi (hT2) ?_
      refine zg_iload_n F 5 rfl rfl dM_sell_95 ?_
      refine zm_iast F 8 (by decide) rfl (by show _ < 80; omega) dM_sell_96 ?_
      refine zg_aload_n F 2 rfl rfl dM_sell_97 ?_
      refine zg_get F (fun _ _ h => h.2.1.1) rfl zi_M 12 (by decide) rfl zk_550 rfl dM_sell_98 ?_
      refine zg_aload_n F 2 rfl rfl dM_sell_101 ?_
      refine zg_get F (fun _ _ h => h.2.1.1) rfl zi_M 8 (by decide) rfl zk_546 rfl dM_sell_102 ?_
      refine zg_eqi (hT2) ?_
      refine zg_iload F 6 rfl dM_sell_105 ?_
      refine zg_i2l F rfl dM_sell_107 ?_
      refine zg_lload F 1 rfl dM_sell_108 ?_
      refine zg_lmul F rfl dM_sell_110 ?_
      refine zm_last F 9 (by decide) rfl (by show _ < 80; omega) dM_sell_111 ?_
      refine zg_aload_n F 2 rfl rfl dM_sell_112 ?_
      refine zg_get F (fun _ _ h => h.2.1.1) rfl zi_M 13 (by decide) rfl zk_551 rfl dM_sell_113 ?_
      refine zg_aload_n F 2 rfl rfl dM_sell_116 ?_
      refine zg_get F (fun _ _ h => h.2.1.1) rfl zi_M 8 (by decide) rfl zk_546 rfl dM_sell_117 ?_
      refine zg_eqi (hT2) ?_
      refine zg_iconst F (v := nI 1) (by decide) dM_sell_120 ?_
      refine zm_zast F 10 (by decide) rfl (by show _ < 80; omega) (by decide) dM_sell_121 ?_
      refine zg_aload_n F 2 rfl rfl dM_sell_122 ?_
      refine zg_get F (fun _ _ h => h.2.1.1) rfl zi_M 14 (by decide) rfl zk_552 rfl dM_sell_123 ?_
      refine zg_iload_n F 3 rfl rfl dM_sell_126 ?_
      refine zg_aload_n F 2 rfl rfl dM_sell_127 ?_
      refine zg_get F (fun _ _ h => h.2.1.1) rfl zi_M 14 (by decide) rfl zk_552 rfl dM_sell_128 ?_
      refine zg_iload_n F 3 rfl rfl dM_sell_131 ?_
      refine zm_lald F 11 (by decide) rfl (by show _ < 4; omega) rfl dM_sell_132 ?_
      refine zg_iload F 6 rfl dM_sell_133 ?_
      refine zg_i2l F rfl dM_sell_135 ?_
      refine zg_lload F 1 rfl dM_sell_136 ?_
      refine zg_lmul F rfl dM_sell_138 ?_
      refine zg_ladd F rfl dM_sell_139 ?_
      refine zm_last F 11 (by decide) rfl (by show _ < 4; omega) dM_sell_140 ?_
      refine zg_aload_n F 2 rfl rfl dM_sell_141 ?_
      refine zg_dup F rfl dM_sell_142 ?_
      refine zg_get F (fun _ _ h => h.2.1.1) rfl zi_M 8 (by decide) rfl zk_546 rfl dM_sell_143 ?_
      refine zg_eqi (hT2) ?_
      refine zg_iconst F (v := nI 1) (by decide) dM_sell_146 ?_
      refine zg_iadd F (by first | exact nI_add _ _ | rfl) dM_sell_147 ?_
      refine zg_put F (fun _ _ h => h.2.1.1) rfl zi_M zy_M zt_M zn_M 8 (by decide) rfl zk_546 rfl rfl rfl rfl (Nat.le_of_ble_eq_true rfl) (fun w z h => zm_P.pt (i := 2) (by decide) w z h) dM_sell_148 ?_
      refine zg_aload_n F 2 rfl rfl dM_sell_151 ?_
      refine zg_get F (fun _ _ h => h.2.1.1) rfl zi_M 8 (by decide) rfl zk_546 rfl dM_sell_152 ?_
      refine zg_eqi (zm_set_s) ?_
      refine zg_iconst F (v := nI 1) (by decide) dM_sell_155 ?_
      refine zg_isub F (pk_sub (a := T + 1) (b := 1) (by omega)) dM_sell_156 ?_
      exact zg_iret F E (Nat.zero_le _) (Nat.zero_le _) (fun _ _ h => h) dM_sell_157
    | succ r ih =>
      intro i hi
      refine zg_iload F 0 rfl dM_sell_6 ?_
      refine zg_bipush F (v := nI 16) (by decide) dM_sell_8 ?_
      refine zg_icmp_geF F dM_sell_10 (tgt := 42) (by decide) (nI_ge (by omega) (by omega)) ?_
      refine zg_lload F 1 rfl dM_sell_13 ?_
      refine zg_aload_n F 2 rfl rfl dM_sell_15 ?_
      refine zg_iload_n F 4 rfl rfl dM_sell_16 ?_
      refine zg_iload_n F 5 rfl rfl dM_sell_17 ?_
      refine zg_iload F 0 rfl dM_sell_18 ?_
      refine zg_callV F (zM_lies _ _ _ _ _ _ _ _ at' parts i (by omega) (by omega)) zv_M_lies zu_M_lies zk_656 (fun _ _ h => h.2.1.1) rfl rfl ⟨by decide, by decide⟩ ⟨by decide, by decide⟩ rfl (Nat.le_of_ble_eq_true rfl) dM_sell_20 ?_
      refine zg_i2l F rfl dM_sell_23 ?_
      refine zg_aload_n F 2 rfl rfl dM_sell_24 ?_
      refine zg_get F (fun _ _ h => h.2.1.1) rfl zi_M 2 (by decide) rfl zk_540 rfl dM_sell_25 ?_
      refine zg_iload F 0 rfl dM_sell_28 ?_
      refine zm_iald F 1 (by decide) rfl (by show _ < 16; omega) rfl dM_sell_30 ?_
      refine zg_i2l F rfl dM_sell_31 ?_
      refine zg_lmul F rfl dM_sell_32 ?_
      refine zg_ladd F rfl dM_sell_33 ?_
      refine zg_lstore F (by rw [hn]; decide) (L' := [(5, _), (7, _), (0, _), (1, _), (2, _), (3, _), (4, _)]) rfl dM_sell_34 ?_
      refine zg_iinc F 1 rfl (by first | exact zc_inc _ | rfl) (by rw [hn]; decide) (L' := [(7, _), (5, _), (0, _), (1, _), (2, _), (3, _), (4, _)]) rfl dM_sell_36 ?_
      refine zg_goto F (tgt := 6) dM_sell_39 (by decide) ?_
      exact ih (i + 1) (by omega)
  exact loop 16 0 rfl
end
section
set_option maxRecDepth 100000 in
set_option maxHeartbeats 4000000 in
theorem zM_serve (l : Launch) (D : va_G) (A : Nat → ClassId) (base : Nat) (mo sz : Nat) (w0 : zg_w) (σ : zm_S) (T port had : Nat) (h0 : port < 4) (hh : had ≤ 6) (hT8 : T ≤ 80) (hw : σ.1 12 port = nI had) (hT : σ.1 25 2 = nI T) (hp : ∀ k, k < had → ∃ p, p ≤ 4 ∧ σ.1 14 (6 * port + k) = nI p) : zg_Met l zm_M_serve zc_M_serve 9 (some .int) 3 0 0 D A base [.ref mo, .int (nI port)] (zm_P A mo w0 sz σ) (some (.int (nI (had - (zm_sv σ port T had).2)))) (zm_P A mo w0 sz (zm_serve σ port T had)) := by
  refine zg_met (by decide) (Nat.le_of_ble_eq_true rfl) ?_
  intro K hl hD hA hz hn hnm F E
  subst hl hD hA hz
  show zg_G K (zm_P (zk_A K) mo w0 sz σ) 0 0 0 [(0, .ref mo), (1, .int (nI port))] []
  refine zg_iconst F (v := nI 0) (by decide) dM_serve_0 ?_
  refine zg_istore_n F rfl (by rw [hn]; decide) (L' := [(2, _), (0, _), (1, _)]) rfl dM_serve_1 ?_
  refine zg_iconst F (v := nI 0) (by decide) dM_serve_2 ?_
  refine zg_istore_n F rfl (by rw [hn]; decide) (L' := [(3, _), (2, _), (0, _), (1, _)]) rfl dM_serve_3 ?_
  refine zg_aload_n F 2 rfl rfl dM_serve_4 ?_
  refine zg_get F (fun _ _ h => h.2.1.1) rfl zi_M 15 (by decide) rfl zk_553 rfl dM_serve_5 ?_
  refine zg_iload_n F 3 rfl rfl dM_serve_8 ?_
  refine zm_iald F 12 (by decide) rfl (by show _ < 4; omega) rfl dM_serve_9 ?_
  refine zg_eqi (hw) ?_
  refine zg_istore F (by rw [hn]; decide) (L' := [(4, _), (3, _), (2, _), (0, _), (1, _)]) rfl dM_serve_10 ?_
  refine zg_iconst F (v := nI 0) (by decide) dM_serve_12 ?_
  refine zg_istore F (by rw [hn]; decide) (L' := [(5, _), (4, _), (3, _), (2, _), (0, _), (1, _)]) rfl dM_serve_13 ?_
  have loop : ∀ r i, i + r = had → zg_G K (zm_P (zk_A K) mo w0 sz (zm_sv σ port T i).1) 0 0 15 [(5, .int (nI i)), (4, .int (nI had)), (3, .int (nI (zm_sv σ port T i).2)), (2, .int (nI (i - (zm_sv σ port T i).2))), (0, .ref mo), (1, .int (nI port))] [] := by
    intro r
    induction r with
    | zero =>
      intro i hi
      obtain rfl : i = had := by omega
      refine zg_iload F 0 rfl dM_serve_15 ?_
      refine zg_iload F 1 rfl dM_serve_17 ?_
      refine zg_icmp_geT F (tgt := 168) dM_serve_19 (by decide) (nI_le (by omega) (by omega)) ?_
      refine zg_aload_n F 4 rfl rfl dM_serve_168 ?_
      refine zg_get F (fun _ _ h => h.2.1.1) rfl zi_M 15 (by decide) rfl zk_553 rfl dM_serve_169 ?_
      refine zg_iload_n F 5 rfl rfl dM_serve_172 ?_
      refine zg_iload_n F 2 rfl rfl dM_serve_173 ?_
      refine zm_iast F 12 (by decide) rfl (by show _ < 4; omega) dM_serve_174 ?_
      refine zg_iload_n F 3 rfl rfl dM_serve_175 ?_
      exact zg_iret F E (Nat.zero_le _) (Nat.zero_le _) (fun _ _ h => h) dM_serve_176
    | succ r ih =>
      intro i hi
      have hle := zm_sv_le σ port T i
      have hT' := zm_sv_T σ port T hT i
      have h80 := zm_sv_80 σ port T hT8 i
      have h14 := zm_sv_14 σ port T i i (Nat.le_refl _)
      obtain ⟨p, hp4, hpe⟩ := hp i (by omega)
      rw [hpe] at h14
      have hz : zn (σ.1 14 (6 * port + i)) = p := by rw [hpe]; exact zn_nI (by omega)
      have hg := ih (i + 1) (by omega)
      rw [zm_sv, hz] at hg
      generalize zm_sv σ port T i = q at hle hT' h80 h14 hg ⊢
      obtain ⟨S, lf⟩ := q
      dsimp only at hle hT' h80 h14 hg ⊢
      refine zg_iload F 0 rfl dM_serve_15 ?_
      refine zg_iload F 1 rfl dM_serve_17 ?_
      refine zg_icmp_geF F dM_serve_19 (tgt := 168) (by decide) (nI_ge (by omega) (by omega)) ?_
      refine zg_bipush F (v := nI 6) (by decide) dM_serve_22 ?_
      refine zg_iload_n F 5 rfl rfl dM_serve_24 ?_
      refine zg_imul F (by first | exact pk_mul _ _ | rfl) dM_serve_25 ?_
      refine zg_iload F 0 rfl dM_serve_26 ?_
      refine zg_iadd F (by first | exact nI_add _ _ | rfl) dM_serve_28 ?_
      refine zg_istore F (by rw [hn]; decide) (L' := [(6, _), (5, _), (4, _), (3, _), (2, _), (0, _), (1, _)]) rfl dM_serve_29 ?_
      refine zg_sipush F (v := nI 324) (by decide) dM_serve_31 ?_
      refine zg_iconst F (v := nI 4) (by decide) dM_serve_34 ?_
      refine zg_iload F 0 rfl dM_serve_35 ?_
      refine zg_imul F (by first | exact pk_mul _ _ | rfl) dM_serve_37 ?_
      refine zg_iadd F (by first | exact nI_add _ _ | rfl) dM_serve_38 ?_
      refine zg_istore F (by rw [hn]; decide) (L' := [(7, _), (6, _), (5, _), (4, _), (3, _), (2, _), (0, _), (1, _)]) rfl dM_serve_39 ?_
      refine zg_aload_n F 6 rfl rfl dM_serve_41 ?_
      refine zg_get F (fun _ _ h => h.2.1.1) rfl zi_M 8 (by decide) rfl zk_546 rfl dM_serve_42 ?_
      refine zg_eqi (hT') ?_
      refine zg_bipush F (v := nI 80) (by decide) dM_serve_45 ?_
      by_cases g1 : T + (i - lf) < 80
      · refine zg_icmp_geF F dM_serve_47 (tgt := 102) (by decide) (nI_ge (by omega) (by omega)) ?_
        refine zg_aload_n F 6 rfl rfl dM_serve_50 ?_
        refine zg_iload_n F 7 rfl rfl dM_serve_51 ?_
        refine zg_iload F 0 rfl dM_serve_52 ?_
        refine zg_aload_n F 6 rfl rfl dM_serve_54 ?_
        refine zg_get F (fun _ _ h => h.2.1.1) rfl zi_M 17 (by decide) rfl zk_555 rfl dM_serve_55 ?_
        refine zg_iload F 1 rfl dM_serve_58 ?_
        refine zm_iald F 14 (by decide) rfl (by show _ < 24; omega) rfl dM_serve_60 ?_
        refine zg_eqi (h14) ?_
        refine zg_aload_n F 6 rfl rfl dM_serve_61 ?_
        refine zg_get F (fun _ _ h => h.2.1.1) rfl zi_M 16 (by decide) rfl zk_554 rfl dM_serve_62 ?_
        refine zg_iload F 1 rfl dM_serve_65 ?_
        refine zm_iald F 13 (by decide) rfl (by show _ < 24; omega) rfl dM_serve_67 ?_
        refine zg_callV F (zM_fits _ _ _ _ _ _ _ _ port (324 + 4 * (6 * port + i)) p _ h0 (by omega)) zv_M_fits zu_M_fits zk_652 (fun _ _ h => h.2.1.1) rfl rfl ⟨by decide, by decide⟩ ⟨by decide, by decide⟩ rfl (Nat.le_of_ble_eq_true rfl) dM_serve_68 ?_
        by_cases g2 : zm_fits S port (324 + 4 * (6 * port + i)) p (S.1 13 (6 * port + i)) 16 = 0
        · rw [if_neg (fun q => q.2 g2)] at hg
          refine zg_if_eqT F (tgt := 102) dM_serve_71 (by decide) (g2) ?_
          refine zg_bipush F (v := nI 6) (by decide) dM_serve_102 ?_
          refine zg_iload_n F 7 rfl rfl dM_serve_104 ?_
          refine zg_imul F (by first | exact pk_mul _ _ | rfl) dM_serve_105 ?_
          refine zg_iload_n F 4 rfl rfl dM_serve_106 ?_
          refine zg_iadd F (by first | exact nI_add _ _ | rfl) dM_serve_107 ?_
          refine zg_istore F (by rw [hn]; decide) (L' := [(8, _), (7, _), (6, _), (5, _), (4, _), (3, _), (2, _), (0, _), (1, _)]) rfl dM_serve_108 ?_
          refine zg_aload_n F 7 rfl rfl dM_serve_110 ?_
          refine zg_sipush F (v := nI 324) (by decide) dM_serve_111 ?_
          refine zg_iconst F (v := nI 4) (by decide) dM_serve_114 ?_
          refine zg_iload F 0 rfl dM_serve_115 ?_
          refine zg_imul F (by first | exact pk_mul _ _ | rfl) dM_serve_117 ?_
          refine zg_iadd F (by first | exact nI_add _ _ | rfl) dM_serve_118 ?_
          refine zg_iload F 1 rfl dM_serve_119 ?_
          refine zg_aload_n F 7 rfl rfl dM_serve_121 ?_
          refine zg_get F (fun _ _ h => h.2.1.1) rfl zi_M 17 (by decide) rfl zk_555 rfl dM_serve_122 ?_
          refine zg_iload F 2 rfl dM_serve_125 ?_
          refine zm_iald F 14 (by decide) rfl (by show _ < 24; omega) rfl dM_serve_127 ?_
          refine zg_eqi (h14) ?_
          refine zg_callV F (zM_copy _ _ _ _ _ _ _ _ (324 + 4 * (6 * port + lf)) (324 + 4 * (6 * port + i)) p (by omega) (by omega)) zv_M_copy zu_M_copy zk_668 (fun _ _ h => h.2.1.1) rfl rfl ⟨by decide, by decide⟩ ⟨by decide, by decide⟩ rfl (Nat.le_of_ble_eq_true rfl) dM_serve_128 ?_
          refine zg_aload_n F 7 rfl rfl dM_serve_131 ?_
          refine zg_get F (fun _ _ h => h.2.1.1) rfl zi_M 16 (by decide) rfl zk_554 rfl dM_serve_132 ?_
          refine zg_iload F 0 rfl dM_serve_135 ?_
          refine zg_aload_n F 7 rfl rfl dM_serve_137 ?_
          refine zg_get F (fun _ _ h => h.2.1.1) rfl zi_M 16 (by decide) rfl zk_554 rfl dM_serve_138 ?_
          refine zg_iload F 2 rfl dM_serve_141 ?_
          refine zm_iald F 13 (by decide) rfl (by show _ < 24; omega) rfl dM_serve_143 ?_
          refine zm_iast F 13 (by decide) rfl (by show _ < 24; omega) dM_serve_144 ?_
          refine zg_aload_n F 7 rfl rfl dM_serve_145 ?_
          refine zg_get F (fun _ _ h => h.2.1.1) rfl zi_M 17 (by decide) rfl zk_555 rfl dM_serve_146 ?_
          refine zg_iload F 0 rfl dM_serve_149 ?_
          refine zg_aload_n F 7 rfl rfl dM_serve_151 ?_
          refine zg_get F (fun _ _ h => h.2.1.1) rfl zi_M 17 (by decide) rfl zk_555 rfl dM_serve_152 ?_
          refine zg_iload F 2 rfl dM_serve_155 ?_
          refine zm_iald F 14 (by decide) rfl (by show _ < 24; omega) rfl dM_serve_157 ?_
          refine zm_iast F 14 (by decide) rfl (by show _ < 24; omega) dM_serve_158 ?_
          refine zg_iinc F 5 rfl (by first | exact zc_inc _ | rfl) (by rw [hn]; decide) (L' := [(3, _), (8, _), (7, _), (6, _), (5, _), (4, _), (2, _), (0, _), (1, _)]) rfl dM_serve_159 ?_
          refine zg_iinc F 4 rfl (by first | exact zc_inc _ | rfl) (by rw [hn]; decide) (L' := [(5, _), (3, _), (8, _), (7, _), (6, _), (4, _), (2, _), (0, _), (1, _)]) rfl dM_serve_162 ?_
          refine zg_goto F (tgt := 15) dM_serve_165 (by decide) ?_
          refine zg_sub [0, 5, 1, 6, 7, 8] (L' := [(5, _), (4, _), (3, _), (2, _), (0, _), (1, _)]) rfl ?_
          have e : i + 1 - (lf + 1) = i - lf := by omega
          dsimp only at hg
          rw [e] at hg
          exact hg
        · rw [if_pos ⟨g1, g2⟩] at hg
          refine zg_if_eqF F dM_serve_71 (tgt := 102) (by decide) (g2) ?_
          refine zg_aload_n F 6 rfl rfl dM_serve_74 ?_
          refine zg_iload_n F 7 rfl rfl dM_serve_75 ?_
          refine zg_iload F 0 rfl dM_serve_76 ?_
          refine zg_aload_n F 6 rfl rfl dM_serve_78 ?_
          refine zg_get F (fun _ _ h => h.2.1.1) rfl zi_M 17 (by decide) rfl zk_555 rfl dM_serve_79 ?_
          refine zg_iload F 1 rfl dM_serve_82 ?_
          refine zm_iald F 14 (by decide) rfl (by show _ < 24; omega) rfl dM_serve_84 ?_
          refine zg_eqi (h14) ?_
          refine zg_aload_n F 6 rfl rfl dM_serve_85 ?_
          refine zg_get F (fun _ _ h => h.2.1.1) rfl zi_M 16 (by decide) rfl zk_554 rfl dM_serve_86 ?_
          refine zg_iload F 1 rfl dM_serve_89 ?_
          refine zm_iald F 13 (by decide) rfl (by show _ < 24; omega) rfl dM_serve_91 ?_
          refine zg_callV F (zM_sell _ _ _ _ _ _ _ _ (T + (i - lf)) port (324 + 4 * (6 * port + i)) p _ h0 (by omega) g1 hp4 hT') zv_M_sell zu_M_sell zk_660 (fun _ _ h => h.2.1.1) rfl rfl ⟨by decide, by decide⟩ ⟨by decide, by decide⟩ rfl (Nat.le_of_ble_eq_true rfl) dM_serve_92 ?_
          refine zg_pop F rfl dM_serve_95 ?_
          refine zg_iinc F 5 rfl (by first | exact zc_inc _ | rfl) (by rw [hn]; decide) (L' := [(2, _), (7, _), (6, _), (5, _), (4, _), (3, _), (0, _), (1, _)]) rfl dM_serve_96 ?_
          refine zg_goto F (tgt := 162) dM_serve_99 (by decide) ?_
          refine zg_iinc F 3 rfl (by first | exact zc_inc _ | rfl) (by rw [hn]; decide) (L' := [(5, _), (2, _), (7, _), (6, _), (4, _), (3, _), (0, _), (1, _)]) rfl dM_serve_162 ?_
          refine zg_goto F (tgt := 15) dM_serve_165 (by decide) ?_
          refine zg_sub [0, 4, 5, 1, 6, 7] (L' := [(5, _), (4, _), (3, _), (2, _), (0, _), (1, _)]) rfl ?_
          have e : i + 1 - lf = i - lf + 1 := by omega
          dsimp only at hg
          rw [e] at hg
          exact hg
      · rw [if_neg (fun q => g1 q.1)] at hg
        refine zg_icmp_geT F (tgt := 102) dM_serve_47 (by decide) (nI_le (by omega) (by omega)) ?_
        refine zg_bipush F (v := nI 6) (by decide) dM_serve_102 ?_
        refine zg_iload_n F 7 rfl rfl dM_serve_104 ?_
        refine zg_imul F (by first | exact pk_mul _ _ | rfl) dM_serve_105 ?_
        refine zg_iload_n F 4 rfl rfl dM_serve_106 ?_
        refine zg_iadd F (by first | exact nI_add _ _ | rfl) dM_serve_107 ?_
        refine zg_istore F (by rw [hn]; decide) (L' := [(8, _), (7, _), (6, _), (5, _), (4, _), (3, _), (2, _), (0, _), (1, _)]) rfl dM_serve_108 ?_
        refine zg_aload_n F 7 rfl rfl dM_serve_110 ?_
        refine zg_sipush F (v := nI 324) (by decide) dM_serve_111 ?_
        refine zg_iconst F (v := nI 4) (by decide) dM_serve_114 ?_
        refine zg_iload F 0 rfl dM_serve_115 ?_
        refine zg_imul F (by first | exact pk_mul _ _ | rfl) dM_serve_117 ?_
        refine zg_iadd F (by first | exact nI_add _ _ | rfl) dM_serve_118 ?_
        refine zg_iload F 1 rfl dM_serve_119 ?_
        refine zg_aload_n F 7 rfl rfl dM_serve_121 ?_
        refine zg_get F (fun _ _ h => h.2.1.1) rfl zi_M 17 (by decide) rfl zk_555 rfl dM_serve_122 ?_
        refine zg_iload F 2 rfl dM_serve_125 ?_
        refine zm_iald F 14 (by decide) rfl (by show _ < 24; omega) rfl dM_serve_127 ?_
        refine zg_eqi (h14) ?_
        refine zg_callV F (zM_copy _ _ _ _ _ _ _ _ (324 + 4 * (6 * port + lf)) (324 + 4 * (6 * port + i)) p (by omega) (by omega)) zv_M_copy zu_M_copy zk_668 (fun _ _ h => h.2.1.1) rfl rfl ⟨by decide, by decide⟩ ⟨by decide, by decide⟩ rfl (Nat.le_of_ble_eq_true rfl) dM_serve_128 ?_
        refine zg_aload_n F 7 rfl rfl dM_serve_131 ?_
        refine zg_get F (fun _ _ h => h.2.1.1) rfl zi_M 16 (by decide) rfl zk_554 rfl dM_serve_132 ?_
        refine zg_iload F 0 rfl dM_serve_135 ?_
        refine zg_aload_n F 7 rfl rfl dM_serve_137 ?_
        refine zg_get F (fun _ _ h => h.2.1.1) rfl zi_M 16 (by decide) rfl zk_554 rfl dM_serve_138 ?_
        refine zg_iload F 2 rfl dM_serve_141 ?_
        refine zm_iald F 13 (by decide) rfl (by show _ < 24; omega) rfl dM_serve_143 ?_
        refine zm_iast F 13 (by decide) rfl (by show _ < 24; omega) dM_serve_144 ?_
        refine zg_aload_n F 7 rfl rfl dM_serve_145 ?_
        refine zg_get F (fun _ _ h => h.2.1.1) rfl zi_M 17 (by decide) rfl zk_555 rfl dM_serve_146 ?_
        refine zg_iload F 0 rfl dM_serve_149 ?_
        refine zg_aload_n F 7 rfl rfl dM_serve_151 ?_
        refine zg_get F (fun _ _ h => h.2.1.1) rfl zi_M 17 (by decide) rfl zk_555 rfl dM_serve_152 ?_
        refine zg_iload F 2 rfl dM_serve_155 ?_
        refine zm_iald F 14 (by decide) rfl (by show _ < 24; omega) rfl dM_serve_157 ?_
        refine zm_iast F 14 (by decide) rfl (by show _ < 24; omega) dM_serve_158 ?_
        refine zg_iinc F 5 rfl (by first | exact zc_inc _ | rfl) (by rw [hn]; decide) (L' := [(3, _), (8, _), (7, _), (6, _), (5, _), (4, _), (2, _), (0, _), (1, _)]) rfl dM_serve_159 ?_
        refine zg_iinc F 4 rfl (by first | exact zc_inc _ | rfl) (by rw [hn]; decide) (L' := [(5, _), (3, _), (8, _), (7, _), (6, _), (4, _), (2, _), (0, _), (1, _)]) rfl dM_serve_162 ?_
        refine zg_goto F (tgt := 15) dM_serve_165 (by decide) ?_
        refine zg_sub [0, 5, 1, 6, 7, 8] (L' := [(5, _), (4, _), (3, _), (2, _), (0, _), (1, _)]) rfl ?_
        have e : i + 1 - (lf + 1) = i - lf := by omega
        dsimp only at hg
        rw [e] at hg
        exact hg
  exact loop had 0 (by omega)
end
section
def zm_f (σ : zm_S) (c : Nat) : zm_S := zm_set σ 25 0 (nI c)
theorem zz4_of {j : Nat} (h : j < 4) : zz4 (nI j) := ⟨nI_pos (by omega), nI_ge h (by decide)⟩
theorem zz_nI {k : Int32} {n : Nat} (hn : n < 2 ^ 31) (h : ¬ k < 0 ∧ ¬ nI n ≤ k) : ∃ j, j < n ∧ k = nI j := by
  rcases pk_ix k hn with h1 | h1 | h1
  · exact absurd h1 h.1
  · exact absurd h1 h.2
  · exact h1
theorem zb_1 {c : Nat} (h : 0 < c) (h2 : c < 2 ^ 31) : zb (0 < nI c) = nI 1 := if_pos (nI_lt (a := 0) h h2)
theorem zb_0 : zb (0 < nI 0) = nI 0 := if_neg (by decide)
def zc_open (σ : zm_S) (s : Nat) (seats : Int32) : Nat := if seats < nI 1 ∨ nI 100 < seats then 2 else if σ.1 0 s = 0 then 0 else 3
def zm_opn (σ : zm_S) (s : Nat) (seats : Int32) : Nat → zm_S
  | 0 => σ
  | i + 1 => zm_set (zm_opn σ s seats i) 2 (4 * s + i) seats
def zm_open (σ : zm_S) (s : Nat) (seats : Int32) : zm_S := if zc_open σ s seats = 0 then zm_opn (zm_set (zm_f σ 0) 0 s (nI 1)) s seats 4 else zm_f σ (zc_open σ s seats)
def zc_fare (f : Int32) : Nat := if f < 0 ∨ (1000000000 : Int32) < f then 2 else 0
def zm_fare (σ : zm_S) (s leg : Nat) (f : Int32) : zm_S := if zc_fare f = 0 then zm_set (zm_f σ 0) 1 (4 * s + leg) f else zm_f σ (zc_fare f)
def zc_part (σ : zm_S) (s d a b : Nat) : Nat := if b ≤ a then 2 else if σ.1 0 s = 0 ∨ d = 4 then 3 else 0
def zm_part (σ : zm_S) (s d a b : Nat) : zm_S := if zc_part σ s d a b = 0 then zm_set (zm_set (zm_set (zm_set (zm_f σ 0) 3 d (nI s)) 4 d (nI a)) 5 d (nI b)) 25 1 (nI (d + 1)) else zm_f σ (zc_part σ s d a b)
def zr_part (σ : zm_S) (s d a b : Nat) : Nat := if zc_part σ s d a b = 0 then d + 1 else 0
def zc_buy (d T : Nat) (n : Int32) : Nat := if n < nI 1 ∨ nI 100 < n then 2 else if d = 0 ∨ T = 80 then 3 else 0
def zo_buy (σ : zm_S) (d T port : Nat) (n : Int32) : zm_S × Int32 := if zc_buy d T n = 0 then
    (if zm_fits (zm_set (zm_f σ 0) 25 1 (nI 0)) port 0 d n 16 = 0 then (zm_set (zm_f σ 0) 25 1 (nI 0), -1) else (zm_sell (zm_set (zm_f σ 0) 25 1 (nI 0)) T port 0 d n, nI T))
  else (zm_f σ (zc_buy d T n), nI 0)
def zc_wish (d had : Nat) (n : Int32) : Nat := if n < nI 1 ∨ nI 100 < n then 2 else if d = 0 ∨ had = 6 then 3 else 0
def zm_wsh (σ : zm_S) (d port had : Nat) (n : Int32) : zm_S :=
  zm_set (zm_set (zm_set (zm_set (zm_copy (zm_f σ 0) (324 + 4 * (6 * port + had)) 0 d) 13 (6 * port + had) n) 14 (6 * port + had) (nI d)) 12 port (nI (had + 1))) 25 1 (nI 0)
def zo_wish (σ : zm_S) (d T port had : Nat) (n : Int32) : zm_S × Int32 := if zc_wish d had n = 0 then
    (zm_serve (zm_wsh σ d port had n) port T (had + 1), nI (had + 1 - (zm_sv (zm_wsh σ d port had n) port T (had + 1)).2))
  else (zm_f σ (zc_wish d had n), nI 0)
def zm_cnc (σ : zm_S) (t port parts : Nat) : zm_S :=
  let s := zm_give (zm_set (zm_f σ 0) 10 t (nI 0)) port (4 + 4 * t) parts (σ.1 7 t) 16
  zm_setL s 11 port (s.2 11 port - s.2 9 t)
def zo_cancel (σ : zm_S) (T t port parts had : Nat) : zm_S × Int32 := if σ.1 10 t = 0 then (zm_f σ 2, nI 0) else
    (zm_serve (zm_cnc σ t port parts) port T had, nI (had - (zm_sv (zm_cnc σ t port parts) port T had).2))
def zc_ticket (what : Int32) : Nat := if what < 0 ∨ nI 3 < what then 2 else 0
def zr_ticket (σ : zm_S) (t : Nat) (what : Int32) : Int32 := if zc_ticket what = 0 then (if what = 0 then σ.1 6 t else if what = nI 1 then σ.1 7 t else if what = nI 2 then σ.1 8 t else if σ.1 10 t = 0 then nI 0 else nI 1) else nI 0
def zc_hand (a b bx : Nat) (n : Int32) : Nat := if a = b ∨ n < nI 1 ∨ nI 100 < n then 2 else if bx = 8 then 3 else 0
def zo_hand (σ : zm_S) (a b s leg bx : Nat) (n : Int32) : zm_S × Int32 := if zc_hand a b bx n = 0 then
    (if σ.1 2 (16 * a + 4 * s + leg) < n then (zm_f σ 0, -1) else (zm_encl (zm_f σ 0) a b (4 * s + leg) bx n, (zm_encl (zm_f σ 0) a b (4 * s + leg) bx n).1 15 (4 * a + b)))
  else (zm_f σ (zc_hand a b bx n), nI 0)
def zm_half (σ : zm_S) (a b leg : Nat) : Int32 := (σ.1 2 (16 * a + leg) - σ.1 2 (16 * b + leg)) / nI 2
/-- turns of the loop of share: the state, how many were made -/
def zm_shr (σ : zm_S) (a b s bx : Nat) : Nat → zm_S × Nat
  | 0 => (σ, 0)
  | i + 1 => if 0 < zm_half (zm_shr σ a b s bx i).1 a b (4 * s + i) ∧ bx + (zm_shr σ a b s bx i).2 < 8 then
      (zm_encl (zm_shr σ a b s bx i).1 a b (4 * s + i) (bx + (zm_shr σ a b s bx i).2) (zm_half (zm_shr σ a b s bx i).1 a b (4 * s + i)), (zm_shr σ a b s bx i).2 + 1)
    else zm_shr σ a b s bx i
def zo_send (σ : zm_S) (p bx : Nat) : zm_S × Int32 := if bx = 0 then (zm_f σ 0, nI 0) else
    (zm_set (zm_set (zm_set (zm_f σ 0) 17 p (σ.1 20 (8 * p))) 23 p (σ.1 21 (8 * p))) 24 p (σ.1 22 (8 * p)), σ.1 20 (8 * p))
def zm_tak (σ : zm_S) (p b lg : Nat) : zm_S :=
  let s1 := zm_set (zm_set (zm_f σ 0) 17 p (nI 0)) 18 p (σ.1 17 p)
  zm_set s1 2 (16 * b + lg) (s1.1 2 (16 * b + lg) + σ.1 24 p)
def zo_arrive (σ : zm_S) (p b lg T had : Nat) : zm_S × Int32 := if σ.1 17 p = 0 then (zm_f σ 0, -1) else
    if σ.1 17 p = σ.1 18 p + nI 1 then (zm_set (zm_serve (zm_tak σ p b lg) b T had) 19 p ((zm_serve (zm_tak σ p b lg) b T had).1 18 p), nI (had - (zm_sv (zm_tak σ p b lg) b T had).2))
    else (zm_set (zm_set (zm_f σ 0) 17 p (nI 0)) 19 p (σ.1 18 p), nI 0)
/-- turns of the loop of receipt: the state, how many stay -/
def zm_rcp (σ : zm_S) (p : Nat) (u : Int32) : Nat → zm_S × Nat
  | 0 => (σ, 0)
  | i + 1 => if u < (zm_rcp σ p u i).1.1 20 (8 * p + i) then
      (zm_set (zm_set (zm_set (zm_rcp σ p u i).1 20 (8 * p + (zm_rcp σ p u i).2) ((zm_rcp σ p u i).1.1 20 (8 * p + i))) 21 (8 * p + (zm_rcp σ p u i).2) ((zm_rcp σ p u i).1.1 21 (8 * p + i))) 22 (8 * p + (zm_rcp σ p u i).2) ((zm_rcp σ p u i).1.1 22 (8 * p + i)), (zm_rcp σ p u i).2 + 1)
    else zm_rcp σ p u i
def zo_receipt (σ : zm_S) (p bx : Nat) : zm_S × Int32 := if σ.1 19 p < 0 then (zm_f σ 0, -1) else
    (zm_set (zm_rcp (zm_set (zm_f σ 0) 19 p (-1)) p (σ.1 19 p) bx).1 16 p (nI (zm_rcp (zm_set (zm_f σ 0) 19 p (-1)) p (σ.1 19 p) bx).2), nI bx - nI (zm_rcp (zm_set (zm_f σ 0) 19 p (-1)) p (σ.1 19 p) bx).2)
/-- turns of the loop of crash -/
def zm_cra (σ : zm_S) (port : Nat) : Nat → zm_S × Int32
  | 0 => (σ, nI 0)
  | i + 1 => if i = port then zm_cra σ port i else
      (zm_lose1 (zm_lose1 (zm_cra σ port i).1 (4 * port + i)) (4 * i + port), (zm_cra σ port i).2 + zm_loseN (zm_cra σ port i).1 (4 * port + i) + zm_loseN (zm_lose1 (zm_cra σ port i).1 (4 * port + i)) (4 * i + port))
/-- the sum over the places of an outbox, from n on; over all outboxes -/
def zm_air1 (σ : zm_S) (leg p : Nat) (n : Int32) : Nat → Int32
  | 0 => n
  | i + 1 => if σ.1 21 (8 * p + i) = nI leg ∧ σ.1 18 p < σ.1 20 (8 * p + i) then zm_air1 σ leg p n i + σ.1 22 (8 * p + i) else zm_air1 σ leg p n i
def zm_air (σ : zm_S) (leg : Nat) : Nat → Int32
  | 0 => nI 0
  | p + 1 => zm_air1 σ leg p (zm_air σ leg p) (zn (σ.1 16 p))
def zm_sold (σ : zm_S) (leg : Nat) : Nat → Int32
  | 0 => nI 0
  | t + 1 => if σ.1 10 t = 0 then zm_sold σ leg t else zm_sold σ leg t + σ.1 7 t * zm_lies σ (4 + 4 * t) leg (zn (σ.1 8 t))
end
section
theorem zb_t {p : Prop} [Decidable p] (h : p) : zb p = nI 1 := if_pos h
theorem zb_f {p : Prop} [Decidable p] (h : ¬ p) : zb p = nI 0 := if_neg h
set_option maxRecDepth 100000 in
set_option maxHeartbeats 4000000 in
theorem zM_open_bad (l : Launch) (D : va_G) (A : Nat → ClassId) (base : Nat) (mo sz : Nat) (w0 : zg_w) (σ : zm_S) (s seats : Int32) (h : ¬ zz4 s) : zg_Met l zm_M_open zc_M_open 4 none 1 0 0 D A base [.ref mo, .int s, .int seats] (zm_P A mo w0 sz σ) none (zm_P A mo w0 sz (zm_f σ 1)) := by
  refine zg_met (by decide) (Nat.le_of_ble_eq_true rfl) ?_
  intro K hl hD hA hz hn hnm F E
  subst hl hD hA hz
  show zg_G K (zm_P (zk_A K) mo w0 sz σ) 0 0 0 [(0, .ref mo), (1, .int s), (2, .int seats)] []
  refine zg_aload_n F 0 rfl rfl dM_open_0 ?_
  refine zg_iload_n F 1 rfl rfl dM_open_1 ?_
  refine zg_callS F (zM_isFour _ _ _ _ _ _) zv_M_isFour zu_M_isFour zk_632 rfl ⟨by decide, by decide⟩ ⟨by decide, by decide⟩ rfl (Nat.le_of_ble_eq_true rfl) dM_open_2 ?_
  refine zg_eqi (y := nI 0) (zb_f (h)) ?_
  refine zg_if_neF F dM_open_5 (tgt := 12) (by decide) (rfl) ?_
  refine zg_iconst F (v := nI 1) (by decide) dM_open_8 ?_
  refine zg_goto F (tgt := 41) dM_open_9 (by decide) ?_
  refine zg_callV F (zM_refused _ _ _ _ _ _ _ _ _) zv_M_refused zu_M_refused zk_635 (fun _ _ h => h.2.1.1) rfl rfl ⟨by decide, by decide⟩ ⟨by decide, by decide⟩ rfl (Nat.le_of_ble_eq_true rfl) dM_open_41 ?_
  refine zg_eqi (zb_1 (by omega) (by omega)) ?_
  refine zg_if_eqF F dM_open_44 (tgt := 48) (by decide) (by decide) ?_
  exact zg_vret F E (Nat.zero_le _) (Nat.zero_le _) (fun _ _ h => h) dM_open_47
set_option maxRecDepth 100000 in
set_option maxHeartbeats 4000000 in
theorem zM_open (l : Launch) (D : va_G) (A : Nat → ClassId) (base : Nat) (mo sz : Nat) (w0 : zg_w) (σ : zm_S) (s : Nat) (seats : Int32) (hs : s < 4) : zg_Met l zm_M_open zc_M_open 4 none 1 0 0 D A base [.ref mo, .int (nI s), .int seats] (zm_P A mo w0 sz σ) none (zm_P A mo w0 sz (zm_open σ s seats)) := by
  refine zg_met (by decide) (Nat.le_of_ble_eq_true rfl) ?_
  intro K hl hD hA hz hn hnm F E
  subst hl hD hA hz
  show zg_G K (zm_P (zk_A K) mo w0 sz σ) 0 0 0 [(0, .ref mo), (1, .int (nI s)), (2, .int seats)] []
  have suf : ∀ c, c < 4 → zc_open σ s seats = c → zg_G K (zm_P (zk_A K) mo w0 sz σ) 0 0 41 [(0, .ref mo), (1, .int (nI s)), (2, .int seats)] [.int (nI c), .ref mo] := by
    intro c hc4 hc
    rw [zm_open, hc] at E
    by_cases h0 : c = 0
    · subst h0
      rw [if_pos rfl] at E
      refine zg_callV F (zM_refused _ _ _ _ _ _ _ _ _) zv_M_refused zu_M_refused zk_635 (fun _ _ h => h.2.1.1) rfl rfl ⟨by decide, by decide⟩ ⟨by decide, by decide⟩ rfl (Nat.le_of_ble_eq_true rfl) dM_open_41 ?_
      refine zg_eqi zb_0 ?_
      refine zg_if_eqT F (tgt := 48) dM_open_44 (by decide) (rfl) ?_
      refine zg_aload_n F 0 rfl rfl dM_open_48 ?_
      refine zg_get F (fun _ _ h => h.2.1.1) rfl zi_M 1 (by decide) rfl zk_539 rfl dM_open_49 ?_
      refine zg_iload_n F 1 rfl rfl dM_open_52 ?_
      refine zg_iconst F (v := nI 1) (by decide) dM_open_53 ?_
      refine zm_zast F 0 (by decide) rfl (by show _ < 4; omega) (by decide) dM_open_54 ?_
      refine zg_iconst F (v := nI 0) (by decide) dM_open_55 ?_
      refine zg_istore_n F rfl (by rw [hn]; decide) (L' := [(3, _), (0, _), (1, _), (2, _)]) rfl dM_open_56 ?_
      have loop : ∀ r i, i + r = 4 → zg_G K (zm_P (zk_A K) mo w0 sz (zm_opn (zm_set (zm_f σ 0) 0 s (nI 1)) s seats i)) 0 0 57 [(3, .int (nI i)), (0, .ref mo), (1, .int (nI s)), (2, .int seats)] [] := by
        intro r
        induction r with
        | zero =>
          intro i hi
          obtain rfl : i = 4 := by omega
          refine zg_iload_n F 0 rfl rfl dM_open_57 ?_
          refine zg_iconst F (v := nI 4) (by decide) dM_open_58 ?_
          refine zg_icmp_geT F (tgt := 79) dM_open_59 (by decide) (nI_le (by omega) (by omega)) ?_
          exact zg_vret F E (Nat.zero_le _) (Nat.zero_le _) (fun _ _ h => h) dM_open_79
        | succ r ih =>
          intro i hi
          refine zg_iload_n F 0 rfl rfl dM_open_57 ?_
          refine zg_iconst F (v := nI 4) (by decide) dM_open_58 ?_
          refine zg_icmp_geF F dM_open_59 (tgt := 79) (by decide) (nI_ge (by omega) (by omega)) ?_
          refine zg_aload_n F 1 rfl rfl dM_open_62 ?_
          refine zg_get F (fun _ _ h => h.2.1.1) rfl zi_M 3 (by decide) rfl zk_541 rfl dM_open_63 ?_
          refine zg_iconst F (v := nI 4) (by decide) dM_open_66 ?_
          refine zg_iload_n F 2 rfl rfl dM_open_67 ?_
          refine zg_imul F (by first | exact pk_mul _ _ | rfl) dM_open_68 ?_
          refine zg_iload_n F 0 rfl rfl dM_open_69 ?_
          refine zg_iadd F (by first | exact nI_add _ _ | rfl) dM_open_70 ?_
          refine zg_iload_n F 3 rfl rfl dM_open_71 ?_
          refine zm_iast F 2 (by decide) rfl (by show _ < 64; omega) dM_open_72 ?_
          refine zg_iinc F 0 rfl (by first | exact zc_inc _ | rfl) (by rw [hn]; decide) (L' := [(3, _), (0, _), (1, _), (2, _)]) rfl dM_open_73 ?_
          refine zg_goto F (tgt := 57) dM_open_76 (by decide) ?_
          exact ih (i + 1) (by omega)
      exact loop 4 0 rfl
    · rw [if_neg h0] at E
      refine zg_callV F (zM_refused _ _ _ _ _ _ _ _ _) zv_M_refused zu_M_refused zk_635 (fun _ _ h => h.2.1.1) rfl rfl ⟨by decide, by decide⟩ ⟨by decide, by decide⟩ rfl (Nat.le_of_ble_eq_true rfl) dM_open_41 ?_
      refine zg_eqi (zb_1 (by omega) (by omega)) ?_
      refine zg_if_eqF F dM_open_44 (tgt := 48) (by decide) (by decide) ?_
      exact zg_vret F E (Nat.zero_le _) (Nat.zero_le _) (fun _ _ h => h) dM_open_47
  refine zg_aload_n F 0 rfl rfl dM_open_0 ?_
  refine zg_iload_n F 1 rfl rfl dM_open_1 ?_
  refine zg_callS F (zM_isFour _ _ _ _ _ _) zv_M_isFour zu_M_isFour zk_632 rfl ⟨by decide, by decide⟩ ⟨by decide, by decide⟩ rfl (Nat.le_of_ble_eq_true rfl) dM_open_2 ?_
  refine zg_eqi (y := nI 1) (zb_t (zz4_of hs)) ?_
  refine zg_if_neT F (tgt := 12) dM_open_5 (by decide) (by decide) ?_
  refine zg_iload_n F 2 rfl rfl dM_open_12 ?_
  refine zg_iconst F (v := nI 1) (by decide) dM_open_13 ?_
  by_cases h1 : seats < nI 1
  · refine zg_icmp_ltT F (tgt := 23) dM_open_14 (by decide) (h1) ?_
    refine zg_iconst F (v := nI 2) (by decide) dM_open_23 ?_
    refine zg_goto F (tgt := 41) dM_open_24 (by decide) ?_
    exact suf 2 (by decide) (if_pos (Or.inl h1))
  · refine zg_icmp_ltF F dM_open_14 (tgt := 23) (by decide) (h1) ?_
    refine zg_iload_n F 2 rfl rfl dM_open_17 ?_
    refine zg_bipush F (v := nI 100) (by decide) dM_open_18 ?_
    by_cases h2 : nI 100 < seats
    · refine zg_icmp_leF F dM_open_20 (tgt := 27) (by decide) (Int32.not_le.mpr h2) ?_
      refine zg_iconst F (v := nI 2) (by decide) dM_open_23 ?_
      refine zg_goto F (tgt := 41) dM_open_24 (by decide) ?_
      exact suf 2 (by decide) (if_pos (Or.inr h2))
    · refine zg_icmp_leT F (tgt := 27) dM_open_20 (by decide) (Int32.not_lt.mp h2) ?_
      refine zg_aload_n F 0 rfl rfl dM_open_27 ?_
      refine zg_get F (fun _ _ h => h.2.1.1) rfl zi_M 1 (by decide) rfl zk_539 rfl dM_open_28 ?_
      refine zg_iload_n F 1 rfl rfl dM_open_31 ?_
      refine zm_zald F 0 (by decide) rfl (by show _ < 4; omega) rfl dM_open_32 ?_
      by_cases h3 : σ.1 0 s = 0
      · refine zg_if_eqT F (tgt := 40) dM_open_33 (by decide) (h3) ?_
        refine zg_iconst F (v := nI 0) (by decide) dM_open_40 ?_
        exact suf 0 (by decide) (by rw [zc_open, if_neg (fun q => q.elim h1 h2), if_pos h3])
      · refine zg_if_eqF F dM_open_33 (tgt := 40) (by decide) (h3) ?_
        refine zg_iconst F (v := nI 3) (by decide) dM_open_36 ?_
        refine zg_goto F (tgt := 41) dM_open_37 (by decide) ?_
        exact suf 3 (by decide) (by rw [zc_open, if_neg (fun q => q.elim h1 h2), if_neg h3])
set_option maxRecDepth 100000 in
set_option maxHeartbeats 4000000 in
theorem zM_fare_bad (l : Launch) (D : va_G) (A : Nat → ClassId) (base : Nat) (mo sz : Nat) (w0 : zg_w) (σ : zm_S) (s leg f : Int32) (h : ¬ (zz4 s ∧ zz4 leg)) : zg_Met l zm_M_fare zc_M_fare 4 none 1 0 0 D A base [.ref mo, .int s, .int leg, .int f] (zm_P A mo w0 sz σ) none (zm_P A mo w0 sz (zm_f σ 1)) := by
  refine zg_met (by decide) (Nat.le_of_ble_eq_true rfl) ?_
  intro K hl hD hA hz hn hnm F E
  subst hl hD hA hz
  show zg_G K (zm_P (zk_A K) mo w0 sz σ) 0 0 0 [(0, .ref mo), (1, .int s), (2, .int leg), (3, .int f)] []
  refine zg_aload_n F 0 rfl rfl dM_fare_0 ?_
  refine zg_iload_n F 1 rfl rfl dM_fare_1 ?_
  by_cases h1 : zz4 s
  · refine zg_callS F (zM_isFour _ _ _ _ _ _) zv_M_isFour zu_M_isFour zk_632 rfl ⟨by decide, by decide⟩ ⟨by decide, by decide⟩ rfl (Nat.le_of_ble_eq_true rfl) dM_fare_2 ?_
    refine zg_eqi (y := nI 1) (zb_t (h1)) ?_
    refine zg_if_eqF F dM_fare_5 (tgt := 15) (by decide) (by decide) ?_
    refine zg_iload_n F 2 rfl rfl dM_fare_8 ?_
    refine zg_callS F (zM_isFour _ _ _ _ _ _) zv_M_isFour zu_M_isFour zk_632 rfl ⟨by decide, by decide⟩ ⟨by decide, by decide⟩ rfl (Nat.le_of_ble_eq_true rfl) dM_fare_9 ?_
    refine zg_eqi (y := nI 0) (zb_f (fun q => h ⟨h1, q⟩)) ?_
    refine zg_if_neF F dM_fare_12 (tgt := 19) (by decide) (rfl) ?_
    refine zg_iconst F (v := nI 1) (by decide) dM_fare_15 ?_
    refine zg_goto F (tgt := 34) dM_fare_16 (by decide) ?_
    refine zg_callV F (zM_refused _ _ _ _ _ _ _ _ _) zv_M_refused zu_M_refused zk_635 (fun _ _ h => h.2.1.1) rfl rfl ⟨by decide, by decide⟩ ⟨by decide, by decide⟩ rfl (Nat.le_of_ble_eq_true rfl) dM_fare_34 ?_
    refine zg_eqi (zb_1 (by omega) (by omega)) ?_
    refine zg_if_neT F (tgt := 51) dM_fare_37 (by decide) (by decide) ?_
    exact zg_vret F E (Nat.zero_le _) (Nat.zero_le _) (fun _ _ h => h) dM_fare_51
  · refine zg_callS F (zM_isFour _ _ _ _ _ _) zv_M_isFour zu_M_isFour zk_632 rfl ⟨by decide, by decide⟩ ⟨by decide, by decide⟩ rfl (Nat.le_of_ble_eq_true rfl) dM_fare_2 ?_
    refine zg_eqi (y := nI 0) (zb_f (h1)) ?_
    refine zg_if_eqT F (tgt := 15) dM_fare_5 (by decide) (rfl) ?_
    refine zg_iconst F (v := nI 1) (by decide) dM_fare_15 ?_
    refine zg_goto F (tgt := 34) dM_fare_16 (by decide) ?_
    refine zg_callV F (zM_refused _ _ _ _ _ _ _ _ _) zv_M_refused zu_M_refused zk_635 (fun _ _ h => h.2.1.1) rfl rfl ⟨by decide, by decide⟩ ⟨by decide, by decide⟩ rfl (Nat.le_of_ble_eq_true rfl) dM_fare_34 ?_
    refine zg_eqi (zb_1 (by omega) (by omega)) ?_
    refine zg_if_neT F (tgt := 51) dM_fare_37 (by decide) (by decide) ?_
    exact zg_vret F E (Nat.zero_le _) (Nat.zero_le _) (fun _ _ h => h) dM_fare_51
set_option maxRecDepth 100000 in
set_option maxHeartbeats 4000000 in
theorem zM_fare (l : Launch) (D : va_G) (A : Nat → ClassId) (base : Nat) (mo sz : Nat) (w0 : zg_w) (σ : zm_S) (s leg : Nat) (f : Int32) (hs : s < 4) (hg : leg < 4) : zg_Met l zm_M_fare zc_M_fare 4 none 1 0 0 D A base [.ref mo, .int (nI s), .int (nI leg), .int f] (zm_P A mo w0 sz σ) none (zm_P A mo w0 sz (zm_fare σ s leg f)) := by
  refine zg_met (by decide) (Nat.le_of_ble_eq_true rfl) ?_
  intro K hl hD hA hz hn hnm F E
  subst hl hD hA hz
  show zg_G K (zm_P (zk_A K) mo w0 sz σ) 0 0 0 [(0, .ref mo), (1, .int (nI s)), (2, .int (nI leg)), (3, .int f)] []
  refine zg_aload_n F 0 rfl rfl dM_fare_0 ?_
  refine zg_iload_n F 1 rfl rfl dM_fare_1 ?_
  refine zg_callS F (zM_isFour _ _ _ _ _ _) zv_M_isFour zu_M_isFour zk_632 rfl ⟨by decide, by decide⟩ ⟨by decide, by decide⟩ rfl (Nat.le_of_ble_eq_true rfl) dM_fare_2 ?_
  refine zg_eqi (y := nI 1) (zb_t (zz4_of hs)) ?_
  refine zg_if_eqF F dM_fare_5 (tgt := 15) (by decide) (by decide) ?_
  refine zg_iload_n F 2 rfl rfl dM_fare_8 ?_
  refine zg_callS F (zM_isFour _ _ _ _ _ _) zv_M_isFour zu_M_isFour zk_632 rfl ⟨by decide, by decide⟩ ⟨by decide, by decide⟩ rfl (Nat.le_of_ble_eq_true rfl) dM_fare_9 ?_
  refine zg_eqi (y := nI 1) (zb_t (zz4_of hg)) ?_
  refine zg_if_neT F (tgt := 19) dM_fare_12 (by decide) (by decide) ?_
  refine zg_iload_n F 3 rfl rfl dM_fare_19 ?_
  by_cases h1 : f < 0
  · refine zg_if_ltT F (tgt := 29) dM_fare_20 (by decide) (h1) ?_
    refine zg_iconst F (v := nI 2) (by decide) dM_fare_29 ?_
    refine zg_goto F (tgt := 34) dM_fare_30 (by decide) ?_
    have hc : zc_fare f = 2 := if_pos (Or.inl h1)
    rw [zm_fare, hc] at E
    refine zg_callV F (zM_refused _ _ _ _ _ _ _ _ _) zv_M_refused zu_M_refused zk_635 (fun _ _ h => h.2.1.1) rfl rfl ⟨by decide, by decide⟩ ⟨by decide, by decide⟩ rfl (Nat.le_of_ble_eq_true rfl) dM_fare_34 ?_
    refine zg_eqi (zb_1 (by omega) (by omega)) ?_
    refine zg_if_neT F (tgt := 51) dM_fare_37 (by decide) (by decide) ?_
    exact zg_vret F E (Nat.zero_le _) (Nat.zero_le _) (fun _ _ h => h) dM_fare_51
  · refine zg_if_ltF F dM_fare_20 (tgt := 29) (by decide) (h1) ?_
    refine zg_iload_n F 3 rfl rfl dM_fare_23 ?_
    refine zg_ldcI F zk_643 dM_fare_24 ?_
    by_cases h2 : (1000000000 : Int32) < f
    · refine zg_icmp_leF F dM_fare_26 (tgt := 33) (by decide) (Int32.not_le.mpr h2) ?_
      refine zg_iconst F (v := nI 2) (by decide) dM_fare_29 ?_
      refine zg_goto F (tgt := 34) dM_fare_30 (by decide) ?_
      have hc : zc_fare f = 2 := if_pos (Or.inr h2)
      rw [zm_fare, hc] at E
      refine zg_callV F (zM_refused _ _ _ _ _ _ _ _ _) zv_M_refused zu_M_refused zk_635 (fun _ _ h => h.2.1.1) rfl rfl ⟨by decide, by decide⟩ ⟨by decide, by decide⟩ rfl (Nat.le_of_ble_eq_true rfl) dM_fare_34 ?_
      refine zg_eqi (zb_1 (by omega) (by omega)) ?_
      refine zg_if_neT F (tgt := 51) dM_fare_37 (by decide) (by decide) ?_
      exact zg_vret F E (Nat.zero_le _) (Nat.zero_le _) (fun _ _ h => h) dM_fare_51
    · refine zg_icmp_leT F (tgt := 33) dM_fare_26 (by decide) (Int32.not_lt.mp h2) ?_
      refine zg_iconst F (v := nI 0) (by decide) dM_fare_33 ?_
      have hc : zc_fare f = 0 := if_neg (fun q => q.elim h1 h2)
      rw [zm_fare, hc] at E
      refine zg_callV F (zM_refused _ _ _ _ _ _ _ _ _) zv_M_refused zu_M_refused zk_635 (fun _ _ h => h.2.1.1) rfl rfl ⟨by decide, by decide⟩ ⟨by decide, by decide⟩ rfl (Nat.le_of_ble_eq_true rfl) dM_fare_34 ?_
      refine zg_eqi zb_0 ?_
      refine zg_if_neF F dM_fare_37 (tgt := 51) (by decide) (rfl) ?_
      refine zg_aload_n F 0 rfl rfl dM_fare_40 ?_
      refine zg_get F (fun _ _ h => h.2.1.1) rfl zi_M 2 (by decide) rfl zk_540 rfl dM_fare_41 ?_
      refine zg_iconst F (v := nI 4) (by decide) dM_fare_44 ?_
      refine zg_iload_n F 1 rfl rfl dM_fare_45 ?_
      refine zg_imul F (by first | exact pk_mul _ _ | rfl) dM_fare_46 ?_
      refine zg_iload_n F 2 rfl rfl dM_fare_47 ?_
      refine zg_iadd F (by first | exact nI_add _ _ | rfl) dM_fare_48 ?_
      refine zg_iload_n F 3 rfl rfl dM_fare_49 ?_
      refine zm_iast F 1 (by decide) rfl (by show _ < 16; omega) dM_fare_50 ?_
      exact zg_vret F E (Nat.zero_le _) (Nat.zero_le _) (fun _ _ h => h) dM_fare_51
set_option maxRecDepth 100000 in
set_option maxHeartbeats 4000000 in
theorem zM_part_bad (l : Launch) (D : va_G) (A : Nat → ClassId) (base : Nat) (mo sz : Nat) (w0 : zg_w) (σ : zm_S) (s a b : Int32) (h : ¬ (zz4 s ∧ (¬ a < 0 ∧ ¬ nI 5 ≤ a) ∧ (¬ b < 0 ∧ ¬ nI 5 ≤ b))) : zg_Met l zm_M_part zc_M_part 5 (some .int) 1 0 0 D A base [.ref mo, .int s, .int a, .int b] (zm_P A mo w0 sz σ) (some (.int (nI 0))) (zm_P A mo w0 sz (zm_f σ 1)) := by
  refine zg_met (by decide) (Nat.le_of_ble_eq_true rfl) ?_
  intro K hl hD hA hz hn hnm F E
  subst hl hD hA hz
  show zg_G K (zm_P (zk_A K) mo w0 sz σ) 0 0 0 [(0, .ref mo), (1, .int s), (2, .int a), (3, .int b)] []
  refine zg_iload_n F 1 rfl rfl dM_part_0 ?_
  by_cases h1 : zz4 s
  · refine zg_callS F (zM_isFour _ _ _ _ _ _) zv_M_isFour zu_M_isFour zk_632 rfl ⟨by decide, by decide⟩ ⟨by decide, by decide⟩ rfl (Nat.le_of_ble_eq_true rfl) dM_part_1 ?_
    refine zg_eqi (y := nI 1) (zb_t (h1)) ?_
    refine zg_if_eqF F dM_part_4 (tgt := 29) (by decide) (by decide) ?_
    refine zg_iload_n F 2 rfl rfl dM_part_7 ?_
    by_cases h2 : a < 0
    · refine zg_if_ltT F (tgt := 29) dM_part_8 (by decide) (h2) ?_
      refine zg_iconst F (v := nI 0) (by decide) dM_part_29 ?_
      refine zg_istore F (by rw [hn]; decide) (L' := [(4, _), (0, _), (1, _), (2, _), (3, _)]) rfl dM_part_30 ?_
      refine zg_aload_n F 1 rfl rfl dM_part_32 ?_
      refine zg_iload F 0 rfl dM_part_33 ?_
      refine zg_if_neF F dM_part_35 (tgt := 42) (by decide) (rfl) ?_
      refine zg_iconst F (v := nI 1) (by decide) dM_part_38 ?_
      refine zg_goto F (tgt := 73) dM_part_39 (by decide) ?_
      refine zg_callV F (zM_refused _ _ _ _ _ _ _ _ _) zv_M_refused zu_M_refused zk_635 (fun _ _ h => h.2.1.1) rfl rfl ⟨by decide, by decide⟩ ⟨by decide, by decide⟩ rfl (Nat.le_of_ble_eq_true rfl) dM_part_73 ?_
      refine zg_eqi (zb_1 (by omega) (by omega)) ?_
      refine zg_if_eqF F dM_part_76 (tgt := 81) (by decide) (by decide) ?_
      refine zg_iconst F (v := nI 0) (by decide) dM_part_79 ?_
      exact zg_iret F E (Nat.zero_le _) (Nat.zero_le _) (fun _ _ h => h) dM_part_80
    · refine zg_if_ltF F dM_part_8 (tgt := 29) (by decide) (h2) ?_
      refine zg_iload_n F 2 rfl rfl dM_part_11 ?_
      refine zg_iconst F (v := nI 5) (by decide) dM_part_12 ?_
      by_cases h3 : nI 5 ≤ a
      · refine zg_icmp_geT F (tgt := 29) dM_part_13 (by decide) (h3) ?_
        refine zg_iconst F (v := nI 0) (by decide) dM_part_29 ?_
        refine zg_istore F (by rw [hn]; decide) (L' := [(4, _), (0, _), (1, _), (2, _), (3, _)]) rfl dM_part_30 ?_
        refine zg_aload_n F 1 rfl rfl dM_part_32 ?_
        refine zg_iload F 0 rfl dM_part_33 ?_
        refine zg_if_neF F dM_part_35 (tgt := 42) (by decide) (rfl) ?_
        refine zg_iconst F (v := nI 1) (by decide) dM_part_38 ?_
        refine zg_goto F (tgt := 73) dM_part_39 (by decide) ?_
        refine zg_callV F (zM_refused _ _ _ _ _ _ _ _ _) zv_M_refused zu_M_refused zk_635 (fun _ _ h => h.2.1.1) rfl rfl ⟨by decide, by decide⟩ ⟨by decide, by decide⟩ rfl (Nat.le_of_ble_eq_true rfl) dM_part_73 ?_
        refine zg_eqi (zb_1 (by omega) (by omega)) ?_
        refine zg_if_eqF F dM_part_76 (tgt := 81) (by decide) (by decide) ?_
        refine zg_iconst F (v := nI 0) (by decide) dM_part_79 ?_
        exact zg_iret F E (Nat.zero_le _) (Nat.zero_le _) (fun _ _ h => h) dM_part_80
      · refine zg_icmp_geF F dM_part_13 (tgt := 29) (by decide) (h3) ?_
        refine zg_iload_n F 3 rfl rfl dM_part_16 ?_
        by_cases h4 : b < 0
        · refine zg_if_ltT F (tgt := 29) dM_part_17 (by decide) (h4) ?_
          refine zg_iconst F (v := nI 0) (by decide) dM_part_29 ?_
          refine zg_istore F (by rw [hn]; decide) (L' := [(4, _), (0, _), (1, _), (2, _), (3, _)]) rfl dM_part_30 ?_
          refine zg_aload_n F 1 rfl rfl dM_part_32 ?_
          refine zg_iload F 0 rfl dM_part_33 ?_
          refine zg_if_neF F dM_part_35 (tgt := 42) (by decide) (rfl) ?_
          refine zg_iconst F (v := nI 1) (by decide) dM_part_38 ?_
          refine zg_goto F (tgt := 73) dM_part_39 (by decide) ?_
          refine zg_callV F (zM_refused _ _ _ _ _ _ _ _ _) zv_M_refused zu_M_refused zk_635 (fun _ _ h => h.2.1.1) rfl rfl ⟨by decide, by decide⟩ ⟨by decide, by decide⟩ rfl (Nat.le_of_ble_eq_true rfl) dM_part_73 ?_
          refine zg_eqi (zb_1 (by omega) (by omega)) ?_
          refine zg_if_eqF F dM_part_76 (tgt := 81) (by decide) (by decide) ?_
          refine zg_iconst F (v := nI 0) (by decide) dM_part_79 ?_
          exact zg_iret F E (Nat.zero_le _) (Nat.zero_le _) (fun _ _ h => h) dM_part_80
        · refine zg_if_ltF F dM_part_17 (tgt := 29) (by decide) (h4) ?_
          refine zg_iload_n F 3 rfl rfl dM_part_20 ?_
          refine zg_iconst F (v := nI 5) (by decide) dM_part_21 ?_
          have h5 : nI 5 ≤ b := Classical.byContradiction (fun q => h ⟨h1, ⟨h2, h3⟩, h4, q⟩)
          refine zg_icmp_geT F (tgt := 29) dM_part_22 (by decide) (h5) ?_
          refine zg_iconst F (v := nI 0) (by decide) dM_part_29 ?_
          refine zg_istore F (by rw [hn]; decide) (L' := [(4, _), (0, _), (1, _), (2, _), (3, _)]) rfl dM_part_30 ?_
          refine zg_aload_n F 1 rfl rfl dM_part_32 ?_
          refine zg_iload F 0 rfl dM_part_33 ?_
          refine zg_if_neF F dM_part_35 (tgt := 42) (by decide) (rfl) ?_
          refine zg_iconst F (v := nI 1) (by decide) dM_part_38 ?_
          refine zg_goto F (tgt := 73) dM_part_39 (by decide) ?_
          refine zg_callV F (zM_refused _ _ _ _ _ _ _ _ _) zv_M_refused zu_M_refused zk_635 (fun _ _ h => h.2.1.1) rfl rfl ⟨by decide, by decide⟩ ⟨by decide, by decide⟩ rfl (Nat.le_of_ble_eq_true rfl) dM_part_73 ?_
          refine zg_eqi (zb_1 (by omega) (by omega)) ?_
          refine zg_if_eqF F dM_part_76 (tgt := 81) (by decide) (by decide) ?_
          refine zg_iconst F (v := nI 0) (by decide) dM_part_79 ?_
          exact zg_iret F E (Nat.zero_le _) (Nat.zero_le _) (fun _ _ h => h) dM_part_80
  · refine zg_callS F (zM_isFour _ _ _ _ _ _) zv_M_isFour zu_M_isFour zk_632 rfl ⟨by decide, by decide⟩ ⟨by decide, by decide⟩ rfl (Nat.le_of_ble_eq_true rfl) dM_part_1 ?_
    refine zg_eqi (y := nI 0) (zb_f (h1)) ?_
    refine zg_if_eqT F (tgt := 29) dM_part_4 (by decide) (rfl) ?_
    refine zg_iconst F (v := nI 0) (by decide) dM_part_29 ?_
    refine zg_istore F (by rw [hn]; decide) (L' := [(4, _), (0, _), (1, _), (2, _), (3, _)]) rfl dM_part_30 ?_
    refine zg_aload_n F 1 rfl rfl dM_part_32 ?_
    refine zg_iload F 0 rfl dM_part_33 ?_
    refine zg_if_neF F dM_part_35 (tgt := 42) (by decide) (rfl) ?_
    refine zg_iconst F (v := nI 1) (by decide) dM_part_38 ?_
    refine zg_goto F (tgt := 73) dM_part_39 (by decide) ?_
    refine zg_callV F (zM_refused _ _ _ _ _ _ _ _ _) zv_M_refused zu_M_refused zk_635 (fun _ _ h => h.2.1.1) rfl rfl ⟨by decide, by decide⟩ ⟨by decide, by decide⟩ rfl (Nat.le_of_ble_eq_true rfl) dM_part_73 ?_
    refine zg_eqi (zb_1 (by omega) (by omega)) ?_
    refine zg_if_eqF F dM_part_76 (tgt := 81) (by decide) (by decide) ?_
    refine zg_iconst F (v := nI 0) (by decide) dM_part_79 ?_
    exact zg_iret F E (Nat.zero_le _) (Nat.zero_le _) (fun _ _ h => h) dM_part_80
set_option maxRecDepth 100000 in
set_option maxHeartbeats 4000000 in
theorem zM_part (l : Launch) (D : va_G) (A : Nat → ClassId) (base : Nat) (mo sz : Nat) (w0 : zg_w) (σ : zm_S) (s d a b : Nat) (hs : s < 4) (ha : a < 5) (hb : b < 5) (hd : d ≤ 4) (he : σ.1 25 1 = nI d) : zg_Met l zm_M_part zc_M_part 5 (some .int) 1 0 0 D A base [.ref mo, .int (nI s), .int (nI a), .int (nI b)] (zm_P A mo w0 sz σ) (some (.int (nI (zr_part σ s d a b)))) (zm_P A mo w0 sz (zm_part σ s d a b)) := by
  refine zg_met (by decide) (Nat.le_of_ble_eq_true rfl) ?_
  intro K hl hD0 hA hz hn hnm F E
  subst hl hD0 hA hz
  show zg_G K (zm_P (zk_A K) mo w0 sz σ) 0 0 0 [(0, .ref mo), (1, .int (nI s)), (2, .int (nI a)), (3, .int (nI b))] []
  refine zg_iload_n F 1 rfl rfl dM_part_0 ?_
  refine zg_callS F (zM_isFour _ _ _ _ _ _) zv_M_isFour zu_M_isFour zk_632 rfl ⟨by decide, by decide⟩ ⟨by decide, by decide⟩ rfl (Nat.le_of_ble_eq_true rfl) dM_part_1 ?_
  refine zg_eqi (y := nI 1) (zb_t (zz4_of hs)) ?_
  refine zg_if_eqF F dM_part_4 (tgt := 29) (by decide) (by decide) ?_
  refine zg_iload_n F 2 rfl rfl dM_part_7 ?_
  refine zg_if_ltF F dM_part_8 (tgt := 29) (by decide) (nI_pos (by omega)) ?_
  refine zg_iload_n F 2 rfl rfl dM_part_11 ?_
  refine zg_iconst F (v := nI 5) (by decide) dM_part_12 ?_
  refine zg_icmp_geF F dM_part_13 (tgt := 29) (by decide) (nI_ge ha (by decide)) ?_
  refine zg_iload_n F 3 rfl rfl dM_part_16 ?_
  refine zg_if_ltF F dM_part_17 (tgt := 29) (by decide) (nI_pos (by omega)) ?_
  refine zg_iload_n F 3 rfl rfl dM_part_20 ?_
  refine zg_iconst F (v := nI 5) (by decide) dM_part_21 ?_
  refine zg_icmp_geF F dM_part_22 (tgt := 29) (by decide) (nI_ge hb (by decide)) ?_
  refine zg_iconst F (v := nI 1) (by decide) dM_part_25 ?_
  refine zg_goto F (tgt := 30) dM_part_26 (by decide) ?_
  refine zg_istore F (by rw [hn]; decide) (L' := [(4, _), (0, _), (1, _), (2, _), (3, _)]) rfl dM_part_30 ?_
  refine zg_aload_n F 1 rfl rfl dM_part_32 ?_
  refine zg_iload F 0 rfl dM_part_33 ?_
  refine zg_if_neT F (tgt := 42) dM_part_35 (by decide) (by decide) ?_
  refine zg_iload_n F 3 rfl rfl dM_part_42 ?_
  refine zg_iload_n F 4 rfl rfl dM_part_43 ?_
  by_cases h1 : b ≤ a
  · refine zg_icmp_ltF F dM_part_44 (tgt := 51) (by decide) (nI_nlt h1 (by omega)) ?_
    refine zg_iconst F (v := nI 2) (by decide) dM_part_47 ?_
    refine zg_goto F (tgt := 73) dM_part_48 (by decide) ?_
    have hc : zc_part σ s d a b = 2 := if_pos h1
    rw [zm_part, zr_part, hc] at E
    refine zg_callV F (zM_refused _ _ _ _ _ _ _ _ _) zv_M_refused zu_M_refused zk_635 (fun _ _ h => h.2.1.1) rfl rfl ⟨by decide, by decide⟩ ⟨by decide, by decide⟩ rfl (Nat.le_of_ble_eq_true rfl) dM_part_73 ?_
    refine zg_eqi (zb_1 (by omega) (by omega)) ?_
    refine zg_if_eqF F dM_part_76 (tgt := 81) (by decide) (by decide) ?_
    refine zg_iconst F (v := nI 0) (by decide) dM_part_79 ?_
    exact zg_iret F E (Nat.zero_le _) (Nat.zero_le _) (fun _ _ h => h) dM_part_80
  · refine zg_icmp_ltT F (tgt := 51) dM_part_44 (by decide) (nI_lt (by omega) (by omega)) ?_
    refine zg_aload_n F 1 rfl rfl dM_part_51 ?_
    refine zg_get F (fun _ _ h => h.2.1.1) rfl zi_M 1 (by decide) rfl zk_539 rfl dM_part_52 ?_
    refine zg_iload_n F 2 rfl rfl dM_part_55 ?_
    refine zm_zald F 0 (by decide) rfl (by show _ < 4; omega) rfl dM_part_56 ?_
    by_cases h2 : σ.1 0 s = 0
    · refine zg_if_eqT F (tgt := 68) dM_part_57 (by decide) (h2) ?_
      refine zg_iconst F (v := nI 3) (by decide) dM_part_68 ?_
      refine zg_goto F (tgt := 73) dM_part_69 (by decide) ?_
      have hc : zc_part σ s d a b = 3 := by rw [zc_part, if_neg h1, if_pos (Or.inl h2)]
      rw [zm_part, zr_part, hc] at E
      refine zg_callV F (zM_refused _ _ _ _ _ _ _ _ _) zv_M_refused zu_M_refused zk_635 (fun _ _ h => h.2.1.1) rfl rfl ⟨by decide, by decide⟩ ⟨by decide, by decide⟩ rfl (Nat.le_of_ble_eq_true rfl) dM_part_73 ?_
      refine zg_eqi (zb_1 (by omega) (by omega)) ?_
      refine zg_if_eqF F dM_part_76 (tgt := 81) (by decide) (by decide) ?_
      refine zg_iconst F (v := nI 0) (by decide) dM_part_79 ?_
      exact zg_iret F E (Nat.zero_le _) (Nat.zero_le _) (fun _ _ h => h) dM_part_80
    · refine zg_if_eqF F dM_part_57 (tgt := 68) (by decide) (h2) ?_
      refine zg_aload_n F 1 rfl rfl dM_part_60 ?_
      refine zg_get F (fun _ _ h => h.2.1.1) rfl zi_M 7 (by decide) rfl zk_545 rfl dM_part_61 ?_
      refine zg_eqi (he) ?_
      refine zg_iconst F (v := nI 4) (by decide) dM_part_64 ?_
      by_cases h3 : d = 4
      · refine zg_icmp_neF F dM_part_65 (tgt := 72) (by decide) (by rw [h3]) ?_
        refine zg_iconst F (v := nI 3) (by decide) dM_part_68 ?_
        refine zg_goto F (tgt := 73) dM_part_69 (by decide) ?_
        have hc : zc_part σ s d a b = 3 := by rw [zc_part, if_neg h1, if_pos (Or.inr h3)]
        rw [zm_part, zr_part, hc] at E
        refine zg_callV F (zM_refused _ _ _ _ _ _ _ _ _) zv_M_refused zu_M_refused zk_635 (fun _ _ h => h.2.1.1) rfl rfl ⟨by decide, by decide⟩ ⟨by decide, by decide⟩ rfl (Nat.le_of_ble_eq_true rfl) dM_part_73 ?_
        refine zg_eqi (zb_1 (by omega) (by omega)) ?_
        refine zg_if_eqF F dM_part_76 (tgt := 81) (by decide) (by decide) ?_
        refine zg_iconst F (v := nI 0) (by decide) dM_part_79 ?_
        exact zg_iret F E (Nat.zero_le _) (Nat.zero_le _) (fun _ _ h => h) dM_part_80
      · refine zg_icmp_neT F (tgt := 72) dM_part_65 (by decide) (fun q => h3 ((nI_eq (by omega) (by omega)).mp q)) ?_
        refine zg_iconst F (v := nI 0) (by decide) dM_part_72 ?_
        have hc : zc_part σ s d a b = 0 := by rw [zc_part, if_neg h1, if_neg (fun q => q.elim h2 h3)]
        rw [zm_part, zr_part, hc] at E
        refine zg_callV F (zM_refused _ _ _ _ _ _ _ _ _) zv_M_refused zu_M_refused zk_635 (fun _ _ h => h.2.1.1) rfl rfl ⟨by decide, by decide⟩ ⟨by decide, by decide⟩ rfl (Nat.le_of_ble_eq_true rfl) dM_part_73 ?_
        refine zg_eqi zb_0 ?_
        refine zg_if_eqT F (tgt := 81) dM_part_76 (by decide) (rfl) ?_
        refine zg_aload_n F 1 rfl rfl dM_part_81 ?_
        refine zg_get F (fun _ _ h => h.2.1.1) rfl zi_M 4 (by decide) rfl zk_542 rfl dM_part_82 ?_
        refine zg_aload_n F 1 rfl rfl dM_part_85 ?_
        refine zg_get F (fun _ _ h => h.2.1.1) rfl zi_M 7 (by decide) rfl zk_545 rfl dM_part_86 ?_
        refine zg_eqi (he) ?_
        refine zg_iload_n F 2 rfl rfl dM_part_89 ?_
        refine zm_iast F 3 (by decide) rfl (by show _ < 420; omega) dM_part_90 ?_
        refine zg_aload_n F 1 rfl rfl dM_part_91 ?_
        refine zg_get F (fun _ _ h => h.2.1.1) rfl zi_M 5 (by decide) rfl zk_543 rfl dM_part_92 ?_
        refine zg_aload_n F 1 rfl rfl dM_part_95 ?_
        refine zg_get F (fun _ _ h => h.2.1.1) rfl zi_M 7 (by decide) rfl zk_545 rfl dM_part_96 ?_
        refine zg_eqi (he) ?_
        refine zg_iload_n F 3 rfl rfl dM_part_99 ?_
        refine zm_iast F 4 (by decide) rfl (by show _ < 420; omega) dM_part_100 ?_
        refine zg_aload_n F 1 rfl rfl dM_part_101 ?_
        refine zg_get F (fun _ _ h => h.2.1.1) rfl zi_M 6 (by decide) rfl zk_544 rfl dM_part_102 ?_
        refine zg_aload_n F 1 rfl rfl dM_part_105 ?_
        refine zg_get F (fun _ _ h => h.2.1.1) rfl zi_M 7 (by decide) rfl zk_545 rfl dM_part_106 ?_
        refine zg_eqi (he) ?_
        refine zg_iload_n F 4 rfl rfl dM_part_109 ?_
        refine zm_iast F 5 (by decide) rfl (by show _ < 420; omega) dM_part_110 ?_
        refine zg_aload_n F 1 rfl rfl dM_part_111 ?_
        refine zg_dup F rfl dM_part_112 ?_
        refine zg_get F (fun _ _ h => h.2.1.1) rfl zi_M 7 (by decide) rfl zk_545 rfl dM_part_113 ?_
        refine zg_eqi (he) ?_
        refine zg_iconst F (v := nI 1) (by decide) dM_part_116 ?_
        refine zg_iadd F (by first | exact nI_add _ _ | rfl) dM_part_117 ?_
        refine zg_put F (fun _ _ h => h.2.1.1) rfl zi_M zy_M zt_M zn_M 7 (by decide) rfl zk_545 rfl rfl rfl rfl (Nat.le_of_ble_eq_true rfl) (fun w z h => zm_P.pt (i := 1) (by decide) w z h) dM_part_118 ?_
        refine zg_aload_n F 1 rfl rfl dM_part_121 ?_
        refine zg_get F (fun _ _ h => h.2.1.1) rfl zi_M 7 (by decide) rfl zk_545 rfl dM_part_122 ?_
        refine zg_eqi (zm_set_s) ?_
        exact zg_iret F E (Nat.zero_le _) (Nat.zero_le _) (fun _ _ h => h) dM_part_125
set_option maxRecDepth 100000 in
set_option maxHeartbeats 4000000 in
theorem zM_buy_bad (l : Launch) (D : va_G) (A : Nat → ClassId) (base : Nat) (mo sz : Nat) (w0 : zg_w) (σ : zm_S) (port n : Int32) (h : ¬ zz4 port) : zg_Met l zm_M_buy zc_M_buy 4 (some .int) 1 0 0 D A base [.ref mo, .int port, .int n] (zm_P A mo w0 sz σ) (some (.int (nI 0))) (zm_P A mo w0 sz (zm_f σ 1)) := by
  refine zg_met (by decide) (Nat.le_of_ble_eq_true rfl) ?_
  intro K hl hD hA hz hn hnm F E
  subst hl hD hA hz
  show zg_G K (zm_P (zk_A K) mo w0 sz σ) 0 0 0 [(0, .ref mo), (1, .int port), (2, .int n)] []
  refine zg_aload_n F 0 rfl rfl dM_buy_0 ?_
  refine zg_iload_n F 1 rfl rfl dM_buy_1 ?_
  refine zg_callS F (zM_isFour _ _ _ _ _ _) zv_M_isFour zu_M_isFour zk_632 rfl ⟨by decide, by decide⟩ ⟨by decide, by decide⟩ rfl (Nat.le_of_ble_eq_true rfl) dM_buy_2 ?_
  refine zg_eqi (y := nI 0) (zb_f (h)) ?_
  refine zg_if_neF F dM_buy_5 (tgt := 12) (by decide) (rfl) ?_
  refine zg_iconst F (v := nI 1) (by decide) dM_buy_8 ?_
  refine zg_goto F (tgt := 48) dM_buy_9 (by decide) ?_
  refine zg_callV F (zM_refused _ _ _ _ _ _ _ _ _) zv_M_refused zu_M_refused zk_635 (fun _ _ h => h.2.1.1) rfl rfl ⟨by decide, by decide⟩ ⟨by decide, by decide⟩ rfl (Nat.le_of_ble_eq_true rfl) dM_buy_48 ?_
  refine zg_eqi (zb_1 (by omega) (by omega)) ?_
  refine zg_if_eqF F dM_buy_51 (tgt := 56) (by decide) (by decide) ?_
  refine zg_iconst F (v := nI 0) (by decide) dM_buy_54 ?_
  exact zg_iret F E (Nat.zero_le _) (Nat.zero_le _) (fun _ _ h => h) dM_buy_55
set_option maxRecDepth 100000 in
set_option maxHeartbeats 4000000 in
theorem zM_wish_bad (l : Launch) (D : va_G) (A : Nat → ClassId) (base : Nat) (mo sz : Nat) (w0 : zg_w) (σ : zm_S) (port n : Int32) (h : ¬ zz4 port) : zg_Met l zm_M_wish zc_M_wish 4 (some .int) 1 0 0 D A base [.ref mo, .int port, .int n] (zm_P A mo w0 sz σ) (some (.int (nI 0))) (zm_P A mo w0 sz (zm_f σ 1)) := by
  refine zg_met (by decide) (Nat.le_of_ble_eq_true rfl) ?_
  intro K hl hD hA hz hn hnm F E
  subst hl hD hA hz
  show zg_G K (zm_P (zk_A K) mo w0 sz σ) 0 0 0 [(0, .ref mo), (1, .int port), (2, .int n)] []
  refine zg_aload_n F 0 rfl rfl dM_wish_0 ?_
  refine zg_iload_n F 1 rfl rfl dM_wish_1 ?_
  refine zg_callS F (zM_isFour _ _ _ _ _ _) zv_M_isFour zu_M_isFour zk_632 rfl ⟨by decide, by decide⟩ ⟨by decide, by decide⟩ rfl (Nat.le_of_ble_eq_true rfl) dM_wish_2 ?_
  refine zg_eqi (y := nI 0) (zb_f (h)) ?_
  refine zg_if_neF F dM_wish_5 (tgt := 12) (by decide) (rfl) ?_
  refine zg_iconst F (v := nI 1) (by decide) dM_wish_8 ?_
  refine zg_goto F (tgt := 50) dM_wish_9 (by decide) ?_
  refine zg_callV F (zM_refused _ _ _ _ _ _ _ _ _) zv_M_refused zu_M_refused zk_635 (fun _ _ h => h.2.1.1) rfl rfl ⟨by decide, by decide⟩ ⟨by decide, by decide⟩ rfl (Nat.le_of_ble_eq_true rfl) dM_wish_50 ?_
  refine zg_eqi (zb_1 (by omega) (by omega)) ?_
  refine zg_if_eqF F dM_wish_53 (tgt := 58) (by decide) (by decide) ?_
  refine zg_iconst F (v := nI 0) (by decide) dM_wish_56 ?_
  exact zg_iret F E (Nat.zero_le _) (Nat.zero_le _) (fun _ _ h => h) dM_wish_57
set_option maxRecDepth 100000 in
set_option maxHeartbeats 4000000 in
theorem zM_buy (l : Launch) (D : va_G) (A : Nat → ClassId) (base : Nat) (mo sz : Nat) (w0 : zg_w) (σ : zm_S) (d T port : Nat) (n : Int32) (h0 : port < 4) (hd : d ≤ 4) (hT8 : T ≤ 80) (he : σ.1 25 1 = nI d) (hT : σ.1 25 2 = nI T) : zg_Met l zm_M_buy zc_M_buy 4 (some .int) 3 0 0 D A base [.ref mo, .int (nI port), .int n] (zm_P A mo w0 sz σ) (some (.int (zo_buy σ d T port n).2)) (zm_P A mo w0 sz (zo_buy σ d T port n).1) := by
  refine zg_met (by decide) (Nat.le_of_ble_eq_true rfl) ?_
  intro K hl hD0 hA hz hn hnm F E
  subst hl hD0 hA hz
  show zg_G K (zm_P (zk_A K) mo w0 sz σ) 0 0 0 [(0, .ref mo), (1, .int (nI port)), (2, .int n)] []
  refine zg_aload_n F 0 rfl rfl dM_buy_0 ?_
  refine zg_iload_n F 1 rfl rfl dM_buy_1 ?_
  refine zg_callS F (zM_isFour _ _ _ _ _ _) zv_M_isFour zu_M_isFour zk_632 rfl ⟨by decide, by decide⟩ ⟨by decide, by decide⟩ rfl (Nat.le_of_ble_eq_true rfl) dM_buy_2 ?_
  refine zg_eqi (y := nI 1) (zb_t (zz4_of h0)) ?_
  refine zg_if_neT F (tgt := 12) dM_buy_5 (by decide) (by decide) ?_
  refine zg_iload_n F 2 rfl rfl dM_buy_12 ?_
  refine zg_iconst F (v := nI 1) (by decide) dM_buy_13 ?_
  by_cases h1 : n < nI 1
  · refine zg_icmp_ltT F (tgt := 23) dM_buy_14 (by decide) (h1) ?_
    refine zg_iconst F (v := nI 2) (by decide) dM_buy_23 ?_
    refine zg_goto F (tgt := 48) dM_buy_24 (by decide) ?_
    have hc : zc_buy d T n = 2 := if_pos (Or.inl h1)
    rw [zo_buy, hc, if_neg (by decide)] at E
    refine zg_callV F (zM_refused _ _ _ _ _ _ _ _ _) zv_M_refused zu_M_refused zk_635 (fun _ _ h => h.2.1.1) rfl rfl ⟨by decide, by decide⟩ ⟨by decide, by decide⟩ rfl (Nat.le_of_ble_eq_true rfl) dM_buy_48 ?_
    refine zg_eqi (zb_1 (by omega) (by omega)) ?_
    refine zg_if_eqF F dM_buy_51 (tgt := 56) (by decide) (by decide) ?_
    refine zg_iconst F (v := nI 0) (by decide) dM_buy_54 ?_
    exact zg_iret F E (Nat.zero_le _) (Nat.zero_le _) (fun _ _ h => h) dM_buy_55
  · refine zg_icmp_ltF F dM_buy_14 (tgt := 23) (by decide) (h1) ?_
    refine zg_iload_n F 2 rfl rfl dM_buy_17 ?_
    refine zg_bipush F (v := nI 100) (by decide) dM_buy_18 ?_
    by_cases h2 : nI 100 < n
    · refine zg_icmp_leF F dM_buy_20 (tgt := 27) (by decide) (Int32.not_le.mpr h2) ?_
      refine zg_iconst F (v := nI 2) (by decide) dM_buy_23 ?_
      refine zg_goto F (tgt := 48) dM_buy_24 (by decide) ?_
      have hc : zc_buy d T n = 2 := if_pos (Or.inr h2)
      rw [zo_buy, hc, if_neg (by decide)] at E
      refine zg_callV F (zM_refused _ _ _ _ _ _ _ _ _) zv_M_refused zu_M_refused zk_635 (fun _ _ h => h.2.1.1) rfl rfl ⟨by decide, by decide⟩ ⟨by decide, by decide⟩ rfl (Nat.le_of_ble_eq_true rfl) dM_buy_48 ?_
      refine zg_eqi (zb_1 (by omega) (by omega)) ?_
      refine zg_if_eqF F dM_buy_51 (tgt := 56) (by decide) (by decide) ?_
      refine zg_iconst F (v := nI 0) (by decide) dM_buy_54 ?_
      exact zg_iret F E (Nat.zero_le _) (Nat.zero_le _) (fun _ _ h => h) dM_buy_55
    · refine zg_icmp_leT F (tgt := 27) dM_buy_20 (by decide) (Int32.not_lt.mp h2) ?_
      refine zg_aload_n F 0 rfl rfl dM_buy_27 ?_
      refine zg_get F (fun _ _ h => h.2.1.1) rfl zi_M 7 (by decide) rfl zk_545 rfl dM_buy_28 ?_
      refine zg_eqi (he) ?_
      by_cases h3 : d = 0
      · refine zg_if_eqT F (tgt := 43) dM_buy_31 (by decide) (by rw [h3]; rfl) ?_
        refine zg_iconst F (v := nI 3) (by decide) dM_buy_43 ?_
        refine zg_goto F (tgt := 48) dM_buy_44 (by decide) ?_
        have hc : zc_buy d T n = 3 := by rw [zc_buy, if_neg (fun q => q.elim h1 h2), if_pos (Or.inl h3)]
        rw [zo_buy, hc, if_neg (by decide)] at E
        refine zg_callV F (zM_refused _ _ _ _ _ _ _ _ _) zv_M_refused zu_M_refused zk_635 (fun _ _ h => h.2.1.1) rfl rfl ⟨by decide, by decide⟩ ⟨by decide, by decide⟩ rfl (Nat.le_of_ble_eq_true rfl) dM_buy_48 ?_
        refine zg_eqi (zb_1 (by omega) (by omega)) ?_
        refine zg_if_eqF F dM_buy_51 (tgt := 56) (by decide) (by decide) ?_
        refine zg_iconst F (v := nI 0) (by decide) dM_buy_54 ?_
        exact zg_iret F E (Nat.zero_le _) (Nat.zero_le _) (fun _ _ h => h) dM_buy_55
      · refine zg_if_eqF F dM_buy_31 (tgt := 43) (by decide) (nI_ne0 (by omega) (by omega)) ?_
        refine zg_aload_n F 0 rfl rfl dM_buy_34 ?_
        refine zg_get F (fun _ _ h => h.2.1.1) rfl zi_M 8 (by decide) rfl zk_546 rfl dM_buy_35 ?_
        refine zg_eqi (hT) ?_
        refine zg_bipush F (v := nI 80) (by decide) dM_buy_38 ?_
        by_cases h4 : T = 80
        · refine zg_icmp_neF F dM_buy_40 (tgt := 47) (by decide) (by rw [h4]) ?_
          refine zg_iconst F (v := nI 3) (by decide) dM_buy_43 ?_
          refine zg_goto F (tgt := 48) dM_buy_44 (by decide) ?_
          have hc : zc_buy d T n = 3 := by rw [zc_buy, if_neg (fun q => q.elim h1 h2), if_pos (Or.inr h4)]
          rw [zo_buy, hc, if_neg (by decide)] at E
          refine zg_callV F (zM_refused _ _ _ _ _ _ _ _ _) zv_M_refused zu_M_refused zk_635 (fun _ _ h => h.2.1.1) rfl rfl ⟨by decide, by decide⟩ ⟨by decide, by decide⟩ rfl (Nat.le_of_ble_eq_true rfl) dM_buy_48 ?_
          refine zg_eqi (zb_1 (by omega) (by omega)) ?_
          refine zg_if_eqF F dM_buy_51 (tgt := 56) (by decide) (by decide) ?_
          refine zg_iconst F (v := nI 0) (by decide) dM_buy_54 ?_
          exact zg_iret F E (Nat.zero_le _) (Nat.zero_le _) (fun _ _ h => h) dM_buy_55
        · refine zg_icmp_neT F (tgt := 47) dM_buy_40 (by decide) (fun q => h4 ((nI_eq (by omega) (by omega)).mp q)) ?_
          refine zg_iconst F (v := nI 0) (by decide) dM_buy_47 ?_
          have hc : zc_buy d T n = 0 := by rw [zc_buy, if_neg (fun q => q.elim h1 h2), if_neg (fun q => q.elim h3 h4)]
          rw [zo_buy, hc, if_pos rfl] at E
          refine zg_callV F (zM_refused _ _ _ _ _ _ _ _ _) zv_M_refused zu_M_refused zk_635 (fun _ _ h => h.2.1.1) rfl rfl ⟨by decide, by decide⟩ ⟨by decide, by decide⟩ rfl (Nat.le_of_ble_eq_true rfl) dM_buy_48 ?_
          refine zg_eqi zb_0 ?_
          refine zg_if_eqT F (tgt := 56) dM_buy_51 (by decide) (rfl) ?_
          refine zg_aload_n F 0 rfl rfl dM_buy_56 ?_
          refine zg_get F (fun _ _ h => h.2.1.1) rfl zi_M 7 (by decide) rfl zk_545 rfl dM_buy_57 ?_
          refine zg_eqi (he) ?_
          refine zg_istore_n F rfl (by rw [hn]; decide) (L' := [(3, _), (0, _), (1, _), (2, _)]) rfl dM_buy_60 ?_
          refine zg_aload_n F 1 rfl rfl dM_buy_61 ?_
          refine zg_iconst F (v := nI 0) (by decide) dM_buy_62 ?_
          refine zg_put F (fun _ _ h => h.2.1.1) rfl zi_M zy_M zt_M zn_M 7 (by decide) rfl zk_545 rfl rfl rfl rfl (Nat.le_of_ble_eq_true rfl) (fun w z h => zm_P.pt (i := 1) (by decide) w z h) dM_buy_63 ?_
          refine zg_aload_n F 1 rfl rfl dM_buy_66 ?_
          refine zg_iload_n F 2 rfl rfl dM_buy_67 ?_
          refine zg_iconst F (v := nI 0) (by decide) dM_buy_68 ?_
          refine zg_iload_n F 0 rfl rfl dM_buy_69 ?_
          refine zg_iload_n F 3 rfl rfl dM_buy_70 ?_
          refine zg_callV F (zM_fits _ _ _ _ _ _ _ _ port 0 d n h0 (by omega)) zv_M_fits zu_M_fits zk_652 (fun _ _ h => h.2.1.1) rfl rfl ⟨by decide, by decide⟩ ⟨by decide, by decide⟩ rfl (Nat.le_of_ble_eq_true rfl) dM_buy_71 ?_
          by_cases h5 : zm_fits (zm_set (zm_f σ 0) 25 1 (nI 0)) port 0 d n 16 = 0
          · rw [if_pos h5] at E
            refine zg_if_eqT F (tgt := 88) dM_buy_74 (by decide) (h5) ?_
            refine zg_iconst F (v := -1) (by decide) dM_buy_88 ?_
            exact zg_iret F E (Nat.zero_le _) (Nat.zero_le _) (fun _ _ h => h) dM_buy_89
          · rw [if_neg h5] at E
            refine zg_if_eqF F dM_buy_74 (tgt := 88) (by decide) (h5) ?_
            refine zg_aload_n F 1 rfl rfl dM_buy_77 ?_
            refine zg_iload_n F 2 rfl rfl dM_buy_78 ?_
            refine zg_iconst F (v := nI 0) (by decide) dM_buy_79 ?_
            refine zg_iload_n F 0 rfl rfl dM_buy_80 ?_
            refine zg_iload_n F 3 rfl rfl dM_buy_81 ?_
            refine zg_callV F (zM_sell _ _ _ _ _ _ _ _ T port 0 d n h0 (by omega) (by omega) hd hT) zv_M_sell zu_M_sell zk_660 (fun _ _ h => h.2.1.1) rfl rfl ⟨by decide, by decide⟩ ⟨by decide, by decide⟩ rfl (Nat.le_of_ble_eq_true rfl) dM_buy_82 ?_
            refine zg_goto F (tgt := 89) dM_buy_85 (by decide) ?_
            exact zg_iret F E (Nat.zero_le _) (Nat.zero_le _) (fun _ _ h => h) dM_buy_89
set_option maxRecDepth 100000 in
set_option maxHeartbeats 4000000 in
theorem zM_wish (l : Launch) (D : va_G) (A : Nat → ClassId) (base : Nat) (mo sz : Nat) (w0 : zg_w) (σ : zm_S) (d T port had : Nat) (n : Int32) (h0 : port < 4) (hd : d ≤ 4) (hh : had ≤ 6) (hT8 : T ≤ 80) (he : σ.1 25 1 = nI d) (hT : σ.1 25 2 = nI T) (hw : σ.1 12 port = nI had) (hp : ∀ k, k < had → ∃ p, p ≤ 4 ∧ σ.1 14 (6 * port + k) = nI p) : zg_Met l zm_M_wish zc_M_wish 4 (some .int) 4 0 0 D A base [.ref mo, .int (nI port), .int n] (zm_P A mo w0 sz σ) (some (.int (zo_wish σ d T port had n).2)) (zm_P A mo w0 sz (zo_wish σ d T port had n).1) := by
  refine zg_met (by decide) (Nat.le_of_ble_eq_true rfl) ?_
  intro K hl hD0 hA hz hn hnm F E
  subst hl hD0 hA hz
  show zg_G K (zm_P (zk_A K) mo w0 sz σ) 0 0 0 [(0, .ref mo), (1, .int (nI port)), (2, .int n)] []
  refine zg_aload_n F 0 rfl rfl dM_wish_0 ?_
  refine zg_iload_n F 1 rfl rfl dM_wish_1 ?_
  refine zg_callS F (zM_isFour _ _ _ _ _ _) zv_M_isFour zu_M_isFour zk_632 rfl ⟨by decide, by decide⟩ ⟨by decide, by decide⟩ rfl (Nat.le_of_ble_eq_true rfl) dM_wish_2 ?_
  refine zg_eqi (y := nI 1) (zb_t (zz4_of h0)) ?_
  refine zg_if_neT F (tgt := 12) dM_wish_5 (by decide) (by decide) ?_
  refine zg_iload_n F 2 rfl rfl dM_wish_12 ?_
  refine zg_iconst F (v := nI 1) (by decide) dM_wish_13 ?_
  by_cases h1 : n < nI 1
  · refine zg_icmp_ltT F (tgt := 23) dM_wish_14 (by decide) (h1) ?_
    refine zg_iconst F (v := nI 2) (by decide) dM_wish_23 ?_
    refine zg_goto F (tgt := 50) dM_wish_24 (by decide) ?_
    have hc : zc_wish d had n = 2 := if_pos (Or.inl h1)
    rw [zo_wish, hc, if_neg (by decide)] at E
    refine zg_callV F (zM_refused _ _ _ _ _ _ _ _ _) zv_M_refused zu_M_refused zk_635 (fun _ _ h => h.2.1.1) rfl rfl ⟨by decide, by decide⟩ ⟨by decide, by decide⟩ rfl (Nat.le_of_ble_eq_true rfl) dM_wish_50 ?_
    refine zg_eqi (zb_1 (by omega) (by omega)) ?_
    refine zg_if_eqF F dM_wish_53 (tgt := 58) (by decide) (by decide) ?_
    refine zg_iconst F (v := nI 0) (by decide) dM_wish_56 ?_
    exact zg_iret F E (Nat.zero_le _) (Nat.zero_le _) (fun _ _ h => h) dM_wish_57
  · refine zg_icmp_ltF F dM_wish_14 (tgt := 23) (by decide) (h1) ?_
    refine zg_iload_n F 2 rfl rfl dM_wish_17 ?_
    refine zg_bipush F (v := nI 100) (by decide) dM_wish_18 ?_
    by_cases h2 : nI 100 < n
    · refine zg_icmp_leF F dM_wish_20 (tgt := 27) (by decide) (Int32.not_le.mpr h2) ?_
      refine zg_iconst F (v := nI 2) (by decide) dM_wish_23 ?_
      refine zg_goto F (tgt := 50) dM_wish_24 (by decide) ?_
      have hc : zc_wish d had n = 2 := if_pos (Or.inr h2)
      rw [zo_wish, hc, if_neg (by decide)] at E
      refine zg_callV F (zM_refused _ _ _ _ _ _ _ _ _) zv_M_refused zu_M_refused zk_635 (fun _ _ h => h.2.1.1) rfl rfl ⟨by decide, by decide⟩ ⟨by decide, by decide⟩ rfl (Nat.le_of_ble_eq_true rfl) dM_wish_50 ?_
      refine zg_eqi (zb_1 (by omega) (by omega)) ?_
      refine zg_if_eqF F dM_wish_53 (tgt := 58) (by decide) (by decide) ?_
      refine zg_iconst F (v := nI 0) (by decide) dM_wish_56 ?_
      exact zg_iret F E (Nat.zero_le _) (Nat.zero_le _) (fun _ _ h => h) dM_wish_57
    · refine zg_icmp_leT F (tgt := 27) dM_wish_20 (by decide) (Int32.not_lt.mp h2) ?_
      refine zg_aload_n F 0 rfl rfl dM_wish_27 ?_
      refine zg_get F (fun _ _ h => h.2.1.1) rfl zi_M 7 (by decide) rfl zk_545 rfl dM_wish_28 ?_
      refine zg_eqi (he) ?_
      by_cases h3 : d = 0
      · refine zg_if_eqT F (tgt := 45) dM_wish_31 (by decide) (by rw [h3]; rfl) ?_
        refine zg_iconst F (v := nI 3) (by decide) dM_wish_45 ?_
        refine zg_goto F (tgt := 50) dM_wish_46 (by decide) ?_
        have hc : zc_wish d had n = 3 := by rw [zc_wish, if_neg (fun q => q.elim h1 h2), if_pos (Or.inl h3)]
        rw [zo_wish, hc, if_neg (by decide)] at E
        refine zg_callV F (zM_refused _ _ _ _ _ _ _ _ _) zv_M_refused zu_M_refused zk_635 (fun _ _ h => h.2.1.1) rfl rfl ⟨by decide, by decide⟩ ⟨by decide, by decide⟩ rfl (Nat.le_of_ble_eq_true rfl) dM_wish_50 ?_
        refine zg_eqi (zb_1 (by omega) (by omega)) ?_
        refine zg_if_eqF F dM_wish_53 (tgt := 58) (by decide) (by decide) ?_
        refine zg_iconst F (v := nI 0) (by decide) dM_wish_56 ?_
        exact zg_iret F E (Nat.zero_le _) (Nat.zero_le _) (fun _ _ h => h) dM_wish_57
      · refine zg_if_eqF F dM_wish_31 (tgt := 45) (by decide) (nI_ne0 (by omega) (by omega)) ?_
        refine zg_aload_n F 0 rfl rfl dM_wish_34 ?_
        refine zg_get F (fun _ _ h => h.2.1.1) rfl zi_M 15 (by decide) rfl zk_553 rfl dM_wish_35 ?_
        refine zg_iload_n F 1 rfl rfl dM_wish_38 ?_
        refine zm_iald F 12 (by decide) rfl (by show _ < 4; omega) rfl dM_wish_39 ?_
        refine zg_eqi (hw) ?_
        refine zg_bipush F (v := nI 6) (by decide) dM_wish_40 ?_
        by_cases h4 : had = 6
        · refine zg_icmp_neF F dM_wish_42 (tgt := 49) (by decide) (by rw [h4]) ?_
          refine zg_iconst F (v := nI 3) (by decide) dM_wish_45 ?_
          refine zg_goto F (tgt := 50) dM_wish_46 (by decide) ?_
          have hc : zc_wish d had n = 3 := by rw [zc_wish, if_neg (fun q => q.elim h1 h2), if_pos (Or.inr h4)]
          rw [zo_wish, hc, if_neg (by decide)] at E
          refine zg_callV F (zM_refused _ _ _ _ _ _ _ _ _) zv_M_refused zu_M_refused zk_635 (fun _ _ h => h.2.1.1) rfl rfl ⟨by decide, by decide⟩ ⟨by decide, by decide⟩ rfl (Nat.le_of_ble_eq_true rfl) dM_wish_50 ?_
          refine zg_eqi (zb_1 (by omega) (by omega)) ?_
          refine zg_if_eqF F dM_wish_53 (tgt := 58) (by decide) (by decide) ?_
          refine zg_iconst F (v := nI 0) (by decide) dM_wish_56 ?_
          exact zg_iret F E (Nat.zero_le _) (Nat.zero_le _) (fun _ _ h => h) dM_wish_57
        · refine zg_icmp_neT F (tgt := 49) dM_wish_42 (by decide) (fun q => h4 ((nI_eq (by omega) (by omega)).mp q)) ?_
          refine zg_iconst F (v := nI 0) (by decide) dM_wish_49 ?_
          have hc : zc_wish d had n = 0 := by rw [zc_wish, if_neg (fun q => q.elim h1 h2), if_neg (fun q => q.elim h3 h4)]
          rw [zo_wish, hc, if_pos rfl] at E
          refine zg_callV F (zM_refused _ _ _ _ _ _ _ _ _) zv_M_refused zu_M_refused zk_635 (fun _ _ h => h.2.1.1) rfl rfl ⟨by decide, by decide⟩ ⟨by decide, by decide⟩ rfl (Nat.le_of_ble_eq_true rfl) dM_wish_50 ?_
          refine zg_eqi zb_0 ?_
          refine zg_if_eqT F (tgt := 58) dM_wish_53 (by decide) (rfl) ?_
          have hc1 : (zm_copy (zm_f σ 0) (324 + 4 * (6 * port + had)) 0 d).1 25 1 = nI d := by rw [zm_copy_o (by decide)]; exact he
          have hc2 : (zm_copy (zm_f σ 0) (324 + 4 * (6 * port + had)) 0 d).1 12 port = nI had := by rw [zm_copy_o (by decide)]; exact hw
          refine zg_bipush F (v := nI 6) (by decide) dM_wish_58 ?_
          refine zg_iload_n F 1 rfl rfl dM_wish_60 ?_
          refine zg_imul F (by first | exact pk_mul _ _ | rfl) dM_wish_61 ?_
          refine zg_aload_n F 0 rfl rfl dM_wish_62 ?_
          refine zg_get F (fun _ _ h => h.2.1.1) rfl zi_M 15 (by decide) rfl zk_553 rfl dM_wish_63 ?_
          refine zg_iload_n F 1 rfl rfl dM_wish_66 ?_
          refine zm_iald F 12 (by decide) rfl (by show _ < 4; omega) rfl dM_wish_67 ?_
          refine zg_eqi (hw) ?_
          refine zg_iadd F (by first | exact nI_add _ _ | rfl) dM_wish_68 ?_
          refine zg_istore_n F rfl (by rw [hn]; decide) (L' := [(3, _), (0, _), (1, _), (2, _)]) rfl dM_wish_69 ?_
          refine zg_aload_n F 1 rfl rfl dM_wish_70 ?_
          refine zg_sipush F (v := nI 324) (by decide) dM_wish_71 ?_
          refine zg_iconst F (v := nI 4) (by decide) dM_wish_74 ?_
          refine zg_iload_n F 0 rfl rfl dM_wish_75 ?_
          refine zg_imul F (by first | exact pk_mul _ _ | rfl) dM_wish_76 ?_
          refine zg_iadd F (by first | exact nI_add _ _ | rfl) dM_wish_77 ?_
          refine zg_iconst F (v := nI 0) (by decide) dM_wish_78 ?_
          refine zg_aload_n F 1 rfl rfl dM_wish_79 ?_
          refine zg_get F (fun _ _ h => h.2.1.1) rfl zi_M 7 (by decide) rfl zk_545 rfl dM_wish_80 ?_
          refine zg_eqi (he) ?_
          refine zg_callV F (zM_copy _ _ _ _ _ _ _ _ (324 + 4 * (6 * port + had)) 0 d (by omega) (by omega)) zv_M_copy zu_M_copy zk_668 (fun _ _ h => h.2.1.1) rfl rfl ⟨by decide, by decide⟩ ⟨by decide, by decide⟩ rfl (Nat.le_of_ble_eq_true rfl) dM_wish_83 ?_
          refine zg_aload_n F 1 rfl rfl dM_wish_86 ?_
          refine zg_get F (fun _ _ h => h.2.1.1) rfl zi_M 16 (by decide) rfl zk_554 rfl dM_wish_87 ?_
          refine zg_iload_n F 0 rfl rfl dM_wish_90 ?_
          refine zg_iload_n F 3 rfl rfl dM_wish_91 ?_
          refine zm_iast F 13 (by decide) rfl (by show _ < 24; omega) dM_wish_92 ?_
          refine zg_aload_n F 1 rfl rfl dM_wish_93 ?_
          refine zg_get F (fun _ _ h => h.2.1.1) rfl zi_M 17 (by decide) rfl zk_555 rfl dM_wish_94 ?_
          refine zg_iload_n F 0 rfl rfl dM_wish_97 ?_
          refine zg_aload_n F 1 rfl rfl dM_wish_98 ?_
          refine zg_get F (fun _ _ h => h.2.1.1) rfl zi_M 7 (by decide) rfl zk_545 rfl dM_wish_99 ?_
          refine zg_eqi (hc1) ?_
          refine zm_iast F 14 (by decide) rfl (by show _ < 24; omega) dM_wish_102 ?_
          refine zg_aload_n F 1 rfl rfl dM_wish_103 ?_
          refine zg_get F (fun _ _ h => h.2.1.1) rfl zi_M 15 (by decide) rfl zk_553 rfl dM_wish_104 ?_
          refine zg_iload_n F 2 rfl rfl dM_wish_107 ?_
          refine zg_dup2 F rfl rfl dM_wish_108 ?_
          refine zm_iald F 12 (by decide) rfl (by show _ < 4; omega) rfl dM_wish_109 ?_
          refine zg_eqi (hc2) ?_
          refine zg_iconst F (v := nI 1) (by decide) dM_wish_110 ?_
          refine zg_iadd F (by first | exact nI_add _ _ | rfl) dM_wish_111 ?_
          refine zm_iast F 12 (by decide) rfl (by show _ < 4; omega) dM_wish_112 ?_
          refine zg_aload_n F 1 rfl rfl dM_wish_113 ?_
          refine zg_iconst F (v := nI 0) (by decide) dM_wish_114 ?_
          refine zg_put F (fun _ _ h => h.2.1.1) rfl zi_M zy_M zt_M zn_M 7 (by decide) rfl zk_545 rfl rfl rfl rfl (Nat.le_of_ble_eq_true rfl) (fun w z h => zm_P.pt (i := 1) (by decide) w z h) dM_wish_115 ?_
          refine zg_aload_n F 1 rfl rfl dM_wish_118 ?_
          refine zg_iload_n F 2 rfl rfl dM_wish_119 ?_
          have s1 : (zm_wsh σ d port had n).1 12 port = nI (had + 1) := by unfold zm_wsh; rw [zm_set_o (by decide), zm_set_s]
          have s2 : (zm_wsh σ d port had n).1 25 2 = nI T := by unfold zm_wsh; rw [zm_set_n (by decide), zm_set_o (by decide), zm_set_o (by decide), zm_set_o (by decide), zm_copy_o (by decide)]; exact hT
          have s3 : ∀ k, k < had + 1 → ∃ p, p ≤ 4 ∧ (zm_wsh σ d port had n).1 14 (6 * port + k) = nI p := by
            intro k hk
            unfold zm_wsh
            rw [zm_set_o (by decide), zm_set_o (by decide)]
            by_cases hkh : k = had
            · subst hkh
              exact ⟨d, hd, zm_set_s⟩
            · rw [zm_set_n (by omega), zm_set_o (by decide), zm_copy_o (by decide)]
              exact hp k (by omega)
          refine zg_callV F (zM_serve _ _ _ _ _ _ _ (zm_wsh σ d port had n) T port (had + 1) h0 (by omega) hT8 s1 s2 s3) zv_M_serve zu_M_serve zk_676 (fun _ _ h => h.2.1.1) rfl rfl ⟨by decide, by decide⟩ ⟨by decide, by decide⟩ rfl (Nat.le_of_ble_eq_true rfl) dM_wish_120 ?_
          exact zg_iret F E (Nat.zero_le _) (Nat.zero_le _) (fun _ _ h => h) dM_wish_123
end
section
set_option maxRecDepth 100000 in
set_option maxHeartbeats 4000000 in
theorem zM_cancel_bad (l : Launch) (D : va_G) (A : Nat → ClassId) (base : Nat) (mo sz : Nat) (w0 : zg_w) (σ : zm_S) (t : Int32) (h : ¬ (¬ t < 0 ∧ ¬ σ.1 25 2 ≤ t)) : zg_Met l zm_M_cancel zc_M_cancel 2 (some .int) 1 0 0 D A base [.ref mo, .int t] (zm_P A mo w0 sz σ) (some (.int (nI 0))) (zm_P A mo w0 sz (zm_f σ 1)) := by
  refine zg_met (by decide) (Nat.le_of_ble_eq_true rfl) ?_
  intro K hl hD hA hz hn hnm F E
  subst hl hD hA hz
  show zg_G K (zm_P (zk_A K) mo w0 sz σ) 0 0 0 [(0, .ref mo), (1, .int t)] []
  refine zg_aload_n F 0 rfl rfl dM_cancel_0 ?_
  refine zg_aload_n F 0 rfl rfl dM_cancel_1 ?_
  refine zg_iload_n F 1 rfl rfl dM_cancel_2 ?_
  refine zg_callV F (zM_isTicket _ _ _ _ _ _ _ _ _) zv_M_isTicket zu_M_isTicket zk_684 (fun _ _ h => h.2.1.1) rfl rfl ⟨by decide, by decide⟩ ⟨by decide, by decide⟩ rfl (Nat.le_of_ble_eq_true rfl) dM_cancel_3 ?_
  refine zg_eqi (y := nI 0) (zb_f (h)) ?_
  refine zg_if_neF F dM_cancel_6 (tgt := 13) (by decide) (rfl) ?_
  refine zg_iconst F (v := nI 1) (by decide) dM_cancel_9 ?_
  refine zg_goto F (tgt := 27) dM_cancel_10 (by decide) ?_
  refine zg_callV F (zM_refused _ _ _ _ _ _ _ _ _) zv_M_refused zu_M_refused zk_635 (fun _ _ h => h.2.1.1) rfl rfl ⟨by decide, by decide⟩ ⟨by decide, by decide⟩ rfl (Nat.le_of_ble_eq_true rfl) dM_cancel_27 ?_
  refine zg_eqi (zb_1 (by omega) (by omega)) ?_
  refine zg_if_eqF F dM_cancel_30 (tgt := 35) (by decide) (by decide) ?_
  refine zg_iconst F (v := nI 0) (by decide) dM_cancel_33 ?_
  exact zg_iret F E (Nat.zero_le _) (Nat.zero_le _) (fun _ _ h => h) dM_cancel_34
set_option maxRecDepth 100000 in
set_option maxHeartbeats 4000000 in
theorem zM_ticket_bad (l : Launch) (D : va_G) (A : Nat → ClassId) (base : Nat) (mo sz : Nat) (w0 : zg_w) (σ : zm_S) (t what : Int32) (h : ¬ (¬ t < 0 ∧ ¬ σ.1 25 2 ≤ t)) : zg_Met l zm_M_ticket zc_M_ticket 3 (some .int) 1 0 0 D A base [.ref mo, .int t, .int what] (zm_P A mo w0 sz σ) (some (.int (nI 0))) (zm_P A mo w0 sz (zm_f σ 1)) := by
  refine zg_met (by decide) (Nat.le_of_ble_eq_true rfl) ?_
  intro K hl hD hA hz hn hnm F E
  subst hl hD hA hz
  show zg_G K (zm_P (zk_A K) mo w0 sz σ) 0 0 0 [(0, .ref mo), (1, .int t), (2, .int what)] []
  refine zg_aload_n F 0 rfl rfl dM_ticket_0 ?_
  refine zg_aload_n F 0 rfl rfl dM_ticket_1 ?_
  refine zg_iload_n F 1 rfl rfl dM_ticket_2 ?_
  refine zg_callV F (zM_isTicket _ _ _ _ _ _ _ _ _) zv_M_isTicket zu_M_isTicket zk_684 (fun _ _ h => h.2.1.1) rfl rfl ⟨by decide, by decide⟩ ⟨by decide, by decide⟩ rfl (Nat.le_of_ble_eq_true rfl) dM_ticket_3 ?_
  refine zg_eqi (y := nI 0) (zb_f (h)) ?_
  refine zg_if_neF F dM_ticket_6 (tgt := 13) (by decide) (rfl) ?_
  refine zg_iconst F (v := nI 1) (by decide) dM_ticket_9 ?_
  refine zg_goto F (tgt := 27) dM_ticket_10 (by decide) ?_
  refine zg_callV F (zM_refused _ _ _ _ _ _ _ _ _) zv_M_refused zu_M_refused zk_635 (fun _ _ h => h.2.1.1) rfl rfl ⟨by decide, by decide⟩ ⟨by decide, by decide⟩ rfl (Nat.le_of_ble_eq_true rfl) dM_ticket_27 ?_
  refine zg_eqi (zb_1 (by omega) (by omega)) ?_
  refine zg_if_eqF F dM_ticket_30 (tgt := 35) (by decide) (by decide) ?_
  refine zg_iconst F (v := nI 0) (by decide) dM_ticket_33 ?_
  exact zg_iret F E (Nat.zero_le _) (Nat.zero_le _) (fun _ _ h => h) dM_ticket_34
set_option maxRecDepth 100000 in
set_option maxHeartbeats 4000000 in
theorem zM_price_bad (l : Launch) (D : va_G) (A : Nat → ClassId) (base : Nat) (mo sz : Nat) (w0 : zg_w) (σ : zm_S) (t : Int32) (h : ¬ (¬ t < 0 ∧ ¬ σ.1 25 2 ≤ t)) : zg_Met l zm_M_price zc_M_price 2 (some .long) 1 0 0 D A base [.ref mo, .int t] (zm_P A mo w0 sz σ) (some (.long 0)) (zm_P A mo w0 sz (zm_f σ 1)) := by
  refine zg_met (by decide) (Nat.le_of_ble_eq_true rfl) ?_
  intro K hl hD hA hz hn hnm F E
  subst hl hD hA hz
  show zg_G K (zm_P (zk_A K) mo w0 sz σ) 0 0 0 [(0, .ref mo), (1, .int t)] []
  refine zg_aload_n F 0 rfl rfl dM_price_0 ?_
  refine zg_aload_n F 0 rfl rfl dM_price_1 ?_
  refine zg_iload_n F 1 rfl rfl dM_price_2 ?_
  refine zg_callV F (zM_isTicket _ _ _ _ _ _ _ _ _) zv_M_isTicket zu_M_isTicket zk_684 (fun _ _ h => h.2.1.1) rfl rfl ⟨by decide, by decide⟩ ⟨by decide, by decide⟩ rfl (Nat.le_of_ble_eq_true rfl) dM_price_3 ?_
  refine zg_eqi (y := nI 0) (zb_f (h)) ?_
  refine zg_if_eqT F (tgt := 13) dM_price_6 (by decide) (rfl) ?_
  refine zg_iconst F (v := nI 1) (by decide) dM_price_13 ?_
  refine zg_callV F (zM_refused _ _ _ _ _ _ _ _ _) zv_M_refused zu_M_refused zk_635 (fun _ _ h => h.2.1.1) rfl rfl ⟨by decide, by decide⟩ ⟨by decide, by decide⟩ rfl (Nat.le_of_ble_eq_true rfl) dM_price_14 ?_
  refine zg_eqi (zb_1 (by omega) (by omega)) ?_
  refine zg_if_eqF F dM_price_17 (tgt := 24) (by decide) (by decide) ?_
  refine zg_lconst F (v := 0) rfl dM_price_20 ?_
  refine zg_goto F (tgt := 30) dM_price_21 (by decide) ?_
  exact zg_lret F E (Nat.zero_le _) (Nat.zero_le _) (fun _ _ h => h) dM_price_30
set_option maxRecDepth 100000 in
set_option maxHeartbeats 4000000 in
theorem zM_price (l : Launch) (D : va_G) (A : Nat → ClassId) (base : Nat) (mo sz : Nat) (w0 : zg_w) (σ : zm_S) (t T : Nat) (ht : t < T) (hT8 : T ≤ 80) (hT : σ.1 25 2 = nI T) : zg_Met l zm_M_price zc_M_price 2 (some .long) 1 0 0 D A base [.ref mo, .int (nI t)] (zm_P A mo w0 sz σ) (some (.long (σ.2 9 t))) (zm_P A mo w0 sz (zm_f σ 0)) := by
  refine zg_met (by decide) (Nat.le_of_ble_eq_true rfl) ?_
  intro K hl hD hA hz hn hnm F E
  subst hl hD hA hz
  show zg_G K (zm_P (zk_A K) mo w0 sz σ) 0 0 0 [(0, .ref mo), (1, .int (nI t))] []
  refine zg_aload_n F 0 rfl rfl dM_price_0 ?_
  refine zg_aload_n F 0 rfl rfl dM_price_1 ?_
  refine zg_iload_n F 1 rfl rfl dM_price_2 ?_
  refine zg_callV F (zM_isTicket _ _ _ _ _ _ _ _ _) zv_M_isTicket zu_M_isTicket zk_684 (fun _ _ h => h.2.1.1) rfl rfl ⟨by decide, by decide⟩ ⟨by decide, by decide⟩ rfl (Nat.le_of_ble_eq_true rfl) dM_price_3 ?_
  refine zg_eqi (y := nI 1) (zb_t (by rw [hT]; exact ⟨nI_pos (by omega), nI_ge ht (by omega)⟩)) ?_
  refine zg_if_eqF F dM_price_6 (tgt := 13) (by decide) (by decide) ?_
  refine zg_iconst F (v := nI 0) (by decide) dM_price_9 ?_
  refine zg_goto F (tgt := 14) dM_price_10 (by decide) ?_
  refine zg_callV F (zM_refused _ _ _ _ _ _ _ _ _) zv_M_refused zu_M_refused zk_635 (fun _ _ h => h.2.1.1) rfl rfl ⟨by decide, by decide⟩ ⟨by decide, by decide⟩ rfl (Nat.le_of_ble_eq_true rfl) dM_price_14 ?_
  refine zg_eqi zb_0 ?_
  refine zg_if_eqT F (tgt := 24) dM_price_17 (by decide) (rfl) ?_
  refine zg_aload_n F 0 rfl rfl dM_price_24 ?_
  refine zg_get F (fun _ _ h => h.2.1.1) rfl zi_M 12 (by decide) rfl zk_550 rfl dM_price_25 ?_
  refine zg_iload_n F 1 rfl rfl dM_price_28 ?_
  refine zm_lald F 9 (by decide) rfl (by show _ < 80; omega) rfl dM_price_29 ?_
  exact zg_lret F E (Nat.zero_le _) (Nat.zero_le _) (fun _ _ h => h) dM_price_30
set_option maxRecDepth 100000 in
set_option maxHeartbeats 4000000 in
theorem zM_ticket (l : Launch) (D : va_G) (A : Nat → ClassId) (base : Nat) (mo sz : Nat) (w0 : zg_w) (σ : zm_S) (t T : Nat) (what : Int32) (ht : t < T) (hT8 : T ≤ 80) (hT : σ.1 25 2 = nI T) : zg_Met l zm_M_ticket zc_M_ticket 3 (some .int) 1 0 0 D A base [.ref mo, .int (nI t), .int what] (zm_P A mo w0 sz σ) (some (.int (zr_ticket σ t what))) (zm_P A mo w0 sz (zm_f σ (zc_ticket what))) := by
  refine zg_met (by decide) (Nat.le_of_ble_eq_true rfl) ?_
  intro K hl hD hA hz hn hnm F E
  subst hl hD hA hz
  show zg_G K (zm_P (zk_A K) mo w0 sz σ) 0 0 0 [(0, .ref mo), (1, .int (nI t)), (2, .int what)] []
  refine zg_aload_n F 0 rfl rfl dM_ticket_0 ?_
  refine zg_aload_n F 0 rfl rfl dM_ticket_1 ?_
  refine zg_iload_n F 1 rfl rfl dM_ticket_2 ?_
  refine zg_callV F (zM_isTicket _ _ _ _ _ _ _ _ _) zv_M_isTicket zu_M_isTicket zk_684 (fun _ _ h => h.2.1.1) rfl rfl ⟨by decide, by decide⟩ ⟨by decide, by decide⟩ rfl (Nat.le_of_ble_eq_true rfl) dM_ticket_3 ?_
  refine zg_eqi (y := nI 1) (zb_t (by rw [hT]; exact ⟨nI_pos (by omega), nI_ge ht (by omega)⟩)) ?_
  refine zg_if_neT F (tgt := 13) dM_ticket_6 (by decide) (by decide) ?_
  refine zg_iload_n F 2 rfl rfl dM_ticket_13 ?_
  by_cases h1 : what < 0
  · refine zg_if_ltT F (tgt := 22) dM_ticket_14 (by decide) (h1) ?_
    refine zg_iconst F (v := nI 2) (by decide) dM_ticket_22 ?_
    refine zg_goto F (tgt := 27) dM_ticket_23 (by decide) ?_
    have hc : zc_ticket what = 2 := if_pos (Or.inl h1)
    rw [zr_ticket, hc, if_neg (by decide)] at E
    refine zg_callV F (zM_refused _ _ _ _ _ _ _ _ _) zv_M_refused zu_M_refused zk_635 (fun _ _ h => h.2.1.1) rfl rfl ⟨by decide, by decide⟩ ⟨by decide, by decide⟩ rfl (Nat.le_of_ble_eq_true rfl) dM_ticket_27 ?_
    refine zg_eqi (zb_1 (by omega) (by omega)) ?_
    refine zg_if_eqF F dM_ticket_30 (tgt := 35) (by decide) (by decide) ?_
    refine zg_iconst F (v := nI 0) (by decide) dM_ticket_33 ?_
    exact zg_iret F E (Nat.zero_le _) (Nat.zero_le _) (fun _ _ h => h) dM_ticket_34
  · refine zg_if_ltF F dM_ticket_14 (tgt := 22) (by decide) (h1) ?_
    refine zg_iload_n F 2 rfl rfl dM_ticket_17 ?_
    refine zg_iconst F (v := nI 3) (by decide) dM_ticket_18 ?_
    by_cases h2 : nI 3 < what
    · refine zg_icmp_leF F dM_ticket_19 (tgt := 26) (by decide) (Int32.not_le.mpr h2) ?_
      refine zg_iconst F (v := nI 2) (by decide) dM_ticket_22 ?_
      refine zg_goto F (tgt := 27) dM_ticket_23 (by decide) ?_
      have hc : zc_ticket what = 2 := if_pos (Or.inr h2)
      rw [zr_ticket, hc, if_neg (by decide)] at E
      refine zg_callV F (zM_refused _ _ _ _ _ _ _ _ _) zv_M_refused zu_M_refused zk_635 (fun _ _ h => h.2.1.1) rfl rfl ⟨by decide, by decide⟩ ⟨by decide, by decide⟩ rfl (Nat.le_of_ble_eq_true rfl) dM_ticket_27 ?_
      refine zg_eqi (zb_1 (by omega) (by omega)) ?_
      refine zg_if_eqF F dM_ticket_30 (tgt := 35) (by decide) (by decide) ?_
      refine zg_iconst F (v := nI 0) (by decide) dM_ticket_33 ?_
      exact zg_iret F E (Nat.zero_le _) (Nat.zero_le _) (fun _ _ h => h) dM_ticket_34
    · refine zg_icmp_leT F (tgt := 26) dM_ticket_19 (by decide) (Int32.not_lt.mp h2) ?_
      refine zg_iconst F (v := nI 0) (by decide) dM_ticket_26 ?_
      have hc : zc_ticket what = 0 := if_neg (fun q => q.elim h1 h2)
      rw [zr_ticket, hc, if_pos rfl] at E
      refine zg_callV F (zM_refused _ _ _ _ _ _ _ _ _) zv_M_refused zu_M_refused zk_635 (fun _ _ h => h.2.1.1) rfl rfl ⟨by decide, by decide⟩ ⟨by decide, by decide⟩ rfl (Nat.le_of_ble_eq_true rfl) dM_ticket_27 ?_
      refine zg_eqi zb_0 ?_
      refine zg_if_eqT F (tgt := 35) dM_ticket_30 (by decide) (rfl) ?_
      refine zg_iload_n F 2 rfl rfl dM_ticket_35 ?_
      by_cases h3 : what = 0
      · rw [if_pos h3] at E
        refine zg_if_neF F dM_ticket_36 (tgt := 48) (by decide) (h3) ?_
        refine zg_aload_n F 0 rfl rfl dM_ticket_39 ?_
        refine zg_get F (fun _ _ h => h.2.1.1) rfl zi_M 9 (by decide) rfl zk_547 rfl dM_ticket_40 ?_
        refine zg_iload_n F 1 rfl rfl dM_ticket_43 ?_
        refine zm_iald F 6 (by decide) rfl (by show _ < 80; omega) rfl dM_ticket_44 ?_
        refine zg_goto F (tgt := 90) dM_ticket_45 (by decide) ?_
        exact zg_iret F E (Nat.zero_le _) (Nat.zero_le _) (fun _ _ h => h) dM_ticket_90
      · rw [if_neg h3] at E
        refine zg_if_neT F (tgt := 48) dM_ticket_36 (by decide) (h3) ?_
        refine zg_iload_n F 2 rfl rfl dM_ticket_48 ?_
        refine zg_iconst F (v := nI 1) (by decide) dM_ticket_49 ?_
        by_cases h4 : what = nI 1
        · rw [if_pos h4] at E
          refine zg_icmp_neF F dM_ticket_50 (tgt := 62) (by decide) (h4) ?_
          refine zg_aload_n F 0 rfl rfl dM_ticket_53 ?_
          refine zg_get F (fun _ _ h => h.2.1.1) rfl zi_M 10 (by decide) rfl zk_548 rfl dM_ticket_54 ?_
          refine zg_iload_n F 1 rfl rfl dM_ticket_57 ?_
          refine zm_iald F 7 (by decide) rfl (by show _ < 80; omega) rfl dM_ticket_58 ?_
          refine zg_goto F (tgt := 90) dM_ticket_59 (by decide) ?_
          exact zg_iret F E (Nat.zero_le _) (Nat.zero_le _) (fun _ _ h => h) dM_ticket_90
        · rw [if_neg h4] at E
          refine zg_icmp_neT F (tgt := 62) dM_ticket_50 (by decide) (h4) ?_
          refine zg_iload_n F 2 rfl rfl dM_ticket_62 ?_
          refine zg_iconst F (v := nI 2) (by decide) dM_ticket_63 ?_
          by_cases h5 : what = nI 2
          · rw [if_pos h5] at E
            refine zg_icmp_neF F dM_ticket_64 (tgt := 76) (by decide) (h5) ?_
            refine zg_aload_n F 0 rfl rfl dM_ticket_67 ?_
            refine zg_get F (fun _ _ h => h.2.1.1) rfl zi_M 11 (by decide) rfl zk_549 rfl dM_ticket_68 ?_
            refine zg_iload_n F 1 rfl rfl dM_ticket_71 ?_
            refine zm_iald F 8 (by decide) rfl (by show _ < 80; omega) rfl dM_ticket_72 ?_
            refine zg_goto F (tgt := 90) dM_ticket_73 (by decide) ?_
            exact zg_iret F E (Nat.zero_le _) (Nat.zero_le _) (fun _ _ h => h) dM_ticket_90
          · rw [if_neg h5] at E
            refine zg_icmp_neT F (tgt := 76) dM_ticket_64 (by decide) (h5) ?_
            refine zg_aload_n F 0 rfl rfl dM_ticket_76 ?_
            refine zg_get F (fun _ _ h => h.2.1.1) rfl zi_M 13 (by decide) rfl zk_551 rfl dM_ticket_77 ?_
            refine zg_iload_n F 1 rfl rfl dM_ticket_80 ?_
            refine zm_zald F 10 (by decide) rfl (by show _ < 80; omega) rfl dM_ticket_81 ?_
            by_cases h6 : σ.1 10 t = 0
            · rw [if_pos h6] at E
              refine zg_if_eqT F (tgt := 89) dM_ticket_82 (by decide) (h6) ?_
              refine zg_iconst F (v := nI 0) (by decide) dM_ticket_89 ?_
              exact zg_iret F E (Nat.zero_le _) (Nat.zero_le _) (fun _ _ h => h) dM_ticket_90
            · rw [if_neg h6] at E
              refine zg_if_eqF F dM_ticket_82 (tgt := 89) (by decide) (h6) ?_
              refine zg_iconst F (v := nI 1) (by decide) dM_ticket_85 ?_
              refine zg_goto F (tgt := 90) dM_ticket_86 (by decide) ?_
              exact zg_iret F E (Nat.zero_le _) (Nat.zero_le _) (fun _ _ h => h) dM_ticket_90
set_option maxRecDepth 100000 in
set_option maxHeartbeats 4000000 in
theorem zM_cancel (l : Launch) (D : va_G) (A : Nat → ClassId) (base : Nat) (mo sz : Nat) (w0 : zg_w) (σ : zm_S) (t T port parts had : Nat) (ht : t < T) (hT8 : T ≤ 80) (hT : σ.1 25 2 = nI T) (h0 : port < 4) (h4 : parts ≤ 4) (hh : had ≤ 6) (ho : σ.1 6 t = nI port) (hq : σ.1 8 t = nI parts) (hw : σ.1 12 port = nI had) (hp : ∀ k, k < had → ∃ p, p ≤ 4 ∧ σ.1 14 (6 * port + k) = nI p) : zg_Met l zm_M_cancel zc_M_cancel 2 (some .int) 4 0 0 D A base [.ref mo, .int (nI t)] (zm_P A mo w0 sz σ) (some (.int (zo_cancel σ T t port parts had).2)) (zm_P A mo w0 sz (zo_cancel σ T t port parts had).1) := by
  refine zg_met (by decide) (Nat.le_of_ble_eq_true rfl) ?_
  intro K hl hD hA hz hn hnm F E
  subst hl hD hA hz
  show zg_G K (zm_P (zk_A K) mo w0 sz σ) 0 0 0 [(0, .ref mo), (1, .int (nI t))] []
  refine zg_aload_n F 0 rfl rfl dM_cancel_0 ?_
  refine zg_aload_n F 0 rfl rfl dM_cancel_1 ?_
  refine zg_iload_n F 1 rfl rfl dM_cancel_2 ?_
  refine zg_callV F (zM_isTicket _ _ _ _ _ _ _ _ _) zv_M_isTicket zu_M_isTicket zk_684 (fun _ _ h => h.2.1.1) rfl rfl ⟨by decide, by decide⟩ ⟨by decide, by decide⟩ rfl (Nat.le_of_ble_eq_true rfl) dM_cancel_3 ?_
  refine zg_eqi (y := nI 1) (zb_t (by rw [hT]; exact ⟨nI_pos (by omega), nI_ge ht (by omega)⟩)) ?_
  refine zg_if_neT F (tgt := 13) dM_cancel_6 (by decide) (by decide) ?_
  refine zg_aload_n F 0 rfl rfl dM_cancel_13 ?_
  refine zg_get F (fun _ _ h => h.2.1.1) rfl zi_M 13 (by decide) rfl zk_551 rfl dM_cancel_14 ?_
  refine zg_iload_n F 1 rfl rfl dM_cancel_17 ?_
  refine zm_zald F 10 (by decide) rfl (by show _ < 80; omega) rfl dM_cancel_18 ?_
  by_cases h1 : σ.1 10 t = 0
  · rw [zo_cancel, if_pos h1] at E
    refine zg_if_neF F dM_cancel_19 (tgt := 26) (by decide) (h1) ?_
    refine zg_iconst F (v := nI 2) (by decide) dM_cancel_22 ?_
    refine zg_goto F (tgt := 27) dM_cancel_23 (by decide) ?_
    refine zg_callV F (zM_refused _ _ _ _ _ _ _ _ _) zv_M_refused zu_M_refused zk_635 (fun _ _ h => h.2.1.1) rfl rfl ⟨by decide, by decide⟩ ⟨by decide, by decide⟩ rfl (Nat.le_of_ble_eq_true rfl) dM_cancel_27 ?_
    refine zg_eqi (zb_1 (by omega) (by omega)) ?_
    refine zg_if_eqF F dM_cancel_30 (tgt := 35) (by decide) (by decide) ?_
    refine zg_iconst F (v := nI 0) (by decide) dM_cancel_33 ?_
    exact zg_iret F E (Nat.zero_le _) (Nat.zero_le _) (fun _ _ h => h) dM_cancel_34
  · rw [zo_cancel, if_neg h1] at E
    refine zg_if_neT F (tgt := 26) dM_cancel_19 (by decide) (h1) ?_
    refine zg_iconst F (v := nI 0) (by decide) dM_cancel_26 ?_
    refine zg_callV F (zM_refused _ _ _ _ _ _ _ _ _) zv_M_refused zu_M_refused zk_635 (fun _ _ h => h.2.1.1) rfl rfl ⟨by decide, by decide⟩ ⟨by decide, by decide⟩ rfl (Nat.le_of_ble_eq_true rfl) dM_cancel_27 ?_
    refine zg_eqi zb_0 ?_
    refine zg_if_eqT F (tgt := 35) dM_cancel_30 (by decide) (rfl) ?_
    refine zg_aload_n F 0 rfl rfl dM_cancel_35 ?_
    refine zg_get F (fun _ _ h => h.2.1.1) rfl zi_M 13 (by decide) rfl zk_551 rfl dM_cancel_36 ?_
    refine zg_iload_n F 1 rfl rfl dM_cancel_39 ?_
    refine zg_iconst F (v := nI 0) (by decide) dM_cancel_40 ?_
    refine zm_zast F 10 (by decide) rfl (by show _ < 80; omega) (by decide) dM_cancel_41 ?_
    refine zg_aload_n F 0 rfl rfl dM_cancel_42 ?_
    refine zg_aload_n F 0 rfl rfl dM_cancel_43 ?_
    refine zg_get F (fun _ _ h => h.2.1.1) rfl zi_M 9 (by decide) rfl zk_547 rfl dM_cancel_44 ?_
    refine zg_iload_n F 1 rfl rfl dM_cancel_47 ?_
    refine zm_iald F 6 (by decide) rfl (by show _ < 80; omega) rfl dM_cancel_48 ?_
    refine zg_eqi (ho) ?_
    refine zg_iconst F (v := nI 4) (by decide) dM_cancel_49 ?_
    refine zg_iconst F (v := nI 4) (by decide) dM_cancel_50 ?_
    refine zg_iload_n F 1 rfl rfl dM_cancel_51 ?_
    refine zg_imul F (by first | exact pk_mul _ _ | rfl) dM_cancel_52 ?_
    refine zg_iadd F (by first | exact nI_add _ _ | rfl) dM_cancel_53 ?_
    refine zg_aload_n F 0 rfl rfl dM_cancel_54 ?_
    refine zg_get F (fun _ _ h => h.2.1.1) rfl zi_M 11 (by decide) rfl zk_549 rfl dM_cancel_55 ?_
    refine zg_iload_n F 1 rfl rfl dM_cancel_58 ?_
    refine zm_iald F 8 (by decide) rfl (by show _ < 80; omega) rfl dM_cancel_59 ?_
    refine zg_eqi (hq) ?_
    refine zg_aload_n F 0 rfl rfl dM_cancel_60 ?_
    refine zg_get F (fun _ _ h => h.2.1.1) rfl zi_M 10 (by decide) rfl zk_548 rfl dM_cancel_61 ?_
    refine zg_iload_n F 1 rfl rfl dM_cancel_64 ?_
    refine zm_iald F 7 (by decide) rfl (by show _ < 80; omega) rfl dM_cancel_65 ?_
    refine zg_callV F (zM_give _ _ _ _ _ _ _ (zm_set (zm_f σ 0) 10 t (nI 0)) port (4 + 4 * t) parts (σ.1 7 t) h0 (by omega)) zv_M_give zu_M_give zk_664 (fun _ _ h => h.2.1.1) rfl rfl ⟨by decide, by decide⟩ ⟨by decide, by decide⟩ rfl (Nat.le_of_ble_eq_true rfl) dM_cancel_66 ?_
    have hg : ∀ j, j ≠ 2 → (zm_give (zm_set (zm_f σ 0) 10 t (nI 0)) port (4 + 4 * t) parts (σ.1 7 t) 16).1 j = (zm_set (zm_f σ 0) 10 t (nI 0)).1 j := fun j hj => zm_give_o hj 16
    have hE : zm_cnc σ t port parts = zm_setL (zm_give (zm_set (zm_f σ 0) 10 t (nI 0)) port (4 + 4 * t) parts (σ.1 7 t) 16) 11 port ((zm_give (zm_set (zm_f σ 0) 10 t (nI 0)) port (4 + 4 * t) parts (σ.1 7 t) 16).2 11 port - (zm_give (zm_set (zm_f σ 0) 10 t (nI 0)) port (4 + 4 * t) parts (σ.1 7 t) 16).2 9 t) := rfl
    rw [hE] at E
    generalize zm_give (zm_set (zm_f σ 0) 10 t (nI 0)) port (4 + 4 * t) parts (σ.1 7 t) 16 = G at hg E ⊢
    have hg6 : G.1 6 t = nI port := by rw [hg 6 (by decide)]; exact ho
    have s1 : (zm_setL G 11 port (G.2 11 port - G.2 9 t)).1 12 port = nI had := by show G.1 12 port = _; rw [hg 12 (by decide)]; exact hw
    have s2 : (zm_setL G 11 port (G.2 11 port - G.2 9 t)).1 25 2 = nI T := by show G.1 25 2 = _; rw [hg 25 (by decide)]; exact hT
    have s3 : ∀ k, k < had → ∃ p, p ≤ 4 ∧ (zm_setL G 11 port (G.2 11 port - G.2 9 t)).1 14 (6 * port + k) = nI p := by
      intro k hk
      show ∃ p, p ≤ 4 ∧ G.1 14 (6 * port + k) = nI p
      rw [hg 14 (by decide)]; exact hp k hk
    refine zg_aload_n F 0 rfl rfl dM_cancel_69 ?_
    refine zg_get F (fun _ _ h => h.2.1.1) rfl zi_M 14 (by decide) rfl zk_552 rfl dM_cancel_70 ?_
    refine zg_aload_n F 0 rfl rfl dM_cancel_73 ?_
    refine zg_get F (fun _ _ h => h.2.1.1) rfl zi_M 9 (by decide) rfl zk_547 rfl dM_cancel_74 ?_
    refine zg_iload_n F 1 rfl rfl dM_cancel_77 ?_
    refine zm_iald F 6 (by decide) rfl (by show _ < 80; omega) rfl dM_cancel_78 ?_
    refine zg_eqi (hg6) ?_
    refine zg_aload_n F 0 rfl rfl dM_cancel_79 ?_
    refine zg_get F (fun _ _ h => h.2.1.1) rfl zi_M 14 (by decide) rfl zk_552 rfl dM_cancel_80 ?_
    refine zg_aload_n F 0 rfl rfl dM_cancel_83 ?_
    refine zg_get F (fun _ _ h => h.2.1.1) rfl zi_M 9 (by decide) rfl zk_547 rfl dM_cancel_84 ?_
    refine zg_iload_n F 1 rfl rfl dM_cancel_87 ?_
    refine zm_iald F 6 (by decide) rfl (by show _ < 80; omega) rfl dM_cancel_88 ?_
    refine zg_eqi (hg6) ?_
    refine zm_lald F 11 (by decide) rfl (by show _ < 4; omega) rfl dM_cancel_89 ?_
    refine zg_aload_n F 0 rfl rfl dM_cancel_90 ?_
    refine zg_get F (fun _ _ h => h.2.1.1) rfl zi_M 12 (by decide) rfl zk_550 rfl dM_cancel_91 ?_
    refine zg_iload_n F 1 rfl rfl dM_cancel_94 ?_
    refine zm_lald F 9 (by decide) rfl (by show _ < 80; omega) rfl dM_cancel_95 ?_
    refine zg_lsub F rfl dM_cancel_96 ?_
    refine zm_last F 11 (by decide) rfl (by show _ < 4; omega) dM_cancel_97 ?_
    refine zg_aload_n F 0 rfl rfl dM_cancel_98 ?_
    refine zg_aload_n F 0 rfl rfl dM_cancel_99 ?_
    refine zg_get F (fun _ _ h => h.2.1.1) rfl zi_M 9 (by decide) rfl zk_547 rfl dM_cancel_100 ?_
    refine zg_iload_n F 1 rfl rfl dM_cancel_103 ?_
    refine zm_iald F 6 (by decide) rfl (by show _ < 80; omega) rfl dM_cancel_104 ?_
    refine zg_eqi (hg6) ?_
    refine zg_callV F (zM_serve _ _ _ _ _ _ _ (zm_setL G 11 port (G.2 11 port - G.2 9 t)) T port had h0 hh hT8 s1 s2 s3) zv_M_serve zu_M_serve zk_676 (fun _ _ h => h.2.1.1) rfl rfl ⟨by decide, by decide⟩ ⟨by decide, by decide⟩ rfl (Nat.le_of_ble_eq_true rfl) dM_cancel_105 ?_
    exact zg_iret F E (Nat.zero_le _) (Nat.zero_le _) (fun _ _ h => h) dM_cancel_108
set_option maxRecDepth 100000 in
set_option maxHeartbeats 4000000 in
theorem zM_hand_bad (l : Launch) (D : va_G) (A : Nat → ClassId) (base : Nat) (mo sz : Nat) (w0 : zg_w) (σ : zm_S) (a b s leg n : Int32) (h : ¬ (zz4 a ∧ zz4 b ∧ zz4 s ∧ zz4 leg)) : zg_Met l zm_M_hand zc_M_hand 7 (some .int) 1 0 0 D A base [.ref mo, .int a, .int b, .int s, .int leg, .int n] (zm_P A mo w0 sz σ) (some (.int (nI 0))) (zm_P A mo w0 sz (zm_f σ 1)) := by
  refine zg_met (by decide) (Nat.le_of_ble_eq_true rfl) ?_
  intro K hl hD hA hz hn hnm F E
  subst hl hD hA hz
  show zg_G K (zm_P (zk_A K) mo w0 sz σ) 0 0 0 [(0, .ref mo), (1, .int a), (2, .int b), (3, .int s), (4, .int leg), (5, .int n)] []
  refine zg_iload_n F 1 rfl rfl dM_hand_0 ?_
  by_cases h0 : zz4 a
  · refine zg_callS F (zM_isFour _ _ _ _ _ _) zv_M_isFour zu_M_isFour zk_632 rfl ⟨by decide, by decide⟩ ⟨by decide, by decide⟩ rfl (Nat.le_of_ble_eq_true rfl) dM_hand_1 ?_
    refine zg_eqi (y := nI 1) (zb_t (h0)) ?_
    refine zg_if_eqF F dM_hand_4 (tgt := 33) (by decide) (by decide) ?_
    refine zg_iload_n F 2 rfl rfl dM_hand_7 ?_
    by_cases h1 : zz4 b
    · refine zg_callS F (zM_isFour _ _ _ _ _ _) zv_M_isFour zu_M_isFour zk_632 rfl ⟨by decide, by decide⟩ ⟨by decide, by decide⟩ rfl (Nat.le_of_ble_eq_true rfl) dM_hand_8 ?_
      refine zg_eqi (y := nI 1) (zb_t (h1)) ?_
      refine zg_if_eqF F dM_hand_11 (tgt := 33) (by decide) (by decide) ?_
      refine zg_iload_n F 3 rfl rfl dM_hand_14 ?_
      by_cases h2 : zz4 s
      · refine zg_callS F (zM_isFour _ _ _ _ _ _) zv_M_isFour zu_M_isFour zk_632 rfl ⟨by decide, by decide⟩ ⟨by decide, by decide⟩ rfl (Nat.le_of_ble_eq_true rfl) dM_hand_15 ?_
        refine zg_eqi (y := nI 1) (zb_t (h2)) ?_
        refine zg_if_eqF F dM_hand_18 (tgt := 33) (by decide) (by decide) ?_
        refine zg_iload F 4 rfl dM_hand_21 ?_
        refine zg_callS F (zM_isFour _ _ _ _ _ _) zv_M_isFour zu_M_isFour zk_632 rfl ⟨by decide, by decide⟩ ⟨by decide, by decide⟩ rfl (Nat.le_of_ble_eq_true rfl) dM_hand_23 ?_
        refine zg_eqi (y := nI 0) (zb_f (fun q => h ⟨h0, h1, h2, q⟩)) ?_
        refine zg_if_eqT F (tgt := 33) dM_hand_26 (by decide) (rfl) ?_
        refine zg_iconst F (v := nI 0) (by decide) dM_hand_33 ?_
        refine zg_istore F (by rw [hn]; decide) (L' := [(6, _), (0, _), (1, _), (2, _), (3, _), (4, _), (5, _)]) rfl dM_hand_34 ?_
        refine zg_aload_n F 1 rfl rfl dM_hand_36 ?_
        refine zg_iload F 0 rfl dM_hand_37 ?_
        refine zg_if_neF F dM_hand_39 (tgt := 46) (by decide) (rfl) ?_
        refine zg_iconst F (v := nI 1) (by decide) dM_hand_42 ?_
        refine zg_goto F (tgt := 88) dM_hand_43 (by decide) ?_
        refine zg_callV F (zM_refused _ _ _ _ _ _ _ _ _) zv_M_refused zu_M_refused zk_635 (fun _ _ h => h.2.1.1) rfl rfl ⟨by decide, by decide⟩ ⟨by decide, by decide⟩ rfl (Nat.le_of_ble_eq_true rfl) dM_hand_88 ?_
        refine zg_eqi (zb_1 (by omega) (by omega)) ?_
        refine zg_if_eqF F dM_hand_91 (tgt := 96) (by decide) (by decide) ?_
        refine zg_iconst F (v := nI 0) (by decide) dM_hand_94 ?_
        exact zg_iret F E (Nat.zero_le _) (Nat.zero_le _) (fun _ _ h => h) dM_hand_95
      · refine zg_callS F (zM_isFour _ _ _ _ _ _) zv_M_isFour zu_M_isFour zk_632 rfl ⟨by decide, by decide⟩ ⟨by decide, by decide⟩ rfl (Nat.le_of_ble_eq_true rfl) dM_hand_15 ?_
        refine zg_eqi (y := nI 0) (zb_f (h2)) ?_
        refine zg_if_eqT F (tgt := 33) dM_hand_18 (by decide) (rfl) ?_
        refine zg_iconst F (v := nI 0) (by decide) dM_hand_33 ?_
        refine zg_istore F (by rw [hn]; decide) (L' := [(6, _), (0, _), (1, _), (2, _), (3, _), (4, _), (5, _)]) rfl dM_hand_34 ?_
        refine zg_aload_n F 1 rfl rfl dM_hand_36 ?_
        refine zg_iload F 0 rfl dM_hand_37 ?_
        refine zg_if_neF F dM_hand_39 (tgt := 46) (by decide) (rfl) ?_
        refine zg_iconst F (v := nI 1) (by decide) dM_hand_42 ?_
        refine zg_goto F (tgt := 88) dM_hand_43 (by decide) ?_
        refine zg_callV F (zM_refused _ _ _ _ _ _ _ _ _) zv_M_refused zu_M_refused zk_635 (fun _ _ h => h.2.1.1) rfl rfl ⟨by decide, by decide⟩ ⟨by decide, by decide⟩ rfl (Nat.le_of_ble_eq_true rfl) dM_hand_88 ?_
        refine zg_eqi (zb_1 (by omega) (by omega)) ?_
        refine zg_if_eqF F dM_hand_91 (tgt := 96) (by decide) (by decide) ?_
        refine zg_iconst F (v := nI 0) (by decide) dM_hand_94 ?_
        exact zg_iret F E (Nat.zero_le _) (Nat.zero_le _) (fun _ _ h => h) dM_hand_95
    · refine zg_callS F (zM_isFour _ _ _ _ _ _) zv_M_isFour zu_M_isFour zk_632 rfl ⟨by decide, by decide⟩ ⟨by decide, by decide⟩ rfl (Nat.le_of_ble_eq_true rfl) dM_hand_8 ?_
      refine zg_eqi (y := nI 0) (zb_f (h1)) ?_
      refine zg_if_eqT F (tgt := 33) dM_hand_11 (by decide) (rfl) ?_
      refine zg_iconst F (v := nI 0) (by decide) dM_hand_33 ?_
      refine zg_istore F (by rw [hn]; decide) (L' := [(6, _), (0, _), (1, _), (2, _), (3, _), (4, _), (5, _)]) rfl dM_hand_34 ?_
      refine zg_aload_n F 1 rfl rfl dM_hand_36 ?_
      refine zg_iload F 0 rfl dM_hand_37 ?_
      refine zg_if_neF F dM_hand_39 (tgt := 46) (by decide) (rfl) ?_
      refine zg_iconst F (v := nI 1) (by decide) dM_hand_42 ?_
      refine zg_goto F (tgt := 88) dM_hand_43 (by decide) ?_
      refine zg_callV F (zM_refused _ _ _ _ _ _ _ _ _) zv_M_refused zu_M_refused zk_635 (fun _ _ h => h.2.1.1) rfl rfl ⟨by decide, by decide⟩ ⟨by decide, by decide⟩ rfl (Nat.le_of_ble_eq_true rfl) dM_hand_88 ?_
      refine zg_eqi (zb_1 (by omega) (by omega)) ?_
      refine zg_if_eqF F dM_hand_91 (tgt := 96) (by decide) (by decide) ?_
      refine zg_iconst F (v := nI 0) (by decide) dM_hand_94 ?_
      exact zg_iret F E (Nat.zero_le _) (Nat.zero_le _) (fun _ _ h => h) dM_hand_95
  · refine zg_callS F (zM_isFour _ _ _ _ _ _) zv_M_isFour zu_M_isFour zk_632 rfl ⟨by decide, by decide⟩ ⟨by decide, by decide⟩ rfl (Nat.le_of_ble_eq_true rfl) dM_hand_1 ?_
    refine zg_eqi (y := nI 0) (zb_f (h0)) ?_
    refine zg_if_eqT F (tgt := 33) dM_hand_4 (by decide) (rfl) ?_
    refine zg_iconst F (v := nI 0) (by decide) dM_hand_33 ?_
    refine zg_istore F (by rw [hn]; decide) (L' := [(6, _), (0, _), (1, _), (2, _), (3, _), (4, _), (5, _)]) rfl dM_hand_34 ?_
    refine zg_aload_n F 1 rfl rfl dM_hand_36 ?_
    refine zg_iload F 0 rfl dM_hand_37 ?_
    refine zg_if_neF F dM_hand_39 (tgt := 46) (by decide) (rfl) ?_
    refine zg_iconst F (v := nI 1) (by decide) dM_hand_42 ?_
    refine zg_goto F (tgt := 88) dM_hand_43 (by decide) ?_
    refine zg_callV F (zM_refused _ _ _ _ _ _ _ _ _) zv_M_refused zu_M_refused zk_635 (fun _ _ h => h.2.1.1) rfl rfl ⟨by decide, by decide⟩ ⟨by decide, by decide⟩ rfl (Nat.le_of_ble_eq_true rfl) dM_hand_88 ?_
    refine zg_eqi (zb_1 (by omega) (by omega)) ?_
    refine zg_if_eqF F dM_hand_91 (tgt := 96) (by decide) (by decide) ?_
    refine zg_iconst F (v := nI 0) (by decide) dM_hand_94 ?_
    exact zg_iret F E (Nat.zero_le _) (Nat.zero_le _) (fun _ _ h => h) dM_hand_95
set_option maxRecDepth 100000 in
set_option maxHeartbeats 4000000 in
theorem zM_hand (l : Launch) (D : va_G) (A : Nat → ClassId) (base : Nat) (mo sz : Nat) (w0 : zg_w) (σ : zm_S) (a b s leg bx : Nat) (n : Int32) (ha : a < 4) (hb : b < 4) (hs : s < 4) (hg : leg < 4) (hx : bx ≤ 8) (he : σ.1 16 (4 * a + b) = nI bx) : zg_Met l zm_M_hand zc_M_hand 7 (some .int) 1 0 0 D A base [.ref mo, .int (nI a), .int (nI b), .int (nI s), .int (nI leg), .int n] (zm_P A mo w0 sz σ) (some (.int (zo_hand σ a b s leg bx n).2)) (zm_P A mo w0 sz (zo_hand σ a b s leg bx n).1) := by
  refine zg_met (by decide) (Nat.le_of_ble_eq_true rfl) ?_
  intro K hl hD hA hz hn hnm F E
  subst hl hD hA hz
  show zg_G K (zm_P (zk_A K) mo w0 sz σ) 0 0 0 [(0, .ref mo), (1, .int (nI a)), (2, .int (nI b)), (3, .int (nI s)), (4, .int (nI leg)), (5, .int n)] []
  refine zg_iload_n F 1 rfl rfl dM_hand_0 ?_
  refine zg_callS F (zM_isFour _ _ _ _ _ _) zv_M_isFour zu_M_isFour zk_632 rfl ⟨by decide, by decide⟩ ⟨by decide, by decide⟩ rfl (Nat.le_of_ble_eq_true rfl) dM_hand_1 ?_
  refine zg_eqi (y := nI 1) (zb_t (zz4_of ha)) ?_
  refine zg_if_eqF F dM_hand_4 (tgt := 33) (by decide) (by decide) ?_
  refine zg_iload_n F 2 rfl rfl dM_hand_7 ?_
  refine zg_callS F (zM_isFour _ _ _ _ _ _) zv_M_isFour zu_M_isFour zk_632 rfl ⟨by decide, by decide⟩ ⟨by decide, by decide⟩ rfl (Nat.le_of_ble_eq_true rfl) dM_hand_8 ?_
  refine zg_eqi (y := nI 1) (zb_t (zz4_of hb)) ?_
  refine zg_if_eqF F dM_hand_11 (tgt := 33) (by decide) (by decide) ?_
  refine zg_iload_n F 3 rfl rfl dM_hand_14 ?_
  refine zg_callS F (zM_isFour _ _ _ _ _ _) zv_M_isFour zu_M_isFour zk_632 rfl ⟨by decide, by decide⟩ ⟨by decide, by decide⟩ rfl (Nat.le_of_ble_eq_true rfl) dM_hand_15 ?_
  refine zg_eqi (y := nI 1) (zb_t (zz4_of hs)) ?_
  refine zg_if_eqF F dM_hand_18 (tgt := 33) (by decide) (by decide) ?_
  refine zg_iload F 4 rfl dM_hand_21 ?_
  refine zg_callS F (zM_isFour _ _ _ _ _ _) zv_M_isFour zu_M_isFour zk_632 rfl ⟨by decide, by decide⟩ ⟨by decide, by decide⟩ rfl (Nat.le_of_ble_eq_true rfl) dM_hand_23 ?_
  refine zg_eqi (y := nI 1) (zb_t (zz4_of hg)) ?_
  refine zg_if_eqF F dM_hand_26 (tgt := 33) (by decide) (by decide) ?_
  refine zg_iconst F (v := nI 1) (by decide) dM_hand_29 ?_
  refine zg_goto F (tgt := 34) dM_hand_30 (by decide) ?_
  refine zg_istore F (by rw [hn]; decide) (L' := [(6, _), (0, _), (1, _), (2, _), (3, _), (4, _), (5, _)]) rfl dM_hand_34 ?_
  refine zg_aload_n F 1 rfl rfl dM_hand_36 ?_
  refine zg_iload F 0 rfl dM_hand_37 ?_
  refine zg_if_neT F (tgt := 46) dM_hand_39 (by decide) (by decide) ?_
  refine zg_iload_n F 2 rfl rfl dM_hand_46 ?_
  refine zg_iload_n F 3 rfl rfl dM_hand_47 ?_
  by_cases h1 : a = b
  · refine zg_icmp_eqT F (tgt := 64) dM_hand_48 (by decide) (by rw [h1]) ?_
    refine zg_iconst F (v := nI 2) (by decide) dM_hand_64 ?_
    refine zg_goto F (tgt := 88) dM_hand_65 (by decide) ?_
    have hc : zc_hand a b bx n = 2 := if_pos (Or.inl h1)
    rw [zo_hand, hc, if_neg (by decide)] at E
    refine zg_callV F (zM_refused _ _ _ _ _ _ _ _ _) zv_M_refused zu_M_refused zk_635 (fun _ _ h => h.2.1.1) rfl rfl ⟨by decide, by decide⟩ ⟨by decide, by decide⟩ rfl (Nat.le_of_ble_eq_true rfl) dM_hand_88 ?_
    refine zg_eqi (zb_1 (by omega) (by omega)) ?_
    refine zg_if_eqF F dM_hand_91 (tgt := 96) (by decide) (by decide) ?_
    refine zg_iconst F (v := nI 0) (by decide) dM_hand_94 ?_
    exact zg_iret F E (Nat.zero_le _) (Nat.zero_le _) (fun _ _ h => h) dM_hand_95
  · refine zg_icmp_eqF F dM_hand_48 (tgt := 64) (by decide) (fun q => h1 ((nI_eq (by omega) (by omega)).mp q)) ?_
    refine zg_iload F 6 rfl dM_hand_51 ?_
    refine zg_iconst F (v := nI 1) (by decide) dM_hand_53 ?_
    by_cases h2 : n < nI 1
    · refine zg_icmp_ltT F (tgt := 64) dM_hand_54 (by decide) (h2) ?_
      refine zg_iconst F (v := nI 2) (by decide) dM_hand_64 ?_
      refine zg_goto F (tgt := 88) dM_hand_65 (by decide) ?_
      have hc : zc_hand a b bx n = 2 := if_pos (Or.inr (Or.inl h2))
      rw [zo_hand, hc, if_neg (by decide)] at E
      refine zg_callV F (zM_refused _ _ _ _ _ _ _ _ _) zv_M_refused zu_M_refused zk_635 (fun _ _ h => h.2.1.1) rfl rfl ⟨by decide, by decide⟩ ⟨by decide, by decide⟩ rfl (Nat.le_of_ble_eq_true rfl) dM_hand_88 ?_
      refine zg_eqi (zb_1 (by omega) (by omega)) ?_
      refine zg_if_eqF F dM_hand_91 (tgt := 96) (by decide) (by decide) ?_
      refine zg_iconst F (v := nI 0) (by decide) dM_hand_94 ?_
      exact zg_iret F E (Nat.zero_le _) (Nat.zero_le _) (fun _ _ h => h) dM_hand_95
    · refine zg_icmp_ltF F dM_hand_54 (tgt := 64) (by decide) (h2) ?_
      refine zg_iload F 6 rfl dM_hand_57 ?_
      refine zg_bipush F (v := nI 100) (by decide) dM_hand_59 ?_
      by_cases h3 : nI 100 < n
      · refine zg_icmp_leF F dM_hand_61 (tgt := 68) (by decide) (Int32.not_le.mpr h3) ?_
        refine zg_iconst F (v := nI 2) (by decide) dM_hand_64 ?_
        refine zg_goto F (tgt := 88) dM_hand_65 (by decide) ?_
        have hc : zc_hand a b bx n = 2 := if_pos (Or.inr (Or.inr h3))
        rw [zo_hand, hc, if_neg (by decide)] at E
        refine zg_callV F (zM_refused _ _ _ _ _ _ _ _ _) zv_M_refused zu_M_refused zk_635 (fun _ _ h => h.2.1.1) rfl rfl ⟨by decide, by decide⟩ ⟨by decide, by decide⟩ rfl (Nat.le_of_ble_eq_true rfl) dM_hand_88 ?_
        refine zg_eqi (zb_1 (by omega) (by omega)) ?_
        refine zg_if_eqF F dM_hand_91 (tgt := 96) (by decide) (by decide) ?_
        refine zg_iconst F (v := nI 0) (by decide) dM_hand_94 ?_
        exact zg_iret F E (Nat.zero_le _) (Nat.zero_le _) (fun _ _ h => h) dM_hand_95
      · refine zg_icmp_leT F (tgt := 68) dM_hand_61 (by decide) (Int32.not_lt.mp h3) ?_
        refine zg_aload_n F 1 rfl rfl dM_hand_68 ?_
        refine zg_get F (fun _ _ h => h.2.1.1) rfl zi_M 19 (by decide) rfl zk_557 rfl dM_hand_69 ?_
        refine zg_iconst F (v := nI 4) (by decide) dM_hand_72 ?_
        refine zg_iload_n F 2 rfl rfl dM_hand_73 ?_
        refine zg_imul F (by first | exact pk_mul _ _ | rfl) dM_hand_74 ?_
        refine zg_iload_n F 3 rfl rfl dM_hand_75 ?_
        refine zg_iadd F (by first | exact nI_add _ _ | rfl) dM_hand_76 ?_
        refine zm_iald F 16 (by decide) rfl (by show _ < 16; omega) rfl dM_hand_77 ?_
        refine zg_eqi (he) ?_
        refine zg_bipush F (v := nI 8) (by decide) dM_hand_78 ?_
        by_cases h4 : bx = 8
        · refine zg_icmp_neF F dM_hand_80 (tgt := 87) (by decide) (by rw [h4]) ?_
          refine zg_iconst F (v := nI 3) (by decide) dM_hand_83 ?_
          refine zg_goto F (tgt := 88) dM_hand_84 (by decide) ?_
          have hc : zc_hand a b bx n = 3 := by rw [zc_hand, if_neg (fun q => q.elim h1 (fun q => q.elim h2 h3)), if_pos h4]
          rw [zo_hand, hc, if_neg (by decide)] at E
          refine zg_callV F (zM_refused _ _ _ _ _ _ _ _ _) zv_M_refused zu_M_refused zk_635 (fun _ _ h => h.2.1.1) rfl rfl ⟨by decide, by decide⟩ ⟨by decide, by decide⟩ rfl (Nat.le_of_ble_eq_true rfl) dM_hand_88 ?_
          refine zg_eqi (zb_1 (by omega) (by omega)) ?_
          refine zg_if_eqF F dM_hand_91 (tgt := 96) (by decide) (by decide) ?_
          refine zg_iconst F (v := nI 0) (by decide) dM_hand_94 ?_
          exact zg_iret F E (Nat.zero_le _) (Nat.zero_le _) (fun _ _ h => h) dM_hand_95
        · refine zg_icmp_neT F (tgt := 87) dM_hand_80 (by decide) (fun q => h4 ((nI_eq (by omega) (by omega)).mp q)) ?_
          refine zg_iconst F (v := nI 0) (by decide) dM_hand_87 ?_
          have hc : zc_hand a b bx n = 0 := by rw [zc_hand, if_neg (fun q => q.elim h1 (fun q => q.elim h2 h3)), if_neg h4]
          rw [zo_hand, hc, if_pos rfl] at E
          refine zg_callV F (zM_refused _ _ _ _ _ _ _ _ _) zv_M_refused zu_M_refused zk_635 (fun _ _ h => h.2.1.1) rfl rfl ⟨by decide, by decide⟩ ⟨by decide, by decide⟩ rfl (Nat.le_of_ble_eq_true rfl) dM_hand_88 ?_
          refine zg_eqi zb_0 ?_
          refine zg_if_eqT F (tgt := 96) dM_hand_91 (by decide) (rfl) ?_
          refine zg_aload_n F 1 rfl rfl dM_hand_96 ?_
          refine zg_get F (fun _ _ h => h.2.1.1) rfl zi_M 3 (by decide) rfl zk_541 rfl dM_hand_97 ?_
          refine zg_bipush F (v := nI 16) (by decide) dM_hand_100 ?_
          refine zg_iload_n F 2 rfl rfl dM_hand_102 ?_
          refine zg_imul F (by first | exact pk_mul _ _ | rfl) dM_hand_103 ?_
          refine zg_iconst F (v := nI 4) (by decide) dM_hand_104 ?_
          refine zg_iload_n F 4 rfl rfl dM_hand_105 ?_
          refine zg_imul F (by first | exact pk_mul _ _ | rfl) dM_hand_106 ?_
          refine zg_iadd F (by first | exact nI_add _ _ | rfl) dM_hand_107 ?_
          refine zg_iload F 5 rfl dM_hand_108 ?_
          refine zg_iadd F (by first | exact nI_add _ _ | rfl) dM_hand_110 ?_
          refine zm_iald F 2 (by decide) rfl (by show _ < 64; omega) rfl dM_hand_111 ?_
          refine zg_iload F 6 rfl dM_hand_112 ?_
          by_cases h5 : σ.1 2 (16 * a + 4 * s + leg) < n
          · rw [if_pos h5] at E
            refine zg_icmp_geF F dM_hand_114 (tgt := 121) (by decide) (Int32.not_le.mpr h5) ?_
            refine zg_iconst F (v := -1) (by decide) dM_hand_117 ?_
            refine zg_goto F (tgt := 135) dM_hand_118 (by decide) ?_
            exact zg_iret F E (Nat.zero_le _) (Nat.zero_le _) (fun _ _ h => h) dM_hand_135
          · rw [if_neg h5] at E
            refine zg_icmp_geT F (tgt := 121) dM_hand_114 (by decide) (Int32.not_lt.mp h5) ?_
            refine zg_aload_n F 1 rfl rfl dM_hand_121 ?_
            refine zg_iload_n F 2 rfl rfl dM_hand_122 ?_
            refine zg_iload_n F 3 rfl rfl dM_hand_123 ?_
            refine zg_iconst F (v := nI 4) (by decide) dM_hand_124 ?_
            refine zg_iload_n F 4 rfl rfl dM_hand_125 ?_
            refine zg_imul F (by first | exact pk_mul _ _ | rfl) dM_hand_126 ?_
            refine zg_iload F 5 rfl dM_hand_127 ?_
            refine zg_iadd F (by first | exact nI_add _ _ | rfl) dM_hand_129 ?_
            refine zg_iload F 6 rfl dM_hand_130 ?_
            refine zg_callV F (zM_enclose _ _ _ _ _ _ _ (zm_f σ 0) a b (4 * s + leg) bx n ha hb (by omega) (by omega) he) zv_M_enclose zu_M_enclose zk_700 (fun _ _ h => h.2.1.1) rfl rfl ⟨by decide, by decide⟩ ⟨by decide, by decide⟩ rfl (Nat.le_of_ble_eq_true rfl) dM_hand_132 ?_
            exact zg_iret F E (Nat.zero_le _) (Nat.zero_le _) (fun _ _ h => h) dM_hand_135
set_option maxRecDepth 100000 in
set_option maxHeartbeats 4000000 in
theorem zM_send_bad (l : Launch) (D : va_G) (A : Nat → ClassId) (base : Nat) (mo sz : Nat) (w0 : zg_w) (σ : zm_S) (a b : Int32) (c : Nat) (hc : zc_wrong a b = c) (h0 : 0 < c) (h3 : c < 3) : zg_Met l zm_M_send zc_M_send 4 (some .int) 2 0 0 D A base [.ref mo, .int a, .int b] (zm_P A mo w0 sz σ) (some (.int (nI 0))) (zm_P A mo w0 sz (zm_f σ c)) := by
  refine zg_met (by decide) (Nat.le_of_ble_eq_true rfl) ?_
  intro K hl hD hA hz hn hnm F E
  subst hl hD hA hz
  show zg_G K (zm_P (zk_A K) mo w0 sz σ) 0 0 0 [(0, .ref mo), (1, .int a), (2, .int b)] []
  subst hc
  refine zg_aload_n F 0 rfl rfl dM_send_0 ?_
  refine zg_iload_n F 1 rfl rfl dM_send_1 ?_
  refine zg_iload_n F 2 rfl rfl dM_send_2 ?_
  refine zg_callS F (zM_wrong _ _ _ _ _ _ _) zv_M_wrong zu_M_wrong zk_708 rfl ⟨by decide, by decide⟩ ⟨by decide, by decide⟩ rfl (Nat.le_of_ble_eq_true rfl) dM_send_3 ?_
  refine zg_callV F (zM_refused _ _ _ _ _ _ _ _ _) zv_M_refused zu_M_refused zk_635 (fun _ _ h => h.2.1.1) rfl rfl ⟨by decide, by decide⟩ ⟨by decide, by decide⟩ rfl (Nat.le_of_ble_eq_true rfl) dM_send_6 ?_
  refine zg_eqi (zb_1 (by omega) (by omega)) ?_
  refine zg_if_eqF F dM_send_9 (tgt := 14) (by decide) (by decide) ?_
  refine zg_iconst F (v := nI 0) (by decide) dM_send_12 ?_
  exact zg_iret F E (Nat.zero_le _) (Nat.zero_le _) (fun _ _ h => h) dM_send_13
set_option maxRecDepth 100000 in
set_option maxHeartbeats 4000000 in
theorem zM_arrive_bad (l : Launch) (D : va_G) (A : Nat → ClassId) (base : Nat) (mo sz : Nat) (w0 : zg_w) (σ : zm_S) (a b : Int32) (c : Nat) (hc : zc_wrong a b = c) (h0 : 0 < c) (h3 : c < 3) : zg_Met l zm_M_arrive zc_M_arrive 6 (some .int) 2 0 0 D A base [.ref mo, .int a, .int b] (zm_P A mo w0 sz σ) (some (.int (nI 0))) (zm_P A mo w0 sz (zm_f σ c)) := by
  refine zg_met (by decide) (Nat.le_of_ble_eq_true rfl) ?_
  intro K hl hD hA hz hn hnm F E
  subst hl hD hA hz
  show zg_G K (zm_P (zk_A K) mo w0 sz σ) 0 0 0 [(0, .ref mo), (1, .int a), (2, .int b)] []
  subst hc
  refine zg_aload_n F 0 rfl rfl dM_arrive_0 ?_
  refine zg_iload_n F 1 rfl rfl dM_arrive_1 ?_
  refine zg_iload_n F 2 rfl rfl dM_arrive_2 ?_
  refine zg_callS F (zM_wrong _ _ _ _ _ _ _) zv_M_wrong zu_M_wrong zk_708 rfl ⟨by decide, by decide⟩ ⟨by decide, by decide⟩ rfl (Nat.le_of_ble_eq_true rfl) dM_arrive_3 ?_
  refine zg_callV F (zM_refused _ _ _ _ _ _ _ _ _) zv_M_refused zu_M_refused zk_635 (fun _ _ h => h.2.1.1) rfl rfl ⟨by decide, by decide⟩ ⟨by decide, by decide⟩ rfl (Nat.le_of_ble_eq_true rfl) dM_arrive_6 ?_
  refine zg_eqi (zb_1 (by omega) (by omega)) ?_
  refine zg_if_eqF F dM_arrive_9 (tgt := 14) (by decide) (by decide) ?_
  refine zg_iconst F (v := nI 0) (by decide) dM_arrive_12 ?_
  exact zg_iret F E (Nat.zero_le _) (Nat.zero_le _) (fun _ _ h => h) dM_arrive_13
set_option maxRecDepth 100000 in
set_option maxHeartbeats 4000000 in
theorem zM_receipt_bad (l : Launch) (D : va_G) (A : Nat → ClassId) (base : Nat) (mo sz : Nat) (w0 : zg_w) (σ : zm_S) (a b : Int32) (c : Nat) (hc : zc_wrong a b = c) (h0 : 0 < c) (h3 : c < 3) : zg_Met l zm_M_receipt zc_M_receipt 8 (some .int) 2 0 0 D A base [.ref mo, .int a, .int b] (zm_P A mo w0 sz σ) (some (.int (nI 0))) (zm_P A mo w0 sz (zm_f σ c)) := by
  refine zg_met (by decide) (Nat.le_of_ble_eq_true rfl) ?_
  intro K hl hD hA hz hn hnm F E
  subst hl hD hA hz
  show zg_G K (zm_P (zk_A K) mo w0 sz σ) 0 0 0 [(0, .ref mo), (1, .int a), (2, .int b)] []
  subst hc
  refine zg_aload_n F 0 rfl rfl dM_receipt_0 ?_
  refine zg_iload_n F 1 rfl rfl dM_receipt_1 ?_
  refine zg_iload_n F 2 rfl rfl dM_receipt_2 ?_
  refine zg_callS F (zM_wrong _ _ _ _ _ _ _) zv_M_wrong zu_M_wrong zk_708 rfl ⟨by decide, by decide⟩ ⟨by decide, by decide⟩ rfl (Nat.le_of_ble_eq_true rfl) dM_receipt_3 ?_
  refine zg_callV F (zM_refused _ _ _ _ _ _ _ _ _) zv_M_refused zu_M_refused zk_635 (fun _ _ h => h.2.1.1) rfl rfl ⟨by decide, by decide⟩ ⟨by decide, by decide⟩ rfl (Nat.le_of_ble_eq_true rfl) dM_receipt_6 ?_
  refine zg_eqi (zb_1 (by omega) (by omega)) ?_
  refine zg_if_eqF F dM_receipt_9 (tgt := 14) (by decide) (by decide) ?_
  refine zg_iconst F (v := nI 0) (by decide) dM_receipt_12 ?_
  exact zg_iret F E (Nat.zero_le _) (Nat.zero_le _) (fun _ _ h => h) dM_receipt_13
set_option maxRecDepth 100000 in
set_option maxHeartbeats 4000000 in
theorem zM_lose_bad (l : Launch) (D : va_G) (A : Nat → ClassId) (base : Nat) (mo sz : Nat) (w0 : zg_w) (σ : zm_S) (a b : Int32) (c : Nat) (hc : zc_wrong a b = c) (h0 : 0 < c) (h3 : c < 3) : zg_Met l zm_M_lose zc_M_lose 3 (some .int) 2 0 0 D A base [.ref mo, .int a, .int b] (zm_P A mo w0 sz σ) (some (.int (nI 0))) (zm_P A mo w0 sz (zm_f σ c)) := by
  refine zg_met (by decide) (Nat.le_of_ble_eq_true rfl) ?_
  intro K hl hD hA hz hn hnm F E
  subst hl hD hA hz
  show zg_G K (zm_P (zk_A K) mo w0 sz σ) 0 0 0 [(0, .ref mo), (1, .int a), (2, .int b)] []
  subst hc
  refine zg_aload_n F 0 rfl rfl dM_lose_0 ?_
  refine zg_iload_n F 1 rfl rfl dM_lose_1 ?_
  refine zg_iload_n F 2 rfl rfl dM_lose_2 ?_
  refine zg_callS F (zM_wrong _ _ _ _ _ _ _) zv_M_wrong zu_M_wrong zk_708 rfl ⟨by decide, by decide⟩ ⟨by decide, by decide⟩ rfl (Nat.le_of_ble_eq_true rfl) dM_lose_3 ?_
  refine zg_callV F (zM_refused _ _ _ _ _ _ _ _ _) zv_M_refused zu_M_refused zk_635 (fun _ _ h => h.2.1.1) rfl rfl ⟨by decide, by decide⟩ ⟨by decide, by decide⟩ rfl (Nat.le_of_ble_eq_true rfl) dM_lose_6 ?_
  refine zg_eqi (zb_1 (by omega) (by omega)) ?_
  refine zg_if_eqF F dM_lose_9 (tgt := 16) (by decide) (by decide) ?_
  refine zg_iconst F (v := nI 0) (by decide) dM_lose_12 ?_
  refine zg_goto F (tgt := 25) dM_lose_13 (by decide) ?_
  exact zg_iret F E (Nat.zero_le _) (Nat.zero_le _) (fun _ _ h => h) dM_lose_25
theorem zc_wrong0 {a b : Nat} (ha : a < 4) (hb : b < 4) (hn : a ≠ b) : zc_wrong (nI a) (nI b) = 0 := by
  rw [zc_wrong, if_pos ⟨zz4_of ha, zz4_of hb⟩, if_neg (fun q => hn ((nI_eq (by omega) (by omega)).mp q))]
set_option maxRecDepth 100000 in
set_option maxHeartbeats 4000000 in
theorem zM_lose (l : Launch) (D : va_G) (A : Nat → ClassId) (base : Nat) (mo sz : Nat) (w0 : zg_w) (σ : zm_S) (a b : Nat) (ha : a < 4) (hb : b < 4) (hn0 : a ≠ b) : zg_Met l zm_M_lose zc_M_lose 3 (some .int) 2 0 0 D A base [.ref mo, .int (nI a), .int (nI b)] (zm_P A mo w0 sz σ) (some (.int (zm_loseN (zm_f σ 0) (4 * a + b)))) (zm_P A mo w0 sz (zm_lose1 (zm_f σ 0) (4 * a + b))) := by
  refine zg_met (by decide) (Nat.le_of_ble_eq_true rfl) ?_
  intro K hl hD hA hz hn hnm F E
  subst hl hD hA hz
  show zg_G K (zm_P (zk_A K) mo w0 sz σ) 0 0 0 [(0, .ref mo), (1, .int (nI a)), (2, .int (nI b))] []
  refine zg_aload_n F 0 rfl rfl dM_lose_0 ?_
  refine zg_iload_n F 1 rfl rfl dM_lose_1 ?_
  refine zg_iload_n F 2 rfl rfl dM_lose_2 ?_
  refine zg_callS F (zM_wrong _ _ _ _ _ _ _) zv_M_wrong zu_M_wrong zk_708 rfl ⟨by decide, by decide⟩ ⟨by decide, by decide⟩ rfl (Nat.le_of_ble_eq_true rfl) dM_lose_3 ?_
  refine zg_eqi (y := nI 0) (congrArg nI (zc_wrong0 ha hb hn0)) ?_
  refine zg_callV F (zM_refused _ _ _ _ _ _ _ _ _) zv_M_refused zu_M_refused zk_635 (fun _ _ h => h.2.1.1) rfl rfl ⟨by decide, by decide⟩ ⟨by decide, by decide⟩ rfl (Nat.le_of_ble_eq_true rfl) dM_lose_6 ?_
  refine zg_eqi zb_0 ?_
  refine zg_if_eqT F (tgt := 16) dM_lose_9 (by decide) (rfl) ?_
  refine zg_aload_n F 0 rfl rfl dM_lose_16 ?_
  refine zg_iconst F (v := nI 4) (by decide) dM_lose_17 ?_
  refine zg_iload_n F 1 rfl rfl dM_lose_18 ?_
  refine zg_imul F (by first | exact pk_mul _ _ | rfl) dM_lose_19 ?_
  refine zg_iload_n F 2 rfl rfl dM_lose_20 ?_
  refine zg_iadd F (by first | exact nI_add _ _ | rfl) dM_lose_21 ?_
  refine zg_callV F (zM_loseOne _ _ _ _ _ _ _ (zm_f σ 0) (4 * a + b) (by omega)) zv_M_loseOne zu_M_loseOne zk_727 (fun _ _ h => h.2.1.1) rfl rfl ⟨by decide, by decide⟩ ⟨by decide, by decide⟩ rfl (Nat.le_of_ble_eq_true rfl) dM_lose_22 ?_
  exact zg_iret F E (Nat.zero_le _) (Nat.zero_le _) (fun _ _ h => h) dM_lose_25
theorem zm_send_e {σ : zm_S} {p i j : Nat} {x y z : Int32} : (zm_set (zm_set (zm_set σ 17 p x) 23 i y) 24 j z).1 17 p = x := by rw [zm_set_o (by decide), zm_set_o (by decide), zm_set_s]
set_option maxRecDepth 100000 in
set_option maxHeartbeats 4000000 in
theorem zM_send (l : Launch) (D : va_G) (A : Nat → ClassId) (base : Nat) (mo sz : Nat) (w0 : zg_w) (σ : zm_S) (a b : Nat) (ha : a < 4) (hb : b < 4) (hn0 : a ≠ b) (bx : Nat) (hx : bx ≤ 8) (he : σ.1 16 (4 * a + b) = nI bx) : zg_Met l zm_M_send zc_M_send 4 (some .int) 2 0 0 D A base [.ref mo, .int (nI a), .int (nI b)] (zm_P A mo w0 sz σ) (some (.int (zo_send σ (4 * a + b) bx).2)) (zm_P A mo w0 sz (zo_send σ (4 * a + b) bx).1) := by
  refine zg_met (by decide) (Nat.le_of_ble_eq_true rfl) ?_
  intro K hl hD hA hz hn hnm F E
  subst hl hD hA hz
  show zg_G K (zm_P (zk_A K) mo w0 sz σ) 0 0 0 [(0, .ref mo), (1, .int (nI a)), (2, .int (nI b))] []
  refine zg_aload_n F 0 rfl rfl dM_send_0 ?_
  refine zg_iload_n F 1 rfl rfl dM_send_1 ?_
  refine zg_iload_n F 2 rfl rfl dM_send_2 ?_
  refine zg_callS F (zM_wrong _ _ _ _ _ _ _) zv_M_wrong zu_M_wrong zk_708 rfl ⟨by decide, by decide⟩ ⟨by decide, by decide⟩ rfl (Nat.le_of_ble_eq_true rfl) dM_send_3 ?_
  refine zg_eqi (y := nI 0) (congrArg nI (zc_wrong0 ha hb hn0)) ?_
  refine zg_callV F (zM_refused _ _ _ _ _ _ _ _ _) zv_M_refused zu_M_refused zk_635 (fun _ _ h => h.2.1.1) rfl rfl ⟨by decide, by decide⟩ ⟨by decide, by decide⟩ rfl (Nat.le_of_ble_eq_true rfl) dM_send_6 ?_
  refine zg_eqi zb_0 ?_
  refine zg_if_eqT F (tgt := 14) dM_send_9 (by decide) (rfl) ?_
  refine zg_iconst F (v := nI 4) (by decide) dM_send_14 ?_
  refine zg_iload_n F 1 rfl rfl dM_send_15 ?_
  refine zg_imul F (by first | exact pk_mul _ _ | rfl) dM_send_16 ?_
  refine zg_iload_n F 2 rfl rfl dM_send_17 ?_
  refine zg_iadd F (by first | exact nI_add _ _ | rfl) dM_send_18 ?_
  refine zg_istore_n F rfl (by rw [hn]; decide) (L' := [(3, _), (0, _), (1, _), (2, _)]) rfl dM_send_19 ?_
  refine zg_aload_n F 1 rfl rfl dM_send_20 ?_
  refine zg_get F (fun _ _ h => h.2.1.1) rfl zi_M 19 (by decide) rfl zk_557 rfl dM_send_21 ?_
  refine zg_iload_n F 0 rfl rfl dM_send_24 ?_
  refine zm_iald F 16 (by decide) rfl (by show _ < 16; omega) rfl dM_send_25 ?_
  refine zg_eqi (he) ?_
  by_cases h1 : bx = 0
  · rw [zo_send, if_pos h1] at E
    refine zg_if_neF F dM_send_26 (tgt := 31) (by decide) (by rw [h1]; rfl) ?_
    refine zg_iconst F (v := nI 0) (by decide) dM_send_29 ?_
    exact zg_iret F E (Nat.zero_le _) (Nat.zero_le _) (fun _ _ h => h) dM_send_30
  · rw [zo_send, if_neg h1] at E
    refine zg_if_neT F (tgt := 31) dM_send_26 (by decide) (nI_ne0 (by omega) (by omega)) ?_
    refine zg_aload_n F 1 rfl rfl dM_send_31 ?_
    refine zg_get F (fun _ _ h => h.2.1.1) rfl zi_M 20 (by decide) rfl zk_558 rfl dM_send_32 ?_
    refine zg_iload_n F 0 rfl rfl dM_send_35 ?_
    refine zg_aload_n F 1 rfl rfl dM_send_36 ?_
    refine zg_get F (fun _ _ h => h.2.1.1) rfl zi_M 23 (by decide) rfl zk_561 rfl dM_send_37 ?_
    refine zg_bipush F (v := nI 8) (by decide) dM_send_40 ?_
    refine zg_iload_n F 0 rfl rfl dM_send_42 ?_
    refine zg_imul F (by first | exact pk_mul _ _ | rfl) dM_send_43 ?_
    refine zm_iald F 20 (by decide) rfl (by show _ < 128; omega) rfl dM_send_44 ?_
    refine zm_iast F 17 (by decide) rfl (by show _ < 16; omega) dM_send_45 ?_
    refine zg_aload_n F 1 rfl rfl dM_send_46 ?_
    refine zg_get F (fun _ _ h => h.2.1.1) rfl zi_M 26 (by decide) rfl zk_564 rfl dM_send_47 ?_
    refine zg_iload_n F 0 rfl rfl dM_send_50 ?_
    refine zg_aload_n F 1 rfl rfl dM_send_51 ?_
    refine zg_get F (fun _ _ h => h.2.1.1) rfl zi_M 24 (by decide) rfl zk_562 rfl dM_send_52 ?_
    refine zg_bipush F (v := nI 8) (by decide) dM_send_55 ?_
    refine zg_iload_n F 0 rfl rfl dM_send_57 ?_
    refine zg_imul F (by first | exact pk_mul _ _ | rfl) dM_send_58 ?_
    refine zm_iald F 21 (by decide) rfl (by show _ < 128; omega) rfl dM_send_59 ?_
    refine zm_iast F 23 (by decide) rfl (by show _ < 16; omega) dM_send_60 ?_
    refine zg_aload_n F 1 rfl rfl dM_send_61 ?_
    refine zg_get F (fun _ _ h => h.2.1.1) rfl zi_M 27 (by decide) rfl zk_565 rfl dM_send_62 ?_
    refine zg_iload_n F 0 rfl rfl dM_send_65 ?_
    refine zg_aload_n F 1 rfl rfl dM_send_66 ?_
    refine zg_get F (fun _ _ h => h.2.1.1) rfl zi_M 25 (by decide) rfl zk_563 rfl dM_send_67 ?_
    refine zg_bipush F (v := nI 8) (by decide) dM_send_70 ?_
    refine zg_iload_n F 0 rfl rfl dM_send_72 ?_
    refine zg_imul F (by first | exact pk_mul _ _ | rfl) dM_send_73 ?_
    refine zm_iald F 22 (by decide) rfl (by show _ < 128; omega) rfl dM_send_74 ?_
    refine zm_iast F 24 (by decide) rfl (by show _ < 16; omega) dM_send_75 ?_
    refine zg_aload_n F 1 rfl rfl dM_send_76 ?_
    refine zg_get F (fun _ _ h => h.2.1.1) rfl zi_M 20 (by decide) rfl zk_558 rfl dM_send_77 ?_
    refine zg_iload_n F 0 rfl rfl dM_send_80 ?_
    refine zm_iald F 17 (by decide) rfl (by show _ < 16; omega) rfl dM_send_81 ?_
    refine zg_eqi (zm_send_e) ?_
    exact zg_iret F E (Nat.zero_le _) (Nat.zero_le _) (fun _ _ h => h) dM_send_82
set_option maxRecDepth 100000 in
set_option maxHeartbeats 4000000 in
theorem zM_arrive (l : Launch) (D : va_G) (A : Nat → ClassId) (base : Nat) (mo sz : Nat) (w0 : zg_w) (σ : zm_S) (a b : Nat) (ha : a < 4) (hb : b < 4) (hn0 : a ≠ b) (lg T had : Nat) (hl : lg < 16) (hT8 : T ≤ 80) (hh : had ≤ 6) (hT : σ.1 25 2 = nI T) (hg : σ.1 23 (4 * a + b) = nI lg) (hw : σ.1 12 b = nI had) (hp : ∀ k, k < had → ∃ p, p ≤ 4 ∧ σ.1 14 (6 * b + k) = nI p) : zg_Met l zm_M_arrive zc_M_arrive 6 (some .int) 4 0 0 D A base [.ref mo, .int (nI a), .int (nI b)] (zm_P A mo w0 sz σ) (some (.int (zo_arrive σ (4 * a + b) b lg T had).2)) (zm_P A mo w0 sz (zo_arrive σ (4 * a + b) b lg T had).1) := by
  refine zg_met (by decide) (Nat.le_of_ble_eq_true rfl) ?_
  intro K hl0 hD hA hz hn hnm F E
  subst hl0 hD hA hz
  show zg_G K (zm_P (zk_A K) mo w0 sz σ) 0 0 0 [(0, .ref mo), (1, .int (nI a)), (2, .int (nI b))] []
  refine zg_aload_n F 0 rfl rfl dM_arrive_0 ?_
  refine zg_iload_n F 1 rfl rfl dM_arrive_1 ?_
  refine zg_iload_n F 2 rfl rfl dM_arrive_2 ?_
  refine zg_callS F (zM_wrong _ _ _ _ _ _ _) zv_M_wrong zu_M_wrong zk_708 rfl ⟨by decide, by decide⟩ ⟨by decide, by decide⟩ rfl (Nat.le_of_ble_eq_true rfl) dM_arrive_3 ?_
  refine zg_eqi (y := nI 0) (congrArg nI (zc_wrong0 ha hb hn0)) ?_
  refine zg_callV F (zM_refused _ _ _ _ _ _ _ _ _) zv_M_refused zu_M_refused zk_635 (fun _ _ h => h.2.1.1) rfl rfl ⟨by decide, by decide⟩ ⟨by decide, by decide⟩ rfl (Nat.le_of_ble_eq_true rfl) dM_arrive_6 ?_
  refine zg_eqi zb_0 ?_
  refine zg_if_eqT F (tgt := 14) dM_arrive_9 (by decide) (rfl) ?_
  refine zg_iconst F (v := nI 4) (by decide) dM_arrive_14 ?_
  refine zg_iload_n F 1 rfl rfl dM_arrive_15 ?_
  refine zg_imul F (by first | exact pk_mul _ _ | rfl) dM_arrive_16 ?_
  refine zg_iload_n F 2 rfl rfl dM_arrive_17 ?_
  refine zg_iadd F (by first | exact nI_add _ _ | rfl) dM_arrive_18 ?_
  refine zg_istore_n F rfl (by rw [hn]; decide) (L' := [(3, _), (0, _), (1, _), (2, _)]) rfl dM_arrive_19 ?_
  refine zg_aload_n F 1 rfl rfl dM_arrive_20 ?_
  refine zg_get F (fun _ _ h => h.2.1.1) rfl zi_M 20 (by decide) rfl zk_558 rfl dM_arrive_21 ?_
  refine zg_iload_n F 0 rfl rfl dM_arrive_24 ?_
  refine zm_iald F 17 (by decide) rfl (by show _ < 16; omega) rfl dM_arrive_25 ?_
  refine zg_istore F (by rw [hn]; decide) (L' := [(4, _), (3, _), (0, _), (1, _), (2, _)]) rfl dM_arrive_26 ?_
  refine zg_iload F 0 rfl dM_arrive_28 ?_
  by_cases h1 : σ.1 17 (4 * a + b) = 0
  · rw [zo_arrive, if_pos h1] at E
    refine zg_if_neF F dM_arrive_30 (tgt := 35) (by decide) (h1) ?_
    refine zg_iconst F (v := -1) (by decide) dM_arrive_33 ?_
    exact zg_iret F E (Nat.zero_le _) (Nat.zero_le _) (fun _ _ h => h) dM_arrive_34
  · rw [zo_arrive, if_neg h1] at E
    refine zg_if_neT F (tgt := 35) dM_arrive_30 (by decide) (h1) ?_
    refine zg_aload_n F 2 rfl rfl dM_arrive_35 ?_
    refine zg_get F (fun _ _ h => h.2.1.1) rfl zi_M 20 (by decide) rfl zk_558 rfl dM_arrive_36 ?_
    refine zg_iload_n F 1 rfl rfl dM_arrive_39 ?_
    refine zg_iconst F (v := nI 0) (by decide) dM_arrive_40 ?_
    refine zm_iast F 17 (by decide) rfl (by show _ < 16; omega) dM_arrive_41 ?_
    refine zg_iconst F (v := nI 0) (by decide) dM_arrive_42 ?_
    refine zg_istore F (by rw [hn]; decide) (L' := [(5, _), (4, _), (3, _), (0, _), (1, _), (2, _)]) rfl dM_arrive_43 ?_
    refine zg_iload F 1 rfl dM_arrive_45 ?_
    refine zg_aload_n F 3 rfl rfl dM_arrive_47 ?_
    refine zg_get F (fun _ _ h => h.2.1.1) rfl zi_M 21 (by decide) rfl zk_559 rfl dM_arrive_48 ?_
    refine zg_iload_n F 2 rfl rfl dM_arrive_51 ?_
    refine zm_iald F 18 (by decide) rfl (by show _ < 16; omega) rfl dM_arrive_52 ?_
    refine zg_iconst F (v := nI 1) (by decide) dM_arrive_53 ?_
    refine zg_iadd F (by first | exact nI_add _ _ | rfl) dM_arrive_54 ?_
    by_cases h2 : σ.1 17 (4 * a + b) = σ.1 18 (4 * a + b) + nI 1
    · rw [if_pos h2] at E
      refine zg_icmp_neF F dM_arrive_55 (tgt := 112) (by decide) (h2) ?_
      refine zg_aload_n F 3 rfl rfl dM_arrive_58 ?_
      refine zg_get F (fun _ _ h => h.2.1.1) rfl zi_M 21 (by decide) rfl zk_559 rfl dM_arrive_59 ?_
      refine zg_iload_n F 2 rfl rfl dM_arrive_62 ?_
      refine zg_iload F 1 rfl dM_arrive_63 ?_
      refine zm_iast F 18 (by decide) rfl (by show _ < 16; omega) dM_arrive_65 ?_
      refine zg_aload_n F 3 rfl rfl dM_arrive_66 ?_
      refine zg_get F (fun _ _ h => h.2.1.1) rfl zi_M 3 (by decide) rfl zk_541 rfl dM_arrive_67 ?_
      refine zg_bipush F (v := nI 16) (by decide) dM_arrive_70 ?_
      refine zg_iload_n F 5 rfl rfl dM_arrive_72 ?_
      refine zg_imul F (by first | exact pk_mul _ _ | rfl) dM_arrive_73 ?_
      refine zg_aload_n F 3 rfl rfl dM_arrive_74 ?_
      refine zg_get F (fun _ _ h => h.2.1.1) rfl zi_M 26 (by decide) rfl zk_564 rfl dM_arrive_75 ?_
      refine zg_iload_n F 2 rfl rfl dM_arrive_78 ?_
      refine zm_iald F 23 (by decide) rfl (by show _ < 16; omega) rfl dM_arrive_79 ?_
      refine zg_eqi (hg) ?_
      refine zg_iadd F (by first | exact nI_add _ _ | rfl) dM_arrive_80 ?_
      refine zg_aload_n F 3 rfl rfl dM_arrive_81 ?_
      refine zg_get F (fun _ _ h => h.2.1.1) rfl zi_M 3 (by decide) rfl zk_541 rfl dM_arrive_82 ?_
      refine zg_bipush F (v := nI 16) (by decide) dM_arrive_85 ?_
      refine zg_iload_n F 5 rfl rfl dM_arrive_87 ?_
      refine zg_imul F (by first | exact pk_mul _ _ | rfl) dM_arrive_88 ?_
      refine zg_aload_n F 3 rfl rfl dM_arrive_89 ?_
      refine zg_get F (fun _ _ h => h.2.1.1) rfl zi_M 26 (by decide) rfl zk_564 rfl dM_arrive_90 ?_
      refine zg_iload_n F 2 rfl rfl dM_arrive_93 ?_
      refine zm_iald F 23 (by decide) rfl (by show _ < 16; omega) rfl dM_arrive_94 ?_
      refine zg_eqi (hg) ?_
      refine zg_iadd F (by first | exact nI_add _ _ | rfl) dM_arrive_95 ?_
      refine zm_iald F 2 (by decide) rfl (by show _ < 64; omega) rfl dM_arrive_96 ?_
      refine zg_aload_n F 3 rfl rfl dM_arrive_97 ?_
      refine zg_get F (fun _ _ h => h.2.1.1) rfl zi_M 27 (by decide) rfl zk_565 rfl dM_arrive_98 ?_
      refine zg_iload_n F 2 rfl rfl dM_arrive_101 ?_
      refine zm_iald F 24 (by decide) rfl (by show _ < 16; omega) rfl dM_arrive_102 ?_
      refine zg_iadd F (by first | exact nI_add _ _ | rfl) dM_arrive_103 ?_
      refine zm_iast F 2 (by decide) rfl (by show _ < 64; omega) dM_arrive_104 ?_
      refine zg_aload_n F 3 rfl rfl dM_arrive_105 ?_
      refine zg_iload_n F 5 rfl rfl dM_arrive_106 ?_
      have s1 : (zm_tak σ (4 * a + b) b lg).1 12 b = nI had := hw
      have s2 : (zm_tak σ (4 * a + b) b lg).1 25 2 = nI T := hT
      have s3 : ∀ k, k < had → ∃ p, p ≤ 4 ∧ (zm_tak σ (4 * a + b) b lg).1 14 (6 * b + k) = nI p := hp
      refine zg_callV F (zM_serve _ _ _ _ _ _ _ (zm_tak σ (4 * a + b) b lg) T b had hb hh hT8 s1 s2 s3) zv_M_serve zu_M_serve zk_676 (fun _ _ h => h.2.1.1) rfl rfl ⟨by decide, by decide⟩ ⟨by decide, by decide⟩ rfl (Nat.le_of_ble_eq_true rfl) dM_arrive_107 ?_
      refine zg_istore F (by rw [hn]; decide) (L' := [(5, _), (4, _), (3, _), (0, _), (1, _), (2, _)]) rfl dM_arrive_110 ?_
      refine zg_aload_n F 3 rfl rfl dM_arrive_112 ?_
      refine zg_get F (fun _ _ h => h.2.1.1) rfl zi_M 22 (by decide) rfl zk_560 rfl dM_arrive_113 ?_
      refine zg_iload_n F 2 rfl rfl dM_arrive_116 ?_
      refine zg_aload_n F 3 rfl rfl dM_arrive_117 ?_
      refine zg_get F (fun _ _ h => h.2.1.1) rfl zi_M 21 (by decide) rfl zk_559 rfl dM_arrive_118 ?_
      refine zg_iload_n F 2 rfl rfl dM_arrive_121 ?_
      refine zm_iald F 18 (by decide) rfl (by show _ < 16; omega) rfl dM_arrive_122 ?_
      refine zm_iast F 19 (by decide) rfl (by show _ < 16; omega) dM_arrive_123 ?_
      refine zg_iload F 0 rfl dM_arrive_124 ?_
      exact zg_iret F E (Nat.zero_le _) (Nat.zero_le _) (fun _ _ h => h) dM_arrive_126
    · rw [if_neg h2] at E
      refine zg_icmp_neT F (tgt := 112) dM_arrive_55 (by decide) (h2) ?_
      refine zg_aload_n F 3 rfl rfl dM_arrive_112 ?_
      refine zg_get F (fun _ _ h => h.2.1.1) rfl zi_M 22 (by decide) rfl zk_560 rfl dM_arrive_113 ?_
      refine zg_iload_n F 2 rfl rfl dM_arrive_116 ?_
      refine zg_aload_n F 3 rfl rfl dM_arrive_117 ?_
      refine zg_get F (fun _ _ h => h.2.1.1) rfl zi_M 21 (by decide) rfl zk_559 rfl dM_arrive_118 ?_
      refine zg_iload_n F 2 rfl rfl dM_arrive_121 ?_
      refine zm_iald F 18 (by decide) rfl (by show _ < 16; omega) rfl dM_arrive_122 ?_
      refine zm_iast F 19 (by decide) rfl (by show _ < 16; omega) dM_arrive_123 ?_
      refine zg_iload F 0 rfl dM_arrive_124 ?_
      exact zg_iret F E (Nat.zero_le _) (Nat.zero_le _) (fun _ _ h => h) dM_arrive_126
end
section
set_option maxRecDepth 100000 in
set_option maxHeartbeats 4000000 in
theorem zM_wishes_bad (l : Launch) (D : va_G) (A : Nat → ClassId) (base : Nat) (mo sz : Nat) (w0 : zg_w) (σ : zm_S) (port : Int32) (h : ¬ zz4 port) : zg_Met l zm_M_wishes zc_M_wishes 2 (some .int) 1 0 0 D A base [.ref mo, .int port] (zm_P A mo w0 sz σ) (some (.int (nI 0))) (zm_P A mo w0 sz (zm_f σ 1)) := by
  refine zg_met (by decide) (Nat.le_of_ble_eq_true rfl) ?_
  intro K hl hD hA hz hn hnm F E
  subst hl hD hA hz
  show zg_G K (zm_P (zk_A K) mo w0 sz σ) 0 0 0 [(0, .ref mo), (1, .int port)] []
  refine zg_aload_n F 0 rfl rfl dM_wishes_0 ?_
  refine zg_iload_n F 1 rfl rfl dM_wishes_1 ?_
  refine zg_callS F (zM_isFour _ _ _ _ _ _) zv_M_isFour zu_M_isFour zk_632 rfl ⟨by decide, by decide⟩ ⟨by decide, by decide⟩ rfl (Nat.le_of_ble_eq_true rfl) dM_wishes_2 ?_
  refine zg_eqi (y := nI 0) (zb_f (h)) ?_
  refine zg_if_eqT F (tgt := 12) dM_wishes_5 (by decide) (rfl) ?_
  refine zg_iconst F (v := nI 1) (by decide) dM_wishes_12 ?_
  refine zg_callV F (zM_refused _ _ _ _ _ _ _ _ _) zv_M_refused zu_M_refused zk_635 (fun _ _ h => h.2.1.1) rfl rfl ⟨by decide, by decide⟩ ⟨by decide, by decide⟩ rfl (Nat.le_of_ble_eq_true rfl) dM_wishes_13 ?_
  refine zg_eqi (zb_1 (by omega) (by omega)) ?_
  refine zg_if_eqF F dM_wishes_16 (tgt := 23) (by decide) (by decide) ?_
  refine zg_iconst F (v := nI 0) (by decide) dM_wishes_19 ?_
  refine zg_goto F (tgt := 29) dM_wishes_20 (by decide) ?_
  exact zg_iret F E (Nat.zero_le _) (Nat.zero_le _) (fun _ _ h => h) dM_wishes_29
set_option maxRecDepth 100000 in
set_option maxHeartbeats 4000000 in
theorem zM_till_bad (l : Launch) (D : va_G) (A : Nat → ClassId) (base : Nat) (mo sz : Nat) (w0 : zg_w) (σ : zm_S) (port : Int32) (h : ¬ zz4 port) : zg_Met l zm_M_till zc_M_till 2 (some .long) 1 0 0 D A base [.ref mo, .int port] (zm_P A mo w0 sz σ) (some (.long 0)) (zm_P A mo w0 sz (zm_f σ 1)) := by
  refine zg_met (by decide) (Nat.le_of_ble_eq_true rfl) ?_
  intro K hl hD hA hz hn hnm F E
  subst hl hD hA hz
  show zg_G K (zm_P (zk_A K) mo w0 sz σ) 0 0 0 [(0, .ref mo), (1, .int port)] []
  refine zg_aload_n F 0 rfl rfl dM_till_0 ?_
  refine zg_iload_n F 1 rfl rfl dM_till_1 ?_
  refine zg_callS F (zM_isFour _ _ _ _ _ _) zv_M_isFour zu_M_isFour zk_632 rfl ⟨by decide, by decide⟩ ⟨by decide, by decide⟩ rfl (Nat.le_of_ble_eq_true rfl) dM_till_2 ?_
  refine zg_eqi (y := nI 0) (zb_f (h)) ?_
  refine zg_if_eqT F (tgt := 12) dM_till_5 (by decide) (rfl) ?_
  refine zg_iconst F (v := nI 1) (by decide) dM_till_12 ?_
  refine zg_callV F (zM_refused _ _ _ _ _ _ _ _ _) zv_M_refused zu_M_refused zk_635 (fun _ _ h => h.2.1.1) rfl rfl ⟨by decide, by decide⟩ ⟨by decide, by decide⟩ rfl (Nat.le_of_ble_eq_true rfl) dM_till_13 ?_
  refine zg_eqi (zb_1 (by omega) (by omega)) ?_
  refine zg_if_eqF F dM_till_16 (tgt := 23) (by decide) (by decide) ?_
  refine zg_lconst F (v := 0) rfl dM_till_19 ?_
  refine zg_goto F (tgt := 29) dM_till_20 (by decide) ?_
  exact zg_lret F E (Nat.zero_le _) (Nat.zero_le _) (fun _ _ h => h) dM_till_29
set_option maxRecDepth 100000 in
set_option maxHeartbeats 4000000 in
theorem zM_crash_bad (l : Launch) (D : va_G) (A : Nat → ClassId) (base : Nat) (mo sz : Nat) (w0 : zg_w) (σ : zm_S) (port : Int32) (h : ¬ zz4 port) : zg_Met l zm_M_crash zc_M_crash 4 (some .int) 1 0 0 D A base [.ref mo, .int port] (zm_P A mo w0 sz σ) (some (.int (nI 0))) (zm_P A mo w0 sz (zm_f σ 1)) := by
  refine zg_met (by decide) (Nat.le_of_ble_eq_true rfl) ?_
  intro K hl hD hA hz hn hnm F E
  subst hl hD hA hz
  show zg_G K (zm_P (zk_A K) mo w0 sz σ) 0 0 0 [(0, .ref mo), (1, .int port)] []
  refine zg_aload_n F 0 rfl rfl dM_crash_0 ?_
  refine zg_iload_n F 1 rfl rfl dM_crash_1 ?_
  refine zg_callS F (zM_isFour _ _ _ _ _ _) zv_M_isFour zu_M_isFour zk_632 rfl ⟨by decide, by decide⟩ ⟨by decide, by decide⟩ rfl (Nat.le_of_ble_eq_true rfl) dM_crash_2 ?_
  refine zg_eqi (y := nI 0) (zb_f (h)) ?_
  refine zg_if_eqT F (tgt := 12) dM_crash_5 (by decide) (rfl) ?_
  refine zg_iconst F (v := nI 1) (by decide) dM_crash_12 ?_
  refine zg_callV F (zM_refused _ _ _ _ _ _ _ _ _) zv_M_refused zu_M_refused zk_635 (fun _ _ h => h.2.1.1) rfl rfl ⟨by decide, by decide⟩ ⟨by decide, by decide⟩ rfl (Nat.le_of_ble_eq_true rfl) dM_crash_13 ?_
  refine zg_eqi (zb_1 (by omega) (by omega)) ?_
  refine zg_if_eqF F dM_crash_16 (tgt := 21) (by decide) (by decide) ?_
  refine zg_iconst F (v := nI 0) (by decide) dM_crash_19 ?_
  exact zg_iret F E (Nat.zero_le _) (Nat.zero_le _) (fun _ _ h => h) dM_crash_20
set_option maxRecDepth 100000 in
set_option maxHeartbeats 4000000 in
theorem zM_wishes (l : Launch) (D : va_G) (A : Nat → ClassId) (base : Nat) (mo sz : Nat) (w0 : zg_w) (σ : zm_S) (port : Nat) (hp : port < 4) : zg_Met l zm_M_wishes zc_M_wishes 2 (some .int) 1 0 0 D A base [.ref mo, .int (nI port)] (zm_P A mo w0 sz σ) (some (.int (σ.1 12 port))) (zm_P A mo w0 sz (zm_f σ 0)) := by
  refine zg_met (by decide) (Nat.le_of_ble_eq_true rfl) ?_
  intro K hl hD hA hz hn hnm F E
  subst hl hD hA hz
  show zg_G K (zm_P (zk_A K) mo w0 sz σ) 0 0 0 [(0, .ref mo), (1, .int (nI port))] []
  refine zg_aload_n F 0 rfl rfl dM_wishes_0 ?_
  refine zg_iload_n F 1 rfl rfl dM_wishes_1 ?_
  refine zg_callS F (zM_isFour _ _ _ _ _ _) zv_M_isFour zu_M_isFour zk_632 rfl ⟨by decide, by decide⟩ ⟨by decide, by decide⟩ rfl (Nat.le_of_ble_eq_true rfl) dM_wishes_2 ?_
  refine zg_eqi (y := nI 1) (zb_t (zz4_of hp)) ?_
  refine zg_if_eqF F dM_wishes_5 (tgt := 12) (by decide) (by decide) ?_
  refine zg_iconst F (v := nI 0) (by decide) dM_wishes_8 ?_
  refine zg_goto F (tgt := 13) dM_wishes_9 (by decide) ?_
  refine zg_callV F (zM_refused _ _ _ _ _ _ _ _ _) zv_M_refused zu_M_refused zk_635 (fun _ _ h => h.2.1.1) rfl rfl ⟨by decide, by decide⟩ ⟨by decide, by decide⟩ rfl (Nat.le_of_ble_eq_true rfl) dM_wishes_13 ?_
  refine zg_eqi zb_0 ?_
  refine zg_if_eqT F (tgt := 23) dM_wishes_16 (by decide) (rfl) ?_
  refine zg_aload_n F 0 rfl rfl dM_wishes_23 ?_
  refine zg_get F (fun _ _ h => h.2.1.1) rfl zi_M 15 (by decide) rfl zk_553 rfl dM_wishes_24 ?_
  refine zg_iload_n F 1 rfl rfl dM_wishes_27 ?_
  refine zm_iald F 12 (by decide) rfl (by show _ < 4; omega) rfl dM_wishes_28 ?_
  exact zg_iret F E (Nat.zero_le _) (Nat.zero_le _) (fun _ _ h => h) dM_wishes_29
set_option maxRecDepth 100000 in
set_option maxHeartbeats 4000000 in
theorem zM_till (l : Launch) (D : va_G) (A : Nat → ClassId) (base : Nat) (mo sz : Nat) (w0 : zg_w) (σ : zm_S) (port : Nat) (hp : port < 4) : zg_Met l zm_M_till zc_M_till 2 (some .long) 1 0 0 D A base [.ref mo, .int (nI port)] (zm_P A mo w0 sz σ) (some (.long (σ.2 11 port))) (zm_P A mo w0 sz (zm_f σ 0)) := by
  refine zg_met (by decide) (Nat.le_of_ble_eq_true rfl) ?_
  intro K hl hD hA hz hn hnm F E
  subst hl hD hA hz
  show zg_G K (zm_P (zk_A K) mo w0 sz σ) 0 0 0 [(0, .ref mo), (1, .int (nI port))] []
  refine zg_aload_n F 0 rfl rfl dM_till_0 ?_
  refine zg_iload_n F 1 rfl rfl dM_till_1 ?_
  refine zg_callS F (zM_isFour _ _ _ _ _ _) zv_M_isFour zu_M_isFour zk_632 rfl ⟨by decide, by decide⟩ ⟨by decide, by decide⟩ rfl (Nat.le_of_ble_eq_true rfl) dM_till_2 ?_
  refine zg_eqi (y := nI 1) (zb_t (zz4_of hp)) ?_
  refine zg_if_eqF F dM_till_5 (tgt := 12) (by decide) (by decide) ?_
  refine zg_iconst F (v := nI 0) (by decide) dM_till_8 ?_
  refine zg_goto F (tgt := 13) dM_till_9 (by decide) ?_
  refine zg_callV F (zM_refused _ _ _ _ _ _ _ _ _) zv_M_refused zu_M_refused zk_635 (fun _ _ h => h.2.1.1) rfl rfl ⟨by decide, by decide⟩ ⟨by decide, by decide⟩ rfl (Nat.le_of_ble_eq_true rfl) dM_till_13 ?_
  refine zg_eqi zb_0 ?_
  refine zg_if_eqT F (tgt := 23) dM_till_16 (by decide) (rfl) ?_
  refine zg_aload_n F 0 rfl rfl dM_till_23 ?_
  refine zg_get F (fun _ _ h => h.2.1.1) rfl zi_M 14 (by decide) rfl zk_552 rfl dM_till_24 ?_
  refine zg_iload_n F 1 rfl rfl dM_till_27 ?_
  refine zm_lald F 11 (by decide) rfl (by show _ < 4; omega) rfl dM_till_28 ?_
  exact zg_lret F E (Nat.zero_le _) (Nat.zero_le _) (fun _ _ h => h) dM_till_29
set_option maxRecDepth 100000 in
set_option maxHeartbeats 4000000 in
theorem zM_air_bad (l : Launch) (D : va_G) (A : Nat → ClassId) (base : Nat) (mo sz : Nat) (w0 : zg_w) (σ : zm_S) (s leg : Int32) (h : ¬ (zz4 s ∧ zz4 leg)) : zg_Met l zm_M_air zc_M_air 6 (some .int) 1 0 0 D A base [.ref mo, .int s, .int leg] (zm_P A mo w0 sz σ) (some (.int (nI 0))) (zm_P A mo w0 sz (zm_f σ 1)) := by
  refine zg_met (by decide) (Nat.le_of_ble_eq_true rfl) ?_
  intro K hl hD hA hz hn hnm F E
  subst hl hD hA hz
  show zg_G K (zm_P (zk_A K) mo w0 sz σ) 0 0 0 [(0, .ref mo), (1, .int s), (2, .int leg)] []
  refine zg_aload_n F 0 rfl rfl dM_air_0 ?_
  refine zg_iload_n F 1 rfl rfl dM_air_1 ?_
  by_cases h1 : zz4 s
  · refine zg_callS F (zM_isFour _ _ _ _ _ _) zv_M_isFour zu_M_isFour zk_632 rfl ⟨by decide, by decide⟩ ⟨by decide, by decide⟩ rfl (Nat.le_of_ble_eq_true rfl) dM_air_2 ?_
    refine zg_eqi (y := nI 1) (zb_t (h1)) ?_
    refine zg_if_eqF F dM_air_5 (tgt := 19) (by decide) (by decide) ?_
    refine zg_iload_n F 2 rfl rfl dM_air_8 ?_
    refine zg_callS F (zM_isFour _ _ _ _ _ _) zv_M_isFour zu_M_isFour zk_632 rfl ⟨by decide, by decide⟩ ⟨by decide, by decide⟩ rfl (Nat.le_of_ble_eq_true rfl) dM_air_9 ?_
    refine zg_eqi (y := nI 0) (zb_f (fun q => h ⟨h1, q⟩)) ?_
    refine zg_if_eqT F (tgt := 19) dM_air_12 (by decide) (rfl) ?_
    refine zg_iconst F (v := nI 1) (by decide) dM_air_19 ?_
    refine zg_callV F (zM_refused _ _ _ _ _ _ _ _ _) zv_M_refused zu_M_refused zk_635 (fun _ _ h => h.2.1.1) rfl rfl ⟨by decide, by decide⟩ ⟨by decide, by decide⟩ rfl (Nat.le_of_ble_eq_true rfl) dM_air_20 ?_
    refine zg_eqi (zb_1 (by omega) (by omega)) ?_
    refine zg_if_eqF F dM_air_23 (tgt := 28) (by decide) (by decide) ?_
    refine zg_iconst F (v := nI 0) (by decide) dM_air_26 ?_
    exact zg_iret F E (Nat.zero_le _) (Nat.zero_le _) (fun _ _ h => h) dM_air_27
  · refine zg_callS F (zM_isFour _ _ _ _ _ _) zv_M_isFour zu_M_isFour zk_632 rfl ⟨by decide, by decide⟩ ⟨by decide, by decide⟩ rfl (Nat.le_of_ble_eq_true rfl) dM_air_2 ?_
    refine zg_eqi (y := nI 0) (zb_f (h1)) ?_
    refine zg_if_eqT F (tgt := 19) dM_air_5 (by decide) (rfl) ?_
    refine zg_iconst F (v := nI 1) (by decide) dM_air_19 ?_
    refine zg_callV F (zM_refused _ _ _ _ _ _ _ _ _) zv_M_refused zu_M_refused zk_635 (fun _ _ h => h.2.1.1) rfl rfl ⟨by decide, by decide⟩ ⟨by decide, by decide⟩ rfl (Nat.le_of_ble_eq_true rfl) dM_air_20 ?_
    refine zg_eqi (zb_1 (by omega) (by omega)) ?_
    refine zg_if_eqF F dM_air_23 (tgt := 28) (by decide) (by decide) ?_
    refine zg_iconst F (v := nI 0) (by decide) dM_air_26 ?_
    exact zg_iret F E (Nat.zero_le _) (Nat.zero_le _) (fun _ _ h => h) dM_air_27
set_option maxRecDepth 100000 in
set_option maxHeartbeats 4000000 in
theorem zM_sold_bad (l : Launch) (D : va_G) (A : Nat → ClassId) (base : Nat) (mo sz : Nat) (w0 : zg_w) (σ : zm_S) (s leg : Int32) (h : ¬ (zz4 s ∧ zz4 leg)) : zg_Met l zm_M_sold zc_M_sold 5 (some .int) 1 0 0 D A base [.ref mo, .int s, .int leg] (zm_P A mo w0 sz σ) (some (.int (nI 0))) (zm_P A mo w0 sz (zm_f σ 1)) := by
  refine zg_met (by decide) (Nat.le_of_ble_eq_true rfl) ?_
  intro K hl hD hA hz hn hnm F E
  subst hl hD hA hz
  show zg_G K (zm_P (zk_A K) mo w0 sz σ) 0 0 0 [(0, .ref mo), (1, .int s), (2, .int leg)] []
  refine zg_aload_n F 0 rfl rfl dM_sold_0 ?_
  refine zg_iload_n F 1 rfl rfl dM_sold_1 ?_
  by_cases h1 : zz4 s
  · refine zg_callS F (zM_isFour _ _ _ _ _ _) zv_M_isFour zu_M_isFour zk_632 rfl ⟨by decide, by decide⟩ ⟨by decide, by decide⟩ rfl (Nat.le_of_ble_eq_true rfl) dM_sold_2 ?_
    refine zg_eqi (y := nI 1) (zb_t (h1)) ?_
    refine zg_if_eqF F dM_sold_5 (tgt := 19) (by decide) (by decide) ?_
    refine zg_iload_n F 2 rfl rfl dM_sold_8 ?_
    refine zg_callS F (zM_isFour _ _ _ _ _ _) zv_M_isFour zu_M_isFour zk_632 rfl ⟨by decide, by decide⟩ ⟨by decide, by decide⟩ rfl (Nat.le_of_ble_eq_true rfl) dM_sold_9 ?_
    refine zg_eqi (y := nI 0) (zb_f (fun q => h ⟨h1, q⟩)) ?_
    refine zg_if_eqT F (tgt := 19) dM_sold_12 (by decide) (rfl) ?_
    refine zg_iconst F (v := nI 1) (by decide) dM_sold_19 ?_
    refine zg_callV F (zM_refused _ _ _ _ _ _ _ _ _) zv_M_refused zu_M_refused zk_635 (fun _ _ h => h.2.1.1) rfl rfl ⟨by decide, by decide⟩ ⟨by decide, by decide⟩ rfl (Nat.le_of_ble_eq_true rfl) dM_sold_20 ?_
    refine zg_eqi (zb_1 (by omega) (by omega)) ?_
    refine zg_if_eqF F dM_sold_23 (tgt := 28) (by decide) (by decide) ?_
    refine zg_iconst F (v := nI 0) (by decide) dM_sold_26 ?_
    exact zg_iret F E (Nat.zero_le _) (Nat.zero_le _) (fun _ _ h => h) dM_sold_27
  · refine zg_callS F (zM_isFour _ _ _ _ _ _) zv_M_isFour zu_M_isFour zk_632 rfl ⟨by decide, by decide⟩ ⟨by decide, by decide⟩ rfl (Nat.le_of_ble_eq_true rfl) dM_sold_2 ?_
    refine zg_eqi (y := nI 0) (zb_f (h1)) ?_
    refine zg_if_eqT F (tgt := 19) dM_sold_5 (by decide) (rfl) ?_
    refine zg_iconst F (v := nI 1) (by decide) dM_sold_19 ?_
    refine zg_callV F (zM_refused _ _ _ _ _ _ _ _ _) zv_M_refused zu_M_refused zk_635 (fun _ _ h => h.2.1.1) rfl rfl ⟨by decide, by decide⟩ ⟨by decide, by decide⟩ rfl (Nat.le_of_ble_eq_true rfl) dM_sold_20 ?_
    refine zg_eqi (zb_1 (by omega) (by omega)) ?_
    refine zg_if_eqF F dM_sold_23 (tgt := 28) (by decide) (by decide) ?_
    refine zg_iconst F (v := nI 0) (by decide) dM_sold_26 ?_
    exact zg_iret F E (Nat.zero_le _) (Nat.zero_le _) (fun _ _ h => h) dM_sold_27
set_option maxRecDepth 100000 in
set_option maxHeartbeats 4000000 in
theorem zM_rights_bad (l : Launch) (D : va_G) (A : Nat → ClassId) (base : Nat) (mo sz : Nat) (w0 : zg_w) (σ : zm_S) (a s leg : Int32) (h : ¬ (zz4 a ∧ zz4 s ∧ zz4 leg)) : zg_Met l zm_M_rights zc_M_rights 5 (some .int) 1 0 0 D A base [.ref mo, .int a, .int s, .int leg] (zm_P A mo w0 sz σ) (some (.int (nI 0))) (zm_P A mo w0 sz (zm_f σ 1)) := by
  refine zg_met (by decide) (Nat.le_of_ble_eq_true rfl) ?_
  intro K hl hD hA hz hn hnm F E
  subst hl hD hA hz
  show zg_G K (zm_P (zk_A K) mo w0 sz σ) 0 0 0 [(0, .ref mo), (1, .int a), (2, .int s), (3, .int leg)] []
  refine zg_iload_n F 1 rfl rfl dM_rights_0 ?_
  by_cases h0 : zz4 a
  · refine zg_callS F (zM_isFour _ _ _ _ _ _) zv_M_isFour zu_M_isFour zk_632 rfl ⟨by decide, by decide⟩ ⟨by decide, by decide⟩ rfl (Nat.le_of_ble_eq_true rfl) dM_rights_1 ?_
    refine zg_eqi (y := nI 1) (zb_t (h0)) ?_
    refine zg_if_eqF F dM_rights_4 (tgt := 25) (by decide) (by decide) ?_
    refine zg_iload_n F 2 rfl rfl dM_rights_7 ?_
    by_cases h1 : zz4 s
    · refine zg_callS F (zM_isFour _ _ _ _ _ _) zv_M_isFour zu_M_isFour zk_632 rfl ⟨by decide, by decide⟩ ⟨by decide, by decide⟩ rfl (Nat.le_of_ble_eq_true rfl) dM_rights_8 ?_
      refine zg_eqi (y := nI 1) (zb_t (h1)) ?_
      refine zg_if_eqF F dM_rights_11 (tgt := 25) (by decide) (by decide) ?_
      refine zg_iload_n F 3 rfl rfl dM_rights_14 ?_
      refine zg_callS F (zM_isFour _ _ _ _ _ _) zv_M_isFour zu_M_isFour zk_632 rfl ⟨by decide, by decide⟩ ⟨by decide, by decide⟩ rfl (Nat.le_of_ble_eq_true rfl) dM_rights_15 ?_
      refine zg_eqi (y := nI 0) (zb_f (fun q => h ⟨h0, h1, q⟩)) ?_
      refine zg_if_eqT F (tgt := 25) dM_rights_18 (by decide) (rfl) ?_
      refine zg_iconst F (v := nI 0) (by decide) dM_rights_25 ?_
      refine zg_istore F (by rw [hn]; decide) (L' := [(4, _), (0, _), (1, _), (2, _), (3, _)]) rfl dM_rights_26 ?_
      refine zg_aload_n F 1 rfl rfl dM_rights_28 ?_
      refine zg_iload F 0 rfl dM_rights_29 ?_
      refine zg_if_eqT F (tgt := 38) dM_rights_31 (by decide) (rfl) ?_
      refine zg_iconst F (v := nI 1) (by decide) dM_rights_38 ?_
      refine zg_callV F (zM_refused _ _ _ _ _ _ _ _ _) zv_M_refused zu_M_refused zk_635 (fun _ _ h => h.2.1.1) rfl rfl ⟨by decide, by decide⟩ ⟨by decide, by decide⟩ rfl (Nat.le_of_ble_eq_true rfl) dM_rights_39 ?_
      refine zg_eqi (zb_1 (by omega) (by omega)) ?_
      refine zg_if_eqF F dM_rights_42 (tgt := 49) (by decide) (by decide) ?_
      refine zg_iconst F (v := nI 0) (by decide) dM_rights_45 ?_
      refine zg_goto F (tgt := 64) dM_rights_46 (by decide) ?_
      exact zg_iret F E (Nat.zero_le _) (Nat.zero_le _) (fun _ _ h => h) dM_rights_64
    · refine zg_callS F (zM_isFour _ _ _ _ _ _) zv_M_isFour zu_M_isFour zk_632 rfl ⟨by decide, by decide⟩ ⟨by decide, by decide⟩ rfl (Nat.le_of_ble_eq_true rfl) dM_rights_8 ?_
      refine zg_eqi (y := nI 0) (zb_f (h1)) ?_
      refine zg_if_eqT F (tgt := 25) dM_rights_11 (by decide) (rfl) ?_
      refine zg_iconst F (v := nI 0) (by decide) dM_rights_25 ?_
      refine zg_istore F (by rw [hn]; decide) (L' := [(4, _), (0, _), (1, _), (2, _), (3, _)]) rfl dM_rights_26 ?_
      refine zg_aload_n F 1 rfl rfl dM_rights_28 ?_
      refine zg_iload F 0 rfl dM_rights_29 ?_
      refine zg_if_eqT F (tgt := 38) dM_rights_31 (by decide) (rfl) ?_
      refine zg_iconst F (v := nI 1) (by decide) dM_rights_38 ?_
      refine zg_callV F (zM_refused _ _ _ _ _ _ _ _ _) zv_M_refused zu_M_refused zk_635 (fun _ _ h => h.2.1.1) rfl rfl ⟨by decide, by decide⟩ ⟨by decide, by decide⟩ rfl (Nat.le_of_ble_eq_true rfl) dM_rights_39 ?_
      refine zg_eqi (zb_1 (by omega) (by omega)) ?_
      refine zg_if_eqF F dM_rights_42 (tgt := 49) (by decide) (by decide) ?_
      refine zg_iconst F (v := nI 0) (by decide) dM_rights_45 ?_
      refine zg_goto F (tgt := 64) dM_rights_46 (by decide) ?_
      exact zg_iret F E (Nat.zero_le _) (Nat.zero_le _) (fun _ _ h => h) dM_rights_64
  · refine zg_callS F (zM_isFour _ _ _ _ _ _) zv_M_isFour zu_M_isFour zk_632 rfl ⟨by decide, by decide⟩ ⟨by decide, by decide⟩ rfl (Nat.le_of_ble_eq_true rfl) dM_rights_1 ?_
    refine zg_eqi (y := nI 0) (zb_f (h0)) ?_
    refine zg_if_eqT F (tgt := 25) dM_rights_4 (by decide) (rfl) ?_
    refine zg_iconst F (v := nI 0) (by decide) dM_rights_25 ?_
    refine zg_istore F (by rw [hn]; decide) (L' := [(4, _), (0, _), (1, _), (2, _), (3, _)]) rfl dM_rights_26 ?_
    refine zg_aload_n F 1 rfl rfl dM_rights_28 ?_
    refine zg_iload F 0 rfl dM_rights_29 ?_
    refine zg_if_eqT F (tgt := 38) dM_rights_31 (by decide) (rfl) ?_
    refine zg_iconst F (v := nI 1) (by decide) dM_rights_38 ?_
    refine zg_callV F (zM_refused _ _ _ _ _ _ _ _ _) zv_M_refused zu_M_refused zk_635 (fun _ _ h => h.2.1.1) rfl rfl ⟨by decide, by decide⟩ ⟨by decide, by decide⟩ rfl (Nat.le_of_ble_eq_true rfl) dM_rights_39 ?_
    refine zg_eqi (zb_1 (by omega) (by omega)) ?_
    refine zg_if_eqF F dM_rights_42 (tgt := 49) (by decide) (by decide) ?_
    refine zg_iconst F (v := nI 0) (by decide) dM_rights_45 ?_
    refine zg_goto F (tgt := 64) dM_rights_46 (by decide) ?_
    exact zg_iret F E (Nat.zero_le _) (Nat.zero_le _) (fun _ _ h => h) dM_rights_64
set_option maxRecDepth 100000 in
set_option maxHeartbeats 4000000 in
theorem zM_rights (l : Launch) (D : va_G) (A : Nat → ClassId) (base : Nat) (mo sz : Nat) (w0 : zg_w) (σ : zm_S) (a s leg : Nat) (ha : a < 4) (hs : s < 4) (hg : leg < 4) : zg_Met l zm_M_rights zc_M_rights 5 (some .int) 1 0 0 D A base [.ref mo, .int (nI a), .int (nI s), .int (nI leg)] (zm_P A mo w0 sz σ) (some (.int (σ.1 2 (16 * a + 4 * s + leg)))) (zm_P A mo w0 sz (zm_f σ 0)) := by
  refine zg_met (by decide) (Nat.le_of_ble_eq_true rfl) ?_
  intro K hl hD hA hz hn hnm F E
  subst hl hD hA hz
  show zg_G K (zm_P (zk_A K) mo w0 sz σ) 0 0 0 [(0, .ref mo), (1, .int (nI a)), (2, .int (nI s)), (3, .int (nI leg))] []
  refine zg_iload_n F 1 rfl rfl dM_rights_0 ?_
  refine zg_callS F (zM_isFour _ _ _ _ _ _) zv_M_isFour zu_M_isFour zk_632 rfl ⟨by decide, by decide⟩ ⟨by decide, by decide⟩ rfl (Nat.le_of_ble_eq_true rfl) dM_rights_1 ?_
  refine zg_eqi (y := nI 1) (zb_t (zz4_of ha)) ?_
  refine zg_if_eqF F dM_rights_4 (tgt := 25) (by decide) (by decide) ?_
  refine zg_iload_n F 2 rfl rfl dM_rights_7 ?_
  refine zg_callS F (zM_isFour _ _ _ _ _ _) zv_M_isFour zu_M_isFour zk_632 rfl ⟨by decide, by decide⟩ ⟨by decide, by decide⟩ rfl (Nat.le_of_ble_eq_true rfl) dM_rights_8 ?_
  refine zg_eqi (y := nI 1) (zb_t (zz4_of hs)) ?_
  refine zg_if_eqF F dM_rights_11 (tgt := 25) (by decide) (by decide) ?_
  refine zg_iload_n F 3 rfl rfl dM_rights_14 ?_
  refine zg_callS F (zM_isFour _ _ _ _ _ _) zv_M_isFour zu_M_isFour zk_632 rfl ⟨by decide, by decide⟩ ⟨by decide, by decide⟩ rfl (Nat.le_of_ble_eq_true rfl) dM_rights_15 ?_
  refine zg_eqi (y := nI 1) (zb_t (zz4_of hg)) ?_
  refine zg_if_eqF F dM_rights_18 (tgt := 25) (by decide) (by decide) ?_
  refine zg_iconst F (v := nI 1) (by decide) dM_rights_21 ?_
  refine zg_goto F (tgt := 26) dM_rights_22 (by decide) ?_
  refine zg_istore F (by rw [hn]; decide) (L' := [(4, _), (0, _), (1, _), (2, _), (3, _)]) rfl dM_rights_26 ?_
  refine zg_aload_n F 1 rfl rfl dM_rights_28 ?_
  refine zg_iload F 0 rfl dM_rights_29 ?_
  refine zg_if_eqF F dM_rights_31 (tgt := 38) (by decide) (by decide) ?_
  refine zg_iconst F (v := nI 0) (by decide) dM_rights_34 ?_
  refine zg_goto F (tgt := 39) dM_rights_35 (by decide) ?_
  refine zg_callV F (zM_refused _ _ _ _ _ _ _ _ _) zv_M_refused zu_M_refused zk_635 (fun _ _ h => h.2.1.1) rfl rfl ⟨by decide, by decide⟩ ⟨by decide, by decide⟩ rfl (Nat.le_of_ble_eq_true rfl) dM_rights_39 ?_
  refine zg_eqi zb_0 ?_
  refine zg_if_eqT F (tgt := 49) dM_rights_42 (by decide) (rfl) ?_
  refine zg_aload_n F 1 rfl rfl dM_rights_49 ?_
  refine zg_get F (fun _ _ h => h.2.1.1) rfl zi_M 3 (by decide) rfl zk_541 rfl dM_rights_50 ?_
  refine zg_bipush F (v := nI 16) (by decide) dM_rights_53 ?_
  refine zg_iload_n F 2 rfl rfl dM_rights_55 ?_
  refine zg_imul F (by first | exact pk_mul _ _ | rfl) dM_rights_56 ?_
  refine zg_iconst F (v := nI 4) (by decide) dM_rights_57 ?_
  refine zg_iload_n F 3 rfl rfl dM_rights_58 ?_
  refine zg_imul F (by first | exact pk_mul _ _ | rfl) dM_rights_59 ?_
  refine zg_iadd F (by first | exact nI_add _ _ | rfl) dM_rights_60 ?_
  refine zg_iload_n F 4 rfl rfl dM_rights_61 ?_
  refine zg_iadd F (by first | exact nI_add _ _ | rfl) dM_rights_62 ?_
  refine zm_iald F 2 (by decide) rfl (by show _ < 64; omega) rfl dM_rights_63 ?_
  exact zg_iret F E (Nat.zero_le _) (Nat.zero_le _) (fun _ _ h => h) dM_rights_64
theorem zm_lies_eq {σ τ : zm_S} {at' leg : Nat} (h3 : ∀ i, σ.1 3 i = τ.1 3 i) (h4 : ∀ i, σ.1 4 i = τ.1 4 i) (h5 : ∀ i, σ.1 5 i = τ.1 5 i) : ∀ n, zm_lies σ at' leg n = zm_lies τ at' leg n
  | 0 => rfl
  | n + 1 => by rw [zm_lies, zm_lies, zm_lies_eq h3 h4 h5 n, h3, h4, h5]
set_option maxRecDepth 100000 in
set_option maxHeartbeats 4000000 in
theorem zM_sold (l : Launch) (D : va_G) (A : Nat → ClassId) (base : Nat) (mo sz : Nat) (w0 : zg_w) (σ : zm_S) (s leg T : Nat) (hs : s < 4) (hg : leg < 4) (hT8 : T ≤ 80) (hT : σ.1 25 2 = nI T) (hq : ∀ t, t < T → ∃ p, p ≤ 4 ∧ σ.1 8 t = nI p) : zg_Met l zm_M_sold zc_M_sold 5 (some .int) 1 0 0 D A base [.ref mo, .int (nI s), .int (nI leg)] (zm_P A mo w0 sz σ) (some (.int (zm_sold σ (4 * s + leg) T))) (zm_P A mo w0 sz (zm_f σ 0)) := by
  refine zg_met (by decide) (Nat.le_of_ble_eq_true rfl) ?_
  intro K hl hD hA hz hn hnm F E
  subst hl hD hA hz
  show zg_G K (zm_P (zk_A K) mo w0 sz σ) 0 0 0 [(0, .ref mo), (1, .int (nI s)), (2, .int (nI leg))] []
  refine zg_aload_n F 0 rfl rfl dM_sold_0 ?_
  refine zg_iload_n F 1 rfl rfl dM_sold_1 ?_
  refine zg_callS F (zM_isFour _ _ _ _ _ _) zv_M_isFour zu_M_isFour zk_632 rfl ⟨by decide, by decide⟩ ⟨by decide, by decide⟩ rfl (Nat.le_of_ble_eq_true rfl) dM_sold_2 ?_
  refine zg_eqi (y := nI 1) (zb_t (zz4_of hs)) ?_
  refine zg_if_eqF F dM_sold_5 (tgt := 19) (by decide) (by decide) ?_
  refine zg_iload_n F 2 rfl rfl dM_sold_8 ?_
  refine zg_callS F (zM_isFour _ _ _ _ _ _) zv_M_isFour zu_M_isFour zk_632 rfl ⟨by decide, by decide⟩ ⟨by decide, by decide⟩ rfl (Nat.le_of_ble_eq_true rfl) dM_sold_9 ?_
  refine zg_eqi (y := nI 1) (zb_t (zz4_of hg)) ?_
  refine zg_if_eqF F dM_sold_12 (tgt := 19) (by decide) (by decide) ?_
  refine zg_iconst F (v := nI 0) (by decide) dM_sold_15 ?_
  refine zg_goto F (tgt := 20) dM_sold_16 (by decide) ?_
  refine zg_callV F (zM_refused _ _ _ _ _ _ _ _ _) zv_M_refused zu_M_refused zk_635 (fun _ _ h => h.2.1.1) rfl rfl ⟨by decide, by decide⟩ ⟨by decide, by decide⟩ rfl (Nat.le_of_ble_eq_true rfl) dM_sold_20 ?_
  refine zg_eqi zb_0 ?_
  refine zg_if_eqT F (tgt := 28) dM_sold_23 (by decide) (rfl) ?_
  refine zg_iconst F (v := nI 0) (by decide) dM_sold_28 ?_
  refine zg_istore_n F rfl (by rw [hn]; decide) (L' := [(3, _), (0, _), (1, _), (2, _)]) rfl dM_sold_29 ?_
  refine zg_iconst F (v := nI 0) (by decide) dM_sold_30 ?_
  refine zg_istore F (by rw [hn]; decide) (L' := [(4, _), (3, _), (0, _), (1, _), (2, _)]) rfl dM_sold_31 ?_
  have loop : ∀ r i, i + r = T → zg_G K (zm_P (zk_A K) mo w0 sz (zm_f σ 0)) 0 0 33 [(4, .int (nI i)), (3, .int (zm_sold σ (4 * s + leg) i)), (0, .ref mo), (1, .int (nI s)), (2, .int (nI leg))] [] := by
    intro r
    induction r with
    | zero =>
      intro i hi
      obtain rfl : i = T := by omega
      refine zg_iload F 0 rfl dM_sold_33 ?_
      refine zg_aload_n F 2 rfl rfl dM_sold_35 ?_
      refine zg_get F (fun _ _ h => h.2.1.1) rfl zi_M 8 (by decide) rfl zk_546 rfl dM_sold_36 ?_
      refine zg_eqi (hT) ?_
      refine zg_icmp_geT F (tgt := 95) dM_sold_39 (by decide) (nI_le (by omega) (by omega)) ?_
      refine zg_iload_n F 1 rfl rfl dM_sold_95 ?_
      exact zg_iret F E (Nat.zero_le _) (Nat.zero_le _) (fun _ _ h => h) dM_sold_96
    | succ r ih =>
      intro i hi
      obtain ⟨p, hp4, hpe⟩ := hq i (by omega)
      have hz : zn (σ.1 8 i) = p := by rw [hpe]; exact zn_nI (by omega)
      have hgo := ih (i + 1) (by omega)
      rw [zm_sold, hz] at hgo
      refine zg_iload F 0 rfl dM_sold_33 ?_
      refine zg_aload_n F 2 rfl rfl dM_sold_35 ?_
      refine zg_get F (fun _ _ h => h.2.1.1) rfl zi_M 8 (by decide) rfl zk_546 rfl dM_sold_36 ?_
      refine zg_eqi (hT) ?_
      refine zg_icmp_geF F dM_sold_39 (tgt := 95) (by decide) (nI_ge (by omega) (by omega)) ?_
      refine zg_aload_n F 2 rfl rfl dM_sold_42 ?_
      refine zg_get F (fun _ _ h => h.2.1.1) rfl zi_M 13 (by decide) rfl zk_551 rfl dM_sold_43 ?_
      refine zg_iload F 0 rfl dM_sold_46 ?_
      refine zm_zald F 10 (by decide) rfl (by show _ < 80; omega) rfl dM_sold_48 ?_
      by_cases h1 : σ.1 10 i = 0
      · rw [if_pos h1] at hgo
        refine zg_if_eqT F (tgt := 87) dM_sold_49 (by decide) (h1) ?_
        refine zg_iload_n F 1 rfl rfl dM_sold_87 ?_
        refine zg_istore_n F rfl (by rw [hn]; decide) (L' := [(3, _), (4, _), (0, _), (1, _), (2, _)]) rfl dM_sold_88 ?_
        refine zg_iinc F 1 rfl (by first | exact zc_inc _ | rfl) (by rw [hn]; decide) (L' := [(4, _), (3, _), (0, _), (1, _), (2, _)]) rfl dM_sold_89 ?_
        refine zg_goto F (tgt := 33) dM_sold_92 (by decide) ?_
        exact hgo
      · rw [if_neg h1] at hgo
        refine zg_if_eqF F dM_sold_49 (tgt := 87) (by decide) (h1) ?_
        refine zg_iload_n F 1 rfl rfl dM_sold_52 ?_
        refine zg_aload_n F 2 rfl rfl dM_sold_53 ?_
        refine zg_get F (fun _ _ h => h.2.1.1) rfl zi_M 10 (by decide) rfl zk_548 rfl dM_sold_54 ?_
        refine zg_iload F 0 rfl dM_sold_57 ?_
        refine zm_iald F 7 (by decide) rfl (by show _ < 80; omega) rfl dM_sold_59 ?_
        refine zg_aload_n F 2 rfl rfl dM_sold_60 ?_
        refine zg_iconst F (v := nI 4) (by decide) dM_sold_61 ?_
        refine zg_iconst F (v := nI 4) (by decide) dM_sold_62 ?_
        refine zg_iload F 0 rfl dM_sold_63 ?_
        refine zg_imul F (by first | exact pk_mul _ _ | rfl) dM_sold_65 ?_
        refine zg_iadd F (by first | exact nI_add _ _ | rfl) dM_sold_66 ?_
        refine zg_aload_n F 2 rfl rfl dM_sold_67 ?_
        refine zg_get F (fun _ _ h => h.2.1.1) rfl zi_M 11 (by decide) rfl zk_549 rfl dM_sold_68 ?_
        refine zg_iload F 0 rfl dM_sold_71 ?_
        refine zm_iald F 8 (by decide) rfl (by show _ < 80; omega) rfl dM_sold_73 ?_
        refine zg_eqi (hpe) ?_
        refine zg_iconst F (v := nI 4) (by decide) dM_sold_74 ?_
        refine zg_iload_n F 3 rfl rfl dM_sold_75 ?_
        refine zg_imul F (by first | exact pk_mul _ _ | rfl) dM_sold_76 ?_
        refine zg_iload_n F 4 rfl rfl dM_sold_77 ?_
        refine zg_iadd F (by first | exact nI_add _ _ | rfl) dM_sold_78 ?_
        refine zg_callV F (zM_lies _ _ _ _ _ _ _ _ (4 + 4 * i) p (4 * s + leg) (by omega) (by omega)) zv_M_lies zu_M_lies zk_656 (fun _ _ h => h.2.1.1) rfl rfl ⟨by decide, by decide⟩ ⟨by decide, by decide⟩ rfl (Nat.le_of_ble_eq_true rfl) dM_sold_79 ?_
        refine zg_eqi (y := zm_lies σ (4 + 4 * i) (4 * s + leg) p) (zm_lies_eq (σ := zm_f σ 0) (τ := σ) (fun _ => rfl) (fun _ => rfl) (fun _ => rfl) _) ?_
        refine zg_imul F (by first | exact pk_mul _ _ | rfl) dM_sold_82 ?_
        refine zg_iadd F (by first | exact nI_add _ _ | rfl) dM_sold_83 ?_
        refine zg_goto F (tgt := 88) dM_sold_84 (by decide) ?_
        refine zg_istore_n F rfl (by rw [hn]; decide) (L' := [(3, _), (4, _), (0, _), (1, _), (2, _)]) rfl dM_sold_88 ?_
        refine zg_iinc F 1 rfl (by first | exact zc_inc _ | rfl) (by rw [hn]; decide) (L' := [(4, _), (3, _), (0, _), (1, _), (2, _)]) rfl dM_sold_89 ?_
        refine zg_goto F (tgt := 33) dM_sold_92 (by decide) ?_
        exact hgo
  exact loop T 0 (by omega)
set_option maxRecDepth 100000 in
set_option maxHeartbeats 4000000 in
theorem zM_air (l : Launch) (D : va_G) (A : Nat → ClassId) (base : Nat) (mo sz : Nat) (w0 : zg_w) (σ : zm_S) (s leg : Nat) (hs : s < 4) (hg : leg < 4) (hb : ∀ p, p < 16 → ∃ b, b ≤ 8 ∧ σ.1 16 p = nI b) : zg_Met l zm_M_air zc_M_air 6 (some .int) 1 0 0 D A base [.ref mo, .int (nI s), .int (nI leg)] (zm_P A mo w0 sz σ) (some (.int (zm_air σ (4 * s + leg) 16))) (zm_P A mo w0 sz (zm_f σ 0)) := by
  refine zg_met (by decide) (Nat.le_of_ble_eq_true rfl) ?_
  intro K hl hD hA hz hn hnm F E
  subst hl hD hA hz
  show zg_G K (zm_P (zk_A K) mo w0 sz σ) 0 0 0 [(0, .ref mo), (1, .int (nI s)), (2, .int (nI leg))] []
  refine zg_aload_n F 0 rfl rfl dM_air_0 ?_
  refine zg_iload_n F 1 rfl rfl dM_air_1 ?_
  refine zg_callS F (zM_isFour _ _ _ _ _ _) zv_M_isFour zu_M_isFour zk_632 rfl ⟨by decide, by decide⟩ ⟨by decide, by decide⟩ rfl (Nat.le_of_ble_eq_true rfl) dM_air_2 ?_
  refine zg_eqi (y := nI 1) (zb_t (zz4_of hs)) ?_
  refine zg_if_eqF F dM_air_5 (tgt := 19) (by decide) (by decide) ?_
  refine zg_iload_n F 2 rfl rfl dM_air_8 ?_
  refine zg_callS F (zM_isFour _ _ _ _ _ _) zv_M_isFour zu_M_isFour zk_632 rfl ⟨by decide, by decide⟩ ⟨by decide, by decide⟩ rfl (Nat.le_of_ble_eq_true rfl) dM_air_9 ?_
  refine zg_eqi (y := nI 1) (zb_t (zz4_of hg)) ?_
  refine zg_if_eqF F dM_air_12 (tgt := 19) (by decide) (by decide) ?_
  refine zg_iconst F (v := nI 0) (by decide) dM_air_15 ?_
  refine zg_goto F (tgt := 20) dM_air_16 (by decide) ?_
  refine zg_callV F (zM_refused _ _ _ _ _ _ _ _ _) zv_M_refused zu_M_refused zk_635 (fun _ _ h => h.2.1.1) rfl rfl ⟨by decide, by decide⟩ ⟨by decide, by decide⟩ rfl (Nat.le_of_ble_eq_true rfl) dM_air_20 ?_
  refine zg_eqi zb_0 ?_
  refine zg_if_eqT F (tgt := 28) dM_air_23 (by decide) (rfl) ?_
  refine zg_iconst F (v := nI 0) (by decide) dM_air_28 ?_
  refine zg_istore_n F rfl (by rw [hn]; decide) (L' := [(3, _), (0, _), (1, _), (2, _)]) rfl dM_air_29 ?_
  refine zg_iconst F (v := nI 0) (by decide) dM_air_30 ?_
  refine zg_istore F (by rw [hn]; decide) (L' := [(4, _), (3, _), (0, _), (1, _), (2, _)]) rfl dM_air_31 ?_
  have loop : ∀ r i, i + r = 16 → zg_G K (zm_P (zk_A K) mo w0 sz (zm_f σ 0)) 0 0 33 [(4, .int (nI i)), (3, .int (zm_air σ (4 * s + leg) i)), (0, .ref mo), (1, .int (nI s)), (2, .int (nI leg))] [] := by
    intro r
    induction r with
    | zero =>
      intro i hi
      obtain rfl : i = 16 := by omega
      refine zg_iload F 0 rfl dM_air_33 ?_
      refine zg_bipush F (v := nI 16) (by decide) dM_air_35 ?_
      refine zg_icmp_geT F (tgt := 123) dM_air_37 (by decide) (nI_le (by omega) (by omega)) ?_
      refine zg_iload_n F 1 rfl rfl dM_air_123 ?_
      exact zg_iret F E (Nat.zero_le _) (Nat.zero_le _) (fun _ _ h => h) dM_air_124
    | succ r ih =>
      intro i hi
      obtain ⟨b, hb8, hbe⟩ := hb i (by omega)
      have hz : zn (σ.1 16 i) = b := by rw [hbe]; exact zn_nI (by omega)
      have hgo := ih (i + 1) (by omega)
      rw [zm_air, hz] at hgo
      refine zg_iload F 0 rfl dM_air_33 ?_
      refine zg_bipush F (v := nI 16) (by decide) dM_air_35 ?_
      refine zg_icmp_geF F dM_air_37 (tgt := 123) (by decide) (nI_ge (by omega) (by omega)) ?_
      refine zg_bipush F (v := nI 8) (by decide) dM_air_40 ?_
      refine zg_iload F 0 rfl dM_air_42 ?_
      refine zg_imul F (by first | exact pk_mul _ _ | rfl) dM_air_44 ?_
      refine zg_istore F (by rw [hn]; decide) (L' := [(5, _), (4, _), (3, _), (0, _), (1, _), (2, _)]) rfl dM_air_45 ?_
      have loop2 : ∀ r k, k + r = b → zg_G K (zm_P (zk_A K) mo w0 sz (zm_f σ 0)) 0 0 47 [(5, .int (nI (8 * i + k))), (4, .int (nI i)), (3, .int (zm_air1 σ (4 * s + leg) i (zm_air σ (4 * s + leg) i) k)), (0, .ref mo), (1, .int (nI s)), (2, .int (nI leg))] [] := by
        intro r
        induction r with
        | zero =>
          intro k hi
          obtain rfl : k = b := by omega
          refine zg_iload F 0 rfl dM_air_47 ?_
          refine zg_bipush F (v := nI 8) (by decide) dM_air_49 ?_
          refine zg_iload F 1 rfl dM_air_51 ?_
          refine zg_imul F (by first | exact pk_mul _ _ | rfl) dM_air_53 ?_
          refine zg_aload_n F 3 rfl rfl dM_air_54 ?_
          refine zg_get F (fun _ _ h => h.2.1.1) rfl zi_M 19 (by decide) rfl zk_557 rfl dM_air_55 ?_
          refine zg_iload F 1 rfl dM_air_58 ?_
          refine zm_iald F 16 (by decide) rfl (by show _ < 16; omega) rfl dM_air_60 ?_
          refine zg_eqi (hbe) ?_
          refine zg_iadd F (by first | exact nI_add _ _ | rfl) dM_air_61 ?_
          refine zg_icmp_geT F (tgt := 117) dM_air_62 (by decide) (nI_le (by omega) (by omega)) ?_
          refine zg_iinc F 1 rfl (by first | exact zc_inc _ | rfl) (by rw [hn]; decide) (L' := [(4, _), (5, _), (3, _), (0, _), (1, _), (2, _)]) rfl dM_air_117 ?_
          refine zg_goto F (tgt := 33) dM_air_120 (by decide) ?_
          refine zg_sub [0, 2, 3, 4, 5] (L' := [(4, _), (3, _), (0, _), (1, _), (2, _)]) rfl ?_
          exact hgo
        | succ r ih =>
          intro k hi
          have hgo2 := ih (k + 1) (by omega)
          rw [zm_air1] at hgo2
          refine zg_iload F 0 rfl dM_air_47 ?_
          refine zg_bipush F (v := nI 8) (by decide) dM_air_49 ?_
          refine zg_iload F 1 rfl dM_air_51 ?_
          refine zg_imul F (by first | exact pk_mul _ _ | rfl) dM_air_53 ?_
          refine zg_aload_n F 3 rfl rfl dM_air_54 ?_
          refine zg_get F (fun _ _ h => h.2.1.1) rfl zi_M 19 (by decide) rfl zk_557 rfl dM_air_55 ?_
          refine zg_iload F 1 rfl dM_air_58 ?_
          refine zm_iald F 16 (by decide) rfl (by show _ < 16; omega) rfl dM_air_60 ?_
          refine zg_eqi (hbe) ?_
          refine zg_iadd F (by first | exact nI_add _ _ | rfl) dM_air_61 ?_
          refine zg_icmp_geF F dM_air_62 (tgt := 117) (by decide) (nI_ge (by omega) (by omega)) ?_
          refine zg_aload_n F 3 rfl rfl dM_air_65 ?_
          refine zg_get F (fun _ _ h => h.2.1.1) rfl zi_M 24 (by decide) rfl zk_562 rfl dM_air_66 ?_
          refine zg_iload F 0 rfl dM_air_69 ?_
          refine zm_iald F 21 (by decide) rfl (by show _ < 128; omega) rfl dM_air_71 ?_
          refine zg_iconst F (v := nI 4) (by decide) dM_air_72 ?_
          refine zg_iload_n F 4 rfl rfl dM_air_73 ?_
          refine zg_imul F (by first | exact pk_mul _ _ | rfl) dM_air_74 ?_
          refine zg_iload_n F 5 rfl rfl dM_air_75 ?_
          refine zg_iadd F (by first | exact nI_add _ _ | rfl) dM_air_76 ?_
          by_cases h1 : σ.1 21 (8 * i + k) = nI (4 * s + leg)
          · refine zg_icmp_neF F dM_air_77 (tgt := 109) (by decide) (h1) ?_
            refine zg_aload_n F 3 rfl rfl dM_air_80 ?_
            refine zg_get F (fun _ _ h => h.2.1.1) rfl zi_M 23 (by decide) rfl zk_561 rfl dM_air_81 ?_
            refine zg_iload F 0 rfl dM_air_84 ?_
            refine zm_iald F 20 (by decide) rfl (by show _ < 128; omega) rfl dM_air_86 ?_
            refine zg_aload_n F 3 rfl rfl dM_air_87 ?_
            refine zg_get F (fun _ _ h => h.2.1.1) rfl zi_M 21 (by decide) rfl zk_559 rfl dM_air_88 ?_
            refine zg_iload F 1 rfl dM_air_91 ?_
            refine zm_iald F 18 (by decide) rfl (by show _ < 16; omega) rfl dM_air_93 ?_
            by_cases h2 : σ.1 18 i < σ.1 20 (8 * i + k)
            · rw [if_pos ⟨h1, h2⟩] at hgo2
              refine zg_icmp_leF F dM_air_94 (tgt := 109) (by decide) (Int32.not_le.mpr h2) ?_
              refine zg_iload_n F 2 rfl rfl dM_air_97 ?_
              refine zg_aload_n F 3 rfl rfl dM_air_98 ?_
              refine zg_get F (fun _ _ h => h.2.1.1) rfl zi_M 25 (by decide) rfl zk_563 rfl dM_air_99 ?_
              refine zg_iload F 0 rfl dM_air_102 ?_
              refine zm_iald F 22 (by decide) rfl (by show _ < 128; omega) rfl dM_air_104 ?_
              refine zg_iadd F (by first | exact nI_add _ _ | rfl) dM_air_105 ?_
              refine zg_goto F (tgt := 110) dM_air_106 (by decide) ?_
              refine zg_istore_n F rfl (by rw [hn]; decide) (L' := [(3, _), (5, _), (4, _), (0, _), (1, _), (2, _)]) rfl dM_air_110 ?_
              refine zg_iinc F 1 rfl (by first | exact zc_inc _ | rfl) (by rw [hn]; decide) (L' := [(5, _), (3, _), (4, _), (0, _), (1, _), (2, _)]) rfl dM_air_111 ?_
              refine zg_goto F (tgt := 47) dM_air_114 (by decide) ?_
              refine zg_sub [0, 2, 1, 3, 4, 5] (L' := [(5, _), (4, _), (3, _), (0, _), (1, _), (2, _)]) rfl ?_
              exact hgo2
            · rw [if_neg (fun q => h2 q.2)] at hgo2
              refine zg_icmp_leT F (tgt := 109) dM_air_94 (by decide) (Int32.not_lt.mp h2) ?_
              refine zg_iload_n F 2 rfl rfl dM_air_109 ?_
              refine zg_istore_n F rfl (by rw [hn]; decide) (L' := [(3, _), (5, _), (4, _), (0, _), (1, _), (2, _)]) rfl dM_air_110 ?_
              refine zg_iinc F 1 rfl (by first | exact zc_inc _ | rfl) (by rw [hn]; decide) (L' := [(5, _), (3, _), (4, _), (0, _), (1, _), (2, _)]) rfl dM_air_111 ?_
              refine zg_goto F (tgt := 47) dM_air_114 (by decide) ?_
              refine zg_sub [0, 2, 1, 3, 4, 5] (L' := [(5, _), (4, _), (3, _), (0, _), (1, _), (2, _)]) rfl ?_
              exact hgo2
          · rw [if_neg (fun q => h1 q.1)] at hgo2
            refine zg_icmp_neT F (tgt := 109) dM_air_77 (by decide) (h1) ?_
            refine zg_iload_n F 2 rfl rfl dM_air_109 ?_
            refine zg_istore_n F rfl (by rw [hn]; decide) (L' := [(3, _), (5, _), (4, _), (0, _), (1, _), (2, _)]) rfl dM_air_110 ?_
            refine zg_iinc F 1 rfl (by first | exact zc_inc _ | rfl) (by rw [hn]; decide) (L' := [(5, _), (3, _), (4, _), (0, _), (1, _), (2, _)]) rfl dM_air_111 ?_
            refine zg_goto F (tgt := 47) dM_air_114 (by decide) ?_
            refine zg_sub [0, 2, 1, 3, 4, 5] (L' := [(5, _), (4, _), (3, _), (0, _), (1, _), (2, _)]) rfl ?_
            exact hgo2
      exact loop2 b 0 (by omega)
  exact loop 16 0 (by omega)
set_option maxRecDepth 100000 in
set_option maxHeartbeats 4000000 in
theorem zM_crash (l : Launch) (D : va_G) (A : Nat → ClassId) (base : Nat) (mo sz : Nat) (w0 : zg_w) (σ : zm_S) (port : Nat) (hp : port < 4) : zg_Met l zm_M_crash zc_M_crash 4 (some .int) 1 0 0 D A base [.ref mo, .int (nI port)] (zm_P A mo w0 sz σ) (some (.int (zm_cra (zm_f σ 0) port 4).2)) (zm_P A mo w0 sz (zm_cra (zm_f σ 0) port 4).1) := by
  refine zg_met (by decide) (Nat.le_of_ble_eq_true rfl) ?_
  intro K hl hD hA hz hn hnm F E
  subst hl hD hA hz
  show zg_G K (zm_P (zk_A K) mo w0 sz σ) 0 0 0 [(0, .ref mo), (1, .int (nI port))] []
  refine zg_aload_n F 0 rfl rfl dM_crash_0 ?_
  refine zg_iload_n F 1 rfl rfl dM_crash_1 ?_
  refine zg_callS F (zM_isFour _ _ _ _ _ _) zv_M_isFour zu_M_isFour zk_632 rfl ⟨by decide, by decide⟩ ⟨by decide, by decide⟩ rfl (Nat.le_of_ble_eq_true rfl) dM_crash_2 ?_
  refine zg_eqi (y := nI 1) (zb_t (zz4_of hp)) ?_
  refine zg_if_eqF F dM_crash_5 (tgt := 12) (by decide) (by decide) ?_
  refine zg_iconst F (v := nI 0) (by decide) dM_crash_8 ?_
  refine zg_goto F (tgt := 13) dM_crash_9 (by decide) ?_
  refine zg_callV F (zM_refused _ _ _ _ _ _ _ _ _) zv_M_refused zu_M_refused zk_635 (fun _ _ h => h.2.1.1) rfl rfl ⟨by decide, by decide⟩ ⟨by decide, by decide⟩ rfl (Nat.le_of_ble_eq_true rfl) dM_crash_13 ?_
  refine zg_eqi zb_0 ?_
  refine zg_if_eqT F (tgt := 21) dM_crash_16 (by decide) (rfl) ?_
  refine zg_iconst F (v := nI 0) (by decide) dM_crash_21 ?_
  refine zg_istore_n F rfl (by rw [hn]; decide) (L' := [(2, _), (0, _), (1, _)]) rfl dM_crash_22 ?_
  refine zg_iconst F (v := nI 0) (by decide) dM_crash_23 ?_
  refine zg_istore_n F rfl (by rw [hn]; decide) (L' := [(3, _), (2, _), (0, _), (1, _)]) rfl dM_crash_24 ?_
  have loop : ∀ r i, i + r = 4 → zg_G K (zm_P (zk_A K) mo w0 sz (zm_cra (zm_f σ 0) port i).1) 0 0 25 [(3, .int (nI i)), (2, .int (zm_cra (zm_f σ 0) port i).2), (0, .ref mo), (1, .int (nI port))] [] := by
    intro r
    induction r with
    | zero =>
      intro i hi
      obtain rfl : i = 4 := by omega
      refine zg_iload_n F 0 rfl rfl dM_crash_25 ?_
      refine zg_iconst F (v := nI 4) (by decide) dM_crash_26 ?_
      refine zg_icmp_geT F (tgt := 63) dM_crash_27 (by decide) (nI_le (by omega) (by omega)) ?_
      refine zg_iload_n F 1 rfl rfl dM_crash_63 ?_
      exact zg_iret F E (Nat.zero_le _) (Nat.zero_le _) (fun _ _ h => h) dM_crash_64
    | succ r ih =>
      intro i hi
      have hgo := ih (i + 1) (by omega)
      rw [zm_cra] at hgo
      generalize zm_cra (zm_f σ 0) port i = q at hgo ⊢
      obtain ⟨S, m⟩ := q
      dsimp only at hgo ⊢
      refine zg_iload_n F 0 rfl rfl dM_crash_25 ?_
      refine zg_iconst F (v := nI 4) (by decide) dM_crash_26 ?_
      refine zg_icmp_geF F dM_crash_27 (tgt := 63) (by decide) (nI_ge (by omega) (by omega)) ?_
      refine zg_iload_n F 0 rfl rfl dM_crash_30 ?_
      refine zg_iload_n F 3 rfl rfl dM_crash_31 ?_
      by_cases h1 : i = port
      · rw [if_pos h1] at hgo
        refine zg_icmp_eqT F (tgt := 57) dM_crash_32 (by decide) (by rw [h1]) ?_
        refine zg_iinc F 0 rfl (by first | exact zc_inc _ | rfl) (by rw [hn]; decide) (L' := [(3, _), (2, _), (0, _), (1, _)]) rfl dM_crash_57 ?_
        refine zg_goto F (tgt := 25) dM_crash_60 (by decide) ?_
        exact hgo
      · rw [if_neg h1] at hgo
        refine zg_icmp_eqF F dM_crash_32 (tgt := 57) (by decide) (fun q => h1 ((nI_eq (by omega) (by omega)).mp q)) ?_
        refine zg_iload_n F 1 rfl rfl dM_crash_35 ?_
        refine zg_aload_n F 2 rfl rfl dM_crash_36 ?_
        refine zg_iconst F (v := nI 4) (by decide) dM_crash_37 ?_
        refine zg_iload_n F 3 rfl rfl dM_crash_38 ?_
        refine zg_imul F (by first | exact pk_mul _ _ | rfl) dM_crash_39 ?_
        refine zg_iload_n F 0 rfl rfl dM_crash_40 ?_
        refine zg_iadd F (by first | exact nI_add _ _ | rfl) dM_crash_41 ?_
        refine zg_callV F (zM_loseOne _ _ _ _ _ _ _ S (4 * port + i) (by omega)) zv_M_loseOne zu_M_loseOne zk_727 (fun _ _ h => h.2.1.1) rfl rfl ⟨by decide, by decide⟩ ⟨by decide, by decide⟩ rfl (Nat.le_of_ble_eq_true rfl) dM_crash_42 ?_
        refine zg_iadd F rfl dM_crash_45 ?_
        refine zg_aload_n F 2 rfl rfl dM_crash_46 ?_
        refine zg_iconst F (v := nI 4) (by decide) dM_crash_47 ?_
        refine zg_iload_n F 0 rfl rfl dM_crash_48 ?_
        refine zg_imul F (by first | exact pk_mul _ _ | rfl) dM_crash_49 ?_
        refine zg_iload_n F 3 rfl rfl dM_crash_50 ?_
        refine zg_iadd F (by first | exact nI_add _ _ | rfl) dM_crash_51 ?_
        refine zg_callV F (zM_loseOne _ _ _ _ _ _ _ (zm_lose1 S (4 * port + i)) (4 * i + port) (by omega)) zv_M_loseOne zu_M_loseOne zk_727 (fun _ _ h => h.2.1.1) rfl rfl ⟨by decide, by decide⟩ ⟨by decide, by decide⟩ rfl (Nat.le_of_ble_eq_true rfl) dM_crash_52 ?_
        refine zg_iadd F rfl dM_crash_55 ?_
        refine zg_istore_n F rfl (by rw [hn]; decide) (L' := [(2, _), (3, _), (0, _), (1, _)]) rfl dM_crash_56 ?_
        refine zg_iinc F 1 rfl (by first | exact zc_inc _ | rfl) (by rw [hn]; decide) (L' := [(3, _), (2, _), (0, _), (1, _)]) rfl dM_crash_57 ?_
        refine zg_goto F (tgt := 25) dM_crash_60 (by decide) ?_
        exact hgo
  exact loop 4 0 rfl
set_option maxRecDepth 100000 in
set_option maxHeartbeats 4000000 in
theorem zM_share_bad1 (l : Launch) (D : va_G) (A : Nat → ClassId) (base : Nat) (mo sz : Nat) (w0 : zg_w) (σ : zm_S) (a b s : Int32) (h : ¬ zz4 s) : zg_Met l zm_M_share zc_M_share 7 (some .int) 2 0 0 D A base [.ref mo, .int a, .int b, .int s] (zm_P A mo w0 sz σ) (some (.int (nI 0))) (zm_P A mo w0 sz (zm_f σ 1)) := by
  refine zg_met (by decide) (Nat.le_of_ble_eq_true rfl) ?_
  intro K hl hD hA hz hn hnm F E
  subst hl hD hA hz
  show zg_G K (zm_P (zk_A K) mo w0 sz σ) 0 0 0 [(0, .ref mo), (1, .int a), (2, .int b), (3, .int s)] []
  refine zg_aload_n F 0 rfl rfl dM_share_0 ?_
  refine zg_iload_n F 3 rfl rfl dM_share_1 ?_
  refine zg_callS F (zM_isFour _ _ _ _ _ _) zv_M_isFour zu_M_isFour zk_632 rfl ⟨by decide, by decide⟩ ⟨by decide, by decide⟩ rfl (Nat.le_of_ble_eq_true rfl) dM_share_2 ?_
  refine zg_eqi (y := nI 0) (zb_f (h)) ?_
  refine zg_if_neF F dM_share_5 (tgt := 12) (by decide) (rfl) ?_
  refine zg_iconst F (v := nI 1) (by decide) dM_share_8 ?_
  refine zg_goto F (tgt := 17) dM_share_9 (by decide) ?_
  refine zg_callV F (zM_refused _ _ _ _ _ _ _ _ _) zv_M_refused zu_M_refused zk_635 (fun _ _ h => h.2.1.1) rfl rfl ⟨by decide, by decide⟩ ⟨by decide, by decide⟩ rfl (Nat.le_of_ble_eq_true rfl) dM_share_17 ?_
  refine zg_eqi (zb_1 (by omega) (by omega)) ?_
  refine zg_if_eqF F dM_share_20 (tgt := 25) (by decide) (by decide) ?_
  refine zg_iconst F (v := nI 0) (by decide) dM_share_23 ?_
  exact zg_iret F E (Nat.zero_le _) (Nat.zero_le _) (fun _ _ h => h) dM_share_24
set_option maxRecDepth 100000 in
set_option maxHeartbeats 4000000 in
theorem zM_share_bad2 (l : Launch) (D : va_G) (A : Nat → ClassId) (base : Nat) (mo sz : Nat) (w0 : zg_w) (σ : zm_S) (a b s : Int32) (c : Nat) (h : zz4 s) (hc : zc_wrong a b = c) (h0 : 0 < c) (h3 : c < 3) : zg_Met l zm_M_share zc_M_share 7 (some .int) 2 0 0 D A base [.ref mo, .int a, .int b, .int s] (zm_P A mo w0 sz σ) (some (.int (nI 0))) (zm_P A mo w0 sz (zm_f σ c)) := by
  refine zg_met (by decide) (Nat.le_of_ble_eq_true rfl) ?_
  intro K hl hD hA hz hn hnm F E
  subst hl hD hA hz
  show zg_G K (zm_P (zk_A K) mo w0 sz σ) 0 0 0 [(0, .ref mo), (1, .int a), (2, .int b), (3, .int s)] []
  subst hc
  refine zg_aload_n F 0 rfl rfl dM_share_0 ?_
  refine zg_iload_n F 3 rfl rfl dM_share_1 ?_
  refine zg_callS F (zM_isFour _ _ _ _ _ _) zv_M_isFour zu_M_isFour zk_632 rfl ⟨by decide, by decide⟩ ⟨by decide, by decide⟩ rfl (Nat.le_of_ble_eq_true rfl) dM_share_2 ?_
  refine zg_eqi (y := nI 1) (zb_t (h)) ?_
  refine zg_if_neT F (tgt := 12) dM_share_5 (by decide) (by decide) ?_
  refine zg_iload_n F 1 rfl rfl dM_share_12 ?_
  refine zg_iload_n F 2 rfl rfl dM_share_13 ?_
  refine zg_callS F (zM_wrong _ _ _ _ _ _ _) zv_M_wrong zu_M_wrong zk_708 rfl ⟨by decide, by decide⟩ ⟨by decide, by decide⟩ rfl (Nat.le_of_ble_eq_true rfl) dM_share_14 ?_
  refine zg_callV F (zM_refused _ _ _ _ _ _ _ _ _) zv_M_refused zu_M_refused zk_635 (fun _ _ h => h.2.1.1) rfl rfl ⟨by decide, by decide⟩ ⟨by decide, by decide⟩ rfl (Nat.le_of_ble_eq_true rfl) dM_share_17 ?_
  refine zg_eqi (zb_1 (by omega) (by omega)) ?_
  refine zg_if_eqF F dM_share_20 (tgt := 25) (by decide) (by decide) ?_
  refine zg_iconst F (v := nI 0) (by decide) dM_share_23 ?_
  exact zg_iret F E (Nat.zero_le _) (Nat.zero_le _) (fun _ _ h => h) dM_share_24
theorem zm_encl_16 {σ : zm_S} {a b leg bx : Nat} {n : Int32} : (zm_encl σ a b leg bx n).1 16 (4 * a + b) = nI (bx + 1) := by
  unfold zm_encl
  dsimp only
  rw [zm_set_o (by decide), zm_set_s]
theorem zm_shr_16 {σ : zm_S} {a b s bx : Nat} (he : σ.1 16 (4 * a + b) = nI bx) (hx : bx ≤ 8) : ∀ i, (zm_shr σ a b s bx i).1.1 16 (4 * a + b) = nI (bx + (zm_shr σ a b s bx i).2) ∧ bx + (zm_shr σ a b s bx i).2 ≤ 8 ∧ (zm_shr σ a b s bx i).2 ≤ i
  | 0 => ⟨he, hx, Nat.le_refl _⟩
  | i + 1 => by
    obtain ⟨h1, h2, h3⟩ := zm_shr_16 (s := s) he hx i
    rw [zm_shr]
    split
    · rename_i h
      exact ⟨zm_encl_16, h.2, Nat.succ_le_succ h3⟩
    · exact ⟨h1, h2, Nat.le_succ_of_le h3⟩
theorem zm_rcp_le {σ : zm_S} {p : Nat} {u : Int32} : ∀ i, (zm_rcp σ p u i).2 ≤ i
  | 0 => Nat.le_refl _
  | i + 1 => by
    have h := zm_rcp_le (σ := σ) (p := p) (u := u) i
    rw [zm_rcp]
    split
    · exact Nat.succ_le_succ h
    · exact Nat.le_succ_of_le h
set_option maxRecDepth 100000 in
set_option maxHeartbeats 4000000 in
theorem zM_share (l : Launch) (D : va_G) (A : Nat → ClassId) (base : Nat) (mo sz : Nat) (w0 : zg_w) (σ : zm_S) (a b : Nat) (ha : a < 4) (hb : b < 4) (hn0 : a ≠ b) (s bx : Nat) (hs : s < 4) (hx : bx ≤ 8) (he : σ.1 16 (4 * a + b) = nI bx) : zg_Met l zm_M_share zc_M_share 7 (some .int) 2 0 0 D A base [.ref mo, .int (nI a), .int (nI b), .int (nI s)] (zm_P A mo w0 sz σ) (some (.int (nI (zm_shr (zm_f σ 0) a b s bx 4).2))) (zm_P A mo w0 sz (zm_shr (zm_f σ 0) a b s bx 4).1) := by
  refine zg_met (by decide) (Nat.le_of_ble_eq_true rfl) ?_
  intro K hl hD hA hz hn hnm F E
  subst hl hD hA hz
  show zg_G K (zm_P (zk_A K) mo w0 sz σ) 0 0 0 [(0, .ref mo), (1, .int (nI a)), (2, .int (nI b)), (3, .int (nI s))] []
  refine zg_aload_n F 0 rfl rfl dM_share_0 ?_
  refine zg_iload_n F 3 rfl rfl dM_share_1 ?_
  refine zg_callS F (zM_isFour _ _ _ _ _ _) zv_M_isFour zu_M_isFour zk_632 rfl ⟨by decide, by decide⟩ ⟨by decide, by decide⟩ rfl (Nat.le_of_ble_eq_true rfl) dM_share_2 ?_
  refine zg_eqi (y := nI 1) (zb_t (zz4_of hs)) ?_
  refine zg_if_neT F (tgt := 12) dM_share_5 (by decide) (by decide) ?_
  refine zg_iload_n F 1 rfl rfl dM_share_12 ?_
  refine zg_iload_n F 2 rfl rfl dM_share_13 ?_
  refine zg_callS F (zM_wrong _ _ _ _ _ _ _) zv_M_wrong zu_M_wrong zk_708 rfl ⟨by decide, by decide⟩ ⟨by decide, by decide⟩ rfl (Nat.le_of_ble_eq_true rfl) dM_share_14 ?_
  refine zg_eqi (y := nI 0) (congrArg nI (zc_wrong0 ha hb hn0)) ?_
  refine zg_callV F (zM_refused _ _ _ _ _ _ _ _ _) zv_M_refused zu_M_refused zk_635 (fun _ _ h => h.2.1.1) rfl rfl ⟨by decide, by decide⟩ ⟨by decide, by decide⟩ rfl (Nat.le_of_ble_eq_true rfl) dM_share_17 ?_
  refine zg_eqi zb_0 ?_
  refine zg_if_eqT F (tgt := 25) dM_share_20 (by decide) (rfl) ?_
  refine zg_iconst F (v := nI 0) (by decide) dM_share_25 ?_
  refine zg_istore F (by rw [hn]; decide) (L' := [(4, _), (0, _), (1, _), (2, _), (3, _)]) rfl dM_share_26 ?_
  refine zg_iconst F (v := nI 4) (by decide) dM_share_28 ?_
  refine zg_iload_n F 4 rfl rfl dM_share_29 ?_
  refine zg_imul F (by first | exact pk_mul _ _ | rfl) dM_share_30 ?_
  refine zg_istore F (by rw [hn]; decide) (L' := [(5, _), (4, _), (0, _), (1, _), (2, _), (3, _)]) rfl dM_share_31 ?_
  have loop : ∀ r i, i + r = 4 → zg_G K (zm_P (zk_A K) mo w0 sz (zm_shr (zm_f σ 0) a b s bx i).1) 0 0 33 [(5, .int (nI (4 * s + i))), (4, .int (nI (zm_shr (zm_f σ 0) a b s bx i).2)), (0, .ref mo), (1, .int (nI a)), (2, .int (nI b)), (3, .int (nI s))] [] := by
    intro r
    induction r with
    | zero =>
      intro i hi
      obtain rfl : i = 4 := by omega
      refine zg_iload F 0 rfl dM_share_33 ?_
      refine zg_iconst F (v := nI 4) (by decide) dM_share_35 ?_
      refine zg_iload_n F 5 rfl rfl dM_share_36 ?_
      refine zg_imul F (by first | exact pk_mul _ _ | rfl) dM_share_37 ?_
      refine zg_iconst F (v := nI 4) (by decide) dM_share_38 ?_
      refine zg_iadd F (by first | exact nI_add _ _ | rfl) dM_share_39 ?_
      refine zg_icmp_geT F (tgt := 112) dM_share_40 (by decide) (nI_le (by omega) (by omega)) ?_
      refine zg_iload F 1 rfl dM_share_112 ?_
      exact zg_iret F E (Nat.zero_le _) (Nat.zero_le _) (fun _ _ h => h) dM_share_114
    | succ r ih =>
      intro i hi
      obtain ⟨g1, g2, g3⟩ := zm_shr_16 (σ := zm_f σ 0) (s := s) he hx i
      have hgo := ih (i + 1) (by omega)
      rw [zm_shr] at hgo
      generalize zm_shr (zm_f σ 0) a b s bx i = q at hgo g1 g2 g3 ⊢
      obtain ⟨S, m⟩ := q
      dsimp only at hgo g1 g2 g3 ⊢
      refine zg_iload F 0 rfl dM_share_33 ?_
      refine zg_iconst F (v := nI 4) (by decide) dM_share_35 ?_
      refine zg_iload_n F 5 rfl rfl dM_share_36 ?_
      refine zg_imul F (by first | exact pk_mul _ _ | rfl) dM_share_37 ?_
      refine zg_iconst F (v := nI 4) (by decide) dM_share_38 ?_
      refine zg_iadd F (by first | exact nI_add _ _ | rfl) dM_share_39 ?_
      refine zg_icmp_geF F dM_share_40 (tgt := 112) (by decide) (nI_ge (by omega) (by omega)) ?_
      refine zg_aload_n F 2 rfl rfl dM_share_43 ?_
      refine zg_get F (fun _ _ h => h.2.1.1) rfl zi_M 3 (by decide) rfl zk_541 rfl dM_share_44 ?_
      refine zg_bipush F (v := nI 16) (by decide) dM_share_47 ?_
      refine zg_iload_n F 3 rfl rfl dM_share_49 ?_
      refine zg_imul F (by first | exact pk_mul _ _ | rfl) dM_share_50 ?_
      refine zg_iload F 0 rfl dM_share_51 ?_
      refine zg_iadd F (by first | exact nI_add _ _ | rfl) dM_share_53 ?_
      refine zm_iald F 2 (by decide) rfl (by show _ < 64; omega) rfl dM_share_54 ?_
      refine zg_aload_n F 2 rfl rfl dM_share_55 ?_
      refine zg_get F (fun _ _ h => h.2.1.1) rfl zi_M 3 (by decide) rfl zk_541 rfl dM_share_56 ?_
      refine zg_bipush F (v := nI 16) (by decide) dM_share_59 ?_
      refine zg_iload_n F 4 rfl rfl dM_share_61 ?_
      refine zg_imul F (by first | exact pk_mul _ _ | rfl) dM_share_62 ?_
      refine zg_iload F 0 rfl dM_share_63 ?_
      refine zg_iadd F (by first | exact nI_add _ _ | rfl) dM_share_65 ?_
      refine zm_iald F 2 (by decide) rfl (by show _ < 64; omega) rfl dM_share_66 ?_
      refine zg_isub F rfl dM_share_67 ?_
      refine zg_iconst F (v := nI 2) (by decide) dM_share_68 ?_
      refine zg_idiv F (by decide) rfl dM_share_69 ?_
      refine zg_istore F (by rw [hn]; decide) (L' := [(6, _), (5, _), (4, _), (0, _), (1, _), (2, _), (3, _)]) rfl dM_share_70 ?_
      refine zg_iload F 0 rfl dM_share_72 ?_
      by_cases h1 : 0 < zm_half S a b (4 * s + i)
      · refine zg_if_leF F dM_share_74 (tgt := 106) (by decide) (Int32.not_le.mpr h1) ?_
        refine zg_aload_n F 3 rfl rfl dM_share_77 ?_
        refine zg_get F (fun _ _ h => h.2.1.1) rfl zi_M 19 (by decide) rfl zk_557 rfl dM_share_78 ?_
        refine zg_iconst F (v := nI 4) (by decide) dM_share_81 ?_
        refine zg_iload_n F 4 rfl rfl dM_share_82 ?_
        refine zg_imul F (by first | exact pk_mul _ _ | rfl) dM_share_83 ?_
        refine zg_iload_n F 5 rfl rfl dM_share_84 ?_
        refine zg_iadd F (by first | exact nI_add _ _ | rfl) dM_share_85 ?_
        refine zm_iald F 16 (by decide) rfl (by show _ < 16; omega) rfl dM_share_86 ?_
        refine zg_eqi (g1) ?_
        refine zg_bipush F (v := nI 8) (by decide) dM_share_87 ?_
        by_cases h2 : bx + m < 8
        · rw [if_pos ⟨h1, h2⟩] at hgo
          refine zg_icmp_geF F dM_share_89 (tgt := 106) (by decide) (nI_ge h2 (by decide)) ?_
          refine zg_aload_n F 3 rfl rfl dM_share_92 ?_
          refine zg_iload_n F 4 rfl rfl dM_share_93 ?_
          refine zg_iload_n F 5 rfl rfl dM_share_94 ?_
          refine zg_iload F 1 rfl dM_share_95 ?_
          refine zg_iload F 0 rfl dM_share_97 ?_
          refine zg_callV F (zM_enclose _ _ _ _ _ _ _ S a b (4 * s + i) (bx + m) (zm_half S a b (4 * s + i)) ha hb (by omega) h2 g1) zv_M_enclose zu_M_enclose zk_700 (fun _ _ h => h.2.1.1) rfl rfl ⟨by decide, by decide⟩ ⟨by decide, by decide⟩ rfl (Nat.le_of_ble_eq_true rfl) dM_share_99 ?_
          refine zg_pop F rfl dM_share_102 ?_
          refine zg_iinc F 2 rfl (by first | exact zc_inc _ | rfl) (by rw [hn]; decide) (L' := [(4, _), (6, _), (5, _), (0, _), (1, _), (2, _), (3, _)]) rfl dM_share_103 ?_
          refine zg_iinc F 2 rfl (by first | exact zc_inc _ | rfl) (by rw [hn]; decide) (L' := [(5, _), (4, _), (6, _), (0, _), (1, _), (2, _), (3, _)]) rfl dM_share_106 ?_
          refine zg_goto F (tgt := 33) dM_share_109 (by decide) ?_
          refine zg_sub [0, 1, 3, 4, 5, 6] (L' := [(5, _), (4, _), (0, _), (1, _), (2, _), (3, _)]) rfl ?_
          exact hgo
        · rw [if_neg (fun q => h2 q.2)] at hgo
          refine zg_icmp_geT F (tgt := 106) dM_share_89 (by decide) (nI_le (by omega) (by omega)) ?_
          refine zg_iinc F 1 rfl (by first | exact zc_inc _ | rfl) (by rw [hn]; decide) (L' := [(5, _), (6, _), (4, _), (0, _), (1, _), (2, _), (3, _)]) rfl dM_share_106 ?_
          refine zg_goto F (tgt := 33) dM_share_109 (by decide) ?_
          refine zg_sub [0, 2, 3, 4, 5, 6] (L' := [(5, _), (4, _), (0, _), (1, _), (2, _), (3, _)]) rfl ?_
          exact hgo
      · rw [if_neg (fun q => h1 q.1)] at hgo
        refine zg_if_leT F (tgt := 106) dM_share_74 (by decide) (Int32.not_lt.mp h1) ?_
        refine zg_iinc F 1 rfl (by first | exact zc_inc _ | rfl) (by rw [hn]; decide) (L' := [(5, _), (6, _), (4, _), (0, _), (1, _), (2, _), (3, _)]) rfl dM_share_106 ?_
        refine zg_goto F (tgt := 33) dM_share_109 (by decide) ?_
        refine zg_sub [0, 2, 3, 4, 5, 6] (L' := [(5, _), (4, _), (0, _), (1, _), (2, _), (3, _)]) rfl ?_
        exact hgo
  exact loop 4 0 rfl
set_option maxRecDepth 100000 in
set_option maxHeartbeats 4000000 in
theorem zM_receipt (l : Launch) (D : va_G) (A : Nat → ClassId) (base : Nat) (mo sz : Nat) (w0 : zg_w) (σ : zm_S) (a b : Nat) (ha : a < 4) (hb : b < 4) (hn0 : a ≠ b) (bx : Nat) (hx : bx ≤ 8) (he : σ.1 16 (4 * a + b) = nI bx) : zg_Met l zm_M_receipt zc_M_receipt 8 (some .int) 2 0 0 D A base [.ref mo, .int (nI a), .int (nI b)] (zm_P A mo w0 sz σ) (some (.int (zo_receipt σ (4 * a + b) bx).2)) (zm_P A mo w0 sz (zo_receipt σ (4 * a + b) bx).1) := by
  refine zg_met (by decide) (Nat.le_of_ble_eq_true rfl) ?_
  intro K hl hD hA hz hn hnm F E
  subst hl hD hA hz
  show zg_G K (zm_P (zk_A K) mo w0 sz σ) 0 0 0 [(0, .ref mo), (1, .int (nI a)), (2, .int (nI b))] []
  refine zg_aload_n F 0 rfl rfl dM_receipt_0 ?_
  refine zg_iload_n F 1 rfl rfl dM_receipt_1 ?_
  refine zg_iload_n F 2 rfl rfl dM_receipt_2 ?_
  refine zg_callS F (zM_wrong _ _ _ _ _ _ _) zv_M_wrong zu_M_wrong zk_708 rfl ⟨by decide, by decide⟩ ⟨by decide, by decide⟩ rfl (Nat.le_of_ble_eq_true rfl) dM_receipt_3 ?_
  refine zg_eqi (y := nI 0) (congrArg nI (zc_wrong0 ha hb hn0)) ?_
  refine zg_callV F (zM_refused _ _ _ _ _ _ _ _ _) zv_M_refused zu_M_refused zk_635 (fun _ _ h => h.2.1.1) rfl rfl ⟨by decide, by decide⟩ ⟨by decide, by decide⟩ rfl (Nat.le_of_ble_eq_true rfl) dM_receipt_6 ?_
  refine zg_eqi zb_0 ?_
  refine zg_if_eqT F (tgt := 14) dM_receipt_9 (by decide) (rfl) ?_
  refine zg_iconst F (v := nI 4) (by decide) dM_receipt_14 ?_
  refine zg_iload_n F 1 rfl rfl dM_receipt_15 ?_
  refine zg_imul F (by first | exact pk_mul _ _ | rfl) dM_receipt_16 ?_
  refine zg_iload_n F 2 rfl rfl dM_receipt_17 ?_
  refine zg_iadd F (by first | exact nI_add _ _ | rfl) dM_receipt_18 ?_
  refine zg_istore_n F rfl (by rw [hn]; decide) (L' := [(3, _), (0, _), (1, _), (2, _)]) rfl dM_receipt_19 ?_
  refine zg_aload_n F 1 rfl rfl dM_receipt_20 ?_
  refine zg_get F (fun _ _ h => h.2.1.1) rfl zi_M 22 (by decide) rfl zk_560 rfl dM_receipt_21 ?_
  refine zg_iload_n F 0 rfl rfl dM_receipt_24 ?_
  refine zm_iald F 19 (by decide) rfl (by show _ < 16; omega) rfl dM_receipt_25 ?_
  refine zg_istore F (by rw [hn]; decide) (L' := [(4, _), (3, _), (0, _), (1, _), (2, _)]) rfl dM_receipt_26 ?_
  refine zg_iload F 0 rfl dM_receipt_28 ?_
  by_cases h1 : σ.1 19 (4 * a + b) < 0
  · rw [zo_receipt, if_pos h1] at E
    refine zg_if_geF F dM_receipt_30 (tgt := 35) (by decide) (Int32.not_le.mpr h1) ?_
    refine zg_iconst F (v := -1) (by decide) dM_receipt_33 ?_
    exact zg_iret F E (Nat.zero_le _) (Nat.zero_le _) (fun _ _ h => h) dM_receipt_34
  · rw [zo_receipt, if_neg h1] at E
    refine zg_if_geT F (tgt := 35) dM_receipt_30 (by decide) (Int32.not_lt.mp h1) ?_
    refine zg_aload_n F 2 rfl rfl dM_receipt_35 ?_
    refine zg_get F (fun _ _ h => h.2.1.1) rfl zi_M 22 (by decide) rfl zk_560 rfl dM_receipt_36 ?_
    refine zg_iload_n F 1 rfl rfl dM_receipt_39 ?_
    refine zg_iconst F (v := -1) (by decide) dM_receipt_40 ?_
    refine zm_iast F 19 (by decide) rfl (by show _ < 16; omega) dM_receipt_41 ?_
    refine zg_iconst F (v := nI 0) (by decide) dM_receipt_42 ?_
    refine zg_istore F (by rw [hn]; decide) (L' := [(5, _), (4, _), (3, _), (0, _), (1, _), (2, _)]) rfl dM_receipt_43 ?_
    refine zg_aload_n F 3 rfl rfl dM_receipt_45 ?_
    refine zg_get F (fun _ _ h => h.2.1.1) rfl zi_M 19 (by decide) rfl zk_557 rfl dM_receipt_46 ?_
    refine zg_iload_n F 2 rfl rfl dM_receipt_49 ?_
    refine zm_iald F 16 (by decide) rfl (by show _ < 16; omega) rfl dM_receipt_50 ?_
    refine zg_eqi (he) ?_
    refine zg_istore F (by rw [hn]; decide) (L' := [(6, _), (5, _), (4, _), (3, _), (0, _), (1, _), (2, _)]) rfl dM_receipt_51 ?_
    refine zg_bipush F (v := nI 8) (by decide) dM_receipt_53 ?_
    refine zg_iload_n F 3 rfl rfl dM_receipt_55 ?_
    refine zg_imul F (by first | exact pk_mul _ _ | rfl) dM_receipt_56 ?_
    refine zg_istore F (by rw [hn]; decide) (L' := [(7, _), (6, _), (5, _), (4, _), (3, _), (0, _), (1, _), (2, _)]) rfl dM_receipt_57 ?_
    have loop : ∀ r i, i + r = bx → zg_G K (zm_P (zk_A K) mo w0 sz (zm_rcp (zm_set (zm_f σ 0) 19 (4 * a + b) (-1)) (4 * a + b) (σ.1 19 (4 * a + b)) i).1) 0 0 59 [(7, .int (nI (8 * (4 * a + b) + i))), (6, .int (nI bx)), (5, .int (nI (zm_rcp (zm_set (zm_f σ 0) 19 (4 * a + b) (-1)) (4 * a + b) (σ.1 19 (4 * a + b)) i).2)), (4, .int (σ.1 19 (4 * a + b))), (3, .int (nI (4 * a + b))), (0, .ref mo), (1, .int (nI a)), (2, .int (nI b))] [] := by
      intro r
      induction r with
      | zero =>
        intro i hi
        obtain rfl : i = bx := by omega
        refine zg_iload F 0 rfl dM_receipt_59 ?_
        refine zg_bipush F (v := nI 8) (by decide) dM_receipt_61 ?_
        refine zg_iload_n F 4 rfl rfl dM_receipt_63 ?_
        refine zg_imul F (by first | exact pk_mul _ _ | rfl) dM_receipt_64 ?_
        refine zg_iload F 1 rfl dM_receipt_65 ?_
        refine zg_iadd F (by first | exact nI_add _ _ | rfl) dM_receipt_67 ?_
        refine zg_icmp_geT F (tgt := 149) dM_receipt_68 (by decide) (nI_le (by omega) (by omega)) ?_
        refine zg_aload_n F 5 rfl rfl dM_receipt_149 ?_
        refine zg_get F (fun _ _ h => h.2.1.1) rfl zi_M 19 (by decide) rfl zk_557 rfl dM_receipt_150 ?_
        refine zg_iload_n F 4 rfl rfl dM_receipt_153 ?_
        refine zg_iload F 2 rfl dM_receipt_154 ?_
        refine zm_iast F 16 (by decide) rfl (by show _ < 16; omega) dM_receipt_156 ?_
        refine zg_iload F 1 rfl dM_receipt_157 ?_
        refine zg_iload F 2 rfl dM_receipt_159 ?_
        refine zg_isub F rfl dM_receipt_161 ?_
        exact zg_iret F E (Nat.zero_le _) (Nat.zero_le _) (fun _ _ h => h) dM_receipt_162
      | succ r ih =>
        intro i hi
        have g3 := zm_rcp_le (σ := zm_set (zm_f σ 0) 19 (4 * a + b) (-1)) (p := 4 * a + b) (u := σ.1 19 (4 * a + b)) i
        have hgo := ih (i + 1) (by omega)
        rw [zm_rcp] at hgo
        generalize zm_rcp (zm_set (zm_f σ 0) 19 (4 * a + b) (-1)) (4 * a + b) (σ.1 19 (4 * a + b)) i = q at hgo g3 ⊢
        obtain ⟨S, m⟩ := q
        dsimp only at hgo g3 ⊢
        refine zg_iload F 0 rfl dM_receipt_59 ?_
        refine zg_bipush F (v := nI 8) (by decide) dM_receipt_61 ?_
        refine zg_iload_n F 4 rfl rfl dM_receipt_63 ?_
        refine zg_imul F (by first | exact pk_mul _ _ | rfl) dM_receipt_64 ?_
        refine zg_iload F 1 rfl dM_receipt_65 ?_
        refine zg_iadd F (by first | exact nI_add _ _ | rfl) dM_receipt_67 ?_
        refine zg_icmp_geF F dM_receipt_68 (tgt := 149) (by decide) (nI_ge (by omega) (by omega)) ?_
        refine zg_aload_n F 5 rfl rfl dM_receipt_71 ?_
        refine zg_get F (fun _ _ h => h.2.1.1) rfl zi_M 23 (by decide) rfl zk_561 rfl dM_receipt_72 ?_
        refine zg_iload F 0 rfl dM_receipt_75 ?_
        refine zm_iald F 20 (by decide) rfl (by show _ < 128; omega) rfl dM_receipt_77 ?_
        refine zg_iload F 3 rfl dM_receipt_78 ?_
        by_cases h2 : σ.1 19 (4 * a + b) < S.1 20 (8 * (4 * a + b) + i)
        · rw [if_pos h2] at hgo
          refine zg_icmp_leF F dM_receipt_80 (tgt := 143) (by decide) (Int32.not_le.mpr h2) ?_
          refine zg_aload_n F 5 rfl rfl dM_receipt_83 ?_
          refine zg_get F (fun _ _ h => h.2.1.1) rfl zi_M 23 (by decide) rfl zk_561 rfl dM_receipt_84 ?_
          refine zg_bipush F (v := nI 8) (by decide) dM_receipt_87 ?_
          refine zg_iload_n F 4 rfl rfl dM_receipt_89 ?_
          refine zg_imul F (by first | exact pk_mul _ _ | rfl) dM_receipt_90 ?_
          refine zg_iload F 2 rfl dM_receipt_91 ?_
          refine zg_iadd F (by first | exact nI_add _ _ | rfl) dM_receipt_93 ?_
          refine zg_aload_n F 5 rfl rfl dM_receipt_94 ?_
          refine zg_get F (fun _ _ h => h.2.1.1) rfl zi_M 23 (by decide) rfl zk_561 rfl dM_receipt_95 ?_
          refine zg_iload F 0 rfl dM_receipt_98 ?_
          refine zm_iald F 20 (by decide) rfl (by show _ < 128; omega) rfl dM_receipt_100 ?_
          refine zm_iast F 20 (by decide) rfl (by show _ < 128; omega) dM_receipt_101 ?_
          refine zg_aload_n F 5 rfl rfl dM_receipt_102 ?_
          refine zg_get F (fun _ _ h => h.2.1.1) rfl zi_M 24 (by decide) rfl zk_562 rfl dM_receipt_103 ?_
          refine zg_bipush F (v := nI 8) (by decide) dM_receipt_106 ?_
          refine zg_iload_n F 4 rfl rfl dM_receipt_108 ?_
          refine zg_imul F (by first | exact pk_mul _ _ | rfl) dM_receipt_109 ?_
          refine zg_iload F 2 rfl dM_receipt_110 ?_
          refine zg_iadd F (by first | exact nI_add _ _ | rfl) dM_receipt_112 ?_
          refine zg_aload_n F 5 rfl rfl dM_receipt_113 ?_
          refine zg_get F (fun _ _ h => h.2.1.1) rfl zi_M 24 (by decide) rfl zk_562 rfl dM_receipt_114 ?_
          refine zg_iload F 0 rfl dM_receipt_117 ?_
          refine zm_iald F 21 (by decide) rfl (by show _ < 128; omega) rfl dM_receipt_119 ?_
          refine zm_iast F 21 (by decide) rfl (by show _ < 128; omega) dM_receipt_120 ?_
          refine zg_aload_n F 5 rfl rfl dM_receipt_121 ?_
          refine zg_get F (fun _ _ h => h.2.1.1) rfl zi_M 25 (by decide) rfl zk_563 rfl dM_receipt_122 ?_
          refine zg_bipush F (v := nI 8) (by decide) dM_receipt_125 ?_
          refine zg_iload_n F 4 rfl rfl dM_receipt_127 ?_
          refine zg_imul F (by first | exact pk_mul _ _ | rfl) dM_receipt_128 ?_
          refine zg_iload F 2 rfl dM_receipt_129 ?_
          refine zg_iadd F (by first | exact nI_add _ _ | rfl) dM_receipt_131 ?_
          refine zg_aload_n F 5 rfl rfl dM_receipt_132 ?_
          refine zg_get F (fun _ _ h => h.2.1.1) rfl zi_M 25 (by decide) rfl zk_563 rfl dM_receipt_133 ?_
          refine zg_iload F 0 rfl dM_receipt_136 ?_
          refine zm_iald F 22 (by decide) rfl (by show _ < 128; omega) rfl dM_receipt_138 ?_
          refine zm_iast F 22 (by decide) rfl (by show _ < 128; omega) dM_receipt_139 ?_
          refine zg_iinc F 2 rfl (by first | exact zc_inc _ | rfl) (by rw [hn]; decide) (L' := [(5, _), (7, _), (6, _), (4, _), (3, _), (0, _), (1, _), (2, _)]) rfl dM_receipt_140 ?_
          refine zg_iinc F 1 rfl (by first | exact zc_inc _ | rfl) (by rw [hn]; decide) (L' := [(7, _), (5, _), (6, _), (4, _), (3, _), (0, _), (1, _), (2, _)]) rfl dM_receipt_143 ?_
          refine zg_goto F (tgt := 59) dM_receipt_146 (by decide) ?_
          refine zg_sub [0, 2, 1, 3, 4, 5, 6, 7] (L' := [(7, _), (6, _), (5, _), (4, _), (3, _), (0, _), (1, _), (2, _)]) rfl ?_
          exact hgo
        · rw [if_neg h2] at hgo
          refine zg_icmp_leT F (tgt := 143) dM_receipt_80 (by decide) (Int32.not_lt.mp h2) ?_
          refine zg_iinc F 0 rfl (by first | exact zc_inc _ | rfl) (by rw [hn]; decide) (L' := [(7, _), (6, _), (5, _), (4, _), (3, _), (0, _), (1, _), (2, _)]) rfl dM_receipt_143 ?_
          refine zg_goto F (tgt := 59) dM_receipt_146 (by decide) ?_
          refine zg_sub [0, 1, 2, 3, 4, 5, 6, 7] (L' := [(7, _), (6, _), (5, _), (4, _), (3, _), (0, _), (1, _), (2, _)]) rfl ?_
          exact hgo
    exact loop bx 0 (by omega)
end
section
/-! the reference's constructor -/
theorem zo_code : Cond.code Lib.objectInit ⟨#[0xb1]⟩ 1 none ∈ zw_A := zk_22
theorem zo_inst : Cond.instanceMethod Lib.objectInit ∈ zw_A := zk_21
theorem zg_oinit {K : zg_K} {P : zg_P} {cells slots pc idx a : Nat} {L : List (Nat × Value)} {rest : List Value} {cc : ByteArray} {own : String} {rm : Room} (F : zg_F K cc own rm) (hl : Cond.methodLink own idx Lib.objectInit ∈ zw_A) (hR : 1 ≤ rm.frames ∧ (rest.map fun v => v.category).sum + 12 ≤ rm.locals) (d : decode cc pc = .ok (.invokespecial idx, 3)) (k : zg_G K P cells slots (pc + 3) L rest) : zg_G K P cells slots pc L (.ref a :: rest) := fun w H locs ls h1 h2 h3 h4 =>
  W.objInit F.1 F.2.1 F.2.2.2.1 (F.2.2.2.2.1 _ hl) (F.2.2.2.2.1 _ zo_inst) (F.2.2.2.2.1 _ zo_code) (g := F0 (zk_m K) pc ls (.ref a :: rest)) rfl (by rw [F.2.2.1]; exact h4.1) rfl d (by rw [zf_R F]; exact hR.1) (by rw [zf_R F]; show 2 * 0 + _ + 12 ≤ _; have := hR.2; omega) (k w H locs ls h1 h2 h3 h4)
def zm_0 : zm_S := (fun _ _ => 0, fun _ _ => 0)
def zm_ini : Nat → zm_S
  | 0 => zm_0
  | i + 1 => zm_set (zm_ini i) 19 i (-1)
def zm_r (mo j k : Nat) : Value := if k < j then .ref (mo + 1 + k) else .null
def zm_fi (mo j : Nat) : List Value := [.int 0, zm_r mo j 0, zm_r mo j 1, zm_r mo j 2, zm_r mo j 3, zm_r mo j 4, zm_r mo j 5, .int 0, .int 0, zm_r mo j 6, zm_r mo j 7, zm_r mo j 8, zm_r mo j 9, zm_r mo j 10, zm_r mo j 11, zm_r mo j 12, zm_r mo j 13, zm_r mo j 14, zm_r mo j 15, zm_r mo j 16, zm_r mo j 17, zm_r mo j 18, zm_r mo j 19, zm_r mo j 20, zm_r mo j 21, zm_r mo j 22, zm_r mo j 23, zm_r mo j 24]
def zm_ap (k : Nat) : Nat := if k < 6 then k + 1 else k + 3
def zm_I (A : Nat → ClassId) (mo : Nat) (w0 : zg_w) (j i : Nat) : zg_P := fun w z => z = mo + 1 + j ∧ w mo = some (.inr (6, zm_fi mo i)) ∧ (∀ k, k < j → w (mo + 1 + k) = some (zm_cell A zm_0 k)) ∧ ∀ q, (q < mo ∨ mo + 1 + j ≤ q) → w q = w0 q
theorem zm_I.new {A : Nat → ClassId} {mo : Nat} {w0 : zg_w} {j i : Nat} {e : va_E} (he : e = zm_cell A zm_0 j) (w : zg_w) (h : zm_I A mo w0 j i w (mo + 1 + j)) : zm_I A mo w0 (j + 1) i (zg_u w (mo + 1 + j) e) (mo + 1 + j + 1) := by
  obtain ⟨hz, h1, h2, h3⟩ := h
  refine ⟨rfl, ?_, fun k hk => ?_, fun q hq => ?_⟩
  · rw [zg_un (by omega)]; exact h1
  · by_cases hkj : k = j
    · subst hkj
      rw [zg_us, he]
    · rw [zg_un (by omega)]; exact h2 k (by omega)
  · rw [zg_un (by omega)]; exact h3 q (by omega)
theorem zm_I.put {A : Nat → ClassId} {mo : Nat} {w0 : zg_w} {j i i' : Nat} {fs : List Value} (hf : fs = zm_fi mo i') (w : zg_w) (z : Nat) (h : zm_I A mo w0 j i w z) : zm_I A mo w0 j i' (zg_u w mo (.inr (6, fs))) z := by
  obtain ⟨hz, h1, h2, h3⟩ := h
  refine ⟨hz, by rw [zg_us, hf], fun k hk => ?_, fun q hq => ?_⟩
  · rw [zg_un (by omega)]; exact h2 k hk
  · rw [zg_un (by omega)]; exact h3 q hq
theorem zm_I.fin {A : Nat → ClassId} {mo : Nat} {w0 : zg_w} (w : zg_w) (z : Nat) (h : zm_I A mo w0 25 25 w z) : zm_P A mo w0 (mo + 26) zm_0 w z := by
  obtain ⟨hz, h1, h2, h3⟩ := h
  exact ⟨hz, ⟨h1, h2⟩, fun q hq => h3 q (by omega)⟩
set_option maxRecDepth 100000 in
set_option maxHeartbeats 4000000 in
theorem zM_init (l : Launch) (D : va_G) (A : Nat → ClassId) (base : Nat) (mo : Nat) (w0 : zg_w) : zg_Met l zm_M_init zc_M_init 2 none 1 25 2296 D A base [.ref mo] (zm_I A mo w0 0 0) none (zm_P A mo w0 (mo + 26) (zm_ini 16)) := by
  refine zg_met (by decide) (Nat.le_of_ble_eq_true rfl) ?_
  intro K hl hD hA hz hn hnm F E
  subst hl hD hA hz
  show zg_G K (zm_I (zk_A K) mo w0 0 0) 0 0 0 [(0, .ref mo)] []
  refine zg_aload_n F 0 rfl rfl dM_init_0 ?_
  refine zg_oinit F zk_537 ⟨by decide, by decide⟩ dM_init_1 ?_
  refine zg_aload_n F 0 rfl rfl dM_init_4 ?_
  refine zg_iconst F (v := nI 4) (by decide) dM_init_5 ?_
  refine zg_newZ F (P' := zm_I (zk_A K) mo w0 1 0) zk_45 (by decide) (by decide) (by decide) (fun _ _ h => h.1) (fun w h _ => zm_I.new rfl w h) dM_init_6 ?_
  refine zg_putF F (P' := zm_I (zk_A K) mo w0 1 1) hnm (fun _ _ h => h.2.1) rfl zi_M zy_M zt_M zn_M 1 (by decide) rfl rfl zk_539 rfl rfl rfl rfl (Nat.le_of_ble_eq_true rfl) (fun w z h => zm_I.put rfl w z h) dM_init_8 ?_
  refine zg_aload_n F 0 rfl rfl dM_init_11 ?_
  refine zg_bipush F (v := nI 16) (by decide) dM_init_12 ?_
  refine zg_newI F (P' := zm_I (zk_A K) mo w0 2 1) zk_46 (by decide) (by decide) (by decide) (fun _ _ h => h.1) (fun w h _ => zm_I.new rfl w h) dM_init_14 ?_
  refine zg_putF F (P' := zm_I (zk_A K) mo w0 2 2) hnm (fun _ _ h => h.2.1) rfl zi_M zy_M zt_M zn_M 2 (by decide) rfl rfl zk_540 rfl rfl rfl rfl (Nat.le_of_ble_eq_true rfl) (fun w z h => zm_I.put rfl w z h) dM_init_16 ?_
  refine zg_aload_n F 0 rfl rfl dM_init_19 ?_
  refine zg_bipush F (v := nI 64) (by decide) dM_init_20 ?_
  refine zg_newI F (P' := zm_I (zk_A K) mo w0 3 2) zk_46 (by decide) (by decide) (by decide) (fun _ _ h => h.1) (fun w h _ => zm_I.new rfl w h) dM_init_22 ?_
  refine zg_putF F (P' := zm_I (zk_A K) mo w0 3 3) hnm (fun _ _ h => h.2.1) rfl zi_M zy_M zt_M zn_M 3 (by decide) rfl rfl zk_541 rfl rfl rfl rfl (Nat.le_of_ble_eq_true rfl) (fun w z h => zm_I.put rfl w z h) dM_init_24 ?_
  refine zg_aload_n F 0 rfl rfl dM_init_27 ?_
  refine zg_sipush F (v := nI 420) (by decide) dM_init_28 ?_
  refine zg_newI F (P' := zm_I (zk_A K) mo w0 4 3) zk_46 (by decide) (by decide) (by decide) (fun _ _ h => h.1) (fun w h _ => zm_I.new rfl w h) dM_init_31 ?_
  refine zg_putF F (P' := zm_I (zk_A K) mo w0 4 4) hnm (fun _ _ h => h.2.1) rfl zi_M zy_M zt_M zn_M 4 (by decide) rfl rfl zk_542 rfl rfl rfl rfl (Nat.le_of_ble_eq_true rfl) (fun w z h => zm_I.put rfl w z h) dM_init_33 ?_
  refine zg_aload_n F 0 rfl rfl dM_init_36 ?_
  refine zg_sipush F (v := nI 420) (by decide) dM_init_37 ?_
  refine zg_newI F (P' := zm_I (zk_A K) mo w0 5 4) zk_46 (by decide) (by decide) (by decide) (fun _ _ h => h.1) (fun w h _ => zm_I.new rfl w h) dM_init_40 ?_
  refine zg_putF F (P' := zm_I (zk_A K) mo w0 5 5) hnm (fun _ _ h => h.2.1) rfl zi_M zy_M zt_M zn_M 5 (by decide) rfl rfl zk_543 rfl rfl rfl rfl (Nat.le_of_ble_eq_true rfl) (fun w z h => zm_I.put rfl w z h) dM_init_42 ?_
  refine zg_aload_n F 0 rfl rfl dM_init_45 ?_
  refine zg_sipush F (v := nI 420) (by decide) dM_init_46 ?_
  refine zg_newI F (P' := zm_I (zk_A K) mo w0 6 5) zk_46 (by decide) (by decide) (by decide) (fun _ _ h => h.1) (fun w h _ => zm_I.new rfl w h) dM_init_49 ?_
  refine zg_putF F (P' := zm_I (zk_A K) mo w0 6 6) hnm (fun _ _ h => h.2.1) rfl zi_M zy_M zt_M zn_M 6 (by decide) rfl rfl zk_544 rfl rfl rfl rfl (Nat.le_of_ble_eq_true rfl) (fun w z h => zm_I.put rfl w z h) dM_init_51 ?_
  refine zg_aload_n F 0 rfl rfl dM_init_54 ?_
  refine zg_bipush F (v := nI 80) (by decide) dM_init_55 ?_
  refine zg_newI F (P' := zm_I (zk_A K) mo w0 7 6) zk_46 (by decide) (by decide) (by decide) (fun _ _ h => h.1) (fun w h _ => zm_I.new rfl w h) dM_init_57 ?_
  refine zg_putF F (P' := zm_I (zk_A K) mo w0 7 7) hnm (fun _ _ h => h.2.1) rfl zi_M zy_M zt_M zn_M 9 (by decide) rfl rfl zk_547 rfl rfl rfl rfl (Nat.le_of_ble_eq_true rfl) (fun w z h => zm_I.put rfl w z h) dM_init_59 ?_
  refine zg_aload_n F 0 rfl rfl dM_init_62 ?_
  refine zg_bipush F (v := nI 80) (by decide) dM_init_63 ?_
  refine zg_newI F (P' := zm_I (zk_A K) mo w0 8 7) zk_46 (by decide) (by decide) (by decide) (fun _ _ h => h.1) (fun w h _ => zm_I.new rfl w h) dM_init_65 ?_
  refine zg_putF F (P' := zm_I (zk_A K) mo w0 8 8) hnm (fun _ _ h => h.2.1) rfl zi_M zy_M zt_M zn_M 10 (by decide) rfl rfl zk_548 rfl rfl rfl rfl (Nat.le_of_ble_eq_true rfl) (fun w z h => zm_I.put rfl w z h) dM_init_67 ?_
  refine zg_aload_n F 0 rfl rfl dM_init_70 ?_
  refine zg_bipush F (v := nI 80) (by decide) dM_init_71 ?_
  refine zg_newI F (P' := zm_I (zk_A K) mo w0 9 8) zk_46 (by decide) (by decide) (by decide) (fun _ _ h => h.1) (fun w h _ => zm_I.new rfl w h) dM_init_73 ?_
  refine zg_putF F (P' := zm_I (zk_A K) mo w0 9 9) hnm (fun _ _ h => h.2.1) rfl zi_M zy_M zt_M zn_M 11 (by decide) rfl rfl zk_549 rfl rfl rfl rfl (Nat.le_of_ble_eq_true rfl) (fun w z h => zm_I.put rfl w z h) dM_init_75 ?_
  refine zg_aload_n F 0 rfl rfl dM_init_78 ?_
  refine zg_bipush F (v := nI 80) (by decide) dM_init_79 ?_
  refine zg_newL F (P' := zm_I (zk_A K) mo w0 10 9) zk_623 (by decide) (by decide) (by decide) (fun _ _ h => h.1) (fun w h _ => zm_I.new rfl w h) dM_init_81 ?_
  refine zg_putF F (P' := zm_I (zk_A K) mo w0 10 10) hnm (fun _ _ h => h.2.1) rfl zi_M zy_M zt_M zn_M 12 (by decide) rfl rfl zk_550 rfl rfl rfl rfl (Nat.le_of_ble_eq_true rfl) (fun w z h => zm_I.put rfl w z h) dM_init_83 ?_
  refine zg_aload_n F 0 rfl rfl dM_init_86 ?_
  refine zg_bipush F (v := nI 80) (by decide) dM_init_87 ?_
  refine zg_newZ F (P' := zm_I (zk_A K) mo w0 11 10) zk_45 (by decide) (by decide) (by decide) (fun _ _ h => h.1) (fun w h _ => zm_I.new rfl w h) dM_init_89 ?_
  refine zg_putF F (P' := zm_I (zk_A K) mo w0 11 11) hnm (fun _ _ h => h.2.1) rfl zi_M zy_M zt_M zn_M 13 (by decide) rfl rfl zk_551 rfl rfl rfl rfl (Nat.le_of_ble_eq_true rfl) (fun w z h => zm_I.put rfl w z h) dM_init_91 ?_
  refine zg_aload_n F 0 rfl rfl dM_init_94 ?_
  refine zg_iconst F (v := nI 4) (by decide) dM_init_95 ?_
  refine zg_newL F (P' := zm_I (zk_A K) mo w0 12 11) zk_623 (by decide) (by decide) (by decide) (fun _ _ h => h.1) (fun w h _ => zm_I.new rfl w h) dM_init_96 ?_
  refine zg_putF F (P' := zm_I (zk_A K) mo w0 12 12) hnm (fun _ _ h => h.2.1) rfl zi_M zy_M zt_M zn_M 14 (by decide) rfl rfl zk_552 rfl rfl rfl rfl (Nat.le_of_ble_eq_true rfl) (fun w z h => zm_I.put rfl w z h) dM_init_98 ?_
  refine zg_aload_n F 0 rfl rfl dM_init_101 ?_
  refine zg_iconst F (v := nI 4) (by decide) dM_init_102 ?_
  refine zg_newI F (P' := zm_I (zk_A K) mo w0 13 12) zk_46 (by decide) (by decide) (by decide) (fun _ _ h => h.1) (fun w h _ => zm_I.new rfl w h) dM_init_103 ?_
  refine zg_putF F (P' := zm_I (zk_A K) mo w0 13 13) hnm (fun _ _ h => h.2.1) rfl zi_M zy_M zt_M zn_M 15 (by decide) rfl rfl zk_553 rfl rfl rfl rfl (Nat.le_of_ble_eq_true rfl) (fun w z h => zm_I.put rfl w z h) dM_init_105 ?_
  refine zg_aload_n F 0 rfl rfl dM_init_108 ?_
  refine zg_bipush F (v := nI 24) (by decide) dM_init_109 ?_
  refine zg_newI F (P' := zm_I (zk_A K) mo w0 14 13) zk_46 (by decide) (by decide) (by decide) (fun _ _ h => h.1) (fun w h _ => zm_I.new rfl w h) dM_init_111 ?_
  refine zg_putF F (P' := zm_I (zk_A K) mo w0 14 14) hnm (fun _ _ h => h.2.1) rfl zi_M zy_M zt_M zn_M 16 (by decide) rfl rfl zk_554 rfl rfl rfl rfl (Nat.le_of_ble_eq_true rfl) (fun w z h => zm_I.put rfl w z h) dM_init_113 ?_
  refine zg_aload_n F 0 rfl rfl dM_init_116 ?_
  refine zg_bipush F (v := nI 24) (by decide) dM_init_117 ?_
  refine zg_newI F (P' := zm_I (zk_A K) mo w0 15 14) zk_46 (by decide) (by decide) (by decide) (fun _ _ h => h.1) (fun w h _ => zm_I.new rfl w h) dM_init_119 ?_
  refine zg_putF F (P' := zm_I (zk_A K) mo w0 15 15) hnm (fun _ _ h => h.2.1) rfl zi_M zy_M zt_M zn_M 17 (by decide) rfl rfl zk_555 rfl rfl rfl rfl (Nat.le_of_ble_eq_true rfl) (fun w z h => zm_I.put rfl w z h) dM_init_121 ?_
  refine zg_aload_n F 0 rfl rfl dM_init_124 ?_
  refine zg_bipush F (v := nI 16) (by decide) dM_init_125 ?_
  refine zg_newI F (P' := zm_I (zk_A K) mo w0 16 15) zk_46 (by decide) (by decide) (by decide) (fun _ _ h => h.1) (fun w h _ => zm_I.new rfl w h) dM_init_127 ?_
  refine zg_putF F (P' := zm_I (zk_A K) mo w0 16 16) hnm (fun _ _ h => h.2.1) rfl zi_M zy_M zt_M zn_M 18 (by decide) rfl rfl zk_556 rfl rfl rfl rfl (Nat.le_of_ble_eq_true rfl) (fun w z h => zm_I.put rfl w z h) dM_init_129 ?_
  refine zg_aload_n F 0 rfl rfl dM_init_132 ?_
  refine zg_bipush F (v := nI 16) (by decide) dM_init_133 ?_
  refine zg_newI F (P' := zm_I (zk_A K) mo w0 17 16) zk_46 (by decide) (by decide) (by decide) (fun _ _ h => h.1) (fun w h _ => zm_I.new rfl w h) dM_init_135 ?_
  refine zg_putF F (P' := zm_I (zk_A K) mo w0 17 17) hnm (fun _ _ h => h.2.1) rfl zi_M zy_M zt_M zn_M 19 (by decide) rfl rfl zk_557 rfl rfl rfl rfl (Nat.le_of_ble_eq_true rfl) (fun w z h => zm_I.put rfl w z h) dM_init_137 ?_
  refine zg_aload_n F 0 rfl rfl dM_init_140 ?_
  refine zg_bipush F (v := nI 16) (by decide) dM_init_141 ?_
  refine zg_newI F (P' := zm_I (zk_A K) mo w0 18 17) zk_46 (by decide) (by decide) (by decide) (fun _ _ h => h.1) (fun w h _ => zm_I.new rfl w h) dM_init_143 ?_
  refine zg_putF F (P' := zm_I (zk_A K) mo w0 18 18) hnm (fun _ _ h => h.2.1) rfl zi_M zy_M zt_M zn_M 20 (by decide) rfl rfl zk_558 rfl rfl rfl rfl (Nat.le_of_ble_eq_true rfl) (fun w z h => zm_I.put rfl w z h) dM_init_145 ?_
  refine zg_aload_n F 0 rfl rfl dM_init_148 ?_
  refine zg_bipush F (v := nI 16) (by decide) dM_init_149 ?_
  refine zg_newI F (P' := zm_I (zk_A K) mo w0 19 18) zk_46 (by decide) (by decide) (by decide) (fun _ _ h => h.1) (fun w h _ => zm_I.new rfl w h) dM_init_151 ?_
  refine zg_putF F (P' := zm_I (zk_A K) mo w0 19 19) hnm (fun _ _ h => h.2.1) rfl zi_M zy_M zt_M zn_M 21 (by decide) rfl rfl zk_559 rfl rfl rfl rfl (Nat.le_of_ble_eq_true rfl) (fun w z h => zm_I.put rfl w z h) dM_init_153 ?_
  refine zg_aload_n F 0 rfl rfl dM_init_156 ?_
  refine zg_bipush F (v := nI 16) (by decide) dM_init_157 ?_
  refine zg_newI F (P' := zm_I (zk_A K) mo w0 20 19) zk_46 (by decide) (by decide) (by decide) (fun _ _ h => h.1) (fun w h _ => zm_I.new rfl w h) dM_init_159 ?_
  refine zg_putF F (P' := zm_I (zk_A K) mo w0 20 20) hnm (fun _ _ h => h.2.1) rfl zi_M zy_M zt_M zn_M 22 (by decide) rfl rfl zk_560 rfl rfl rfl rfl (Nat.le_of_ble_eq_true rfl) (fun w z h => zm_I.put rfl w z h) dM_init_161 ?_
  refine zg_aload_n F 0 rfl rfl dM_init_164 ?_
  refine zg_sipush F (v := nI 128) (by decide) dM_init_165 ?_
  refine zg_newI F (P' := zm_I (zk_A K) mo w0 21 20) zk_46 (by decide) (by decide) (by decide) (fun _ _ h => h.1) (fun w h _ => zm_I.new rfl w h) dM_init_168 ?_
  refine zg_putF F (P' := zm_I (zk_A K) mo w0 21 21) hnm (fun _ _ h => h.2.1) rfl zi_M zy_M zt_M zn_M 23 (by decide) rfl rfl zk_561 rfl rfl rfl rfl (Nat.le_of_ble_eq_true rfl) (fun w z h => zm_I.put rfl w z h) dM_init_170 ?_
  refine zg_aload_n F 0 rfl rfl dM_init_173 ?_
  refine zg_sipush F (v := nI 128) (by decide) dM_init_174 ?_
  refine zg_newI F (P' := zm_I (zk_A K) mo w0 22 21) zk_46 (by decide) (by decide) (by decide) (fun _ _ h => h.1) (fun w h _ => zm_I.new rfl w h) dM_init_177 ?_
  refine zg_putF F (P' := zm_I (zk_A K) mo w0 22 22) hnm (fun _ _ h => h.2.1) rfl zi_M zy_M zt_M zn_M 24 (by decide) rfl rfl zk_562 rfl rfl rfl rfl (Nat.le_of_ble_eq_true rfl) (fun w z h => zm_I.put rfl w z h) dM_init_179 ?_
  refine zg_aload_n F 0 rfl rfl dM_init_182 ?_
  refine zg_sipush F (v := nI 128) (by decide) dM_init_183 ?_
  refine zg_newI F (P' := zm_I (zk_A K) mo w0 23 22) zk_46 (by decide) (by decide) (by decide) (fun _ _ h => h.1) (fun w h _ => zm_I.new rfl w h) dM_init_186 ?_
  refine zg_putF F (P' := zm_I (zk_A K) mo w0 23 23) hnm (fun _ _ h => h.2.1) rfl zi_M zy_M zt_M zn_M 25 (by decide) rfl rfl zk_563 rfl rfl rfl rfl (Nat.le_of_ble_eq_true rfl) (fun w z h => zm_I.put rfl w z h) dM_init_188 ?_
  refine zg_aload_n F 0 rfl rfl dM_init_191 ?_
  refine zg_bipush F (v := nI 16) (by decide) dM_init_192 ?_
  refine zg_newI F (P' := zm_I (zk_A K) mo w0 24 23) zk_46 (by decide) (by decide) (by decide) (fun _ _ h => h.1) (fun w h _ => zm_I.new rfl w h) dM_init_194 ?_
  refine zg_putF F (P' := zm_I (zk_A K) mo w0 24 24) hnm (fun _ _ h => h.2.1) rfl zi_M zy_M zt_M zn_M 26 (by decide) rfl rfl zk_564 rfl rfl rfl rfl (Nat.le_of_ble_eq_true rfl) (fun w z h => zm_I.put rfl w z h) dM_init_196 ?_
  refine zg_aload_n F 0 rfl rfl dM_init_199 ?_
  refine zg_bipush F (v := nI 16) (by decide) dM_init_200 ?_
  refine zg_newI F (P' := zm_I (zk_A K) mo w0 25 24) zk_46 (by decide) (by decide) (by decide) (fun _ _ h => h.1) (fun w h _ => zm_I.new rfl w h) dM_init_202 ?_
  refine zg_putF F (P' := zm_I (zk_A K) mo w0 25 25) hnm (fun _ _ h => h.2.1) rfl zi_M zy_M zt_M zn_M 27 (by decide) rfl rfl zk_565 rfl rfl rfl rfl (Nat.le_of_ble_eq_true rfl) (fun w z h => zm_I.put rfl w z h) dM_init_204 ?_
  refine zg_iconst F (v := nI 0) (by decide) dM_init_207 ?_
  refine zg_istore_n F rfl (by rw [hn]; decide) (L' := [(1, _), (0, _)]) rfl dM_init_208 ?_
  refine zg_mono zm_I.fin ?_
  have loop : ∀ r i, i + r = 16 → zg_G K (zm_P (zk_A K) mo w0 (mo + 26) (zm_ini i)) 25 2296 209 [(1, .int (nI i)), (0, .ref mo)] [] := by
    intro r
    induction r with
    | zero =>
      intro i hi
      obtain rfl : i = 16 := by omega
      refine zg_iload_n F 0 rfl rfl dM_init_209 ?_
      refine zg_bipush F (v := nI 16) (by decide) dM_init_210 ?_
      refine zg_icmp_geT F (tgt := 228) dM_init_212 (by decide) (nI_le (by omega) (by omega)) ?_
      exact zg_vret F E (by decide) (by decide) (fun _ _ h => h) dM_init_228
    | succ r ih =>
      intro i hi
      refine zg_iload_n F 0 rfl rfl dM_init_209 ?_
      refine zg_bipush F (v := nI 16) (by decide) dM_init_210 ?_
      refine zg_icmp_geF F dM_init_212 (tgt := 228) (by decide) (nI_ge (by omega) (by omega)) ?_
      refine zg_aload_n F 1 rfl rfl dM_init_215 ?_
      refine zg_get F (fun _ _ h => h.2.1.1) rfl zi_M 22 (by decide) rfl zk_560 rfl dM_init_216 ?_
      refine zg_iload_n F 0 rfl rfl dM_init_219 ?_
      refine zg_iconst F (v := -1) (by decide) dM_init_220 ?_
      refine zm_iast F 19 (by decide) rfl (by show _ < 16; omega) dM_init_221 ?_
      refine zg_iinc F 0 rfl (by first | exact zc_inc _ | rfl) (by rw [hn]; decide) (L' := [(1, _), (0, _)]) rfl dM_init_222 ?_
      refine zg_goto F (tgt := 209) dM_init_225 (by decide) ?_
      exact ih (i + 1) (by omega)
  exact loop 16 0 rfl
end
