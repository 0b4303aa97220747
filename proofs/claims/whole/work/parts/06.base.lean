/-! my own judgement over the kit's W: a world is a map from addresses to cells; an assertion P speaks of the world and the heap's size -/
abbrev zg_w : Type := Nat → Option va_E
def zg_u (w : zg_w) (a : Nat) (e : va_E) : zg_w := fun q => if q = a then some e else w q
theorem zg_us (w : zg_w) (a : Nat) (e : va_E) : zg_u w a e a = some e := by simp [zg_u]
theorem zg_un {w : zg_w} {a q : Nat} {e : va_E} (h : q ≠ a) : zg_u w a e q = w q := by simp [zg_u, h]
def zg_H (D : va_G) (cl : List vw_C) (base : Nat) (w : zg_w) (H : Heap) : Prop := ∀ (a : Nat) (e : va_E), w a = some e → base ≤ a ∧ va_at D cl (a, e) H
theorem zg_H.set {D : va_G} {cl : List vw_C} {base : Nat} {w : zg_w} {H H1 : Heap} {a : Nat} {e : va_E} (h : zg_H D cl base w H) (hb : base ≤ a) (he : va_at D cl (a, e) H1) (o : ∀ q : Nat, q ≠ a → H1[q]? = H[q]?) : zg_H D cl base (zg_u w a e) H1 := by
  intro q e1 hq
  by_cases hqa : q = a
  · subst hqa
    rw [zg_us] at hq
    cases hq
    exact ⟨hb, he⟩
  · rw [zg_un hqa] at hq
    obtain ⟨h1, h2⟩ := h q e1 hq
    exact ⟨h1, h2.kept (o q hqa)⟩
theorem zg_H.lt {D : va_G} {cl : List vw_C} {base : Nat} {w : zg_w} {H : Heap} {a : Nat} {e : va_E} (h : zg_H D cl base w H) (ha : w a = some e) : a < H.size := (h a e ha).2.lt
theorem zg_H.push {D : va_G} {cl : List vw_C} {base : Nat} {w : zg_w} {H H1 : Heap} {e : va_E} (h : zg_H D cl base w H) (hb : base ≤ H.size) (he : va_at D cl (H.size, e) H1) (o : ∀ q : Nat, q < H.size → H1[q]? = H[q]?) : zg_H D cl base (zg_u w H.size e) H1 := by
  intro q e1 hq
  by_cases hqa : q = H.size
  · subst hqa
    rw [zg_us] at hq
    cases hq
    exact ⟨hb, he⟩
  · rw [zg_un hqa] at hq
    obtain ⟨h1, h2⟩ := h q e1 hq
    exact ⟨h1, h2.kept (o q (h.lt hq))⟩
theorem zg_H.none {D : va_G} {cl : List vw_C} {base : Nat} {w : zg_w} {H : Heap} {a : Nat} (h : zg_H D cl base w H) (ha : H.size ≤ a) : w a = none := by
  cases hw : w a with
  | none => rfl
  | some e => exact absurd (h.lt hw) (by omega)
theorem zg_H.kept {D : va_G} {cl : List vw_C} {base : Nat} {w : zg_w} {H H1 : Heap} (h : zg_H D cl base w H) (o : ∀ q : Nat, q < H.size → H1[q]? = H[q]?) : zg_H D cl base w H1 := fun a e ha => ⟨(h a e ha).1, (h a e ha).2.kept (o a (h.lt ha))⟩
/-- the setting of a walk: program, launch, environment, room, the state at the start, method, arguments, frames below, its entry, its code, what is owed at the end, class numbers, array classes, where our cells begin, how many locals -/
abbrev zg_K : Type := Program × Launch × Env × Room × State × MethodId × Array Value × List Frame × Method × Code × (State → Prop) × va_G × (Nat → ClassId) × Nat × Nat
abbrev zk_p (K : zg_K) : Program := K.1
abbrev zk_l (K : zg_K) : Launch := K.2.1
abbrev zk_e (K : zg_K) : Env := K.2.2.1
abbrev zk_R (K : zg_K) : Room := K.2.2.2.1
abbrev zk_s (K : zg_K) : State := K.2.2.2.2.1
abbrev zk_m (K : zg_K) : MethodId := K.2.2.2.2.2.1
abbrev zk_a (K : zg_K) : Array Value := K.2.2.2.2.2.2.1
abbrev zk_b (K : zg_K) : List Frame := K.2.2.2.2.2.2.2.1
abbrev zk_t (K : zg_K) : Method := K.2.2.2.2.2.2.2.2.1
abbrev zk_c (K : zg_K) : Code := K.2.2.2.2.2.2.2.2.2.1
abbrev zk_Q (K : zg_K) : State → Prop := K.2.2.2.2.2.2.2.2.2.2.1
abbrev zk_D (K : zg_K) : va_G := K.2.2.2.2.2.2.2.2.2.2.2.1
abbrev zk_A (K : zg_K) : Nat → ClassId := K.2.2.2.2.2.2.2.2.2.2.2.2.1
abbrev zk_z (K : zg_K) : Nat := K.2.2.2.2.2.2.2.2.2.2.2.2.2.1
abbrev zk_n (K : zg_K) : Nat := K.2.2.2.2.2.2.2.2.2.2.2.2.2.2
abbrev zg_P : Type := zg_w → Nat → Prop
/-! what is said of the tables beside the words: private members of nest mates, rows of objects, String constants, which exception is which, Throwable's two statics -/
def zn_nest : List (String × Nat × MethodName × String) := [("IslandRights", 47, ⟨"IslandRights$Journey", "<init>", "()V"⟩, "IslandRights"), ("IslandRights", 52, ⟨"IslandRights$Port", "<init>", "()V"⟩, "IslandRights"), ("IslandRights", 53, ⟨"IslandRights$Lane", "<init>", "()V"⟩, "IslandRights"), ("IslandRights$Journey", 19, ⟨"IslandRights", "placeOf", "(II)I"⟩, "IslandRights")]
def zn_arr : List String := ["IslandRights$Port", "IslandRights$Lane", "IslandRights$Ticket", "IslandRights$Wish"]
def zn_str : List (String × Nat × String) := [("IslandRights", 214, "there is no such sailing"), ("IslandRights", 224, "a number of seats is 1 to 100"), ("IslandRights", 63, "the sailing was open"), ("IslandRights", 216, "there is no such leg"), ("IslandRights", 81, "a fare is 0 to 1,000,000,000"), ("IslandRights", 218, "there is no such stop"), ("IslandRights", 87, "a part goes to a later stop"), ("IslandRights", 89, "the sailing is not open"), ("IslandRights", 94, "the draft is full"), ("IslandRights", 211, "there is no such port"), ("IslandRights", 226, "the draft is empty"), ("IslandRights", 106, "there are no tickets left"), ("IslandRights", 123, "the port's row of wishes is full"), ("IslandRights", 220, "there is no such ticket"), ("IslandRights", 140, "the ticket was cancelled"), ("IslandRights", 162, "what is 0 to 3"), ("IslandRights", 222, "both ports are the same"), ("IslandRights", 176, "the outbox is full")]
def zn_cast : List (String × String) := [("java/lang/IndexOutOfBoundsException", "java/lang/IndexOutOfBoundsException"), ("java/lang/IllegalArgumentException", "java/lang/IllegalArgumentException"), ("java/lang/IllegalStateException", "java/lang/IllegalStateException")]
def zn_nc : List (String × String) := [("java/lang/IllegalArgumentException", "java/lang/IndexOutOfBoundsException"), ("java/lang/IllegalStateException", "java/lang/IndexOutOfBoundsException"), ("java/lang/IndexOutOfBoundsException", "java/lang/IllegalArgumentException"), ("java/lang/IllegalStateException", "java/lang/IllegalArgumentException"), ("java/lang/IndexOutOfBoundsException", "java/lang/IllegalStateException"), ("java/lang/IllegalArgumentException", "java/lang/IllegalStateException")]
def zn_decl : List MethodName := [⟨"java/lang/RuntimeException", "<init>", "()V"⟩, ⟨"java/lang/RuntimeException", "<init>", "(Ljava/lang/String;)V"⟩, ⟨"java/lang/Exception", "<init>", "()V"⟩, ⟨"java/lang/Exception", "<init>", "(Ljava/lang/String;)V"⟩, ⟨"java/lang/Throwable", "<init>", "()V"⟩, ⟨"java/lang/Throwable", "<init>", "(Ljava/lang/String;)V"⟩]
def zg_N (base : Nat) (U : State) : Prop := (∀ q ∈ zn_nest, va_Nw (.methodLinkNest q.1 q.2.1 q.2.2.1 q.2.2.2) U) ∧ (∀ C ∈ zn_arr, va_AO C U) ∧ (∀ q ∈ zn_str, ∃ sa, vk_R q.1 q.2.1 q.2.2 sa U) ∧ (∀ q ∈ zn_cast, va_Nw (.castable q.1 q.2) U) ∧ (∀ q ∈ zn_nc, va_Nc q.1 q.2 U) ∧ (∀ q ∈ zn_decl, va_Nw (.declares q) U) ∧ vx_Zq Bundle.tN "UNASSIGNED_STACK" Bundle.steD (fun q => base ≤ q) U U.heap ∧ vx_Zq Bundle.tN "SUPPRESSED_SENTINEL" Bundle.listD (fun q => base ≤ q) U U.heap
theorem zg_N.warm {base : Nat} {s U : State} (hW : s.WarmedH U.vm) (hk : ∀ a : Nat, a < s.heap.size → ¬ base ≤ a → U.heap[a]? = s.heap[a]?) (h : zg_N base s) : zg_N base U := by
  obtain ⟨h1, h2, h3, h4, h5, h6, h7, h8⟩ := h
  refine ⟨fun q hq => va_Nw.warmM hW (h1 q hq), fun C hC => va_AO.moved hW.alike (h2 C hC), fun q hq => ?_, fun q hq => va_Nw.warmC hW (h4 q hq), fun q hq => va_Nc.moved hW.alike (h5 q hq), fun q hq => va_Nw.warmD hW (h6 q hq), vx_Zq.moved hW.alike (h7.kept hk), vx_Zq.moved hW.alike (h8.kept hk)⟩
  obtain ⟨sa, hs⟩ := h3 q hq
  exact ⟨sa, vk_R.warm hW hs⟩
theorem zg_N.calling {base : Nat} {U : State} {g : JFrame} {mk : MethodId} {a : Array Value} (h : zg_N base U) : zg_N base (U.calling g mk a) := zg_N.warm (s := U) (U := U.calling g mk a) (State.WarmedH.refl U) (fun _ _ _ => rfl) h
theorem zg_N.moved {base : Nat} {s U : State} {locs : List Loc} (hW : s.WarmedH U.vm) (hS : va_S (fun q => base ≤ q) s.heap U.heap locs) (h : zg_N base s) : zg_N base U := zg_N.warm hW (fun a h1 h2 => hS.2.1 a h1 h2) h
/-- what every walk knows: the machine, the code, the locals, the class, the words, the classes' numbers, where our cells begin, the room -/
def zg_F (K : zg_K) (cc : ByteArray) (own : String) (rm : Room) : Prop := (zk_p K).tables.exec = Jvm.exec ∧ (zk_c K).code = cc ∧ (zk_c K).maxLocals = zk_n K ∧ (zk_s K).vm.findClass own = some (zk_m K).cls ∧ (∀ w ∈ zw_A, w.before (zk_a K) (zk_s K) = true) ∧ va_K (zk_D K) vwCl (zg_T (zk_A K)) (zk_s K) ∧ zg_N (zk_z K) (zk_s K) ∧ zk_z K ≤ (zk_s K).heap.size ∧ zk_R K = rm
theorem zf_N {K : zg_K} {cc : ByteArray} {own : String} {rm : Room} (F : zg_F K cc own rm) : zg_N (zk_z K) (zk_s K) := F.2.2.2.2.2.2.1
theorem zf_b {K : zg_K} {cc : ByteArray} {own : String} {rm : Room} (F : zg_F K cc own rm) : zk_z K ≤ (zk_s K).heap.size := F.2.2.2.2.2.2.2.1
theorem zf_R {K : zg_K} {cc : ByteArray} {own : String} {rm : Room} (F : zg_F K cc own rm) : zk_R K = rm := F.2.2.2.2.2.2.2.2
abbrev zg_W (K : zg_K) (H : Heap) (locs : List Loc) (cells slots : Nat) (g : JFrame) : Prop := W (zk_p K) (zk_l K) (zk_e K) (zk_R K) (zk_s K) (zk_m K) (zk_a K) (zk_b K) (zk_t K) (zk_c K) H locs cells slots (zk_Q K) g
def zg_G (K : zg_K) (P : zg_P) (cells slots pc : Nat) (L : List (Nat × Value)) (st : List Value) : Prop :=
  ∀ (w : zg_w) (H : Heap) (locs : List Loc) (ls : Array Slot), P w H.size → zg_H (zk_D K) vwCl (zk_z K) w H → va_S (fun q => zk_z K ≤ q) (zk_s K).heap H locs → lv_has ls (zk_n K) L → zg_W K H locs cells slots (F0 (zk_m K) pc ls st)
theorem zg_mono {K : zg_K} {P P' : zg_P} {cells slots pc : Nat} {L : List (Nat × Value)} {st : List Value} (h : ∀ w z, P w z → P' w z) (k : zg_G K P' cells slots pc L st) : zg_G K P cells slots pc L st := fun w H locs ls h1 => k w H locs ls (h w _ h1)
theorem zg_wid {K : zg_K} {P : zg_P} {cells slots c2 s2 pc : Nat} {L : List (Nat × Value)} {st : List Value} (h1 : cells ≤ c2) (h2 : slots ≤ s2) (k : zg_G K P c2 s2 pc L st) : zg_G K P cells slots pc L st := fun w H locs ls a b c d => W.widen h1 h2 (k w H locs ls a b c d)
theorem zg_sub {K : zg_K} {P : zg_P} {cells slots pc : Nat} {L L' : List (Nat × Value)} {st : List Value} (ks : List Nat) (h : lv_pick L ks = L') (k : zg_G K P cells slots pc L' st) : zg_G K P cells slots pc L st := fun w H locs ls a b c d => k w H locs ls a b c (lv_sub d ks h)
theorem zg_ex {α : Type} {K : zg_K} {P : α → zg_P} {cells slots pc : Nat} {L : List (Nat × Value)} {st : List Value} (k : ∀ x, zg_G K (P x) cells slots pc L st) : zg_G K (fun w z => ∃ x, P x w z) cells slots pc L st := fun w H locs ls ⟨x, a⟩ b c d => k x w H locs ls a b c d
theorem zg_and {A : Prop} {K : zg_K} {P : zg_P} {cells slots pc : Nat} {L : List (Nat × Value)} {st : List Value} (k : A → zg_G K P cells slots pc L st) : zg_G K (fun w z => A ∧ P w z) cells slots pc L st := fun w H locs ls ⟨x, a⟩ b c d => k x w H locs ls a b c d
theorem zg_pure {A : Prop} {K : zg_K} {P : zg_P} {cells slots pc : Nat} {L : List (Nat × Value)} {st : List Value} (h : ∀ w z, P w z → A) (k : A → zg_G K P cells slots pc L st) : zg_G K P cells slots pc L st := fun w H locs ls a b c d => k (h w _ a) w H locs ls a b c d
section ZGA
variable {K : zg_K} {P : zg_P} {cells slots pc : Nat} {L : List (Nat × Value)} {st : List Value} {cc : ByteArray} {own : String} {rm : Room}
theorem zg_iconst (F : zg_F K cc own rm) {n : Int} {v : Int32} (hv : Int32.ofInt n = v) (d : decode cc pc = .ok (.iconst n, 1)) (k : zg_G K P cells slots (pc + 1) L (.int v :: st)) : zg_G K P cells slots pc L (st) := fun w H locs ls h1 h2 h3 h4 => lv_iconst F.1 F.2.1 d hv (k w H locs ls h1 h2 h3 h4)
theorem zg_bipush (F : zg_F K cc own rm) {n : Int} {v : Int32} (hv : (Int8.ofInt n).toInt32 = v) (d : decode cc pc = .ok (.bipush n, 2)) (k : zg_G K P cells slots (pc + 2) L (.int v :: st)) : zg_G K P cells slots pc L (st) := fun w H locs ls h1 h2 h3 h4 => lv_bipush F.1 F.2.1 d hv (k w H locs ls h1 h2 h3 h4)
theorem zg_sipush (F : zg_F K cc own rm) {n : Int} {v : Int32} (hv : (Int16.ofInt n).toInt32 = v) (d : decode cc pc = .ok (.sipush n, 3)) (k : zg_G K P cells slots (pc + 3) L (.int v :: st)) : zg_G K P cells slots pc L (st) := fun w H locs ls h1 h2 h3 h4 => lv_sipush F.1 F.2.1 d hv (k w H locs ls h1 h2 h3 h4)
theorem zg_lconst (F : zg_F K cc own rm) {n : Fin 2} {v : Int64} (hv : Int64.ofNat (n : Nat) = v) (d : decode cc pc = .ok (.lconst n, 1)) (k : zg_G K P cells slots (pc + 1) L (.long v :: st)) : zg_G K P cells slots pc L (st) := fun w H locs ls h1 h2 h3 h4 => lv_lconst F.1 F.2.1 d hv (k w H locs ls h1 h2 h3 h4)
theorem zg_iload_n (F : zg_F K cc own rm) {n : Fin 4} {i : Nat} {x : Int32} (j : Nat) (hi : (n : Nat) = i) (hl : L[j]? = some (i, .int x)) (d : decode cc pc = .ok (.iload_n n, 1)) (k : zg_G K P cells slots (pc + 1) L (.int x :: st)) : zg_G K P cells slots pc L (st) := fun w H locs ls h1 h2 h3 h4 => lv_iload_n F.1 F.2.1 d hi (lv_at h4 j hl) (k w H locs ls h1 h2 h3 h4)
theorem zg_iload (F : zg_F K cc own rm) {i : Nat} {x : Int32} (j : Nat) (hl : L[j]? = some (i, .int x)) (d : decode cc pc = .ok (.iload i, 2)) (k : zg_G K P cells slots (pc + 2) L (.int x :: st)) : zg_G K P cells slots pc L (st) := fun w H locs ls h1 h2 h3 h4 => lv_iload F.1 F.2.1 d (lv_at h4 j hl) (k w H locs ls h1 h2 h3 h4)
theorem zg_istore_n (F : zg_F K cc own rm) {n : Fin 4} {i : Nat} {x : Int32} {L' : List (Nat × Value)} (hi : (n : Nat) = i) (hn : i < zk_n K) (hl : (i, Value.int x) :: L.filter (fun q => !(q.1 == i) && !(q.1 + 1 == i && q.2.category == 2)) = L') (d : decode cc pc = .ok (.istore_n n, 1)) (k : zg_G K P cells slots (pc + 1) L' st) : zg_G K P cells slots pc L (.int x :: st) := fun w H locs ls h1 h2 h3 h4 => lv_istore_n F.1 F.2.1 d hi h4 hn hl (fun ls' h5 => k w H locs ls' h1 h2 h3 h5)
theorem zg_istore (F : zg_F K cc own rm) {i : Nat} {x : Int32} {L' : List (Nat × Value)} (hn : i < zk_n K) (hl : (i, Value.int x) :: L.filter (fun q => !(q.1 == i) && !(q.1 + 1 == i && q.2.category == 2)) = L') (d : decode cc pc = .ok (.istore i, 2)) (k : zg_G K P cells slots (pc + 2) L' st) : zg_G K P cells slots pc L (.int x :: st) := fun w H locs ls h1 h2 h3 h4 => lv_istore F.1 F.2.1 d h4 hn hl (fun ls' h5 => k w H locs ls' h1 h2 h3 h5)
theorem zg_lload_n (F : zg_F K cc own rm) {n : Fin 4} {i : Nat} {x : Int64} (j : Nat) (hi : (n : Nat) = i) (hl : L[j]? = some (i, .long x)) (d : decode cc pc = .ok (.lload_n n, 1)) (k : zg_G K P cells slots (pc + 1) L (.long x :: st)) : zg_G K P cells slots pc L (st) := fun w H locs ls h1 h2 h3 h4 => lv_lload_n F.1 F.2.1 d hi (lv_at h4 j hl) (k w H locs ls h1 h2 h3 h4)
theorem zg_lload (F : zg_F K cc own rm) {i : Nat} {x : Int64} (j : Nat) (hl : L[j]? = some (i, .long x)) (d : decode cc pc = .ok (.lload i, 2)) (k : zg_G K P cells slots (pc + 2) L (.long x :: st)) : zg_G K P cells slots pc L (st) := fun w H locs ls h1 h2 h3 h4 => lv_lload F.1 F.2.1 d (lv_at h4 j hl) (k w H locs ls h1 h2 h3 h4)
theorem zg_lstore_n (F : zg_F K cc own rm) {n : Fin 4} {i : Nat} {x : Int64} {L' : List (Nat × Value)} (hi : (n : Nat) = i) (hn : i + 1 < zk_n K) (hl : (i, Value.long x) :: L.filter (fun q => !(q.1 == i) && (!(q.1 == i + 1) && !(q.1 + 1 == i && q.2.category == 2))) = L') (d : decode cc pc = .ok (.lstore_n n, 1)) (k : zg_G K P cells slots (pc + 1) L' st) : zg_G K P cells slots pc L (.long x :: st) := fun w H locs ls h1 h2 h3 h4 => lv_lstore_n F.1 F.2.1 d hi h4 hn hl (fun ls' h5 => k w H locs ls' h1 h2 h3 h5)
theorem zg_lstore (F : zg_F K cc own rm) {i : Nat} {x : Int64} {L' : List (Nat × Value)} (hn : i + 1 < zk_n K) (hl : (i, Value.long x) :: L.filter (fun q => !(q.1 == i) && (!(q.1 == i + 1) && !(q.1 + 1 == i && q.2.category == 2))) = L') (d : decode cc pc = .ok (.lstore i, 2)) (k : zg_G K P cells slots (pc + 2) L' st) : zg_G K P cells slots pc L (.long x :: st) := fun w H locs ls h1 h2 h3 h4 => lv_lstore F.1 F.2.1 d h4 hn hl (fun ls' h5 => k w H locs ls' h1 h2 h3 h5)
theorem zg_aload_n (F : zg_F K cc own rm) {n : Fin 4} {i : Nat} {x : Nat} (j : Nat) (hi : (n : Nat) = i) (hl : L[j]? = some (i, .ref x)) (d : decode cc pc = .ok (.aload_n n, 1)) (k : zg_G K P cells slots (pc + 1) L (.ref x :: st)) : zg_G K P cells slots pc L (st) := fun w H locs ls h1 h2 h3 h4 => lv_aload_n F.1 F.2.1 d hi (lv_at h4 j hl) (k w H locs ls h1 h2 h3 h4)
theorem zg_aload (F : zg_F K cc own rm) {i : Nat} {x : Nat} (j : Nat) (hl : L[j]? = some (i, .ref x)) (d : decode cc pc = .ok (.aload i, 2)) (k : zg_G K P cells slots (pc + 2) L (.ref x :: st)) : zg_G K P cells slots pc L (st) := fun w H locs ls h1 h2 h3 h4 => lv_aload F.1 F.2.1 d (lv_at h4 j hl) (k w H locs ls h1 h2 h3 h4)
theorem zg_astore_n (F : zg_F K cc own rm) {n : Fin 4} {i : Nat} {x : Nat} {L' : List (Nat × Value)} (hi : (n : Nat) = i) (hn : i < zk_n K) (hl : (i, Value.ref x) :: L.filter (fun q => !(q.1 == i) && !(q.1 + 1 == i && q.2.category == 2)) = L') (d : decode cc pc = .ok (.astore_n n, 1)) (k : zg_G K P cells slots (pc + 1) L' st) : zg_G K P cells slots pc L (.ref x :: st) := fun w H locs ls h1 h2 h3 h4 => lv_astore_n F.1 F.2.1 d hi h4 hn hl (fun ls' h5 => k w H locs ls' h1 h2 h3 h5)
theorem zg_astore (F : zg_F K cc own rm) {i : Nat} {x : Nat} {L' : List (Nat × Value)} (hn : i < zk_n K) (hl : (i, Value.ref x) :: L.filter (fun q => !(q.1 == i) && !(q.1 + 1 == i && q.2.category == 2)) = L') (d : decode cc pc = .ok (.astore i, 2)) (k : zg_G K P cells slots (pc + 2) L' st) : zg_G K P cells slots pc L (.ref x :: st) := fun w H locs ls h1 h2 h3 h4 => lv_astore F.1 F.2.1 d h4 hn hl (fun ls' h5 => k w H locs ls' h1 h2 h3 h5)
theorem zg_iinc (F : zg_F K cc own rm) {i : Nat} {n : Int} {x v : Int32} {L' : List (Nat × Value)} (j : Nat) (hj : L[j]? = some (i, .int x)) (hv : x + Int32.ofInt n = v) (hn : i < zk_n K) (hl : (i, Value.int v) :: L.filter (fun q => !(q.1 == i) && !(q.1 + 1 == i && q.2.category == 2)) = L') (d : decode cc pc = .ok (.iinc i n, 3)) (k : zg_G K P cells slots (pc + 3) L' st) : zg_G K P cells slots pc L st := fun w H locs ls h1 h2 h3 h4 => lv_iinc F.1 F.2.1 d h4 hj hv hn hl (fun ls' h5 => k w H locs ls' h1 h2 h3 h5)
theorem zg_iadd (F : zg_F K cc own rm) {x y v : Int32} (hv : x + y = v) (d : decode cc pc = .ok (.iadd, 1)) (k : zg_G K P cells slots (pc + 1) L (.int v :: st)) : zg_G K P cells slots pc L (.int y :: .int x :: st) := fun w H locs ls h1 h2 h3 h4 => lv_iadd F.1 F.2.1 d (by rw [hv]; exact k w H locs ls h1 h2 h3 h4)
theorem zg_isub (F : zg_F K cc own rm) {x y v : Int32} (hv : x - y = v) (d : decode cc pc = .ok (.isub, 1)) (k : zg_G K P cells slots (pc + 1) L (.int v :: st)) : zg_G K P cells slots pc L (.int y :: .int x :: st) := fun w H locs ls h1 h2 h3 h4 => lv_isub F.1 F.2.1 d (by rw [hv]; exact k w H locs ls h1 h2 h3 h4)
theorem zg_imul (F : zg_F K cc own rm) {x y v : Int32} (hv : x * y = v) (d : decode cc pc = .ok (.imul, 1)) (k : zg_G K P cells slots (pc + 1) L (.int v :: st)) : zg_G K P cells slots pc L (.int y :: .int x :: st) := fun w H locs ls h1 h2 h3 h4 => lv_imul F.1 F.2.1 d (by rw [hv]; exact k w H locs ls h1 h2 h3 h4)
theorem zg_iand (F : zg_F K cc own rm) {x y v : Int32} (hv : x &&& y = v) (d : decode cc pc = .ok (.iand, 1)) (k : zg_G K P cells slots (pc + 1) L (.int v :: st)) : zg_G K P cells slots pc L (.int y :: .int x :: st) := fun w H locs ls h1 h2 h3 h4 => lv_iand F.1 F.2.1 d (by rw [hv]; exact k w H locs ls h1 h2 h3 h4)
theorem zg_idiv (F : zg_F K cc own rm) {x y v : Int32} (hne : ¬ y = 0) (hv : x / y = v) (d : decode cc pc = .ok (.idiv, 1)) (k : zg_G K P cells slots (pc + 1) L (.int v :: st)) : zg_G K P cells slots pc L (.int y :: .int x :: st) := fun w H locs ls h1 h2 h3 h4 => lv_idiv F.1 F.2.1 d hne (by rw [hv]; exact k w H locs ls h1 h2 h3 h4)
theorem zg_irem (F : zg_F K cc own rm) {x y v : Int32} (hne : ¬ y = 0) (hv : x - x / y * y = v) (d : decode cc pc = .ok (.irem, 1)) (k : zg_G K P cells slots (pc + 1) L (.int v :: st)) : zg_G K P cells slots pc L (.int y :: .int x :: st) := fun w H locs ls h1 h2 h3 h4 => lv_irem F.1 F.2.1 d hne (by rw [hv]; exact k w H locs ls h1 h2 h3 h4)
theorem zg_ladd (F : zg_F K cc own rm) {x y v : Int64} (hv : x + y = v) (d : decode cc pc = .ok (.ladd, 1)) (k : zg_G K P cells slots (pc + 1) L (.long v :: st)) : zg_G K P cells slots pc L (.long y :: .long x :: st) := fun w H locs ls h1 h2 h3 h4 => lv_ladd F.1 F.2.1 d (by rw [hv]; exact k w H locs ls h1 h2 h3 h4)
theorem zg_lsub (F : zg_F K cc own rm) {x y v : Int64} (hv : x - y = v) (d : decode cc pc = .ok (.lsub, 1)) (k : zg_G K P cells slots (pc + 1) L (.long v :: st)) : zg_G K P cells slots pc L (.long y :: .long x :: st) := fun w H locs ls h1 h2 h3 h4 => lv_lsub F.1 F.2.1 d (by rw [hv]; exact k w H locs ls h1 h2 h3 h4)
theorem zg_lmul (F : zg_F K cc own rm) {x y v : Int64} (hv : x * y = v) (d : decode cc pc = .ok (.lmul, 1)) (k : zg_G K P cells slots (pc + 1) L (.long v :: st)) : zg_G K P cells slots pc L (.long y :: .long x :: st) := fun w H locs ls h1 h2 h3 h4 => lv_lmul F.1 F.2.1 d (by rw [hv]; exact k w H locs ls h1 h2 h3 h4)
theorem zg_ineg (F : zg_F K cc own rm) {x v : Int32} (hv : -x = v) (d : decode cc pc = .ok (.ineg, 1)) (k : zg_G K P cells slots (pc + 1) L (.int v :: st)) : zg_G K P cells slots pc L (.int x :: st) := fun w H locs ls h1 h2 h3 h4 => lv_ineg F.1 F.2.1 d (by rw [hv]; exact k w H locs ls h1 h2 h3 h4)
theorem zg_i2l (F : zg_F K cc own rm) {x : Int32} {v : Int64} (hv : x.toInt64 = v) (d : decode cc pc = .ok (.i2l, 1)) (k : zg_G K P cells slots (pc + 1) L (.long v :: st)) : zg_G K P cells slots pc L (.int x :: st) := fun w H locs ls h1 h2 h3 h4 => lv_i2l F.1 F.2.1 d hv (k w H locs ls h1 h2 h3 h4)
theorem zg_dup (F : zg_F K cc own rm) {a : Value} (ha : a.category = 1) (d : decode cc pc = .ok (.dup, 1)) (k : zg_G K P cells slots (pc + 1) L (a :: a :: st)) : zg_G K P cells slots pc L (a :: st) := fun w H locs ls h1 h2 h3 h4 => lv_dup F.1 F.2.1 d ha (k w H locs ls h1 h2 h3 h4)
theorem zg_pop (F : zg_F K cc own rm) {a : Value} (ha : a.category = 1) (d : decode cc pc = .ok (.pop, 1)) (k : zg_G K P cells slots (pc + 1) L (st)) : zg_G K P cells slots pc L (a :: st) := fun w H locs ls h1 h2 h3 h4 => lv_pop F.1 F.2.1 d ha (k w H locs ls h1 h2 h3 h4)
theorem zg_dup2 (F : zg_F K cc own rm) {a b : Value} (ha : a.category = 1) (hb : b.category = 1) (d : decode cc pc = .ok (.dup2, 1)) (k : zg_G K P cells slots (pc + 1) L (a :: b :: a :: b :: st)) : zg_G K P cells slots pc L (a :: b :: st) := fun w H locs ls h1 h2 h3 h4 => lv_dup2_11 F.1 F.2.1 d ha hb (k w H locs ls h1 h2 h3 h4)
theorem zg_dup_x1 (F : zg_F K cc own rm) {a b : Value} (ha : a.category = 1) (hb : b.category = 1) (d : decode cc pc = .ok (.dup_x1, 1)) (k : zg_G K P cells slots (pc + 1) L (a :: b :: a :: st)) : zg_G K P cells slots pc L (a :: b :: st) := fun w H locs ls h1 h2 h3 h4 => lv_dup_x1 F.1 F.2.1 d ha hb (k w H locs ls h1 h2 h3 h4)
theorem zg_dup_x2 (F : zg_F K cc own rm) {a b c : Value} (ha : a.category = 1) (hb : b.category = 1) (hc : c.category = 1) (d : decode cc pc = .ok (.dup_x2, 1)) (k : zg_G K P cells slots (pc + 1) L (a :: b :: c :: a :: st)) : zg_G K P cells slots pc L (a :: b :: c :: st) := fun w H locs ls h1 h2 h3 h4 => lv_dup_x2 F.1 F.2.1 d ha hb hc (k w H locs ls h1 h2 h3 h4)
theorem zg_if_eq (F : zg_F K cc own rm) {x : Int32} {off : Int} {tgt : Nat} (d : decode cc pc = .ok (.ifCond .eq off, 3)) (ht : (pc : Int) + off = (tgt : Int)) (kt : x = 0 → zg_G K P cells slots tgt L st) (kf : ¬ x = 0 → zg_G K P cells slots (pc + 3) L st) : zg_G K P cells slots pc L (.int x :: st) := fun w H locs ls h1 h2 h3 h4 => lv_if_eq F.1 F.2.1 d ht (fun h => kt h w H locs ls h1 h2 h3 h4) (fun h => kf h w H locs ls h1 h2 h3 h4)
theorem zg_if_eqT (F : zg_F K cc own rm) {x : Int32} {off : Int} {tgt : Nat} (d : decode cc pc = .ok (.ifCond .eq off, 3)) (ht : (pc : Int) + off = (tgt : Int)) (h : x = 0) (k : zg_G K P cells slots tgt L st) : zg_G K P cells slots pc L (.int x :: st) := zg_if_eq F d ht (fun _ => k) (fun q => absurd h (by first | exact q | exact not_not_intro q))
theorem zg_if_eqF (F : zg_F K cc own rm) {x : Int32} {off : Int} (d : decode cc pc = .ok (.ifCond .eq off, 3)) {tgt : Nat} (ht : (pc : Int) + off = (tgt : Int)) (h : ¬ x = 0) (k : zg_G K P cells slots (pc + 3) L st) : zg_G K P cells slots pc L (.int x :: st) := zg_if_eq F d ht (fun q => absurd h (by first | exact not_not_intro q | exact q)) (fun _ => k)
theorem zg_icmp_eq (F : zg_F K cc own rm) {x y : Int32} {off : Int} {tgt : Nat} (d : decode cc pc = .ok (.if_icmp .eq off, 3)) (ht : (pc : Int) + off = (tgt : Int)) (kt : x = y → zg_G K P cells slots tgt L st) (kf : ¬ x = y → zg_G K P cells slots (pc + 3) L st) : zg_G K P cells slots pc L (.int y :: .int x :: st) := fun w H locs ls h1 h2 h3 h4 => lv_icmp_eq F.1 F.2.1 d ht (fun h => kt h w H locs ls h1 h2 h3 h4) (fun h => kf h w H locs ls h1 h2 h3 h4)
theorem zg_icmp_eqT (F : zg_F K cc own rm) {x y : Int32} {off : Int} {tgt : Nat} (d : decode cc pc = .ok (.if_icmp .eq off, 3)) (ht : (pc : Int) + off = (tgt : Int)) (h : x = y) (k : zg_G K P cells slots tgt L st) : zg_G K P cells slots pc L (.int y :: .int x :: st) := zg_icmp_eq F d ht (fun _ => k) (fun q => absurd h (by first | exact q | exact not_not_intro q))
theorem zg_icmp_eqF (F : zg_F K cc own rm) {x y : Int32} {off : Int} (d : decode cc pc = .ok (.if_icmp .eq off, 3)) {tgt : Nat} (ht : (pc : Int) + off = (tgt : Int)) (h : ¬ x = y) (k : zg_G K P cells slots (pc + 3) L st) : zg_G K P cells slots pc L (.int y :: .int x :: st) := zg_icmp_eq F d ht (fun q => absurd h (by first | exact not_not_intro q | exact q)) (fun _ => k)
theorem zg_if_ne (F : zg_F K cc own rm) {x : Int32} {off : Int} {tgt : Nat} (d : decode cc pc = .ok (.ifCond .ne off, 3)) (ht : (pc : Int) + off = (tgt : Int)) (kt : ¬ x = 0 → zg_G K P cells slots tgt L st) (kf : x = 0 → zg_G K P cells slots (pc + 3) L st) : zg_G K P cells slots pc L (.int x :: st) := fun w H locs ls h1 h2 h3 h4 => lv_if_ne F.1 F.2.1 d ht (fun h => kt h w H locs ls h1 h2 h3 h4) (fun h => kf h w H locs ls h1 h2 h3 h4)
theorem zg_if_neT (F : zg_F K cc own rm) {x : Int32} {off : Int} {tgt : Nat} (d : decode cc pc = .ok (.ifCond .ne off, 3)) (ht : (pc : Int) + off = (tgt : Int)) (h : ¬ x = 0) (k : zg_G K P cells slots tgt L st) : zg_G K P cells slots pc L (.int x :: st) := zg_if_ne F d ht (fun _ => k) (fun q => absurd h (by first | exact q | exact not_not_intro q))
theorem zg_if_neF (F : zg_F K cc own rm) {x : Int32} {off : Int} (d : decode cc pc = .ok (.ifCond .ne off, 3)) {tgt : Nat} (ht : (pc : Int) + off = (tgt : Int)) (h : x = 0) (k : zg_G K P cells slots (pc + 3) L st) : zg_G K P cells slots pc L (.int x :: st) := zg_if_ne F d ht (fun q => absurd h (by first | exact not_not_intro q | exact q)) (fun _ => k)
theorem zg_icmp_ne (F : zg_F K cc own rm) {x y : Int32} {off : Int} {tgt : Nat} (d : decode cc pc = .ok (.if_icmp .ne off, 3)) (ht : (pc : Int) + off = (tgt : Int)) (kt : ¬ x = y → zg_G K P cells slots tgt L st) (kf : x = y → zg_G K P cells slots (pc + 3) L st) : zg_G K P cells slots pc L (.int y :: .int x :: st) := fun w H locs ls h1 h2 h3 h4 => lv_icmp_ne F.1 F.2.1 d ht (fun h => kt h w H locs ls h1 h2 h3 h4) (fun h => kf h w H locs ls h1 h2 h3 h4)
theorem zg_icmp_neT (F : zg_F K cc own rm) {x y : Int32} {off : Int} {tgt : Nat} (d : decode cc pc = .ok (.if_icmp .ne off, 3)) (ht : (pc : Int) + off = (tgt : Int)) (h : ¬ x = y) (k : zg_G K P cells slots tgt L st) : zg_G K P cells slots pc L (.int y :: .int x :: st) := zg_icmp_ne F d ht (fun _ => k) (fun q => absurd h (by first | exact q | exact not_not_intro q))
theorem zg_icmp_neF (F : zg_F K cc own rm) {x y : Int32} {off : Int} (d : decode cc pc = .ok (.if_icmp .ne off, 3)) {tgt : Nat} (ht : (pc : Int) + off = (tgt : Int)) (h : x = y) (k : zg_G K P cells slots (pc + 3) L st) : zg_G K P cells slots pc L (.int y :: .int x :: st) := zg_icmp_ne F d ht (fun q => absurd h (by first | exact not_not_intro q | exact q)) (fun _ => k)
theorem zg_if_lt (F : zg_F K cc own rm) {x : Int32} {off : Int} {tgt : Nat} (d : decode cc pc = .ok (.ifCond .lt off, 3)) (ht : (pc : Int) + off = (tgt : Int)) (kt : x < 0 → zg_G K P cells slots tgt L st) (kf : ¬ x < 0 → zg_G K P cells slots (pc + 3) L st) : zg_G K P cells slots pc L (.int x :: st) := fun w H locs ls h1 h2 h3 h4 => lv_if_lt F.1 F.2.1 d ht (fun h => kt h w H locs ls h1 h2 h3 h4) (fun h => kf h w H locs ls h1 h2 h3 h4)
theorem zg_if_ltT (F : zg_F K cc own rm) {x : Int32} {off : Int} {tgt : Nat} (d : decode cc pc = .ok (.ifCond .lt off, 3)) (ht : (pc : Int) + off = (tgt : Int)) (h : x < 0) (k : zg_G K P cells slots tgt L st) : zg_G K P cells slots pc L (.int x :: st) := zg_if_lt F d ht (fun _ => k) (fun q => absurd h (by first | exact q | exact not_not_intro q))
theorem zg_if_ltF (F : zg_F K cc own rm) {x : Int32} {off : Int} (d : decode cc pc = .ok (.ifCond .lt off, 3)) {tgt : Nat} (ht : (pc : Int) + off = (tgt : Int)) (h : ¬ x < 0) (k : zg_G K P cells slots (pc + 3) L st) : zg_G K P cells slots pc L (.int x :: st) := zg_if_lt F d ht (fun q => absurd h (by first | exact not_not_intro q | exact q)) (fun _ => k)
theorem zg_icmp_lt (F : zg_F K cc own rm) {x y : Int32} {off : Int} {tgt : Nat} (d : decode cc pc = .ok (.if_icmp .lt off, 3)) (ht : (pc : Int) + off = (tgt : Int)) (kt : x < y → zg_G K P cells slots tgt L st) (kf : ¬ x < y → zg_G K P cells slots (pc + 3) L st) : zg_G K P cells slots pc L (.int y :: .int x :: st) := fun w H locs ls h1 h2 h3 h4 => lv_icmp_lt F.1 F.2.1 d ht (fun h => kt h w H locs ls h1 h2 h3 h4) (fun h => kf h w H locs ls h1 h2 h3 h4)
theorem zg_icmp_ltT (F : zg_F K cc own rm) {x y : Int32} {off : Int} {tgt : Nat} (d : decode cc pc = .ok (.if_icmp .lt off, 3)) (ht : (pc : Int) + off = (tgt : Int)) (h : x < y) (k : zg_G K P cells slots tgt L st) : zg_G K P cells slots pc L (.int y :: .int x :: st) := zg_icmp_lt F d ht (fun _ => k) (fun q => absurd h (by first | exact q | exact not_not_intro q))
theorem zg_icmp_ltF (F : zg_F K cc own rm) {x y : Int32} {off : Int} (d : decode cc pc = .ok (.if_icmp .lt off, 3)) {tgt : Nat} (ht : (pc : Int) + off = (tgt : Int)) (h : ¬ x < y) (k : zg_G K P cells slots (pc + 3) L st) : zg_G K P cells slots pc L (.int y :: .int x :: st) := zg_icmp_lt F d ht (fun q => absurd h (by first | exact not_not_intro q | exact q)) (fun _ => k)
theorem zg_if_ge (F : zg_F K cc own rm) {x : Int32} {off : Int} {tgt : Nat} (d : decode cc pc = .ok (.ifCond .ge off, 3)) (ht : (pc : Int) + off = (tgt : Int)) (kt : 0 ≤ x → zg_G K P cells slots tgt L st) (kf : ¬ 0 ≤ x → zg_G K P cells slots (pc + 3) L st) : zg_G K P cells slots pc L (.int x :: st) := fun w H locs ls h1 h2 h3 h4 => lv_if_ge F.1 F.2.1 d ht (fun h => kt h w H locs ls h1 h2 h3 h4) (fun h => kf h w H locs ls h1 h2 h3 h4)
theorem zg_if_geT (F : zg_F K cc own rm) {x : Int32} {off : Int} {tgt : Nat} (d : decode cc pc = .ok (.ifCond .ge off, 3)) (ht : (pc : Int) + off = (tgt : Int)) (h : 0 ≤ x) (k : zg_G K P cells slots tgt L st) : zg_G K P cells slots pc L (.int x :: st) := zg_if_ge F d ht (fun _ => k) (fun q => absurd h (by first | exact q | exact not_not_intro q))
theorem zg_if_geF (F : zg_F K cc own rm) {x : Int32} {off : Int} (d : decode cc pc = .ok (.ifCond .ge off, 3)) {tgt : Nat} (ht : (pc : Int) + off = (tgt : Int)) (h : ¬ 0 ≤ x) (k : zg_G K P cells slots (pc + 3) L st) : zg_G K P cells slots pc L (.int x :: st) := zg_if_ge F d ht (fun q => absurd h (by first | exact not_not_intro q | exact q)) (fun _ => k)
theorem zg_icmp_ge (F : zg_F K cc own rm) {x y : Int32} {off : Int} {tgt : Nat} (d : decode cc pc = .ok (.if_icmp .ge off, 3)) (ht : (pc : Int) + off = (tgt : Int)) (kt : y ≤ x → zg_G K P cells slots tgt L st) (kf : ¬ y ≤ x → zg_G K P cells slots (pc + 3) L st) : zg_G K P cells slots pc L (.int y :: .int x :: st) := fun w H locs ls h1 h2 h3 h4 => lv_icmp_ge F.1 F.2.1 d ht (fun h => kt h w H locs ls h1 h2 h3 h4) (fun h => kf h w H locs ls h1 h2 h3 h4)
theorem zg_icmp_geT (F : zg_F K cc own rm) {x y : Int32} {off : Int} {tgt : Nat} (d : decode cc pc = .ok (.if_icmp .ge off, 3)) (ht : (pc : Int) + off = (tgt : Int)) (h : y ≤ x) (k : zg_G K P cells slots tgt L st) : zg_G K P cells slots pc L (.int y :: .int x :: st) := zg_icmp_ge F d ht (fun _ => k) (fun q => absurd h (by first | exact q | exact not_not_intro q))
theorem zg_icmp_geF (F : zg_F K cc own rm) {x y : Int32} {off : Int} (d : decode cc pc = .ok (.if_icmp .ge off, 3)) {tgt : Nat} (ht : (pc : Int) + off = (tgt : Int)) (h : ¬ y ≤ x) (k : zg_G K P cells slots (pc + 3) L st) : zg_G K P cells slots pc L (.int y :: .int x :: st) := zg_icmp_ge F d ht (fun q => absurd h (by first | exact not_not_intro q | exact q)) (fun _ => k)
theorem zg_if_gt (F : zg_F K cc own rm) {x : Int32} {off : Int} {tgt : Nat} (d : decode cc pc = .ok (.ifCond .gt off, 3)) (ht : (pc : Int) + off = (tgt : Int)) (kt : 0 < x → zg_G K P cells slots tgt L st) (kf : ¬ 0 < x → zg_G K P cells slots (pc + 3) L st) : zg_G K P cells slots pc L (.int x :: st) := fun w H locs ls h1 h2 h3 h4 => lv_if_gt F.1 F.2.1 d ht (fun h => kt h w H locs ls h1 h2 h3 h4) (fun h => kf h w H locs ls h1 h2 h3 h4)
theorem zg_if_gtT (F : zg_F K cc own rm) {x : Int32} {off : Int} {tgt : Nat} (d : decode cc pc = .ok (.ifCond .gt off, 3)) (ht : (pc : Int) + off = (tgt : Int)) (h : 0 < x) (k : zg_G K P cells slots tgt L st) : zg_G K P cells slots pc L (.int x :: st) := zg_if_gt F d ht (fun _ => k) (fun q => absurd h (by first | exact q | exact not_not_intro q))
theorem zg_if_gtF (F : zg_F K cc own rm) {x : Int32} {off : Int} (d : decode cc pc = .ok (.ifCond .gt off, 3)) {tgt : Nat} (ht : (pc : Int) + off = (tgt : Int)) (h : ¬ 0 < x) (k : zg_G K P cells slots (pc + 3) L st) : zg_G K P cells slots pc L (.int x :: st) := zg_if_gt F d ht (fun q => absurd h (by first | exact not_not_intro q | exact q)) (fun _ => k)
theorem zg_icmp_gt (F : zg_F K cc own rm) {x y : Int32} {off : Int} {tgt : Nat} (d : decode cc pc = .ok (.if_icmp .gt off, 3)) (ht : (pc : Int) + off = (tgt : Int)) (kt : y < x → zg_G K P cells slots tgt L st) (kf : ¬ y < x → zg_G K P cells slots (pc + 3) L st) : zg_G K P cells slots pc L (.int y :: .int x :: st) := fun w H locs ls h1 h2 h3 h4 => lv_icmp_gt F.1 F.2.1 d ht (fun h => kt h w H locs ls h1 h2 h3 h4) (fun h => kf h w H locs ls h1 h2 h3 h4)
theorem zg_icmp_gtT (F : zg_F K cc own rm) {x y : Int32} {off : Int} {tgt : Nat} (d : decode cc pc = .ok (.if_icmp .gt off, 3)) (ht : (pc : Int) + off = (tgt : Int)) (h : y < x) (k : zg_G K P cells slots tgt L st) : zg_G K P cells slots pc L (.int y :: .int x :: st) := zg_icmp_gt F d ht (fun _ => k) (fun q => absurd h (by first | exact q | exact not_not_intro q))
theorem zg_icmp_gtF (F : zg_F K cc own rm) {x y : Int32} {off : Int} (d : decode cc pc = .ok (.if_icmp .gt off, 3)) {tgt : Nat} (ht : (pc : Int) + off = (tgt : Int)) (h : ¬ y < x) (k : zg_G K P cells slots (pc + 3) L st) : zg_G K P cells slots pc L (.int y :: .int x :: st) := zg_icmp_gt F d ht (fun q => absurd h (by first | exact not_not_intro q | exact q)) (fun _ => k)
theorem zg_if_le (F : zg_F K cc own rm) {x : Int32} {off : Int} {tgt : Nat} (d : decode cc pc = .ok (.ifCond .le off, 3)) (ht : (pc : Int) + off = (tgt : Int)) (kt : x ≤ 0 → zg_G K P cells slots tgt L st) (kf : ¬ x ≤ 0 → zg_G K P cells slots (pc + 3) L st) : zg_G K P cells slots pc L (.int x :: st) := fun w H locs ls h1 h2 h3 h4 => lv_if_le F.1 F.2.1 d ht (fun h => kt h w H locs ls h1 h2 h3 h4) (fun h => kf h w H locs ls h1 h2 h3 h4)
theorem zg_if_leT (F : zg_F K cc own rm) {x : Int32} {off : Int} {tgt : Nat} (d : decode cc pc = .ok (.ifCond .le off, 3)) (ht : (pc : Int) + off = (tgt : Int)) (h : x ≤ 0) (k : zg_G K P cells slots tgt L st) : zg_G K P cells slots pc L (.int x :: st) := zg_if_le F d ht (fun _ => k) (fun q => absurd h (by first | exact q | exact not_not_intro q))
theorem zg_if_leF (F : zg_F K cc own rm) {x : Int32} {off : Int} (d : decode cc pc = .ok (.ifCond .le off, 3)) {tgt : Nat} (ht : (pc : Int) + off = (tgt : Int)) (h : ¬ x ≤ 0) (k : zg_G K P cells slots (pc + 3) L st) : zg_G K P cells slots pc L (.int x :: st) := zg_if_le F d ht (fun q => absurd h (by first | exact not_not_intro q | exact q)) (fun _ => k)
theorem zg_icmp_le (F : zg_F K cc own rm) {x y : Int32} {off : Int} {tgt : Nat} (d : decode cc pc = .ok (.if_icmp .le off, 3)) (ht : (pc : Int) + off = (tgt : Int)) (kt : x ≤ y → zg_G K P cells slots tgt L st) (kf : ¬ x ≤ y → zg_G K P cells slots (pc + 3) L st) : zg_G K P cells slots pc L (.int y :: .int x :: st) := fun w H locs ls h1 h2 h3 h4 => lv_icmp_le F.1 F.2.1 d ht (fun h => kt h w H locs ls h1 h2 h3 h4) (fun h => kf h w H locs ls h1 h2 h3 h4)
theorem zg_icmp_leT (F : zg_F K cc own rm) {x y : Int32} {off : Int} {tgt : Nat} (d : decode cc pc = .ok (.if_icmp .le off, 3)) (ht : (pc : Int) + off = (tgt : Int)) (h : x ≤ y) (k : zg_G K P cells slots tgt L st) : zg_G K P cells slots pc L (.int y :: .int x :: st) := zg_icmp_le F d ht (fun _ => k) (fun q => absurd h (by first | exact q | exact not_not_intro q))
theorem zg_icmp_leF (F : zg_F K cc own rm) {x y : Int32} {off : Int} (d : decode cc pc = .ok (.if_icmp .le off, 3)) {tgt : Nat} (ht : (pc : Int) + off = (tgt : Int)) (h : ¬ x ≤ y) (k : zg_G K P cells slots (pc + 3) L st) : zg_G K P cells slots pc L (.int y :: .int x :: st) := zg_icmp_le F d ht (fun q => absurd h (by first | exact not_not_intro q | exact q)) (fun _ => k)
theorem zg_goto (F : zg_F K cc own rm) {off : Int} {tgt : Nat} (d : decode cc pc = .ok (.goto off, 3)) (ht : (pc : Int) + off = (tgt : Int)) (k : zg_G K P cells slots tgt L st) : zg_G K P cells slots pc L st := fun w H locs ls h1 h2 h3 h4 => lv_goto F.1 F.2.1 d ht (k w H locs ls h1 h2 h3 h4)
theorem zg_lcmp (F : zg_F K cc own rm) {x y : Int64} {v : Int32} (hv : lg_cmp x y = v) (d : decode cc pc = .ok (.lcmp, 1)) (k : zg_G K P cells slots (pc + 1) L (.int v :: st)) : zg_G K P cells slots pc L (.long y :: .long x :: st) := fun w H locs ls h1 h2 h3 h4 => W.lcmp F.1 F.2.1 d (by rw [hv]; exact k w H locs ls h1 h2 h3 h4)
theorem zg_ldcI (F : zg_F K cc own rm) {index : Nat} {v : Int32} (hc : Jvm.Cond.constant own index v ∈ zw_A) (d : decode cc pc = .ok (.ldc index, 2)) (k : zg_G K P cells slots (pc + 2) L (.int v :: st)) : zg_G K P cells slots pc L st := fun w H locs ls h1 h2 h3 h4 => W.ldc F.1 F.2.1 F.2.2.2.1 (F.2.2.2.2.1 _ hc) (g := F0 (zk_m K) pc ls st) rfl d (k w H locs ls h1 h2 h3 h4)
theorem zg_get (F : zg_F K cc own rm) {a ci N index : Nat} {C : String} {T : u_T} {fs : List Value} {v : Value} (hw : ∀ w z, P w z → w a = some (.inr (ci, fs))) (hc : vwCl[ci]? = some (C, T, N)) (hin : ∀ w ∈ u_ws C T N, w ∈ zw_A) (j : Nat) (hj : j < N) (hT : (T j).1 = C) (hl : Cond.fieldLink own index C (T j).2.1 (T j).2.2.1 ∈ zw_A) (hv : fs[j]? = some v) (d : decode cc pc = .ok (.getfield index, 3)) (k : zg_G K P cells slots (pc + 3) L (v :: st)) : zg_G K P cells slots pc L (.ref a :: st) := fun w H locs ls h1 h2 h3 h4 =>
  va_get (ws := [(a, .inr (ci, fs))]) F.1 F.2.1 F.2.2.2.2.1 hin F.2.2.2.1 F.2.2.2.2.2.1 (fun i q hq => by
    have hz : i < 1 := (List.getElem?_eq_some_iff.mp hq).1
    rw [show i = 0 by omega] at hq
    cases hq
    exact (h2 a _ (hw w _ h1)).2) 0 rfl hc j hj (F.2.2.2.2.1 _ hl) (by rw [hT]; exact fun _ h => h) hv d (k w H locs ls h1 h2 h3 h4)
theorem zg_put (F : zg_F K cc own rm) {P' : zg_P} {a ci N index : Nat} {C : String} {T : u_T} {fs : List Value} {v : Value} {ty : FieldType} (hw : ∀ w z, P w z → w a = some (.inr (ci, fs))) (hc : vwCl[ci]? = some (C, T, N)) (hin : ∀ w ∈ u_ws C T N, w ∈ zw_A) (ty0 : Nat → FieldType) (hty : ∀ k, k < N → parseFieldDescriptor (T k).2.2.1 = some (ty0 k)) (hnm : ∀ a, a < N → ∀ b, b < N → a ≠ b → (T a).2.1 ≠ (T b).2.1) (j : Nat) (hj : j < N) (hT : (T j).1 = C) (hl : Cond.fieldLink own index C (T j).2.1 (T j).2.2.1 ∈ zw_A) (hfin : (T j).2.2.2 = false) (hd : ty0 j = ty) (hn : narrow ty v = v) (hfit : fits ty v = true) (hlen : j < fs.length) (hP : ∀ w z, P w z → P' (zg_u w a (.inr (ci, fs.set j v))) z) (d : decode cc pc = .ok (.putfield index, 3)) (k : zg_G K P' cells slots (pc + 3) L st) : zg_G K P cells slots pc L (v :: .ref a :: st) := by
  intro w H locs ls h1 h2 h3 h4
  have hK := F.2.2.2.2.2.1
  have hts := F.2.2.2.2.1
  have hap := va_apart (own := own) hts hin ty0 hty hnm hK hc
  obtain ⟨hba, r, g1, cell, q1, q2, q3, q4⟩ := h2 a _ (hw w _ h1)
  have hr : r = (C, T, N) := Option.some.inj (g1.symm.trans hc)
  subst hr
  obtain ⟨hS, hfc, kC, hkC, hkind⟩ := hK.1 ci _ hc
  obtain ⟨cf, kf, fi, f, hi, hsl⟩ := hS j hj
  have hlay := hts _ (hin _ (u_in_lay hj))
  unfold u_lay at hlay
  rw [if_neg (by rw [hfin]; decide)] at hlay
  have hst := (u_facts hfc hkC (u_lays hts hin hj) hi).1
  have h6 := u_store hfc hkC hkind hlay hi (by rw [hty j hj, hd]) hn hfit
  refine W.putK F.1 F.2.1 (f := f) ⟨F.2.2.2.1, hts _ hl, ⟨_, _, _, by rw [hT] at hi; exact hi⟩, hst⟩ (by rw [q2]; exact h6) q1 q3 (by rw [hsl]; exact k2_hasslot (q4 j hj)) rfl rfl d fun H' e1 e2 e3 => ?_
  rw [hsl] at e1 ⊢
  refine k (zg_u w a (.inr (ci, fs.set j v))) H' _ ls (by rw [e2]; exact hP w _ h1) (h2.set hba ⟨_, hc, t_OB.to (V := updV (vp_V fs) j v) ⟨_, e1, q2, q3, t_set q4 hap hj v⟩ (fun i _ => vp_updV_set hlen v i)⟩ e3) (h3.put e2 e3 hba) h4
theorem zg_putF (F : zg_F K cc own rm) {P' : zg_P} {a ci N index : Nat} {C : String} {T : u_T} {fs : List Value} {v : Value} {ty : FieldType} (hinit : (zk_t K).name = "<init>") (hw : ∀ w z, P w z → w a = some (.inr (ci, fs))) (hc : vwCl[ci]? = some (C, T, N)) (hin : ∀ w ∈ u_ws C T N, w ∈ zw_A) (ty0 : Nat → FieldType) (hty : ∀ k, k < N → parseFieldDescriptor (T k).2.2.1 = some (ty0 k)) (hnm : ∀ a, a < N → ∀ b, b < N → a ≠ b → (T a).2.1 ≠ (T b).2.1) (j : Nat) (hj : j < N) (hT : (T j).1 = C) (hO : C = own) (hl : Cond.fieldLink own index C (T j).2.1 (T j).2.2.1 ∈ zw_A) (hfin : (T j).2.2.2 = true) (hd : ty0 j = ty) (hn : narrow ty v = v) (hfit : fits ty v = true) (hlen : j < fs.length) (hP : ∀ w z, P w z → P' (zg_u w a (.inr (ci, fs.set j v))) z) (d : decode cc pc = .ok (.putfield index, 3)) (k : zg_G K P' cells slots (pc + 3) L st) : zg_G K P cells slots pc L (v :: .ref a :: st) := by
  intro w H locs ls h1 h2 h3 h4
  have hK := F.2.2.2.2.2.1
  have hts := F.2.2.2.2.1
  have hown := F.2.2.2.1
  have hap := va_apart (own := own) hts hin ty0 hty hnm hK hc
  obtain ⟨hba, r, g1, cell, q1, q2, q3, q4⟩ := h2 a _ (hw w _ h1)
  have hr : r = (C, T, N) := Option.some.inj (g1.symm.trans hc)
  subst hr
  obtain ⟨hS, hfc, kC, hkC, hkind⟩ := hK.1 ci _ hc
  obtain ⟨cf, kf, fi, f, hi, hsl⟩ := hS j hj
  have hlay := hts _ (hin _ (u_in_lay hj))
  unfold u_lay at hlay
  rw [if_pos hfin] at hlay
  have hst := (u_facts hfc hkC (u_lays hts hin hj) hi).1
  have hcf : (zk_m K).cls = cf := by
    obtain ⟨_, _, c', _, _, _, -, -, hf', -, -, -, hown2, -⟩ := Cond.laysFinal_spec hlay
    have e1 : c' = cf := by have := hi.symm.trans hf'; simp at this; exact this.1.symm
    rw [hT, hO] at hown2
    rw [← e1]; exact Option.some.inj (hown.symm.trans hown2)
  have h6 := u_fits hfc hkC hkind (Or.inr hlay) hi (by rw [hty j hj, hd]) hn hfit
  refine W.putFinK F.1 F.2.1 hown (hts _ hl) (by rw [hT] at hi; exact hi) hst hcf hinit (by rw [q2]; exact h6) q1 q3 (by rw [hsl]; exact k2_hasslot (q4 j hj)) rfl rfl d fun H' e1 e2 e3 => ?_
  rw [hsl] at e1 ⊢
  refine k (zg_u w a (.inr (ci, fs.set j v))) H' _ ls (by rw [e2]; exact hP w _ h1) (h2.set hba ⟨_, hc, t_OB.to (V := updV (vp_V fs) j v) ⟨_, e1, q2, q3, t_set q4 hap hj v⟩ (fun i _ => vp_updV_set hlen v i)⟩ e3) (h3.put e2 e3 hba) h4
theorem zg_iald (F : zg_F K cc own rm) {a n j : Nat} {f : Nat → Int32} {v : Int32} (hw : ∀ w z, P w z → w a = some (.inl (zk_A K 0, n, .inl f))) (hj : j < n) (hn : n < 2 ^ 31) (hv : f j = v) (d : decode cc pc = .ok (.iaload, 1)) (k : zg_G K P cells slots (pc + 1) L (.int v :: st)) : zg_G K P cells slots pc L (.int (nI j) :: .ref a :: st) := fun w H locs ls h1 h2 h3 h4 =>
  va_iald (ws := [(a, .inl (zk_A K 0, n, .inl f))]) (cA := zk_A K 0) (f := f) F.1 F.2.1 F.2.2.2.2.2.1 (fun i q hq => by
    have hz : i < 1 := (List.getElem?_eq_some_iff.mp hq).1
    rw [show i = 0 by omega] at hq
    cases hq
    exact (h2 a _ (hw w _ h1)).2) 0 0 rfl rfl (vp_in_nI hj hn) d (by rw [nI_clamp (by omega), hv]; exact k w H locs ls h1 h2 h3 h4)
theorem zg_zald (F : zg_F K cc own rm) {a n j : Nat} {f : Nat → Int32} {v : Int32} (hw : ∀ w z, P w z → w a = some (.inl (zk_A K 1, n, .inl f))) (hj : j < n) (hn : n < 2 ^ 31) (hv : f j = v) (d : decode cc pc = .ok (.baload, 1)) (k : zg_G K P cells slots (pc + 1) L (.int v :: st)) : zg_G K P cells slots pc L (.int (nI j) :: .ref a :: st) := fun w H locs ls h1 h2 h3 h4 =>
  va_zald (ws := [(a, .inl (zk_A K 1, n, .inl f))]) (cA := zk_A K 1) (f := f) F.1 F.2.1 F.2.2.2.2.2.1 (fun i q hq => by
    have hz : i < 1 := (List.getElem?_eq_some_iff.mp hq).1
    rw [show i = 0 by omega] at hq
    cases hq
    exact (h2 a _ (hw w _ h1)).2) 0 1 rfl rfl (vp_in_nI hj hn) d (by rw [nI_clamp (by omega), hv]; exact k w H locs ls h1 h2 h3 h4)
theorem zg_lald (F : zg_F K cc own rm) {a n j : Nat} {f : Nat → Int64} {v : Int64} (hw : ∀ w z, P w z → w a = some (.inl (zk_A K 2, n, .inr (.inl f)))) (hj : j < n) (hn : n < 2 ^ 31) (hv : f j = v) (d : decode cc pc = .ok (.laload, 1)) (k : zg_G K P cells slots (pc + 1) L (.long v :: st)) : zg_G K P cells slots pc L (.int (nI j) :: .ref a :: st) := fun w H locs ls h1 h2 h3 h4 =>
  va_lald (ws := [(a, .inl (zk_A K 2, n, .inr (.inl f)))]) (cA := zk_A K 2) (f := f) F.1 F.2.1 F.2.2.2.2.2.1 (fun i q hq => by
    have hz : i < 1 := (List.getElem?_eq_some_iff.mp hq).1
    rw [show i = 0 by omega] at hq
    cases hq
    exact (h2 a _ (hw w _ h1)).2) 0 2 rfl rfl (vp_in_nI hj hn) d (by rw [nI_clamp (by omega), hv]; exact k w H locs ls h1 h2 h3 h4)
theorem zg_aald (F : zg_F K cc own rm) {a n j t0 q : Nat} {C : String} {f : Nat → Option Nat} (hw : ∀ w z, P w z → w a = some (.inl (zk_A K t0, n, .inr (.inr (.inr (.inr f)))))) (ht : (zg_T (zk_A K))[t0]? = some (zk_A K t0, .object C)) (hj : j < n) (hn : n < 2 ^ 31) (hv : f j = some q) (d : decode cc pc = .ok (.aaload, 1)) (k : zg_G K P cells slots (pc + 1) L (.ref q :: st)) : zg_G K P cells slots pc L (.int (nI j) :: .ref a :: st) := fun w H locs ls h1 h2 h3 h4 =>
  va_aldq (ws := [(a, .inl (zk_A K t0, n, .inr (.inr (.inr (.inr f)))))]) (cA := zk_A K t0) (f := f) F.1 F.2.1 F.2.2.2.2.2.1 (fun i q hq => by
    have hz : i < 1 := (List.getElem?_eq_some_iff.mp hq).1
    rw [show i = 0 by omega] at hq
    cases hq
    exact (h2 a _ (hw w _ h1)).2) 0 t0 rfl ht (vp_in_nI hj hn) d (by rw [nI_clamp (by omega), hv]; exact k w H locs ls h1 h2 h3 h4)
theorem zg_iast (F : zg_F K cc own rm) {P' : zg_P} {a n j : Nat} {f : Nat → Int32} {x : Int32} (hw : ∀ w z, P w z → w a = some (.inl (zk_A K 0, n, .inl (f)))) (hj : j < n) (hn : n < 2 ^ 31) (hP : ∀ w z, P w z → P' (zg_u w a (.inl (zk_A K 0, n, .inl (upd f j x)))) z) (d : decode cc pc = .ok (.iastore, 1)) (k : zg_G K P' cells slots (pc + 1) L st) : zg_G K P cells slots pc L (.int x :: .int (nI j) :: .ref a :: st) := by
  intro w H locs ls h1 h2 h3 h4
  obtain ⟨hba, hat⟩ := h2 a _ (hw w _ h1)
  refine W.iast F.1 F.2.1 hat ((F.2.2.2.2.2.1.2 0 _ rfl).1 n (fun i => .int (f i))) (fun q => by cases q) (by show ¬ (nI j < 0 ∨ (arrV _ _ _).slots.size ≤ _); rw [arrV_size]; exact vp_in_nI hj hn) rfl rfl d fun H1 e z oq => ?_
  have hcl : (nI j).toNatClampNeg = j := nI_clamp (by omega)
  rw [hcl] at e ⊢
  refine k (zg_u w a (.inl (zk_A K 0, n, .inl (upd f j x)))) H1 _ ls (by rw [z]; exact hP w _ h1) (h2.set hba ?_ oq) (h3.put z oq hba) h4
  show H1[a]? = some (vp_cell _ _)
  rw [e, vp_cell_i, vp_cell_i, arrV_store]
  congr 2
  funext q
  by_cases hq : q = j
  · subst hq
    simp [updV, upd]
    try rfl
  · simp [updV, upd, hq]
theorem zg_zast (F : zg_F K cc own rm) {P' : zg_P} {a n j : Nat} {f : Nat → Int32} {x : Int32} (hw : ∀ w z, P w z → w a = some (.inl (zk_A K 1, n, .inl (f)))) (hj : j < n) (hn : n < 2 ^ 31) (hP : ∀ w z, P w z → P' (zg_u w a (.inl (zk_A K 1, n, .inl (upd f j (vp_nar .boolean x))))) z) (d : decode cc pc = .ok (.bastore, 1)) (k : zg_G K P' cells slots (pc + 1) L st) : zg_G K P cells slots pc L (.int x :: .int (nI j) :: .ref a :: st) := by
  intro w H locs ls h1 h2 h3 h4
  obtain ⟨hba, hat⟩ := h2 a _ (hw w _ h1)
  refine W.zast F.1 F.2.1 hat ((F.2.2.2.2.2.1.2 1 _ rfl).1 n (fun i => .int (f i))) (fun q => by cases q) (by show ¬ (nI j < 0 ∨ (arrV _ _ _).slots.size ≤ _); rw [arrV_size]; exact vp_in_nI hj hn) rfl rfl d fun H1 e z oq => ?_
  have hcl : (nI j).toNatClampNeg = j := nI_clamp (by omega)
  rw [hcl] at e ⊢
  refine k (zg_u w a (.inl (zk_A K 1, n, .inl (upd f j (vp_nar .boolean x))))) H1 _ ls (by rw [z]; exact hP w _ h1) (h2.set hba ?_ oq) (h3.put z oq hba) h4
  show H1[a]? = some (vp_cell _ _)
  rw [e, vp_cell_i, vp_cell_i, arrV_store]
  congr 2
  funext q
  by_cases hq : q = j
  · subst hq
    simp [updV, upd, vp_nar]
    try rfl
  · simp [updV, upd, vp_nar, hq]
theorem zg_last (F : zg_F K cc own rm) {P' : zg_P} {a n j : Nat} {f : Nat → Int64} {x : Int64} (hw : ∀ w z, P w z → w a = some (.inl (zk_A K 2, n, .inr (.inl (f))))) (hj : j < n) (hn : n < 2 ^ 31) (hP : ∀ w z, P w z → P' (zg_u w a (.inl (zk_A K 2, n, .inr (.inl (vp_updL f j x))))) z) (d : decode cc pc = .ok (.lastore, 1)) (k : zg_G K P' cells slots (pc + 1) L st) : zg_G K P cells slots pc L (.long x :: .int (nI j) :: .ref a :: st) := by
  intro w H locs ls h1 h2 h3 h4
  obtain ⟨hba, hat⟩ := h2 a _ (hw w _ h1)
  refine W.last F.1 F.2.1 hat ((F.2.2.2.2.2.1.2 2 _ rfl).1 n (fun i => .long (f i))) (fun q => by cases q) (by show ¬ (nI j < 0 ∨ (arrV _ _ _).slots.size ≤ _); rw [arrV_size]; exact vp_in_nI hj hn) rfl rfl d fun H1 e z oq => ?_
  have hcl : (nI j).toNatClampNeg = j := nI_clamp (by omega)
  rw [hcl] at e ⊢
  refine k (zg_u w a (.inl (zk_A K 2, n, .inr (.inl (vp_updL f j x))))) H1 _ ls (by rw [z]; exact hP w _ h1) (h2.set hba ?_ oq) (h3.put z oq hba) h4
  show H1[a]? = some (vp_cell _ _)
  rw [e, vp_cell_l, vp_cell_l, arrV_store]
  congr 2
  funext q
  by_cases hq : q = j
  · subst hq
    simp [updV, vp_updL]
    try rfl
  · simp [updV, vp_updL, hq]
theorem zg_aast (F : zg_F K cc own rm) {P' : zg_P} {a n j t0 v ci : Nat} {r : vw_C} {vs : List Value} {f : Nat → Option Nat} (hw : ∀ w z, P w z → w a = some (.inl (zk_A K t0, n, .inr (.inr (.inr (.inr f)))))) (ht : (zg_T (zk_A K))[t0]? = some (zk_A K t0, .object r.1)) (hv : ∀ w z, P w z → w v = some (.inr (ci, vs))) (hc : vwCl[ci]? = some r) (hj : j < n) (hn : n < 2 ^ 31) (hP : ∀ w z, P w z → P' (zg_u w a (.inl (zk_A K t0, n, .inr (.inr (.inr (.inr (va_up f j (some v)))))))) z) (d : decode cc pc = .ok (.aastore, 1)) (k : zg_G K P' cells slots (pc + 1) L st) : zg_G K P cells slots pc L (.ref v :: .int (nI j) :: .ref a :: st) := by
  intro w H locs ls h1 h2 h3 h4
  have hK := F.2.2.2.2.2.1
  obtain ⟨hba, hat⟩ := h2 a _ (hw w _ h1)
  obtain ⟨-, r', hr', cellV, g1, g2, g3, -⟩ := h2 v _ (hv w _ h1)
  have hin : vp_in (nI j) n := vp_in_nI hj hn
  have hcl : (nI j).toNatClampNeg = j := nI_clamp (by omega)
  have h0 : ¬ nI j < 0 := fun q => hin (Or.inl q)
  have hcls := (hK.1 ci r hc).2
  obtain ⟨kA, comp, k1, k2, k3, -⟩ := (hK.2 t0 _ ht).2
  have hcomp : comp = (zk_D K).1 ci := Option.some.inj (k3.symm.trans hcls.1)
  subst hcomp
  obtain ⟨kC, hkC, -⟩ := hcls.2
  refine W.aast F.1 F.2.1 hat (fun q h => by cases h) (fun h => by cases h) k1 k2 rfl hkC ⟨h0, by show _ < (arrV _ _ _).slots.size; rw [arrV_size, hcl]; exact hj⟩ g1 (fun q h => by rw [g3] at h; cases h) (by rw [g2]; exact hkC) (by rw [g2]; exact va_assign hcls) rfl rfl d fun H1 e z oq => ?_
  rw [hcl] at e ⊢
  refine k (zg_u w a (.inl (zk_A K t0, n, .inr (.inr (.inr (.inr (va_up f j (some v)))))))) H1 _ ls (by rw [z]; exact hP w _ h1) (h2.set hba ?_ oq) (h3.put z oq hba) h4
  show H1[a]? = some (vp_cell _ _)
  rw [e, vp_cell_q, vp_cell_q, arrV_store]
  congr 2
  funext q
  by_cases hq : q = j
  · subst hq
    simp [updV, va_up, va_rf]
  · simp [updV, va_up, hq]
theorem zg_new (F : zg_F K cc own rm) {P' : zg_P} {ci N index sz : Nat} {C : String} {T : u_T} {fs : List Value} (hc : vwCl[ci]? = some (C, T, N)) (hin : ∀ w ∈ u_ws C T N, w ∈ zw_A) (ty0 : Nat → FieldType) (hty : ∀ k, k < N → parseFieldDescriptor (T k).2.2.1 = some (ty0 k)) (hcl : Cond.classLink own index C ∈ zw_A) (hinst : Cond.instantiable C N ∈ zw_A) (hini : Cond.initialized C ∈ zw_A) (hfs : ∀ j, j < N → defaultValue (ty0 j) = vp_V fs j) (hcells : cells + 1 ≤ rm.cells) (hslots : slots + N ≤ rm.slots) (hz : ∀ w z, P w z → z = sz) (hP : ∀ w, P w sz → w sz = none → P' (zg_u w sz (.inr (ci, fs))) (sz + 1)) (d : decode cc pc = .ok (.new index, 3)) (k : zg_G K P' (cells + 1) (slots + N) (pc + 3) L (.ref sz :: st)) : zg_G K P cells slots pc L st := by
  intro w H locs ls h1 h2 h3 h4
  have hts := F.2.2.2.2.1
  have hKn := F.2.2.2.2.2.1.1 ci _ hc
  have hsz := hz w _ h1
  have hbase : zk_z K ≤ H.size := Nat.le_trans (zf_b F) h3.1
  refine W.newcK F.1 F.2.1 F.2.2.2.1 (hts _ hcl) (hts _ hinst) (hts _ hini) rfl d (by rw [zf_R F]; exact hcells) (by rw [zf_R F]; exact hslots) hKn.2.1 hsz fun H1 kC hkC e1 z1 o1 => ?_
  subst hsz
  refine k (zg_u w H.size (.inr (ci, fs))) H1 locs ls (by rw [z1]; exact hP w h1 (h2.none (Nat.le_refl _))) (h2.push hbase ⟨_, hc, (u_born ty0 hts hin hKn hkC e1 hty).to hfs⟩ o1) ⟨Nat.le_trans h3.1 (by omega), fun x g1 g2 => (o1 x (Nat.lt_of_lt_of_le g1 h3.1)).trans (h3.2.1 x g1 g2), h3.2.2⟩ h4
theorem zg_newI (F : zg_F K cc own rm) {P' : zg_P} {n sz : Nat} (harr : Cond.arrayClass .int ∈ zw_A) (hn : n < 1024) (hcells : cells + 1 ≤ rm.cells) (hslots : slots + n ≤ rm.slots) (hz : ∀ w z, P w z → z = sz) (hP : ∀ w, P w sz → w sz = none → P' (zg_u w sz (.inl (zk_A K 0, n, .inl (fun _ => 0)))) (sz + 1)) (d : decode cc pc = .ok (.newarray .int, 2)) (k : zg_G K P' (cells + 1) (slots + n) (pc + 2) L (.ref sz :: st)) : zg_G K P cells slots pc L (.int (nI n) :: st) := by
  intro w H locs ls h1 h2 h3 h4
  have hts := F.2.2.2.2.1
  have hsz := hz w _ h1
  have hbase : zk_z K ≤ H.size := Nat.le_trans (zf_b F) h3.1
  refine va_newaK (atype := .int) F.1 F.2.1 (hts _ harr) rfl d rfl (nI_pos (by omega)) (nI_clamp (by omega)) (by show n * _ ≤ _; simp only [componentBytes, newarray.typeOf]; omega) (by rw [zf_R F]; exact hcells) (by rw [zf_R F]; exact hslots) hsz fun H1 cA e1 z1 o1 hAr hNm => ?_
  have hcA : cA = zk_A K 0 := Option.some.inj (hNm.symm.trans (F.2.2.2.2.2.1.2 0 _ rfl).2)
  subst hcA
  subst hsz
  refine k (zg_u w H.size (.inl (zk_A K 0, n, .inl (fun _ => 0)))) H1 locs ls (by rw [z1]; exact hP w h1 (h2.none (Nat.le_refl _))) (h2.push hbase ?_ o1) ⟨Nat.le_trans h3.1 (by omega), fun x g1 g2 => (o1 x (Nat.lt_of_lt_of_le g1 h3.1)).trans (h3.2.1 x g1 g2), h3.2.2⟩ h4
  show H1[H.size]? = some (vp_cell _ _)
  rw [e1, vp_cell_i]
  rfl
theorem zg_newZ (F : zg_F K cc own rm) {P' : zg_P} {n sz : Nat} (harr : Cond.arrayClass .boolean ∈ zw_A) (hn : n < 1024) (hcells : cells + 1 ≤ rm.cells) (hslots : slots + n ≤ rm.slots) (hz : ∀ w z, P w z → z = sz) (hP : ∀ w, P w sz → w sz = none → P' (zg_u w sz (.inl (zk_A K 1, n, .inl (fun _ => 0)))) (sz + 1)) (d : decode cc pc = .ok (.newarray .boolean, 2)) (k : zg_G K P' (cells + 1) (slots + n) (pc + 2) L (.ref sz :: st)) : zg_G K P cells slots pc L (.int (nI n) :: st) := by
  intro w H locs ls h1 h2 h3 h4
  have hts := F.2.2.2.2.1
  have hsz := hz w _ h1
  have hbase : zk_z K ≤ H.size := Nat.le_trans (zf_b F) h3.1
  refine va_newaK (atype := .boolean) F.1 F.2.1 (hts _ harr) rfl d rfl (nI_pos (by omega)) (nI_clamp (by omega)) (by show n * _ ≤ _; simp only [componentBytes, newarray.typeOf]; omega) (by rw [zf_R F]; exact hcells) (by rw [zf_R F]; exact hslots) hsz fun H1 cA e1 z1 o1 hAr hNm => ?_
  have hcA : cA = zk_A K 1 := Option.some.inj (hNm.symm.trans (F.2.2.2.2.2.1.2 1 _ rfl).2)
  subst hcA
  subst hsz
  refine k (zg_u w H.size (.inl (zk_A K 1, n, .inl (fun _ => 0)))) H1 locs ls (by rw [z1]; exact hP w h1 (h2.none (Nat.le_refl _))) (h2.push hbase ?_ o1) ⟨Nat.le_trans h3.1 (by omega), fun x g1 g2 => (o1 x (Nat.lt_of_lt_of_le g1 h3.1)).trans (h3.2.1 x g1 g2), h3.2.2⟩ h4
  show H1[H.size]? = some (vp_cell _ _)
  rw [e1, vp_cell_i]
  rfl
theorem zg_newL (F : zg_F K cc own rm) {P' : zg_P} {n sz : Nat} (harr : Cond.arrayClass .long ∈ zw_A) (hn : n < 1024) (hcells : cells + 1 ≤ rm.cells) (hslots : slots + n ≤ rm.slots) (hz : ∀ w z, P w z → z = sz) (hP : ∀ w, P w sz → w sz = none → P' (zg_u w sz (.inl (zk_A K 2, n, .inr (.inl (fun _ => 0))))) (sz + 1)) (d : decode cc pc = .ok (.newarray .long, 2)) (k : zg_G K P' (cells + 1) (slots + n) (pc + 2) L (.ref sz :: st)) : zg_G K P cells slots pc L (.int (nI n) :: st) := by
  intro w H locs ls h1 h2 h3 h4
  have hts := F.2.2.2.2.1
  have hsz := hz w _ h1
  have hbase : zk_z K ≤ H.size := Nat.le_trans (zf_b F) h3.1
  refine va_newaK (atype := .long) F.1 F.2.1 (hts _ harr) rfl d rfl (nI_pos (by omega)) (nI_clamp (by omega)) (by show n * _ ≤ _; simp only [componentBytes, newarray.typeOf]; omega) (by rw [zf_R F]; exact hcells) (by rw [zf_R F]; exact hslots) hsz fun H1 cA e1 z1 o1 hAr hNm => ?_
  have hcA : cA = zk_A K 2 := Option.some.inj (hNm.symm.trans (F.2.2.2.2.2.1.2 2 _ rfl).2)
  subst hcA
  subst hsz
  refine k (zg_u w H.size (.inl (zk_A K 2, n, .inr (.inl (fun _ => 0))))) H1 locs ls (by rw [z1]; exact hP w h1 (h2.none (Nat.le_refl _))) (h2.push hbase ?_ o1) ⟨Nat.le_trans h3.1 (by omega), fun x g1 g2 => (o1 x (Nat.lt_of_lt_of_le g1 h3.1)).trans (h3.2.1 x g1 g2), h3.2.2⟩ h4
  show H1[H.size]? = some (vp_cell _ _)
  rw [e1, vp_cell_l]
  rfl
theorem zg_newA (F : zg_F K cc own rm) {P' : zg_P} {n sz t0 index : Nat} {C : String} (ht : (zg_T (zk_A K))[t0]? = some (zk_A K t0, .object C)) (hcl : Cond.classLink own index C ∈ zw_A) (hover : va_AO C (zk_s K)) (hn : n < 1024) (hcells : cells + 1 ≤ rm.cells) (hslots : slots + n ≤ rm.slots) (hz : ∀ w z, P w z → z = sz) (hP : ∀ w, P w sz → w sz = none → P' (zg_u w sz (.inl (zk_A K t0, n, .inr (.inr (.inr (.inr (fun _ => none))))))) (sz + 1)) (d : decode cc pc = .ok (.anewarray index, 3)) (k : zg_G K P' (cells + 1) (slots + n) (pc + 3) L (.ref sz :: st)) : zg_G K P cells slots pc L (.int (nI n) :: st) := by
  intro w H locs ls h1 h2 h3 h4
  have hts := F.2.2.2.2.1
  have hsz := hz w _ h1
  have hbase : zk_z K ≤ H.size := Nat.le_trans (zf_b F) h3.1
  have hcn : (nI n).toNatClampNeg = n := nI_clamp (by omega)
  refine W.anew F.1 F.2.1 F.2.2.2.1 (hts _ hcl) (va_AO.use hover) rfl d rfl (nI_pos (by omega)) (by rw [hcn]; omega) (by rw [zf_R F]; exact hcells) (by rw [hcn, zf_R F]; exact hslots) fun cA kA comp f1 f2 f3 f4 => ?_
  rw [hcn]
  have hcA : cA = zk_A K t0 := by
    obtain ⟨kA', comp', k1, k2, k3, k4⟩ := (F.2.2.2.2.2.1.2 t0 _ ht).2
    first | exact Option.some.inj (f4.symm.trans k4) | exact Option.some.inj (f1.symm.trans k4)
  subst hcA
  subst hsz
  generalize hH1 : H.push ({ cls := zk_A K t0, slots := Array.replicate n .null, vm := .none } : Cell) = H1
  have z1 : H1.size = H.size + 1 := by rw [← hH1, Array.size_push]
  have e1 : H1[H.size]? = some (arrV (zk_A K t0) n (fun _ => .null)) := by rw [← hH1, Array.getElem?_push_size, ← arrV_new]
  have o1 : ∀ q : Nat, q < H.size → H1[q]? = H[q]? := fun q hq => by rw [← hH1, Array.getElem?_push, if_neg (Nat.ne_of_lt hq)]
  refine k (zg_u w H.size (.inl (zk_A K t0, n, .inr (.inr (.inr (.inr (fun _ => none))))))) H1 locs ls (by rw [z1]; exact hP w h1 (h2.none (Nat.le_refl _))) (h2.push hbase ?_ o1) ⟨Nat.le_trans h3.1 (by omega), fun x g1 g2 => (o1 x (Nat.lt_of_lt_of_le g1 h3.1)).trans (h3.2.1 x g1 g2), h3.2.2⟩ h4
  show H1[H.size]? = some (vp_cell _ _)
  rw [e1, vp_cell_q]
  rfl
end ZGA
