/-! what the start gives -/
theorem zs_str {own tx : String} {k : Nat} {A : Array Value} {U : State} (h : (Cond.stringRef own k tx).before A U = true) : ∃ a, vk_R own k tx a U := by
  have h1 := h
  simp only [Cond.before, Cond.holds, Cond.value] at h1
  cases hc : U.vm.findClass own with
  | none => simp [hc] at h1
  | some c =>
    cases hr : U.resolvedAt? own k with
    | none => simp [hc, hr] at h1
    | some r =>
      cases r with
      | string a =>
        refine ⟨a, vk_R.of (A := A) h ?_⟩
        simp only [State.resolvedAt?] at hr
        simp only [Term.eval]
        cases hk : U.vm.classes[c]? with
        | none => simp [hc, hk] at hr
        | some kk =>
          simp [hc, hk] at hr ⊢
          simp [hr]
      | _ => simp [hc, hr] at h1
theorem zs_arrP {ty : FieldType} {args : Array Value} {s : State} (hty : ∀ C, ty ≠ .object C) (h : (Cond.arrayClass ty).before args s = true) : ∃ cA, ArrOfT s cA ty ∧ va_RA s cA ty := by
  obtain ⟨cA, kA, comp, h1, h2, h3⟩ := Cond.arrayClass_spec h
  refine ⟨cA, fun n z => ⟨fun k h => (by cases h), kA, h2, comp, h3⟩, ?_⟩
  cases ty with
  | object C => exact absurd rfl (hty C)
  | _ => exact h1
theorem zs_arrO {C : String} {args : Array Value} {s : State} (h : (Cond.arrayOver (.object C)).before args s = true) : ∃ cA, ArrOfT s cA (.object C) ∧ va_RA s cA (.object C) := by
  obtain ⟨comp, cA, kA, h1, -, h2, h3, h4⟩ := Cond.arrayOver_spec h
  exact ⟨cA, fun n z => ⟨fun k h => (by cases h), kA, h2, comp, h3⟩, kA, comp, h2, h3, h1, h4⟩
theorem zs_K {s : State} {args : Array Value} (hw : ∀ w ∈ zw_A, w.before args s = true) (ho : ∀ C ∈ zn_arr, va_AO C s) : ∃ (D : va_G) (A : Nat → ClassId), va_K D vwCl (zg_T A) s := by
  obtain ⟨c0, j0, k0⟩ := u_known hw zi_J (hw _ zk_30)
  obtain ⟨c1, j1, k1⟩ := u_known hw zi_N (hw _ zk_71)
  obtain ⟨c2, j2, k2⟩ := u_known hw zi_P (hw _ zk_47)
  obtain ⟨c3, j3, k3⟩ := u_known hw zi_T (hw _ zk_321)
  obtain ⟨c4, j4, k4⟩ := u_known hw zi_H (hw _ zk_359)
  obtain ⟨c5, j5, k5⟩ := u_known hw zi_X (hw _ zk_16)
  obtain ⟨c6, j6, k6⟩ := u_known hw zi_M (hw _ zk_533)
  obtain ⟨a0, g0⟩ := zs_arrP (ty := .int) (fun C h => by cases h) (hw _ zk_46)
  obtain ⟨a1, g1⟩ := zs_arrP (ty := .boolean) (fun C h => by cases h) (hw _ zk_45)
  obtain ⟨a2, g2⟩ := zs_arrP (ty := .long) (fun C h => by cases h) (hw _ zk_623)
  obtain ⟨a3, g3⟩ := zs_arrO (args := args) (va_AO.use (ho "IslandRights$Port" (by decide)))
  obtain ⟨a4, g4⟩ := zs_arrO (args := args) (va_AO.use (ho "IslandRights$Lane" (by decide)))
  obtain ⟨a5, g5⟩ := zs_arrO (args := args) (va_AO.use (ho "IslandRights$Ticket" (by decide)))
  obtain ⟨a6, g6⟩ := zs_arrO (args := args) (va_AO.use (ho "IslandRights$Wish" (by decide)))
  refine ⟨(fun c => [c0, c1, c2, c3, c4, c5, c6].getD c c0, fun c => [j0, j1, j2, j3, j4, j5, j6].getD c j0), fun k => [a0, a1, a2, a3, a4, a5, a6].getD k a0, fun c q hq => ?_, fun k q hq => ?_⟩
  · have hc : c < 7 := (List.getElem?_eq_some_iff.mp hq).1
    rcases (show c = 0 ∨ c = 1 ∨ c = 2 ∨ c = 3 ∨ c = 4 ∨ c = 5 ∨ c = 6 by omega) with rfl | rfl | rfl | rfl | rfl | rfl | rfl
    · cases hq; exact k0
    · cases hq; exact k1
    · cases hq; exact k2
    · cases hq; exact k3
    · cases hq; exact k4
    · cases hq; exact k5
    · cases hq; exact k6
  · have hk : k < 7 := (List.getElem?_eq_some_iff.mp hq).1
    rcases (show k = 0 ∨ k = 1 ∨ k = 2 ∨ k = 3 ∨ k = 4 ∨ k = 5 ∨ k = 6 by omega) with rfl | rfl | rfl | rfl | rfl | rfl | rfl
    · cases hq; exact g0
    · cases hq; exact g1
    · cases hq; exact g2
    · cases hq; exact g3
    · cases hq; exact g4
    · cases hq; exact g5
    · cases hq; exact g6
theorem zs_tab {s : State} {b : Nat} (hts : ∀ w ∈ lw_tbl, w.before #[Value.ref b] s = true) {i : Nat} {w : Cond} (h : tables_1[i]? = some w) : w.before #[Value.ref b] s = true := hts _ (List.mem_append_right _ (List.mem_of_getElem? h))
theorem zs_n1 {s : State} {b : Nat} (hts : ∀ w ∈ lw_tbl, w.before #[Value.ref b] s = true) : ∀ q ∈ zn_nest, va_Nw (.methodLinkNest q.1 q.2.1 q.2.2.1 q.2.2.2) s := List.forall_mem_cons.mpr ⟨va_Nw.of rfl (zs_tab hts (i := 31) (by decide +kernel)), List.forall_mem_cons.mpr ⟨va_Nw.of rfl (zs_tab hts (i := 48) (by decide +kernel)), List.forall_mem_cons.mpr ⟨va_Nw.of rfl (zs_tab hts (i := 72) (by decide +kernel)), List.forall_mem_cons.mpr ⟨va_Nw.of rfl (zs_tab hts (i := 283) (by decide +kernel)), fun _ h => absurd h List.not_mem_nil⟩⟩⟩⟩
theorem zs_n2 {s : State} {b : Nat} (hts : ∀ w ∈ lw_tbl, w.before #[Value.ref b] s = true) : ∀ C ∈ zn_arr, va_AO C s := List.forall_mem_cons.mpr ⟨va_AO.of (zs_tab hts (i := 24) (by decide +kernel)), List.forall_mem_cons.mpr ⟨va_AO.of (zs_tab hts (i := 26) (by decide +kernel)), List.forall_mem_cons.mpr ⟨va_AO.of (zs_tab hts (i := 28) (by decide +kernel)), List.forall_mem_cons.mpr ⟨va_AO.of (zs_tab hts (i := 53) (by decide +kernel)), fun _ h => absurd h List.not_mem_nil⟩⟩⟩⟩
theorem zs_n3 {s : State} {b : Nat} (hts : ∀ w ∈ lw_tbl, w.before #[Value.ref b] s = true) : ∀ q ∈ zn_str, ∃ sa, vk_R q.1 q.2.1 q.2.2 sa s := List.forall_mem_cons.mpr ⟨zs_str (zs_tab hts (i := 187) (by decide +kernel)), List.forall_mem_cons.mpr ⟨zs_str (zs_tab hts (i := 226) (by decide +kernel)), List.forall_mem_cons.mpr ⟨zs_str (zs_tab hts (i := 242) (by decide +kernel)), List.forall_mem_cons.mpr ⟨zs_str (zs_tab hts (i := 262) (by decide +kernel)), List.forall_mem_cons.mpr ⟨zs_str (zs_tab hts (i := 264) (by decide +kernel)), List.forall_mem_cons.mpr ⟨zs_str (zs_tab hts (i := 275) (by decide +kernel)), List.forall_mem_cons.mpr ⟨zs_str (zs_tab hts (i := 276) (by decide +kernel)), List.forall_mem_cons.mpr ⟨zs_str (zs_tab hts (i := 277) (by decide +kernel)), List.forall_mem_cons.mpr ⟨zs_str (zs_tab hts (i := 278) (by decide +kernel)), List.forall_mem_cons.mpr ⟨zs_str (zs_tab hts (i := 294) (by decide +kernel)), List.forall_mem_cons.mpr ⟨zs_str (zs_tab hts (i := 299) (by decide +kernel)), List.forall_mem_cons.mpr ⟨zs_str (zs_tab hts (i := 300) (by decide +kernel)), List.forall_mem_cons.mpr ⟨zs_str (zs_tab hts (i := 354) (by decide +kernel)), List.forall_mem_cons.mpr ⟨zs_str (zs_tab hts (i := 388) (by decide +kernel)), List.forall_mem_cons.mpr ⟨zs_str (zs_tab hts (i := 389) (by decide +kernel)), List.forall_mem_cons.mpr ⟨zs_str (zs_tab hts (i := 397) (by decide +kernel)), List.forall_mem_cons.mpr ⟨zs_str (zs_tab hts (i := 415) (by decide +kernel)), List.forall_mem_cons.mpr ⟨zs_str (zs_tab hts (i := 424) (by decide +kernel)), fun _ h => absurd h List.not_mem_nil⟩⟩⟩⟩⟩⟩⟩⟩⟩⟩⟩⟩⟩⟩⟩⟩⟩⟩
theorem zs_n4 {s : State} {b : Nat} (hts : ∀ w ∈ lw_tbl, w.before #[Value.ref b] s = true) : ∀ q ∈ zn_cast, va_Nw (.castable q.1 q.2) s := List.forall_mem_cons.mpr ⟨va_Nw.of rfl (zs_tab hts (i := 148) (by decide +kernel)), List.forall_mem_cons.mpr ⟨va_Nw.of rfl (zs_tab hts (i := 219) (by decide +kernel)), List.forall_mem_cons.mpr ⟨va_Nw.of rfl (zs_tab hts (i := 235) (by decide +kernel)), fun _ h => absurd h List.not_mem_nil⟩⟩⟩
theorem zs_n6 {s : State} {b : Nat} (hts : ∀ w ∈ lw_tbl, w.before #[Value.ref b] s = true) : ∀ q ∈ zn_decl, va_Nw (.declares q) s := List.forall_mem_cons.mpr ⟨va_Nw.of rfl (zs_tab hts (i := 149) (by decide +kernel)), List.forall_mem_cons.mpr ⟨va_Nw.of rfl (zs_tab hts (i := 150) (by decide +kernel)), List.forall_mem_cons.mpr ⟨va_Nw.of rfl (zs_tab hts (i := 151) (by decide +kernel)), List.forall_mem_cons.mpr ⟨va_Nw.of rfl (zs_tab hts (i := 152) (by decide +kernel)), List.forall_mem_cons.mpr ⟨va_Nw.of rfl (zs_tab hts (i := 153) (by decide +kernel)), List.forall_mem_cons.mpr ⟨va_Nw.of rfl (zs_tab hts (i := 154) (by decide +kernel)), fun _ h => absurd h List.not_mem_nil⟩⟩⟩⟩⟩⟩
theorem zs_n5 {s : State} {b : Nat} (hg : (Jvm.Cond.and given_1 narrow_1).before #[Value.ref b] s = true) : ∀ q ∈ zn_nc, va_Nc q.1 q.2 s := List.forall_mem_cons.mpr ⟨va_Nc.of (flat_of_before _ hg _ (by decide +kernel)), List.forall_mem_cons.mpr ⟨va_Nc.of (flat_of_before _ hg _ (by decide +kernel)), List.forall_mem_cons.mpr ⟨va_Nc.of (flat_of_before _ hg _ (by decide +kernel)), List.forall_mem_cons.mpr ⟨va_Nc.of (flat_of_before _ hg _ (by decide +kernel)), List.forall_mem_cons.mpr ⟨va_Nc.of (flat_of_before _ hg _ (by decide +kernel)), List.forall_mem_cons.mpr ⟨va_Nc.of (flat_of_before _ hg _ (by decide +kernel)), fun _ h => absurd h List.not_mem_nil⟩⟩⟩⟩⟩⟩
theorem zs_N {s : State} {b : Nat} (hts : ∀ w ∈ lw_tbl, w.before #[Value.ref b] s = true) (hg : (Jvm.Cond.and given_1 narrow_1).before #[Value.ref b] s = true) : zg_N s.heap.size s :=
  ⟨zs_n1 hts, zs_n2 hts, zs_n3 hts, zs_n4 hts, zs_n5 hg, zs_n6 hts, vx_Zqof (zs_tab hts (i := 173) (by decide +kernel)) (zs_tab hts (i := 6) (by decide +kernel)) (flat_of_before _ hg _ (by decide +kernel)) (fun a h => Nat.not_le.mpr h), vx_Zqof (zs_tab hts (i := 175) (by decide +kernel)) (zs_tab hts (i := 6) (by decide +kernel)) (flat_of_before _ hg _ (by decide +kernel)) (fun a h => Nat.not_le.mpr h)⟩
