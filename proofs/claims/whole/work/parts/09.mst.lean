/-! the reference's state: ints by array and place (25: fault, drafted, tickets), longs by array and place -/
abbrev zm_S : Type := (Nat → Nat → Int32) × (Nat → Nat → Int64)
def zm_set (σ : zm_S) (k i : Nat) (x : Int32) : zm_S := (fun k' => if k' = k then upd (σ.1 k) i x else σ.1 k', σ.2)
def zm_setL (σ : zm_S) (k i : Nat) (x : Int64) : zm_S := (σ.1, fun k' => if k' = k then vp_updL (σ.2 k) i x else σ.2 k')
def zm_len (k : Nat) : Nat := [4, 16, 64, 420, 420, 420, 80, 80, 80, 80, 80, 4, 4, 24, 24, 16, 16, 16, 16, 16, 128, 128, 128, 16, 16].getD k 0
def zm_ty (k : Nat) : Nat := [1, 0, 0, 0, 0, 0, 0, 0, 0, 2, 1, 2, 0, 0, 0, 0, 0, 0, 0, 0, 0, 0, 0, 0, 0].getD k 3
def zm_cell (A : Nat → ClassId) (σ : zm_S) (k : Nat) : va_E := if zm_ty k = 2 then .inl (A 2, zm_len k, .inr (.inl (σ.2 k))) else .inl (A (zm_ty k), zm_len k, .inl (σ.1 k))
def zm_fs (mo : Nat) (σ : zm_S) : List Value := [.int (σ.1 25 0), .ref (mo + 1 + 0), .ref (mo + 1 + 1), .ref (mo + 1 + 2), .ref (mo + 1 + 3), .ref (mo + 1 + 4), .ref (mo + 1 + 5), .int (σ.1 25 1), .int (σ.1 25 2), .ref (mo + 1 + 6), .ref (mo + 1 + 7), .ref (mo + 1 + 8), .ref (mo + 1 + 9), .ref (mo + 1 + 10), .ref (mo + 1 + 11), .ref (mo + 1 + 12), .ref (mo + 1 + 13), .ref (mo + 1 + 14), .ref (mo + 1 + 15), .ref (mo + 1 + 16), .ref (mo + 1 + 17), .ref (mo + 1 + 18), .ref (mo + 1 + 19), .ref (mo + 1 + 20), .ref (mo + 1 + 21), .ref (mo + 1 + 22), .ref (mo + 1 + 23), .ref (mo + 1 + 24)]
abbrev zm_ci : Nat := 6
def zm_h (A : Nat → ClassId) (mo : Nat) (σ : zm_S) (w : zg_w) : Prop := w mo = some (.inr (zm_ci, zm_fs mo σ)) ∧ ∀ k, k < 25 → w (mo + 1 + k) = some (zm_cell A σ k)
def zm_P (A : Nat → ClassId) (mo : Nat) (w0 : zg_w) (sz : Nat) (σ : zm_S) : zg_P := fun w z => z = sz ∧ zm_h A mo σ w ∧ ∀ q, (q < mo ∨ mo + 26 ≤ q) → w q = w0 q
theorem zm_cell_n {A : Nat → ClassId} {σ : zm_S} {k i : Nat} {x : Int32} {j : Nat} (h : j ≠ k) : zm_cell A (zm_set σ k i x) j = zm_cell A σ j := by simp [zm_cell, zm_set, h]
theorem zm_cell_nL {A : Nat → ClassId} {σ : zm_S} {k i : Nat} {x : Int64} {j : Nat} (h : j ≠ k) : zm_cell A (zm_setL σ k i x) j = zm_cell A σ j := by simp [zm_cell, zm_setL, h]
theorem zm_cell_i {A : Nat → ClassId} {σ : zm_S} {k t : Nat} (h : zm_ty k = t) (ht : t ≠ 2) : zm_cell A σ k = .inl (A t, zm_len k, .inl (σ.1 k)) := by
  subst h
  simp [zm_cell, ht]
theorem zm_cell_l {A : Nat → ClassId} {σ : zm_S} {k : Nat} (h : zm_ty k = 2) : zm_cell A σ k = .inl (A 2, zm_len k, .inr (.inl (σ.2 k))) := by simp [zm_cell, h]
theorem zm_len_lt : ∀ k, k < 25 → zm_len k < 2 ^ 31 := by decide
theorem zm_fs_n {mo : Nat} {σ : zm_S} {k i : Nat} {x : Int32} (h : k ≠ 25) : zm_fs mo (zm_set σ k i x) = zm_fs mo σ := by simp [zm_fs, zm_set, Ne.symm h]
theorem zm_fs_nL {mo : Nat} {σ : zm_S} {k i : Nat} {x : Int64} : zm_fs mo (zm_setL σ k i x) = zm_fs mo σ := rfl
theorem zm_P.st {A : Nat → ClassId} {mo sz : Nat} {w0 : zg_w} {σ : zm_S} {k i : Nat} {x : Int32} (hk : k < 25) (ht : zm_ty k = 0 ∨ zm_ty k = 1) (w : zg_w) (z : Nat) (h : zm_P A mo w0 sz σ w z) : zm_P A mo w0 sz (zm_set σ k i x) (zg_u w (mo + 1 + k) (.inl (A (zm_ty k), zm_len k, .inl (upd (σ.1 k) i x)))) z := by
  obtain ⟨hz, ⟨h1, h2⟩, h3⟩ := h
  refine ⟨hz, ⟨?_, fun j hj => ?_⟩, fun q hq => ?_⟩
  · rw [zg_un (by omega), zm_fs_n (by omega)]; exact h1
  · by_cases hjk : j = k
    · subst hjk
      rw [zg_us, zm_cell_i rfl (by omega)]
      simp [zm_set]
    · rw [zg_un (by omega), zm_cell_n hjk]; exact h2 j hj
  · rw [zg_un (by omega)]; exact h3 q hq
theorem zm_P.stL {A : Nat → ClassId} {mo sz : Nat} {w0 : zg_w} {σ : zm_S} {k i : Nat} {x : Int64} (hk : k < 25) (ht : zm_ty k = 2) (w : zg_w) (z : Nat) (h : zm_P A mo w0 sz σ w z) : zm_P A mo w0 sz (zm_setL σ k i x) (zg_u w (mo + 1 + k) (.inl (A 2, zm_len k, .inr (.inl (vp_updL (σ.2 k) i x))))) z := by
  obtain ⟨hz, ⟨h1, h2⟩, h3⟩ := h
  refine ⟨hz, ⟨?_, fun j hj => ?_⟩, fun q hq => ?_⟩
  · rw [zg_un (by omega), zm_fs_nL]; exact h1
  · by_cases hjk : j = k
    · subst hjk
      rw [zg_us, zm_cell_l ht]
      simp [zm_setL]
    · rw [zg_un (by omega), zm_cell_nL hjk]; exact h2 j hj
  · rw [zg_un (by omega)]; exact h3 q hq
/-- the places of the object's own ints among its fields -/
def zm_fp (i : Nat) : Nat := [0, 7, 8].getD i 0
theorem zm_P.pt {A : Nat → ClassId} {mo sz : Nat} {w0 : zg_w} {σ : zm_S} {i : Nat} {x : Int32} (hi : i < 3) (w : zg_w) (z : Nat) (h : zm_P A mo w0 sz σ w z) : zm_P A mo w0 sz (zm_set σ 25 i x) (zg_u w mo (.inr (zm_ci, (zm_fs mo σ).set (zm_fp i) (.int x)))) z := by
  obtain ⟨hz, ⟨h1, h2⟩, h3⟩ := h
  refine ⟨hz, ⟨?_, fun j hj => ?_⟩, fun q hq => ?_⟩
  · rw [zg_us]
    rcases (show i = 0 ∨ i = 1 ∨ i = 2 by omega) with rfl | rfl | rfl <;> simp [zm_fs, zm_set, zm_fp, upd]
  · rw [zg_un (by omega), zm_cell_n (by omega)]; exact h2 j hj
  · rw [zg_un (by omega)]; exact h3 q hq
section ZMR
variable {K : zg_K} {cells slots pc : Nat} {L : List (Nat × Value)} {st : List Value} {cc : ByteArray} {own : String} {rm : Room} {mo sz : Nat} {w0 : zg_w} {σ : zm_S}
theorem zm_iald (F : zg_F K cc own rm) (k : Nat) {j : Nat} {v : Int32} (hk : k < 25) (ht : zm_ty k = 0) (hj : j < zm_len k) (hv : σ.1 k j = v) (d : decode cc pc = .ok (.iaload, 1)) (kk : zg_G K (zm_P (zk_A K) mo w0 sz σ) cells slots (pc + 1) L (.int v :: st)) : zg_G K (zm_P (zk_A K) mo w0 sz σ) cells slots pc L (.int (nI j) :: .ref (mo + 1 + k) :: st) :=
  zg_iald F (fun w z h => by rw [h.2.1.2 k hk, zm_cell_i ht (by decide)]) hj (zm_len_lt k hk) hv d kk
theorem zm_zald (F : zg_F K cc own rm) (k : Nat) {j : Nat} {v : Int32} (hk : k < 25) (ht : zm_ty k = 1) (hj : j < zm_len k) (hv : σ.1 k j = v) (d : decode cc pc = .ok (.baload, 1)) (kk : zg_G K (zm_P (zk_A K) mo w0 sz σ) cells slots (pc + 1) L (.int v :: st)) : zg_G K (zm_P (zk_A K) mo w0 sz σ) cells slots pc L (.int (nI j) :: .ref (mo + 1 + k) :: st) :=
  zg_zald F (fun w z h => by rw [h.2.1.2 k hk, zm_cell_i ht (by decide)]) hj (zm_len_lt k hk) hv d kk
theorem zm_lald (F : zg_F K cc own rm) (k : Nat) {j : Nat} {v : Int64} (hk : k < 25) (ht : zm_ty k = 2) (hj : j < zm_len k) (hv : σ.2 k j = v) (d : decode cc pc = .ok (.laload, 1)) (kk : zg_G K (zm_P (zk_A K) mo w0 sz σ) cells slots (pc + 1) L (.long v :: st)) : zg_G K (zm_P (zk_A K) mo w0 sz σ) cells slots pc L (.int (nI j) :: .ref (mo + 1 + k) :: st) :=
  zg_lald F (fun w z h => by rw [h.2.1.2 k hk, zm_cell_l ht]) hj (zm_len_lt k hk) hv d kk
theorem zm_iast (F : zg_F K cc own rm) (k : Nat) {j : Nat} {x : Int32} (hk : k < 25) (ht : zm_ty k = 0) (hj : j < zm_len k) (d : decode cc pc = .ok (.iastore, 1)) (kk : zg_G K (zm_P (zk_A K) mo w0 sz (zm_set σ k j x)) cells slots (pc + 1) L st) : zg_G K (zm_P (zk_A K) mo w0 sz σ) cells slots pc L (.int x :: .int (nI j) :: .ref (mo + 1 + k) :: st) :=
  zg_iast F (fun w z h => by rw [h.2.1.2 k hk, zm_cell_i ht (by decide)]) hj (zm_len_lt k hk) (fun w z h => by have g := zm_P.st (i := j) (x := x) hk (Or.inl ht) w z h; rw [ht] at g; exact g) d kk
theorem zm_zast (F : zg_F K cc own rm) (k : Nat) {j : Nat} {x : Int32} (hk : k < 25) (ht : zm_ty k = 1) (hj : j < zm_len k) (hx : vp_nar .boolean x = x) (d : decode cc pc = .ok (.bastore, 1)) (kk : zg_G K (zm_P (zk_A K) mo w0 sz (zm_set σ k j x)) cells slots (pc + 1) L st) : zg_G K (zm_P (zk_A K) mo w0 sz σ) cells slots pc L (.int x :: .int (nI j) :: .ref (mo + 1 + k) :: st) :=
  zg_zast F (fun w z h => by rw [h.2.1.2 k hk, zm_cell_i ht (by decide)]) hj (zm_len_lt k hk) (fun w z h => by have g := zm_P.st (i := j) (x := x) hk (Or.inr ht) w z h; rw [ht] at g; rw [hx]; exact g) d kk
theorem zm_last (F : zg_F K cc own rm) (k : Nat) {j : Nat} {x : Int64} (hk : k < 25) (ht : zm_ty k = 2) (hj : j < zm_len k) (d : decode cc pc = .ok (.lastore, 1)) (kk : zg_G K (zm_P (zk_A K) mo w0 sz (zm_setL σ k j x)) cells slots (pc + 1) L st) : zg_G K (zm_P (zk_A K) mo w0 sz σ) cells slots pc L (.long x :: .int (nI j) :: .ref (mo + 1 + k) :: st) :=
  zg_last F (fun w z h => by rw [h.2.1.2 k hk, zm_cell_l ht]) hj (zm_len_lt k hk) (fun w z h => zm_P.stL hk ht w z h) d kk
end ZMR
/-! what the reference's methods do, as functions of its state -/
abbrev zz4 (k : Int32) : Prop := ¬ k < 0 ∧ ¬ nI 4 ≤ k
def zb (p : Prop) [Decidable p] : Int32 := if p then nI 1 else nI 0
def zn (x : Int32) : Nat := x.toNatClampNeg
theorem zn_nI {n : Nat} (h : n < 2 ^ 31) : zn (nI n) = n := nI_clamp h
def zm_lies (σ : zm_S) (at' leg : Nat) : Nat → Int32
  | 0 => nI 0
  | i + 1 => if σ.1 3 (at' + i) = nI (leg / 4) ∧ σ.1 4 (at' + i) ≤ nI (leg % 4) ∧ nI (leg % 4) < σ.1 5 (at' + i) then zm_lies σ at' leg i + nI 1 else zm_lies σ at' leg i
def zm_fits (σ : zm_S) (port at' parts : Nat) (n : Int32) : Nat → Int32
  | 0 => nI 1
  | i + 1 => if zm_fits σ port at' parts n i = 0 then nI 0 else if n * zm_lies σ at' i parts ≤ σ.1 2 (16 * port + i) then nI 1 else nI 0
def zm_give (σ : zm_S) (port at' parts : Nat) (n : Int32) : Nat → zm_S
  | 0 => σ
  | i + 1 => zm_set (zm_give σ port at' parts n i) 2 (16 * port + i) ((zm_give σ port at' parts n i).1 2 (16 * port + i) + n * zm_lies (zm_give σ port at' parts n i) at' i parts)
def zm_cp1 (σ : zm_S) (a b : Nat) : zm_S := zm_set (zm_set (zm_set σ 3 a (σ.1 3 b)) 4 a (σ.1 4 b)) 5 a (σ.1 5 b)
def zm_copy (σ : zm_S) (tg at' : Nat) : Nat → zm_S
  | 0 => σ
  | i + 1 => zm_cp1 (zm_copy σ tg at' i) (tg + i) (at' + i)
def zm_sum (σ : zm_S) (at' parts : Nat) : Nat → Int64
  | 0 => 0
  | i + 1 => zm_sum σ at' parts i + (zm_lies σ at' i parts).toInt64 * (σ.1 1 i).toInt64
