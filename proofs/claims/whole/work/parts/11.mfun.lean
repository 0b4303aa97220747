def zc_wrong (a b : Int32) : Nat := if zz4 a ∧ zz4 b then (if a = b then 2 else 0) else 1
def zm_loseN (σ : zm_S) (p : Nat) : Int32 := zb (0 < σ.1 17 p) + zb (¬ σ.1 19 p < 0)
def zm_lose1 (σ : zm_S) (p : Nat) : zm_S := zm_set (zm_set σ 17 p (nI 0)) 19 p (-1)
def zm_encl (σ : zm_S) (a b leg bx : Nat) (n : Int32) : zm_S :=
  let p := 4 * a + b
  let k := 8 * p + bx
  let s1 := zm_set σ 15 p (σ.1 15 p + nI 1)
  let s5 := zm_set (zm_set (zm_set (zm_set s1 20 k (s1.1 15 p)) 21 k (nI leg)) 22 k n) 16 p (nI (bx + 1))
  zm_set s5 2 (16 * a + leg) (s5.1 2 (16 * a + leg) - n)
theorem zm_set_o {σ : zm_S} {k i j : Nat} {x : Int32} (h : j ≠ k) : (zm_set σ k i x).1 j = σ.1 j := by simp [zm_set, h]
theorem zm_set_s {σ : zm_S} {k i : Nat} {x : Int32} : (zm_set σ k i x).1 k i = x := by simp [zm_set, upd]
theorem zm_set_n {σ : zm_S} {k i j : Nat} {x : Int32} (h : j ≠ i) : (zm_set σ k i x).1 k j = σ.1 k j := by simp [zm_set, upd, h]
theorem zm_give_o {σ : zm_S} {port at' parts j : Nat} {n : Int32} (h : j ≠ 2) : ∀ i, (zm_give σ port at' parts n i).1 j = σ.1 j
  | 0 => rfl
  | i + 1 => by rw [zm_give, zm_set_o h]; exact zm_give_o h i
theorem zm_cp1_o {σ : zm_S} {a b j : Nat} (h : j ≠ 3 ∧ j ≠ 4 ∧ j ≠ 5) : (zm_cp1 σ a b).1 j = σ.1 j := by rw [zm_cp1, zm_set_o h.2.2, zm_set_o h.2.1, zm_set_o h.1]
theorem zm_copy_o {σ : zm_S} {tg at' j : Nat} (h : j ≠ 3 ∧ j ≠ 4 ∧ j ≠ 5) : ∀ i, (zm_copy σ tg at' i).1 j = σ.1 j
  | 0 => rfl
  | i + 1 => by rw [zm_copy, zm_cp1_o h]; exact zm_copy_o h i
theorem zm_give_L {σ : zm_S} {port at' parts : Nat} {n : Int32} : ∀ i, (zm_give σ port at' parts n i).2 = σ.2
  | 0 => rfl
  | i + 1 => zm_give_L i
theorem zm_copy_L {σ : zm_S} {tg at' : Nat} : ∀ i, (zm_copy σ tg at' i).2 = σ.2
  | 0 => rfl
  | i + 1 => zm_copy_L i
def zm_sell (σ : zm_S) (T port at' parts : Nat) (n : Int32) : zm_S :=
  let q := n.toInt64 * zm_sum σ at' parts 16
  let s2 := zm_copy (zm_give σ port at' parts (-n) 16) (4 + 4 * T) at' parts
  let s6 := zm_setL (zm_set (zm_set (zm_set s2 6 T (nI port)) 7 T n) 8 T (nI parts)) 9 T q
  let s7 := zm_set s6 10 T (nI 1)
  zm_set (zm_setL s7 11 port (s7.2 11 port + q)) 25 2 (nI (T + 1))
theorem zm_sell_o {σ : zm_S} {T port at' parts j : Nat} {n : Int32} (h : j = 12 ∨ j = 13 ∨ j = 14) : (zm_sell σ T port at' parts n).1 j = σ.1 j := by
  unfold zm_sell
  rcases h with rfl | rfl | rfl <;> (show (zm_copy _ _ _ _).1 _ = _; rw [zm_copy_o (by decide), zm_give_o (by decide)])
def zm_keep (s : zm_S) (tg w p : Nat) : zm_S :=
  let s1 := zm_copy s (324 + 4 * tg) (324 + 4 * w) p
  let s2 := zm_set s1 13 tg (s1.1 13 w)
  zm_set s2 14 tg (s2.1 14 w)
/-- k turns of the loop of serve: the state, and how many wishes were kept -/
def zm_sv (σ : zm_S) (port T : Nat) : Nat → zm_S × Nat
  | 0 => (σ, 0)
  | k + 1 => if T + (k - (zm_sv σ port T k).2) < 80 ∧ ¬ zm_fits (zm_sv σ port T k).1 port (324 + 4 * (6 * port + k)) (zn (σ.1 14 (6 * port + k))) ((zm_sv σ port T k).1.1 13 (6 * port + k)) 16 = 0
      then (zm_sell (zm_sv σ port T k).1 (T + (k - (zm_sv σ port T k).2)) port (324 + 4 * (6 * port + k)) (zn (σ.1 14 (6 * port + k))) ((zm_sv σ port T k).1.1 13 (6 * port + k)), (zm_sv σ port T k).2)
      else (zm_keep (zm_sv σ port T k).1 (6 * port + (zm_sv σ port T k).2) (6 * port + k) (zn (σ.1 14 (6 * port + k))), (zm_sv σ port T k).2 + 1)
def zm_serve (σ : zm_S) (port T had : Nat) : zm_S := zm_set (zm_sv σ port T had).1 12 port (nI (zm_sv σ port T had).2)
theorem zm_sv_le (σ : zm_S) (port T : Nat) : ∀ k, (zm_sv σ port T k).2 ≤ k
  | 0 => Nat.le_refl _
  | k + 1 => by
    have h := zm_sv_le σ port T k
    rw [zm_sv]
    split
    · exact Nat.le_succ_of_le h
    · exact Nat.succ_le_succ h
theorem zm_sv_14 (σ : zm_S) (port T : Nat) : ∀ k j, k ≤ j → (zm_sv σ port T k).1.1 14 (6 * port + j) = σ.1 14 (6 * port + j)
  | 0, j, _ => rfl
  | k + 1, j, h => by
    have ih := zm_sv_14 σ port T k j (by omega)
    have hle := zm_sv_le σ port T k
    rw [zm_sv]
    split
    · show (zm_sell _ _ _ _ _ _).1 14 _ = _
      rw [zm_sell_o (Or.inr (Or.inr rfl))]; exact ih
    · show (zm_keep _ _ _ _).1 14 _ = _
      unfold zm_keep
      rw [zm_set_n (by omega), zm_set_o (by decide), zm_copy_o (by decide)]; exact ih
theorem zm_sv_T (σ : zm_S) (port T : Nat) (hT : σ.1 25 2 = nI T) : ∀ k, (zm_sv σ port T k).1.1 25 2 = nI (T + (k - (zm_sv σ port T k).2))
  | 0 => hT
  | k + 1 => by
    have ih := zm_sv_T σ port T hT k
    have hle := zm_sv_le σ port T k
    rw [zm_sv]
    split
    · show (zm_sell _ _ _ _ _ _).1 25 2 = _
      unfold zm_sell
      rw [zm_set_s]
      show nI _ = nI _
      congr 1; dsimp only; omega
    · show (zm_keep _ _ _ _).1 25 2 = nI (T + (k + 1 - (_ + 1)))
      unfold zm_keep
      rw [zm_set_o (by decide), zm_set_o (by decide), zm_copy_o (by decide), ih]
      congr 1; omega
theorem zm_sv_80 (σ : zm_S) (port T : Nat) (hT : T ≤ 80) : ∀ k, T + (k - (zm_sv σ port T k).2) ≤ 80
  | 0 => by show T + (0 - 0) ≤ 80; omega
  | k + 1 => by
    have ih := zm_sv_80 σ port T hT k
    have hle := zm_sv_le σ port T k
    rw [zm_sv]
    split
    · rename_i h; dsimp only; omega
    · dsimp only; omega
