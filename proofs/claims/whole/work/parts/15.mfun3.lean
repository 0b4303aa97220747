def zm_f (σ : zm_S) (c : Nat) : zm_S := zm_set σ 25 0 (nI c)
theorem zz4_of {j : Nat} (h : j < 4) : zz4 (nI j) := ⟨nI_pos (by omega), nI_ge h (by decide)⟩
theorem zz_nI {k : Int32} {n : Nat} (hn : n < 2 ^ 31) (h : ¬ k < 0 ∧ ¬ nI n ≤ k) : ∃ j, j < n ∧ k = nI j := by
  rcases pk_ix k hn with h1 | h1 | h1
  · exact absurd h1 h.1
  · exact absurd h1 h.2
  · exact h1
theorem zb_1 {c : Nat} (h : 0 < c) (h2 : c < 2 ^ 31) : zb (0 < nI c) = nI 1 := if_pos (nI_lt (a := 0) h h2)
theorem zb_0 : zb (0 < nI 0) = nI 0 := if_neg (by decide)
def zc_open (σ : zm_S) (s : Nat) (seats : Int32) : Nat := if seats < nI 1 ∨ nI 100 < seats then 2 else if σ.1 0 s = 0 then 0 else 3
def zm_opn (σ : zm_S) (s : Nat) (seats : Int32) : Nat → zm_S
  | 0 => σ
  | i + 1 => zm_set (zm_opn σ s seats i) 2 (4 * s + i) seats
def zm_open (σ : zm_S) (s : Nat) (seats : Int32) : zm_S := if zc_open σ s seats = 0 then zm_opn (zm_set (zm_f σ 0) 0 s (nI 1)) s seats 4 else zm_f σ (zc_open σ s seats)
def zc_fare (f : Int32) : Nat := if f < 0 ∨ (1000000000 : Int32) < f then 2 else 0
def zm_fare (σ : zm_S) (s leg : Nat) (f : Int32) : zm_S := if zc_fare f = 0 then zm_set (zm_f σ 0) 1 (4 * s + leg) f else zm_f σ (zc_fare f)
def zc_part (σ : zm_S) (s d a b : Nat) : Nat := if b ≤ a then 2 else if σ.1 0 s = 0 ∨ d = 4 then 3 else 0
def zm_part (σ : zm_S) (s d a b : Nat) : zm_S := if zc_part σ s d a b = 0 then zm_set (zm_set (zm_set (zm_set (zm_f σ 0) 3 d (nI s)) 4 d (nI a)) 5 d (nI b)) 25 1 (nI (d + 1)) else zm_f σ (zc_part σ s d a b)
def zr_part (σ : zm_S) (s d a b : Nat) : Nat := if zc_part σ s d a b = 0 then d + 1 else 0
def zc_buy (d T : Nat) (n : Int32) : Nat := if n < nI 1 ∨ nI 100 < n then 2 else if d = 0 ∨ T = 80 then 3 else 0
def zo_buy (σ : zm_S) (d T port : Nat) (n : Int32) : zm_S × Int32 := if zc_buy d T n = 0 then
    (if zm_fits (zm_set (zm_f σ 0) 25 1 (nI 0)) port 0 d n 16 = 0 then (zm_set (zm_f σ 0) 25 1 (nI 0), -1) else (zm_sell (zm_set (zm_f σ 0) 25 1 (nI 0)) T port 0 d n, nI T))
  else (zm_f σ (zc_buy d T n), nI 0)
def zc_wish (d had : Nat) (n : Int32) : Nat := if n < nI 1 ∨ nI 100 < n then 2 else if d = 0 ∨ had = 6 then 3 else 0
def zm_wsh (σ : zm_S) (d port had : Nat) (n : Int32) : zm_S :=
  zm_set (zm_set (zm_set (zm_set (zm_copy (zm_f σ 0) (324 + 4 * (6 * port + had)) 0 d) 13 (6 * port + had) n) 14 (6 * port + had) (nI d)) 12 port (nI (had + 1))) 25 1 (nI 0)
def zo_wish (σ : zm_S) (d T port had : Nat) (n : Int32) : zm_S × Int32 := if zc_wish d had n = 0 then
    (zm_serve (zm_wsh σ d port had n) port T (had + 1), nI (had + 1 - (zm_sv (zm_wsh σ d port had n) port T (had + 1)).2))
  else (zm_f σ (zc_wish d had n), nI 0)
def zm_cnc (σ : zm_S) (t port parts : Nat) : zm_S :=
  let s := zm_give (zm_set (zm_f σ 0) 10 t (nI 0)) port (4 + 4 * t) parts (σ.1 7 t) 16
  zm_setL s 11 port (s.2 11 port - s.2 9 t)
def zo_cancel (σ : zm_S) (T t port parts had : Nat) : zm_S × Int32 := if σ.1 10 t = 0 then (zm_f σ 2, nI 0) else
    (zm_serve (zm_cnc σ t port parts) port T had, nI (had - (zm_sv (zm_cnc σ t port parts) port T had).2))
def zc_ticket (what : Int32) : Nat := if what < 0 ∨ nI 3 < what then 2 else 0
def zr_ticket (σ : zm_S) (t : Nat) (what : Int32) : Int32 := if zc_ticket what = 0 then (if what = 0 then σ.1 6 t else if what = nI 1 then σ.1 7 t else if what = nI 2 then σ.1 8 t else if σ.1 10 t = 0 then nI 0 else nI 1) else nI 0
def zc_hand (a b bx : Nat) (n : Int32) : Nat := if a = b ∨ n < nI 1 ∨ nI 100 < n then 2 else if bx = 8 then 3 else 0
def zo_hand (σ : zm_S) (a b s leg bx : Nat) (n : Int32) : zm_S × Int32 := if zc_hand a b bx n = 0 then
    (if σ.1 2 (16 * a + 4 * s + leg) < n then (zm_f σ 0, -1) else (zm_encl (zm_f σ 0) a b (4 * s + leg) bx n, (zm_encl (zm_f σ 0) a b (4 * s + leg) bx n).1 15 (4 * a + b)))
  else (zm_f σ (zc_hand a b bx n), nI 0)
def zm_half (σ : zm_S) (a b leg : Nat) : Int32 := (σ.1 2 (16 * a + leg) - σ.1 2 (16 * b + leg)) / nI 2
/-- turns of the loop of share: the state, how many were made -/
def zm_shr (σ : zm_S) (a b s bx : Nat) : Nat → zm_S × Nat
  | 0 => (σ, 0)
  | i + 1 => if 0 < zm_half (zm_shr σ a b s bx i).1 a b (4 * s + i) ∧ bx + (zm_shr σ a b s bx i).2 < 8 then
      (zm_encl (zm_shr σ a b s bx i).1 a b (4 * s + i) (bx + (zm_shr σ a b s bx i).2) (zm_half (zm_shr σ a b s bx i).1 a b (4 * s + i)), (zm_shr σ a b s bx i).2 + 1)
    else zm_shr σ a b s bx i
def zo_send (σ : zm_S) (p bx : Nat) : zm_S × Int32 := if bx = 0 then (zm_f σ 0, nI 0) else
    (zm_set (zm_set (zm_set (zm_f σ 0) 17 p (σ.1 20 (8 * p))) 23 p (σ.1 21 (8 * p))) 24 p (σ.1 22 (8 * p)), σ.1 20 (8 * p))
def zm_tak (σ : zm_S) (p b lg : Nat) : zm_S :=
  let s1 := zm_set (zm_set (zm_f σ 0) 17 p (nI 0)) 18 p (σ.1 17 p)
  zm_set s1 2 (16 * b + lg) (s1.1 2 (16 * b + lg) + σ.1 24 p)
def zo_arrive (σ : zm_S) (p b lg T had : Nat) : zm_S × Int32 := if σ.1 17 p = 0 then (zm_f σ 0, -1) else
    if σ.1 17 p = σ.1 18 p + nI 1 then (zm_set (zm_serve (zm_tak σ p b lg) b T had) 19 p ((zm_serve (zm_tak σ p b lg) b T had).1 18 p), nI (had - (zm_sv (zm_tak σ p b lg) b T had).2))
    else (zm_set (zm_set (zm_f σ 0) 17 p (nI 0)) 19 p (σ.1 18 p), nI 0)
/-- turns of the loop of receipt: the state, how many stay -/
def zm_rcp (σ : zm_S) (p : Nat) (u : Int32) : Nat → zm_S × Nat
  | 0 => (σ, 0)
  | i + 1 => if u < (zm_rcp σ p u i).1.1 20 (8 * p + i) then
      (zm_set (zm_set (zm_set (zm_rcp σ p u i).1 20 (8 * p + (zm_rcp σ p u i).2) ((zm_rcp σ p u i).1.1 20 (8 * p + i))) 21 (8 * p + (zm_rcp σ p u i).2) ((zm_rcp σ p u i).1.1 21 (8 * p + i))) 22 (8 * p + (zm_rcp σ p u i).2) ((zm_rcp σ p u i).1.1 22 (8 * p + i)), (zm_rcp σ p u i).2 + 1)
    else zm_rcp σ p u i
def zo_receipt (σ : zm_S) (p bx : Nat) : zm_S × Int32 := if σ.1 19 p < 0 then (zm_f σ 0, -1) else
    (zm_set (zm_rcp (zm_set (zm_f σ 0) 19 p (-1)) p (σ.1 19 p) bx).1 16 p (nI (zm_rcp (zm_set (zm_f σ 0) 19 p (-1)) p (σ.1 19 p) bx).2), nI bx - nI (zm_rcp (zm_set (zm_f σ 0) 19 p (-1)) p (σ.1 19 p) bx).2)
/-- turns of the loop of crash -/
def zm_cra (σ : zm_S) (port : Nat) : Nat → zm_S × Int32
  | 0 => (σ, nI 0)
  | i + 1 => if i = port then zm_cra σ port i else
      (zm_lose1 (zm_lose1 (zm_cra σ port i).1 (4 * port + i)) (4 * i + port), (zm_cra σ port i).2 + zm_loseN (zm_cra σ port i).1 (4 * port + i) + zm_loseN (zm_lose1 (zm_cra σ port i).1 (4 * port + i)) (4 * i + port))
/-- the sum over the places of an outbox, from n on; over all outboxes -/
def zm_air1 (σ : zm_S) (leg p : Nat) (n : Int32) : Nat → Int32
  | 0 => n
  | i + 1 => if σ.1 21 (8 * p + i) = nI leg ∧ σ.1 18 p < σ.1 20 (8 * p + i) then zm_air1 σ leg p n i + σ.1 22 (8 * p + i) else zm_air1 σ leg p n i
def zm_air (σ : zm_S) (leg : Nat) : Nat → Int32
  | 0 => nI 0
  | p + 1 => zm_air1 σ leg p (zm_air σ leg p) (zn (σ.1 16 p))
def zm_sold (σ : zm_S) (leg : Nat) : Nat → Int32
  | 0 => nI 0
  | t + 1 => if σ.1 10 t = 0 then zm_sold σ leg t else zm_sold σ leg t + σ.1 7 t * zm_lies σ (4 + 4 * t) leg (zn (σ.1 8 t))
