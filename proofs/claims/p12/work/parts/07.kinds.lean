/-! KINDS OF CELLS. 1 the book, 3 FrameReader, 4 SentFrame, 5..8 Port 0..3, 10 Neighbors, 11 the model; 12, 15..17 the book's arrays, 18.. the model's; 31.. what is being made; 300+q Neighbor q (q < 12), 320+q Contents q (12 the reader's first, 13 what is told), 340+q its sizes, 360+q its bytes, 380+q Contents q half made -/
abbrev RPort : String := RX4
abbrev RNeighbor : String := RX2
def hk_b : List (Nat × Nat × Nat) := [(0, 0, 0), (1, 6, 12), (0, 0, 0), (1, 1, 2), (1, 5, 3), (1, 4, 6), (1, 4, 6), (1, 4, 6), (1, 4, 6), (0, 0, 0), (1, 3, 2), (1, 7, 24),
  (2, 1, 700), (0, 0, 0), (0, 0, 0), (2, 3, 4), (2, 4, 12), (2, 1, 439), (2, 1, 540), (2, 0, 9), (2, 2, 4), (2, 0, 4), (2, 0, 4), (2, 0, 4), (2, 0, 4), (2, 0, 4), (2, 0, 13), (2, 0, 13), (2, 0, 13), (2, 1, 7020),
  (2, 0, 117), (1, 0, 2), (0, 0, 0), (1, 1, 2), (1, 5, 3), (1, 5, 3), (1, 2, 4), (1, 3, 2), (2, 1, 700), (2, 1, 700)]
def hk_t (kd : Nat) : Nat × Nat × Nat := if kd < 40 then hk_b.getD kd (0, 0, 0) else if kd < 60 then (2, 4, 12) else if kd < 80 then (1, 3, 2) else if kd < 100 then (2, 3, 4) else if kd < 200 then (1, 6, 12) else if kd < 300 then (1, 7, 24) else if kd < 320 then (1, 2, 4) else if kd < 340 then (1, 0, 2) else if kd < 360 then (2, 0, 9) else if kd < 380 then (2, 1, 420) else (1, 0, 2)
def hk_P : List (Nat × Nat) := [(0, 0), (0, 0), (0, 0), (0, 0), (0, 0), (0, 0)]
def hk_B : List (Nat × Nat) := [(4, 12), (0, 0), (4, 333), (4, 15), (4, 10), (4, 3), (4, 4), (1, 0), (1, 0), (1, 0), (0, 0), (0, 0)]
def hk_Mo : List (Nat × Nat) := [(4, 38), (0, 0), (4, 18), (4, 19), (1, 0), (1, 0), (1, 0), (4, 20), (4, 21), (4, 22), (4, 23), (4, 24), (4, 25), (0, 0), (4, 26), (4, 27), (4, 28), (4, 29), (4, 30), (0, 0), (0, 0), (4, 39), (0, 0), (0, 0)]
def hk_R : List (Nat × Nat) := [(4, 300), (4, 301), (4, 302), (4, 303), (4, 304), (4, 305), (4, 306), (4, 307), (4, 308), (4, 309), (4, 310), (4, 311)]
/-- a kind's slots, and what all slots behind them hold: (0) the exact number, (1) any int, (2, h) 0..h, (3, h) -1..h, (4, kd) a cell of kind kd, (5) a byte, (7) anything -/
def hk_l : List (List (Nat × Nat) × (Nat × Nat)) := [([], (7, 0)), (hk_B, (7, 0)), ([], (7, 0)), ([(4, 332), (2, 0)], (7, 0)), ([(4, 17), (0, 0), (0, 0)], (7, 0)), (hk_P, (7, 0)), (hk_P, (7, 0)), (hk_P, (7, 0)), (hk_P, (7, 0)),
  ([], (7, 0)), ([(4, 16), (0, 0)], (7, 0)), (hk_Mo, (7, 0)),
  ([], (5, 0)), ([], (7, 0)), ([], (7, 0)), ([(4, 5), (4, 6), (4, 7), (4, 8)], (7, 0)), (hk_R, (7, 0)), ([], (5, 0)), ([], (5, 0)), ([], (3, 60)), ([], (0, 0)), ([], (0, 0)), ([], (0, 0)), ([], (0, 0)), ([], (0, 0)), ([], (0, 0)), ([], (2, 3)), ([], (2, 0)), ([], (1, 0)), ([], (5, 0)),
  ([], (3, 60)), ([], (7, 0)), ([], (7, 0)), ([(7, 0), (2, 0)], (7, 0)), ([(7, 0), (2, 0), (1, 0)], (7, 0)), ([(4, 17), (2, 0), (1, 0)], (7, 0)), ([(7, 0), (2, 0), (1, 0), (1, 0)], (7, 0)), ([(7, 0), (2, 0)], (7, 0)), ([], (5, 0)), ([], (5, 0))]
/-- the n-th making of the book's fields: the refs in the order in which they are set -/
def hk_Bs (n i : Nat) : List (Nat × Nat) := [if 1 ≤ n then (4, 12) else (7, 0), (2, 0), if 2 ≤ n then (4, 333) else (7, 0), if 3 ≤ n then (4, 80 + i) else (7, 0), if 4 ≤ n then (4, 10) else (7, 0), if 5 ≤ n then (4, 3) else (7, 0), if 6 ≤ n then (4, 4) else (7, 0), (1, 0), (1, 0), (1, 0), (2, 0), (2, 0)]
def hk_Ms (n : Nat) : List (Nat × Nat) := [if 1 ≤ n then (4, 38) else (7, 0), (2, 0), if 2 ≤ n then (4, 18) else (7, 0), if 3 ≤ n then (4, 19) else (7, 0), (1, 0), (1, 0), (1, 0), if 4 ≤ n then (4, 20) else (7, 0), if 5 ≤ n then (4, 21) else (7, 0), if 6 ≤ n then (4, 22) else (7, 0), if 7 ≤ n then (4, 23) else (7, 0), if 8 ≤ n then (4, 24) else (7, 0), if 9 ≤ n then (4, 25) else (7, 0), (2, 0), if 10 ≤ n then (4, 26) else (7, 0), if 11 ≤ n then (4, 27) else (7, 0), if 12 ≤ n then (4, 28) else (7, 0), if 13 ≤ n then (4, 29) else (7, 0), if 14 ≤ n then (4, 30) else (7, 0), (2, 0), (2, 0), if 15 ≤ n then (4, 39) else (7, 0), (2, 0), (1, 0)]
def hk_f (kd k : Nat) : Nat × Nat :=
  if kd < 320 then ([(4, kd + 20), (2, 0), (1, 0), (1, 0)] : List (Nat × Nat)).getD k (7, 0)
  else if kd < 340 then ([(4, kd + 20), (4, kd + 40)] : List (Nat × Nat)).getD k (7, 0)
  else if kd < 360 then (if k = 0 ∨ k = 3 then (3, 0) else (3, 60))
  else if kd < 380 then (5, 0)
  else ([(4, kd - 40), (7, 0)] : List (Nat × Nat)).getD k (7, 0)
def hk_s (kd k : Nat) : Nat × Nat :=
  if kd < 40 then (hk_l.getD kd ([], (7, 0))).1.getD k (hk_l.getD kd ([], (7, 0))).2
  else if kd < 60 then (if k < kd - 40 then (4, 300 + k) else (7, 0))
  else if kd < 80 then ([(4, kd - 20), (2, 0)] : List (Nat × Nat)).getD k (7, 0)
  else if kd < 100 then (if k < kd - 80 then (4, 5 + k) else (7, 0))
  else if kd < 110 then (hk_Bs (kd - 100) 0).getD k (7, 0)
  else if kd < 200 then (hk_Bs 6 (kd - 110)).getD k (7, 0)
  else if kd < 300 then (hk_Ms (kd - 200)).getD k (7, 0)
  else hk_f kd k
/-- kinds of which there is one cell alone -/
def hk_x (kd : Nat) : Bool := if kd < 40 then [1, 3, 4, 5, 6, 7, 8, 10, 11, 12, 16, 20, 21, 22, 23, 24, 25, 26, 27, 28, 29, 30, 38].contains kd else decide ((300 ≤ kd ∧ kd < 320) ∨ (340 ≤ kd ∧ kd < 380))
theorem hk_t5 {q : Nat} (h : q < 4) : hk_t (5 + q) = (1, 4, 6) := by
  match q, h with
  | 0, _ => rfl
  | 1, _ => rfl
  | 2, _ => rfl
  | 3, _ => rfl
theorem hk_s5 {q k : Nat} (h : q < 4) (hk : k < 6) : hk_s (5 + q) k = (0, 0) := by
  match q, h with
  | 0, _ => match k, hk with | 0, _ => rfl | 1, _ => rfl | 2, _ => rfl | 3, _ => rfl | 4, _ => rfl | 5, _ => rfl
  | 1, _ => match k, hk with | 0, _ => rfl | 1, _ => rfl | 2, _ => rfl | 3, _ => rfl | 4, _ => rfl | 5, _ => rfl
  | 2, _ => match k, hk with | 0, _ => rfl | 1, _ => rfl | 2, _ => rfl | 3, _ => rfl | 4, _ => rfl | 5, _ => rfl
  | 3, _ => match k, hk with | 0, _ => rfl | 1, _ => rfl | 2, _ => rfl | 3, _ => rfl | 4, _ => rfl | 5, _ => rfl
theorem hk_x5 {q : Nat} (h : q < 4) : hk_x (5 + q) = true := by
  match q, h with
  | 0, _ => rfl
  | 1, _ => rfl
  | 2, _ => rfl
  | 3, _ => rfl
theorem hk_s15 {q : Nat} (h : q < 4) : hk_s 15 q = (4, 5 + q) := by
  match q, h with
  | 0, _ => rfl
  | 1, _ => rfl
  | 2, _ => rfl
  | 3, _ => rfl
theorem hk_t300 {q : Nat} (h : q < 20) : hk_t (300 + q) = (1, 2, 4) := by
  unfold hk_t
  rw [if_neg (by omega), if_neg (by omega), if_neg (by omega), if_neg (by omega), if_neg (by omega), if_neg (by omega), if_pos (by omega)]
theorem hk_t320 {q : Nat} (h : q < 20) : hk_t (320 + q) = (1, 0, 2) := by
  unfold hk_t
  rw [if_neg (by omega), if_neg (by omega), if_neg (by omega), if_neg (by omega), if_neg (by omega), if_neg (by omega), if_neg (by omega), if_pos (by omega)]
theorem hk_t340 {q : Nat} (h : q < 20) : hk_t (340 + q) = (2, 0, 9) := by
  unfold hk_t
  rw [if_neg (by omega), if_neg (by omega), if_neg (by omega), if_neg (by omega), if_neg (by omega), if_neg (by omega), if_neg (by omega), if_neg (by omega), if_pos (by omega)]
theorem hk_t360 {q : Nat} (h : q < 20) : hk_t (360 + q) = (2, 1, 420) := by
  unfold hk_t
  rw [if_neg (by omega), if_neg (by omega), if_neg (by omega), if_neg (by omega), if_neg (by omega), if_neg (by omega), if_neg (by omega), if_neg (by omega), if_neg (by omega), if_pos (by omega)]
theorem hk_t380 {q : Nat} : hk_t (380 + q) = (1, 0, 2) := by
  unfold hk_t
  rw [if_neg (by omega), if_neg (by omega), if_neg (by omega), if_neg (by omega), if_neg (by omega), if_neg (by omega), if_neg (by omega), if_neg (by omega), if_neg (by omega), if_neg (by omega)]
theorem hk_sF {kd k : Nat} (h : 300 ≤ kd) : hk_s kd k = hk_f kd k := by
  unfold hk_s
  rw [if_neg (by omega), if_neg (by omega), if_neg (by omega), if_neg (by omega), if_neg (by omega), if_neg (by omega), if_neg (by omega)]
theorem hk_s300 {q : Nat} (h : q < 20) (k : Nat) : hk_s (300 + q) k = ([(4, 320 + q), (2, 0), (1, 0), (1, 0)] : List (Nat × Nat)).getD k (7, 0) := by
  rw [hk_sF (by omega)]
  unfold hk_f
  rw [if_pos (by omega), show 300 + q + 20 = 320 + q by omega]
theorem hk_s320 {q : Nat} (h : q < 20) (k : Nat) : hk_s (320 + q) k = ([(4, 340 + q), (4, 360 + q)] : List (Nat × Nat)).getD k (7, 0) := by
  rw [hk_sF (by omega)]
  unfold hk_f
  rw [if_neg (by omega), if_pos (by omega), show 320 + q + 20 = 340 + q by omega, show 320 + q + 40 = 360 + q by omega]
theorem hk_s340 {q : Nat} (h : q < 20) (k : Nat) : hk_s (340 + q) k = if k = 0 ∨ k = 3 then (3, 0) else (3, 60) := by
  rw [hk_sF (by omega)]
  unfold hk_f
  rw [if_neg (by omega), if_neg (by omega), if_pos (by omega)]
theorem hk_s360 {q : Nat} (h : q < 20) (k : Nat) : hk_s (360 + q) k = (5, 0) := by
  rw [hk_sF (by omega)]
  unfold hk_f
  rw [if_neg (by omega), if_neg (by omega), if_neg (by omega), if_pos (by omega)]
theorem hk_s380 {q : Nat} (k : Nat) : hk_s (380 + q) k = ([(4, 340 + q), (7, 0)] : List (Nat × Nat)).getD k (7, 0) := by
  rw [hk_sF (by omega)]
  unfold hk_f
  rw [if_neg (by omega), if_neg (by omega), if_neg (by omega), if_neg (by omega), show 380 + q - 40 = 340 + q by omega]
theorem hk_x300 {q : Nat} (h : q < 20) : hk_x (300 + q) = true := by
  unfold hk_x
  rw [if_neg (by omega)]
  exact decide_eq_true (by omega)
theorem hk_x340 {q : Nat} (h : q < 40) : hk_x (340 + q) = true := by
  unfold hk_x
  rw [if_neg (by omega)]
  exact decide_eq_true (by omega)
theorem hk_x360 {q : Nat} (h : q < 20) : hk_x (360 + q) = true := by
  unfold hk_x
  rw [if_neg (by omega)]
  exact decide_eq_true (by omega)
theorem hk_x380 {q : Nat} : hk_x (380 + q) = false := by
  unfold hk_x
  rw [if_neg (by omega)]
  exact decide_eq_false (by omega)
theorem hk_x320 {q : Nat} (h : q < 20) : hk_x (320 + q) = false := by
  unfold hk_x
  rw [if_neg (by omega)]
  exact decide_eq_false (by omega)
/-- the links of private methods of nest mates: (own, index, method, host) -/
def hp_nl : List (String × Nat × MethodName × String) := [(RX3, 17, yX2_init, RX6), (RX6, 35, yX1_init, RX6), (RX6, 42, yX5_init, RX6), (RX6, 57, yX4_init, RX6), (RX0, 22, yX6_isMore, RX6), (RX1, 44, yX6_isMore, RX6)]
def hp_N (U : State) : Prop := ∀ q ∈ hp_nl, va_Nw (.methodLinkNest q.1 q.2.1 q.2.2.1 q.2.2.2) U
theorem hp_N.same {u U : State} (h : u.vm = U.vm) (hN : hp_N u) : hp_N U := fun q hq => va_Nw.same rfl h (hN q hq)
theorem hp_N.warm {s U : State} (hw : s.WarmedH U.vm) (hN : hp_N s) : hp_N U := fun q hq => va_Nw.warmM hw (hN q hq)
