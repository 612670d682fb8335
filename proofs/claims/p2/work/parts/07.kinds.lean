/-! KINDS OF CELLS. 1 the book, 2 Contents, 3 FrameReader, 4 SentFrame, 5..8 Port 0..3, 9 Neighbor, 10 Neighbors, 11 the model; 12.. arrays; 31.. what is being made -/
abbrev RPort : String := RX4
abbrev RNeighbor : String := RX2
def hk_b : List (Nat × Nat × Nat) := [(0, 0, 0), (1, 6, 12), (1, 0, 2), (1, 1, 2), (1, 5, 3), (1, 4, 6), (1, 4, 6), (1, 4, 6), (1, 4, 6), (1, 2, 4), (1, 3, 2), (1, 7, 24),
  (2, 1, 700), (2, 0, 9), (2, 1, 420), (2, 3, 4), (2, 4, 12), (2, 1, 439), (2, 1, 540), (2, 0, 9), (2, 2, 4), (2, 0, 4), (2, 0, 4), (2, 0, 4), (2, 0, 4), (2, 0, 4), (2, 0, 13), (2, 0, 13), (2, 1, 7020), (2, 0, 117),
  (0, 0, 0), (1, 0, 2), (1, 0, 2), (1, 1, 2), (1, 5, 3), (1, 5, 3), (1, 2, 4), (1, 3, 2), (0, 0, 0), (0, 0, 0)]
def hk_t (kd : Nat) : Nat × Nat × Nat := if kd < 40 then hk_b.getD kd (0, 0, 0) else if kd < 60 then (2, 4, 12) else if kd < 80 then (1, 3, 2) else if kd < 100 then (2, 3, 4) else if kd < 200 then (1, 6, 12) else (1, 7, 24)
def hk_P : List (Nat × Nat) := [(0, 0), (0, 0), (0, 0), (0, 0), (0, 0), (0, 0)]
def hk_B : List (Nat × Nat) := [(4, 12), (0, 0), (4, 2), (4, 15), (4, 10), (4, 3), (4, 4), (1, 0), (1, 0), (1, 0), (0, 0), (0, 0)]
def hk_Mo : List (Nat × Nat) := [(4, 12), (0, 0), (4, 18), (4, 19), (1, 0), (1, 0), (1, 0), (4, 20), (4, 21), (4, 22), (4, 23), (4, 24), (4, 25), (0, 0), (4, 26), (4, 27), (4, 27), (4, 28), (4, 29), (0, 0), (0, 0), (4, 12), (0, 0), (0, 0)]
/-- a kind's slots, and what all slots behind them hold: (0) the exact number, (1) any int, (2, h) 0..h, (3, h) -1..h, (4, kd) a cell of kind kd, (5) a byte, (7) anything -/
def hk_l : List (List (Nat × Nat) × (Nat × Nat)) := [([], (7, 0)), (hk_B, (7, 0)), ([(4, 13), (4, 14)], (7, 0)), ([(4, 2), (1, 0)], (7, 0)), ([(4, 17), (0, 0), (0, 0)], (7, 0)), (hk_P, (7, 0)), (hk_P, (7, 0)), (hk_P, (7, 0)), (hk_P, (7, 0)),
  ([(4, 2), (1, 0), (1, 0), (1, 0)], (7, 0)), ([(4, 16), (0, 0)], (7, 0)), (hk_Mo, (7, 0)),
  ([], (5, 0)), ([(3, 0), (3, 60), (3, 60), (3, 0)], (3, 60)), ([], (5, 0)), ([(4, 5), (4, 6), (4, 7), (4, 8)], (7, 0)), ([], (4, 9)), ([], (5, 0)), ([], (5, 0)), ([], (3, 60)), ([], (0, 0)), ([], (0, 0)), ([], (0, 0)), ([], (0, 0)), ([], (0, 0)), ([], (0, 0)), ([], (2, 3)), ([], (1, 0)), ([], (5, 0)), ([], (3, 60)),
  ([], (7, 0)), ([], (7, 0)), ([(4, 13)], (7, 0)), ([(7, 0), (1, 0)], (7, 0)), ([(7, 0), (2, 0), (1, 0)], (7, 0)), ([(4, 17), (2, 0), (1, 0)], (7, 0)), ([(7, 0), (1, 0), (1, 0), (1, 0)], (7, 0)), ([(7, 0), (2, 0)], (7, 0))]
/-- the n-th making of the book's fields: the refs in the order in which they are set -/
def hk_Bs (n i : Nat) : List (Nat × Nat) := [if 1 ≤ n then (4, 12) else (7, 0), (2, 0), if 2 ≤ n then (4, 2) else (7, 0), if 3 ≤ n then (4, 80 + i) else (7, 0), if 4 ≤ n then (4, 10) else (7, 0), if 5 ≤ n then (4, 3) else (7, 0), if 6 ≤ n then (4, 4) else (7, 0), (1, 0), (1, 0), (1, 0), (2, 0), (2, 0)]
def hk_Ms (n : Nat) : List (Nat × Nat) := [if 1 ≤ n then (4, 12) else (7, 0), (2, 0), if 2 ≤ n then (4, 18) else (7, 0), if 3 ≤ n then (4, 19) else (7, 0), (1, 0), (1, 0), (1, 0), if 4 ≤ n then (4, 20) else (7, 0), if 5 ≤ n then (4, 21) else (7, 0), if 6 ≤ n then (4, 22) else (7, 0), if 7 ≤ n then (4, 23) else (7, 0), if 8 ≤ n then (4, 24) else (7, 0), if 9 ≤ n then (4, 25) else (7, 0), (2, 0), if 10 ≤ n then (4, 26) else (7, 0), if 11 ≤ n then (4, 27) else (7, 0), if 12 ≤ n then (4, 27) else (7, 0), if 13 ≤ n then (4, 28) else (7, 0), if 14 ≤ n then (4, 29) else (7, 0), (2, 0), (2, 0), if 15 ≤ n then (4, 12) else (7, 0), (2, 0), (1, 0)]
def hk_s (kd k : Nat) : Nat × Nat :=
  if kd < 40 then (hk_l.getD kd ([], (7, 0))).1.getD k (hk_l.getD kd ([], (7, 0))).2
  else if kd < 60 then (if k < kd - 40 then (4, 9) else (7, 0))
  else if kd < 80 then ([(4, kd - 20), (2, 0)] : List (Nat × Nat)).getD k (7, 0)
  else if kd < 100 then (if k < kd - 80 then (4, 5 + k) else (7, 0))
  else if kd < 110 then (hk_Bs (kd - 100) 0).getD k (7, 0)
  else if kd < 200 then (hk_Bs 6 (kd - 110)).getD k (7, 0)
  else (hk_Ms (kd - 200)).getD k (7, 0)
def hk_x (kd : Nat) : Bool := [1, 4, 5, 6, 7, 8, 10, 11, 20, 21, 22, 23, 24, 25].contains kd
theorem hk_t5 {q : Nat} (h : q < 4) : hk_t (5 + q) = (1, 4, 6) := by
  match q, h with
  | 0, _ => rfl
  | 1, _ => rfl
  | 2, _ => rfl
  | 3, _ => rfl
theorem hk_s5 {q k : Nat} (h : q < 4) (hk : k < 6) : hk_s (5 + q) k = (0, 0) := by
  match q, h with
  | 0, _ => match k, hk with | 0, _ => rfl | 1, _ => rfl | 2, _ => rfl | 3, _ => rfl | 4, _ => rfl | 5, _ => rfl
  | 1, _ => match k, hk with | 0, _ => rfl | 1, _ => rfl | 2, _ => rfl | 3, _ => rfl | 4, _ => rfl | 5, _ => rfl
  | 2, _ => match k, hk with | 0, _ => rfl | 1, _ => rfl | 2, _ => rfl | 3, _ => rfl | 4, _ => rfl | 5, _ => rfl
  | 3, _ => match k, hk with | 0, _ => rfl | 1, _ => rfl | 2, _ => rfl | 3, _ => rfl | 4, _ => rfl | 5, _ => rfl
theorem hk_x5 {q : Nat} (h : q < 4) : hk_x (5 + q) = true := by
  match q, h with
  | 0, _ => rfl
  | 1, _ => rfl
  | 2, _ => rfl
  | 3, _ => rfl
theorem hk_s15 {q : Nat} (h : q < 4) : hk_s 15 q = (4, 5 + q) := by
  match q, h with
  | 0, _ => rfl
  | 1, _ => rfl
  | 2, _ => rfl
  | 3, _ => rfl
theorem hk_s13 {q : Nat} (h : q < 9) : hk_s 13 q = if q = 0 ∨ q = 3 then (3, 0) else (3, 60) := by
  match q, h with
  | 0, _ => rfl
  | 1, _ => rfl
  | 2, _ => rfl
  | 3, _ => rfl
  | 4, _ => rfl
  | 5, _ => rfl
  | 6, _ => rfl
  | 7, _ => rfl
  | 8, _ => rfl
/-- which exact numbers an inner method of the class (of the model) may change -/
def hx_c (a b : Nat) : Bool := (a == 1 && (b == 10 || b == 11)) || a == 4 || (decide (5 ≤ a) && decide (a ≤ 8) && b != 0) || a == 10
def hx_m (a b : Nat) : Bool := (a == 11 && (b == 13 || b == 19 || b == 20 || b == 22 || b == 23)) || (decide (21 ≤ a) && decide (a ≤ 25))
def hx_C (a _b : Nat) : Bool := decide (a ≤ 10)
def hx_M (a _b : Nat) : Bool := decide (11 ≤ a)
def hg_P (f : Nat → Nat → Bool) (g g' : Nat → Nat → Int) : Prop := ∀ a b : Nat, f a b = false → g' a b = g a b
theorem hg_P.rf {f : Nat → Nat → Bool} {g : Nat → Nat → Int} : hg_P f g g := fun _ _ _ => rfl
theorem hg_P.tr {f : Nat → Nat → Bool} {g g1 g2 : Nat → Nat → Int} (h : hg_P f g g1) (h' : hg_P f g1 g2) : hg_P f g g2 := fun a b hf => (h' a b hf).trans (h a b hf)
theorem hg_P.put {f : Nat → Nat → Bool} {g g1 g2 : Nat → Nat → Int} {kd k : Nat} (h : hg_P f g g1) (h' : ∀ a b : Nat, ¬ (a = kd ∧ b = k) → g2 a b = g1 a b) (hf : f kd k = true) : hg_P f g g2 := fun a b hab => (h' a b (fun q => by rw [q.1, q.2, hf] at hab; cases hab)).trans (h a b hab)
theorem hg_P.le {f f' : Nat → Nat → Bool} {g g' : Nat → Nat → Int} (h : hg_P f g g') (hl : ∀ a b, f' a b = false → f a b = false) : hg_P f' g g' := fun a b hab => h a b (hl a b hab)
theorem hx_c5 {q k : Nat} (h : q < 4) (hk : k ≠ 0) : hx_c (5 + q) k = true := by
  match q, h with
  | 0, _ => simp [hx_c, hk]
  | 1, _ => simp [hx_c, hk]
  | 2, _ => simp [hx_c, hk]
  | 3, _ => simp [hx_c, hk]
theorem hx_c50 {q : Nat} (h : q < 4) : hx_c (5 + q) 0 = false := by
  match q, h with
  | 0, _ => rfl
  | 1, _ => rfl
  | 2, _ => rfl
  | 3, _ => rfl
theorem hx_C5 {q k : Nat} (h : q < 4) : hx_C (5 + q) k = true := by
  simp only [hx_C, decide_eq_true_eq]
  omega
theorem hx_M5 {q k : Nat} (h : q < 4) : hx_M (5 + q) k = false := by
  simp only [hx_M, decide_eq_false_iff_not]
  omega
theorem hx_cC (a b : Nat) (h : hx_C a b = false) : hx_c a b = false := by
  simp only [hx_C, decide_eq_false_iff_not] at h
  simp only [hx_c, Bool.or_eq_false_iff, Bool.and_eq_false_imp, beq_eq_false_iff_ne, beq_iff_eq, Bool.and_eq_true, decide_eq_true_eq]
  refine ⟨⟨⟨fun q => by omega, by omega⟩, fun q => by omega⟩, by omega⟩
theorem hx_mM (a b : Nat) (h : hx_M a b = false) : hx_m a b = false := by
  simp only [hx_M, decide_eq_false_iff_not] at h
  simp only [hx_m, Bool.or_eq_false_iff, Bool.and_eq_false_imp, beq_eq_false_iff_ne, beq_iff_eq, decide_eq_true_eq, decide_eq_false_iff_not]
  refine ⟨fun q => by omega, fun q => by omega⟩
def hx_d (a b : Nat) : Bool := hx_c a b || (a == 1 && b == 1)
def hx_e (a b : Nat) : Bool := hx_m a b || (a == 11 && b == 1)
theorem hx_cd (a b : Nat) (h : hx_d a b = false) : hx_c a b = false := (Bool.or_eq_false_iff.mp h).1
theorem hx_me (a b : Nat) (h : hx_e a b = false) : hx_m a b = false := (Bool.or_eq_false_iff.mp h).1
theorem hx_d50 {q : Nat} (h : q < 4) : hx_d (5 + q) 0 = false := by
  match q, h with
  | 0, _ => rfl
  | 1, _ => rfl
  | 2, _ => rfl
  | 3, _ => rfl
theorem hx_dC (a b : Nat) (h : hx_C a b = false) : hx_d a b = false := by
  have h1 := hx_cC a b h
  simp only [hx_C, decide_eq_false_iff_not] at h
  simp only [hx_d, h1, Bool.false_or, Bool.and_eq_false_imp, beq_iff_eq, beq_eq_false_iff_ne]
  intro q
  omega
theorem hx_eM (a b : Nat) (h : hx_M a b = false) : hx_e a b = false := by
  have h1 := hx_mM a b h
  simp only [hx_M, decide_eq_false_iff_not] at h
  simp only [hx_e, h1, Bool.false_or, Bool.and_eq_false_imp, beq_iff_eq, beq_eq_false_iff_ne]
  intro q
  omega
/-- what the exact numbers always keep to -/
def hg_k (g : Nat → Nat → Int) : Prop := (0 ≤ g 1 1 ∧ g 1 1 ≤ 700) ∧ (0 ≤ g 10 1 ∧ g 10 1 ≤ 12) ∧ (0 ≤ g 4 1 ∧ g 4 1 ≤ 439) ∧ (0 ≤ g 11 1 ∧ g 11 1 ≤ 700) ∧ (0 ≤ g 11 13 ∧ g 11 13 ≤ 12) ∧ (0 ≤ g 11 22 ∧ g 11 22 ≤ 700) ∧ (∀ q : Nat, q < 4 → g (5 + q) 0 = 0 ∨ g (5 + q) 0 = 1) ∧ ∀ q : Nat, q < 4 → g 20 q = 0 ∨ g 20 q = 1
theorem hg_k.ofc {g g' : Nat → Nat → Int} (h : hg_k g) (hP : hg_P hx_c g g') (b1 : 0 ≤ g' 10 1 ∧ g' 10 1 ≤ 12) (b2 : 0 ≤ g' 4 1 ∧ g' 4 1 ≤ 439) : hg_k g' := by
  obtain ⟨h1, h2, h3, h4, h5, h6, h7, h8⟩ := h
  refine ⟨?_, b1, b2, ?_, ?_, ?_, fun q hq => ?_, fun q hq => ?_⟩
  · rw [hP 1 1 rfl]; exact h1
  · rw [hP 11 1 rfl]; exact h4
  · rw [hP 11 13 rfl]; exact h5
  · rw [hP 11 22 rfl]; exact h6
  · rw [hP (5 + q) 0 (hx_c50 hq)]; exact h7 q hq
  · rw [hP 20 q rfl]; exact h8 q hq
theorem hg_k.ofm {g g' : Nat → Nat → Int} (h : hg_k g) (hP : hg_P hx_m g g') (b1 : 0 ≤ g' 11 13 ∧ g' 11 13 ≤ 12) (b2 : 0 ≤ g' 11 22 ∧ g' 11 22 ≤ 700) : hg_k g' := by
  obtain ⟨h1, h2, h3, h4, h5, h6, h7, h8⟩ := h
  refine ⟨?_, ?_, ?_, ?_, b1, b2, fun q hq => ?_, fun q hq => ?_⟩
  · rw [hP 1 1 rfl]; exact h1
  · rw [hP 10 1 rfl]; exact h2
  · rw [hP 4 1 rfl]; exact h3
  · rw [hP 11 1 rfl]; exact h4
  · rw [hP (5 + q) 0 (hx_mM _ _ (hx_M5 hq))]; exact h7 q hq
  · rw [hP 20 q rfl]; exact h8 q hq
theorem hg_k.ofd {g g' : Nat → Nat → Int} (h : hg_k g) (hP : hg_P hx_d g g') (b0 : 0 ≤ g' 1 1 ∧ g' 1 1 ≤ 700) (b1 : 0 ≤ g' 10 1 ∧ g' 10 1 ≤ 12) (b2 : 0 ≤ g' 4 1 ∧ g' 4 1 ≤ 439) : hg_k g' := by
  obtain ⟨h1, h2, h3, h4, h5, h6, h7, h8⟩ := h
  refine ⟨b0, b1, b2, ?_, ?_, ?_, fun q hq => ?_, fun q hq => ?_⟩
  · rw [hP 11 1 rfl]; exact h4
  · rw [hP 11 13 rfl]; exact h5
  · rw [hP 11 22 rfl]; exact h6
  · rw [hP (5 + q) 0 (hx_d50 hq)]; exact h7 q hq
  · rw [hP 20 q rfl]; exact h8 q hq
theorem hg_k.ofe {g g' : Nat → Nat → Int} (h : hg_k g) (hP : hg_P hx_e g g') (b0 : 0 ≤ g' 11 1 ∧ g' 11 1 ≤ 700) (b1 : 0 ≤ g' 11 13 ∧ g' 11 13 ≤ 12) (b2 : 0 ≤ g' 11 22 ∧ g' 11 22 ≤ 700) : hg_k g' := by
  obtain ⟨h1, h2, h3, h4, h5, h6, h7, h8⟩ := h
  refine ⟨?_, ?_, ?_, b0, b1, b2, fun q hq => ?_, fun q hq => ?_⟩
  · rw [hP 1 1 rfl]; exact h1
  · rw [hP 10 1 rfl]; exact h2
  · rw [hP 4 1 rfl]; exact h3
  · rw [hP (5 + q) 0 (hx_eM _ _ (hx_M5 hq))]; exact h7 q hq
  · rw [hP 20 q rfl]; exact h8 q hq
theorem hg_k.ofp {g g' : Nat → Nat → Int} (h : hg_k g) (hP : hg_P hx_C g g') (e1 : g' 1 1 = g 1 1) (e2 : g' 10 1 = g 10 1) (e3 : g' 4 1 = g 4 1) (h5 : ∀ j : Nat, j < 4 → g' (5 + j) 0 = 0 ∨ g' (5 + j) 0 = 1) : hg_k g' := by
  obtain ⟨h1, h2, h3, h4, h4', h6, h7, h8⟩ := h
  refine ⟨?_, ?_, ?_, ?_, ?_, ?_, h5, fun q hq => ?_⟩
  · rw [e1]; exact h1
  · rw [e2]; exact h2
  · rw [e3]; exact h3
  · rw [hP 11 1 rfl]; exact h4
  · rw [hP 11 13 rfl]; exact h4'
  · rw [hP 11 22 rfl]; exact h6
  · rw [hP 20 q rfl]; exact h8 q hq
theorem hg_k.ofq {g g' : Nat → Nat → Int} (h : hg_k g) (hP : hg_P hx_M g g') (e1 : g' 11 1 = g 11 1) (b1 : 0 ≤ g' 11 13 ∧ g' 11 13 ≤ 12) (b2 : 0 ≤ g' 11 22 ∧ g' 11 22 ≤ 700) (h5 : ∀ j : Nat, j < 4 → g' 20 j = 0 ∨ g' 20 j = 1) : hg_k g' := by
  obtain ⟨h1, h2, h3, h4, h4', h6, h7, h8⟩ := h
  refine ⟨?_, ?_, ?_, ?_, b1, b2, fun q hq => ?_, h5⟩
  · rw [hP 1 1 rfl]; exact h1
  · rw [hP 10 1 rfl]; exact h2
  · rw [hP 4 1 rfl]; exact h3
  · rw [e1]; exact h4
  · rw [hP (5 + q) 0 (hx_M5 hq)]; exact h7 q hq
/-- the links of private methods of nest mates: (own, index, method, host) -/
def hp_nl : List (String × Nat × MethodName × String) := [(RX3, 17, yX2_init, RX6), (RX6, 35, yX1_init, RX6), (RX6, 42, yX5_init, RX6), (RX6, 57, yX4_init, RX6), (RX0, 22, yX6_isMore, RX6), (RX1, 44, yX6_isMore, RX6)]
def hp_N (U : State) : Prop := ∀ q ∈ hp_nl, va_Nw (.methodLinkNest q.1 q.2.1 q.2.2.1 q.2.2.2) U
theorem hp_N.same {u U : State} (h : u.vm = U.vm) (hN : hp_N u) : hp_N U := fun q hq => va_Nw.same rfl h (hN q hq)
theorem hp_N.warm {s U : State} (hw : s.WarmedH U.vm) (hN : hp_N s) : hp_N U := fun q hq => va_Nw.warmM hw (hN q hq)
