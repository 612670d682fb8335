def hm_if0 (x : Int) (P : Prop) : Prop := x = 0 ↔ P
theorem hm_if0.mp {x : Int} {P : Prop} (h : hm_if0 x P) (hx : x = 0) : P := Iff.mp h hx
theorem hm_if0.mpr {x : Int} {P : Prop} (h : hm_if0 x P) (hp : P) : x = 0 := Iff.mpr h hp
theorem hq_ok_60 {part t n : Nat} {rest sz : Int} (h : hq_ok part t n rest sz) (ht : t = 1 ∨ t = 2 ∨ (4 ≤ t ∧ t ≤ 8)) : n ≤ 60 := by
  have h1 := h.2.1
  omega
theorem hq_ok_2 {part t n : Nat} {rest sz : Int} (h : hq_ok part t n rest sz) (ht : t = 3) : 2 ≤ n := by
  have h1 := h.2.1
  omega
def hm_ord (p t : Int) : Prop := (p < 3 ∧ t = p + 1) ∨ (3 ≤ p ∧ (t < 1 ∨ 3 < t))
def hm_ws (t n : Int) : Prop := (t = 0 ∧ n ≠ 0) ∨ ((t = 1 ∨ t = 2) ∧ (n < 2 ∨ 60 < n)) ∨ (t = 3 ∧ n < 2) ∨ (4 ≤ t ∧ t ≤ 8 ∧ 60 < n)
def hm_wb (s t n : Int) : Prop := (s = 0 ∧ hm_ws t n) ∨ (s = 1 ∧ ¬ hm_ws t n)
def hm_du (t sz : Int) : Prop := 4 ≤ t ∧ t ≤ 8 ∧ sz ≠ -1
theorem hm_ws_60 {t n : Int} (h : ¬ hm_ws t n) (h0 : t ≠ 0) (h3 : t ≠ 3) (h9 : t < 9) (ht : 0 ≤ t) : n ≤ 60 := by
  unfold hm_ws at h
  omega
theorem hm_ws_3 {t n : Int} (h : ¬ hm_ws t n) (h3 : t = 3) : 2 ≤ n := by
  unfold hm_ws at h
  omega
theorem hm_ok {p t n rest sz : Int} (hp : 0 ≤ p) (ht : 0 ≤ t) (hn : 0 ≤ n) (h1 : hm_ord p t) (h2 : ¬ hm_ws t n) (h3 : n ≤ rest) (h4 : ¬ hm_du t sz) : hq_ok p.toNat t.toNat n.toNat rest sz := by
  unfold hm_ord at h1
  unfold hm_ws at h2
  unfold hm_du at h4
  refine ⟨?_, ?_, by omega, ?_⟩
  · clear h2 h3 h4; omega
  · clear h1 h3 h4; omega
  · clear h1 h2 h3; omega
theorem hm_no1 {p t n rest sz : Int} (hp : 0 ≤ p) (ht : 0 ≤ t) (h1 : ¬ hm_ord p t) : ¬ hq_ok p.toNat t.toNat n.toNat rest sz := fun h => by
  have h9 := h.1
  unfold hm_ord at h1
  clear h
  omega
theorem hm_no2 {p t n rest sz : Int} (ht : 0 ≤ t) (hn : 0 ≤ n) (h1 : hm_ws t n) : ¬ hq_ok p.toNat t.toNat n.toNat rest sz := fun h => by
  have h9 := h.2.1
  unfold hm_ws at h1
  clear h
  omega
theorem hm_no3 {p t n rest sz : Int} (hn : 0 ≤ n) (h1 : rest < n) : ¬ hq_ok p.toNat t.toNat n.toNat rest sz := fun h => by
  have h9 := h.2.2.1
  clear h
  omega
theorem hm_no4 {p t n rest sz : Int} (ht : 0 ≤ t) (h1 : hm_du t sz) : ¬ hq_ok p.toNat t.toNat n.toNat rest sz := fun h => by
  have h9 := h.2.2.2
  unfold hm_du at h1
  clear h
  exact h9 ⟨by omega, by omega, h1.2.2⟩
