/-- kinds that are there while the book is made -/
def hl_P (L : List Nat) (n : Nat) (C : Prop) : Prop := n ∈ L ∨ (300 ≤ n ∧ n < 380 ∧ (n < 312 ∨ 320 ≤ n) ∧ C)
theorem hl_mono {L L' : List Nat} (h : (L.all fun x => decide (x ∈ L')) = true) {n : Nat} (hn : n ∈ L) : n ∈ L' := of_decide_eq_true (List.all_eq_true.mp h n hn)
theorem hl_P.mono {L L' : List Nat} {n : Nat} {C C' : Prop} (hn : hl_P L n C) (h : (L.all fun x => decide (x ∈ L')) = true) (hc : C → C') : hl_P L' n C' := hn.elim (fun h1 => Or.inl (hl_mono h h1)) (fun h1 => Or.inr ⟨h1.1, h1.2.1, h1.2.2.1, hc h1.2.2.2⟩)
theorem hl_ne {L : List Nat} {n c : Nat} {C : Prop} (hn : hl_P L n C) (hc : (L.all fun x => decide (x ≠ c)) = true) (hc3 : c < 300) : n ≠ c := hn.elim (fun h1 => of_decide_eq_true (List.all_eq_true.mp hc n h1)) (fun h1 => by omega)
theorem hl_col {L : List Nat} {n : Nat} {C : Prop} (hn : hl_P L n C) (hc : (L.all fun x => decide (x < 300)) = true) (h : 300 ≤ n) : C := hn.elim (fun h1 => absurd (of_decide_eq_true (p := n < 300) (List.all_eq_true.mp hc n h1)) (by omega)) (fun h1 => h1.2.2.2)
theorem hl_48 {L : List Nat} {n : Nat} {C : Prop} (hn : hl_P L n C) (hc : (L.all fun x => decide (x < 40 ∨ 80 ≤ x)) = true) : n < 40 ∨ 80 ≤ n := hn.elim (fun h1 => of_decide_eq_true (p := n < 40 ∨ 80 ≤ n) (List.all_eq_true.mp hc n h1)) (fun h1 => by omega)
theorem hl_b {L : List Nat} {n i : Nat} {C : Prop} (hi : i ≤ 4) (h1 : (L.all fun x => decide (x ≤ 17 ∧ x ≠ 11 ∧ x ≠ 1)) = true) (h2 : (L.all fun x => decide (x < 5 ∨ 8 < x)) = true) (hn : hl_P L n C ∨ (5 ≤ n ∧ n < 5 + i)) : ((n ≤ 17 ∧ n ≠ 11 ∧ n ≠ 1) ∨ (300 ≤ n ∧ n < 380 ∧ (n < 312 ∨ 320 ≤ n))) ∧ (n < 5 ∨ 8 < n ∨ n < 5 + i) := by
  rcases hn with hn | hn
  · rcases hn with hn | hn
    · have a1 := of_decide_eq_true (p := n ≤ 17 ∧ n ≠ 11 ∧ n ≠ 1) (List.all_eq_true.mp h1 n hn)
      have a2 := of_decide_eq_true (p := n < 5 ∨ 8 < n) (List.all_eq_true.mp h2 n hn)
      omega
    · omega
  · omega
theorem hl_e {L : List Nat} {n i : Nat} {C : Prop} (hi : i ≤ 4) (h1 : (L.all fun x => decide (x ≤ 17 ∧ x ≠ 11 ∧ x ≠ 1)) = true) (h2 : (L.all fun x => decide (x < 5 ∨ 8 < x)) = true) (hn : hl_P L n C ∨ (5 ≤ n ∧ n < 5 + i)) : n ≠ 1 ∧ (i < 4 → n ≠ 5 + i) ∧ (n < 40 ∨ 300 ≤ n) ∧ ((n ≤ 17 ∧ n ≠ 11) ∨ (300 ≤ n ∧ n < 380 ∧ (n < 312 ∨ 320 ≤ n))) := by
  obtain ⟨a1, a2⟩ := hl_b hi h1 h2 hn
  refine ⟨by omega, by omega, by omega, ?_⟩
  rcases a1 with a1 | a1
  · exact Or.inl ⟨a1.1, a1.2.1⟩
  · exact Or.inr a1
theorem nn_w {n i : Nat} (h : n < 40 ∨ 300 ≤ n) (hi : i ≤ 4) : n ≠ 80 + i ∧ n ≠ 110 + i := by omega
theorem nn_s8 {kd j i : Nat} (ho : hk_ok kd) (hj : j < (hk_t kd).2.2) (hi : i ≤ 4) (h : hk_s kd j = (4, 80 + i)) : 100 ≤ kd ∧ kd < 120 := by
  have := hk_sr ho h hj
  omega
theorem nn_t8 {kd j i : Nat} (ho : hk_ok kd) (hj : j < (hk_t kd).2.2) (hi : i ≤ 4) : hk_s kd j ≠ (4, 110 + i) := fun h => by
  have := hk_sr ho h hj
  omega
theorem nn_x {n : Nat} (h : n < 40 ∨ 300 ≤ n) (h2 : 100 ≤ n ∧ n < 120) : False := by omega
theorem hl_rm {L L' : List Nat} {n c : Nat} {C : Prop} (hn : hl_P L n C) (hc : n ≠ c) (h : (L.all fun x => decide (x = c ∨ x ∈ L')) = true) : hl_P L' n C := hn.elim (fun h1 => Or.inl ((of_decide_eq_true (p := n = c ∨ n ∈ L') (List.all_eq_true.mp h n h1)).elim (fun e => absurd e hc) id)) Or.inr
