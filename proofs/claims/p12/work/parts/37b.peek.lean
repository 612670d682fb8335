theorem he_c10 {dC : Nat → ClassId} {dI : Nat → Nat → Nat} {dA : Nat → ClassId} {κ : Nat → Nat} {B : Nat} {g : Nat → Nat → Int} {H0 H : Heap} {locs : List Loc} {a : Nat} (hJ : he_J dC dI dA κ B g H0 H locs) (ka : κ a = 10) : 0 ≤ g 10 1 ∧ g 10 1 ≤ 12 := by
  obtain ⟨⟨F, hM, hO⟩, -⟩ := hJ
  have h := hO a 1
  rw [ka] at h
  obtain ⟨x, -, h1, h2, h3⟩ := (show ∃ x : Int32, F a 1 = .int x ∧ x.toInt = g 10 1 ∧ 0 ≤ x.toInt ∧ x.toInt ≤ ((12 : Nat) : Int) from h (by decide))
  omega
