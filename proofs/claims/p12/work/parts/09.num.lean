theorem hi_fz {v : Int32} (h : v.toInt = 0 ∨ v.toInt = 1) : fits .boolean (.int v) = true := by
  rcases h with h | h
  · rw [show v = 0 from hi_eq.mpr h]; rfl
  · rw [show v = 1 from hi_eq.mpr h]; rfl
theorem hi_fb {x : Int32} (h1 : -128 ≤ x.toInt) (h2 : x.toInt ≤ 127) : fits .byte (.int x) = true := by
  have h := lg_i2b_small (v := x) h1 (by omega)
  rw [← h]
  exact pk_fb x
theorem hi_nn {x : Int32} (h : 0 ≤ x.toInt) : ¬ x < 0 := fun q => by
  have := hi_lt.mp q
  rw [hi_0] at this
  omega
theorem hi_or9 {x y : Int32} (h1 : 0 ≤ x.toInt) (h2 : x.toInt ≤ 511) (h3 : 0 ≤ y.toInt) (h4 : y.toInt ≤ 511) : 0 ≤ (x ||| y).toInt ∧ (x ||| y).toInt ≤ 511 := by
  obtain ⟨a, ha, rfl⟩ : ∃ a : Nat, a < 512 ∧ x = nI a := ⟨x.toInt.toNat, by omega, hi_eq.mpr (by rw [nI_toInt (by omega)]; omega)⟩
  obtain ⟨b, hb, rfl⟩ : ∃ b : Nat, b < 512 ∧ y = nI b := ⟨y.toInt.toNat, by omega, hi_eq.mpr (by rw [nI_toInt (by omega)]; omega)⟩
  have hlt : a ||| b < 2 ^ 9 := Nat.or_lt_two_pow ha hb
  have h : nI a ||| nI b = nI (a ||| b) := by
    apply Int32.toBitVec_inj.mp
    apply BitVec.eq_of_toNat_eq
    rw [pk_tn (by omega)]
    show ((nI a).toBitVec ||| (nI b).toBitVec).toNat = _
    rw [BitVec.toNat_or, pk_tn (by omega), pk_tn (by omega)]
  rw [h, nI_toInt (by omega)]
  omega
theorem hi_shl8 {x y : Int32} (hy : y.toInt = 8) (hx : 0 ≤ x.toInt ∧ x.toInt ≤ 1) : 0 ≤ (x <<< (y &&& 31)).toInt ∧ (x <<< (y &&& 31)).toInt ≤ 256 := by
  rw [show y = 8 from hi_eq.mpr hy]
  rcases (show x.toInt = 0 ∨ x.toInt = 1 by omega) with h | h
  · rw [show x = 0 from hi_eq.mpr h]; decide
  · rw [show x = 1 from hi_eq.mpr h]; decide
