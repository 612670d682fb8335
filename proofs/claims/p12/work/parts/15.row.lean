theorem hk_t40 {i : Nat} (h : i ≤ 12) : hk_t (40 + i) = (2, 4, 12) := by
  unfold hk_t
  rw [if_neg (by omega), if_pos (by omega)]
theorem hk_t60 {i : Nat} (h : i ≤ 12) : hk_t (60 + i) = (1, 3, 2) := by
  unfold hk_t
  rw [if_neg (by omega), if_neg (by omega), if_pos (by omega)]
theorem hk_s60 {i : Nat} (h : i ≤ 12) : hk_s (60 + i) 0 = (4, 40 + i) := by
  unfold hk_s
  rw [if_neg (by omega), if_neg (by omega), if_pos (by omega), show 60 + i - 20 = 40 + i by omega]
  rfl
theorem hk_xbig {n : Nat} (h : 40 ≤ n) (h2 : n < 300) : hk_x n = false := by
  unfold hk_x
  rw [if_neg (by omega)]
  exact decide_eq_false (by omega)
theorem hk_s40 {kd j : Nat} (h1 : 40 ≤ kd) (h2 : kd < 60) : hk_s kd j = if j < kd - 40 then (4, 300 + j) else (7, 0) := by
  unfold hk_s
  rw [if_neg (by omega), if_pos h2]
theorem hk_row40 {i : Nat} (h : i < 12) : ∀ j : Nat, j ≠ i → j < (hk_t (41 + i)).2.2 → hk_s (41 + i) j = hk_s (40 + i) j ∧ (hk_s (40 + i) j).1 ≠ 0 := by
  intro j hj _
  rw [hk_s40 (by omega) (by omega), hk_s40 (by omega) (by omega)]
  by_cases h1 : j < i
  · rw [if_pos (show j < 41 + i - 40 by omega), if_pos (show j < 40 + i - 40 by omega)]; exact ⟨rfl, by show (4 : Nat) ≠ 0; decide⟩
  · rw [if_neg (show ¬ j < 41 + i - 40 by omega), if_neg (show ¬ j < 40 + i - 40 by omega)]; exact ⟨rfl, by decide⟩
theorem hk_r16 : ∀ k, k < 12 → hk_s 16 k = (4, 300 + k) := by decide +kernel
theorem hk_rowi40 {i : Nat} (h : i < 12) : hk_s (41 + i) i = (4, 300 + i) := by
  unfold hk_s
  rw [if_neg (by omega), if_pos (by omega), if_pos (by omega)]
theorem hk_row60 {i : Nat} (h : i < 12) : ∀ j : Nat, j ≠ 0 → j < (hk_t (61 + i)).2.2 → hk_s (61 + i) j = hk_s (60 + i) j ∧ (hk_s (60 + i) j).1 ≠ 0 ∧ hk_s (60 + i) j ≠ (4, 40 + i) := by
  intro j hj hl
  have hl : j < 2 := by
    rw [show 61 + i = 60 + (i + 1) by omega, hk_t60 (by omega)] at hl
    exact hl
  have hj1 : j = 1 := by omega
  subst hj1
  unfold hk_s
  rw [if_neg (by omega), if_neg (by omega), if_pos (by omega), if_neg (by omega), if_neg (by omega), if_pos (by omega)]
  exact ⟨rfl, by show (2 : Nat) ≠ 0; decide, by show ((2, 0) : Nat × Nat) ≠ _; intro h9; cases h9⟩
theorem nn_a {n i : Nat} (hi : i < 12) (h : (n = 0 ∨ n = 320 + i ∨ n = 340 + i ∨ n = 360 + i)) : n < 40 ∨ 80 ≤ n := by omega
theorem nn_b {n i : Nat} (hi : i < 12) (h : (n = 0 ∨ n = 320 + i ∨ n = 340 + i ∨ n = 360 + i)) (h3 : 300 ≤ n) : (n - 300) % 20 < i + 1 ∨ 12 ≤ (n - 300) % 20 := by omega
theorem nn_c {n i : Nat} (h : (n = 0 ∨ n = 320 + i ∨ n = 340 + i ∨ n = 360 + i)) : n ≠ 16 := by omega
theorem nn_d {n i : Nat} (hi : i < 12) (h : (n = 0 ∨ n = 320 + i ∨ n = 340 + i ∨ n = 360 + i)) : (n = 0 ∨ n = 16 ∨ (300 ≤ n ∧ n < 380 ∧ (n < 312 ∨ 320 ≤ n) ∧ (n - 300) % 20 < 12)) := by
  rcases h with h | h | h | h <;> subst h
  · exact Or.inl rfl
  · exact Or.inr (Or.inr ⟨by omega, by omega, by omega, by omega⟩)
  · exact Or.inr (Or.inr ⟨by omega, by omega, by omega, by omega⟩)
  · exact Or.inr (Or.inr ⟨by omega, by omega, by omega, by omega⟩)
theorem nn_e {i : Nat} (hi : i < 12) : ((300 + i) = 0 ∨ (300 + i) = 16 ∨ (300 ≤ (300 + i) ∧ (300 + i) < 380 ∧ ((300 + i) < 312 ∨ 320 ≤ (300 + i)) ∧ ((300 + i) - 300) % 20 < 12)) := Or.inr (Or.inr ⟨by omega, by omega, by omega, by omega⟩)
theorem nn_f {n : Nat} (h : (n = 0 ∨ n = 16 ∨ (300 ≤ n ∧ n < 380 ∧ (n < 312 ∨ 320 ≤ n) ∧ (n - 300) % 20 < 12))) : n < 40 ∨ 80 ≤ n := by omega
theorem nn_g {n : Nat} (h : (n = 0 ∨ n = 16 ∨ (300 ≤ n ∧ n < 380 ∧ (n < 312 ∨ 320 ≤ n) ∧ (n - 300) % 20 < 12))) : n ≠ 10 ∧ n ≠ 40 := by omega
theorem nn_i {a i : Nat} (h : a < i ∨ 12 ≤ a) : a < i + 1 ∨ 12 ≤ a := by omega
theorem nn_8 {n i : Nat} (hi : i < 12) (h : 300 ≤ n → (n - 300) % 20 < i ∨ 12 ≤ (n - 300) % 20) : n ≠ 300 + i ∧ n ≠ 340 + i ∧ n ≠ 360 + i := by
  refine ⟨fun q => ?_, fun q => ?_, fun q => ?_⟩
  · have := h (by omega); omega
  · have := h (by omega); omega
  · have := h (by omega); omega
theorem nn_s {kd j i : Nat} (ho : hk_ok kd) (hj : j < (hk_t kd).2.2) (hi : i ≤ 12) (h : hk_s kd j = (4, 40 + i)) : kd = 60 + i := by
  have := hk_sr ho h hj
  omega
theorem nn_t {kd j i : Nat} (ho : hk_ok kd) (hj : j < (hk_t kd).2.2) (hi : i ≤ 12) : hk_s kd j ≠ (4, 60 + i) := fun h => by
  have := hk_sr ho h hj
  omega
theorem nn_u {n i : Nat} (h : n < 40 ∨ 80 ≤ n) (hi : i ≤ 12) : n ≠ 40 + i ∧ n ≠ 60 + i ∧ n ≠ 41 + i ∧ n ≠ 61 + i := by omega
theorem nn_v {n i : Nat} (h : n < 40 ∨ 80 ≤ n) (hi : i ≤ 12) (q : n = 40 + (i + 1)) : False := by omega
section HPF
variable {dC : Nat → ClassId} {dI : Nat → Nat → Nat} {dA : Nat → ClassId} {κ : Nat → Nat} {B : Nat} {g : Nat → Nat → Int} {H0 H : Heap} {locs : List Loc}
/-- what is made is made: the kinds change, the memory stays -/
theorem hp_re {κ' : Nat → Nat} (hZ : hp_Z dC dI dA κ B g H0 H locs) (ht : ∀ a, hk_t (κ' a) = hk_t (κ a)) (hz : ∀ a, κ' a ≠ 0 → κ a ≠ 0) (hv : hp_V κ') (hok : hp_K κ') (hu : ∀ a b : Nat, hk_x (κ' a) = true → κ' a = κ' b → a = b) (hs : ∀ a k v, k < (hk_t (κ a)).2.2 → hs_ok κ (g (κ a) k) (hk_s (κ a) k) v → hs_ok κ' (g (κ' a) k) (hk_s (κ' a) k) v) : hp_Z dC dI dA κ' B g H0 H locs := by
  obtain ⟨hW, hV, hKk, hB, ⟨F, hM, hO⟩, hS⟩ := hZ
  refine ⟨⟨fun a ha => hW.1 a (hz a ha), hu⟩, hv, hok, hB, ⟨F, fun a => ?_, fun a k hk => ?_⟩, hS⟩
  · rw [ht a]; exact hM a
  · rw [ht a] at hk
    exact hs a k _ hk (hO a k hk)
theorem hp_fin12 {b h0 : Nat} (hZ : hp_Z dC dI dA κ B g H0 H locs) (kb : κ b = 40 + 12) (kh : κ h0 = 60 + 12) (hub : ∀ a, κ a = 40 + 12 → a = b) (hu : ∀ a, κ a ≠ 10) (hu16 : ∀ a, κ a ≠ 16) (hg : g 10 1 = 0) (hal : ∀ a, a ≠ h0 → κ a < 40 ∨ (κ a = 52 ∧ a = b) ∨ 80 ≤ κ a) : hp_Z dC dI dA (hp_kk (hp_kk κ b 16) h0 10) B g H0 H locs := by
  have hbh : b ≠ h0 := fun e => by rw [e, kh] at kb; omega
  obtain ⟨κ', eκ⟩ : ∃ z, z = hp_kk (hp_kk κ b 16) h0 10 := ⟨_, rfl⟩
  rw [← eκ]
  have c1 : κ' h0 = 10 := by rw [eκ]; exact hp_kk_s _ _ _
  have c2 : κ' b = 16 := by rw [eκ, hp_kk_n hbh]; exact hp_kk_s _ _ _
  have c3 : ∀ a, a ≠ h0 → a ≠ b → κ' a = κ a := fun a h1 h2 => by rw [eκ, hp_kk_n h1, hp_kk_n h2]
  have hcase : ∀ (P : Nat → Prop), P h0 → P b → (∀ a, a ≠ h0 → a ≠ b → P a) → ∀ a, P a := by
    intro P p1 p2 p3 a
    by_cases h : a = h0
    · rw [h]; exact p1
    · by_cases h' : a = b
      · rw [h']; exact p2
      · exact p3 a h h'
  have hmono : ∀ {e : Int} {sp : Nat × Nat} {w : Value}, sp ≠ (4, 52) → sp ≠ (4, 72) → hs_ok κ e sp w → hs_ok κ' e sp w := by
    intro e sp w h1 h2 h
    refine h.mono (fun h4 x hx => ?_)
    by_cases hxs : x = h0
    · rw [hxs, kh] at hx
      exact absurd (Prod.ext h4 hx.symm) h2
    · by_cases hxb : x = b
      · rw [hxb, kb] at hx
        exact absurd (Prod.ext h4 hx.symm) h1
      · rw [c3 x hxs hxb]; exact hx
  refine hp_re hZ (hcase _ (by rw [c1, kh]; rfl) (by rw [c2, kb]; rfl) (fun a h h' => by rw [c3 a h h'])) (hcase _ (fun _ => by rw [kh]; omega) (fun _ => by rw [kb]; omega) (fun a h h' => by rw [c3 a h h']; exact id)) (hcase _ (by rw [c1]; exact Or.inr (by decide)) (by rw [c2]; exact Or.inr (by decide)) (fun a h h' => by rw [c3 a h h']; exact hZ.2.1 a)) (hcase _ (by rw [c1]; unfold hk_ok; omega) (by rw [c2]; unfold hk_ok; omega) (fun a h h' => by rw [c3 a h h']; exact hZ.2.2.1 a)) ?_ ?_
  · intro a a' ha hab
    by_cases h : a = h0
    · by_cases g1 : a' = h0
      · rw [h, g1]
      · by_cases g2 : a' = b
        · rw [h, c1, g2, c2] at hab; omega
        · rw [h, c1, c3 a' g1 g2] at hab; exact absurd hab.symm (hu a')
    · by_cases h' : a = b
      · by_cases g1 : a' = h0
        · rw [h', c2, g1, c1] at hab; omega
        · by_cases g2 : a' = b
          · rw [h', g2]
          · rw [h', c2, c3 a' g1 g2] at hab; exact absurd hab.symm (hu16 a')
      · rw [c3 a h h'] at ha hab
        by_cases g1 : a' = h0
        · rw [g1, c1] at hab; exact absurd hab (hu a)
        · by_cases g2 : a' = b
          · rw [g2, c2] at hab; exact absurd hab (hu16 a)
          · rw [c3 a' g1 g2] at hab
            exact hZ.1.2 a a' ha hab
  · intro a k v hk h
    by_cases ha : a = h0
    · subst ha
      rw [kh] at hk h
      rw [c1]
      have hk : k < 2 := hk
      match k, hk, h with
      | 0, _, h =>
        obtain ⟨x, h1, h2⟩ := (show ∃ x : Nat, v = .ref x ∧ κ x = 52 from h)
        exact ⟨x, h1, by rw [hub x h2]; exact c2⟩
      | 1, _, h =>
        obtain ⟨x, h1, h2, h3⟩ := (show ∃ x : Int32, v = .int x ∧ 0 ≤ x.toInt ∧ x.toInt ≤ ((0 : Nat) : Int) from h)
        exact ⟨x, h1, (show x.toInt = g 10 1 by rw [hg]; omega)⟩
    · by_cases hab : a = b
      · subst hab
        rw [kb] at hk h
        rw [c2]
        have hk : k < 12 := hk
        have h9 : hk_s (40 + 12) k = (4, 300 + k) := by
          unfold hk_s
          rw [if_neg (by omega), if_pos (by omega), if_pos (by omega)]
        rw [h9] at h
        rw [hk_r16 k hk]
        exact hmono (sp := (4, 300 + k)) (fun h8 => by simp only [Prod.mk.injEq] at h8; omega) (fun h8 => by simp only [Prod.mk.injEq] at h8; omega) (show hs_ok κ (g 16 k) (4, 300 + k) v from h)
      · rw [c3 a ha hab]
        refine hmono (fun h9 => ?_) (fun h9 => ?_) h
        · have h5 := hk_sr (hZ.2.2.1 a) h9 hk
          have := hal a ha
          omega
        · have h5 := hk_sr (hZ.2.2.1 a) h9 hk
          omega
end HPF
