/-! MAKING: kinds of what is being made are changed as its fields are set -/
def hp_V (κ : Nat → Nat) : Prop := ∀ a : Nat, κ a = 0 ∨ (hk_t (κ a)).1 ≠ 0
def hp_kk (κ : Nat → Nat) (b kd : Nat) : Nat → Nat := fun a => if a = b then kd else κ a
theorem hp_kk_s (κ : Nat → Nat) (b kd : Nat) : hp_kk κ b kd b = kd := if_pos rfl
theorem hp_kk_n {κ : Nat → Nat} {a b kd : Nat} (h : a ≠ b) : hp_kk κ b kd a = κ a := if_neg h
theorem hs_ok.mono {κ κ' : Nat → Nat} {e : Int} {sp : Nat × Nat} {v : Value} (h : hs_ok κ e sp v) (hk : sp.1 = 4 → ∀ b, κ b = sp.2 → κ' b = sp.2) : hs_ok κ' e sp v := by
  obtain ⟨a, t⟩ := sp
  match a, h, hk with
  | 4, h, hk => obtain ⟨b, h1, h2⟩ := h; exact ⟨b, h1, hk rfl b h2⟩
  | 7, _, _ => exact trivial
  | 0, h, _ => exact h
  | 1, h, _ => exact h
  | 2, h, _ => exact h
  | 3, h, _ => exact h
  | 5, h, _ => exact h
  | 6, h, _ => exact h
  | n + 8, h, _ => exact h
theorem hk_getD {l : List (Nat × Nat)} {k : Nat} {d : Nat × Nat} : l.getD k d ∈ l ∨ l.getD k d = d := by
  rw [List.getD_eq_getElem?_getD]
  cases h : l[k]? with
  | none => exact Or.inr rfl
  | some x => exact Or.inl (List.mem_of_getElem? h)
def hk_rg (t : Nat) : Bool := (decide (0 < t) && decide (t < 31)) || t == 38 || t == 39 || (decide (300 ≤ t) && decide (t < 380))
theorem hk_rg_p {t : Nat} (h : hk_rg t = true) : ((0 < t ∧ t < 31) ∨ t = 38 ∨ t = 39 ∨ (300 ≤ t ∧ t < 380)) := by
  unfold hk_rg at h
  simp only [Bool.or_eq_true, Bool.and_eq_true, decide_eq_true_eq, beq_iff_eq] at h
  omega
theorem hk_sr0 : ∀ kd, kd < 40 → (∀ sp ∈ (hk_l.getD kd ([], (7, 0))).1, sp.1 = 4 → hk_rg sp.2 = true) ∧ ((hk_l.getD kd ([], (7, 0))).2.1 = 4 → hk_rg (hk_l.getD kd ([], (7, 0))).2.2 = true) := by decide +kernel
def hk_ok (kd : Nat) : Prop := kd < 40 ∨ (40 ≤ kd ∧ kd < 53) ∨ (60 ≤ kd ∧ kd < 73) ∨ (80 ≤ kd ∧ kd < 85) ∨ (100 ≤ kd ∧ kd < 107) ∨ (110 ≤ kd ∧ kd < 115) ∨ (200 ≤ kd ∧ kd < 216) ∨ (300 ≤ kd ∧ kd < 400)
theorem hk_Bs_r0 : ∀ n, n < 7 → ∀ sp ∈ hk_Bs n 0, sp.1 = 4 → hk_rg sp.2 = true ∨ sp.2 = 80 := by decide +kernel
theorem hk_Bs_r6 : ∀ i, i < 5 → ∀ sp ∈ hk_Bs 6 i, sp.1 = 4 → hk_rg sp.2 = true ∨ sp.2 = 80 + i := by decide +kernel
theorem hk_Bs_r2 : ∀ n, n < 3 → ∀ sp ∈ hk_Bs n 0, sp.1 = 4 → hk_rg sp.2 = true := by decide +kernel
theorem hk_Ms_r : ∀ n, n < 16 → ∀ sp ∈ hk_Ms n, sp.1 = 4 → hk_rg sp.2 = true := by decide +kernel
theorem hk_fr {kd k t : Nat} (h1 : 300 ≤ kd) (h2 : kd < 400) (h : hk_f kd k = (4, t)) : 300 ≤ t ∧ t < 380 := by
  unfold hk_f at h
  split at h
  · rcases hk_getD (l := [(4, kd + 20), (2, 0), (1, 0), (1, 0)]) (k := k) (d := (7, 0)) with h3 | h3
    · rw [h] at h3
      simp only [List.mem_cons, Prod.mk.injEq, List.not_mem_nil, or_false] at h3
      omega
    · rw [h] at h3
      simp only [Prod.mk.injEq] at h3
      omega
  · split at h
    · rcases hk_getD (l := [(4, kd + 20), (4, kd + 40)]) (k := k) (d := (7, 0)) with h3 | h3
      · rw [h] at h3
        simp only [List.mem_cons, Prod.mk.injEq, List.not_mem_nil, or_false] at h3
        omega
      · rw [h] at h3
        simp only [Prod.mk.injEq] at h3
        omega
    · split at h
      · split at h
        · simp only [Prod.mk.injEq] at h
          omega
        · simp only [Prod.mk.injEq] at h
          omega
      · split at h
        · simp only [Prod.mk.injEq] at h
          omega
        · rcases hk_getD (l := [(4, kd - 40), (7, 0)]) (k := k) (d := (7, 0)) with h3 | h3
          · rw [h] at h3
            simp only [List.mem_cons, Prod.mk.injEq, List.not_mem_nil, or_false] at h3
            omega
          · rw [h] at h3
            simp only [Prod.mk.injEq] at h3
            omega
/-- which kinds a slot of a kind may name -/
theorem hk_sr {kd k t : Nat} (ho : hk_ok kd) (h : hk_s kd k = (4, t)) (hk : k < (hk_t kd).2.2) : ((0 < t ∧ t < 31) ∨ t = 38 ∨ t = 39 ∨ (300 ≤ t ∧ t < 380)) ∨ (60 ≤ kd ∧ kd < 73 ∧ t = kd - 20) ∨ (103 ≤ kd ∧ kd < 107 ∧ t = 80) ∨ (110 ≤ kd ∧ kd < 115 ∧ t = kd - 30) := by
  rcases ho with ho | ho | ho | ho | ho | ho | ho | ho
  · unfold hk_s at h
    rw [if_pos ho] at h
    obtain ⟨h1, h2⟩ := hk_sr0 kd ho
    rcases hk_getD (l := (hk_l.getD kd ([], (7, 0))).1) (k := k) (d := (hk_l.getD kd ([], (7, 0))).2) with h3 | h3
    · rw [h] at h3
      exact Or.inl (hk_rg_p (h1 _ h3 rfl))
    · rw [h] at h3
      rw [← h3] at h2
      exact Or.inl (hk_rg_p (h2 rfl))
  · unfold hk_s at h
    rw [if_neg (by omega), if_pos (by omega)] at h
    split at h
    · simp only [Prod.mk.injEq] at h
      omega
    · simp only [Prod.mk.injEq] at h
      omega
  · unfold hk_s at h
    rw [if_neg (by omega), if_neg (by omega), if_pos (by omega)] at h
    rcases hk_getD (l := [(4, kd - 20), (2, 0)]) (k := k) (d := (7, 0)) with h3 | h3
    · rw [h] at h3
      simp only [List.mem_cons, Prod.mk.injEq, List.not_mem_nil, or_false] at h3
      omega
    · rw [h] at h3
      simp only [Prod.mk.injEq] at h3
      omega
  · have h4 : k < 4 := by
      unfold hk_t at hk
      rw [if_neg (by omega), if_neg (by omega), if_neg (by omega), if_pos (by omega)] at hk
      exact hk
    unfold hk_s at h
    rw [if_neg (by omega), if_neg (by omega), if_neg (by omega), if_pos (by omega)] at h
    split at h
    · simp only [Prod.mk.injEq] at h
      omega
    · simp only [Prod.mk.injEq] at h
      omega
  · unfold hk_s at h
    rw [if_neg (by omega), if_neg (by omega), if_neg (by omega), if_neg (by omega), if_pos (by omega)] at h
    rcases hk_getD (l := hk_Bs (kd - 100) 0) (k := k) (d := (7, 0)) with h3 | h3
    · rw [h] at h3
      by_cases h9 : 103 ≤ kd
      · rcases hk_Bs_r0 (kd - 100) (by omega) _ h3 rfl with h5 | h5
        · exact Or.inl (hk_rg_p h5)
        · exact Or.inr (Or.inr (Or.inl ⟨h9, by omega, h5⟩))
      · exact Or.inl (hk_rg_p (hk_Bs_r2 (kd - 100) (by omega) _ h3 rfl))
    · rw [h] at h3
      simp only [Prod.mk.injEq] at h3
      omega
  · unfold hk_s at h
    rw [if_neg (by omega), if_neg (by omega), if_neg (by omega), if_neg (by omega), if_neg (by omega), if_pos (by omega)] at h
    rcases hk_getD (l := hk_Bs 6 (kd - 110)) (k := k) (d := (7, 0)) with h3 | h3
    · rw [h] at h3
      rcases hk_Bs_r6 (kd - 110) (by omega) _ h3 rfl with h5 | h5
      · exact Or.inl (hk_rg_p h5)
      · have h5 : t = 80 + (kd - 110) := h5
        exact Or.inr (Or.inr (Or.inr ⟨by omega, by omega, by omega⟩))
    · rw [h] at h3
      simp only [Prod.mk.injEq] at h3
      omega
  · unfold hk_s at h
    rw [if_neg (by omega), if_neg (by omega), if_neg (by omega), if_neg (by omega), if_neg (by omega), if_neg (by omega), if_pos (by omega)] at h
    rcases hk_getD (l := hk_Ms (kd - 200)) (k := k) (d := (7, 0)) with h3 | h3
    · rw [h] at h3
      exact Or.inl (hk_rg_p (hk_Ms_r (kd - 200) (by omega) _ h3 rfl))
    · rw [h] at h3
      simp only [Prod.mk.injEq] at h3
      omega
  · rw [hk_sF ho.1] at h
    have := hk_fr ho.1 ho.2 h
    omega
/-- every kind in the world is one of ours -/
def hp_K (κ : Nat → Nat) : Prop := ∀ a : Nat, hk_ok (κ a)
theorem hp_lt {dC : Nat → ClassId} {dI : Nat → Nat → Nat} {dA : Nat → ClassId} {κ : Nat → Nat} {F : hp_F} {H : Heap} {a : Nat} (hV : hp_V κ) (hM : hp_M dC dI dA κ F H) (h : κ a ≠ 0) : a < H.size := by
  have h1 := hM a
  rcases hV a with h0 | h0
  · exact absurd h0 h
  · generalize hk_t (κ a) = q at h1 h0
    obtain ⟨x, y, z⟩ := q
    match x, h0, h1 with
    | 0, h0, _ => exact absurd rfl h0
    | 1, _, h1 => obtain ⟨cell, h2, -⟩ := h1; exact (Array.getElem?_eq_some_iff.mp h2).1
    | n + 2, _, h1 => exact (Array.getElem?_eq_some_iff.mp h1).1
/-- a making's world: kinds, what is unique, what is there -/
def hp_Z (dC : Nat → ClassId) (dI : Nat → Nat → Nat) (dA : Nat → ClassId) (κ : Nat → Nat) (B : Nat) (g : Nat → Nat → Int) (H0 H : Heap) (locs : List Loc) : Prop := hp_W κ B ∧ hp_V κ ∧ hp_K κ ∧ B ≤ H.size ∧ hp_J dC dI dA κ B g H0 H locs
section HPM
variable {dC : Nat → ClassId} {dI : Nat → Nat → Nat} {dA : Nat → ClassId} {κ : Nat → Nat} {B : Nat} {g : Nat → Nat → Int} {H0 H H1 : Heap} {locs : List Loc}
theorem hp_grow {kd : Nat} (hZ : hp_Z dC dI dA κ B g H0 H locs) (V : Nat → Value) (o1 : ∀ q : Nat, q < H.size → H1[q]? = H[q]?) (z1 : H1.size = H.size + 1) (hat : hp_at dC dI dA (hk_t kd) V H.size H1) (hd : ∀ (κ' : Nat → Nat) (k : Nat), k < (hk_t kd).2.2 → hs_ok κ' (g kd k) (hk_s kd k) (V k)) (hkt : (hk_t kd).1 ≠ 0) (hok : hk_ok kd) (hx1 : hk_x kd = true → ∀ a, κ a ≠ kd) : κ H.size = 0 ∧ hp_Z dC dI dA (hp_kk κ H.size kd) B g H0 H1 locs := by
  obtain ⟨hW, hV, hKk, hB, ⟨F, hM, hO⟩, hS⟩ := hZ
  have h0 : κ H.size = 0 := Classical.byContradiction fun h => Nat.lt_irrefl _ (hp_lt hV hM h)
  refine ⟨h0, ⟨fun a ha => ?_, fun a b ha hab => ?_⟩, fun a => ?_, fun a => ?_, by omega, ⟨fun a => if a = H.size then V else F a, fun a => ?_, fun a k hk => ?_⟩, Nat.le_trans hS.1 (by omega), fun q h1 h2 => ?_, hS.2.2⟩
  · by_cases h : a = H.size
    · rw [h]; exact hB
    · rw [hp_kk_n h] at ha
      exact hW.1 a ha
  · by_cases h : a = H.size
    · by_cases h' : b = H.size
      · rw [h, h']
      · rw [h, hp_kk_s, hp_kk_n h'] at hab
        rw [h, hp_kk_s] at ha
        exact absurd hab.symm (hx1 ha b)
    · by_cases h' : b = H.size
      · rw [hp_kk_n h, h', hp_kk_s] at hab
        rw [hp_kk_n h, hab] at ha
        exact absurd hab (hx1 ha a)
      · rw [hp_kk_n h, hp_kk_n h'] at hab
        rw [hp_kk_n h] at ha
        exact hW.2 a b ha hab
  · by_cases h : a = H.size
    · rw [h, hp_kk_s]; exact Or.inr hkt
    · rw [hp_kk_n h]; exact hV a
  · by_cases h : a = H.size
    · rw [h, hp_kk_s]; exact hok
    · rw [hp_kk_n h]; exact hKk a
  · dsimp only
    by_cases h : a = H.size
    · rw [if_pos h, h, hp_kk_s]; exact hat
    · rw [if_neg h, hp_kk_n h]
      by_cases hz : κ a = 0
      · rw [hz]
        exact trivial
      · exact (hM a).kept (o1 a (hp_lt hV hM hz))
  · dsimp only
    by_cases h : a = H.size
    · rw [h, hp_kk_s] at hk
      rw [if_pos h, h, hp_kk_s]
      exact hd _ k hk
    · rw [hp_kk_n h] at hk
      rw [if_neg h, hp_kk_n h]
      refine (hO a k hk).mono (fun h4 b hb => ?_)
      by_cases hbs : b = H.size
      · rw [hbs, h0] at hb
        have h5 := hk_sr (hKk a) (t := (hk_s (κ a) k).2) (by rw [← h4]) hk
        omega
      · rw [hp_kk_n hbs]; exact hb
  · rw [o1 q (Nat.lt_of_lt_of_le h1 hS.1)]
    exact hS.2.1 q h1 h2
/-- a field is set, and what is made goes on to its next kind -/
theorem hp_step {F : hp_F} {h0 k k1 k2 : Nat} {v : Value} (hW : hp_W κ B) (hV : hp_V κ) (hKk : hp_K κ) (hB : B ≤ H.size) (hM : hp_M dC dI dA κ (hp_u F h0 k v) H) (hO : hp_O κ g F) (hS : va_S (hp_A B) H0 H locs) (k0 : κ h0 = k1) (ht : hk_t k2 = hk_t k1) (hok : hk_ok k2) (hkt : (hk_t k2).1 ≠ 0)
    (hnr : ∀ a j : Nat, j < (hk_t (κ a)).2.2 → a ≠ h0 → hk_s (κ a) j ≠ (4, k1)) (hnr0 : ∀ j : Nat, j < (hk_t k2).2.2 → hk_s k2 j ≠ (4, k1)) (hv : hs_ok κ (g k2 k) (hk_s k2 k) v) (hsp : ∀ j : Nat, j ≠ k → j < (hk_t k1).2.2 → ∀ w, hs_ok κ (g k1 j) (hk_s k1 j) w → hs_ok κ (g k2 j) (hk_s k2 j) w) (hx1 : hk_x k2 = true → ∀ a, κ a ≠ k2) : hp_Z dC dI dA (hp_kk κ h0 k2) B g H0 H locs := by
  have h0n : κ h0 ≠ 0 := fun h => by
    rw [k0] at h
    rw [ht, h] at hkt
    exact hkt rfl
  have hmono : ∀ {e : Int} {sp : Nat × Nat} {w : Value}, sp ≠ (4, k1) → hs_ok κ e sp w → hs_ok (hp_kk κ h0 k2) e sp w := by
    intro e sp w hne h
    refine h.mono (fun h4 b hb => ?_)
    by_cases hbs : b = h0
    · rw [hbs, k0] at hb
      exact absurd (Prod.ext h4 hb.symm) hne
    · rw [hp_kk_n hbs]; exact hb
  refine ⟨⟨fun a ha => ?_, fun a b ha hab => ?_⟩, fun a => ?_, fun a => ?_, hB, ⟨hp_u F h0 k v, fun a => ?_, fun a j hj => ?_⟩, hS⟩
  · by_cases h : a = h0
    · rw [h]; exact hW.1 h0 h0n
    · rw [hp_kk_n h] at ha
      exact hW.1 a ha
  · by_cases h : a = h0
    · by_cases h' : b = h0
      · rw [h, h']
      · rw [h, hp_kk_s, hp_kk_n h'] at hab
        rw [h, hp_kk_s] at ha
        exact absurd hab.symm (hx1 ha b)
    · by_cases h' : b = h0
      · rw [hp_kk_n h, h', hp_kk_s] at hab
        rw [hp_kk_n h, hab] at ha
        exact absurd hab (hx1 ha a)
      · rw [hp_kk_n h, hp_kk_n h'] at hab
        rw [hp_kk_n h] at ha
        exact hW.2 a b ha hab
  · by_cases h : a = h0
    · rw [h, hp_kk_s]; exact Or.inr hkt
    · rw [hp_kk_n h]; exact hV a
  · by_cases h : a = h0
    · rw [h, hp_kk_s]; exact hok
    · rw [hp_kk_n h]; exact hKk a
  · by_cases h : a = h0
    · have h9 := hM h0
      rw [k0, ← ht] at h9
      rw [h, hp_kk_s]
      exact h9
    · rw [hp_kk_n h]
      exact hM a
  · by_cases h : a = h0
    · subst h
      rw [hp_kk_s] at hj ⊢
      by_cases hjk : j = k
      · subst hjk
        refine hmono (hnr0 j hj) ?_
        unfold hp_u
        rw [if_pos rfl]
        unfold updV
        rw [if_pos rfl]
        exact hv
      · refine hmono (hnr0 j hj) ?_
        unfold hp_u
        rw [if_pos rfl]
        unfold updV
        rw [if_neg hjk]
        have h9 := hO a j
        rw [k0] at h9
        rw [ht] at hj
        exact hsp j hjk hj _ (h9 hj)
    · rw [hp_kk_n h] at hj ⊢
      refine hmono (hnr a j hj h) ?_
      unfold hp_u
      rw [if_neg h]
      exact hO a j hj
end HPM
