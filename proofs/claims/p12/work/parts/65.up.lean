/-! FROM THE MAKING TO THE EXACT WORLD -/
def he_num (κ : Nat → Nat) (v : Value) : Int := match v with
  | .int x => x.toInt
  | .ref b => (κ b : Int)
  | _ => 0
abbrev hu_R (a b : Nat × Nat) : Prop := (a.1 = 7 ∧ b.1 = 7) ∨ (a = b ∧ (a.1 = 1 ∨ a.1 = 3 ∨ a.1 = 4 ∨ a.1 = 5)) ∨ (a.1 = 0 ∧ b.1 = 0) ∨ (a.1 = 0 ∧ b.1 = 9) ∨ (a.1 = 1 ∧ b.1 = 0) ∨ (a.1 = 2 ∧ b.1 = 9 ∧ a.2 ≤ b.2) ∨ (a.1 = 2 ∧ b.1 = 0) ∨ (a.1 = 3 ∧ b.1 = 10 ∧ a.2 = b.2) ∨ (a.1 = 5 ∧ b.1 = 11) ∨ (a.1 = 4 ∧ b.1 = 6 ∧ 320 ≤ a.2 ∧ a.2 < 333) ∨ (a.1 = 4 ∧ b.1 = 8 ∧ 300 ≤ a.2 ∧ a.2 < 312)
abbrev hu_x (b : Nat × Nat) : Prop := b.1 = 0 ∨ b.1 = 6 ∨ b.1 = 8 ∨ b.1 = 9 ∨ b.1 = 10 ∨ b.1 = 11
theorem he_up {κ : Nat → Nat} {e e' : Int} {sp sp' : Nat × Nat} {v : Value} (h : hs_ok κ e sp v) (hr : hu_R sp sp') (he : hu_x sp' → e' = he_num κ v) (h0 : sp.1 = 0 → sp'.1 = 9 → e = 0) : he_ok κ e' sp' v := by
  obtain ⟨a, b⟩ := sp
  obtain ⟨a', b'⟩ := sp'
  have hr : (a = 7 ∧ a' = 7) ∨ ((a, b) = (a', b') ∧ (a = 1 ∨ a = 3 ∨ a = 4 ∨ a = 5)) ∨ (a = 0 ∧ a' = 0) ∨ (a = 0 ∧ a' = 9) ∨ (a = 1 ∧ a' = 0) ∨ (a = 2 ∧ a' = 9 ∧ b ≤ b') ∨ (a = 2 ∧ a' = 0) ∨ (a = 3 ∧ a' = 10 ∧ b = b') ∨ (a = 5 ∧ a' = 11) ∨ (a = 4 ∧ a' = 6 ∧ 320 ≤ b ∧ b < 333) ∨ (a = 4 ∧ a' = 8 ∧ 300 ≤ b ∧ b < 312) := hr
  rcases hr with ⟨rfl, rfl⟩ | ⟨hab, hc⟩ | ⟨rfl, rfl⟩ | ⟨rfl, rfl⟩ | ⟨rfl, rfl⟩ | ⟨rfl, rfl, h1⟩ | ⟨rfl, rfl⟩ | ⟨rfl, rfl, rfl⟩ | ⟨rfl, rfl⟩ | ⟨rfl, rfl, h1, h2⟩ | ⟨rfl, rfl, h1, h2⟩
  · exact trivial
  · simp only [Prod.mk.injEq] at hab
    obtain ⟨rfl, rfl⟩ := hab
    rcases hc with rfl | rfl | rfl | rfl
    · obtain ⟨x, hx, -⟩ := (show ∃ x : Int32, v = .int x ∧ True from h)
      exact ⟨x, hx, trivial⟩
    · exact h
    · exact h
    · exact h
  · obtain ⟨x, rfl, -⟩ := (show ∃ x : Int32, v = .int x ∧ x.toInt = e from h)
    exact ⟨x, rfl, (he (Or.inl rfl)).symm⟩
  · obtain ⟨x, rfl, hx⟩ := (show ∃ x : Int32, v = .int x ∧ x.toInt = e from h)
    have h9 := h0 rfl rfl
    exact ⟨x, rfl, (he (Or.inr (Or.inr (Or.inr (Or.inl rfl))))).symm, by omega, by show x.toInt ≤ (b' : Int); omega⟩
  · obtain ⟨x, rfl, -⟩ := (show ∃ x : Int32, v = .int x ∧ True from h)
    exact ⟨x, rfl, (he (Or.inl rfl)).symm⟩
  · obtain ⟨x, rfl, hx1, hx2⟩ := (show ∃ x : Int32, v = .int x ∧ 0 ≤ x.toInt ∧ x.toInt ≤ (b : Int) from h)
    exact ⟨x, rfl, (he (Or.inr (Or.inr (Or.inr (Or.inl rfl))))).symm, hx1, by show x.toInt ≤ (b' : Int); omega⟩
  · obtain ⟨x, rfl, hx1, hx2⟩ := (show ∃ x : Int32, v = .int x ∧ 0 ≤ x.toInt ∧ x.toInt ≤ (b : Int) from h)
    exact ⟨x, rfl, (he (Or.inl rfl)).symm⟩
  · obtain ⟨x, rfl, hx1, hx2⟩ := (show ∃ x : Int32, v = .int x ∧ -1 ≤ x.toInt ∧ x.toInt ≤ (b : Int) from h)
    exact ⟨x, rfl, (he (Or.inr (Or.inr (Or.inr (Or.inr (Or.inl rfl)))))).symm, hx1, hx2⟩
  · obtain ⟨x, rfl, hx1, hx2⟩ := (show ∃ x : Int32, v = .int x ∧ -128 ≤ x.toInt ∧ x.toInt ≤ 127 from h)
    exact ⟨x, rfl, (he (Or.inr (Or.inr (Or.inr (Or.inr (Or.inr rfl)))))).symm, hx1, hx2⟩
  · obtain ⟨y, rfl, hy⟩ := (show ∃ y : Nat, v = .ref y ∧ κ y = b from h)
    have h9 : e' = (κ y : Int) := he (Or.inr (Or.inl rfl))
    exact ⟨y, b - 320, rfl, by omega, by omega, by rw [h9]; omega⟩
  · obtain ⟨y, rfl, hy⟩ := (show ∃ y : Nat, v = .ref y ∧ κ y = b from h)
    have h9 : e' = (κ y : Int) := he (Or.inr (Or.inr (Or.inl rfl)))
    exact ⟨y, b - 300, rfl, by omega, by omega, by rw [h9]; omega⟩
def hu_S : List Nat := [1, 3, 4, 5, 6, 7, 8, 10, 11, 15, 16]
def hu_A : List Nat := [12, 17, 18, 19, 20, 21, 22, 23, 24, 25, 26, 27, 28, 29, 30, 38, 39]
def hu_b (a b : Nat × Nat) : Bool := decide (hu_R a b)
def hu_c (b : Nat × Nat) : Bool := decide (hu_x b)
theorem hu_s0 : ∀ kd ∈ hu_S, ∀ k, k < 24 → k < (hk_t kd).2.2 → hu_b (hk_s kd k) (he_s kd k) = true ∧ (hk_x kd = true ∨ hu_c (he_s kd k) = false) := by decide +kernel
theorem hu_s1 (kd : Nat) (h : kd ∈ hu_S) (k : Nat) (h1 : k < 24) (h2 : k < (hk_t kd).2.2) : hu_R (hk_s kd k) (he_s kd k) ∧ (hk_x kd = true ∨ ¬ hu_x (he_s kd k)) := by
  obtain ⟨a1, a2⟩ := hu_s0 kd h k h1 h2
  exact ⟨of_decide_eq_true a1, a2.imp id (fun q => of_decide_eq_false q)⟩
theorem hu_s2 : ∀ kd ∈ hu_S, (hk_t kd).2.2 ≤ 24 := by decide +kernel
theorem hu_a1 : ∀ kd ∈ hu_A, kd < 40 ∧ (hk_l.getD kd ([], (7, 0))).1 = [] ∧ (he_l.getD kd ([], (7, 0))).1 = [] ∧ hu_b (hk_l.getD kd ([], (7, 0))).2 (he_l.getD kd ([], (7, 0))).2 = true ∧ (hk_x kd = true ∨ hu_c (he_l.getD kd ([], (7, 0))).2 = false) := by decide +kernel
theorem hu_k : ∀ kd, kd ≤ 39 → (kd ≤ 30 ∨ kd = 38 ∨ kd = 39) → kd ∈ hu_S ∨ kd ∈ hu_A ∨ (hk_t kd).2.2 = 0 := by decide +kernel
theorem hu_rel {kd k : Nat} (h : kd ≤ 30 ∨ kd = 38 ∨ kd = 39 ∨ (300 ≤ kd ∧ kd < 380 ∧ (kd < 312 ∨ 320 ≤ kd))) (hk : k < (hk_t kd).2.2) : hu_R (hk_s kd k) (he_s kd k) ∧ (hk_x kd = true ∨ ¬ hu_x (he_s kd k)) := by
  by_cases h3 : kd < 300
  · rcases hu_k kd (by omega) (by omega) with h1 | h1 | h1
    · exact hu_s1 kd h1 k (Nat.lt_of_lt_of_le hk (hu_s2 kd h1)) hk
    · obtain ⟨a1, a2, a3, a4, a5⟩ := hu_a1 kd h1
      have e1 : hk_s kd k = (hk_l.getD kd ([], (7, 0))).2 := by
        unfold hk_s
        rw [if_pos a1, a2]
        rfl
      have e2 : he_s kd k = (he_l.getD kd ([], (7, 0))).2 := by
        unfold he_s
        rw [if_pos a1, a3]
        rfl
      rw [e1, e2]
      exact ⟨of_decide_eq_true a4, a5.imp id (fun q => of_decide_eq_false q)⟩
    · rw [h1] at hk
      exact absurd hk (Nat.not_lt_zero k)
  · by_cases h4 : kd < 320
    · obtain ⟨q, rfl⟩ : ∃ q, kd = 300 + q := ⟨kd - 300, by omega⟩
      rw [hk_t300 (by omega)] at hk
      rw [hk_s300 (by omega), he_s300 (by omega)]
      refine ⟨?_, Or.inl (hk_x300 (by omega))⟩
      have hk : k < 4 := hk
      match k, hk with
      | 0, _ => exact Or.inr (Or.inr (Or.inr (Or.inr (Or.inr (Or.inr (Or.inr (Or.inr (Or.inr (Or.inl ⟨rfl, rfl, by show 320 ≤ 320 + q; omega, by show 320 + q < 333; omega⟩)))))))))
      | 1, _ => show hu_R (2, 0) (9, 3); decide
      | 2, _ => show hu_R (1, 0) (0, 0); decide
      | 3, _ => show hu_R (1, 0) (0, 0); decide
    · by_cases h5 : kd < 340
      · obtain ⟨q, rfl⟩ : ∃ q, kd = 320 + q := ⟨kd - 320, by omega⟩
        rw [hk_t320 (by omega)] at hk
        rw [hk_s320 (by omega), he_s320 (by omega)]
        have hk : k < 2 := hk
        match k, hk with
        | 0, _ => exact ⟨Or.inr (Or.inl ⟨rfl, Or.inr (Or.inr (Or.inl rfl))⟩), Or.inr (by show ¬ ((4 : Nat) = 0 ∨ (4 : Nat) = 6 ∨ (4 : Nat) = 8 ∨ (4 : Nat) = 9 ∨ (4 : Nat) = 10 ∨ (4 : Nat) = 11); decide)⟩
        | 1, _ => exact ⟨Or.inr (Or.inl ⟨rfl, Or.inr (Or.inr (Or.inl rfl))⟩), Or.inr (by show ¬ ((4 : Nat) = 0 ∨ (4 : Nat) = 6 ∨ (4 : Nat) = 8 ∨ (4 : Nat) = 9 ∨ (4 : Nat) = 10 ∨ (4 : Nat) = 11); decide)⟩
      · by_cases h6 : kd < 360
        · obtain ⟨q, rfl⟩ : ∃ q, kd = 340 + q := ⟨kd - 340, by omega⟩
          rw [hk_s340 (by omega), he_s340 (by omega)]
          refine ⟨?_, Or.inl (hk_x340 (by omega))⟩
          split
          · decide
          · decide
        · obtain ⟨q, rfl⟩ : ∃ q, kd = 360 + q := ⟨kd - 360, by omega⟩
          rw [hk_s360 (by omega), he_s360 (by omega)]
          exact ⟨by decide, Or.inl (hk_x360 (by omega))⟩
theorem he_start {κ : Nat → Nat} {B : Nat} {g : Nat → Nat → Int} {F : hp_F} (hW : hp_W κ B) (hO : hp_O κ g F) (hal : ∀ a : Nat, κ a ≤ 30 ∨ κ a = 38 ∨ κ a = 39 ∨ (300 ≤ κ a ∧ κ a < 380 ∧ (κ a < 312 ∨ 320 ≤ κ a))) (hg : ∀ kd k : Nat, (hk_s kd k).1 = 0 → (he_s kd k).1 = 9 → g kd k = 0) : ∃ g' : Nat → Nat → Int, he_O κ g' F ∧ ∀ a k : Nat, hk_x (κ a) = true → g' (κ a) k = he_num κ (F a k) := by
  have hex : ∃ ad : Nat → Nat, ∀ a, κ (ad (κ a)) = κ a := ⟨fun kd => Classical.epsilon fun a => κ a = kd, fun a => Classical.epsilon_spec (p := fun b => κ b = κ a) ⟨a, rfl⟩⟩
  obtain ⟨ad, had⟩ := hex
  have hu : ∀ a k : Nat, hk_x (κ a) = true → he_num κ (F (ad (κ a)) k) = he_num κ (F a k) := fun a k hx => by
    have e9 : ad (κ a) = a := (hW.2 a (ad (κ a)) hx (had a).symm).symm
    rw [e9]
  refine ⟨fun kd k => he_num κ (F (ad kd) k), fun a k hk => ?_, hu⟩
  obtain ⟨r1, r2⟩ := hu_rel (hal a) hk
  refine he_up (hO a k hk) r1 (fun hx => ?_) (fun q1 q2 => hg _ _ q1 q2)
  rcases r2 with r2 | r2
  · exact hu a k r2
  · exact absurd hx r2
/-- what the law keeps: both sides' rows are in order -/
def hg_L (g : Nat → Nat → Int) : Prop := hc_wf g ∧ hr_inv (hc_tab g) (fun q => g (5 + q) 0) ∧ hr_inv (hm_tab g) (fun q => g 20 q) ∧ 0 ≤ g 27 12 ∧ g 27 12 ≤ 65535
theorem he_hL {κ : Nat → Nat} {g g' : Nat → Nat → Int} {F : hp_F} {x mo : Nat} (hO : hp_O κ g F) (hg' : ∀ a k : Nat, hk_x (κ a) = true → g' (κ a) k = he_num κ (F a k)) (kx : κ x = 1) (km : κ mo = 11) (h10 : g 10 1 = 0) (h13 : g 11 13 = 0) : hg_L g' := by
  have o1 := hO x 4
  rw [kx] at o1
  obtain ⟨b10, -, k10⟩ := (show ∃ b : Nat, F x 4 = .ref b ∧ κ b = 10 from o1 (by decide))
  have o2 := hO b10 0
  have o3 := hO b10 1
  rw [k10] at o2 o3
  obtain ⟨b16, -, k16⟩ := (show ∃ b : Nat, F b10 0 = .ref b ∧ κ b = 16 from o2 (by decide))
  obtain ⟨y10, e10, f10⟩ := (show ∃ y : Int32, F b10 1 = .int y ∧ y.toInt = g 10 1 from o3 (by decide))
  have g10 : g' 10 1 = 0 := by
    have h := hg' b10 1 (by rw [k10]; rfl)
    rw [k10, e10] at h
    rw [h, ← h10, ← f10]
    rfl
  have hrow : ∀ i : Nat, i < 12 → g' 16 i = 300 + (i : Int) ∧ g' (300 + i) 0 = 320 + (i : Int) := by
    intro i hi
    have o4 := hO b16 i
    rw [k16, hk_r16 i hi] at o4
    obtain ⟨b, eb, kb⟩ := (show ∃ b : Nat, F b16 i = .ref b ∧ κ b = 300 + i from o4 hi)
    have h := hg' b16 i (by rw [k16]; rfl)
    rw [k16, eb] at h
    have h : g' 16 i = ((κ b : Nat) : Int) := h
    have o5 := hO b 0
    rw [kb, hk_t300 (by omega), hk_s300 (by omega)] at o5
    obtain ⟨c, ec, kc⟩ := (show ∃ c : Nat, F b 0 = .ref c ∧ κ c = 320 + i from o5 (by decide))
    have h2 := hg' b 0 (by rw [kb]; exact hk_x300 (by omega))
    rw [kb, ec] at h2
    have h2 : g' (300 + i) 0 = ((κ c : Nat) : Int) := h2
    exact ⟨by rw [h, kb]; omega, by rw [h2, kc]; omega⟩
  have o6 := hO x 5
  rw [kx] at o6
  obtain ⟨b3, -, k3⟩ := (show ∃ b : Nat, F x 5 = .ref b ∧ κ b = 3 from o6 (by decide))
  have o7 := hO b3 0
  rw [k3] at o7
  obtain ⟨c3, ec3, kc3⟩ := (show ∃ c : Nat, F b3 0 = .ref c ∧ κ c = 332 from o7 (by decide))
  have g3 : g' 3 0 = 332 := by
    have h := hg' b3 0 (by rw [k3]; rfl)
    rw [k3, ec3] at h
    have h : g' 3 0 = ((κ c3 : Nat) : Int) := h
    rw [h, kc3]
    rfl
  have o8 := hO mo 13
  have o9 := hO mo 15
  rw [km] at o8 o9
  obtain ⟨y13, e13, f13⟩ := (show ∃ y : Int32, F mo 13 = .int y ∧ y.toInt = g 11 13 from o8 (by decide))
  have g13 : g' 11 13 = 0 := by
    have h := hg' mo 13 (by rw [km]; rfl)
    rw [km, e13] at h
    rw [h, ← h13, ← f13]
    rfl
  obtain ⟨b27, -, k27⟩ := (show ∃ b : Nat, F mo 15 = .ref b ∧ κ b = 27 from o9 (by decide))
  have o10 := hO b27 12
  rw [k27] at o10
  obtain ⟨y27, e27, f27⟩ := (show ∃ y : Int32, F b27 12 = .int y ∧ 0 ≤ y.toInt ∧ y.toInt ≤ ((0 : Nat) : Int) from o10 (by decide))
  have g27 : g' 27 12 = y27.toInt := by
    have h := hg' b27 12 (by rw [k27]; rfl)
    rw [k27, e27] at h
    exact h
  have t1 : hc_tab g' = [] := by
    unfold hc_tab
    rw [g10]
    rfl
  have t2 : hm_tab g' = [] := by
    unfold hm_tab
    rw [g13]
    rfl
  refine ⟨⟨fun i j hi hj q => ?_, fun i j hi hj q => ?_, fun i hi => ?_, fun i hi => ?_, fun i hi => ?_, ?_, ?_, ?_⟩, ?_, ?_, by omega, by omega⟩
  · have := (hrow i hi).1
    have := (hrow j hj).1
    omega
  · have := (hrow i hi).2
    have := (hrow j hj).2
    omega
  · have := (hrow i hi).2
    omega
  · have := (hrow i hi).1
    omega
  · have := (hrow i hi).2
    omega
  · omega
  · omega
  · omega
  · rw [t1]
    exact ⟨fun r hr => absurd hr List.not_mem_nil, List.Pairwise.nil⟩
  · rw [t2]
    exact ⟨fun r hr => absurd hr List.not_mem_nil, List.Pairwise.nil⟩
theorem hg_L.cl {g u : Nat → Nat → Int} (h : hg_L g) (hs : hm_sz g) (hn : g 11 13 ≤ 12) (hM : ∀ a b : Nat, a = 11 ∨ (18 ≤ a ∧ a < 40) → u a b = g a b) (hw : hc_wf u) (hi : hr_inv (hc_tab u) (fun q => u (5 + q) 0)) : hg_L u := by
  obtain ⟨h1, h2, h3, h4, h5⟩ := h
  have e27 := hM 27 12 (by omega)
  refine ⟨hw, hi, ?_, by omega, by omega⟩
  rw [hm_tab_same hs hn (hM 11 13 (by omega)) (fun a b q => hM a b (by omega))]
  exact h3.up (fun r _ q => by rw [hM 20 _ (by omega)]; exact q)
theorem hg_L.mo {g u : Nat → Nat → Int} (h : hg_L g) (hC : ∀ a b : Nat, ¬ (a = 11 ∨ (18 ≤ a ∧ a < 40)) → u a b = g a b) (hi : hr_inv (hm_tab u) (fun q => u 20 q)) (hl : 0 ≤ u 27 12 ∧ u 27 12 ≤ 65535) : hg_L u := by
  obtain ⟨h1, h2, h3, h4, h5⟩ := h
  obtain ⟨t1, t2⟩ := hc_tab_same h1 (u := u) (fun a b q => hC a b (by unfold hc_f at q; omega))
  refine ⟨t2, ?_, hi, hl⟩
  rw [t1]
  refine h2.up (fun r hr q => ?_)
  have hr4 := h2.1 r hr
  rw [hC _ _ (by omega)]
  exact q
theorem hr_inv.port {L : List hR} {up up' : Nat → Int} {p : Int} (h : hr_inv L up) (hp : 0 ≤ p) (hu : ∀ j : Nat, j < 4 → j ≠ p.toNat → up' j = up j) : hr_inv (hr_np p L) up' := by
  refine (h.np p).up (fun r hr q => ?_)
  have h1 := (h.np p).1 r hr
  unfold hr_np at hr
  rw [List.mem_filter] at hr
  have h2 : r.1 ≠ p := of_decide_eq_true hr.2
  rw [hu r.1.toNat (by omega) (by omega)]
  exact q
