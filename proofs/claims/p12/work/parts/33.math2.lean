/-! THE MODEL'S ROWS -/
theorem hm_con_eq {g u : Nat → Nat → Int} {i j : Nat} (h1 : ∀ t : Nat, t < 9 → u 30 (9 * i + t) = g 30 (9 * j + t)) (h2 : ∀ k : Nat, k < 540 → u 29 (540 * i + k) = g 29 (540 * j + k)) (hb : ∀ t : Nat, t < 9 → u 30 (9 * i + t) ≤ 60) : hm_con u i = hm_con g j := by
  refine hc_mk_eq h1 (fun t k ht hk => ?_)
  have h3 := hb t ht
  have h4 := h2 (60 * t + k) (by omega)
  rw [show (9 * i + t) * 60 + k = 540 * i + (60 * t + k) by omega, show (9 * j + t) * 60 + k = 540 * j + (60 * t + k) by omega]
  exact h4
def hm_mvp (g u : Nat → Nat → Int) (f t : Nat) (ns nb : Int) : Prop := u 26 t = g 26 f ∧ u 27 t = g 27 f ∧ u 28 t = g 28 f ∧ (∀ k : Nat, (k : Int) < ns → u 30 (9 * t + k) = g 30 (9 * f + k)) ∧ ∀ k : Nat, (k : Int) < nb → u 29 (540 * t + k) = g 29 (540 * f + k)
theorem hm_mvp.sz {g u u1 : Nat → Nat → Int} {f t j : Nat} {n nb : Int} (h : hm_mvp g u f t n nb) (h0 : 0 ≤ n) (hj : (j : Int) = 9 * (t : Int) + n) (hx : u1 30 j = g 30 (9 * f + n.toNat)) (hn : ∀ a b : Nat, ¬ (a = 30 ∧ b = j) → u1 a b = u a b) : hm_mvp g u1 f t (n + 1) nb := by
  obtain ⟨m1, m2, m3, m4, m5⟩ := h
  refine ⟨by rw [hn 26 t (by omega)]; exact m1, by rw [hn 27 t (by omega)]; exact m2, by rw [hn 28 t (by omega)]; exact m3, fun k hk => ?_, fun k hk => by rw [hn 29 _ (by omega)]; exact m5 k hk⟩
  by_cases h9 : (k : Int) < n
  · rw [hn 30 (9 * t + k) (by omega)]; exact m4 k h9
  · rw [show 9 * t + k = j by omega, hx, show n.toNat = k by omega]
theorem hm_mvp.by {g u u1 : Nat → Nat → Int} {f t j : Nat} {ns n : Int} (h : hm_mvp g u f t ns n) (h0 : 0 ≤ n) (hj : (j : Int) = 540 * (t : Int) + n) (hx : u1 29 j = g 29 (540 * f + n.toNat)) (hn : ∀ a b : Nat, ¬ (a = 29 ∧ b = j) → u1 a b = u a b) : hm_mvp g u1 f t ns (n + 1) := by
  obtain ⟨m1, m2, m3, m4, m5⟩ := h
  refine ⟨by rw [hn 26 t (by omega)]; exact m1, by rw [hn 27 t (by omega)]; exact m2, by rw [hn 28 t (by omega)]; exact m3, fun k hk => by rw [hn 30 _ (by omega)]; exact m4 k hk, fun k hk => ?_⟩
  by_cases h9 : (k : Int) < n
  · rw [hn 29 (540 * t + k) (by omega)]; exact m5 k h9
  · rw [show 540 * t + k = j by omega, hx, show n.toNat = k by omega]
theorem hm_mvp.row {g u : Nat → Nat → Int} {f t : Nat} (h : hm_mvp g u f t 9 540) (hb : ∀ k : Nat, k < 9 → g 30 (9 * f + k) ≤ 60) : hm_row u t = hm_row g f := by
  obtain ⟨m1, m2, m3, m4, m5⟩ := h
  unfold hm_row
  rw [m1, m2, m3, hm_con_eq (fun k hk => m4 k (by omega)) (fun k hk => m5 k (by omega)) (fun k hk => by rw [m4 k (by omega)]; exact hb k hk)]
/-- the sizes are sizes -/
def hm_sz (g : Nat → Nat → Int) : Prop := ∀ k : Nat, k < 117 → g 30 k ≤ 60
theorem hm_row_ne {g u : Nat → Nat → Int} {i : Nat} (hs : hm_sz g) (hi : i < 13) (h6 : ∀ a : Nat, 26 ≤ a → a ≤ 28 → u a i = g a i) (h1 : ∀ k : Nat, k < 9 → u 30 (9 * i + k) = g 30 (9 * i + k)) (h2 : ∀ k : Nat, k < 540 → u 29 (540 * i + k) = g 29 (540 * i + k)) : hm_row u i = hm_row g i := by
  unfold hm_row
  rw [h6 26 (by decide) (by decide), h6 27 (by decide) (by decide), h6 28 (by decide) (by decide), hm_con_eq h1 h2 (fun k hk => by rw [h1 k hk]; exact hs _ (by omega))]
theorem hm_tab_same {g u : Nat → Nat → Int} (hs : hm_sz g) (hn : g 11 13 ≤ 12) (h0 : u 11 13 = g 11 13) (h : ∀ a b : Nat, (26 ≤ a ∧ a ≤ 28 ∧ b < 12) ∨ (a = 30 ∧ b < 108) ∨ (a = 29 ∧ b < 6480) → u a b = g a b) : hm_tab u = hm_tab g := by
  refine hm_tab_eq (by rw [hm_tab_len, h0]) (fun i hi => ?_)
  rw [hm_tab_len] at hi
  rw [hm_tab_get]
  exact (hm_row_ne hs (by omega) (fun a h1 h2 => h a i (by omega)) (fun k hk => h 30 _ (by omega)) (fun k hk => h 29 _ (by omega))).symm
theorem hm_erase {g u : Nat → Nat → Int} {i : Nat} (hi : (i : Int) < g 11 13) (h0 : u 11 13 = g 11 13 - 1) (h : ∀ k : Nat, (k : Int) < g 11 13 - 1 → hm_row u k = if k < i then hm_row g k else hm_row g (k + 1)) : hm_tab u = (hm_tab g).eraseIdx i := by
  have hlen : ((hm_tab g).eraseIdx i).length = (g 11 13).toNat - 1 := by rw [List.length_eraseIdx_of_lt (by rw [hm_tab_len]; omega), hm_tab_len]
  refine hm_tab_eq (by rw [hlen, h0]; omega) (fun k hk => ?_)
  rw [hlen] at hk
  rw [List.getElem_eraseIdx, h k (by omega)]
  by_cases hki : k < i
  · rw [dif_pos hki, if_pos hki, hm_tab_get]
  · rw [dif_neg hki, if_neg hki, hm_tab_get]
theorem hm_set {g u : Nat → Nat → Int} {i : Nat} {r : hR} (h0 : u 11 13 = g 11 13) (hr : hm_row u i = r) (h : ∀ k : Nat, (k : Int) < g 11 13 → k ≠ i → hm_row u k = hm_row g k) : hm_tab u = (hm_tab g).set i r := by
  refine hm_tab_eq (by rw [List.length_set, hm_tab_len, h0]) (fun k hk => ?_)
  rw [List.length_set, hm_tab_len] at hk
  rw [List.getElem_set]
  by_cases hki : i = k
  · subst hki
    rw [if_pos rfl, hr]
  · rw [if_neg hki, hm_tab_get, h k (by omega) (fun q => hki q.symm)]
theorem hm_app {g u : Nat → Nat → Int} {r : hR} (hn : 0 ≤ g 11 13) (h0 : u 11 13 = g 11 13 + 1) (hr : hm_row u (g 11 13).toNat = r) (h : ∀ k : Nat, (k : Int) < g 11 13 → hm_row u k = hm_row g k) : hm_tab u = hm_tab g ++ [r] := by
  refine hm_tab_eq (by rw [List.length_append, hm_tab_len, h0, List.length_singleton]; omega) (fun k hk => ?_)
  rw [List.length_append, hm_tab_len, List.length_singleton] at hk
  by_cases hki : k < (g 11 13).toNat
  · rw [List.getElem_append_left (by rw [hm_tab_len]; exact hki), hm_tab_get, h k (by omega)]
  · have hke : k = (g 11 13).toNat := by omega
    subst hke
    rw [List.getElem_append_right (by rw [hm_tab_len]; omega), hr]
    simp [hm_tab_len]
/-- two rows of the model that are alike -/
def hm_smt (g : Nat → Nat → Int) (a b t : Nat) : Prop := g 30 (9 * a + t) = g 30 (9 * b + t) ∧ ∀ k : Nat, (k : Int) < g 30 (9 * a + t) → g 29 ((9 * a + t) * 60 + k) = g 29 ((9 * b + t) * 60 + k)
def hm_sp (g : Nat → Nat → Int) (a b t : Nat) : Prop := g 26 a = g 26 b ∧ ∀ t' : Nat, 1 ≤ t' → t' < t → hm_smt g a b t'
def hm_al (g : Nat → Nat → Int) (a b : Nat) : Prop := (hm_row g a).1 = (hm_row g b).1 ∧ hc_same (hm_row g a).2.2.2 (hm_row g b).2.2.2
theorem hm_same_t {g : Nat → Nat → Int} {a b t : Nat} (ht : t < 9) : ((hm_con g a).1 t = (hm_con g b).1 t ∧ ∀ k : Nat, (hm_con g a).2 t k = (hm_con g b).2 t k) ↔ hm_smt g a b t := by
  unfold hm_con hc_mk hm_smt
  dsimp only
  rw [if_pos ht, if_pos ht]
  constructor
  · intro h
    obtain ⟨h1, h2⟩ := h
    refine ⟨h1, fun k hk => ?_⟩
    have h := h2 k
    rw [if_pos ⟨ht, hk⟩, if_pos ⟨ht, by rw [← h1]; exact hk⟩] at h
    exact h
  · intro h
    obtain ⟨h1, h2⟩ := h
    refine ⟨h1, fun k => ?_⟩
    by_cases hk : (k : Int) < g 30 (9 * a + t)
    · rw [if_pos ⟨ht, hk⟩, if_pos ⟨ht, by rw [← h1]; exact hk⟩]
      exact h2 k hk
    · rw [if_neg (fun q => hk q.2), if_neg (fun q => hk (by rw [h1]; exact q.2))]
theorem hm_al_iff {g : Nat → Nat → Int} {a b : Nat} : hm_al g a b ↔ hm_sp g a b 3 := by
  constructor
  · intro h
    refine ⟨h.1, fun t h1 h2 => ?_⟩
    rcases (show t = 1 ∨ t = 2 by omega) with h3 | h3
    · rw [h3]; exact (hm_same_t (by decide)).mp h.2.1
    · rw [h3]; exact (hm_same_t (by decide)).mp h.2.2
  · intro h
    exact ⟨h.1, (hm_same_t (by decide)).mpr (h.2 1 (by decide) (by decide)), (hm_same_t (by decide)).mpr (h.2 2 (by decide) (by decide))⟩
theorem hm_sp_succ {g : Nat → Nat → Int} {a b t : Nat} (ht : 1 ≤ t) : hm_sp g a b (t + 1) ↔ hm_sp g a b t ∧ hm_smt g a b t := by
  constructor
  · intro h
    exact ⟨⟨h.1, fun t' h1 h2 => h.2 t' h1 (by omega)⟩, h.2 t ht (by omega)⟩
  · intro h
    refine ⟨h.1.1, fun t' h1 h2 => ?_⟩
    by_cases h3 : t' = t
    · rw [h3]; exact h.2
    · exact h.1.2 t' h1 (by omega)
theorem hm_al_m {g : Nat → Nat → Int} {p : Int} {k : Nat} (hp : g 26 12 = p) (hk : k < (hm_tab g).length) : hr_m p (hm_con g 12) (hm_tab g)[k] ↔ hm_al g k 12 := by
  rw [hm_tab_get]
  unfold hr_m hm_al
  rw [show (hm_row g 12).1 = p from hp]
  exact Iff.rfl
theorem hm_ln1 {g0 gt g1 u : Nat → Nat → Int} {p : Int} {n : Nat} (hT : hm_tab gt = hm_tab g0) (hs : hm_sz gt) (hp12 : gt 26 12 = p) (hn0 : (n : Int) < gt 11 13) (hn : gt 11 13 ≤ 12) (hal : hm_al gt n 12) (h1 : g1 28 12 = (gt 28 n + 1).bmod (2 ^ 32)) (P1 : ∀ a b : Nat, ¬ (a = 28 ∧ b = 12) → g1 a b = gt a b) (hm : hm_mvp g1 u 12 n 9 540) (P2 : ∀ a b : Nat, ¬ ((26 ≤ a ∧ a ≤ 28 ∧ b = n) ∨ (a = 30 ∧ 9 * n ≤ b ∧ b < 9 * n + 9) ∨ (a = 29 ∧ 540 * n ≤ b ∧ b < 540 * n + 540)) → u a b = g1 a b) (hh0 : gt 27 12 ≠ 0) : hr_LN (hm_tab g0) (hm_tab u) p (hm_con gt 12) (gt 27 12) := by
  rw [← hT]
  have hl : n < (hm_tab gt).length := by rw [hm_tab_len]; omega
  refine Or.inr ⟨hh0, Or.inl ⟨n, hl, (hm_al_m hp12 hl).mpr hal, ?_⟩⟩
  rw [hm_tab_get]
  refine hm_set (by rw [P2 _ _ (by omega), P1 _ _ (by omega)]) ?_ (fun k hk hkn => ?_)
  · rw [hm.row (fun k hk => by rw [P1 _ _ (by omega)]; exact hs _ (by omega))]
    unfold hm_row
    rw [P1 26 12 (by omega), hp12, P1 27 12 (by omega), h1, hm_con_eq (g := gt) (u := g1) (i := 12) (j := 12) (fun t ht => P1 _ _ (by omega)) (fun k hk => P1 _ _ (by omega)) (fun t ht => by rw [P1 _ _ (by omega)]; exact hs _ (by omega))]
  · exact hm_row_ne hs (by omega) (fun a q1 q2 => by rw [P2 _ _ (by omega), P1 _ _ (by omega)]) (fun c hc => by rw [P2 _ _ (by omega), P1 _ _ (by omega)]) (fun c hc => by rw [P2 _ _ (by omega), P1 _ _ (by omega)])
theorem hm_ln2 {g0 gt g1 g2 u : Nat → Nat → Int} {p : Int} {n : Nat} (hT : hm_tab gt = hm_tab g0) (hs : hm_sz gt) (hp12 : gt 26 12 = p) (hn0 : (n : Int) = gt 11 13) (hn : n < 12) (h1 : g1 28 12 = 1) (P1 : ∀ a b : Nat, ¬ (a = 28 ∧ b = 12) → g1 a b = gt a b) (hm : hm_mvp g1 g2 12 n 9 540) (P2 : ∀ a b : Nat, ¬ ((26 ≤ a ∧ a ≤ 28 ∧ b = n) ∨ (a = 30 ∧ 9 * n ≤ b ∧ b < 9 * n + 9) ∨ (a = 29 ∧ 540 * n ≤ b ∧ b < 540 * n + 540)) → g2 a b = g1 a b) (hu0 : u 11 13 = gt 11 13 + 1) (P3 : ∀ a b : Nat, 26 ≤ a → a ≤ 30 → u a b = g2 a b) (hno : ∀ r ∈ hm_tab gt, ¬ hr_m p (hm_con gt 12) r) (hh0 : gt 27 12 ≠ 0) : hr_LN (hm_tab g0) (hm_tab u) p (hm_con gt 12) (gt 27 12) := by
  rw [← hT]
  refine Or.inr ⟨hh0, Or.inr ⟨hno, Or.inr ⟨by rw [hm_tab_len]; omega, ?_⟩⟩⟩
  have hm' : hm_mvp g1 u 12 n 9 540 := by
    obtain ⟨m1, m2, m3, m4, m5⟩ := hm
    exact ⟨by rw [P3 _ _ (by decide) (by decide)]; exact m1, by rw [P3 _ _ (by decide) (by decide)]; exact m2, by rw [P3 _ _ (by decide) (by decide)]; exact m3, fun k hk => by rw [P3 _ _ (by decide) (by decide)]; exact m4 k hk, fun k hk => by rw [P3 _ _ (by decide) (by decide)]; exact m5 k hk⟩
  refine hm_app (by omega) hu0 ?_ (fun k hk => ?_)
  · rw [show (gt 11 13).toNat = n by omega, hm'.row (fun k hk => by rw [P1 _ _ (by omega)]; exact hs _ (by omega))]
    unfold hm_row
    rw [P1 26 12 (by omega), hp12, P1 27 12 (by omega), h1, hm_con_eq (g := gt) (u := g1) (i := 12) (j := 12) (fun t ht => P1 _ _ (by omega)) (fun k hk => P1 _ _ (by omega)) (fun t ht => by rw [P1 _ _ (by omega)]; exact hs _ (by omega))]
  · exact hm_row_ne hs (by omega) (fun a q1 q2 => by rw [P3 _ _ (by omega) (by omega), P2 _ _ (by omega), P1 _ _ (by omega)]) (fun c hc => by rw [P3 _ _ (by omega) (by omega), P2 _ _ (by omega), P1 _ _ (by omega)]) (fun c hc => by rw [P3 _ _ (by omega) (by omega), P2 _ _ (by omega), P1 _ _ (by omega)])
theorem hm_look {g0 g : Nat → Nat → Int} {R : List hR} {v : Nat} (hT : hm_tab g = (hm_tab g0).take (v + 1) ++ R) (h1 : (v : Int) < g 11 13) (h : v < (hm_tab g0).length) : (hm_tab g0)[v] = hm_row g v := by
  have h2 : v < (hm_tab g).length := by rw [hm_tab_len]; omega
  rw [← hm_tab_get h2, List.getElem_of_eq hT h2, List.getElem_append_left (by rw [List.length_take]; omega), List.getElem_take]
theorem hm_tick {g0 g u : Nat → Nat → Int} {v : Nat} (hs : hm_sz g) (hT : hm_tab g = (hm_tab g0).take (v + 1) ++ hr_tk ((hm_tab g0).drop (v + 1))) (h0 : v < (hm_tab g0).length) (h1 : (v : Int) < g 11 13) (hn : g 11 13 ≤ 12) (h : ∀ a b : Nat, ¬ (a = 27 ∧ b = v) → u a b = g a b) (h2 : u 27 v = g 27 v - 1) : hm_tab u = (hm_tab g).set v (hr_dec (hm_tab g0)[v]) ∧ (1 < g 27 v → hm_tab u = (hm_tab g0).take v ++ hr_tk ((hm_tab g0).drop v)) := by
  have hlk := hm_look hT h1 h0
  have t1 : hm_tab u = (hm_tab g).set v (hr_dec (hm_tab g0)[v]) := by
    refine hm_set (h 11 13 (by omega)) ?_ (fun k hk hkv => hm_row_ne hs (by omega) (fun a q1 q2 => h _ _ (by omega)) (fun c hc => h _ _ (by omega)) (fun c hc => h _ _ (by omega)))
    rw [hlk]
    unfold hm_row hr_dec
    rw [h 26 v (by omega), h2, h 28 v (by omega), hm_con_eq (g := g) (u := u) (i := v) (j := v) (fun t ht => h _ _ (by omega)) (fun k hk => h _ _ (by omega)) (fun t ht => by rw [h _ _ (by omega)]; exact hs _ (by omega))]
  refine ⟨t1, fun hp => ?_⟩
  rw [t1, hT]
  exact hr_tk_k h0 (by rw [hlk]; exact hp)
