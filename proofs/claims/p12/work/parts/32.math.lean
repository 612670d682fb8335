/-! WHAT IS KEPT OF THE NEIGHBOURS, as a list of rows: port, ticks left, frames, contents (sizes by type, bytes by type and place; what lies behind a size counts as 0) -/
def hc_st (t : Nat) : Nat := if t < 3 then (t - 1) * 60 else (t - 2) * 60
abbrev hC : Type := (Nat → Int) × (Nat → Nat → Int)
abbrev hR : Type := Int × Int × Int × hC
def hc_mk (s : Nat → Int) (b : Nat → Nat → Int) : hC := (fun t => if t < 9 then s t else -1, fun t k => if t < 9 ∧ (k : Int) < s t then b t k else 0)
theorem hc_mk_eq {s s' : Nat → Int} {b b' : Nat → Nat → Int} (h1 : ∀ t : Nat, t < 9 → s t = s' t) (h2 : ∀ t k : Nat, t < 9 → (k : Int) < s t → b t k = b' t k) : hc_mk s b = hc_mk s' b' := by
  unfold hc_mk
  refine Prod.ext ?_ ?_
  · funext t
    dsimp only
    by_cases h : t < 9
    · rw [if_pos h, if_pos h, h1 t h]
    · rw [if_neg h, if_neg h]
  · funext t k
    dsimp only
    by_cases h : t < 9 ∧ (k : Int) < s t
    · rw [if_pos h, if_pos ⟨h.1, by rw [← h1 t h.1]; exact h.2⟩, h2 t k h.1 h.2]
    · rw [if_neg h, if_neg (fun q => h ⟨q.1, by rw [h1 t q.1]; exact q.2⟩)]
def hc_con (g : Nat → Nat → Int) (c : Nat) : hC := hc_mk (fun t => g (340 + c) t) (fun t k => g (360 + c) (hc_st t + k))
def hc_row (g : Nat → Nat → Int) (j : Nat) : hR := (g (300 + j) 1, g (300 + j) 2, g (300 + j) 3, hc_con g (g (300 + j) 0 - 320).toNat)
def hc_tab (g : Nat → Nat → Int) : List hR := (List.range (g 10 1).toNat).map fun i => hc_row g (g 16 i - 300).toNat
def hm_con (g : Nat → Nat → Int) (i : Nat) : hC := hc_mk (fun t => g 30 (9 * i + t)) (fun t k => g 29 ((9 * i + t) * 60 + k))
def hm_row (g : Nat → Nat → Int) (i : Nat) : hR := (g 26 i, g 27 i, g 28 i, hm_con g i)
def hm_tab (g : Nat → Nat → Int) : List hR := (List.range (g 11 13).toNat).map fun i => hm_row g i
/-- the same station -/
def hc_same (a b : hC) : Prop := (a.1 1 = b.1 1 ∧ ∀ k : Nat, a.2 1 k = b.2 1 k) ∧ (a.1 2 = b.1 2 ∧ ∀ k : Nat, a.2 2 k = b.2 2 k)
theorem hc_same.rf {a : hC} : hc_same a a := ⟨⟨rfl, fun _ => rfl⟩, rfl, fun _ => rfl⟩
theorem hc_same.sy {a b : hC} (h : hc_same a b) : hc_same b a := ⟨⟨h.1.1.symm, fun k => (h.1.2 k).symm⟩, h.2.1.symm, fun k => (h.2.2 k).symm⟩
theorem hc_same.tr {a b c : hC} (h : hc_same a b) (h' : hc_same b c) : hc_same a c := ⟨⟨h.1.1.trans h'.1.1, fun k => (h.1.2 k).trans (h'.1.2 k)⟩, h.2.1.trans h'.2.1, fun k => (h.2.2 k).trans (h'.2.2 k)⟩
def he_sm (g : Nat → Nat → Int) (c t kf st : Nat) (sz : Int) : Prop := g (340 + c) t = sz ∧ ∀ k : Nat, (k : Int) < sz → g (360 + c) (hc_st t + k) = g kf (st + k)
theorem hc_same_t {g : Nat → Nat → Int} {c d t : Nat} (ht : t < 9) : ((hc_con g c).1 t = (hc_con g d).1 t ∧ ∀ k : Nat, (hc_con g c).2 t k = (hc_con g d).2 t k) ↔ he_sm g c t (360 + d) (hc_st t) (g (340 + d) t) := by
  unfold hc_con hc_mk he_sm
  dsimp only
  rw [if_pos ht, if_pos ht]
  constructor
  · intro h
    obtain ⟨h1, h2⟩ := h
    refine ⟨h1, fun k hk => ?_⟩
    have h := h2 k
    rw [if_pos ⟨ht, by rw [h1]; exact hk⟩, if_pos ⟨ht, hk⟩] at h
    exact h
  · intro h
    obtain ⟨h1, h2⟩ := h
    refine ⟨h1, fun k => ?_⟩
    by_cases hk : (k : Int) < g (340 + d) t
    · rw [if_pos ⟨ht, by rw [h1]; exact hk⟩, if_pos ⟨ht, hk⟩]
      exact h2 k hk
    · rw [if_neg (fun q => hk (by rw [← h1]; exact q.2)), if_neg (fun q => hk q.2)]
theorem hc_same_iff {g : Nat → Nat → Int} {c d : Nat} : hc_same (hc_con g c) (hc_con g d) ↔ he_sm g c 1 (360 + d) 0 (g (340 + d) 1) ∧ he_sm g c 2 (360 + d) 60 (g (340 + d) 2) :=
  ⟨fun h => ⟨(hc_same_t (by decide)).mp h.1, (hc_same_t (by decide)).mp h.2⟩, fun h => ⟨(hc_same_t (by decide)).mpr h.1, (hc_same_t (by decide)).mpr h.2⟩⟩
/-- no two rows and no two contents are one -/
def hc_wf (g : Nat → Nat → Int) : Prop := (∀ i j : Nat, i < 12 → j < 12 → g 16 i = g 16 j → i = j) ∧ (∀ i j : Nat, i < 12 → j < 12 → g (300 + i) 0 = g (300 + j) 0 → i = j) ∧ (∀ i : Nat, i < 12 → g (300 + i) 0 ≠ g 3 0) ∧ (∀ i : Nat, i < 12 → 300 ≤ g 16 i ∧ g 16 i < 312) ∧ (∀ i : Nat, i < 12 → 320 ≤ g (300 + i) 0 ∧ g (300 + i) 0 < 333) ∧ 320 ≤ g 3 0 ∧ g 3 0 < 333 ∧ 0 ≤ g 10 1 ∧ g 10 1 ≤ 12
/-- what the class keeps of its neighbours -/
def hc_f (a b : Nat) : Prop := (a = 10 ∧ b = 1) ∨ a = 16 ∨ (300 ≤ a ∧ a < 312) ∨ (340 ≤ a ∧ a < 353) ∨ (360 ≤ a ∧ a < 373) ∨ (a = 3 ∧ b = 0)
theorem hc_con_eq {g u : Nat → Nat → Int} {c : Nat} (h1 : ∀ t, u (340 + c) t = g (340 + c) t) (h2 : ∀ k, u (360 + c) k = g (360 + c) k) : hc_con u c = hc_con g c := hc_mk_eq (fun t _ => h1 t) (fun t k _ _ => h2 _)
theorem hc_row_eq {g u : Nat → Nat → Int} {j c : Nat} (h0 : g (300 + j) 0 = 320 + (c : Int)) (h : ∀ k, k < 4 → u (300 + j) k = g (300 + j) k) (h1 : ∀ t, u (340 + c) t = g (340 + c) t) (h2 : ∀ k, u (360 + c) k = g (360 + c) k) : hc_row u j = hc_row g j := by
  unfold hc_row
  rw [h 1 (by decide), h 2 (by decide), h 3 (by decide), h 0 (by decide), h0, show (320 + (c : Int) - 320).toNat = c by omega, hc_con_eq h1 h2]
theorem hc_tab_len (g : Nat → Nat → Int) : (hc_tab g).length = (g 10 1).toNat := by
  unfold hc_tab
  rw [List.length_map, List.length_range]
theorem hc_tab_get {g : Nat → Nat → Int} {i : Nat} (h : i < (hc_tab g).length) : (hc_tab g)[i] = hc_row g (g 16 i - 300).toNat := by
  have h2 := h
  rw [hc_tab_len] at h2
  have h1 : (hc_tab g)[i]? = some (hc_row g (g 16 i - 300).toNat) := by
    unfold hc_tab
    rw [List.getElem?_map, List.getElem?_range h2]
    rfl
  obtain ⟨h4, h3⟩ := List.getElem?_eq_some_iff.mp h1
  exact h3
theorem hm_tab_len (g : Nat → Nat → Int) : (hm_tab g).length = (g 11 13).toNat := by
  unfold hm_tab
  rw [List.length_map, List.length_range]
theorem hm_tab_get {g : Nat → Nat → Int} {i : Nat} (h : i < (hm_tab g).length) : (hm_tab g)[i] = hm_row g i := by
  have h2 := h
  rw [hm_tab_len] at h2
  have h1 : (hm_tab g)[i]? = some (hm_row g i) := by
    unfold hm_tab
    rw [List.getElem?_map, List.getElem?_range h2]
    rfl
  obtain ⟨h4, h3⟩ := List.getElem?_eq_some_iff.mp h1
  exact h3
theorem hc_tab_eq {g : Nat → Nat → Int} {L : List hR} (h1 : L.length = (g 10 1).toNat) (h2 : ∀ (i : Nat) (h : i < L.length), L[i] = hc_row g (g 16 i - 300).toNat) : hc_tab g = L := by
  refine List.ext_getElem (by rw [hc_tab_len, h1]) (fun i a b => ?_)
  rw [hc_tab_get, h2]
theorem hm_tab_eq {g : Nat → Nat → Int} {L : List hR} (h1 : L.length = (g 11 13).toNat) (h2 : ∀ (i : Nat) (h : i < L.length), L[i] = hm_row g i) : hm_tab g = L := by
  refine List.ext_getElem (by rw [hm_tab_len, h1]) (fun i a b => ?_)
  rw [hm_tab_get, h2]
/-- nothing of the table changed -/
theorem hc_tab_same {g u : Nat → Nat → Int} (hw : hc_wf g) (h : ∀ a b : Nat, hc_f a b → u a b = g a b) : hc_tab u = hc_tab g ∧ hc_wf u := by
  obtain ⟨w1, w2, w3, w4, w5, w6, w7, w8⟩ := hw
  have e10 : u 10 1 = g 10 1 := h 10 1 (Or.inl ⟨rfl, rfl⟩)
  have e16 : ∀ i, u 16 i = g 16 i := fun i => h 16 i (Or.inr (Or.inl rfl))
  have e3 : u 3 0 = g 3 0 := h 3 0 (by unfold hc_f; omega)
  have er : ∀ i k, i < 12 → u (300 + i) k = g (300 + i) k := fun i k hi => h _ _ (by unfold hc_f; omega)
  have es : ∀ c k, c < 13 → u (340 + c) k = g (340 + c) k := fun c k hi => h _ _ (by unfold hc_f; omega)
  have eb : ∀ c k, c < 13 → u (360 + c) k = g (360 + c) k := fun c k hi => h _ _ (by unfold hc_f; omega)
  refine ⟨hc_tab_eq (by rw [hc_tab_len, e10]) (fun i hi => ?_), ?_⟩
  · rw [hc_tab_get, e16]
    rw [hc_tab_len] at hi
    have h4 := w4 i (by omega)
    have h5 := w5 (g 16 i - 300).toNat (by omega)
    exact (hc_row_eq (c := (g (300 + (g 16 i - 300).toNat) 0 - 320).toNat) (by omega) (fun k _ => er _ k (by omega)) (fun t => es _ t (by omega)) (fun k => eb _ k (by omega))).symm
  · refine ⟨fun i j hi hj q => w1 i j hi hj (by rw [← e16, ← e16]; exact q), fun i j hi hj q => w2 i j hi hj (by rw [← er i 0 hi, ← er j 0 hj]; exact q), fun i hi => by rw [er i 0 hi, e3]; exact w3 i hi, fun i hi => by rw [e16]; exact w4 i hi, fun i hi => by rw [er i 0 hi]; exact w5 i hi, by rw [e3]; exact w6, by rw [e3]; exact w7, by rw [e10]; exact w8⟩
/-- forget -/
def hc_fg (g u : Nat → Nat → Int) (i : Nat) : Prop := u 10 1 = g 10 1 - 1 ∧ ∀ k : Nat, k < 12 → u 16 k = if k < i then g 16 k else if (k : Int) + 1 < g 10 1 then g 16 (k + 1) else if (k : Int) + 1 = g 10 1 then g 16 i else g 16 k
theorem hc_forget {g u : Nat → Nat → Int} {i : Nat} (hw : hc_wf g) (h : ∀ a b : Nat, ¬ ((a = 10 ∧ b = 1) ∨ a = 16) → u a b = g a b) (hi : (i : Int) < g 10 1) (hn : g 10 1 ≤ 12) (hf : hc_fg g u i) : hc_tab u = (hc_tab g).eraseIdx i ∧ hc_wf u := by
  obtain ⟨w1, w2, w3, w4, w5, w6, w7, w8⟩ := hw
  obtain ⟨f1, f2⟩ := hf
  have er : ∀ j k, u (300 + j) k = g (300 + j) k := fun j k => h _ _ (by omega)
  have es : ∀ c k, u (340 + c) k = g (340 + c) k := fun c k => h _ _ (by omega)
  have eb : ∀ c k, u (360 + c) k = g (360 + c) k := fun c k => h _ _ (by omega)
  have e3 : u 3 0 = g 3 0 := h 3 0 (by omega)
  have hlen : ((hc_tab g).eraseIdx i).length = (g 10 1).toNat - 1 := by rw [List.length_eraseIdx_of_lt (by rw [hc_tab_len]; omega), hc_tab_len]
  have hrow : ∀ k : Nat, (k : Int) < g 10 1 → hc_row u (g 16 k - 300).toNat = hc_row g (g 16 k - 300).toNat := by
    intro k hk
    have h4 := w4 k (by omega)
    have h5 := w5 (g 16 k - 300).toNat (by omega)
    exact hc_row_eq (c := (g (300 + (g 16 k - 300).toNat) 0 - 320).toNat) (by omega) (fun k _ => er _ k) (fun t => es _ t) (fun k => eb _ k)
  refine ⟨hc_tab_eq (by rw [hlen, f1]; omega) (fun k hk => ?_), ?_⟩
  · rw [hlen] at hk
    rw [List.getElem_eraseIdx, f2 k (by omega)]
    by_cases hki : k < i
    · rw [dif_pos hki, if_pos hki, hc_tab_get, hrow k (by omega)]
    · rw [dif_neg hki, if_neg hki, if_pos (by omega), hc_tab_get, hrow (k + 1) (by omega)]
  · have hall : ∀ k : Nat, k < 12 → ∃ k' : Nat, k' < 12 ∧ u 16 k = g 16 k' ∧ ((k < i ∧ k' = k) ∨ (i ≤ k ∧ (k : Int) + 1 < g 10 1 ∧ k' = k + 1) ∨ (i ≤ k ∧ (k : Int) + 1 = g 10 1 ∧ k' = i) ∨ (g 10 1 < (k : Int) + 1 ∧ k' = k)) := by
      intro k hk
      rw [f2 k hk]
      by_cases h1 : k < i
      · rw [if_pos h1]; exact ⟨k, hk, rfl, by omega⟩
      · rw [if_neg h1]
        by_cases h2 : (k : Int) + 1 < g 10 1
        · rw [if_pos h2]; exact ⟨k + 1, by omega, rfl, by omega⟩
        · rw [if_neg h2]
          by_cases h3 : (k : Int) + 1 = g 10 1
          · rw [if_pos h3]; exact ⟨i, by omega, rfl, by omega⟩
          · rw [if_neg h3]; exact ⟨k, hk, rfl, by omega⟩
    refine ⟨fun a b ha hb q => ?_, fun a b ha hb q => w2 a b ha hb (by rw [← er, ← er]; exact q), fun a ha => by rw [er, e3]; exact w3 a ha, fun a ha => ?_, fun a ha => by rw [er]; exact w5 a ha, by rw [e3]; exact w6, by rw [e3]; exact w7, by rw [f1]; omega⟩
    · obtain ⟨a', ha', qa, ca⟩ := hall a ha
      obtain ⟨b', hb', qb, cb⟩ := hall b hb
      have := w1 a' b' ha' hb' (by rw [← qa, ← qb]; exact q)
      omega
    · obtain ⟨a', ha', qa, ca⟩ := hall a ha
      rw [qa]; exact w4 a' ha'
def hc_mt (g : Nat → Nat → Int) (p : Int) (cd k : Nat) : Prop := (hc_row g (g 16 k - 300).toNat).1 = p ∧ hc_same (hc_row g (g 16 k - 300).toNat).2.2.2 (hc_con g cd)
theorem hc_mt_iff {g : Nat → Nat → Int} {p : Int} {cd k j c : Nat} (ej : g 16 k = 300 + (j : Int)) (ec : g (300 + j) 0 = 320 + (c : Int)) : hc_mt g p cd k ↔ (g (300 + j) 1 = p ∧ hc_same (hc_con g c) (hc_con g cd)) := by
  unfold hc_mt hc_row
  rw [ej, show (300 + (j : Int) - 300).toNat = j by omega, ec, show (320 + (c : Int) - 320).toNat = c by omega]
theorem hc_mt_port {g : Nat → Nat → Int} {p : Int} {cd k j : Nat} (ej : g 16 k = 300 + (j : Int)) (h : hc_mt g p cd k) : g (300 + j) 1 = p := by
  unfold hc_mt hc_row at h
  rw [ej, show (300 + (j : Int) - 300).toNat = j by omega] at h
  exact h.1
/-- lists -/
theorem hl_er {α : Type} (A : List α) (x : α) (B : List α) : (A ++ x :: B).eraseIdx A.length = A ++ B := by
  induction A with
  | nil => rfl
  | cons a A ih => show a :: (A ++ x :: B).eraseIdx A.length = _; rw [ih]; rfl
theorem hl_set {α : Type} (A : List α) (x y : α) (B : List α) : (A ++ x :: B).set A.length y = A ++ y :: B := by
  induction A with
  | nil => rfl
  | cons a A ih => show a :: (A ++ x :: B).set A.length y = _; rw [ih]; rfl
theorem hl_split {α : Type} {L : List α} {v : Nat} (h : v < L.length) : L = L.take v ++ L[v] :: L.drop (v + 1) := by
  rw [← List.drop_eq_getElem_cons h, List.take_append_drop]
theorem hl_tk {α : Type} {L : List α} {v : Nat} (h : v < L.length) : L.take (v + 1) = L.take v ++ [L[v]] := by
  rw [List.take_add_one, List.getElem?_eq_getElem h]
  rfl
theorem hl_tl {α : Type} {L : List α} {v : Nat} (h : v < L.length) : (L.take v).length = v := by
  rw [List.length_take]
  omega
/-- the rows that are left behind one tick; those that are not of a port -/
def hr_dec (r : hR) : hR := (r.1, r.2.1 - 1, r.2.2)
def hr_tk (L : List hR) : List hR := (L.map hr_dec).filter fun r => decide (0 < r.2.1)
def hr_np (p : Int) (L : List hR) : List hR := L.filter fun r => decide (r.1 ≠ p)
theorem hr_np_e {p : Int} {L : List hR} {v : Nat} (h : v < L.length) (hp : L[v].1 = p) : (L.take (v + 1) ++ hr_np p (L.drop (v + 1))).eraseIdx v = L.take v ++ hr_np p (L.drop v) := by
  have h1 := hl_er (L.take v) L[v] (hr_np p (L.drop (v + 1)))
  rw [hl_tl h] at h1
  rw [hl_tk h, List.append_assoc, List.singleton_append, h1, List.drop_eq_getElem_cons h]
  unfold hr_np
  rw [List.filter_cons_of_neg (by simp [hp])]
theorem hr_np_k {p : Int} {L : List hR} {v : Nat} (h : v < L.length) (hp : L[v].1 ≠ p) : L.take (v + 1) ++ hr_np p (L.drop (v + 1)) = L.take v ++ hr_np p (L.drop v) := by
  rw [hl_tk h, List.append_assoc, List.singleton_append, List.drop_eq_getElem_cons h]
  unfold hr_np
  rw [List.filter_cons_of_pos (by simp [hp])]
theorem hr_tk_e {L : List hR} {v : Nat} (h : v < L.length) (hp : L[v].2.1 ≤ 1) : (L.take (v + 1) ++ hr_tk (L.drop (v + 1))).eraseIdx v = L.take v ++ hr_tk (L.drop v) := by
  have h1 := hl_er (L.take v) L[v] (hr_tk (L.drop (v + 1)))
  rw [hl_tl h] at h1
  rw [hl_tk h, List.append_assoc, List.singleton_append, h1, List.drop_eq_getElem_cons h]
  unfold hr_tk
  rw [List.map_cons, List.filter_cons_of_neg (by simp [hr_dec]; omega)]
theorem hr_tk_k {L : List hR} {v : Nat} (h : v < L.length) (hp : 1 < L[v].2.1) : (L.take (v + 1) ++ hr_tk (L.drop (v + 1))).set v (hr_dec L[v]) = L.take v ++ hr_tk (L.drop v) := by
  have h1 := hl_set (L.take v) L[v] (hr_dec L[v]) (hr_tk (L.drop (v + 1)))
  rw [hl_tl h] at h1
  rw [hl_tk h, List.append_assoc, List.singleton_append, h1, List.drop_eq_getElem_cons h]
  unfold hr_tk
  rw [List.map_cons, List.filter_cons_of_pos (by simp [hr_dec]; omega)]
/-- what always holds of the rows: their ports are up, their time is not over, no two are the same station at one port -/
def hr_ap (a b : hR) : Prop := ¬ (a.1 = b.1 ∧ hc_same a.2.2.2 b.2.2.2)
def hr_inv (L : List hR) (up : Nat → Int) : Prop := (∀ r ∈ L, 0 ≤ r.1 ∧ r.1 < 4 ∧ up r.1.toNat = 1 ∧ 1 ≤ r.2.1 ∧ r.2.1 ≤ 65535) ∧ L.Pairwise hr_ap
theorem hr_inv.up {L : List hR} {up up' : Nat → Int} (h : hr_inv L up) (hu : ∀ r ∈ L, up r.1.toNat = 1 → up' r.1.toNat = 1) : hr_inv L up' := ⟨fun r hr => by obtain ⟨h1, h2, h3, h4, h5⟩ := h.1 r hr; exact ⟨h1, h2, hu r hr h3, h4, h5⟩, h.2⟩
theorem hr_inv.sub {L L' : List hR} {up : Nat → Int} (h : hr_inv L up) (hs : L'.Sublist L) : hr_inv L' up := ⟨fun r hr => h.1 r (hs.subset hr), h.2.sublist hs⟩
theorem hr_inv.erase {L : List hR} {up : Nat → Int} (h : hr_inv L up) (i : Nat) : hr_inv (L.eraseIdx i) up := h.sub (List.eraseIdx_sublist _ _)
theorem hr_inv.np {L : List hR} {up : Nat → Int} (h : hr_inv L up) (p : Int) : hr_inv (hr_np p L) up := h.sub (List.filter_sublist)
theorem hr_inv.tk {L : List hR} {up : Nat → Int} (h : hr_inv L up) : hr_inv (hr_tk L) up := by
  refine ⟨fun r hr => ?_, ?_⟩
  · unfold hr_tk at hr
    rw [List.mem_filter] at hr
    obtain ⟨h1, h2⟩ := hr
    obtain ⟨r0, h3, rfl⟩ := List.mem_map.mp h1
    have h2 : 0 < r0.2.1 - 1 := of_decide_eq_true h2
    obtain ⟨a1, a2, a3, a4, a5⟩ := h.1 r0 h3
    exact ⟨a1, a2, a3, by show 1 ≤ r0.2.1 - 1; omega, by show r0.2.1 - 1 ≤ 65535; omega⟩
  · unfold hr_tk
    exact List.Pairwise.filter _ (List.pairwise_map.mpr h.2)
theorem hr_ap.sy {a b : hR} (h : hr_ap a b) : hr_ap b a := fun q => h ⟨q.1.symm, q.2.sy⟩
theorem hr_inv.set {L : List hR} {up : Nat → Int} (h : hr_inv L up) {i : Nat} (hi : i < L.length) {r : hR} (hp : r.1 = L[i].1) (hs : hc_same r.2.2.2 L[i].2.2.2) (h1 : 1 ≤ r.2.1) (h2 : r.2.1 ≤ 65535) : hr_inv (L.set i r) up := by
  refine ⟨fun x hx => ?_, ?_⟩
  · rcases List.mem_or_eq_of_mem_set hx with hx | hx
    · exact h.1 x hx
    · subst hx
      obtain ⟨a1, a2, a3, -, -⟩ := h.1 _ (List.getElem_mem hi)
      rw [hp]
      exact ⟨a1, a2, a3, h1, h2⟩
  · have hpw := List.pairwise_iff_getElem.mp h.2
    refine List.pairwise_iff_getElem.mpr (fun a b ha hb hab => ?_)
    rw [List.length_set] at ha hb
    rw [List.getElem_set, List.getElem_set]
    by_cases hia : i = a
    · subst hia
      rw [if_pos rfl, if_neg (by omega)]
      exact fun q => hpw i b ha hb hab ⟨hp.symm.trans q.1, hs.sy.tr q.2⟩
    · rw [if_neg hia]
      by_cases hib : i = b
      · subst hib
        rw [if_pos rfl]
        exact fun q => hpw a i ha hb hab ⟨q.1.trans hp, q.2.tr hs⟩
      · rw [if_neg hib]
        exact hpw a b ha hb hab
theorem hr_inv.add {L : List hR} {up : Nat → Int} (h : hr_inv L up) {r : hR} (h0 : 0 ≤ r.1 ∧ r.1 < 4 ∧ up r.1.toNat = 1 ∧ 1 ≤ r.2.1 ∧ r.2.1 ≤ 65535) (hn : ∀ x ∈ L, ¬ (x.1 = r.1 ∧ hc_same x.2.2.2 r.2.2.2)) : hr_inv (L ++ [r]) up := by
  refine ⟨fun x hx => ?_, ?_⟩
  · rcases List.mem_append.mp hx with hx | hx
    · exact h.1 x hx
    · rw [List.mem_singleton] at hx
      subst hx
      exact h0
  · refine List.pairwise_append.mpr ⟨h.2, List.pairwise_singleton _ _, fun a ha b hb => ?_⟩
    rw [List.mem_singleton] at hb
    subst hb
    exact hn a ha
/-- one row's numbers changed -/
theorem hc_one {g u : Nat → Nat → Int} {v j : Nat} (hw : hc_wf g) (hv : (v : Int) < g 10 1) (hn : g 10 1 ≤ 12) (ej : g 16 v = 300 + (j : Int)) (h : ∀ a b : Nat, ¬ (a = 300 + j ∧ 1 ≤ b) → u a b = g a b) : hc_tab u = (hc_tab g).set v (hc_row u j) ∧ hc_wf u := by
  obtain ⟨w1, w2, w3, w4, w5, w6, w7, w8⟩ := hw
  have hjv := w4 v (by omega)
  refine ⟨hc_tab_eq (by rw [List.length_set, hc_tab_len, h 10 1 (by omega)]) (fun i hi => ?_), ?_⟩
  · rw [List.length_set, hc_tab_len] at hi
    rw [List.getElem_set, h 16 i (by omega)]
    by_cases hiv : v = i
    · subst hiv
      rw [if_pos rfl, ej, show (300 + (j : Int) - 300).toNat = j by omega]
    · rw [if_neg hiv, hc_tab_get]
      have h4 := w4 i (by omega)
      have h5 := w5 (g 16 i - 300).toNat (by omega)
      have hne : (g 16 i - 300).toNat ≠ j := fun q => hiv (w1 v i (by omega) (by omega) (by omega))
      exact (hc_row_eq (c := (g (300 + (g 16 i - 300).toNat) 0 - 320).toNat) (by omega) (fun k _ => h _ k (by omega)) (fun t => h _ t (by omega)) (fun k => h _ k (by omega))).symm
  · exact ⟨fun a b ha hb q => w1 a b ha hb (by rw [← h 16 a (by omega), ← h 16 b (by omega)]; exact q), fun a b ha hb q => w2 a b ha hb (by rw [← h (300 + a) 0 (by omega), ← h (300 + b) 0 (by omega)]; exact q), fun a ha => by rw [h (300 + a) 0 (by omega), h 3 0 (by omega)]; exact w3 a ha, fun a ha => by rw [h 16 a (by omega)]; exact w4 a ha, fun a ha => by rw [h (300 + a) 0 (by omega)]; exact w5 a ha, by rw [h 3 0 (by omega)]; exact w6, by rw [h 3 0 (by omega)]; exact w7, by rw [h 10 1 (by omega)]; exact w8⟩
theorem hl_es {α : Type} (l : List α) (i : Nat) (a : α) : (l.set i a).eraseIdx i = l.eraseIdx i := by
  induction l generalizing i with
  | nil => rfl
  | cons x l ih =>
    cases i with
    | zero => rfl
    | succ i => show x :: (l.set i a).eraseIdx i = x :: l.eraseIdx i; rw [ih]
/-- the row that a walk from behind comes to is still as it was -/
theorem hr_look {g0 g : Nat → Nat → Int} {R : List hR} {v j : Nat} (hT : hc_tab g = (hc_tab g0).take (v + 1) ++ R) (h1 : (v : Int) < g 10 1) (ej : g 16 v = 300 + (j : Int)) (h : v < (hc_tab g0).length) : (hc_tab g0)[v] = hc_row g j := by
  have h2 : v < (hc_tab g).length := by rw [hc_tab_len]; omega
  have h3 := hc_tab_get h2
  rw [ej, show (300 + (j : Int) - 300).toNat = j by omega] at h3
  rw [← h3, List.getElem_of_eq hT h2, List.getElem_append_left (by rw [List.length_take]; omega), List.getElem_take]
theorem hc_row_dec {g u : Nat → Nat → Int} {j : Nat} (h : ∀ a b : Nat, ¬ (a = 300 + j ∧ b = 2) → u a b = g a b) (h2 : u (300 + j) 2 = g (300 + j) 2 - 1) (hj : j < 12) : hc_row u j = hr_dec (hc_row g j) := by
  unfold hc_row hr_dec
  rw [h (300 + j) 1 (by omega), h2, h (300 + j) 3 (by omega), h (300 + j) 0 (by omega), hc_con_eq (g := g) (u := u) (fun t => h _ t (by omega)) (fun k => h _ k (by omega))]
theorem hc_tick {g0 g u : Nat → Nat → Int} {v j : Nat} (hw : hc_wf g) (hT : hc_tab g = (hc_tab g0).take (v + 1) ++ hr_tk ((hc_tab g0).drop (v + 1))) (h0 : v < (hc_tab g0).length) (h1 : (v : Int) < g 10 1) (hn : g 10 1 ≤ 12) (ej : g 16 v = 300 + (j : Int)) (hj : j < 12) (h : ∀ a b : Nat, ¬ (a = 300 + j ∧ b = 2) → u a b = g a b) (h2 : u (300 + j) 2 = g (300 + j) 2 - 1) : hc_wf u ∧ hc_tab u = (hc_tab g).set v (hr_dec (hc_tab g0)[v]) ∧ (1 < g (300 + j) 2 → hc_tab u = (hc_tab g0).take v ++ hr_tk ((hc_tab g0).drop v)) := by
  have hlk := hr_look hT h1 ej h0
  obtain ⟨t1, t2⟩ := hc_one hw h1 hn ej (fun a b q => h a b (by omega))
  have h5 := hw.2.2.2.2.1 j hj
  rw [hc_row_dec h h2 hj, ← hlk] at t1
  refine ⟨t2, t1, fun hp => ?_⟩
  rw [t1, hT]
  exact hr_tk_k h0 (by rw [hlk]; exact hp)
theorem hc_add {g u : Nat → Nat → Int} {j : Nat} (hw : hc_wf g) (h0 : 0 ≤ g 10 1) (hn : g 10 1 < 12) (ej : g 16 (g 10 1).toNat = 300 + (j : Int)) (hu : u 10 1 = g 10 1 + 1) (h : ∀ a b : Nat, ¬ ((a = 10 ∧ b = 1) ∨ (a = 300 + j ∧ (b = 1 ∨ b = 3)) ∨ (5 ≤ a ∧ a < 9)) → u a b = g a b) : hc_tab u = hc_tab g ++ [hc_row u j] ∧ hc_wf u := by
  obtain ⟨w1, w2, w3, w4, w5, w6, w7, w8⟩ := hw
  have hjv := w4 (g 10 1).toNat (by omega)
  refine ⟨hc_tab_eq (by rw [List.length_append, hc_tab_len, hu, List.length_singleton]; omega) (fun i hi => ?_), ?_⟩
  · rw [List.length_append, hc_tab_len, List.length_singleton] at hi
    rw [h 16 i (by omega)]
    by_cases hiv : i < (g 10 1).toNat
    · rw [List.getElem_append_left (by rw [hc_tab_len]; exact hiv), hc_tab_get]
      have h4 := w4 i (by omega)
      have h5 := w5 (g 16 i - 300).toNat (by omega)
      have hne : (g 16 i - 300).toNat ≠ j := fun q => by
        have := w1 i (g 10 1).toNat (by omega) (by omega) (by omega)
        omega
      exact (hc_row_eq (c := (g (300 + (g 16 i - 300).toNat) 0 - 320).toNat) (by omega) (fun k _ => h _ k (by omega)) (fun t => h _ t (by omega)) (fun k => h _ k (by omega))).symm
    · have hie : i = (g 10 1).toNat := by omega
      subst hie
      rw [List.getElem_append_right (by rw [hc_tab_len]; omega), ej, show (300 + (j : Int) - 300).toNat = j by omega]
      simp [hc_tab_len]
  · exact ⟨fun a b ha hb q => w1 a b ha hb (by rw [← h 16 a (by omega), ← h 16 b (by omega)]; exact q), fun a b ha hb q => w2 a b ha hb (by rw [← h (300 + a) 0 (by omega), ← h (300 + b) 0 (by omega)]; exact q), fun a ha => by rw [h (300 + a) 0 (by omega), h 3 0 (by omega)]; exact w3 a ha, fun a ha => by rw [h 16 a (by omega)]; exact w4 a ha, fun a ha => by rw [h (300 + a) 0 (by omega)]; exact w5 a ha, by rw [h 3 0 (by omega)]; exact w6, by rw [h 3 0 (by omega)]; exact w7, by rw [hu]; omega⟩
/-- a neighbour takes what was heard, the reader takes the neighbour's old contents -/
theorem hc_renew {g u : Nat → Nat → Int} {v j c c0 : Nat} (hw : hc_wf g) (hv : (v : Int) < g 10 1) (hn : g 10 1 ≤ 12) (ej : g 16 v = 300 + (j : Int)) (hj : j < 12) (e0 : g (300 + j) 0 = 320 + (c0 : Int)) (e3 : g 3 0 = 320 + (c : Int)) (h : ∀ a b : Nat, ¬ ((a = 300 + j ∧ b ≠ 1) ∨ (a = 3 ∧ b = 0)) → u a b = g a b) (u0 : u (300 + j) 0 = 320 + (c : Int)) (u3 : u 3 0 = 320 + (c0 : Int)) : hc_tab u = (hc_tab g).set v (g (300 + j) 1, u (300 + j) 2, u (300 + j) 3, hc_con g c) ∧ hc_wf u := by
  obtain ⟨w1, w2, w3, w4, w5, w6, w7, w8⟩ := hw
  have hrow : hc_row u j = (g (300 + j) 1, u (300 + j) 2, u (300 + j) 3, hc_con g c) := by
    unfold hc_row
    rw [u0, show (320 + (c : Int) - 320).toNat = c by omega, h (300 + j) 1 (by omega), hc_con_eq (g := g) (u := u) (fun t => h _ t (by omega)) (fun k => h _ k (by omega))]
  refine ⟨hc_tab_eq (by rw [List.length_set, hc_tab_len, h 10 1 (by omega)]) (fun i hi => ?_), ?_⟩
  · rw [List.length_set, hc_tab_len] at hi
    rw [List.getElem_set, h 16 i (by omega)]
    by_cases hiv : v = i
    · subst hiv
      rw [if_pos rfl, ej, show (300 + (j : Int) - 300).toNat = j by omega, hrow]
    · rw [if_neg hiv, hc_tab_get]
      have h4 := w4 i (by omega)
      have h5 := w5 (g 16 i - 300).toNat (by omega)
      have hne : (g 16 i - 300).toNat ≠ j := fun q => hiv (w1 v i (by omega) (by omega) (by omega))
      exact (hc_row_eq (c := (g (300 + (g 16 i - 300).toNat) 0 - 320).toNat) (by omega) (fun k _ => h _ k (by omega)) (fun t => h _ t (by omega)) (fun k => h _ k (by omega))).symm
  · have hcase : ∀ a : Nat, a < 12 → a ≠ j → u (300 + a) 0 = g (300 + a) 0 := fun a _ ha => h _ _ (by omega)
    refine ⟨fun a b ha hb q => w1 a b ha hb (by rw [← h 16 a (by omega), ← h 16 b (by omega)]; exact q), fun a b ha hb q => ?_, fun a ha => ?_, fun a ha => by rw [h 16 a (by omega)]; exact w4 a ha, fun a ha => ?_, ?_, ?_, by rw [h 10 1 (by omega)]; exact w8⟩
    · by_cases h1 : a = j
      · by_cases h2 : b = j
        · rw [h1, h2]
        · rw [h1, u0, hcase b hb h2] at q
          exact absurd (show g (300 + b) 0 = g 3 0 by omega) (w3 b hb)
      · by_cases h2 : b = j
        · rw [h2, u0, hcase a ha h1] at q
          exact absurd (show g (300 + a) 0 = g 3 0 by omega) (w3 a ha)
        · rw [hcase a ha h1, hcase b hb h2] at q
          exact w2 a b ha hb q
    · by_cases h1 : a = j
      · rw [h1, u0, u3]
        have := w3 j hj
        omega
      · rw [hcase a ha h1, u3]
        intro q
        exact h1 (w2 a j ha hj (by omega))
    · by_cases h1 : a = j
      · rw [h1, u0]; omega
      · rw [hcase a ha h1]; exact w5 a ha
    · rw [u3]; have := w5 j hj; omega
    · rw [u3]; have := w5 j hj; omega
/-- what a good frame does to the rows -/
def hr_m (p : Int) (con : hC) (r : hR) : Prop := r.1 = p ∧ hc_same r.2.2.2 con
def hr_LN (L L' : List hR) (p : Int) (con : hC) (held : Int) : Prop :=
  (held = 0 ∧ (((∀ r ∈ L, ¬ hr_m p con r) ∧ L' = L) ∨ ∃ (i : Nat) (h : i < L.length), hr_m p con L[i] ∧ L' = L.eraseIdx i)) ∨
  (held ≠ 0 ∧ ((∃ (i : Nat) (h : i < L.length), hr_m p con L[i] ∧ L' = L.set i (p, held, (L[i].2.2.1 + 1).bmod (2 ^ 32), con)) ∨ ((∀ r ∈ L, ¬ hr_m p con r) ∧ ((12 ≤ L.length ∧ L' = L) ∨ (L.length < 12 ∧ L' = L ++ [(p, held, 1, con)])))))
theorem hr_LN.inv {L L' : List hR} {p held : Int} {con : hC} {up : Nat → Int} (h : hr_LN L L' p con held) (hi : hr_inv L up) (hp : 0 ≤ p ∧ p < 4 ∧ up p.toNat = 1) (hh : 0 ≤ held ∧ held ≤ 65535) : hr_inv L' up := by
  rcases h with ⟨-, h⟩ | ⟨h0, h⟩
  · rcases h with ⟨-, h⟩ | ⟨i, -, -, h⟩
    · rw [h]; exact hi
    · rw [h]; exact hi.erase i
  · rcases h with ⟨i, hl, hm, h⟩ | ⟨hn, h⟩
    · rw [h]
      exact hi.set hl hm.1.symm hm.2.sy (by show 1 ≤ held; omega) (by show held ≤ 65535; omega)
    · rcases h with ⟨-, h⟩ | ⟨-, h⟩
      · rw [h]; exact hi
      · rw [h]
        exact hi.add ⟨hp.1, hp.2.1, hp.2.2, by show 1 ≤ held; omega, by show held ≤ 65535; omega⟩ (fun x hx => hn x hx)
theorem hc_mt_all {g : Nat → Nat → Int} {p : Int} {cd : Nat} (h0 : 0 ≤ g 10 1) (h : ∀ k : Nat, (k : Int) < g 10 1 → ¬ hc_mt g p cd k) : ∀ r ∈ hc_tab g, ¬ hr_m p (hc_con g cd) r := by
  intro r hr
  obtain ⟨i, hi, rfl⟩ := List.mem_iff_getElem.mp hr
  have hi2 := hi
  rw [hc_tab_len] at hi2
  rw [hc_tab_get]
  exact h i (by omega)
theorem hc_mt_at {g : Nat → Nat → Int} {p : Int} {cd k : Nat} (hk : k < (hc_tab g).length) (h : hc_mt g p cd k) : hr_m p (hc_con g cd) (hc_tab g)[k] := by
  rw [hc_tab_get]
  exact h
theorem hc_ln1 {g g2 u : Nat → Nat → Int} {v j c c0 : Nat} {p held : Int} (hw : hc_wf g) (hv : (v : Int) < g 10 1) (ej : g 16 v = 300 + (j : Int)) (hj : j < 12) (e0 : g (300 + j) 0 = 320 + (c0 : Int)) (e3 : g 3 0 = 320 + (c : Int)) (hmt : hc_mt g p c v) (hh : held = g 3 1) (hh0 : held ≠ 0) (P1 : ∀ a b : Nat, ¬ (a = 300 + j ∧ b ≠ 1) → g2 a b = g a b) (P2 : ∀ a b : Nat, ¬ (a = 3 ∧ b = 0) → u a b = g2 a b) (r0 : g2 (300 + j) 0 = 320 + (c : Int)) (r2 : g2 (300 + j) 2 = held) (r3 : g2 (300 + j) 3 = (g (300 + j) 3 + 1).bmod (2 ^ 32)) (u3 : u 3 0 = 320 + (c0 : Int)) : hc_wf u ∧ hr_LN (hc_tab g) (hc_tab u) p (hc_con g c) (g 3 1) := by
  have w8 := hw.2.2.2.2.2.2.2
  obtain ⟨t1, t2⟩ := hc_renew hw hv w8.2 ej hj e0 e3 (fun a b q => by rw [P2 a b (by omega), P1 a b (by omega)]) (by rw [P2 _ _ (by omega)]; exact r0) u3
  have hlen : v < (hc_tab g).length := by rw [hc_tab_len]; omega
  refine ⟨t2, Or.inr ⟨by rw [← hh]; exact hh0, Or.inl ⟨v, hlen, hc_mt_at hlen hmt, ?_⟩⟩⟩
  rw [t1, hc_mt_port ej hmt, P2 _ _ (by omega), P2 _ _ (by omega), r2, r3, hh, hc_tab_get, ej, show (300 + (j : Int) - 300).toNat = j by omega]
  rfl
theorem hc_ln2 {g g1 g2 u : Nat → Nat → Int} {v j ja c c0 : Nat} {p held : Int} (hw : hc_wf g) (hn : g 10 1 < 12) (ea : g 16 (g 10 1).toNat = 300 + (ja : Int)) (a3 : g1 10 1 = g 10 1 + 1) (P0 : ∀ a b : Nat, ¬ ((a = 10 ∧ b = 1) ∨ (a = 300 + ja ∧ (b = 1 ∨ b = 3)) ∨ (5 ≤ a ∧ a < 9)) → g1 a b = g a b) (a1 : g1 (300 + ja) 1 = p) (a0 : g1 (300 + ja) 3 = 0) (hv : (v : Int) = g 10 1) (ej : g1 16 v = 300 + (j : Int)) (hj : j < 12) (e0 : g1 (300 + j) 0 = 320 + (c0 : Int)) (e3 : g1 3 0 = 320 + (c : Int)) (hnone : ∀ k : Nat, (k : Int) < g 10 1 → ¬ hc_mt g p c k) (hh : held = g 3 1) (hh0 : held ≠ 0) (P1 : ∀ a b : Nat, ¬ (a = 300 + j ∧ b ≠ 1) → g2 a b = g1 a b) (P2 : ∀ a b : Nat, ¬ (a = 3 ∧ b = 0) → u a b = g2 a b) (r0 : g2 (300 + j) 0 = 320 + (c : Int)) (r2 : g2 (300 + j) 2 = held) (r3 : g2 (300 + j) 3 = (g1 (300 + j) 3 + 1).bmod (2 ^ 32)) (u3 : u 3 0 = 320 + (c0 : Int)) : hc_wf u ∧ hr_LN (hc_tab g) (hc_tab u) p (hc_con g c) (g 3 1) := by
  have w8 := hw.2.2.2.2.2.2.2
  have hvn : v = (g 10 1).toNat := by omega
  obtain ⟨s1, s2⟩ := hc_add hw w8.1 hn ea a3 P0
  have hjj : j = ja := by
    have h1 := P0 16 v (by omega)
    rw [hvn] at h1 ej
    omega
  subst hjj
  obtain ⟨t1, t2⟩ := hc_renew s2 (by omega) (by omega) ej hj e0 e3 (fun a b q => by rw [P2 a b (by omega), P1 a b (by omega)]) (by rw [P2 _ _ (by omega)]; exact r0) u3
  refine ⟨t2, Or.inr ⟨by rw [← hh]; exact hh0, Or.inr ⟨hc_mt_all w8.1 hnone, Or.inr ⟨by rw [hc_tab_len]; omega, ?_⟩⟩⟩⟩
  have h3 := hl_set (hc_tab g) (hc_row g1 j) (p, held, 1, hc_con g c) []
  rw [t1, s1, P2 _ _ (by omega), P2 _ _ (by omega), r2, r3, a1, a0, hc_con_eq (g := g) (u := g1) (fun t => P0 _ t (by omega)) (fun k => P0 _ k (by omega)), hvn, ← hc_tab_len g, ← hh]
  exact h3
theorem hc_read {g u : Nat → Nat → Int} {cq : Nat} (hw : hc_wf g) (hcr : g 3 0 = 320 + (cq : Int)) (h : ∀ a b : Nat, ¬ ((a = 3 ∧ b = 1) ∨ a = 340 + cq ∨ a = 360 + cq) → u a b = g a b) (hcq : cq < 13) : hc_tab u = hc_tab g ∧ hc_wf u := by
  obtain ⟨w1, w2, w3, w4, w5, w6, w7, w8⟩ := hw
  refine ⟨hc_tab_eq (by rw [hc_tab_len, h 10 1 (by omega)]) (fun i hi => ?_), ?_⟩
  · rw [hc_tab_len] at hi
    rw [hc_tab_get, h 16 i (by omega)]
    have h4 := w4 i (by omega)
    have h5 := w5 (g 16 i - 300).toNat (by omega)
    have h3 := w3 (g 16 i - 300).toNat (by omega)
    exact (hc_row_eq (c := (g (300 + (g 16 i - 300).toNat) 0 - 320).toNat) (by omega) (fun k _ => h _ k (by omega)) (fun t => h _ t (by omega)) (fun k => h _ k (by omega))).symm
  · exact ⟨fun a b ha hb q => w1 a b ha hb (by rw [← h 16 a (by omega), ← h 16 b (by omega)]; exact q), fun a b ha hb q => w2 a b ha hb (by rw [← h (300 + a) 0 (by omega), ← h (300 + b) 0 (by omega)]; exact q), fun a ha => by rw [h (300 + a) 0 (by omega), h 3 0 (by omega)]; exact w3 a ha, fun a ha => by rw [h 16 a (by omega)]; exact w4 a ha, fun a ha => by rw [h (300 + a) 0 (by omega)]; exact w5 a ha, by rw [h 3 0 (by omega)]; exact w6, by rw [h 3 0 (by omega)]; exact w7, by rw [h 10 1 (by omega)]; exact w8⟩
def hr_tks : Nat → List hR → List hR
  | 0, L => L
  | n + 1, L => hr_tk (hr_tks n L)
theorem hr_inv.tks {L : List hR} {up : Nat → Int} (h : hr_inv L up) (n : Nat) : hr_inv (hr_tks n L) up := by
  induction n with
  | zero => exact h
  | succ n ih => exact ih.tk
theorem hc_self {g : Nat → Nat → Int} {p r : Int} {cd v : Nat} (hI : (hc_tab g).Pairwise hr_ap) (h0 : 0 ≤ g 10 1) (hv : (v : Int) < g 10 1) (hmt : hc_mt g p cd v) (h1 : -1 ≤ r) (h2 : r < g 10 1) (h3 : r = -1 → ∀ k : Nat, (k : Int) < g 10 1 → ¬ hc_mt g p cd k) (h4 : 0 ≤ r → hc_mt g p cd r.toNat) (h5 : ∀ k : Nat, (k : Int) < r → ¬ hc_mt g p cd k) : r = (v : Int) := by
  have a1 : r ≠ -1 := fun q => h3 q v hv hmt
  have a2 : ¬ (v : Int) < r := fun q => h5 v q hmt
  refine Classical.byContradiction fun a3 => ?_
  have hr := h4 (by omega)
  have hl1 : r.toNat < (hc_tab g).length := by rw [hc_tab_len]; omega
  have hl2 : v < (hc_tab g).length := by rw [hc_tab_len]; omega
  have hp := List.pairwise_iff_getElem.mp hI r.toNat v hl1 hl2 (by omega)
  have m1 := hc_mt_at hl1 hr
  have m2 := hc_mt_at hl2 hmt
  exact hp ⟨m1.1.trans m2.1.symm, m1.2.tr m2.2.sy⟩
