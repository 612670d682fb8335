theorem hs_ok.ng {κ : Nat → Nat} {e e' : Int} {sp : Nat × Nat} {v : Value} (h : hs_ok κ e sp v) (hn : sp.1 ≠ 0) : hs_ok κ e' sp v := by
  obtain ⟨a, t⟩ := sp
  match a, h, hn with
  | 0, _, hn => exact absurd rfl hn
  | 4, h, _ => exact h
  | 7, _, _ => exact trivial
  | 1, h, _ => exact h
  | 2, h, _ => exact h
  | 3, h, _ => exact h
  | 5, h, _ => exact h
  | 6, h, _ => exact h
  | n + 8, h, _ => exact h
section HPR
variable {dC : Nat → ClassId} {dI : Nat → Nat → Nat} {dA : Nat → ClassId} {κ : Nat → Nat} {B : Nat} {g : Nat → Nat → Int} {H0 H : Heap} {locs : List Loc}
/-- an element of an array that is being filled is set: array and holder go on to their next kinds -/
theorem hp_row {F : hp_F} {h0 b n i kf ka ka' kh kh' kn : Nat} (hW : hp_W κ B) (hV : hp_V κ) (hKk : hp_K κ) (hB : B ≤ H.size) (hM : hp_M dC dI dA κ (hp_u F b i (.ref n)) H) (hO : hp_O κ g F) (hS : va_S (hp_A B) H0 H locs) (kb : κ b = ka) (kh0 : κ h0 = kh) (knn : κ n = kn)
    (hta : hk_t ka' = hk_t ka) (hth : hk_t kh' = hk_t kh) (hoka : hk_ok ka') (hokh : hk_ok kh') (hva : (hk_t ka').1 ≠ 0) (hvh : (hk_t kh').1 ≠ 0) (hxa : hk_x ka' = false) (hxh : hk_x kh' = false) (hne : ka ≠ kh) (hne2 : kn ≠ ka) (hne3 : kn ≠ kh)
    (hsa : ∀ j : Nat, j ≠ i → j < (hk_t ka').2.2 → hk_s ka' j = hk_s ka j ∧ (hk_s ka j).1 ≠ 0) (hsi : hk_s ka' i = (4, kn)) (hsh : ∀ j : Nat, j ≠ kf → j < (hk_t kh').2.2 → hk_s kh' j = hk_s kh j ∧ (hk_s kh j).1 ≠ 0 ∧ hk_s kh j ≠ (4, ka)) (hsf : hk_s kh kf = (4, ka)) (hsf' : hk_s kh' kf = (4, ka')) (hkf : kf < (hk_t kh').2.2)
    (hub : ∀ a, κ a = ka → a = b) (huh : ∀ a, κ a = kh → a = h0) (hnr : ∀ a j : Nat, j < (hk_t (κ a)).2.2 → a ≠ h0 → hk_s (κ a) j ≠ (4, ka)) (hnr2 : ∀ a j : Nat, j < (hk_t (κ a)).2.2 → hk_s (κ a) j ≠ (4, kh)) : hp_Z dC dI dA (hp_kk (hp_kk κ b ka') h0 kh') B g H0 H locs := by
  have hbh : b ≠ h0 := fun e => hne (by rw [← kb, ← kh0, e])
  have n0 : ∀ {k k' : Nat}, hk_t k' = hk_t k → (hk_t k').1 ≠ 0 → k ≠ 0 := by
    intro k k' h1 h2 h3
    rw [h1, h3] at h2
    exact h2 rfl
  obtain ⟨κ', eκ⟩ : ∃ z, z = hp_kk (hp_kk κ b ka') h0 kh' := ⟨_, rfl⟩
  rw [← eκ]
  have c1 : κ' h0 = kh' := by rw [eκ]; exact hp_kk_s _ _ _
  have c2 : κ' b = ka' := by rw [eκ, hp_kk_n hbh]; exact hp_kk_s _ _ _
  have c3 : ∀ a, a ≠ h0 → a ≠ b → κ' a = κ a := fun a h1 h2 => by rw [eκ, hp_kk_n h1, hp_kk_n h2]
  have hmono : ∀ {e : Int} {sp : Nat × Nat} {w : Value}, sp ≠ (4, ka) → sp ≠ (4, kh) → hs_ok κ e sp w → hs_ok κ' e sp w := by
    intro e sp w h1 h2 h
    refine h.mono (fun h4 x hx => ?_)
    by_cases hxs : x = h0
    · rw [hxs, kh0] at hx
      exact absurd (Prod.ext h4 hx.symm) h2
    · by_cases hxb : x = b
      · rw [hxb, kb] at hx
        exact absurd (Prod.ext h4 hx.symm) h1
      · rw [c3 x hxs hxb]; exact hx
  refine ⟨⟨fun a ha => ?_, fun a a' ha hab => ?_⟩, fun a => ?_, fun a => ?_, hB, ⟨hp_u F b i (.ref n), fun a => ?_, fun a j hj => ?_⟩, hS⟩
  · by_cases h : a = h0
    · rw [h]; exact hW.1 h0 (by rw [kh0]; exact n0 hth hvh)
    · by_cases h' : a = b
      · rw [h']; exact hW.1 b (by rw [kb]; exact n0 hta hva)
      · rw [c3 a h h'] at ha
        exact hW.1 a ha
  · by_cases h : a = h0
    · rw [h, c1, hxh] at ha; cases ha
    · by_cases h' : a = b
      · rw [h', c2, hxa] at ha; cases ha
      · by_cases g1 : a' = h0
        · rw [hab, g1, c1, hxh] at ha; cases ha
        · by_cases g2 : a' = b
          · rw [hab, g2, c2, hxa] at ha; cases ha
          · rw [c3 a h h', c3 a' g1 g2] at hab
            rw [c3 a h h'] at ha
            exact hW.2 a a' ha hab
  · by_cases h : a = h0
    · rw [h, c1]; exact Or.inr hvh
    · by_cases h' : a = b
      · rw [h', c2]; exact Or.inr hva
      · rw [c3 a h h']; exact hV a
  · by_cases h : a = h0
    · rw [h, c1]; exact hokh
    · by_cases h' : a = b
      · rw [h', c2]; exact hoka
      · rw [c3 a h h']; exact hKk a
  · have h9 := hM a
    by_cases h : a = h0
    · rw [h, kh0, ← hth] at h9
      rw [h, c1]; exact h9
    · by_cases h' : a = b
      · rw [h', kb, ← hta] at h9
        rw [h', c2]; exact h9
      · rw [c3 a h h']; exact h9
  · by_cases h : a = h0
    · subst h
      rw [c1] at hj ⊢
      have hF : hp_u F b i (.ref n) a j = F a j := by
        unfold hp_u
        rw [if_neg (Ne.symm hbh)]
      rw [hF]
      have h9 := hO a j
      rw [kh0, ← hth] at h9
      have h9 := h9 hj
      by_cases hjf : j = kf
      · subst hjf
        rw [hsf] at h9
        obtain ⟨x, hx1, hx2⟩ := (show ∃ x : Nat, F a j = .ref x ∧ κ x = ka from h9)
        rw [hsf']
        exact ⟨x, hx1, by rw [hub x hx2]; exact c2⟩
      · obtain ⟨h1, h2, h3⟩ := hsh j hjf hj
        rw [h1]
        exact hmono h3 (by have := hnr2 a j (by rw [kh0, ← hth]; exact hj); rw [kh0] at this; exact this) (h9.ng h2)
    · by_cases h' : a = b
      · subst h'
        rw [c2] at hj ⊢
        unfold hp_u
        rw [if_pos rfl]
        unfold updV
        by_cases hji : j = i
        · subst hji
          rw [if_pos rfl, hsi]
          exact ⟨n, rfl, by rw [c3 n (fun e => hne3 (by rw [← knn, e, kh0])) (fun e => hne2 (by rw [← knn, e, kb]))]; exact knn⟩
        · rw [if_neg hji]
          obtain ⟨h1, h2⟩ := hsa j hji hj
          have h9 := hO a j
          rw [kb, ← hta] at h9
          rw [h1]
          refine hmono ?_ ?_ ((h9 hj).ng h2)
          · have := hnr a j (by rw [kb, ← hta]; exact hj) h; rw [kb] at this; exact this
          · have := hnr2 a j (by rw [kb, ← hta]; exact hj); rw [kb] at this; exact this
      · rw [c3 a h h'] at hj ⊢
        have hF : hp_u F b i (.ref n) a j = F a j := by
          unfold hp_u
          rw [if_neg h']
        rw [hF]
        exact hmono (hnr a j hj h) (hnr2 a j hj) (hO a j hj)
end HPR
section HPS
variable {p : Program} {l : Launch} {e : Env} {R : Room} {s : State} {m : MethodId} {args : Array Value} {below : List Frame} {meth : Method} {c : Code} {H : Heap} {locs : List Loc} {cells slots : Nat} {Q : State → Prop}
variable {cc : ByteArray} {pc : Nat} {ls : Array Slot} {rest : List Value}
variable {dC : Nat → ClassId} {dI : Nat → Nat → Nat} {dA : Nat → ClassId} {κ : Nat → Nat} {B : Nat} {g : Nat → Nat → Int} {H0 : Heap} {a : Nat}
/-- aastore, the memory outright -/
theorem hp_aasv (t : Nat) (hx : p.tables.exec = Jvm.exec) (hb : c.code = cc) {kd n : Nat} (hK : va_K (dC, dI) vwCl (hp_ty dA) s) (hJ : hp_J dC dI dA κ B g H0 H locs) (hκ : κ a = kd) (ht : hk_t kd = (2, t, n)) {i : Int32} (h1 : 0 ≤ i.toInt) (h2 : i.toInt < (n : Int)) {b k2 ci N : Nat} {q : vw_C} (h0 : kd ≠ 0) (hW : hp_W κ B) (hκb : κ b = k2) (htb : hk_t k2 = (1, ci, N)) (hc : vwCl[ci]? = some q) (hq : (hp_ty dA)[t]? = some (dA t, .object q.1)) (hdg : decode cc pc = .ok (.aastore, 1))
    (kk : ∀ (F : hp_F) (H1 : Heap) (locs1 : List Loc), hp_M dC dI dA κ (hp_u F a i.toInt.toNat (.ref b)) H1 → hp_O κ g F → va_S (hp_A B) H0 H1 locs1 → W p l e R s m args below meth c H1 locs1 cells slots Q (F0 m (pc + 1) ls rest)) : W p l e R s m args below meth c H locs cells slots Q (F0 m pc ls (.ref b :: .int i :: .ref a :: rest)) := by
  obtain ⟨⟨F, hM, hO⟩, hS0⟩ := hJ
  have h := hM a
  rw [hκ, ht] at h
  have hv := hM b
  rw [hκb, htb] at hv
  obtain ⟨cell, g1, g2, g3, -⟩ := (show t_OB b (dC ci) N (dI ci) H (F b) from hv)
  have hin := hi_in h1 h2
  have hlt : i.toNatClampNeg < n := Nat.not_le.mp fun q => hin (Or.inr q)
  have hi0 : ¬ i < 0 := fun q => hin (Or.inl q)
  have hcls := (hK.1 ci q hc).2
  obtain ⟨kA, comp, k1, k2', k3, -⟩ := (hK.2 t _ hq).2
  have hcomp : comp = dC ci := Option.some.inj (k3.symm.trans hcls.1)
  subst hcomp
  obtain ⟨kC, hkC, -⟩ := id hcls.2
  have h : H[a]? = some (arrV (dA t) n (F a)) := by
    match t, h with
    | t, h => exact h
  refine W.aast hx hb h (fun q h => by cases h) (fun h => by cases h) k1 k2' rfl hkC ⟨hi0, by show _ < (arrV _ _ _).slots.size; rw [arrV_size]; exact hlt⟩ g1 (fun q h => by rw [g3] at h; cases h) (by rw [g2]; exact hkC) (by rw [g2]; exact va_assign hcls) rfl rfl hdg fun H' e1 e2 e3 => ?_
  refine kk F H' _ (hp_set (k := i.toInt.toNat) (v := .ref b) hM ?_ e3) hO (hS0.put e2 e3 (hW.1 a (by rw [hκ]; exact h0)))
  rw [hκ, ht]
  exact e1.trans (congrArg some (arrV_store _ _ _ _ _))
end HPS
