theorem iX3_init_X3 : ∀ w ∈ wsX30, w ∈ wsX3_init := fun _ h => List.mem_cons_of_mem _ (List.mem_append_left _ (List.mem_append_left _ (List.mem_append_right _ h)))
theorem iX3_init_X2 : ∀ w ∈ wsX20, w ∈ wsX3_init := fun _ h => List.mem_cons_of_mem _ (List.mem_append_left _ (List.mem_append_right _ h))
theorem iX3_init_X0 : ∀ w ∈ wsX00, w ∈ wsX3_init := fun _ h => List.mem_cons_of_mem _ (List.mem_append_right _ h)
set_option maxRecDepth 100000 in
set_option maxHeartbeats 4000000 in
theorem c_X3_init (l : Launch) (dC : Nat → ClassId) (dI : Nat → Nat → Nat) (dA : Nat → ClassId) (κ : Nat → Nat) (B : Nat) (g : Nat → Nat → Int) (h0 : Nat) (k0 : κ h0 = 37) (hg : g 10 1 = 0) (hu : ∀ a, κ a ≠ 10) (hu16 : ∀ a, κ a ≠ 16) (hu6 : ∀ a, a ≠ h0 → κ a < 40 ∨ 80 ≤ κ a) (hu3 : ∀ a, 300 ≤ κ a → 12 ≤ (κ a - 300) % 20) : Met l yX3_init wsX3_init ({ frames := 4, cells := 49, slots := 5232, locals := 83 } : Room) (hp_PT dC dI dA κ B g [.ref h0]) (hp_QT dC dI dA κ B g h0 (10) (fun n => n = 0 ∨ n = 16 ∨ (300 ≤ n ∧ n < 380 ∧ (n < 312 ∨ 320 ≤ n) ∧ (n - 300) % 20 < 12))) 49 5232 (hp_A B) := by
  refine Met.ofW (cc := cX3_init) (maxL := 2) (ret := none) (by decide) rfl ?_
  intro p e s m args below meth c s₁ Bd hml hv
  obtain ⟨rfl, ⟨hK, hN, hW, hF⟩, hV, hKk, hBz, hAO⟩ := hv
  have hx := Bd.exec
  have hb := Bd.bytes
  have hr := Bd.returns
  have hts := atoms_spec (ws := wsX3_init) Bd.pre
  have hown : s.vm.findClass RX3 = some m.cls := findClass_of_methodNamed Bd.named
  have hlocks := Bd.notSynchronized
  have hin : meth.name = "<init>" := (name_of_methodNamed Bd.named Bd.method).1
  have hZ : hp_Z dC dI dA κ B g s.heap s.heap [] := ⟨hW, hV, hKk, hBz, hF, va_S.rf⟩
  have hl := lv_entry ([Value.ref h0]) (n := 2) (Nat.le_of_ble_eq_true rfl)
  rw [lg_entry_eq]
  generalize (lg_sl ([Value.ref h0]) ++ List.replicate (2 - (lg_sl ([Value.ref h0])).length) Slot.unset).toArray = ls at hl ⊢
  have hl : lv_has ls 2 [(0, .ref h0)] := hl
  have hE : hp_EN (fun n => n = 0 ∨ n = 16 ∨ (300 ≤ n ∧ n < 380 ∧ (n < 312 ∨ 320 ≤ n) ∧ (n - 300) % 20 < 12)) κ κ h0 h0 := en_rf (show 0 = 0 ∨ 0 = 16 ∨ (300 ≤ 0 ∧ 0 < 380 ∧ (0 < 312 ∨ 320 ≤ 0) ∧ (0 - 300) % 20 < 12) from by omega)
  have h0n : κ h0 ≠ 0 := by rw [k0]; omega
  refine lv_aload_n hx hb dX3_init_0 rfl (lv_at hl 0 rfl) ?_
  refine W.objInit hx hb hown (hts (.methodLink RX3 3 objectInit) (List.mem_of_getElem? (i := 1) rfl)) (hts (.instanceMethod objectInit) (List.mem_of_getElem? (i := 2) rfl)) (hts (.code objectInit ⟨#[0xb1]⟩ 1 none) (List.mem_of_getElem? (i := 3) rfl)) rfl (by rw [hml]; exact hl.1) rfl dX3_init_1 (Nat.le_of_ble_eq_true rfl) (Nat.le_of_ble_eq_true rfl) ?_
  refine lv_aload_n hx hb dX3_init_4 rfl (lv_at hl 0 rfl) ?_
  refine hq_bipush hx hb dX3_init_5 (by decide) (fun z1 ez1 => ?_)
  refine hp_newr (C := RX2) (ty := 4) (N := 12) (kd := 40) hx hb hown (hts (.classLink RX3 9 RX2) (List.mem_of_getElem? (i := 4) rfl)) hAO.2 hZ (show s.vm.findClass ("[" ++ (FieldType.object RX2).toString) = some (dA 4) from (by obtain ⟨kA, comp, q1, q2, q3, q4⟩ := (hK.2 4 _ rfl).2; exact q4)) rfl (by unfold hk_ok; omega) (fun _ k _ => trivial) (fun h => absurd h (by decide)) (by omega) (by omega) (by show 0 + 1 ≤ 49; omega) (by show 0 + 12 ≤ 5232; omega) dX3_init_7 (fun b2 H zb2 hZ => ?_)
  refine W.cs (cells' := 1) (slots' := 12) (by omega) (by omega) ?_
  have yb2 : κ b2 = 0 := zb2
  obtain ⟨κ3, eκ3⟩ : ∃ z, z = hp_kk κ b2 (40) := ⟨_, rfl⟩
  rw [← eκ3] at hZ
  have k4 : κ3 h0 = 37 := by rw [eκ3, hp_kk_n (ne_k k0 zb2 (by omega))]; exact k0
  have k5 : κ3 b2 = 40 := by rw [eκ3]; exact hp_kk_s _ _ _
  have hE : hp_EN (fun n => n = 0 ∨ n = 16 ∨ (300 ≤ n ∧ n < 380 ∧ (n < 312 ∨ 320 ≤ n) ∧ (n - 300) % 20 < 12)) κ κ3 h0 b2 := by rw [eκ3]; exact en_raw hE h0n zb2
  refine hp_putF (C := RX3) (T := TX3) (N := 2) (ci := 3) (kd := 37) hx hb hts iX3_init_X3 hown hK hZ.2.2.2.2 k4 (rfl : hk_t 37 = (1, 3, 2)) rfl 0 (by decide) (hts (.fieldLink RX3 11 "NeighborBook$Neighbors" "rows" "[LNeighborBook$Neighbor;") (List.mem_of_getElem? (i := 5) rfl)) (fun _ h9 => h9) tyX3 tyX3_ok nmX3 (v := .ref b2) rfl rfl (by omega) hZ.1 rfl hin rfl dX3_init_10 (fun F H locs hM hO hS => ?_)
  have hZ := hp_step (k1 := 37) (k2 := 60) hZ.1 hZ.2.1 hZ.2.2.1 (Nat.le_trans hBz hS.1) hM hO hS k4 ((rfl : hk_t 60 = (1, 3, 2)).trans (rfl : hk_t 37 = (1, 3, 2)).symm) (by unfold hk_ok; omega) (by rw [(rfl : hk_t 60 = (1, 3, 2))]; decide) (fun a j hj _ h => by have := hk_sr (hZ.2.2.1 a) h hj; omega) (fun j hj h => by have := hk_sr (kd := 60) (by unfold hk_ok; omega) h hj; omega) ⟨b2, rfl, k5⟩ (fun j hj hl w hw => by
        have hl : j < 2 := by rw [(rfl : hk_t 37 = (1, 3, 2))] at hl; exact hl
        match j, hj, hl, hw with
        | 1, _, _, hw => exact hw
        | 0, hj, _, _ => exact absurd rfl hj) (fun h => absurd h (by decide))
  obtain ⟨κ6, eκ6⟩ : ∃ z, z = hp_kk κ3 h0 (60) := ⟨_, rfl⟩
  rw [← eκ6] at hZ
  have k7 : κ6 b2 = 40 := by rw [eκ6, hp_kk_n (fun h9 => by rw [h9, k4] at k5; omega)]; exact k5
  have k8 : κ6 h0 = 60 := by rw [eκ6]; exact hp_kk_s _ _ _
  have hE : hp_EN (fun n => n = 0 ∨ n = 16 ∨ (300 ≤ n ∧ n < 380 ∧ (n < 312 ∨ 320 ≤ n) ∧ (n - 300) % 20 < 12)) κ κ6 h0 b2 := by rw [eκ6]; exact en_step hE h0n
  have hub : ∀ a, κ6 a = 40 → a = b2 := by
    intro a h
    by_cases ha : a = h0
    · rw [ha, k8] at h; cases h
    · by_cases hz : κ a = 0
      · rcases hE.2 a hz with h3 | h3
        · exact h3
        · exact absurd h (nn_g h3).2
      · have := hu6 a ha; rw [hE.1 a hz ha] at h; omega
  have hcol : ∀ a, 300 ≤ κ6 a → (κ6 a - 300) % 20 < 0 ∨ 12 ≤ (κ6 a - 300) % 20 := by
    intro a h
    by_cases ha : a = h0
    · rw [ha, k8] at h; omega
    · by_cases hab : a = b2
      · rw [hab, k7] at h; omega
      · rw [eκ6, hp_kk_n ha, eκ3, hp_kk_n hab] at h ⊢; exact Or.inr (hu3 a h)
  have h16 : ∀ a, κ6 a ≠ 16 := by
    intro a h
    by_cases ha : a = h0
    · rw [ha, k8] at h; omega
    · by_cases hab : a = b2
      · rw [hab, k7] at h; omega
      · rw [eκ6, hp_kk_n ha, eκ3, hp_kk_n hab] at h; exact hu16 a h
  refine hq_iconst hx hb dX3_init_13 (by decide) (by decide) (fun z9 ez9 => ?_)
  refine lv_istore_n (lv' := [(1, .int z9), (0, .ref h0)]) hx hb dX3_init_14 rfl hl (by decide) rfl (fun ls hl => ?_)
  have lp : ∀ (n i : Nat) (v : Int32) (κi : Nat → Nat) (H : Heap) (locs : List Loc) (ls : Array Slot), i ≤ 12 → v.toInt = (i : Int) → 12 - i < n → κi h0 = 60 + i → κi b2 = 40 + i → (∀ a, κi a = 40 + i → a = b2) → (∀ a, 300 ≤ κi a → (κi a - 300) % 20 < i ∨ 12 ≤ (κi a - 300) % 20) → (∀ a, κi a ≠ 16) → hp_EN (fun n => n = 0 ∨ n = 16 ∨ (300 ≤ n ∧ n < 380 ∧ (n < 312 ∨ 320 ≤ n) ∧ (n - 300) % 20 < 12)) κ κi h0 b2 → hp_Z dC dI dA κi B g s.heap H locs → lv_has ls 2 [(0, .ref h0), (1, .int v)] → W p l e (headSpec wsX3_init ({ frames := 4, cells := 49, slots := 5232, locals := 83 } : Room)).room s m ([Value.ref h0] : List Value).toArray below meth c H locs (1 + 4 * i) (12 + 435 * i) (MQ below (hp_QT dC dI dA κ B g h0 (10) (fun n => n = 0 ∨ n = 16 ∨ (300 ≤ n ∧ n < 380 ∧ (n < 312 ∨ 320 ≤ n) ∧ (n - 300) % 20 < 12))) ([Value.ref h0] : List Value).toArray s 49 5232 (hp_A B)) (F0 m 15 ls []) := by
    intro n
    induction n with
    | zero => intro i v κi H locs ls h1 h2 h3; exact absurd h3 (by omega)
    | succ n ih =>
      intro i v κi H locs ls hi hv hn kh kb hub hcol h16 hE hZ hl
      refine lv_iload_n hx hb dX3_init_15 rfl (lv_at hl 1 rfl) ?_
      refine hq_bipush hx hb dX3_init_16 (by decide) (fun z9 ez9 => ?_)
      refine hq_icmp_ge (tgt := 40) hx hb dX3_init_18 (by decide) (fun c9 => ?_) (fun c9 => ?_)
      · have hi12 : i = 12 := by omega
        subst hi12
        have hu2 : ∀ a, κi a ≠ 10 := by
          intro a h
          by_cases ha : a = h0
          · rw [ha, kh] at h; omega
          · by_cases hz : κ a = 0
            · rcases hE.2 a hz with h3 | h3
              · rw [h3, kb] at h; omega
              · exact absurd h (nn_g h3).1
            · exact hu a (by rw [← hE.1 a hz ha]; exact h)
        have hZ2 := hp_fin12 (b := b2) (h0 := h0) hZ kb kh hub hu2 h16 hg (fun a ha => by
          by_cases hz : κ a = 0
          · rcases hE.2 a hz with h3 | h3
            · exact Or.inr (Or.inl ⟨by rw [h3]; exact kb, h3⟩)
            · exact (nn_f h3).elim Or.inl (fun h9 => Or.inr (Or.inr h9))
          · rw [hE.1 a hz ha]; exact (hu6 a ha).elim Or.inl (fun h9 => Or.inr (Or.inr h9)))
        have hD : hp_D (fun n => n = 0 ∨ n = 16 ∨ (300 ≤ n ∧ n < 380 ∧ (n < 312 ∨ 320 ≤ n) ∧ (n - 300) % 20 < 12)) κ (hp_kk (hp_kk κi b2 16) h0 10) h0 10 := by
          have hbh : b2 ≠ h0 := fun e9 => by rw [e9, kh] at kb; omega
          refine ⟨hp_kk_s _ _ _, fun a h1 h2 => ?_, fun a h1 => ?_⟩
          · rw [hp_kk_n h2, hp_kk_n (fun e9 => h1 (by rw [e9]; exact yb2))]
            exact hE.1 a h1 h2
          · rw [hp_kk_n (fun e9 => h0n (by rw [← e9]; exact h1))]
            by_cases e9 : a = b2
            · rw [e9, hp_kk_s]; exact Or.inr (Or.inl rfl)
            · rw [hp_kk_n e9]
              exact (hE.2 a h1).elim (fun h3 => absurd h3 e9) id
        exact hp_Tret hx hb hK hN hAO hlocks hZ2 hr hD dX3_init_40
      · refine lv_aload_n hx hb dX3_init_21 rfl (lv_at hl 0 rfl) ?_
        refine hp_getr (C := RX3) (T := TX3) (N := 2) (ci := 3) (kd := 60 + i) (k2 := 40 + i) hx hb hts iX3_init_X3 hown hK hZ.2.2.2.2 kh (hk_t60 hi) rfl 0 (by decide) (hts (.fieldLink RX3 11 "NeighborBook$Neighbors" "rows" "[LNeighborBook$Neighbor;") (List.mem_of_getElem? (i := 5) rfl)) (fun _ h9 => h9) (hk_s60 hi) dX3_init_22 (fun b7 kb7 => ?_)
        have eb7 := hub b7 kb7
        subst eb7
        refine lv_iload_n hx hb dX3_init_25 rfl (lv_at hl 1 rfl) ?_
        refine hp_newo (C := RX2) (T := TX2) (N := 4) (ci := 2) (kd := 36) hx hb hts iX3_init_X2 tyX2 tyX2_ok hown (hts (.classLink RX3 9 RX2) (List.mem_of_getElem? (i := 4) rfl)) (hts (.instantiable RX2 4) (List.mem_of_getElem? (i := 6) rfl)) (hts (.initialized RX2) (List.mem_of_getElem? (i := 7) rfl)) hK hZ rfl rfl (by unfold hk_ok; omega) (fun _ k hk => by match k, hk with | 0, _ => exact trivial | 1, _ => exact ⟨0, rfl, by decide, by decide⟩ | 2, _ => exact ⟨0, rfl, trivial⟩ | 3, _ => exact ⟨0, rfl, trivial⟩) (fun h => absurd h (by decide)) (by show 1 + 4 * i + 1 ≤ 49; omega) (by show 12 + 435 * i + 4 ≤ 5232; omega) dX3_init_26 (fun o8 H zo8 hZ => ?_)
        obtain ⟨κ8, e8⟩ : ∃ z, z = hp_kk κi o8 36 := ⟨_, rfl⟩
        rw [← e8] at hZ
        have ko8 : κ8 o8 = 36 := by rw [e8]; exact hp_kk_s _ _ _
        have kh8 : κ8 h0 = 60 + i := by rw [e8, hp_kk_n (ne_k kh zo8 (by omega))]; exact kh
        have kb8 : κ8 b7 = 40 + i := by rw [e8, hp_kk_n (ne_k kb zo8 (by omega))]; exact kb
        have hb7h : b7 ≠ h0 := fun e9 => by rw [e9, kh] at kb; omega
        have hi12 : i < 12 := by omega
        have hu8 : ∀ a, κ8 a ≠ 300 + i ∧ κ8 a ≠ 340 + i ∧ κ8 a ≠ 360 + i := by
          intro a
          by_cases hao : a = o8
          · rw [hao, ko8]; omega
          · rw [e8, hp_kk_n hao]; exact nn_8 hi12 (hcol a)
        have yo8 : κ o8 = 0 := Classical.byContradiction fun h1 => by
          have h2 := hE.1 o8 h1 (ne_k kh zo8 (by omega)).symm
          rw [zo8] at h2
          exact h1 h2.symm
        refine lv_dup hx hb dX3_init_29 rfl ?_
        refine hp_callT (va_runIN (As := []) (rest := [.ref o8, .int v, .ref b7, ]) ⟨hx, hb, hml, hown, hts⟩ (c_X2_init l dC dI dA κ8 B g o8 ko8 i (by omega) hu8) ⟨va_cnB 0 hts gX3_init_X2_init_n17 rfl rfl rfl (hN _ (List.mem_of_getElem? (i := 0) rfl)) (hts (.initialized RX2) (List.mem_of_getElem? (i := 7) rfl)) (by decide +kernel) ⟨Nat.le_of_ble_eq_true rfl, Nat.le_of_ble_eq_true rfl⟩, rfl, (hts (.instanceMethod yX2_init) (List.mem_of_getElem? (i := 8) rfl))⟩ (hp_preT [.ref o8] hK hN hAO hZ) rfl rfl hl.1 rfl (lv_room (Nat.le_of_ble_eq_true rfl)) dX3_init_30 ⟨(by show 1 + 4 * i + 1 + 3 ≤ 49; omega), (by show 12 + 435 * i + 4 + 431 ≤ 5232; omega)⟩) hZ (fun κ9 H locs hD9 hZ => ?_)
        have ko9 : κ9 o8 = 300 + i := hD9.1
        have kh9 : κ9 h0 = 60 + i := (hD9.2.1 h0 (by rw [kh8]; omega) (fun e9 => by rw [e9, ko8] at kh8; omega)).trans kh8
        have kb9 : κ9 b7 = 40 + i := (hD9.2.1 b7 (by rw [kb8]; omega) (fun e9 => by rw [e9, ko8] at kb8; omega)).trans kb8
        have hal9 : ∀ a, a ≠ h0 → a ≠ b7 → κ9 a < 40 ∨ 80 ≤ κ9 a := by
          intro a ha hab
          by_cases hao : a = o8
          · rw [hao, ko9]; omega
          · by_cases hz8 : κ8 a = 0
            · exact nn_a hi12 (hD9.2.2 a hz8)
            · rw [hD9.2.1 a hz8 hao, e8, hp_kk_n hao]
              by_cases hz : κ a = 0
              · rcases hE.2 a hz with h3 | h3
                · exact absurd h3 hab
                · exact nn_f h3
              · have := hu6 a ha; rw [hE.1 a hz ha]; exact this
        have hcol9 : ∀ a, 300 ≤ κ9 a → (κ9 a - 300) % 20 < i + 1 ∨ 12 ≤ (κ9 a - 300) % 20 := by
          intro a h
          by_cases hao : a = o8
          · rw [hao, ko9]; omega
          · by_cases hz8 : κ8 a = 0
            · exact nn_b hi12 (hD9.2.2 a hz8) h
            · rw [hD9.2.1 a hz8 hao, e8, hp_kk_n hao] at h ⊢
              exact nn_i (hcol a h)
        have h169 : ∀ a, κ9 a ≠ 16 := by
          intro a h
          by_cases hao : a = o8
          · rw [hao, ko9] at h; omega
          · by_cases hz8 : κ8 a = 0
            · exact nn_c (hD9.2.2 a hz8) h
            · rw [hD9.2.1 a hz8 hao, e8, hp_kk_n hao] at h
              exact h16 a h
        have hub9 : ∀ a, κ9 a = 40 + i → a = b7 := fun a h => Classical.byContradiction fun hab => by
          by_cases ha : a = h0
          · rw [ha, kh9] at h; omega
          · exact (nn_u (hal9 a ha hab) hi).1 h
        refine hp_aasv 4 (q := (RX2, TX2, 4)) (n := 12) hx hb hK hZ.2.2.2.2 kb9 (hk_t40 hi) (by omega) (by omega) (by omega) hZ.1 ko9 (hk_t300 (by omega)) rfl rfl dX3_init_33 (fun F H locs hM hO hS => ?_)
        have hii : v.toInt.toNat = i := by omega
        rw [hii] at hM
        have hZ := hp_row (ka := 40 + i) (ka' := 41 + i) (kh := 60 + i) (kh' := 61 + i) (kn := 300 + i) (kf := 0) hZ.1 hZ.2.1 hZ.2.2.1 (Nat.le_trans hBz hS.1) hM hO hS kb9 kh9 ko9 (by rw [hk_t40 hi, show 41 + i = 40 + (i + 1) by omega, hk_t40 (by omega)]) (by rw [hk_t60 hi, show 61 + i = 60 + (i + 1) by omega, hk_t60 (by omega)]) (by unfold hk_ok; omega) (by unfold hk_ok; omega) (by rw [show 41 + i = 40 + (i + 1) by omega, hk_t40 (by omega)]; simp) (by rw [show 61 + i = 60 + (i + 1) by omega, hk_t60 (by omega)]; simp) (hk_xbig (by omega) (by omega)) (hk_xbig (by omega) (by omega)) (by omega) (by omega) (by omega)
          (hk_row40 (by omega)) (hk_rowi40 (by omega)) (hk_row60 (by omega)) (hk_s60 hi) (by rw [show 61 + i = 60 + (i + 1) by omega, hk_s60 (by omega), show 40 + (i + 1) = 41 + i by omega]) (by rw [show 61 + i = 60 + (i + 1) by omega, hk_t60 (by omega)]; decide) hub9 (fun a h => Classical.byContradiction fun ha => by
            by_cases hab : a = b7
            · rw [hab, kb9] at h; omega
            · exact (nn_u (hal9 a ha hab) hi).2.1 h)
          (fun a j hj ha h => by
            have h5 := nn_s (hZ.2.2.1 a) hj hi h
            by_cases hab : a = b7
            · rw [hab, kb9] at h5; omega
            · exact (nn_u (hal9 a ha hab) hi).2.1 h5)
          (fun a j hj => nn_t (hZ.2.2.1 a) hj hi)
        obtain ⟨κ10, e10⟩ : ∃ z, z = hp_kk (hp_kk κ9 b7 (41 + i)) h0 (61 + i) := ⟨_, rfl⟩
        rw [← e10] at hZ
        refine hq_iinc (k := 1) (lv' := fun (z9 : Int32) => [(1, .int z9), (0, .ref h0)]) hx hb dX3_init_34 hl rfl (by decide) (by decide) (by omega) (by omega) (by decide) (fun _ => rfl) (fun x9 ls ex9 hl => ?_)
        have hl : lv_has ls 2 [(1, .int x9), (0, .ref h0)] := hl
        refine lv_goto (tgt := 15) hx hb dX3_init_37 (by decide) ?_
        refine W.cs (cells' := 1 + 4 * (i + 1)) (slots' := 12 + 435 * (i + 1)) (by omega) (by omega) ?_
        exact ih (i + 1) x9 κ10 _ _ ls (by omega) (by omega) (by omega) (by rw [e10, hp_kk_s]; omega) (by rw [e10, hp_kk_n hb7h, hp_kk_s]; omega) (fun a h => Classical.byContradiction fun hab => by
            by_cases ha : a = h0
            · rw [ha, e10, hp_kk_s] at h; omega
            · rw [e10, hp_kk_n ha, hp_kk_n hab] at h
              exact nn_v (hal9 a ha hab) hi h)
          (fun a h => by
            by_cases ha : a = h0
            · rw [ha, e10, hp_kk_s] at h; omega
            · by_cases hab : a = b7
              · rw [hab, e10, hp_kk_n hb7h, hp_kk_s] at h; omega
              · rw [e10, hp_kk_n ha, hp_kk_n hab] at h ⊢; exact hcol9 a h)
          (fun a h => by
            by_cases ha : a = h0
            · rw [ha, e10, hp_kk_s] at h; omega
            · by_cases hab : a = b7
              · rw [hab, e10, hp_kk_n hb7h, hp_kk_s] at h; omega
              · rw [e10, hp_kk_n ha, hp_kk_n hab] at h; exact h169 a h)
          ⟨fun a h1 h2 => by
            have hab : a ≠ b7 := fun e9 => h1 (by rw [e9]; exact yb2)
            have h3 := hE.1 a h1 h2
            have hao : a ≠ o8 := fun e9 => h1 (by rw [e9]; exact yo8)
            rw [e10, hp_kk_n h2, hp_kk_n hab, hD9.2.1 a (by rw [e8, hp_kk_n hao, h3]; exact h1) hao, e8, hp_kk_n hao]; exact h3, fun a h1 => by
            by_cases hab : a = b7
            · exact Or.inl hab
            · have ha : a ≠ h0 := fun e9 => h0n (by rw [← e9]; exact h1)
              refine Or.inr ?_
              rw [e10, hp_kk_n ha, hp_kk_n hab]
              by_cases hao : a = o8
              · rw [hao, ko9]; exact nn_e hi12
              · by_cases hz8 : κ8 a = 0
                · exact nn_d hi12 (hD9.2.2 a hz8)
                · rw [hD9.2.1 a hz8 hao, e8, hp_kk_n hao]
                  exact (hE.2 a h1).elim (fun h3 => absurd h3 hab) id⟩ hZ (lv_sub hl [1, 0] rfl)
  exact lp 13 0 z9 κ6 _ _ ls (by omega) (by omega) (by omega) k8 k7 hub hcol h16 hE hZ (lv_sub hl [1, 0] rfl)
