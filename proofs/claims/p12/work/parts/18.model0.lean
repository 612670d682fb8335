theorem iX7_init_X7 : ∀ w ∈ wsX70, w ∈ wsX7_init := fun _ h => List.mem_cons_of_mem _ (List.mem_append_right _ h)
set_option maxRecDepth 100000 in
set_option maxHeartbeats 4000000 in
theorem c_X7_init (l : Launch) (dC : Nat → ClassId) (dI : Nat → Nat → Nat) (dA : Nat → ClassId) (κ : Nat → Nat) (B : Nat) (g : Nat → Nat → Int) (h0 : Nat) (k0 : κ h0 = 200) (hal : ∀ a, a ≠ h0 → (κ a ≤ 17 ∧ κ a ≠ 11) ∨ 300 ≤ κ a) (hg : ∀ a b : Nat, (a = 11 ∧ (b = 1 ∨ b = 13 ∨ b = 19 ∨ b = 20 ∨ b = 22)) → g a b = 0) (hg2 : g 11 23 = -1) (hga : ∀ a b : Nat, 20 ≤ a → a ≤ 25 → g a b = 0) : Met l yX7_init wsX7_init ({ frames := 1, cells := 15, slots := 9149, locals := 12 } : Room) (hp_PT dC dI dA κ B g [.ref h0]) (hp_QU dC dI dA B g (fun κ' => κ' h0 = 11 ∧ (∀ a, κ a ≠ 0 → a ≠ h0 → κ' a = κ a) ∧ ∀ a, κ a = 0 → κ' a = 0 ∨ (18 ≤ κ' a ∧ κ' a ≤ 30) ∨ κ' a = 38 ∨ κ' a = 39)) 15 9149 (hp_A B) := by
  refine Met.ofW (cc := cX7_init) (maxL := 2) (ret := none) (by decide) rfl ?_
  intro p e s m args below meth c s₁ Bd hml hv
  obtain ⟨rfl, ⟨hK, hN, hW, hF⟩, hV, hKk, hBz, hAO⟩ := hv
  have hx := Bd.exec
  have hb := Bd.bytes
  have hr := Bd.returns
  have hts := atoms_spec (ws := wsX7_init) Bd.pre
  have hown : s.vm.findClass RX7 = some m.cls := findClass_of_methodNamed Bd.named
  have hlocks := Bd.notSynchronized
  have hin : meth.name = "<init>" := (name_of_methodNamed Bd.named Bd.method).1
  have hZ : hp_Z dC dI dA κ B g s.heap s.heap [] := ⟨hW, hV, hKk, hBz, hF, va_S.rf⟩
  have hl := lv_entry ([Value.ref h0]) (n := 2) (Nat.le_of_ble_eq_true rfl)
  rw [lg_entry_eq]
  generalize (lg_sl ([Value.ref h0]) ++ List.replicate (2 - (lg_sl ([Value.ref h0])).length) Slot.unset).toArray = ls at hl ⊢
  have hl : lv_has ls 2 [(0, .ref h0)] := hl
  have hE : hp_EN (fun n => n = 0) κ κ h0 h0 := en_rf (show 0 = 0 from by omega)
  have h0n : κ h0 ≠ 0 := by rw [k0]; omega
  refine lv_aload_n hx hb dX7_init_0 rfl (lv_at hl 0 rfl) ?_
  refine W.objInit hx hb hown (hts (.methodLink RX7 1 objectInit) (List.mem_of_getElem? (i := 1) rfl)) (hts (.instanceMethod objectInit) (List.mem_of_getElem? (i := 2) rfl)) (hts (.code objectInit ⟨#[0xb1]⟩ 1 none) (List.mem_of_getElem? (i := 3) rfl)) rfl (by rw [hml]; exact hl.1) rfl dX7_init_1 (Nat.le_of_ble_eq_true rfl) (Nat.le_of_ble_eq_true rfl) ?_
  have hm : ∀ a, a ≠ h0 → (κ a ≤ 17 ∧ κ a ≠ 11) ∨ 300 ≤ κ a := hal
  have hQ : ∀ a, κ a ≠ 0 → a ≠ h0 → κ a = κ a := fun _ _ _ => rfl
  have hR : ∀ a, κ a = 0 → κ a = 0 ∨ (18 ≤ κ a ∧ κ a ≤ 30) ∨ κ a = 38 ∨ κ a = 39 := fun a h => Or.inl h
  refine lv_aload_n hx hb dX7_init_4 rfl (lv_at hl 0 rfl) ?_
  refine hq_sipush hx hb dX7_init_5 (by decide) (fun z1 ez1 => ?_)
  refine hp_newi (atype := .byte) (ty := 1) (N := 700) (kd := 38) hx hb (hts (.arrayClass .byte) (List.mem_of_getElem? (i := 4) rfl)) hK hZ (hK.2 1 _ rfl).2 rfl (by unfold hk_ok; omega) (fun _ k _ => ⟨0, rfl, by decide, by decide⟩) (fun _ a h9 => by by_cases ha : a = h0; (rw [ha, k0] at h9; omega); (have := hm a ha; omega)) (by omega) (by show 700 * 1 ≤ 536870912; omega) (by show 0 + 1 ≤ 15; omega) (by show 0 + 700 ≤ 9149; omega) dX7_init_8 (fun b2 H zb2 hZ => ?_)
  refine W.cs (cells' := 1) (slots' := 700) (by omega) (by omega) ?_
  obtain ⟨κ3, eκ3⟩ : ∃ z, z = hp_kk κ b2 (38) := ⟨_, rfl⟩
  rw [← eκ3] at hZ
  have k4 : κ3 h0 = 200 := by rw [eκ3, hp_kk_n (ne_k k0 zb2 (by omega))]; exact k0
  have k5 : κ3 b2 = 38 := by rw [eκ3]; exact hp_kk_s _ _ _
  have hm : ∀ a, a ≠ h0 → (κ3 a ≤ 17 ∧ κ3 a ≠ 11) ∨ κ3 a = 38 ∨ κ3 a = 39 ∨ 300 ≤ κ3 a := by
    intro a ha
    by_cases hab : a = b2
    · rw [hab, k5]; omega
    · rw [eκ3, hp_kk_n hab]; have := hm a ha; omega
  have hR : ∀ a, κ a = 0 → κ3 a = 0 ∨ (18 ≤ κ3 a ∧ κ3 a ≤ 30) ∨ κ3 a = 38 ∨ κ3 a = 39 := by
    intro a ha
    by_cases hab : a = b2
    · rw [hab, k5]; omega
    · rw [eκ3, hp_kk_n hab]; exact hR a ha
  have hQ : ∀ a, κ a ≠ 0 → a ≠ h0 → κ3 a = κ a := fun a h1 h2 => by rw [eκ3, hp_kk_n (fun e9 => h1 (by rw [← hQ a h1 h2, e9, zb2])), hQ a h1 h2]
  refine hp_putF (C := RX7) (T := TX7) (N := 24) (ci := 7) (kd := 200) hx hb hts iX7_init_X7 hown hK hZ.2.2.2.2 k4 (rfl : hk_t 200 = (1, 7, 24)) rfl 0 (by decide) (hts (.fieldLink RX7 7 "NeighborBookModel" "typed" "[B") (List.mem_of_getElem? (i := 5) rfl)) (fun _ h9 => h9) tyX7 tyX7_ok nmX7 (v := .ref b2) rfl rfl (by omega) hZ.1 rfl hin rfl dX7_init_10 (fun F H locs hM hO hS => ?_)
  have hZ := hp_step (k1 := 200) (k2 := 201) hZ.1 hZ.2.1 hZ.2.2.1 (Nat.le_trans hBz hS.1) hM hO hS k4 ((rfl : hk_t 201 = (1, 7, 24)).trans (rfl : hk_t 200 = (1, 7, 24)).symm) (by unfold hk_ok; omega) (by rw [(rfl : hk_t 201 = (1, 7, 24))]; decide) (fun a j hj _ h => by have := hk_sr (hZ.2.2.1 a) h hj; omega) (fun j hj h => by have := hk_sr (kd := 201) (by unfold hk_ok; omega) h hj; omega) ⟨b2, rfl, k5⟩ (fun j hj hl w hw => by
        have hl : j < 24 := by rw [(rfl : hk_t 200 = (1, 7, 24))] at hl; exact hl
        match j, hj, hl, hw with
        | 1, _, _, hw => exact hw
        | 2, _, _, hw => exact hw
        | 3, _, _, hw => exact hw
        | 4, _, _, hw => exact hw
        | 5, _, _, hw => exact hw
        | 6, _, _, hw => exact hw
        | 7, _, _, hw => exact hw
        | 8, _, _, hw => exact hw
        | 9, _, _, hw => exact hw
        | 10, _, _, hw => exact hw
        | 11, _, _, hw => exact hw
        | 12, _, _, hw => exact hw
        | 13, _, _, hw => exact hw
        | 14, _, _, hw => exact hw
        | 15, _, _, hw => exact hw
        | 16, _, _, hw => exact hw
        | 17, _, _, hw => exact hw
        | 18, _, _, hw => exact hw
        | 19, _, _, hw => exact hw
        | 20, _, _, hw => exact hw
        | 21, _, _, hw => exact hw
        | 22, _, _, hw => exact hw
        | 23, _, _, hw => exact hw
        | 0, hj, _, _ => exact absurd rfl hj
        | n9 + 24, _, hl, _ => exact absurd hl (by omega)) (fun h => absurd h (by decide))
  obtain ⟨κ6, eκ6⟩ : ∃ z, z = hp_kk κ3 h0 (201) := ⟨_, rfl⟩
  rw [← eκ6] at hZ
  have k7 : κ6 b2 = 38 := by rw [eκ6, hp_kk_n (fun h9 => by rw [h9, k4] at k5; omega)]; exact k5
  have k8 : κ6 h0 = 201 := by rw [eκ6]; exact hp_kk_s _ _ _
  have hm : ∀ a, a ≠ h0 → (κ6 a ≤ 17 ∧ κ6 a ≠ 11) ∨ κ6 a = 38 ∨ κ6 a = 39 ∨ 300 ≤ κ6 a := fun a ha => by rw [eκ6, hp_kk_n ha]; exact hm a ha
  have hR : ∀ a, κ a = 0 → κ6 a = 0 ∨ (18 ≤ κ6 a ∧ κ6 a ≤ 30) ∨ κ6 a = 38 ∨ κ6 a = 39 := fun a ha => by rw [eκ6, hp_kk_n (fun e9 => h0n (by rw [← e9]; exact ha))]; exact hR a ha
  have hQ : ∀ a, κ a ≠ 0 → a ≠ h0 → κ6 a = κ a := fun a h1 h2 => by rw [eκ6, hp_kk_n h2, hQ a h1 h2]
  refine lv_aload_n hx hb dX7_init_13 rfl (lv_at hl 0 rfl) ?_
  refine hq_sipush hx hb dX7_init_14 (by decide) (fun z9 ez9 => ?_)
  refine hp_newi (atype := .byte) (ty := 1) (N := 540) (kd := 18) hx hb (hts (.arrayClass .byte) (List.mem_of_getElem? (i := 4) rfl)) hK hZ (hK.2 1 _ rfl).2 rfl (by unfold hk_ok; omega) (fun _ k _ => ⟨0, rfl, by decide, by decide⟩) (fun h => absurd h (by decide)) (by omega) (by show 540 * 1 ≤ 536870912; omega) (by show 1 + 1 ≤ 15; omega) (by show 700 + 540 ≤ 9149; omega) dX7_init_17 (fun b10 H zb10 hZ => ?_)
  refine W.cs (cells' := 2) (slots' := 1240) (by omega) (by omega) ?_
  obtain ⟨κ11, eκ11⟩ : ∃ z, z = hp_kk κ6 b10 (18) := ⟨_, rfl⟩
  rw [← eκ11] at hZ
  have k12 : κ11 h0 = 201 := by rw [eκ11, hp_kk_n (ne_k k8 zb10 (by omega))]; exact k8
  have k13 : κ11 b10 = 18 := by rw [eκ11]; exact hp_kk_s _ _ _
  have hm : ∀ a, a ≠ h0 → (κ11 a ≤ 18 ∧ κ11 a ≠ 11) ∨ κ11 a = 38 ∨ κ11 a = 39 ∨ 300 ≤ κ11 a := by
    intro a ha
    by_cases hab : a = b10
    · rw [hab, k13]; omega
    · rw [eκ11, hp_kk_n hab]; have := hm a ha; omega
  have hR : ∀ a, κ a = 0 → κ11 a = 0 ∨ (18 ≤ κ11 a ∧ κ11 a ≤ 30) ∨ κ11 a = 38 ∨ κ11 a = 39 := by
    intro a ha
    by_cases hab : a = b10
    · rw [hab, k13]; omega
    · rw [eκ11, hp_kk_n hab]; exact hR a ha
  have hQ : ∀ a, κ a ≠ 0 → a ≠ h0 → κ11 a = κ a := fun a h1 h2 => by rw [eκ11, hp_kk_n (fun e9 => h1 (by rw [← hQ a h1 h2, e9, zb10])), hQ a h1 h2]
  refine hp_putF (C := RX7) (T := TX7) (N := 24) (ci := 7) (kd := 201) hx hb hts iX7_init_X7 hown hK hZ.2.2.2.2 k12 (rfl : hk_t 201 = (1, 7, 24)) rfl 2 (by decide) (hts (.fieldLink RX7 13 "NeighborBookModel" "own" "[B") (List.mem_of_getElem? (i := 6) rfl)) (fun _ h9 => h9) tyX7 tyX7_ok nmX7 (v := .ref b10) rfl rfl (by omega) hZ.1 rfl hin rfl dX7_init_19 (fun F H locs hM hO hS => ?_)
  have hZ := hp_step (k1 := 201) (k2 := 202) hZ.1 hZ.2.1 hZ.2.2.1 (Nat.le_trans hBz hS.1) hM hO hS k12 ((rfl : hk_t 202 = (1, 7, 24)).trans (rfl : hk_t 201 = (1, 7, 24)).symm) (by unfold hk_ok; omega) (by rw [(rfl : hk_t 202 = (1, 7, 24))]; decide) (fun a j hj _ h => by have := hk_sr (hZ.2.2.1 a) h hj; omega) (fun j hj h => by have := hk_sr (kd := 202) (by unfold hk_ok; omega) h hj; omega) ⟨b10, rfl, k13⟩ (fun j hj hl w hw => by
        have hl : j < 24 := by rw [(rfl : hk_t 201 = (1, 7, 24))] at hl; exact hl
        match j, hj, hl, hw with
        | 0, _, _, hw => exact hw
        | 1, _, _, hw => exact hw
        | 3, _, _, hw => exact hw
        | 4, _, _, hw => exact hw
        | 5, _, _, hw => exact hw
        | 6, _, _, hw => exact hw
        | 7, _, _, hw => exact hw
        | 8, _, _, hw => exact hw
        | 9, _, _, hw => exact hw
        | 10, _, _, hw => exact hw
        | 11, _, _, hw => exact hw
        | 12, _, _, hw => exact hw
        | 13, _, _, hw => exact hw
        | 14, _, _, hw => exact hw
        | 15, _, _, hw => exact hw
        | 16, _, _, hw => exact hw
        | 17, _, _, hw => exact hw
        | 18, _, _, hw => exact hw
        | 19, _, _, hw => exact hw
        | 20, _, _, hw => exact hw
        | 21, _, _, hw => exact hw
        | 22, _, _, hw => exact hw
        | 23, _, _, hw => exact hw
        | 2, hj, _, _ => exact absurd rfl hj
        | n9 + 24, _, hl, _ => exact absurd hl (by omega)) (fun h => absurd h (by decide))
  obtain ⟨κ14, eκ14⟩ : ∃ z, z = hp_kk κ11 h0 (202) := ⟨_, rfl⟩
  rw [← eκ14] at hZ
  have k15 : κ14 b10 = 18 := by rw [eκ14, hp_kk_n (fun h9 => by rw [h9, k12] at k13; omega)]; exact k13
  have k16 : κ14 h0 = 202 := by rw [eκ14]; exact hp_kk_s _ _ _
  have hm : ∀ a, a ≠ h0 → (κ14 a ≤ 18 ∧ κ14 a ≠ 11) ∨ κ14 a = 38 ∨ κ14 a = 39 ∨ 300 ≤ κ14 a := fun a ha => by rw [eκ14, hp_kk_n ha]; exact hm a ha
  have hR : ∀ a, κ a = 0 → κ14 a = 0 ∨ (18 ≤ κ14 a ∧ κ14 a ≤ 30) ∨ κ14 a = 38 ∨ κ14 a = 39 := fun a ha => by rw [eκ14, hp_kk_n (fun e9 => h0n (by rw [← e9]; exact ha))]; exact hR a ha
  have hQ : ∀ a, κ a ≠ 0 → a ≠ h0 → κ14 a = κ a := fun a h1 h2 => by rw [eκ14, hp_kk_n h2, hQ a h1 h2]
  refine lv_aload_n hx hb dX7_init_22 rfl (lv_at hl 0 rfl) ?_
  refine hq_bipush hx hb dX7_init_23 (by decide) (fun z17 ez17 => ?_)
  refine hp_newi (atype := .int) (ty := 0) (N := 9) (kd := 19) hx hb (hts (.arrayClass .int) (List.mem_of_getElem? (i := 7) rfl)) hK hZ (hK.2 0 _ rfl).2 rfl (by unfold hk_ok; omega) (fun _ k _ => ⟨0, rfl, (show -1 ≤ (0 : Int32).toInt ∧ (0 : Int32).toInt ≤ ((60 : Nat) : Int) by decide)⟩) (fun h => absurd h (by decide)) (by omega) (by show 9 * 4 ≤ 536870912; omega) (by show 2 + 1 ≤ 15; omega) (by show 1240 + 9 ≤ 9149; omega) dX7_init_25 (fun b18 H zb18 hZ => ?_)
  refine W.cs (cells' := 3) (slots' := 1249) (by omega) (by omega) ?_
  obtain ⟨κ19, eκ19⟩ : ∃ z, z = hp_kk κ14 b18 (19) := ⟨_, rfl⟩
  rw [← eκ19] at hZ
  have k20 : κ19 h0 = 202 := by rw [eκ19, hp_kk_n (ne_k k16 zb18 (by omega))]; exact k16
  have k21 : κ19 b18 = 19 := by rw [eκ19]; exact hp_kk_s _ _ _
  have hm : ∀ a, a ≠ h0 → (κ19 a ≤ 19 ∧ κ19 a ≠ 11) ∨ κ19 a = 38 ∨ κ19 a = 39 ∨ 300 ≤ κ19 a := by
    intro a ha
    by_cases hab : a = b18
    · rw [hab, k21]; omega
    · rw [eκ19, hp_kk_n hab]; have := hm a ha; omega
  have hR : ∀ a, κ a = 0 → κ19 a = 0 ∨ (18 ≤ κ19 a ∧ κ19 a ≤ 30) ∨ κ19 a = 38 ∨ κ19 a = 39 := by
    intro a ha
    by_cases hab : a = b18
    · rw [hab, k21]; omega
    · rw [eκ19, hp_kk_n hab]; exact hR a ha
  have hQ : ∀ a, κ a ≠ 0 → a ≠ h0 → κ19 a = κ a := fun a h1 h2 => by rw [eκ19, hp_kk_n (fun e9 => h1 (by rw [← hQ a h1 h2, e9, zb18])), hQ a h1 h2]
  refine hp_putF (C := RX7) (T := TX7) (N := 24) (ci := 7) (kd := 202) hx hb hts iX7_init_X7 hown hK hZ.2.2.2.2 k20 (rfl : hk_t 202 = (1, 7, 24)) rfl 3 (by decide) (hts (.fieldLink RX7 16 "NeighborBookModel" "ownSizes" "[I") (List.mem_of_getElem? (i := 8) rfl)) (fun _ h9 => h9) tyX7 tyX7_ok nmX7 (v := .ref b18) rfl rfl (by omega) hZ.1 rfl hin rfl dX7_init_27 (fun F H locs hM hO hS => ?_)
  have hZ := hp_step (k1 := 202) (k2 := 203) hZ.1 hZ.2.1 hZ.2.2.1 (Nat.le_trans hBz hS.1) hM hO hS k20 ((rfl : hk_t 203 = (1, 7, 24)).trans (rfl : hk_t 202 = (1, 7, 24)).symm) (by unfold hk_ok; omega) (by rw [(rfl : hk_t 203 = (1, 7, 24))]; decide) (fun a j hj _ h => by have := hk_sr (hZ.2.2.1 a) h hj; omega) (fun j hj h => by have := hk_sr (kd := 203) (by unfold hk_ok; omega) h hj; omega) ⟨b18, rfl, k21⟩ (fun j hj hl w hw => by
        have hl : j < 24 := by rw [(rfl : hk_t 202 = (1, 7, 24))] at hl; exact hl
        match j, hj, hl, hw with
        | 0, _, _, hw => exact hw
        | 1, _, _, hw => exact hw
        | 2, _, _, hw => exact hw
        | 4, _, _, hw => exact hw
        | 5, _, _, hw => exact hw
        | 6, _, _, hw => exact hw
        | 7, _, _, hw => exact hw
        | 8, _, _, hw => exact hw
        | 9, _, _, hw => exact hw
        | 10, _, _, hw => exact hw
        | 11, _, _, hw => exact hw
        | 12, _, _, hw => exact hw
        | 13, _, _, hw => exact hw
        | 14, _, _, hw => exact hw
        | 15, _, _, hw => exact hw
        | 16, _, _, hw => exact hw
        | 17, _, _, hw => exact hw
        | 18, _, _, hw => exact hw
        | 19, _, _, hw => exact hw
        | 20, _, _, hw => exact hw
        | 21, _, _, hw => exact hw
        | 22, _, _, hw => exact hw
        | 23, _, _, hw => exact hw
        | 3, hj, _, _ => exact absurd rfl hj
        | n9 + 24, _, hl, _ => exact absurd hl (by omega)) (fun h => absurd h (by decide))
  obtain ⟨κ22, eκ22⟩ : ∃ z, z = hp_kk κ19 h0 (203) := ⟨_, rfl⟩
  rw [← eκ22] at hZ
  have k23 : κ22 b18 = 19 := by rw [eκ22, hp_kk_n (fun h9 => by rw [h9, k20] at k21; omega)]; exact k21
  have k24 : κ22 h0 = 203 := by rw [eκ22]; exact hp_kk_s _ _ _
  have hm : ∀ a, a ≠ h0 → (κ22 a ≤ 19 ∧ κ22 a ≠ 11) ∨ κ22 a = 38 ∨ κ22 a = 39 ∨ 300 ≤ κ22 a := fun a ha => by rw [eκ22, hp_kk_n ha]; exact hm a ha
  have hR : ∀ a, κ a = 0 → κ22 a = 0 ∨ (18 ≤ κ22 a ∧ κ22 a ≤ 30) ∨ κ22 a = 38 ∨ κ22 a = 39 := fun a ha => by rw [eκ22, hp_kk_n (fun e9 => h0n (by rw [← e9]; exact ha))]; exact hR a ha
  have hQ : ∀ a, κ a ≠ 0 → a ≠ h0 → κ22 a = κ a := fun a h1 h2 => by rw [eκ22, hp_kk_n h2, hQ a h1 h2]
  refine lv_aload_n hx hb dX7_init_30 rfl (lv_at hl 0 rfl) ?_
  refine hq_bipush hx hb dX7_init_31 (by decide) (fun z25 ez25 => ?_)
  refine hp_put (C := RX7) (T := TX7) (N := 24) (ci := 7) (kd := 203) hx hb hts iX7_init_X7 hown hK hZ.2.2.2.2 k24 rfl rfl 4 (by decide) (hts (.fieldLink RX7 20 "NeighborBookModel" "interval" "I") (List.mem_of_getElem? (i := 9) rfl)) (fun _ h9 => h9) tyX7 tyX7_ok nmX7 (v := .int z25) rfl rfl (by decide) hZ.1 rfl (hs_i_ok (sp := (1, 0)) rfl trivial) dX7_init_33 (fun H locs hJ => ?_)
  have hZ := (⟨hZ.1, hZ.2.1, hZ.2.2.1, Nat.le_trans hBz hJ.2.1, hJ⟩ : hp_Z dC dI dA κ22 B g s.heap H locs)
  refine lv_aload_n hx hb dX7_init_36 rfl (lv_at hl 0 rfl) ?_
  refine hq_iconst hx hb dX7_init_37 (by decide) (by decide) (fun z26 ez26 => ?_)
  refine hp_put (C := RX7) (T := TX7) (N := 24) (ci := 7) (kd := 203) hx hb hts iX7_init_X7 hown hK hZ.2.2.2.2 k24 rfl rfl 5 (by decide) (hts (.fieldLink RX7 24 "NeighborBookModel" "hold" "I") (List.mem_of_getElem? (i := 10) rfl)) (fun _ h9 => h9) tyX7 tyX7_ok nmX7 (v := .int z26) rfl rfl (by decide) hZ.1 rfl (hs_i_ok (sp := (1, 0)) rfl trivial) dX7_init_38 (fun H locs hJ => ?_)
  have hZ := (⟨hZ.1, hZ.2.1, hZ.2.2.1, Nat.le_trans hBz hJ.2.1, hJ⟩ : hp_Z dC dI dA κ22 B g s.heap H locs)
  refine lv_aload_n hx hb dX7_init_41 rfl (lv_at hl 0 rfl) ?_
  refine hq_iconst hx hb dX7_init_42 (by decide) (by decide) (fun z27 ez27 => ?_)
  refine hp_put (C := RX7) (T := TX7) (N := 24) (ci := 7) (kd := 203) hx hb hts iX7_init_X7 hown hK hZ.2.2.2.2 k24 rfl rfl 6 (by decide) (hts (.fieldLink RX7 27 "NeighborBookModel" "quick" "I") (List.mem_of_getElem? (i := 11) rfl)) (fun _ h9 => h9) tyX7 tyX7_ok nmX7 (v := .int z27) rfl rfl (by decide) hZ.1 rfl (hs_i_ok (sp := (1, 0)) rfl trivial) dX7_init_43 (fun H locs hJ => ?_)
  have hZ := (⟨hZ.1, hZ.2.1, hZ.2.2.1, Nat.le_trans hBz hJ.2.1, hJ⟩ : hp_Z dC dI dA κ22 B g s.heap H locs)
  refine lv_aload_n hx hb dX7_init_46 rfl (lv_at hl 0 rfl) ?_
  refine hq_iconst hx hb dX7_init_47 (by decide) (by decide) (fun z28 ez28 => ?_)
  refine hp_newi (atype := .boolean) (ty := 2) (N := 4) (kd := 20) hx hb (hts (.arrayClass .boolean) (List.mem_of_getElem? (i := 12) rfl)) hK hZ (hK.2 2 _ rfl).2 rfl (by unfold hk_ok; omega) (fun _ k _ => ⟨0, rfl, (show (0 : Int32).toInt = g 20 k by rw [hga 20 k (by decide) (by decide)]; rfl)⟩) (fun _ a h9 => by by_cases ha : a = h0; (rw [ha, k24] at h9; omega); (have := hm a ha; omega)) (by omega) (by show 4 * 1 ≤ 536870912; omega) (by show 3 + 1 ≤ 15; omega) (by show 1249 + 4 ≤ 9149; omega) dX7_init_48 (fun b29 H zb29 hZ => ?_)
  refine W.cs (cells' := 4) (slots' := 1253) (by omega) (by omega) ?_
  obtain ⟨κ30, eκ30⟩ : ∃ z, z = hp_kk κ22 b29 (20) := ⟨_, rfl⟩
  rw [← eκ30] at hZ
  have k31 : κ30 h0 = 203 := by rw [eκ30, hp_kk_n (ne_k k24 zb29 (by omega))]; exact k24
  have k32 : κ30 b29 = 20 := by rw [eκ30]; exact hp_kk_s _ _ _
  have hm : ∀ a, a ≠ h0 → (κ30 a ≤ 20 ∧ κ30 a ≠ 11) ∨ κ30 a = 38 ∨ κ30 a = 39 ∨ 300 ≤ κ30 a := by
    intro a ha
    by_cases hab : a = b29
    · rw [hab, k32]; omega
    · rw [eκ30, hp_kk_n hab]; have := hm a ha; omega
  have hR : ∀ a, κ a = 0 → κ30 a = 0 ∨ (18 ≤ κ30 a ∧ κ30 a ≤ 30) ∨ κ30 a = 38 ∨ κ30 a = 39 := by
    intro a ha
    by_cases hab : a = b29
    · rw [hab, k32]; omega
    · rw [eκ30, hp_kk_n hab]; exact hR a ha
  have hQ : ∀ a, κ a ≠ 0 → a ≠ h0 → κ30 a = κ a := fun a h1 h2 => by rw [eκ30, hp_kk_n (fun e9 => h1 (by rw [← hQ a h1 h2, e9, zb29])), hQ a h1 h2]
  refine hp_putF (C := RX7) (T := TX7) (N := 24) (ci := 7) (kd := 203) hx hb hts iX7_init_X7 hown hK hZ.2.2.2.2 k31 (rfl : hk_t 203 = (1, 7, 24)) rfl 7 (by decide) (hts (.fieldLink RX7 30 "NeighborBookModel" "up" "[Z") (List.mem_of_getElem? (i := 13) rfl)) (fun _ h9 => h9) tyX7 tyX7_ok nmX7 (v := .ref b29) rfl rfl (by omega) hZ.1 rfl hin rfl dX7_init_50 (fun F H locs hM hO hS => ?_)
  have hZ := hp_step (k1 := 203) (k2 := 204) hZ.1 hZ.2.1 hZ.2.2.1 (Nat.le_trans hBz hS.1) hM hO hS k31 ((rfl : hk_t 204 = (1, 7, 24)).trans (rfl : hk_t 203 = (1, 7, 24)).symm) (by unfold hk_ok; omega) (by rw [(rfl : hk_t 204 = (1, 7, 24))]; decide) (fun a j hj _ h => by have := hk_sr (hZ.2.2.1 a) h hj; omega) (fun j hj h => by have := hk_sr (kd := 204) (by unfold hk_ok; omega) h hj; omega) ⟨b29, rfl, k32⟩ (fun j hj hl w hw => by
        have hl : j < 24 := by rw [(rfl : hk_t 203 = (1, 7, 24))] at hl; exact hl
        match j, hj, hl, hw with
        | 0, _, _, hw => exact hw
        | 1, _, _, hw => exact hw
        | 2, _, _, hw => exact hw
        | 3, _, _, hw => exact hw
        | 4, _, _, hw => exact hw
        | 5, _, _, hw => exact hw
        | 6, _, _, hw => exact hw
        | 8, _, _, hw => exact hw
        | 9, _, _, hw => exact hw
        | 10, _, _, hw => exact hw
        | 11, _, _, hw => exact hw
        | 12, _, _, hw => exact hw
        | 13, _, _, hw => exact hw
        | 14, _, _, hw => exact hw
        | 15, _, _, hw => exact hw
        | 16, _, _, hw => exact hw
        | 17, _, _, hw => exact hw
        | 18, _, _, hw => exact hw
        | 19, _, _, hw => exact hw
        | 20, _, _, hw => exact hw
        | 21, _, _, hw => exact hw
        | 22, _, _, hw => exact hw
        | 23, _, _, hw => exact hw
        | 7, hj, _, _ => exact absurd rfl hj
        | n9 + 24, _, hl, _ => exact absurd hl (by omega)) (fun h => absurd h (by decide))
  obtain ⟨κ33, eκ33⟩ : ∃ z, z = hp_kk κ30 h0 (204) := ⟨_, rfl⟩
  rw [← eκ33] at hZ
  have k34 : κ33 b29 = 20 := by rw [eκ33, hp_kk_n (fun h9 => by rw [h9, k31] at k32; omega)]; exact k32
  have k35 : κ33 h0 = 204 := by rw [eκ33]; exact hp_kk_s _ _ _
  have hm : ∀ a, a ≠ h0 → (κ33 a ≤ 20 ∧ κ33 a ≠ 11) ∨ κ33 a = 38 ∨ κ33 a = 39 ∨ 300 ≤ κ33 a := fun a ha => by rw [eκ33, hp_kk_n ha]; exact hm a ha
  have hR : ∀ a, κ a = 0 → κ33 a = 0 ∨ (18 ≤ κ33 a ∧ κ33 a ≤ 30) ∨ κ33 a = 38 ∨ κ33 a = 39 := fun a ha => by rw [eκ33, hp_kk_n (fun e9 => h0n (by rw [← e9]; exact ha))]; exact hR a ha
  have hQ : ∀ a, κ a ≠ 0 → a ≠ h0 → κ33 a = κ a := fun a h1 h2 => by rw [eκ33, hp_kk_n h2, hQ a h1 h2]
  refine lv_aload_n hx hb dX7_init_53 rfl (lv_at hl 0 rfl) ?_
  refine hq_iconst hx hb dX7_init_54 (by decide) (by decide) (fun z36 ez36 => ?_)
  refine hp_newi (atype := .int) (ty := 0) (N := 4) (kd := 21) hx hb (hts (.arrayClass .int) (List.mem_of_getElem? (i := 7) rfl)) hK hZ (hK.2 0 _ rfl).2 rfl (by unfold hk_ok; omega) (fun _ k _ => ⟨0, rfl, (show (0 : Int32).toInt = g 21 k by rw [hga 21 k (by decide) (by decide)]; rfl)⟩) (fun _ a h9 => by by_cases ha : a = h0; (rw [ha, k35] at h9; omega); (have := hm a ha; omega)) (by omega) (by show 4 * 4 ≤ 536870912; omega) (by show 4 + 1 ≤ 15; omega) (by show 1253 + 4 ≤ 9149; omega) dX7_init_55 (fun b37 H zb37 hZ => ?_)
  refine W.cs (cells' := 5) (slots' := 1257) (by omega) (by omega) ?_
  obtain ⟨κ38, eκ38⟩ : ∃ z, z = hp_kk κ33 b37 (21) := ⟨_, rfl⟩
  rw [← eκ38] at hZ
  have k39 : κ38 h0 = 204 := by rw [eκ38, hp_kk_n (ne_k k35 zb37 (by omega))]; exact k35
  have k40 : κ38 b37 = 21 := by rw [eκ38]; exact hp_kk_s _ _ _
  have hm : ∀ a, a ≠ h0 → (κ38 a ≤ 21 ∧ κ38 a ≠ 11) ∨ κ38 a = 38 ∨ κ38 a = 39 ∨ 300 ≤ κ38 a := by
    intro a ha
    by_cases hab : a = b37
    · rw [hab, k40]; omega
    · rw [eκ38, hp_kk_n hab]; have := hm a ha; omega
  have hR : ∀ a, κ a = 0 → κ38 a = 0 ∨ (18 ≤ κ38 a ∧ κ38 a ≤ 30) ∨ κ38 a = 38 ∨ κ38 a = 39 := by
    intro a ha
    by_cases hab : a = b37
    · rw [hab, k40]; omega
    · rw [eκ38, hp_kk_n hab]; exact hR a ha
  have hQ : ∀ a, κ a ≠ 0 → a ≠ h0 → κ38 a = κ a := fun a h1 h2 => by rw [eκ38, hp_kk_n (fun e9 => h1 (by rw [← hQ a h1 h2, e9, zb37])), hQ a h1 h2]
  refine hp_putF (C := RX7) (T := TX7) (N := 24) (ci := 7) (kd := 204) hx hb hts iX7_init_X7 hown hK hZ.2.2.2.2 k39 (rfl : hk_t 204 = (1, 7, 24)) rfl 8 (by decide) (hts (.fieldLink RX7 34 "NeighborBookModel" "sentFrames" "[I") (List.mem_of_getElem? (i := 14) rfl)) (fun _ h9 => h9) tyX7 tyX7_ok nmX7 (v := .ref b37) rfl rfl (by omega) hZ.1 rfl hin rfl dX7_init_57 (fun F H locs hM hO hS => ?_)
  have hZ := hp_step (k1 := 204) (k2 := 205) hZ.1 hZ.2.1 hZ.2.2.1 (Nat.le_trans hBz hS.1) hM hO hS k39 ((rfl : hk_t 205 = (1, 7, 24)).trans (rfl : hk_t 204 = (1, 7, 24)).symm) (by unfold hk_ok; omega) (by rw [(rfl : hk_t 205 = (1, 7, 24))]; decide) (fun a j hj _ h => by have := hk_sr (hZ.2.2.1 a) h hj; omega) (fun j hj h => by have := hk_sr (kd := 205) (by unfold hk_ok; omega) h hj; omega) ⟨b37, rfl, k40⟩ (fun j hj hl w hw => by
        have hl : j < 24 := by rw [(rfl : hk_t 204 = (1, 7, 24))] at hl; exact hl
        match j, hj, hl, hw with
        | 0, _, _, hw => exact hw
        | 1, _, _, hw => exact hw
        | 2, _, _, hw => exact hw
        | 3, _, _, hw => exact hw
        | 4, _, _, hw => exact hw
        | 5, _, _, hw => exact hw
        | 6, _, _, hw => exact hw
        | 7, _, _, hw => exact hw
        | 9, _, _, hw => exact hw
        | 10, _, _, hw => exact hw
        | 11, _, _, hw => exact hw
        | 12, _, _, hw => exact hw
        | 13, _, _, hw => exact hw
        | 14, _, _, hw => exact hw
        | 15, _, _, hw => exact hw
        | 16, _, _, hw => exact hw
        | 17, _, _, hw => exact hw
        | 18, _, _, hw => exact hw
        | 19, _, _, hw => exact hw
        | 20, _, _, hw => exact hw
        | 21, _, _, hw => exact hw
        | 22, _, _, hw => exact hw
        | 23, _, _, hw => exact hw
        | 8, hj, _, _ => exact absurd rfl hj
        | n9 + 24, _, hl, _ => exact absurd hl (by omega)) (fun h => absurd h (by decide))
  obtain ⟨κ41, eκ41⟩ : ∃ z, z = hp_kk κ38 h0 (205) := ⟨_, rfl⟩
  rw [← eκ41] at hZ
  have k42 : κ41 b37 = 21 := by rw [eκ41, hp_kk_n (fun h9 => by rw [h9, k39] at k40; omega)]; exact k40
  have k43 : κ41 h0 = 205 := by rw [eκ41]; exact hp_kk_s _ _ _
  have hm : ∀ a, a ≠ h0 → (κ41 a ≤ 21 ∧ κ41 a ≠ 11) ∨ κ41 a = 38 ∨ κ41 a = 39 ∨ 300 ≤ κ41 a := fun a ha => by rw [eκ41, hp_kk_n ha]; exact hm a ha
  have hR : ∀ a, κ a = 0 → κ41 a = 0 ∨ (18 ≤ κ41 a ∧ κ41 a ≤ 30) ∨ κ41 a = 38 ∨ κ41 a = 39 := fun a ha => by rw [eκ41, hp_kk_n (fun e9 => h0n (by rw [← e9]; exact ha))]; exact hR a ha
  have hQ : ∀ a, κ a ≠ 0 → a ≠ h0 → κ41 a = κ a := fun a h1 h2 => by rw [eκ41, hp_kk_n h2, hQ a h1 h2]
  refine lv_aload_n hx hb dX7_init_60 rfl (lv_at hl 0 rfl) ?_
  refine hq_iconst hx hb dX7_init_61 (by decide) (by decide) (fun z44 ez44 => ?_)
  refine hp_newi (atype := .int) (ty := 0) (N := 4) (kd := 22) hx hb (hts (.arrayClass .int) (List.mem_of_getElem? (i := 7) rfl)) hK hZ (hK.2 0 _ rfl).2 rfl (by unfold hk_ok; omega) (fun _ k _ => ⟨0, rfl, (show (0 : Int32).toInt = g 22 k by rw [hga 22 k (by decide) (by decide)]; rfl)⟩) (fun _ a h9 => by by_cases ha : a = h0; (rw [ha, k43] at h9; omega); (have := hm a ha; omega)) (by omega) (by show 4 * 4 ≤ 536870912; omega) (by show 5 + 1 ≤ 15; omega) (by show 1257 + 4 ≤ 9149; omega) dX7_init_62 (fun b45 H zb45 hZ => ?_)
  refine W.cs (cells' := 6) (slots' := 1261) (by omega) (by omega) ?_
  obtain ⟨κ46, eκ46⟩ : ∃ z, z = hp_kk κ41 b45 (22) := ⟨_, rfl⟩
  rw [← eκ46] at hZ
  have k47 : κ46 h0 = 205 := by rw [eκ46, hp_kk_n (ne_k k43 zb45 (by omega))]; exact k43
  have k48 : κ46 b45 = 22 := by rw [eκ46]; exact hp_kk_s _ _ _
  have hm : ∀ a, a ≠ h0 → (κ46 a ≤ 22 ∧ κ46 a ≠ 11) ∨ κ46 a = 38 ∨ κ46 a = 39 ∨ 300 ≤ κ46 a := by
    intro a ha
    by_cases hab : a = b45
    · rw [hab, k48]; omega
    · rw [eκ46, hp_kk_n hab]; have := hm a ha; omega
  have hR : ∀ a, κ a = 0 → κ46 a = 0 ∨ (18 ≤ κ46 a ∧ κ46 a ≤ 30) ∨ κ46 a = 38 ∨ κ46 a = 39 := by
    intro a ha
    by_cases hab : a = b45
    · rw [hab, k48]; omega
    · rw [eκ46, hp_kk_n hab]; exact hR a ha
  have hQ : ∀ a, κ a ≠ 0 → a ≠ h0 → κ46 a = κ a := fun a h1 h2 => by rw [eκ46, hp_kk_n (fun e9 => h1 (by rw [← hQ a h1 h2, e9, zb45])), hQ a h1 h2]
  refine hp_putF (C := RX7) (T := TX7) (N := 24) (ci := 7) (kd := 205) hx hb hts iX7_init_X7 hown hK hZ.2.2.2.2 k47 (rfl : hk_t 205 = (1, 7, 24)) rfl 9 (by decide) (hts (.fieldLink RX7 37 "NeighborBookModel" "good" "[I") (List.mem_of_getElem? (i := 15) rfl)) (fun _ h9 => h9) tyX7 tyX7_ok nmX7 (v := .ref b45) rfl rfl (by omega) hZ.1 rfl hin rfl dX7_init_64 (fun F H locs hM hO hS => ?_)
  have hZ := hp_step (k1 := 205) (k2 := 206) hZ.1 hZ.2.1 hZ.2.2.1 (Nat.le_trans hBz hS.1) hM hO hS k47 ((rfl : hk_t 206 = (1, 7, 24)).trans (rfl : hk_t 205 = (1, 7, 24)).symm) (by unfold hk_ok; omega) (by rw [(rfl : hk_t 206 = (1, 7, 24))]; decide) (fun a j hj _ h => by have := hk_sr (hZ.2.2.1 a) h hj; omega) (fun j hj h => by have := hk_sr (kd := 206) (by unfold hk_ok; omega) h hj; omega) ⟨b45, rfl, k48⟩ (fun j hj hl w hw => by
        have hl : j < 24 := by rw [(rfl : hk_t 205 = (1, 7, 24))] at hl; exact hl
        match j, hj, hl, hw with
        | 0, _, _, hw => exact hw
        | 1, _, _, hw => exact hw
        | 2, _, _, hw => exact hw
        | 3, _, _, hw => exact hw
        | 4, _, _, hw => exact hw
        | 5, _, _, hw => exact hw
        | 6, _, _, hw => exact hw
        | 7, _, _, hw => exact hw
        | 8, _, _, hw => exact hw
        | 10, _, _, hw => exact hw
        | 11, _, _, hw => exact hw
        | 12, _, _, hw => exact hw
        | 13, _, _, hw => exact hw
        | 14, _, _, hw => exact hw
        | 15, _, _, hw => exact hw
        | 16, _, _, hw => exact hw
        | 17, _, _, hw => exact hw
        | 18, _, _, hw => exact hw
        | 19, _, _, hw => exact hw
        | 20, _, _, hw => exact hw
        | 21, _, _, hw => exact hw
        | 22, _, _, hw => exact hw
        | 23, _, _, hw => exact hw
        | 9, hj, _, _ => exact absurd rfl hj
        | n9 + 24, _, hl, _ => exact absurd hl (by omega)) (fun h => absurd h (by decide))
  obtain ⟨κ49, eκ49⟩ : ∃ z, z = hp_kk κ46 h0 (206) := ⟨_, rfl⟩
  rw [← eκ49] at hZ
  have k50 : κ49 b45 = 22 := by rw [eκ49, hp_kk_n (fun h9 => by rw [h9, k47] at k48; omega)]; exact k48
  have k51 : κ49 h0 = 206 := by rw [eκ49]; exact hp_kk_s _ _ _
  have hm : ∀ a, a ≠ h0 → (κ49 a ≤ 22 ∧ κ49 a ≠ 11) ∨ κ49 a = 38 ∨ κ49 a = 39 ∨ 300 ≤ κ49 a := fun a ha => by rw [eκ49, hp_kk_n ha]; exact hm a ha
  have hR : ∀ a, κ a = 0 → κ49 a = 0 ∨ (18 ≤ κ49 a ∧ κ49 a ≤ 30) ∨ κ49 a = 38 ∨ κ49 a = 39 := fun a ha => by rw [eκ49, hp_kk_n (fun e9 => h0n (by rw [← e9]; exact ha))]; exact hR a ha
  have hQ : ∀ a, κ a ≠ 0 → a ≠ h0 → κ49 a = κ a := fun a h1 h2 => by rw [eκ49, hp_kk_n h2, hQ a h1 h2]
  refine lv_aload_n hx hb dX7_init_67 rfl (lv_at hl 0 rfl) ?_
  refine hq_iconst hx hb dX7_init_68 (by decide) (by decide) (fun z52 ez52 => ?_)
  refine hp_newi (atype := .int) (ty := 0) (N := 4) (kd := 23) hx hb (hts (.arrayClass .int) (List.mem_of_getElem? (i := 7) rfl)) hK hZ (hK.2 0 _ rfl).2 rfl (by unfold hk_ok; omega) (fun _ k _ => ⟨0, rfl, (show (0 : Int32).toInt = g 23 k by rw [hga 23 k (by decide) (by decide)]; rfl)⟩) (fun _ a h9 => by by_cases ha : a = h0; (rw [ha, k51] at h9; omega); (have := hm a ha; omega)) (by omega) (by show 4 * 4 ≤ 536870912; omega) (by show 6 + 1 ≤ 15; omega) (by show 1261 + 4 ≤ 9149; omega) dX7_init_69 (fun b53 H zb53 hZ => ?_)
  refine W.cs (cells' := 7) (slots' := 1265) (by omega) (by omega) ?_
  obtain ⟨κ54, eκ54⟩ : ∃ z, z = hp_kk κ49 b53 (23) := ⟨_, rfl⟩
  rw [← eκ54] at hZ
  have k55 : κ54 h0 = 206 := by rw [eκ54, hp_kk_n (ne_k k51 zb53 (by omega))]; exact k51
  have k56 : κ54 b53 = 23 := by rw [eκ54]; exact hp_kk_s _ _ _
  have hm : ∀ a, a ≠ h0 → (κ54 a ≤ 23 ∧ κ54 a ≠ 11) ∨ κ54 a = 38 ∨ κ54 a = 39 ∨ 300 ≤ κ54 a := by
    intro a ha
    by_cases hab : a = b53
    · rw [hab, k56]; omega
    · rw [eκ54, hp_kk_n hab]; have := hm a ha; omega
  have hR : ∀ a, κ a = 0 → κ54 a = 0 ∨ (18 ≤ κ54 a ∧ κ54 a ≤ 30) ∨ κ54 a = 38 ∨ κ54 a = 39 := by
    intro a ha
    by_cases hab : a = b53
    · rw [hab, k56]; omega
    · rw [eκ54, hp_kk_n hab]; exact hR a ha
  have hQ : ∀ a, κ a ≠ 0 → a ≠ h0 → κ54 a = κ a := fun a h1 h2 => by rw [eκ54, hp_kk_n (fun e9 => h1 (by rw [← hQ a h1 h2, e9, zb53])), hQ a h1 h2]
  refine hp_putF (C := RX7) (T := TX7) (N := 24) (ci := 7) (kd := 206) hx hb hts iX7_init_X7 hown hK hZ.2.2.2.2 k55 (rfl : hk_t 206 = (1, 7, 24)) rfl 10 (by decide) (hts (.fieldLink RX7 40 "NeighborBookModel" "bad" "[I") (List.mem_of_getElem? (i := 16) rfl)) (fun _ h9 => h9) tyX7 tyX7_ok nmX7 (v := .ref b53) rfl rfl (by omega) hZ.1 rfl hin rfl dX7_init_71 (fun F H locs hM hO hS => ?_)
  have hZ := hp_step (k1 := 206) (k2 := 207) hZ.1 hZ.2.1 hZ.2.2.1 (Nat.le_trans hBz hS.1) hM hO hS k55 ((rfl : hk_t 207 = (1, 7, 24)).trans (rfl : hk_t 206 = (1, 7, 24)).symm) (by unfold hk_ok; omega) (by rw [(rfl : hk_t 207 = (1, 7, 24))]; decide) (fun a j hj _ h => by have := hk_sr (hZ.2.2.1 a) h hj; omega) (fun j hj h => by have := hk_sr (kd := 207) (by unfold hk_ok; omega) h hj; omega) ⟨b53, rfl, k56⟩ (fun j hj hl w hw => by
        have hl : j < 24 := by rw [(rfl : hk_t 206 = (1, 7, 24))] at hl; exact hl
        match j, hj, hl, hw with
        | 0, _, _, hw => exact hw
        | 1, _, _, hw => exact hw
        | 2, _, _, hw => exact hw
        | 3, _, _, hw => exact hw
        | 4, _, _, hw => exact hw
        | 5, _, _, hw => exact hw
        | 6, _, _, hw => exact hw
        | 7, _, _, hw => exact hw
        | 8, _, _, hw => exact hw
        | 9, _, _, hw => exact hw
        | 11, _, _, hw => exact hw
        | 12, _, _, hw => exact hw
        | 13, _, _, hw => exact hw
        | 14, _, _, hw => exact hw
        | 15, _, _, hw => exact hw
        | 16, _, _, hw => exact hw
        | 17, _, _, hw => exact hw
        | 18, _, _, hw => exact hw
        | 19, _, _, hw => exact hw
        | 20, _, _, hw => exact hw
        | 21, _, _, hw => exact hw
        | 22, _, _, hw => exact hw
        | 23, _, _, hw => exact hw
        | 10, hj, _, _ => exact absurd rfl hj
        | n9 + 24, _, hl, _ => exact absurd hl (by omega)) (fun h => absurd h (by decide))
  obtain ⟨κ57, eκ57⟩ : ∃ z, z = hp_kk κ54 h0 (207) := ⟨_, rfl⟩
  rw [← eκ57] at hZ
  have k58 : κ57 b53 = 23 := by rw [eκ57, hp_kk_n (fun h9 => by rw [h9, k55] at k56; omega)]; exact k56
  have k59 : κ57 h0 = 207 := by rw [eκ57]; exact hp_kk_s _ _ _
  have hm : ∀ a, a ≠ h0 → (κ57 a ≤ 23 ∧ κ57 a ≠ 11) ∨ κ57 a = 38 ∨ κ57 a = 39 ∨ 300 ≤ κ57 a := fun a ha => by rw [eκ57, hp_kk_n ha]; exact hm a ha
  have hR : ∀ a, κ a = 0 → κ57 a = 0 ∨ (18 ≤ κ57 a ∧ κ57 a ≤ 30) ∨ κ57 a = 38 ∨ κ57 a = 39 := fun a ha => by rw [eκ57, hp_kk_n (fun e9 => h0n (by rw [← e9]; exact ha))]; exact hR a ha
  have hQ : ∀ a, κ a ≠ 0 → a ≠ h0 → κ57 a = κ a := fun a h1 h2 => by rw [eκ57, hp_kk_n h2, hQ a h1 h2]
  refine lv_aload_n hx hb dX7_init_74 rfl (lv_at hl 0 rfl) ?_
  refine hq_iconst hx hb dX7_init_75 (by decide) (by decide) (fun z60 ez60 => ?_)
  refine hp_newi (atype := .int) (ty := 0) (N := 4) (kd := 24) hx hb (hts (.arrayClass .int) (List.mem_of_getElem? (i := 7) rfl)) hK hZ (hK.2 0 _ rfl).2 rfl (by unfold hk_ok; omega) (fun _ k _ => ⟨0, rfl, (show (0 : Int32).toInt = g 24 k by rw [hga 24 k (by decide) (by decide)]; rfl)⟩) (fun _ a h9 => by by_cases ha : a = h0; (rw [ha, k59] at h9; omega); (have := hm a ha; omega)) (by omega) (by show 4 * 4 ≤ 536870912; omega) (by show 7 + 1 ≤ 15; omega) (by show 1265 + 4 ≤ 9149; omega) dX7_init_76 (fun b61 H zb61 hZ => ?_)
  refine W.cs (cells' := 8) (slots' := 1269) (by omega) (by omega) ?_
  obtain ⟨κ62, eκ62⟩ : ∃ z, z = hp_kk κ57 b61 (24) := ⟨_, rfl⟩
  rw [← eκ62] at hZ
  have k63 : κ62 h0 = 207 := by rw [eκ62, hp_kk_n (ne_k k59 zb61 (by omega))]; exact k59
  have k64 : κ62 b61 = 24 := by rw [eκ62]; exact hp_kk_s _ _ _
  have hm : ∀ a, a ≠ h0 → (κ62 a ≤ 24 ∧ κ62 a ≠ 11) ∨ κ62 a = 38 ∨ κ62 a = 39 ∨ 300 ≤ κ62 a := by
    intro a ha
    by_cases hab : a = b61
    · rw [hab, k64]; omega
    · rw [eκ62, hp_kk_n hab]; have := hm a ha; omega
  have hR : ∀ a, κ a = 0 → κ62 a = 0 ∨ (18 ≤ κ62 a ∧ κ62 a ≤ 30) ∨ κ62 a = 38 ∨ κ62 a = 39 := by
    intro a ha
    by_cases hab : a = b61
    · rw [hab, k64]; omega
    · rw [eκ62, hp_kk_n hab]; exact hR a ha
  have hQ : ∀ a, κ a ≠ 0 → a ≠ h0 → κ62 a = κ a := fun a h1 h2 => by rw [eκ62, hp_kk_n (fun e9 => h1 (by rw [← hQ a h1 h2, e9, zb61])), hQ a h1 h2]
  refine hp_putF (C := RX7) (T := TX7) (N := 24) (ci := 7) (kd := 207) hx hb hts iX7_init_X7 hown hK hZ.2.2.2.2 k63 (rfl : hk_t 207 = (1, 7, 24)) rfl 11 (by decide) (hts (.fieldLink RX7 43 "NeighborBookModel" "waits" "[I") (List.mem_of_getElem? (i := 17) rfl)) (fun _ h9 => h9) tyX7 tyX7_ok nmX7 (v := .ref b61) rfl rfl (by omega) hZ.1 rfl hin rfl dX7_init_78 (fun F H locs hM hO hS => ?_)
  have hZ := hp_step (k1 := 207) (k2 := 208) hZ.1 hZ.2.1 hZ.2.2.1 (Nat.le_trans hBz hS.1) hM hO hS k63 ((rfl : hk_t 208 = (1, 7, 24)).trans (rfl : hk_t 207 = (1, 7, 24)).symm) (by unfold hk_ok; omega) (by rw [(rfl : hk_t 208 = (1, 7, 24))]; decide) (fun a j hj _ h => by have := hk_sr (hZ.2.2.1 a) h hj; omega) (fun j hj h => by have := hk_sr (kd := 208) (by unfold hk_ok; omega) h hj; omega) ⟨b61, rfl, k64⟩ (fun j hj hl w hw => by
        have hl : j < 24 := by rw [(rfl : hk_t 207 = (1, 7, 24))] at hl; exact hl
        match j, hj, hl, hw with
        | 0, _, _, hw => exact hw
        | 1, _, _, hw => exact hw
        | 2, _, _, hw => exact hw
        | 3, _, _, hw => exact hw
        | 4, _, _, hw => exact hw
        | 5, _, _, hw => exact hw
        | 6, _, _, hw => exact hw
        | 7, _, _, hw => exact hw
        | 8, _, _, hw => exact hw
        | 9, _, _, hw => exact hw
        | 10, _, _, hw => exact hw
        | 12, _, _, hw => exact hw
        | 13, _, _, hw => exact hw
        | 14, _, _, hw => exact hw
        | 15, _, _, hw => exact hw
        | 16, _, _, hw => exact hw
        | 17, _, _, hw => exact hw
        | 18, _, _, hw => exact hw
        | 19, _, _, hw => exact hw
        | 20, _, _, hw => exact hw
        | 21, _, _, hw => exact hw
        | 22, _, _, hw => exact hw
        | 23, _, _, hw => exact hw
        | 11, hj, _, _ => exact absurd rfl hj
        | n9 + 24, _, hl, _ => exact absurd hl (by omega)) (fun h => absurd h (by decide))
  obtain ⟨κ65, eκ65⟩ : ∃ z, z = hp_kk κ62 h0 (208) := ⟨_, rfl⟩
  rw [← eκ65] at hZ
  have k66 : κ65 b61 = 24 := by rw [eκ65, hp_kk_n (fun h9 => by rw [h9, k63] at k64; omega)]; exact k64
  have k67 : κ65 h0 = 208 := by rw [eκ65]; exact hp_kk_s _ _ _
  have hm : ∀ a, a ≠ h0 → (κ65 a ≤ 24 ∧ κ65 a ≠ 11) ∨ κ65 a = 38 ∨ κ65 a = 39 ∨ 300 ≤ κ65 a := fun a ha => by rw [eκ65, hp_kk_n ha]; exact hm a ha
  have hR : ∀ a, κ a = 0 → κ65 a = 0 ∨ (18 ≤ κ65 a ∧ κ65 a ≤ 30) ∨ κ65 a = 38 ∨ κ65 a = 39 := fun a ha => by rw [eκ65, hp_kk_n (fun e9 => h0n (by rw [← e9]; exact ha))]; exact hR a ha
  have hQ : ∀ a, κ a ≠ 0 → a ≠ h0 → κ65 a = κ a := fun a h1 h2 => by rw [eκ65, hp_kk_n h2, hQ a h1 h2]
  refine lv_aload_n hx hb dX7_init_81 rfl (lv_at hl 0 rfl) ?_
  refine hq_iconst hx hb dX7_init_82 (by decide) (by decide) (fun z68 ez68 => ?_)
  refine hp_newi (atype := .int) (ty := 0) (N := 4) (kd := 25) hx hb (hts (.arrayClass .int) (List.mem_of_getElem? (i := 7) rfl)) hK hZ (hK.2 0 _ rfl).2 rfl (by unfold hk_ok; omega) (fun _ k _ => ⟨0, rfl, (show (0 : Int32).toInt = g 25 k by rw [hga 25 k (by decide) (by decide)]; rfl)⟩) (fun _ a h9 => by by_cases ha : a = h0; (rw [ha, k67] at h9; omega); (have := hm a ha; omega)) (by omega) (by show 4 * 4 ≤ 536870912; omega) (by show 8 + 1 ≤ 15; omega) (by show 1269 + 4 ≤ 9149; omega) dX7_init_83 (fun b69 H zb69 hZ => ?_)
  refine W.cs (cells' := 9) (slots' := 1273) (by omega) (by omega) ?_
  obtain ⟨κ70, eκ70⟩ : ∃ z, z = hp_kk κ65 b69 (25) := ⟨_, rfl⟩
  rw [← eκ70] at hZ
  have k71 : κ70 h0 = 208 := by rw [eκ70, hp_kk_n (ne_k k67 zb69 (by omega))]; exact k67
  have k72 : κ70 b69 = 25 := by rw [eκ70]; exact hp_kk_s _ _ _
  have hm : ∀ a, a ≠ h0 → (κ70 a ≤ 25 ∧ κ70 a ≠ 11) ∨ κ70 a = 38 ∨ κ70 a = 39 ∨ 300 ≤ κ70 a := by
    intro a ha
    by_cases hab : a = b69
    · rw [hab, k72]; omega
    · rw [eκ70, hp_kk_n hab]; have := hm a ha; omega
  have hR : ∀ a, κ a = 0 → κ70 a = 0 ∨ (18 ≤ κ70 a ∧ κ70 a ≤ 30) ∨ κ70 a = 38 ∨ κ70 a = 39 := by
    intro a ha
    by_cases hab : a = b69
    · rw [hab, k72]; omega
    · rw [eκ70, hp_kk_n hab]; exact hR a ha
  have hQ : ∀ a, κ a ≠ 0 → a ≠ h0 → κ70 a = κ a := fun a h1 h2 => by rw [eκ70, hp_kk_n (fun e9 => h1 (by rw [← hQ a h1 h2, e9, zb69])), hQ a h1 h2]
  refine hp_putF (C := RX7) (T := TX7) (N := 24) (ci := 7) (kd := 208) hx hb hts iX7_init_X7 hown hK hZ.2.2.2.2 k71 (rfl : hk_t 208 = (1, 7, 24)) rfl 12 (by decide) (hts (.fieldLink RX7 46 "NeighborBookModel" "quicks" "[I") (List.mem_of_getElem? (i := 18) rfl)) (fun _ h9 => h9) tyX7 tyX7_ok nmX7 (v := .ref b69) rfl rfl (by omega) hZ.1 rfl hin rfl dX7_init_85 (fun F H locs hM hO hS => ?_)
  have hZ := hp_step (k1 := 208) (k2 := 209) hZ.1 hZ.2.1 hZ.2.2.1 (Nat.le_trans hBz hS.1) hM hO hS k71 ((rfl : hk_t 209 = (1, 7, 24)).trans (rfl : hk_t 208 = (1, 7, 24)).symm) (by unfold hk_ok; omega) (by rw [(rfl : hk_t 209 = (1, 7, 24))]; decide) (fun a j hj _ h => by have := hk_sr (hZ.2.2.1 a) h hj; omega) (fun j hj h => by have := hk_sr (kd := 209) (by unfold hk_ok; omega) h hj; omega) ⟨b69, rfl, k72⟩ (fun j hj hl w hw => by
        have hl : j < 24 := by rw [(rfl : hk_t 208 = (1, 7, 24))] at hl; exact hl
        match j, hj, hl, hw with
        | 0, _, _, hw => exact hw
        | 1, _, _, hw => exact hw
        | 2, _, _, hw => exact hw
        | 3, _, _, hw => exact hw
        | 4, _, _, hw => exact hw
        | 5, _, _, hw => exact hw
        | 6, _, _, hw => exact hw
        | 7, _, _, hw => exact hw
        | 8, _, _, hw => exact hw
        | 9, _, _, hw => exact hw
        | 10, _, _, hw => exact hw
        | 11, _, _, hw => exact hw
        | 13, _, _, hw => exact hw
        | 14, _, _, hw => exact hw
        | 15, _, _, hw => exact hw
        | 16, _, _, hw => exact hw
        | 17, _, _, hw => exact hw
        | 18, _, _, hw => exact hw
        | 19, _, _, hw => exact hw
        | 20, _, _, hw => exact hw
        | 21, _, _, hw => exact hw
        | 22, _, _, hw => exact hw
        | 23, _, _, hw => exact hw
        | 12, hj, _, _ => exact absurd rfl hj
        | n9 + 24, _, hl, _ => exact absurd hl (by omega)) (fun h => absurd h (by decide))
  obtain ⟨κ73, eκ73⟩ : ∃ z, z = hp_kk κ70 h0 (209) := ⟨_, rfl⟩
  rw [← eκ73] at hZ
  have k74 : κ73 b69 = 25 := by rw [eκ73, hp_kk_n (fun h9 => by rw [h9, k71] at k72; omega)]; exact k72
  have k75 : κ73 h0 = 209 := by rw [eκ73]; exact hp_kk_s _ _ _
  have hm : ∀ a, a ≠ h0 → (κ73 a ≤ 25 ∧ κ73 a ≠ 11) ∨ κ73 a = 38 ∨ κ73 a = 39 ∨ 300 ≤ κ73 a := fun a ha => by rw [eκ73, hp_kk_n ha]; exact hm a ha
  have hR : ∀ a, κ a = 0 → κ73 a = 0 ∨ (18 ≤ κ73 a ∧ κ73 a ≤ 30) ∨ κ73 a = 38 ∨ κ73 a = 39 := fun a ha => by rw [eκ73, hp_kk_n (fun e9 => h0n (by rw [← e9]; exact ha))]; exact hR a ha
  have hQ : ∀ a, κ a ≠ 0 → a ≠ h0 → κ73 a = κ a := fun a h1 h2 => by rw [eκ73, hp_kk_n h2, hQ a h1 h2]
  refine lv_aload_n hx hb dX7_init_88 rfl (lv_at hl 0 rfl) ?_
  refine hq_bipush hx hb dX7_init_89 (by decide) (fun z76 ez76 => ?_)
  refine hp_newi (atype := .int) (ty := 0) (N := 13) (kd := 26) hx hb (hts (.arrayClass .int) (List.mem_of_getElem? (i := 7) rfl)) hK hZ (hK.2 0 _ rfl).2 rfl (by unfold hk_ok; omega) (fun _ k _ => ⟨0, rfl, (show 0 ≤ (0 : Int32).toInt ∧ (0 : Int32).toInt ≤ ((3 : Nat) : Int) by decide)⟩) (fun _ a h9 => by by_cases ha : a = h0; (rw [ha, k75] at h9; omega); (have := hm a ha; omega)) (by omega) (by show 13 * 4 ≤ 536870912; omega) (by show 9 + 1 ≤ 15; omega) (by show 1273 + 13 ≤ 9149; omega) dX7_init_91 (fun b77 H zb77 hZ => ?_)
  refine W.cs (cells' := 10) (slots' := 1286) (by omega) (by omega) ?_
  obtain ⟨κ78, eκ78⟩ : ∃ z, z = hp_kk κ73 b77 (26) := ⟨_, rfl⟩
  rw [← eκ78] at hZ
  have k79 : κ78 h0 = 209 := by rw [eκ78, hp_kk_n (ne_k k75 zb77 (by omega))]; exact k75
  have k80 : κ78 b77 = 26 := by rw [eκ78]; exact hp_kk_s _ _ _
  have hm : ∀ a, a ≠ h0 → (κ78 a ≤ 26 ∧ κ78 a ≠ 11) ∨ κ78 a = 38 ∨ κ78 a = 39 ∨ 300 ≤ κ78 a := by
    intro a ha
    by_cases hab : a = b77
    · rw [hab, k80]; omega
    · rw [eκ78, hp_kk_n hab]; have := hm a ha; omega
  have hR : ∀ a, κ a = 0 → κ78 a = 0 ∨ (18 ≤ κ78 a ∧ κ78 a ≤ 30) ∨ κ78 a = 38 ∨ κ78 a = 39 := by
    intro a ha
    by_cases hab : a = b77
    · rw [hab, k80]; omega
    · rw [eκ78, hp_kk_n hab]; exact hR a ha
  have hQ : ∀ a, κ a ≠ 0 → a ≠ h0 → κ78 a = κ a := fun a h1 h2 => by rw [eκ78, hp_kk_n (fun e9 => h1 (by rw [← hQ a h1 h2, e9, zb77])), hQ a h1 h2]
  refine hp_putF (C := RX7) (T := TX7) (N := 24) (ci := 7) (kd := 209) hx hb hts iX7_init_X7 hown hK hZ.2.2.2.2 k79 (rfl : hk_t 209 = (1, 7, 24)) rfl 14 (by decide) (hts (.fieldLink RX7 49 "NeighborBookModel" "ports" "[I") (List.mem_of_getElem? (i := 19) rfl)) (fun _ h9 => h9) tyX7 tyX7_ok nmX7 (v := .ref b77) rfl rfl (by omega) hZ.1 rfl hin rfl dX7_init_93 (fun F H locs hM hO hS => ?_)
  have hZ := hp_step (k1 := 209) (k2 := 210) hZ.1 hZ.2.1 hZ.2.2.1 (Nat.le_trans hBz hS.1) hM hO hS k79 ((rfl : hk_t 210 = (1, 7, 24)).trans (rfl : hk_t 209 = (1, 7, 24)).symm) (by unfold hk_ok; omega) (by rw [(rfl : hk_t 210 = (1, 7, 24))]; decide) (fun a j hj _ h => by have := hk_sr (hZ.2.2.1 a) h hj; omega) (fun j hj h => by have := hk_sr (kd := 210) (by unfold hk_ok; omega) h hj; omega) ⟨b77, rfl, k80⟩ (fun j hj hl w hw => by
        have hl : j < 24 := by rw [(rfl : hk_t 209 = (1, 7, 24))] at hl; exact hl
        match j, hj, hl, hw with
        | 0, _, _, hw => exact hw
        | 1, _, _, hw => exact hw
        | 2, _, _, hw => exact hw
        | 3, _, _, hw => exact hw
        | 4, _, _, hw => exact hw
        | 5, _, _, hw => exact hw
        | 6, _, _, hw => exact hw
        | 7, _, _, hw => exact hw
        | 8, _, _, hw => exact hw
        | 9, _, _, hw => exact hw
        | 10, _, _, hw => exact hw
        | 11, _, _, hw => exact hw
        | 12, _, _, hw => exact hw
        | 13, _, _, hw => exact hw
        | 15, _, _, hw => exact hw
        | 16, _, _, hw => exact hw
        | 17, _, _, hw => exact hw
        | 18, _, _, hw => exact hw
        | 19, _, _, hw => exact hw
        | 20, _, _, hw => exact hw
        | 21, _, _, hw => exact hw
        | 22, _, _, hw => exact hw
        | 23, _, _, hw => exact hw
        | 14, hj, _, _ => exact absurd rfl hj
        | n9 + 24, _, hl, _ => exact absurd hl (by omega)) (fun h => absurd h (by decide))
  obtain ⟨κ81, eκ81⟩ : ∃ z, z = hp_kk κ78 h0 (210) := ⟨_, rfl⟩
  rw [← eκ81] at hZ
  have k82 : κ81 b77 = 26 := by rw [eκ81, hp_kk_n (fun h9 => by rw [h9, k79] at k80; omega)]; exact k80
  have k83 : κ81 h0 = 210 := by rw [eκ81]; exact hp_kk_s _ _ _
  have hm : ∀ a, a ≠ h0 → (κ81 a ≤ 26 ∧ κ81 a ≠ 11) ∨ κ81 a = 38 ∨ κ81 a = 39 ∨ 300 ≤ κ81 a := fun a ha => by rw [eκ81, hp_kk_n ha]; exact hm a ha
  have hR : ∀ a, κ a = 0 → κ81 a = 0 ∨ (18 ≤ κ81 a ∧ κ81 a ≤ 30) ∨ κ81 a = 38 ∨ κ81 a = 39 := fun a ha => by rw [eκ81, hp_kk_n (fun e9 => h0n (by rw [← e9]; exact ha))]; exact hR a ha
  have hQ : ∀ a, κ a ≠ 0 → a ≠ h0 → κ81 a = κ a := fun a h1 h2 => by rw [eκ81, hp_kk_n h2, hQ a h1 h2]
  refine lv_aload_n hx hb dX7_init_96 rfl (lv_at hl 0 rfl) ?_
  refine hq_bipush hx hb dX7_init_97 (by decide) (fun z84 ez84 => ?_)
  refine hp_newi (atype := .int) (ty := 0) (N := 13) (kd := 27) hx hb (hts (.arrayClass .int) (List.mem_of_getElem? (i := 7) rfl)) hK hZ (hK.2 0 _ rfl).2 rfl (by unfold hk_ok; omega) (fun _ k _ => ⟨0, rfl, (show 0 ≤ (0 : Int32).toInt ∧ (0 : Int32).toInt ≤ ((0 : Nat) : Int) by decide)⟩) (fun _ a h9 => by by_cases ha : a = h0; (rw [ha, k83] at h9; omega); (have := hm a ha; omega)) (by omega) (by show 13 * 4 ≤ 536870912; omega) (by show 10 + 1 ≤ 15; omega) (by show 1286 + 13 ≤ 9149; omega) dX7_init_99 (fun b85 H zb85 hZ => ?_)
  refine W.cs (cells' := 11) (slots' := 1299) (by omega) (by omega) ?_
  obtain ⟨κ86, eκ86⟩ : ∃ z, z = hp_kk κ81 b85 (27) := ⟨_, rfl⟩
  rw [← eκ86] at hZ
  have k87 : κ86 h0 = 210 := by rw [eκ86, hp_kk_n (ne_k k83 zb85 (by omega))]; exact k83
  have k88 : κ86 b85 = 27 := by rw [eκ86]; exact hp_kk_s _ _ _
  have hm : ∀ a, a ≠ h0 → (κ86 a ≤ 27 ∧ κ86 a ≠ 11) ∨ κ86 a = 38 ∨ κ86 a = 39 ∨ 300 ≤ κ86 a := by
    intro a ha
    by_cases hab : a = b85
    · rw [hab, k88]; omega
    · rw [eκ86, hp_kk_n hab]; have := hm a ha; omega
  have hR : ∀ a, κ a = 0 → κ86 a = 0 ∨ (18 ≤ κ86 a ∧ κ86 a ≤ 30) ∨ κ86 a = 38 ∨ κ86 a = 39 := by
    intro a ha
    by_cases hab : a = b85
    · rw [hab, k88]; omega
    · rw [eκ86, hp_kk_n hab]; exact hR a ha
  have hQ : ∀ a, κ a ≠ 0 → a ≠ h0 → κ86 a = κ a := fun a h1 h2 => by rw [eκ86, hp_kk_n (fun e9 => h1 (by rw [← hQ a h1 h2, e9, zb85])), hQ a h1 h2]
  refine hp_putF (C := RX7) (T := TX7) (N := 24) (ci := 7) (kd := 210) hx hb hts iX7_init_X7 hown hK hZ.2.2.2.2 k87 (rfl : hk_t 210 = (1, 7, 24)) rfl 15 (by decide) (hts (.fieldLink RX7 52 "NeighborBookModel" "left" "[I") (List.mem_of_getElem? (i := 20) rfl)) (fun _ h9 => h9) tyX7 tyX7_ok nmX7 (v := .ref b85) rfl rfl (by omega) hZ.1 rfl hin rfl dX7_init_101 (fun F H locs hM hO hS => ?_)
  have hZ := hp_step (k1 := 210) (k2 := 211) hZ.1 hZ.2.1 hZ.2.2.1 (Nat.le_trans hBz hS.1) hM hO hS k87 ((rfl : hk_t 211 = (1, 7, 24)).trans (rfl : hk_t 210 = (1, 7, 24)).symm) (by unfold hk_ok; omega) (by rw [(rfl : hk_t 211 = (1, 7, 24))]; decide) (fun a j hj _ h => by have := hk_sr (hZ.2.2.1 a) h hj; omega) (fun j hj h => by have := hk_sr (kd := 211) (by unfold hk_ok; omega) h hj; omega) ⟨b85, rfl, k88⟩ (fun j hj hl w hw => by
        have hl : j < 24 := by rw [(rfl : hk_t 210 = (1, 7, 24))] at hl; exact hl
        match j, hj, hl, hw with
        | 0, _, _, hw => exact hw
        | 1, _, _, hw => exact hw
        | 2, _, _, hw => exact hw
        | 3, _, _, hw => exact hw
        | 4, _, _, hw => exact hw
        | 5, _, _, hw => exact hw
        | 6, _, _, hw => exact hw
        | 7, _, _, hw => exact hw
        | 8, _, _, hw => exact hw
        | 9, _, _, hw => exact hw
        | 10, _, _, hw => exact hw
        | 11, _, _, hw => exact hw
        | 12, _, _, hw => exact hw
        | 13, _, _, hw => exact hw
        | 14, _, _, hw => exact hw
        | 16, _, _, hw => exact hw
        | 17, _, _, hw => exact hw
        | 18, _, _, hw => exact hw
        | 19, _, _, hw => exact hw
        | 20, _, _, hw => exact hw
        | 21, _, _, hw => exact hw
        | 22, _, _, hw => exact hw
        | 23, _, _, hw => exact hw
        | 15, hj, _, _ => exact absurd rfl hj
        | n9 + 24, _, hl, _ => exact absurd hl (by omega)) (fun h => absurd h (by decide))
  obtain ⟨κ89, eκ89⟩ : ∃ z, z = hp_kk κ86 h0 (211) := ⟨_, rfl⟩
  rw [← eκ89] at hZ
  have k90 : κ89 b85 = 27 := by rw [eκ89, hp_kk_n (fun h9 => by rw [h9, k87] at k88; omega)]; exact k88
  have k91 : κ89 h0 = 211 := by rw [eκ89]; exact hp_kk_s _ _ _
  have hm : ∀ a, a ≠ h0 → (κ89 a ≤ 27 ∧ κ89 a ≠ 11) ∨ κ89 a = 38 ∨ κ89 a = 39 ∨ 300 ≤ κ89 a := fun a ha => by rw [eκ89, hp_kk_n ha]; exact hm a ha
  have hR : ∀ a, κ a = 0 → κ89 a = 0 ∨ (18 ≤ κ89 a ∧ κ89 a ≤ 30) ∨ κ89 a = 38 ∨ κ89 a = 39 := fun a ha => by rw [eκ89, hp_kk_n (fun e9 => h0n (by rw [← e9]; exact ha))]; exact hR a ha
  have hQ : ∀ a, κ a ≠ 0 → a ≠ h0 → κ89 a = κ a := fun a h1 h2 => by rw [eκ89, hp_kk_n h2, hQ a h1 h2]
  refine lv_aload_n hx hb dX7_init_104 rfl (lv_at hl 0 rfl) ?_
  refine hq_bipush hx hb dX7_init_105 (by decide) (fun z92 ez92 => ?_)
  refine hp_newi (atype := .int) (ty := 0) (N := 13) (kd := 28) hx hb (hts (.arrayClass .int) (List.mem_of_getElem? (i := 7) rfl)) hK hZ (hK.2 0 _ rfl).2 rfl (by unfold hk_ok; omega) (fun _ k _ => ⟨0, rfl, trivial⟩) (fun _ a h9 => by by_cases ha : a = h0; (rw [ha, k91] at h9; omega); (have := hm a ha; omega)) (by omega) (by show 13 * 4 ≤ 536870912; omega) (by show 11 + 1 ≤ 15; omega) (by show 1299 + 13 ≤ 9149; omega) dX7_init_107 (fun b93 H zb93 hZ => ?_)
  refine W.cs (cells' := 12) (slots' := 1312) (by omega) (by omega) ?_
  obtain ⟨κ94, eκ94⟩ : ∃ z, z = hp_kk κ89 b93 (28) := ⟨_, rfl⟩
  rw [← eκ94] at hZ
  have k95 : κ94 h0 = 211 := by rw [eκ94, hp_kk_n (ne_k k91 zb93 (by omega))]; exact k91
  have k96 : κ94 b93 = 28 := by rw [eκ94]; exact hp_kk_s _ _ _
  have hm : ∀ a, a ≠ h0 → (κ94 a ≤ 28 ∧ κ94 a ≠ 11) ∨ κ94 a = 38 ∨ κ94 a = 39 ∨ 300 ≤ κ94 a := by
    intro a ha
    by_cases hab : a = b93
    · rw [hab, k96]; omega
    · rw [eκ94, hp_kk_n hab]; have := hm a ha; omega
  have hR : ∀ a, κ a = 0 → κ94 a = 0 ∨ (18 ≤ κ94 a ∧ κ94 a ≤ 30) ∨ κ94 a = 38 ∨ κ94 a = 39 := by
    intro a ha
    by_cases hab : a = b93
    · rw [hab, k96]; omega
    · rw [eκ94, hp_kk_n hab]; exact hR a ha
  have hQ : ∀ a, κ a ≠ 0 → a ≠ h0 → κ94 a = κ a := fun a h1 h2 => by rw [eκ94, hp_kk_n (fun e9 => h1 (by rw [← hQ a h1 h2, e9, zb93])), hQ a h1 h2]
  refine hp_putF (C := RX7) (T := TX7) (N := 24) (ci := 7) (kd := 211) hx hb hts iX7_init_X7 hown hK hZ.2.2.2.2 k95 (rfl : hk_t 211 = (1, 7, 24)) rfl 16 (by decide) (hts (.fieldLink RX7 55 "NeighborBookModel" "frames" "[I") (List.mem_of_getElem? (i := 21) rfl)) (fun _ h9 => h9) tyX7 tyX7_ok nmX7 (v := .ref b93) rfl rfl (by omega) hZ.1 rfl hin rfl dX7_init_109 (fun F H locs hM hO hS => ?_)
  have hZ := hp_step (k1 := 211) (k2 := 212) hZ.1 hZ.2.1 hZ.2.2.1 (Nat.le_trans hBz hS.1) hM hO hS k95 ((rfl : hk_t 212 = (1, 7, 24)).trans (rfl : hk_t 211 = (1, 7, 24)).symm) (by unfold hk_ok; omega) (by rw [(rfl : hk_t 212 = (1, 7, 24))]; decide) (fun a j hj _ h => by have := hk_sr (hZ.2.2.1 a) h hj; omega) (fun j hj h => by have := hk_sr (kd := 212) (by unfold hk_ok; omega) h hj; omega) ⟨b93, rfl, k96⟩ (fun j hj hl w hw => by
        have hl : j < 24 := by rw [(rfl : hk_t 211 = (1, 7, 24))] at hl; exact hl
        match j, hj, hl, hw with
        | 0, _, _, hw => exact hw
        | 1, _, _, hw => exact hw
        | 2, _, _, hw => exact hw
        | 3, _, _, hw => exact hw
        | 4, _, _, hw => exact hw
        | 5, _, _, hw => exact hw
        | 6, _, _, hw => exact hw
        | 7, _, _, hw => exact hw
        | 8, _, _, hw => exact hw
        | 9, _, _, hw => exact hw
        | 10, _, _, hw => exact hw
        | 11, _, _, hw => exact hw
        | 12, _, _, hw => exact hw
        | 13, _, _, hw => exact hw
        | 14, _, _, hw => exact hw
        | 15, _, _, hw => exact hw
        | 17, _, _, hw => exact hw
        | 18, _, _, hw => exact hw
        | 19, _, _, hw => exact hw
        | 20, _, _, hw => exact hw
        | 21, _, _, hw => exact hw
        | 22, _, _, hw => exact hw
        | 23, _, _, hw => exact hw
        | 16, hj, _, _ => exact absurd rfl hj
        | n9 + 24, _, hl, _ => exact absurd hl (by omega)) (fun h => absurd h (by decide))
  obtain ⟨κ97, eκ97⟩ : ∃ z, z = hp_kk κ94 h0 (212) := ⟨_, rfl⟩
  rw [← eκ97] at hZ
  have k98 : κ97 b93 = 28 := by rw [eκ97, hp_kk_n (fun h9 => by rw [h9, k95] at k96; omega)]; exact k96
  have k99 : κ97 h0 = 212 := by rw [eκ97]; exact hp_kk_s _ _ _
  have hm : ∀ a, a ≠ h0 → (κ97 a ≤ 28 ∧ κ97 a ≠ 11) ∨ κ97 a = 38 ∨ κ97 a = 39 ∨ 300 ≤ κ97 a := fun a ha => by rw [eκ97, hp_kk_n ha]; exact hm a ha
  have hR : ∀ a, κ a = 0 → κ97 a = 0 ∨ (18 ≤ κ97 a ∧ κ97 a ≤ 30) ∨ κ97 a = 38 ∨ κ97 a = 39 := fun a ha => by rw [eκ97, hp_kk_n (fun e9 => h0n (by rw [← e9]; exact ha))]; exact hR a ha
  have hQ : ∀ a, κ a ≠ 0 → a ≠ h0 → κ97 a = κ a := fun a h1 h2 => by rw [eκ97, hp_kk_n h2, hQ a h1 h2]
  refine lv_aload_n hx hb dX7_init_112 rfl (lv_at hl 0 rfl) ?_
  refine hq_sipush hx hb dX7_init_113 (by decide) (fun z100 ez100 => ?_)
  refine hp_newi (atype := .byte) (ty := 1) (N := 7020) (kd := 29) hx hb (hts (.arrayClass .byte) (List.mem_of_getElem? (i := 4) rfl)) hK hZ (hK.2 1 _ rfl).2 rfl (by unfold hk_ok; omega) (fun _ k _ => ⟨0, rfl, by decide, by decide⟩) (fun _ a h9 => by by_cases ha : a = h0; (rw [ha, k99] at h9; omega); (have := hm a ha; omega)) (by omega) (by show 7020 * 1 ≤ 536870912; omega) (by show 12 + 1 ≤ 15; omega) (by show 1312 + 7020 ≤ 9149; omega) dX7_init_116 (fun b101 H zb101 hZ => ?_)
  refine W.cs (cells' := 13) (slots' := 8332) (by omega) (by omega) ?_
  obtain ⟨κ102, eκ102⟩ : ∃ z, z = hp_kk κ97 b101 (29) := ⟨_, rfl⟩
  rw [← eκ102] at hZ
  have k103 : κ102 h0 = 212 := by rw [eκ102, hp_kk_n (ne_k k99 zb101 (by omega))]; exact k99
  have k104 : κ102 b101 = 29 := by rw [eκ102]; exact hp_kk_s _ _ _
  have hm : ∀ a, a ≠ h0 → (κ102 a ≤ 29 ∧ κ102 a ≠ 11) ∨ κ102 a = 38 ∨ κ102 a = 39 ∨ 300 ≤ κ102 a := by
    intro a ha
    by_cases hab : a = b101
    · rw [hab, k104]; omega
    · rw [eκ102, hp_kk_n hab]; have := hm a ha; omega
  have hR : ∀ a, κ a = 0 → κ102 a = 0 ∨ (18 ≤ κ102 a ∧ κ102 a ≤ 30) ∨ κ102 a = 38 ∨ κ102 a = 39 := by
    intro a ha
    by_cases hab : a = b101
    · rw [hab, k104]; omega
    · rw [eκ102, hp_kk_n hab]; exact hR a ha
  have hQ : ∀ a, κ a ≠ 0 → a ≠ h0 → κ102 a = κ a := fun a h1 h2 => by rw [eκ102, hp_kk_n (fun e9 => h1 (by rw [← hQ a h1 h2, e9, zb101])), hQ a h1 h2]
  refine hp_putF (C := RX7) (T := TX7) (N := 24) (ci := 7) (kd := 212) hx hb hts iX7_init_X7 hown hK hZ.2.2.2.2 k103 (rfl : hk_t 212 = (1, 7, 24)) rfl 17 (by decide) (hts (.fieldLink RX7 58 "NeighborBookModel" "bytes" "[B") (List.mem_of_getElem? (i := 22) rfl)) (fun _ h9 => h9) tyX7 tyX7_ok nmX7 (v := .ref b101) rfl rfl (by omega) hZ.1 rfl hin rfl dX7_init_118 (fun F H locs hM hO hS => ?_)
  have hZ := hp_step (k1 := 212) (k2 := 213) hZ.1 hZ.2.1 hZ.2.2.1 (Nat.le_trans hBz hS.1) hM hO hS k103 ((rfl : hk_t 213 = (1, 7, 24)).trans (rfl : hk_t 212 = (1, 7, 24)).symm) (by unfold hk_ok; omega) (by rw [(rfl : hk_t 213 = (1, 7, 24))]; decide) (fun a j hj _ h => by have := hk_sr (hZ.2.2.1 a) h hj; omega) (fun j hj h => by have := hk_sr (kd := 213) (by unfold hk_ok; omega) h hj; omega) ⟨b101, rfl, k104⟩ (fun j hj hl w hw => by
        have hl : j < 24 := by rw [(rfl : hk_t 212 = (1, 7, 24))] at hl; exact hl
        match j, hj, hl, hw with
        | 0, _, _, hw => exact hw
        | 1, _, _, hw => exact hw
        | 2, _, _, hw => exact hw
        | 3, _, _, hw => exact hw
        | 4, _, _, hw => exact hw
        | 5, _, _, hw => exact hw
        | 6, _, _, hw => exact hw
        | 7, _, _, hw => exact hw
        | 8, _, _, hw => exact hw
        | 9, _, _, hw => exact hw
        | 10, _, _, hw => exact hw
        | 11, _, _, hw => exact hw
        | 12, _, _, hw => exact hw
        | 13, _, _, hw => exact hw
        | 14, _, _, hw => exact hw
        | 15, _, _, hw => exact hw
        | 16, _, _, hw => exact hw
        | 18, _, _, hw => exact hw
        | 19, _, _, hw => exact hw
        | 20, _, _, hw => exact hw
        | 21, _, _, hw => exact hw
        | 22, _, _, hw => exact hw
        | 23, _, _, hw => exact hw
        | 17, hj, _, _ => exact absurd rfl hj
        | n9 + 24, _, hl, _ => exact absurd hl (by omega)) (fun h => absurd h (by decide))
  obtain ⟨κ105, eκ105⟩ : ∃ z, z = hp_kk κ102 h0 (213) := ⟨_, rfl⟩
  rw [← eκ105] at hZ
  have k106 : κ105 b101 = 29 := by rw [eκ105, hp_kk_n (fun h9 => by rw [h9, k103] at k104; omega)]; exact k104
  have k107 : κ105 h0 = 213 := by rw [eκ105]; exact hp_kk_s _ _ _
  have hm : ∀ a, a ≠ h0 → (κ105 a ≤ 29 ∧ κ105 a ≠ 11) ∨ κ105 a = 38 ∨ κ105 a = 39 ∨ 300 ≤ κ105 a := fun a ha => by rw [eκ105, hp_kk_n ha]; exact hm a ha
  have hR : ∀ a, κ a = 0 → κ105 a = 0 ∨ (18 ≤ κ105 a ∧ κ105 a ≤ 30) ∨ κ105 a = 38 ∨ κ105 a = 39 := fun a ha => by rw [eκ105, hp_kk_n (fun e9 => h0n (by rw [← e9]; exact ha))]; exact hR a ha
  have hQ : ∀ a, κ a ≠ 0 → a ≠ h0 → κ105 a = κ a := fun a h1 h2 => by rw [eκ105, hp_kk_n h2, hQ a h1 h2]
  refine lv_aload_n hx hb dX7_init_121 rfl (lv_at hl 0 rfl) ?_
  refine hq_bipush hx hb dX7_init_122 (by decide) (fun z108 ez108 => ?_)
  refine hp_newi (atype := .int) (ty := 0) (N := 117) (kd := 30) hx hb (hts (.arrayClass .int) (List.mem_of_getElem? (i := 7) rfl)) hK hZ (hK.2 0 _ rfl).2 rfl (by unfold hk_ok; omega) (fun _ k _ => ⟨0, rfl, (show -1 ≤ (0 : Int32).toInt ∧ (0 : Int32).toInt ≤ ((60 : Nat) : Int) by decide)⟩) (fun _ a h9 => by by_cases ha : a = h0; (rw [ha, k107] at h9; omega); (have := hm a ha; omega)) (by omega) (by show 117 * 4 ≤ 536870912; omega) (by show 13 + 1 ≤ 15; omega) (by show 8332 + 117 ≤ 9149; omega) dX7_init_124 (fun b109 H zb109 hZ => ?_)
  refine W.cs (cells' := 14) (slots' := 8449) (by omega) (by omega) ?_
  obtain ⟨κ110, eκ110⟩ : ∃ z, z = hp_kk κ105 b109 (30) := ⟨_, rfl⟩
  rw [← eκ110] at hZ
  have k111 : κ110 h0 = 213 := by rw [eκ110, hp_kk_n (ne_k k107 zb109 (by omega))]; exact k107
  have k112 : κ110 b109 = 30 := by rw [eκ110]; exact hp_kk_s _ _ _
  have hm : ∀ a, a ≠ h0 → (κ110 a ≤ 30 ∧ κ110 a ≠ 11) ∨ κ110 a = 38 ∨ κ110 a = 39 ∨ 300 ≤ κ110 a := by
    intro a ha
    by_cases hab : a = b109
    · rw [hab, k112]; omega
    · rw [eκ110, hp_kk_n hab]; have := hm a ha; omega
  have hR : ∀ a, κ a = 0 → κ110 a = 0 ∨ (18 ≤ κ110 a ∧ κ110 a ≤ 30) ∨ κ110 a = 38 ∨ κ110 a = 39 := by
    intro a ha
    by_cases hab : a = b109
    · rw [hab, k112]; omega
    · rw [eκ110, hp_kk_n hab]; exact hR a ha
  have hQ : ∀ a, κ a ≠ 0 → a ≠ h0 → κ110 a = κ a := fun a h1 h2 => by rw [eκ110, hp_kk_n (fun e9 => h1 (by rw [← hQ a h1 h2, e9, zb109])), hQ a h1 h2]
  refine hp_putF (C := RX7) (T := TX7) (N := 24) (ci := 7) (kd := 213) hx hb hts iX7_init_X7 hown hK hZ.2.2.2.2 k111 (rfl : hk_t 213 = (1, 7, 24)) rfl 18 (by decide) (hts (.fieldLink RX7 61 "NeighborBookModel" "sizes" "[I") (List.mem_of_getElem? (i := 23) rfl)) (fun _ h9 => h9) tyX7 tyX7_ok nmX7 (v := .ref b109) rfl rfl (by omega) hZ.1 rfl hin rfl dX7_init_126 (fun F H locs hM hO hS => ?_)
  have hZ := hp_step (k1 := 213) (k2 := 214) hZ.1 hZ.2.1 hZ.2.2.1 (Nat.le_trans hBz hS.1) hM hO hS k111 ((rfl : hk_t 214 = (1, 7, 24)).trans (rfl : hk_t 213 = (1, 7, 24)).symm) (by unfold hk_ok; omega) (by rw [(rfl : hk_t 214 = (1, 7, 24))]; decide) (fun a j hj _ h => by have := hk_sr (hZ.2.2.1 a) h hj; omega) (fun j hj h => by have := hk_sr (kd := 214) (by unfold hk_ok; omega) h hj; omega) ⟨b109, rfl, k112⟩ (fun j hj hl w hw => by
        have hl : j < 24 := by rw [(rfl : hk_t 213 = (1, 7, 24))] at hl; exact hl
        match j, hj, hl, hw with
        | 0, _, _, hw => exact hw
        | 1, _, _, hw => exact hw
        | 2, _, _, hw => exact hw
        | 3, _, _, hw => exact hw
        | 4, _, _, hw => exact hw
        | 5, _, _, hw => exact hw
        | 6, _, _, hw => exact hw
        | 7, _, _, hw => exact hw
        | 8, _, _, hw => exact hw
        | 9, _, _, hw => exact hw
        | 10, _, _, hw => exact hw
        | 11, _, _, hw => exact hw
        | 12, _, _, hw => exact hw
        | 13, _, _, hw => exact hw
        | 14, _, _, hw => exact hw
        | 15, _, _, hw => exact hw
        | 16, _, _, hw => exact hw
        | 17, _, _, hw => exact hw
        | 19, _, _, hw => exact hw
        | 20, _, _, hw => exact hw
        | 21, _, _, hw => exact hw
        | 22, _, _, hw => exact hw
        | 23, _, _, hw => exact hw
        | 18, hj, _, _ => exact absurd rfl hj
        | n9 + 24, _, hl, _ => exact absurd hl (by omega)) (fun h => absurd h (by decide))
  obtain ⟨κ113, eκ113⟩ : ∃ z, z = hp_kk κ110 h0 (214) := ⟨_, rfl⟩
  rw [← eκ113] at hZ
  have k114 : κ113 b109 = 30 := by rw [eκ113, hp_kk_n (fun h9 => by rw [h9, k111] at k112; omega)]; exact k112
  have k115 : κ113 h0 = 214 := by rw [eκ113]; exact hp_kk_s _ _ _
  have hm : ∀ a, a ≠ h0 → (κ113 a ≤ 30 ∧ κ113 a ≠ 11) ∨ κ113 a = 38 ∨ κ113 a = 39 ∨ 300 ≤ κ113 a := fun a ha => by rw [eκ113, hp_kk_n ha]; exact hm a ha
  have hR : ∀ a, κ a = 0 → κ113 a = 0 ∨ (18 ≤ κ113 a ∧ κ113 a ≤ 30) ∨ κ113 a = 38 ∨ κ113 a = 39 := fun a ha => by rw [eκ113, hp_kk_n (fun e9 => h0n (by rw [← e9]; exact ha))]; exact hR a ha
  have hQ : ∀ a, κ a ≠ 0 → a ≠ h0 → κ113 a = κ a := fun a h1 h2 => by rw [eκ113, hp_kk_n h2, hQ a h1 h2]
  refine lv_aload_n hx hb dX7_init_129 rfl (lv_at hl 0 rfl) ?_
  refine hq_sipush hx hb dX7_init_130 (by decide) (fun z116 ez116 => ?_)
  refine hp_newi (atype := .byte) (ty := 1) (N := 700) (kd := 39) hx hb (hts (.arrayClass .byte) (List.mem_of_getElem? (i := 4) rfl)) hK hZ (hK.2 1 _ rfl).2 rfl (by unfold hk_ok; omega) (fun _ k _ => ⟨0, rfl, by decide, by decide⟩) (fun h => absurd h (by decide)) (by omega) (by show 700 * 1 ≤ 536870912; omega) (by show 14 + 1 ≤ 15; omega) (by show 8449 + 700 ≤ 9149; omega) dX7_init_133 (fun b117 H zb117 hZ => ?_)
  refine W.cs (cells' := 15) (slots' := 9149) (by omega) (by omega) ?_
  obtain ⟨κ118, eκ118⟩ : ∃ z, z = hp_kk κ113 b117 (39) := ⟨_, rfl⟩
  rw [← eκ118] at hZ
  have k119 : κ118 h0 = 214 := by rw [eκ118, hp_kk_n (ne_k k115 zb117 (by omega))]; exact k115
  have k120 : κ118 b117 = 39 := by rw [eκ118]; exact hp_kk_s _ _ _
  have hm : ∀ a, a ≠ h0 → (κ118 a ≤ 30 ∧ κ118 a ≠ 11) ∨ κ118 a = 38 ∨ κ118 a = 39 ∨ 300 ≤ κ118 a := by
    intro a ha
    by_cases hab : a = b117
    · rw [hab, k120]; omega
    · rw [eκ118, hp_kk_n hab]; have := hm a ha; omega
  have hR : ∀ a, κ a = 0 → κ118 a = 0 ∨ (18 ≤ κ118 a ∧ κ118 a ≤ 30) ∨ κ118 a = 38 ∨ κ118 a = 39 := by
    intro a ha
    by_cases hab : a = b117
    · rw [hab, k120]; omega
    · rw [eκ118, hp_kk_n hab]; exact hR a ha
  have hQ : ∀ a, κ a ≠ 0 → a ≠ h0 → κ118 a = κ a := fun a h1 h2 => by rw [eκ118, hp_kk_n (fun e9 => h1 (by rw [← hQ a h1 h2, e9, zb117])), hQ a h1 h2]
  refine hp_putF (C := RX7) (T := TX7) (N := 24) (ci := 7) (kd := 214) hx hb hts iX7_init_X7 hown hK hZ.2.2.2.2 k119 (rfl : hk_t 214 = (1, 7, 24)) rfl 21 (by decide) (hts (.fieldLink RX7 64 "NeighborBookModel" "page" "[B") (List.mem_of_getElem? (i := 24) rfl)) (fun _ h9 => h9) tyX7 tyX7_ok nmX7 (v := .ref b117) rfl rfl (by omega) hZ.1 rfl hin rfl dX7_init_135 (fun F H locs hM hO hS => ?_)
  have hZ := hp_step (k1 := 214) (k2 := 215) hZ.1 hZ.2.1 hZ.2.2.1 (Nat.le_trans hBz hS.1) hM hO hS k119 ((rfl : hk_t 215 = (1, 7, 24)).trans (rfl : hk_t 214 = (1, 7, 24)).symm) (by unfold hk_ok; omega) (by rw [(rfl : hk_t 215 = (1, 7, 24))]; decide) (fun a j hj _ h => by have := hk_sr (hZ.2.2.1 a) h hj; omega) (fun j hj h => by have := hk_sr (kd := 215) (by unfold hk_ok; omega) h hj; omega) ⟨b117, rfl, k120⟩ (fun j hj hl w hw => by
        have hl : j < 24 := by rw [(rfl : hk_t 214 = (1, 7, 24))] at hl; exact hl
        match j, hj, hl, hw with
        | 0, _, _, hw => exact hw
        | 1, _, _, hw => exact hw
        | 2, _, _, hw => exact hw
        | 3, _, _, hw => exact hw
        | 4, _, _, hw => exact hw
        | 5, _, _, hw => exact hw
        | 6, _, _, hw => exact hw
        | 7, _, _, hw => exact hw
        | 8, _, _, hw => exact hw
        | 9, _, _, hw => exact hw
        | 10, _, _, hw => exact hw
        | 11, _, _, hw => exact hw
        | 12, _, _, hw => exact hw
        | 13, _, _, hw => exact hw
        | 14, _, _, hw => exact hw
        | 15, _, _, hw => exact hw
        | 16, _, _, hw => exact hw
        | 17, _, _, hw => exact hw
        | 18, _, _, hw => exact hw
        | 19, _, _, hw => exact hw
        | 20, _, _, hw => exact hw
        | 22, _, _, hw => exact hw
        | 23, _, _, hw => exact hw
        | 21, hj, _, _ => exact absurd rfl hj
        | n9 + 24, _, hl, _ => exact absurd hl (by omega)) (fun h => absurd h (by decide))
  obtain ⟨κ121, eκ121⟩ : ∃ z, z = hp_kk κ118 h0 (215) := ⟨_, rfl⟩
  rw [← eκ121] at hZ
  have k122 : κ121 b117 = 39 := by rw [eκ121, hp_kk_n (fun h9 => by rw [h9, k119] at k120; omega)]; exact k120
  have k123 : κ121 h0 = 215 := by rw [eκ121]; exact hp_kk_s _ _ _
  have hm : ∀ a, a ≠ h0 → (κ121 a ≤ 30 ∧ κ121 a ≠ 11) ∨ κ121 a = 38 ∨ κ121 a = 39 ∨ 300 ≤ κ121 a := fun a ha => by rw [eκ121, hp_kk_n ha]; exact hm a ha
  have hR : ∀ a, κ a = 0 → κ121 a = 0 ∨ (18 ≤ κ121 a ∧ κ121 a ≤ 30) ∨ κ121 a = 38 ∨ κ121 a = 39 := fun a ha => by rw [eκ121, hp_kk_n (fun e9 => h0n (by rw [← e9]; exact ha))]; exact hR a ha
  have hQ : ∀ a, κ a ≠ 0 → a ≠ h0 → κ121 a = κ a := fun a h1 h2 => by rw [eκ121, hp_kk_n h2, hQ a h1 h2]
  refine lv_aload_n hx hb dX7_init_138 rfl (lv_at hl 0 rfl) ?_
  refine hq_iconst hx hb dX7_init_139 (by decide) (by decide) (fun z124 ez124 => ?_)
  refine hp_putv (C := RX7) (T := TX7) (N := 24) (ci := 7) (kd := 215) hx hb hts iX7_init_X7 hown hK hZ.2.2.2.2 k123 (rfl : hk_t 215 = (1, 7, 24)) rfl 23 (by decide) (hts (.fieldLink RX7 67 "NeighborBookModel" "pagePort" "I") (List.mem_of_getElem? (i := 25) rfl)) (fun _ h9 => h9) tyX7 tyX7_ok nmX7 (v := .int z124) rfl rfl (by omega) hZ.1 rfl dX7_init_140 (fun F H locs hM hO hS => ?_)
  have hZ := hp_step (k1 := 215) (k2 := 11) hZ.1 hZ.2.1 hZ.2.2.1 (Nat.le_trans hBz hS.1) hM hO hS k123 ((rfl : hk_t 11 = (1, 7, 24)).trans (rfl : hk_t 215 = (1, 7, 24)).symm) (by unfold hk_ok; omega) (by rw [(rfl : hk_t 11 = (1, 7, 24))]; decide) (fun a j hj _ h => by have := hk_sr (hZ.2.2.1 a) h hj; omega) (fun j hj h => by have := hk_sr (kd := 11) (by unfold hk_ok; omega) h hj; omega) ⟨z124, rfl, (show z124.toInt = g 11 23 by rw [hg2]; exact ez124)⟩ (fun j hj hl w hw => by
        have hl : j < 24 := by rw [(rfl : hk_t 215 = (1, 7, 24))] at hl; exact hl
        match j, hj, hl, hw with
        | 0, _, _, hw => exact hw
        | 1, _, _, hw => obtain ⟨x9, hx1, hx2, hx3⟩ := (show ∃ x : Int32, w = .int x ∧ 0 ≤ x.toInt ∧ x.toInt ≤ ((0 : Nat) : Int) from hw); exact ⟨x9, hx1, (show x9.toInt = g 11 1 by rw [hg 11 1 (by decide)]; omega)⟩
        | 2, _, _, hw => exact hw
        | 3, _, _, hw => exact hw
        | 4, _, _, hw => exact hw
        | 5, _, _, hw => exact hw
        | 6, _, _, hw => exact hw
        | 7, _, _, hw => exact hw
        | 8, _, _, hw => exact hw
        | 9, _, _, hw => exact hw
        | 10, _, _, hw => exact hw
        | 11, _, _, hw => exact hw
        | 12, _, _, hw => exact hw
        | 13, _, _, hw => obtain ⟨x9, hx1, hx2, hx3⟩ := (show ∃ x : Int32, w = .int x ∧ 0 ≤ x.toInt ∧ x.toInt ≤ ((0 : Nat) : Int) from hw); exact ⟨x9, hx1, (show x9.toInt = g 11 13 by rw [hg 11 13 (by decide)]; omega)⟩
        | 14, _, _, hw => exact hw
        | 15, _, _, hw => exact hw
        | 16, _, _, hw => exact hw
        | 17, _, _, hw => exact hw
        | 18, _, _, hw => exact hw
        | 19, _, _, hw => obtain ⟨x9, hx1, hx2, hx3⟩ := (show ∃ x : Int32, w = .int x ∧ 0 ≤ x.toInt ∧ x.toInt ≤ ((0 : Nat) : Int) from hw); exact ⟨x9, hx1, (show x9.toInt = g 11 19 by rw [hg 11 19 (by decide)]; omega)⟩
        | 20, _, _, hw => obtain ⟨x9, hx1, hx2, hx3⟩ := (show ∃ x : Int32, w = .int x ∧ 0 ≤ x.toInt ∧ x.toInt ≤ ((0 : Nat) : Int) from hw); exact ⟨x9, hx1, (show x9.toInt = g 11 20 by rw [hg 11 20 (by decide)]; omega)⟩
        | 21, _, _, hw => exact hw
        | 22, _, _, hw => obtain ⟨x9, hx1, hx2, hx3⟩ := (show ∃ x : Int32, w = .int x ∧ 0 ≤ x.toInt ∧ x.toInt ≤ ((0 : Nat) : Int) from hw); exact ⟨x9, hx1, (show x9.toInt = g 11 22 by rw [hg 11 22 (by decide)]; omega)⟩
        | 23, hj, _, _ => exact absurd rfl hj
        | n9 + 24, _, hl, _ => exact absurd hl (by omega)) (fun _ a h9 => by by_cases ha : a = h0; (rw [ha, k123] at h9; omega); (have := hm a ha; omega))
  obtain ⟨κ125, eκ125⟩ : ∃ z, z = hp_kk κ121 h0 (11) := ⟨_, rfl⟩
  rw [← eκ125] at hZ
  have k126 : κ125 h0 = 11 := by rw [eκ125]; exact hp_kk_s _ _ _
  have hR : ∀ a, κ a = 0 → κ125 a = 0 ∨ (18 ≤ κ125 a ∧ κ125 a ≤ 30) ∨ κ125 a = 38 ∨ κ125 a = 39 := fun a ha => by rw [eκ125, hp_kk_n (fun e9 => h0n (by rw [← e9]; exact ha))]; exact hR a ha
  have hQ : ∀ a, κ a ≠ 0 → a ≠ h0 → κ125 a = κ a := fun a h1 h2 => by rw [eκ125, hp_kk_n h2, hQ a h1 h2]
  refine hq_iconst hx hb dX7_init_143 (by decide) (by decide) (fun z127 ez127 => ?_)
  refine lv_istore_n (lv' := [(1, .int z127), (0, .ref h0)]) hx hb dX7_init_144 rfl hl (by decide) rfl (fun ls hl => ?_)
  have hJ := hZ.2.2.2.2
  have hW := hZ.1
  have lp502 : ∀ (nlp502 : Nat) (v501 : Int32) (H : Heap) (locs : List Loc) (ls : Array Slot), (0 ≤ v501.toInt) → (v501.toInt ≤ 9) → (10 - v501.toInt < (nlp502 : Int)) → hp_J dC dI dA κ125 B g s.heap H locs → lv_has ls 2 [(0, .ref h0), (1, .int v501)] → W p l e (headSpec wsX7_init ({ frames := 1, cells := 15, slots := 9149, locals := 12 } : Room)).room s m ([Value.ref h0] : List Value).toArray below meth c H locs 15 9149 (MQ below (hp_QU dC dI dA B g (fun κ' => κ' h0 = 11 ∧ (∀ a, κ a ≠ 0 → a ≠ h0 → κ' a = κ a) ∧ ∀ a, κ a = 0 → κ' a = 0 ∨ (18 ≤ κ' a ∧ κ' a ≤ 30) ∨ κ' a = 38 ∨ κ' a = 39)) ([Value.ref h0] : List Value).toArray s 15 9149 (hp_A B)) (F0 m 145 ls []) := by
    intro nlp502
    induction nlp502 with
    | zero => intro v501 H locs ls iv504 iv505 hm503 hJ hl; exact absurd hm503 (by omega)
    | succ nlp502 ihlp502 =>
      intro v501 H locs ls iv504 iv505 hm503 hJ hl
      refine lv_iload_n hx hb dX7_init_145 rfl (lv_at hl 1 rfl) ?_
      refine hq_bipush hx hb dX7_init_146 (by decide) (fun z506 ez506 => ?_)
      refine hq_icmp_ge (tgt := 178) hx hb dX7_init_148 (by decide) (fun c507 => ?_) (fun c507 => ?_)
      · exact hp_Uret hx hb hK hN hAO hlocks (⟨hZ.1, hZ.2.1, hZ.2.2.1, Nat.le_trans hBz hJ.2.1, hJ⟩ : hp_Z dC dI dA κ125 B g s.heap H locs) hr ⟨k126, hQ, hR⟩ dX7_init_178
      · refine lv_aload_n hx hb dX7_init_151 rfl (lv_at hl 0 rfl) ?_
        refine hp_getr (C := RX7) (T := TX7) (N := 24) (ci := 7) (kd := 11) hx hb hts iX7_init_X7 hown hK hJ k126 rfl rfl 3 (by decide) (hts (.fieldLink RX7 16 "NeighborBookModel" "ownSizes" "[I") (List.mem_of_getElem? (i := 8) rfl)) (fun _ h9 => h9) rfl dX7_init_152 (fun b508 kb508 => ?_)
        refine lv_iload_n hx hb dX7_init_155 rfl (lv_at hl 1 rfl) ?_
        refine lv_iload_n hx hb dX7_init_156 rfl (lv_at hl 1 rfl) ?_
        refine hq_iconst hx hb dX7_init_157 (by decide) (by decide) (fun z509 ez509 => ?_)
        refine hq_icmp_eq (tgt := 166) hx hb dX7_init_158 (by decide) (fun c510 => ?_) (fun c510 => ?_)
        · refine hq_iconst hx hb dX7_init_166 (by decide) (by decide) (fun z511 ez511 => ?_)
          refine lv_goto (tgt := 171) hx hb dX7_init_167 (by decide) ?_
          refine hp_iast (kd := 19) (n := 9) hx hb hK hJ kb508 rfl (by omega) (by omega) (by decide) hW (sp := (3, 60)) rfl rfl (show _ ∧ _ from by constructor <;> omega) dX7_init_171 (fun H locs hJ => ?_)
          refine hq_iinc (k := 1) (lv' := fun (z9 : Int32) => [(1, .int z9), (0, .ref h0)]) hx hb dX7_init_172 hl rfl (by decide) (by decide) (by omega) (by omega) (by decide) (fun _ => rfl) (fun x512 ls ex512 hl => ?_)
          have hl : lv_has ls 2 [(1, .int x512), (0, .ref h0)] := hl
          refine lv_goto (tgt := 145) hx hb dX7_init_175 (by decide) ?_
          exact ihlp502 x512 _ _ ls (by omega) (by omega) (by omega) hJ (lv_sub hl [1, 0] rfl)
        · refine lv_iload_n hx hb dX7_init_161 rfl (lv_at hl 1 rfl) ?_
          refine hq_iconst hx hb dX7_init_162 (by decide) (by decide) (fun z513 ez513 => ?_)
          refine hq_icmp_ne (tgt := 170) hx hb dX7_init_163 (by decide) (fun c514 => ?_) (fun c514 => ?_)
          · refine hq_iconst hx hb dX7_init_170 (by decide) (by decide) (fun z515 ez515 => ?_)
            refine hp_iast (kd := 19) (n := 9) hx hb hK hJ kb508 rfl (by omega) (by omega) (by decide) hW (sp := (3, 60)) rfl rfl (show _ ∧ _ from by constructor <;> omega) dX7_init_171 (fun H locs hJ => ?_)
            refine hq_iinc (k := 1) (lv' := fun (z9 : Int32) => [(1, .int z9), (0, .ref h0)]) hx hb dX7_init_172 hl rfl (by decide) (by decide) (by omega) (by omega) (by decide) (fun _ => rfl) (fun x516 ls ex516 hl => ?_)
            have hl : lv_has ls 2 [(1, .int x516), (0, .ref h0)] := hl
            refine lv_goto (tgt := 145) hx hb dX7_init_175 (by decide) ?_
            exact ihlp502 x516 _ _ ls (by omega) (by omega) (by omega) hJ (lv_sub hl [1, 0] rfl)
          · refine hq_iconst hx hb dX7_init_166 (by decide) (by decide) (fun z517 ez517 => ?_)
            refine lv_goto (tgt := 171) hx hb dX7_init_167 (by decide) ?_
            refine hp_iast (kd := 19) (n := 9) hx hb hK hJ kb508 rfl (by omega) (by omega) (by decide) hW (sp := (3, 60)) rfl rfl (show _ ∧ _ from by constructor <;> omega) dX7_init_171 (fun H locs hJ => ?_)
            refine hq_iinc (k := 1) (lv' := fun (z9 : Int32) => [(1, .int z9), (0, .ref h0)]) hx hb dX7_init_172 hl rfl (by decide) (by decide) (by omega) (by omega) (by decide) (fun _ => rfl) (fun x518 ls ex518 hl => ?_)
            have hl : lv_has ls 2 [(1, .int x518), (0, .ref h0)] := hl
            refine lv_goto (tgt := 145) hx hb dX7_init_175 (by decide) ?_
            exact ihlp502 x518 _ _ ls (by omega) (by omega) (by omega) hJ (lv_sub hl [1, 0] rfl)
  exact lp502 ((10 - z127.toInt).toNat + 1) z127 _ _ ls (by omega) (by omega) (by omega) hJ (lv_sub hl [1, 0] rfl)
