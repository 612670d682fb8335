set_option maxRecDepth 100000 in
set_option maxHeartbeats 4000000 in
theorem c_X6_init (l : Launch) (dC : Nat → ClassId) (dI : Nat → Nat → Nat) (dA : Nat → ClassId) (κ : Nat → Nat) (B : Nat) (g : Nat → Nat → Int) (h0 : Nat) (k0 : κ h0 = 100) (hz : ∀ a, a ≠ h0 → κ a = 0) (hg1 : ∀ k : Nat, g 1 k = 0) (hg4 : g 4 1 = 0) (hg42 : g 4 2 = -1) (hg10 : g 10 1 = 0) (hgp : ∀ a k : Nat, 5 ≤ a → a ≤ 8 → g a k = 0) (tF : Nat) : Met l yX6_init wsX6_init ({ frames := 5, cells := 65, slots := 7268, locals := 104 } : Room) (va_Pc [.ref h0] (fun U => hp_T dC dI dA κ B g U ∧ va_Z RX6 "FIRST_NAME" "[B" (.ref tF) (hp_A B) U U.heap ∧ va_T .byte tF 2 (fun _ => .int 0) (hp_A B) U U.heap)) (hp_QU dC dI dA B g (fun κ' => κ' h0 = 1 ∧ ∀ a, κ' a ≤ 17 ∧ κ' a ≠ 11)) 65 7268 (hp_A B) := by
  refine Met.ofW (cc := cX6_init) (maxL := 2) (ret := none) (by decide) rfl ?_
  intro p e s m args below meth c s₁ Bd hml hv
  obtain ⟨rfl, ⟨⟨hK, hN, hW, hF⟩, hV, hKk, hBz, hAO⟩, hZs, hT⟩ := hv
  have hx := Bd.exec
  have hb := Bd.bytes
  have hr := Bd.returns
  have hts := atoms_spec (ws := wsX6_init) Bd.pre
  have hown : s.vm.findClass RX6 = some m.cls := findClass_of_methodNamed Bd.named
  have hlocks := Bd.notSynchronized
  have hin : meth.name = "<init>" := (name_of_methodNamed Bd.named Bd.method).1
  have hZ : hp_Z dC dI dA κ B g s.heap s.heap [] := ⟨hW, hV, hKk, hBz, hF, va_S.rf⟩
  have hl := lv_entry ([Value.ref h0]) (n := 2) (Nat.le_of_ble_eq_true rfl)
  rw [lg_entry_eq]
  generalize (lg_sl ([Value.ref h0]) ++ List.replicate (2 - (lg_sl ([Value.ref h0])).length) Slot.unset).toArray = ls at hl ⊢
  have hl : lv_has ls 2 [(0, .ref h0)] := hl
  have hE : hp_EN κ κ h0 h0 := en_rf
  have h0n : κ h0 ≠ 0 := by rw [k0]; decide
  refine lv_aload_n hx hb dX6_init_0 rfl (lv_at hl 0 rfl) ?_
  refine W.objInit hx hb hown (hts (.methodLink RX6 1 objectInit) (List.mem_of_getElem? (i := 1) rfl)) (hts (.instanceMethod objectInit) (List.mem_of_getElem? (i := 2) rfl)) (hts (.code objectInit ⟨#[0xb1]⟩ 1 none) (List.mem_of_getElem? (i := 3) rfl)) rfl (by rw [hml]; exact hl.1) rfl dX6_init_1 (Nat.le_of_ble_eq_true rfl) (Nat.le_of_ble_eq_true rfl) ?_
  have hm : ∀ a, a ≠ h0 → κ a ∈ ([0] : List Nat) := fun a ha => by rw [hz a ha]; decide
  refine lv_aload_n hx hb dX6_init_4 rfl (lv_at hl 0 rfl) ?_
  refine hq_sipush hx hb dX6_init_5 (by decide) (fun z1 ez1 => ?_)
  refine hp_newi (atype := .byte) (ty := 1) (N := 700) (kd := 12) hx hb (hts (.arrayClass .byte) (List.mem_of_getElem? (i := 4) rfl)) hK hZ (hK.2 1 _ rfl).2 rfl (by unfold hk_ok; omega) (fun _ k _ => ⟨0, rfl, by decide, by decide⟩) (fun h => absurd h (by decide)) (by omega) (by show 700 * 1 ≤ 536870912; omega) (by show 0 + 1 ≤ 65; omega) (by show 0 + 700 ≤ 7268; omega) dX6_init_8 (fun b2 H zb2 hZ => ?_)
  refine W.cs (cells' := 1) (slots' := 700) (by omega) (by omega) ?_
  obtain ⟨κ3, eκ3⟩ : ∃ z, z = hp_kk κ b2 12 := ⟨_, rfl⟩
  rw [← eκ3] at hZ
  have k4 : κ3 h0 = 100 := by rw [eκ3, hp_kk_n (ne_k k0 zb2 (by decide))]; exact k0
  have k5 : κ3 b2 = 12 := by rw [eκ3]; exact hp_kk_s _ _ _
  have hm : ∀ a, a ≠ h0 → κ3 a ∈ ([0, 12] : List Nat) := by
    intro a ha
    by_cases hab : a = b2
    · rw [hab, k5]; decide
    · rw [eκ3, hp_kk_n hab]; exact hl_mono (by decide) (hm a ha)
  refine hp_putF (C := RX6) (T := TX6) (N := 12) (ci := 6) (kd := 100) hx hb hts iX6_init_X6 hown hK hZ.2.2.2.2 k4 rfl rfl 0 (by decide) (hts (.fieldLink RX6 9 "NeighborBook" "typed" "[B") (List.mem_of_getElem? (i := 5) rfl)) (fun _ h9 => h9) tyX6 tyX6_ok nmX6 (v := .ref b2) rfl rfl (by decide) hZ.1 rfl hin rfl dX6_init_10 (fun F H locs hM hO hS => ?_)
  have hZ := hp_step (k1 := 100) (k2 := 101) hZ.1 hZ.2.1 hZ.2.2.1 (Nat.le_trans hBz hS.1) hM hO hS k4 rfl (by unfold hk_ok; omega) (by decide) (fun a j hj _ h => by have := hk_sr (hZ.2.2.1 a) h hj; omega) (fun j hj h => by have := hk_sr (kd := 101) (by unfold hk_ok; omega) h hj; omega) ⟨b2, rfl, k5⟩ (fun j hj hl w hw => by
        have hl : j < 12 := hl
        match j, hj, hl with
        | 1, _, _ => exact hw
        | 2, _, _ => exact hw
        | 3, _, _ => exact hw
        | 4, _, _ => exact hw
        | 5, _, _ => exact hw
        | 6, _, _ => exact hw
        | 7, _, _ => exact hw
        | 8, _, _ => exact hw
        | 9, _, _ => exact hw
        | 10, _, _ => exact hw
        | 11, _, _ => exact hw
        | 0, hj, _ => exact absurd rfl hj) (fun h => absurd h (by decide))
  obtain ⟨κ6, eκ6⟩ : ∃ z, z = hp_kk κ3 h0 101 := ⟨_, rfl⟩
  rw [← eκ6] at hZ
  have k7 : κ6 b2 = 12 := by rw [eκ6, hp_kk_n (fun h9 => by rw [h9, k4] at k5; exact absurd k5 (by decide))]; exact k5
  have k8 : κ6 h0 = 101 := by rw [eκ6]; exact hp_kk_s _ _ _
  have hm : ∀ a, a ≠ h0 → κ6 a ∈ ([0, 12] : List Nat) := fun a ha => by rw [eκ6, hp_kk_n ha]; exact hm a ha
  refine lv_aload_n hx hb dX6_init_13 rfl (lv_at hl 0 rfl) ?_
  refine hp_newo (C := RX0) (T := TX0) (N := 2) (ci := 0) (kd := 31) hx hb hts iX6_init_X0 tyX0 tyX0_ok hown (hts (.classLink RX6 13 RX0) (List.mem_of_getElem? (i := 6) rfl)) (hts (.instantiable RX0 2) (List.mem_of_getElem? (i := 7) rfl)) (hts (.initialized RX0) (List.mem_of_getElem? (i := 8) rfl)) hK hZ rfl rfl (by unfold hk_ok; omega) (fun _ k hk => by match k, hk with | 0, _ => exact trivial | 1, _ => exact trivial) (fun h => absurd h (by decide)) (by show 1 + 1 ≤ 65; omega) (by show 700 + 2 ≤ 7268; omega) dX6_init_14 (fun b9 H zb9 hZ => ?_)
  refine W.cs (cells' := 2) (slots' := 702) (by omega) (by omega) ?_
  obtain ⟨κ10, eκ10⟩ : ∃ z, z = hp_kk κ6 b9 31 := ⟨_, rfl⟩
  rw [← eκ10] at hZ
  have k11 : κ10 h0 = 101 := by rw [eκ10, hp_kk_n (ne_k k8 zb9 (by decide))]; exact k8
  have k12 : κ10 b9 = 31 := by rw [eκ10]; exact hp_kk_s _ _ _
  have hm : ∀ a, a ≠ h0 → a ≠ b9 → κ10 a ∈ ([0, 12] : List Nat) := by
    intro a ha hab
    rw [eκ10, hp_kk_n hab]; exact hm a ha
  refine lv_dup hx hb dX6_init_17 rfl ?_
  refine hp_callT (va_runI (As := []) (rest := [.ref b9, .ref h0]) ⟨hx, hb, hml, hown, hts⟩ (c_X0_init l dC dI dA κ10 B g b9 k12) (cwI 0 hts gX6_init_X0_init rfl rfl rfl (hts (.initialized RX0) (List.mem_of_getElem? (i := 8) rfl)) (hts (.methodLink RX6 15 yX0_init) (List.mem_of_getElem? (i := 30) rfl)) (hts (.instanceMethod yX0_init) (List.mem_of_getElem? (i := 31) rfl)) rfl (by decide +kernel) ⟨Nat.le_of_ble_eq_true rfl, Nat.le_of_ble_eq_true rfl⟩) (hp_preT [.ref b9] hK hN hAO hZ) rfl rfl hl.1 rfl (lv_room (Nat.le_of_ble_eq_true rfl)) dX6_init_18 ⟨(by show 2 + 2 ≤ 65; omega), (by show 702 + 429 ≤ 7268; omega)⟩) hZ (fun κ13 H locs hDκ13 hZ => ?_)
  refine W.cs (cells' := 4) (slots' := 1131) (by omega) (by omega) ?_
  have k14 : κ13 h0 = 101 := (hDκ13.2.1 h0 (by rw [k11]; decide) (fun h9 => by rw [h9, k12] at k11; exact absurd k11 (by decide))).trans k11
  have k15 : κ13 b9 = 2 := hDκ13.1
  have hm : ∀ a, a ≠ h0 → κ13 a ∈ ([0, 2, 9, 12, 13, 14, 16, 17] : List Nat) := by
    intro a ha
    by_cases hab : a = b9
    · rw [hab, hDκ13.1]; decide
    · by_cases hz9 : κ10 a = 0
      · exact hl_new (hDκ13.2.2 a hz9) (by decide)
      · rw [hDκ13.2.1 a hz9 hab]; exact hl_mono (by decide) (hm a ha hab)
  refine hp_putF (C := RX6) (T := TX6) (N := 12) (ci := 6) (kd := 101) hx hb hts iX6_init_X6 hown hK hZ.2.2.2.2 k14 rfl rfl 2 (by decide) (hts (.fieldLink RX6 16 "NeighborBook" "told" "LNeighborBook$Contents;") (List.mem_of_getElem? (i := 9) rfl)) (fun _ h9 => h9) tyX6 tyX6_ok nmX6 (v := .ref b9) rfl rfl (by decide) hZ.1 rfl hin rfl dX6_init_21 (fun F H locs hM hO hS => ?_)
  have hZ := hp_step (k1 := 101) (k2 := 102) hZ.1 hZ.2.1 hZ.2.2.1 (Nat.le_trans hBz hS.1) hM hO hS k14 rfl (by unfold hk_ok; omega) (by decide) (fun a j hj _ h => by have := hk_sr (hZ.2.2.1 a) h hj; omega) (fun j hj h => by have := hk_sr (kd := 102) (by unfold hk_ok; omega) h hj; omega) ⟨b9, rfl, k15⟩ (fun j hj hl w hw => by
        have hl : j < 12 := hl
        match j, hj, hl with
        | 0, _, _ => exact hw
        | 1, _, _ => exact hw
        | 3, _, _ => exact hw
        | 4, _, _ => exact hw
        | 5, _, _ => exact hw
        | 6, _, _ => exact hw
        | 7, _, _ => exact hw
        | 8, _, _ => exact hw
        | 9, _, _ => exact hw
        | 10, _, _ => exact hw
        | 11, _, _ => exact hw
        | 2, hj, _ => exact absurd rfl hj) (fun h => absurd h (by decide))
  obtain ⟨κ16, eκ16⟩ : ∃ z, z = hp_kk κ13 h0 102 := ⟨_, rfl⟩
  rw [← eκ16] at hZ
  have k17 : κ16 b9 = 2 := by rw [eκ16, hp_kk_n (fun h9 => by rw [h9, k14] at k15; exact absurd k15 (by decide))]; exact k15
  have k18 : κ16 h0 = 102 := by rw [eκ16]; exact hp_kk_s _ _ _
  have hm : ∀ a, a ≠ h0 → κ16 a ∈ ([0, 2, 9, 12, 13, 14, 16, 17] : List Nat) := fun a ha => by rw [eκ16, hp_kk_n ha]; exact hm a ha
  refine lv_aload_n hx hb dX6_init_24 rfl (lv_at hl 0 rfl) ?_
  refine hq_iconst hx hb dX6_init_25 (by decide) (by decide) (fun z19 ez19 => ?_)
  refine hp_newr (C := RX4) (ty := 3) (N := 4) (kd := 80) hx hb hown (hts (.classLink RX6 20 RX4) (List.mem_of_getElem? (i := 10) rfl)) hAO.1 hZ (show s.vm.findClass ("[" ++ (FieldType.object RX4).toString) = some (dA 3) from (by obtain ⟨kA, comp, q1, q2, q3, q4⟩ := (hK.2 3 _ rfl).2; exact q4)) rfl (by unfold hk_ok; omega) (fun _ k _ => trivial) (fun h => absurd h (by decide)) (by omega) (by omega) (by show 4 + 1 ≤ 65; omega) (by show 1131 + 4 ≤ 7268; omega) dX6_init_26 (fun b20 H zb20 hZ => ?_)
  refine W.cs (cells' := 5) (slots' := 1135) (by omega) (by omega) ?_
  obtain ⟨κ21, eκ21⟩ : ∃ z, z = hp_kk κ16 b20 80 := ⟨_, rfl⟩
  rw [← eκ21] at hZ
  have k22 : κ21 h0 = 102 := by rw [eκ21, hp_kk_n (ne_k k18 zb20 (by decide))]; exact k18
  have k23 : κ21 b20 = 80 := by rw [eκ21]; exact hp_kk_s _ _ _
  have hup : ∀ a, κ21 a = 80 → a = b20 := fun a h => Classical.byContradiction fun hab => by
    by_cases ha : a = h0
    · rw [ha, k22] at h; omega
    · rw [eκ21, hp_kk_n hab] at h; exact hl_ne (hm a ha) (by decide) h
  have hm : ∀ a, a ≠ h0 → κ21 a ∈ ([0, 2, 9, 12, 13, 14, 16, 17, 80] : List Nat) := by
    intro a ha
    by_cases hab : a = b20
    · rw [hab, k23]; decide
    · rw [eκ21, hp_kk_n hab]; exact hl_mono (by decide) (hm a ha)
  refine hp_putF (C := RX6) (T := TX6) (N := 12) (ci := 6) (kd := 102) hx hb hts iX6_init_X6 hown hK hZ.2.2.2.2 k22 rfl rfl 3 (by decide) (hts (.fieldLink RX6 22 "NeighborBook" "ports" "[LNeighborBook$Port;") (List.mem_of_getElem? (i := 11) rfl)) (fun _ h9 => h9) tyX6 tyX6_ok nmX6 (v := .ref b20) rfl rfl (by decide) hZ.1 rfl hin rfl dX6_init_29 (fun F H locs hM hO hS => ?_)
  have hZ := hp_step (k1 := 102) (k2 := 103) hZ.1 hZ.2.1 hZ.2.2.1 (Nat.le_trans hBz hS.1) hM hO hS k22 rfl (by unfold hk_ok; omega) (by decide) (fun a j hj _ h => by have := hk_sr (hZ.2.2.1 a) h hj; omega) (fun j hj h => by have := hk_sr (kd := 103) (by unfold hk_ok; omega) h hj; omega) ⟨b20, rfl, k23⟩ (fun j hj hl w hw => by
        have hl : j < 12 := hl
        match j, hj, hl with
        | 0, _, _ => exact hw
        | 1, _, _ => exact hw
        | 2, _, _ => exact hw
        | 4, _, _ => exact hw
        | 5, _, _ => exact hw
        | 6, _, _ => exact hw
        | 7, _, _ => exact hw
        | 8, _, _ => exact hw
        | 9, _, _ => exact hw
        | 10, _, _ => exact hw
        | 11, _, _ => exact hw
        | 3, hj, _ => exact absurd rfl hj) (fun h => absurd h (by decide))
  obtain ⟨κ24, eκ24⟩ : ∃ z, z = hp_kk κ21 h0 103 := ⟨_, rfl⟩
  rw [← eκ24] at hZ
  have k25 : κ24 b20 = 80 := by rw [eκ24, hp_kk_n (fun h9 => by rw [h9, k22] at k23; exact absurd k23 (by decide))]; exact k23
  have k26 : κ24 h0 = 103 := by rw [eκ24]; exact hp_kk_s _ _ _
  have hm : ∀ a, a ≠ h0 → κ24 a ∈ ([0, 2, 9, 12, 13, 14, 16, 17, 80] : List Nat) := fun a ha => by rw [eκ24, hp_kk_n ha]; exact hm a ha
  have hup : ∀ a, κ24 a = 80 → a = b20 := fun a h => hup a (by by_cases ha : a = h0; (rw [ha, k26] at h; omega); (rw [eκ24, hp_kk_n ha] at h; exact h))
  refine lv_aload_n hx hb dX6_init_32 rfl (lv_at hl 0 rfl) ?_
  refine hp_newo (C := RX3) (T := TX3) (N := 2) (ci := 3) (kd := 37) hx hb hts iX6_init_X3 tyX3 tyX3_ok hown (hts (.classLink RX6 26 RX3) (List.mem_of_getElem? (i := 12) rfl)) (hts (.instantiable RX3 2) (List.mem_of_getElem? (i := 13) rfl)) (hts (.initialized RX3) (List.mem_of_getElem? (i := 14) rfl)) hK hZ rfl rfl (by unfold hk_ok; omega) (fun _ k hk => by match k, hk with | 0, _ => exact trivial | 1, _ => exact ⟨0, rfl, by decide, by decide⟩) (fun h => absurd h (by decide)) (by show 5 + 1 ≤ 65; omega) (by show 1135 + 2 ≤ 7268; omega) dX6_init_33 (fun b27 H zb27 hZ => ?_)
  refine W.cs (cells' := 6) (slots' := 1137) (by omega) (by omega) ?_
  obtain ⟨κ28, eκ28⟩ : ∃ z, z = hp_kk κ24 b27 37 := ⟨_, rfl⟩
  rw [← eκ28] at hZ
  have k29 : κ28 h0 = 103 := by rw [eκ28, hp_kk_n (ne_k k26 zb27 (by decide))]; exact k26
  have k30 : κ28 b20 = 80 := by rw [eκ28, hp_kk_n (ne_k k25 zb27 (by decide))]; exact k25
  have k31 : κ28 b27 = 37 := by rw [eκ28]; exact hp_kk_s _ _ _
  have hup : ∀ a, κ28 a = 80 → a = b20 := fun a h => hup a (by by_cases ha : a = b27; (rw [ha, k31] at h; omega); (rw [eκ28, hp_kk_n ha] at h; exact h))
  have hm : ∀ a, a ≠ h0 → a ≠ b27 → κ28 a ∈ ([0, 2, 9, 12, 13, 14, 16, 17, 80] : List Nat) := by
    intro a ha hab
    rw [eκ28, hp_kk_n hab]; exact hm a ha
  refine lv_dup hx hb dX6_init_36 rfl ?_
  refine hp_callT (va_runI (As := []) (rest := [.ref b27, .ref h0]) ⟨hx, hb, hml, hown, hts⟩ (c_X3_init l dC dI dA κ28 B g b27 k31 hg10 (fun a h9 => by by_cases ha : a = h0; (rw [ha, k29] at h9; omega); (by_cases hab : a = b27; (rw [hab, k31] at h9; omega); (exact hl_ne (hm a ha hab) (by decide) h9))) (fun a hab => by by_cases ha : a = h0; (rw [ha, k29]; omega); (exact hl_48 (hm a ha hab) (by decide)))) (cwI 0 hts gX6_init_X3_init rfl rfl rfl (hts (.initialized RX3) (List.mem_of_getElem? (i := 14) rfl)) (hts (.methodLink RX6 28 yX3_init) (List.mem_of_getElem? (i := 45) rfl)) (hts (.instanceMethod yX3_init) (List.mem_of_getElem? (i := 46) rfl)) rfl (by decide +kernel) ⟨Nat.le_of_ble_eq_true rfl, Nat.le_of_ble_eq_true rfl⟩) (hp_preT [.ref b27] hK hN hAO hZ) rfl rfl hl.1 rfl (lv_room (Nat.le_of_ble_eq_true rfl)) dX6_init_37 ⟨(by show 6 + 49 ≤ 65; omega), (by show 1137 + 5232 ≤ 7268; omega)⟩) hZ (fun κ32 H locs hDκ32 hZ => ?_)
  refine W.cs (cells' := 55) (slots' := 6369) (by omega) (by omega) ?_
  have k33 : κ32 h0 = 103 := (hDκ32.2.1 h0 (by rw [k29]; decide) (fun h9 => by rw [h9, k31] at k29; exact absurd k29 (by decide))).trans k29
  have k34 : κ32 b20 = 80 := (hDκ32.2.1 b20 (by rw [k30]; decide) (fun h9 => by rw [h9, k31] at k30; exact absurd k30 (by decide))).trans k30
  have k35 : κ32 b27 = 10 := hDκ32.1
  have hup : ∀ a, κ32 a = 80 → a = b20 := fun a h => by
    by_cases hab : a = b27
    · rw [hab, k35] at h; omega
    · by_cases hz9 : κ28 a = 0
      · have h3 := hDκ32.2.2 a hz9; unfold hk_new at h3; omega
      · exact hup a (by rw [← hDκ32.2.1 a hz9 hab]; exact h)
  have hm : ∀ a, a ≠ h0 → κ32 a ∈ ([0, 2, 9, 10, 12, 13, 14, 16, 17, 80] : List Nat) := by
    intro a ha
    by_cases hab : a = b27
    · rw [hab, hDκ32.1]; decide
    · by_cases hz9 : κ28 a = 0
      · exact hl_new (hDκ32.2.2 a hz9) (by decide)
      · rw [hDκ32.2.1 a hz9 hab]; exact hl_mono (by decide) (hm a ha hab)
  refine hp_putF (C := RX6) (T := TX6) (N := 12) (ci := 6) (kd := 103) hx hb hts iX6_init_X6 hown hK hZ.2.2.2.2 k33 rfl rfl 4 (by decide) (hts (.fieldLink RX6 29 "NeighborBook" "known" "LNeighborBook$Neighbors;") (List.mem_of_getElem? (i := 15) rfl)) (fun _ h9 => h9) tyX6 tyX6_ok nmX6 (v := .ref b27) rfl rfl (by decide) hZ.1 rfl hin rfl dX6_init_40 (fun F H locs hM hO hS => ?_)
  have hZ := hp_step (k1 := 103) (k2 := 104) hZ.1 hZ.2.1 hZ.2.2.1 (Nat.le_trans hBz hS.1) hM hO hS k33 rfl (by unfold hk_ok; omega) (by decide) (fun a j hj _ h => by have := hk_sr (hZ.2.2.1 a) h hj; omega) (fun j hj h => by have := hk_sr (kd := 104) (by unfold hk_ok; omega) h hj; omega) ⟨b27, rfl, k35⟩ (fun j hj hl w hw => by
        have hl : j < 12 := hl
        match j, hj, hl with
        | 0, _, _ => exact hw
        | 1, _, _ => exact hw
        | 2, _, _ => exact hw
        | 3, _, _ => exact hw
        | 5, _, _ => exact hw
        | 6, _, _ => exact hw
        | 7, _, _ => exact hw
        | 8, _, _ => exact hw
        | 9, _, _ => exact hw
        | 10, _, _ => exact hw
        | 11, _, _ => exact hw
        | 4, hj, _ => exact absurd rfl hj) (fun h => absurd h (by decide))
  obtain ⟨κ36, eκ36⟩ : ∃ z, z = hp_kk κ32 h0 104 := ⟨_, rfl⟩
  rw [← eκ36] at hZ
  have k37 : κ36 b20 = 80 := by rw [eκ36, hp_kk_n (fun h9 => by rw [h9, k33] at k34; exact absurd k34 (by decide))]; exact k34
  have k38 : κ36 b27 = 10 := by rw [eκ36, hp_kk_n (fun h9 => by rw [h9, k33] at k35; exact absurd k35 (by decide))]; exact k35
  have k39 : κ36 h0 = 104 := by rw [eκ36]; exact hp_kk_s _ _ _
  have hm : ∀ a, a ≠ h0 → κ36 a ∈ ([0, 2, 9, 10, 12, 13, 14, 16, 17, 80] : List Nat) := fun a ha => by rw [eκ36, hp_kk_n ha]; exact hm a ha
  have hup : ∀ a, κ36 a = 80 → a = b20 := fun a h => hup a (by by_cases ha : a = h0; (rw [ha, k39] at h; omega); (rw [eκ36, hp_kk_n ha] at h; exact h))
  refine lv_aload_n hx hb dX6_init_43 rfl (lv_at hl 0 rfl) ?_
  refine hp_newo (C := RX1) (T := TX1) (N := 2) (ci := 1) (kd := 33) hx hb hts iX6_init_X1 tyX1 tyX1_ok hown (hts (.classLink RX6 33 RX1) (List.mem_of_getElem? (i := 16) rfl)) (hts (.instantiable RX1 2) (List.mem_of_getElem? (i := 17) rfl)) (hts (.initialized RX1) (List.mem_of_getElem? (i := 18) rfl)) hK hZ rfl rfl (by unfold hk_ok; omega) (fun _ k hk => by match k, hk with | 0, _ => exact trivial | 1, _ => exact ⟨0, rfl, trivial⟩) (fun h => absurd h (by decide)) (by show 55 + 1 ≤ 65; omega) (by show 6369 + 2 ≤ 7268; omega) dX6_init_44 (fun b40 H zb40 hZ => ?_)
  refine W.cs (cells' := 56) (slots' := 6371) (by omega) (by omega) ?_
  obtain ⟨κ41, eκ41⟩ : ∃ z, z = hp_kk κ36 b40 33 := ⟨_, rfl⟩
  rw [← eκ41] at hZ
  have k42 : κ41 h0 = 104 := by rw [eκ41, hp_kk_n (ne_k k39 zb40 (by decide))]; exact k39
  have k43 : κ41 b20 = 80 := by rw [eκ41, hp_kk_n (ne_k k37 zb40 (by decide))]; exact k37
  have k44 : κ41 b40 = 33 := by rw [eκ41]; exact hp_kk_s _ _ _
  have hup : ∀ a, κ41 a = 80 → a = b20 := fun a h => hup a (by by_cases ha : a = b40; (rw [ha, k44] at h; omega); (rw [eκ41, hp_kk_n ha] at h; exact h))
  have hm : ∀ a, a ≠ h0 → a ≠ b40 → κ41 a ∈ ([0, 2, 9, 10, 12, 13, 14, 16, 17, 80] : List Nat) := by
    intro a ha hab
    rw [eκ41, hp_kk_n hab]; exact hm a ha
  refine lv_dup hx hb dX6_init_47 rfl ?_
  refine hp_callT (va_runIN (As := []) (rest := [.ref b40, .ref h0]) ⟨hx, hb, hml, hown, hts⟩ (c_X1_init l dC dI dA κ41 B g b40 k44) ⟨va_cnB 0 hts gX6_init_X1_init_n35 rfl rfl rfl (hN _ (List.mem_of_getElem? (i := 1) rfl)) (hts (.initialized RX1) (List.mem_of_getElem? (i := 18) rfl)) (by decide +kernel) ⟨Nat.le_of_ble_eq_true rfl, Nat.le_of_ble_eq_true rfl⟩, rfl, (hts (.instanceMethod yX1_init) (List.mem_of_getElem? (i := 59) rfl))⟩ (hp_preT [.ref b40] hK hN hAO hZ) rfl rfl hl.1 rfl (lv_room (Nat.le_of_ble_eq_true rfl)) dX6_init_48 ⟨(by show 56 + 3 ≤ 65; omega), (by show 6371 + 431 ≤ 7268; omega)⟩) hZ (fun κ45 H locs hDκ45 hZ => ?_)
  refine W.cs (cells' := 59) (slots' := 6802) (by omega) (by omega) ?_
  have k46 : κ45 h0 = 104 := (hDκ45.2.1 h0 (by rw [k42]; decide) (fun h9 => by rw [h9, k44] at k42; exact absurd k42 (by decide))).trans k42
  have k47 : κ45 b20 = 80 := (hDκ45.2.1 b20 (by rw [k43]; decide) (fun h9 => by rw [h9, k44] at k43; exact absurd k43 (by decide))).trans k43
  have k48 : κ45 b40 = 3 := hDκ45.1
  have hup : ∀ a, κ45 a = 80 → a = b20 := fun a h => by
    by_cases hab : a = b40
    · rw [hab, k48] at h; omega
    · by_cases hz9 : κ41 a = 0
      · have h3 := hDκ45.2.2 a hz9; unfold hk_new at h3; omega
      · exact hup a (by rw [← hDκ45.2.1 a hz9 hab]; exact h)
  have hm : ∀ a, a ≠ h0 → κ45 a ∈ ([0, 2, 3, 9, 10, 12, 13, 14, 16, 17, 80] : List Nat) := by
    intro a ha
    by_cases hab : a = b40
    · rw [hab, hDκ45.1]; decide
    · by_cases hz9 : κ41 a = 0
      · exact hl_new (hDκ45.2.2 a hz9) (by decide)
      · rw [hDκ45.2.1 a hz9 hab]; exact hl_mono (by decide) (hm a ha hab)
  refine hp_putF (C := RX6) (T := TX6) (N := 12) (ci := 6) (kd := 104) hx hb hts iX6_init_X6 hown hK hZ.2.2.2.2 k46 rfl rfl 5 (by decide) (hts (.fieldLink RX6 36 "NeighborBook" "reader" "LNeighborBook$FrameReader;") (List.mem_of_getElem? (i := 19) rfl)) (fun _ h9 => h9) tyX6 tyX6_ok nmX6 (v := .ref b40) rfl rfl (by decide) hZ.1 rfl hin rfl dX6_init_51 (fun F H locs hM hO hS => ?_)
  have hZ := hp_step (k1 := 104) (k2 := 105) hZ.1 hZ.2.1 hZ.2.2.1 (Nat.le_trans hBz hS.1) hM hO hS k46 rfl (by unfold hk_ok; omega) (by decide) (fun a j hj _ h => by have := hk_sr (hZ.2.2.1 a) h hj; omega) (fun j hj h => by have := hk_sr (kd := 105) (by unfold hk_ok; omega) h hj; omega) ⟨b40, rfl, k48⟩ (fun j hj hl w hw => by
        have hl : j < 12 := hl
        match j, hj, hl with
        | 0, _, _ => exact hw
        | 1, _, _ => exact hw
        | 2, _, _ => exact hw
        | 3, _, _ => exact hw
        | 4, _, _ => exact hw
        | 6, _, _ => exact hw
        | 7, _, _ => exact hw
        | 8, _, _ => exact hw
        | 9, _, _ => exact hw
        | 10, _, _ => exact hw
        | 11, _, _ => exact hw
        | 5, hj, _ => exact absurd rfl hj) (fun h => absurd h (by decide))
  obtain ⟨κ49, eκ49⟩ : ∃ z, z = hp_kk κ45 h0 105 := ⟨_, rfl⟩
  rw [← eκ49] at hZ
  have k50 : κ49 b20 = 80 := by rw [eκ49, hp_kk_n (fun h9 => by rw [h9, k46] at k47; exact absurd k47 (by decide))]; exact k47
  have k51 : κ49 b40 = 3 := by rw [eκ49, hp_kk_n (fun h9 => by rw [h9, k46] at k48; exact absurd k48 (by decide))]; exact k48
  have k52 : κ49 h0 = 105 := by rw [eκ49]; exact hp_kk_s _ _ _
  have hm : ∀ a, a ≠ h0 → κ49 a ∈ ([0, 2, 3, 9, 10, 12, 13, 14, 16, 17, 80] : List Nat) := fun a ha => by rw [eκ49, hp_kk_n ha]; exact hm a ha
  have hup : ∀ a, κ49 a = 80 → a = b20 := fun a h => hup a (by by_cases ha : a = h0; (rw [ha, k52] at h; omega); (rw [eκ49, hp_kk_n ha] at h; exact h))
  refine lv_aload_n hx hb dX6_init_54 rfl (lv_at hl 0 rfl) ?_
  refine hp_newo (C := RX5) (T := TX5) (N := 3) (ci := 5) (kd := 34) hx hb hts iX6_init_X5 tyX5 tyX5_ok hown (hts (.classLink RX6 40 RX5) (List.mem_of_getElem? (i := 20) rfl)) (hts (.instantiable RX5 3) (List.mem_of_getElem? (i := 21) rfl)) (hts (.initialized RX5) (List.mem_of_getElem? (i := 22) rfl)) hK hZ rfl rfl (by unfold hk_ok; omega) (fun _ k hk => by match k, hk with | 0, _ => exact trivial | 1, _ => exact ⟨0, rfl, by decide, by decide⟩ | 2, _ => exact ⟨0, rfl, trivial⟩) (fun h => absurd h (by decide)) (by show 59 + 1 ≤ 65; omega) (by show 6802 + 3 ≤ 7268; omega) dX6_init_55 (fun b53 H zb53 hZ => ?_)
  refine W.cs (cells' := 60) (slots' := 6805) (by omega) (by omega) ?_
  obtain ⟨κ54, eκ54⟩ : ∃ z, z = hp_kk κ49 b53 34 := ⟨_, rfl⟩
  rw [← eκ54] at hZ
  have k55 : κ54 h0 = 105 := by rw [eκ54, hp_kk_n (ne_k k52 zb53 (by decide))]; exact k52
  have k56 : κ54 b20 = 80 := by rw [eκ54, hp_kk_n (ne_k k50 zb53 (by decide))]; exact k50
  have k57 : κ54 b53 = 34 := by rw [eκ54]; exact hp_kk_s _ _ _
  have hup : ∀ a, κ54 a = 80 → a = b20 := fun a h => hup a (by by_cases ha : a = b53; (rw [ha, k57] at h; omega); (rw [eκ54, hp_kk_n ha] at h; exact h))
  have hm : ∀ a, a ≠ h0 → a ≠ b53 → κ54 a ∈ ([0, 2, 3, 9, 10, 12, 13, 14, 16, 17, 80] : List Nat) := by
    intro a ha hab
    rw [eκ54, hp_kk_n hab]; exact hm a ha
  refine lv_dup hx hb dX6_init_58 rfl ?_
  refine hp_callT (va_runIN (As := []) (rest := [.ref b53, .ref h0]) ⟨hx, hb, hml, hown, hts⟩ (c_X5_init l dC dI dA κ54 B g b53 k57 (fun a b9 h9 => by rw [h9.1, h9.2]; exact hg4) hg42 (fun a h9 => by by_cases ha : a = h0; (rw [ha, k55] at h9; omega); (by_cases hab : a = b53; (rw [hab, k57] at h9; omega); (exact hl_ne (hm a ha hab) (by decide) h9)))) ⟨va_cnB 0 hts gX6_init_X5_init_n42 rfl rfl rfl (hN _ (List.mem_of_getElem? (i := 2) rfl)) (hts (.initialized RX5) (List.mem_of_getElem? (i := 22) rfl)) (by decide +kernel) ⟨Nat.le_of_ble_eq_true rfl, Nat.le_of_ble_eq_true rfl⟩, rfl, (hts (.instanceMethod yX5_init) (List.mem_of_getElem? (i := 65) rfl))⟩ (hp_preT [.ref b53] hK hN hAO hZ) rfl rfl hl.1 rfl (lv_room (Nat.le_of_ble_eq_true rfl)) dX6_init_59 ⟨(by show 60 + 1 ≤ 65; omega), (by show 6805 + 439 ≤ 7268; omega)⟩) hZ (fun κ58 H locs hDκ58 hZ => ?_)
  refine W.cs (cells' := 61) (slots' := 7244) (by omega) (by omega) ?_
  have k59 : κ58 h0 = 105 := (hDκ58.2.1 h0 (by rw [k55]; decide) (fun h9 => by rw [h9, k57] at k55; exact absurd k55 (by decide))).trans k55
  have k60 : κ58 b20 = 80 := (hDκ58.2.1 b20 (by rw [k56]; decide) (fun h9 => by rw [h9, k57] at k56; exact absurd k56 (by decide))).trans k56
  have k61 : κ58 b53 = 4 := hDκ58.1
  have hup : ∀ a, κ58 a = 80 → a = b20 := fun a h => by
    by_cases hab : a = b53
    · rw [hab, k61] at h; omega
    · by_cases hz9 : κ54 a = 0
      · have h3 := hDκ58.2.2 a hz9; unfold hk_new at h3; omega
      · exact hup a (by rw [← hDκ58.2.1 a hz9 hab]; exact h)
  have hm : ∀ a, a ≠ h0 → κ58 a ∈ ([0, 2, 3, 4, 9, 10, 12, 13, 14, 16, 17, 80] : List Nat) := by
    intro a ha
    by_cases hab : a = b53
    · rw [hab, hDκ58.1]; decide
    · by_cases hz9 : κ54 a = 0
      · exact hl_new (hDκ58.2.2 a hz9) (by decide)
      · rw [hDκ58.2.1 a hz9 hab]; exact hl_mono (by decide) (hm a ha hab)
  refine hp_putF (C := RX6) (T := TX6) (N := 12) (ci := 6) (kd := 105) hx hb hts iX6_init_X6 hown hK hZ.2.2.2.2 k59 rfl rfl 6 (by decide) (hts (.fieldLink RX6 43 "NeighborBook" "latest" "LNeighborBook$SentFrame;") (List.mem_of_getElem? (i := 23) rfl)) (fun _ h9 => h9) tyX6 tyX6_ok nmX6 (v := .ref b53) rfl rfl (by decide) hZ.1 rfl hin rfl dX6_init_62 (fun F H locs hM hO hS => ?_)
  have hZ := hp_step (k1 := 105) (k2 := 110) hZ.1 hZ.2.1 hZ.2.2.1 (Nat.le_trans hBz hS.1) hM hO hS k59 rfl (by unfold hk_ok; omega) (by decide) (fun a j hj _ h => by have := hk_sr (hZ.2.2.1 a) h hj; omega) (fun j hj h => by have := hk_sr (kd := 110) (by unfold hk_ok; omega) h hj; omega) ⟨b53, rfl, k61⟩ (fun j hj hl w hw => by
        have hl : j < 12 := hl
        match j, hj, hl with
        | 0, _, _ => exact hw
        | 1, _, _ => exact hw
        | 2, _, _ => exact hw
        | 3, _, _ => exact hw
        | 4, _, _ => exact hw
        | 5, _, _ => exact hw
        | 7, _, _ => exact hw
        | 8, _, _ => exact hw
        | 9, _, _ => exact hw
        | 10, _, _ => exact hw
        | 11, _, _ => exact hw
        | 6, hj, _ => exact absurd rfl hj) (fun h => absurd h (by decide))
  obtain ⟨κ62, eκ62⟩ : ∃ z, z = hp_kk κ58 h0 110 := ⟨_, rfl⟩
  rw [← eκ62] at hZ
  have k63 : κ62 b20 = 80 := by rw [eκ62, hp_kk_n (fun h9 => by rw [h9, k59] at k60; exact absurd k60 (by decide))]; exact k60
  have k64 : κ62 b53 = 4 := by rw [eκ62, hp_kk_n (fun h9 => by rw [h9, k59] at k61; exact absurd k61 (by decide))]; exact k61
  have k65 : κ62 h0 = 110 := by rw [eκ62]; exact hp_kk_s _ _ _
  have hm : ∀ a, a ≠ h0 → κ62 a ∈ ([0, 2, 3, 4, 9, 10, 12, 13, 14, 16, 17, 80] : List Nat) := fun a ha => by rw [eκ62, hp_kk_n ha]; exact hm a ha
  have hup : ∀ a, κ62 a = 80 → a = b20 := fun a h => hup a (by by_cases ha : a = h0; (rw [ha, k65] at h; omega); (rw [eκ62, hp_kk_n ha] at h; exact h))
  refine lv_aload_n hx hb dX6_init_65 rfl (lv_at hl 0 rfl) ?_
  refine hq_bipush hx hb dX6_init_66 (by decide) (fun z66 ez66 => ?_)
  refine hp_put (C := RX6) (T := TX6) (N := 12) (ci := 6) (kd := 110) hx hb hts iX6_init_X6 hown hK hZ.2.2.2.2 k65 rfl rfl 7 (by decide) (hts (.fieldLink RX6 47 "NeighborBook" "interval" "I") (List.mem_of_getElem? (i := 24) rfl)) (fun _ h9 => h9) tyX6 tyX6_ok nmX6 (v := .int z66) rfl rfl (by decide) hZ.1 rfl (hs_i_ok (sp := (1, 0)) rfl trivial) dX6_init_68 (fun H locs hJ => ?_)
  have hZ := (⟨hZ.1, hZ.2.1, hZ.2.2.1, Nat.le_trans hBz hJ.2.1, hJ⟩ : hp_Z dC dI dA κ62 B g s.heap H locs)
  refine lv_aload_n hx hb dX6_init_71 rfl (lv_at hl 0 rfl) ?_
  refine hq_iconst hx hb dX6_init_72 (by decide) (by decide) (fun z67 ez67 => ?_)
  refine hp_put (C := RX6) (T := TX6) (N := 12) (ci := 6) (kd := 110) hx hb hts iX6_init_X6 hown hK hZ.2.2.2.2 k65 rfl rfl 8 (by decide) (hts (.fieldLink RX6 51 "NeighborBook" "hold" "I") (List.mem_of_getElem? (i := 25) rfl)) (fun _ h9 => h9) tyX6 tyX6_ok nmX6 (v := .int z67) rfl rfl (by decide) hZ.1 rfl (hs_i_ok (sp := (1, 0)) rfl trivial) dX6_init_73 (fun H locs hJ => ?_)
  have hZ := (⟨hZ.1, hZ.2.1, hZ.2.2.1, Nat.le_trans hBz hJ.2.1, hJ⟩ : hp_Z dC dI dA κ62 B g s.heap H locs)
  refine lv_aload_n hx hb dX6_init_76 rfl (lv_at hl 0 rfl) ?_
  refine hq_iconst hx hb dX6_init_77 (by decide) (by decide) (fun z68 ez68 => ?_)
  refine hp_put (C := RX6) (T := TX6) (N := 12) (ci := 6) (kd := 110) hx hb hts iX6_init_X6 hown hK hZ.2.2.2.2 k65 rfl rfl 9 (by decide) (hts (.fieldLink RX6 54 "NeighborBook" "quick" "I") (List.mem_of_getElem? (i := 26) rfl)) (fun _ h9 => h9) tyX6 tyX6_ok nmX6 (v := .int z68) rfl rfl (by decide) hZ.1 rfl (hs_i_ok (sp := (1, 0)) rfl trivial) dX6_init_78 (fun H locs hJ => ?_)
  have hZ := (⟨hZ.1, hZ.2.1, hZ.2.2.1, Nat.le_trans hBz hJ.2.1, hJ⟩ : hp_Z dC dI dA κ62 B g s.heap H locs)
  refine hq_iconst hx hb dX6_init_81 (by decide) (by decide) (fun z69 ez69 => ?_)
  refine lv_istore_n (lv' := [(1, .int z69), (0, .ref h0)]) hx hb dX6_init_82 rfl hl (by decide) rfl (fun ls hl => ?_)
  exact lp_X6_init l hx hb hr hts hown hlocks hml hK hN hAO hBz hZs hT hg1 hgp 5 0 z69 κ62 _ _ ls (by omega) (by omega) (by omega) k65 k63 (fun a ha hab => Or.inl (hl_rm (hm a ha) (fun h9 => hab (hup a h9)) (by decide))) hZ (lv_sub hl [1, 0] rfl)
