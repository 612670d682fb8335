theorem iX1_init_X0 : ∀ w ∈ wsX00, w ∈ wsX1_init := fun _ h => List.mem_cons_of_mem _ (List.mem_append_left _ (List.mem_append_right _ h))
theorem iX1_init_X1 : ∀ w ∈ wsX10, w ∈ wsX1_init := fun _ h => List.mem_cons_of_mem _ (List.mem_append_right _ h)
set_option maxRecDepth 100000 in
set_option maxHeartbeats 4000000 in
theorem c_X1_init (l : Launch) (dC : Nat → ClassId) (dI : Nat → Nat → Nat) (dA : Nat → ClassId) (κ : Nat → Nat) (B : Nat) (g : Nat → Nat → Int) (h0 : Nat) (k0 : κ h0 = 33) : Met l yX1_init wsX1_init ({ frames := 3, cells := 3, slots := 431, locals := 63 } : Room) (hp_PT dC dI dA κ B g [.ref h0]) (hp_QT dC dI dA κ B g h0 3) 3 431 (hp_A B) := by
  refine Met.ofW (cc := cX1_init) (maxL := 1) (ret := none) (by decide) rfl ?_
  intro p e s m args below meth c s₁ Bd hml hv
  obtain ⟨rfl, ⟨hK, hN, hW, hF⟩, hV, hKk, hBz, hAO⟩ := hv
  have hx := Bd.exec
  have hb := Bd.bytes
  have hr := Bd.returns
  have hts := atoms_spec (ws := wsX1_init) Bd.pre
  have hown : s.vm.findClass RX1 = some m.cls := findClass_of_methodNamed Bd.named
  have hlocks := Bd.notSynchronized
  have hin : meth.name = "<init>" := (name_of_methodNamed Bd.named Bd.method).1
  have hZ : hp_Z dC dI dA κ B g s.heap s.heap [] := ⟨hW, hV, hKk, hBz, hF, va_S.rf⟩
  have hl := lv_entry ([Value.ref h0]) (n := 1) (Nat.le_of_ble_eq_true rfl)
  rw [lg_entry_eq]
  generalize (lg_sl ([Value.ref h0]) ++ List.replicate (1 - (lg_sl ([Value.ref h0])).length) Slot.unset).toArray = ls at hl ⊢
  have hl : lv_has ls 1 [(0, .ref h0)] := hl
  have hE : hp_EN κ κ h0 h0 := en_rf
  have h0n : κ h0 ≠ 0 := by rw [k0]; decide
  refine lv_aload_n hx hb dX1_init_0 rfl (lv_at hl 0 rfl) ?_
  refine W.objInit hx hb hown (hts (.methodLink RX1 3 objectInit) (List.mem_of_getElem? (i := 1) rfl)) (hts (.instanceMethod objectInit) (List.mem_of_getElem? (i := 2) rfl)) (hts (.code objectInit ⟨#[0xb1]⟩ 1 none) (List.mem_of_getElem? (i := 3) rfl)) rfl (by rw [hml]; exact hl.1) rfl dX1_init_1 (Nat.le_of_ble_eq_true rfl) (Nat.le_of_ble_eq_true rfl) ?_
  refine lv_aload_n hx hb dX1_init_4 rfl (lv_at hl 0 rfl) ?_
  refine hp_newo (C := RX0) (T := TX0) (N := 2) (ci := 0) (kd := 31) hx hb hts iX1_init_X0 tyX0 tyX0_ok hown (hts (.classLink RX1 9 RX0) (List.mem_of_getElem? (i := 4) rfl)) (hts (.instantiable RX0 2) (List.mem_of_getElem? (i := 5) rfl)) (hts (.initialized RX0) (List.mem_of_getElem? (i := 6) rfl)) hK hZ rfl rfl (by unfold hk_ok; omega) (fun _ k hk => by match k, hk with | 0, _ => exact trivial | 1, _ => exact trivial) (fun h => absurd h (by decide)) (by show 0 + 1 ≤ 3; omega) (by show 0 + 2 ≤ 431; omega) dX1_init_5 (fun b1 H zb1 hZ => ?_)
  refine W.cs (cells' := 1) (slots' := 2) (by omega) (by omega) ?_
  have yb1 : κ b1 = 0 := en_b hE zb1 (ne_k k0 zb1 (by decide)).symm
  obtain ⟨κ2, eκ2⟩ : ∃ z, z = hp_kk κ b1 31 := ⟨_, rfl⟩
  rw [← eκ2] at hZ
  have k3 : κ2 h0 = 33 := by rw [eκ2, hp_kk_n (ne_k k0 zb1 (by decide))]; exact k0
  have k4 : κ2 b1 = 31 := by rw [eκ2]; exact hp_kk_s _ _ _
  have hE : hp_EN κ κ2 h0 b1 := by rw [eκ2]; exact en_raw hE h0n zb1
  refine lv_dup hx hb dX1_init_8 rfl ?_
  refine hp_callT (va_runI (As := []) (rest := [.ref b1, .ref h0]) ⟨hx, hb, hml, hown, hts⟩ (c_X0_init l dC dI dA κ2 B g b1 k4) (cwI 0 hts gX1_init_X0_init rfl rfl rfl (hts (.initialized RX0) (List.mem_of_getElem? (i := 6) rfl)) (hts (.methodLink RX1 11 yX0_init) (List.mem_of_getElem? (i := 8) rfl)) (hts (.instanceMethod yX0_init) (List.mem_of_getElem? (i := 9) rfl)) rfl (by decide +kernel) ⟨Nat.le_of_ble_eq_true rfl, Nat.le_of_ble_eq_true rfl⟩) (hp_preT [.ref b1] hK hN hAO hZ) rfl rfl hl.1 rfl (lv_room (Nat.le_of_ble_eq_true rfl)) dX1_init_9 ⟨(by show 1 + 2 ≤ 3; omega), (by show 2 + 429 ≤ 431; omega)⟩) hZ (fun κ5 H locs hDκ5 hZ => ?_)
  refine W.cs (cells' := 3) (slots' := 431) (by omega) (by omega) ?_
  have k6 : κ5 h0 = 33 := (hDκ5.2.1 h0 (by rw [k3]; decide) (fun h9 => by rw [h9, k4] at k3; exact absurd k3 (by decide))).trans k3
  have k7 : κ5 b1 = 2 := hDκ5.1
  have hE : hp_EN κ κ5 h0 h0 := en_call hE yb1 hDκ5 (by unfold hk_new; decide)
  refine hp_putv (C := RX1) (T := TX1) (N := 2) (ci := 1) (kd := 33) hx hb hts iX1_init_X1 hown hK hZ.2.2.2.2 k6 rfl rfl 0 (by decide) (hts (.fieldLink RX1 12 "NeighborBook$FrameReader" "contents" "LNeighborBook$Contents;") (List.mem_of_getElem? (i := 7) rfl)) (fun _ h9 => h9) tyX1 tyX1_ok nmX1 (v := .ref b1) rfl rfl (by decide) hZ.1 rfl dX1_init_12 (fun F H locs hM hO hS => ?_)
  have hZ := hp_step (k1 := 33) (k2 := 3) hZ.1 hZ.2.1 hZ.2.2.1 (Nat.le_trans hBz hS.1) hM hO hS k6 rfl (by unfold hk_ok; omega) (by decide) (fun a j hj _ h => by have := hk_sr (hZ.2.2.1 a) h hj; omega) (fun j hj h => by have := hk_sr (kd := 3) (by unfold hk_ok; omega) h hj; omega) ⟨b1, rfl, k7⟩ (fun j hj hl w hw => by
        have hl : j < 2 := hl
        match j, hj, hl with
        | 1, _, _ => exact hw
        | 0, hj, _ => exact absurd rfl hj) (fun h => absurd h (by decide))
  obtain ⟨κ8, eκ8⟩ : ∃ z, z = hp_kk κ5 h0 3 := ⟨_, rfl⟩
  rw [← eκ8] at hZ
  have k9 : κ8 b1 = 2 := by rw [eκ8, hp_kk_n (fun h9 => by rw [h9, k6] at k7; exact absurd k7 (by decide))]; exact k7
  have k10 : κ8 h0 = 3 := by rw [eκ8]; exact hp_kk_s _ _ _
  have hE : hp_EN κ κ8 h0 h0 := by rw [eκ8]; exact en_step hE h0n
  exact hp_Tret hx hb hK hN hAO hlocks hZ hr (en_D hE h0n k10) dX1_init_15
theorem iX2_init_X0 : ∀ w ∈ wsX00, w ∈ wsX2_init := fun _ h => List.mem_cons_of_mem _ (List.mem_append_left _ (List.mem_append_right _ h))
theorem iX2_init_X2 : ∀ w ∈ wsX20, w ∈ wsX2_init := fun _ h => List.mem_cons_of_mem _ (List.mem_append_right _ h)
set_option maxRecDepth 100000 in
set_option maxHeartbeats 4000000 in
theorem c_X2_init (l : Launch) (dC : Nat → ClassId) (dI : Nat → Nat → Nat) (dA : Nat → ClassId) (κ : Nat → Nat) (B : Nat) (g : Nat → Nat → Int) (h0 : Nat) (k0 : κ h0 = 36) : Met l yX2_init wsX2_init ({ frames := 3, cells := 3, slots := 431, locals := 63 } : Room) (hp_PT dC dI dA κ B g [.ref h0]) (hp_QT dC dI dA κ B g h0 9) 3 431 (hp_A B) := by
  refine Met.ofW (cc := cX2_init) (maxL := 1) (ret := none) (by decide) rfl ?_
  intro p e s m args below meth c s₁ Bd hml hv
  obtain ⟨rfl, ⟨hK, hN, hW, hF⟩, hV, hKk, hBz, hAO⟩ := hv
  have hx := Bd.exec
  have hb := Bd.bytes
  have hr := Bd.returns
  have hts := atoms_spec (ws := wsX2_init) Bd.pre
  have hown : s.vm.findClass RX2 = some m.cls := findClass_of_methodNamed Bd.named
  have hlocks := Bd.notSynchronized
  have hin : meth.name = "<init>" := (name_of_methodNamed Bd.named Bd.method).1
  have hZ : hp_Z dC dI dA κ B g s.heap s.heap [] := ⟨hW, hV, hKk, hBz, hF, va_S.rf⟩
  have hl := lv_entry ([Value.ref h0]) (n := 1) (Nat.le_of_ble_eq_true rfl)
  rw [lg_entry_eq]
  generalize (lg_sl ([Value.ref h0]) ++ List.replicate (1 - (lg_sl ([Value.ref h0])).length) Slot.unset).toArray = ls at hl ⊢
  have hl : lv_has ls 1 [(0, .ref h0)] := hl
  have hE : hp_EN κ κ h0 h0 := en_rf
  have h0n : κ h0 ≠ 0 := by rw [k0]; decide
  refine lv_aload_n hx hb dX2_init_0 rfl (lv_at hl 0 rfl) ?_
  refine W.objInit hx hb hown (hts (.methodLink RX2 3 objectInit) (List.mem_of_getElem? (i := 1) rfl)) (hts (.instanceMethod objectInit) (List.mem_of_getElem? (i := 2) rfl)) (hts (.code objectInit ⟨#[0xb1]⟩ 1 none) (List.mem_of_getElem? (i := 3) rfl)) rfl (by rw [hml]; exact hl.1) rfl dX2_init_1 (Nat.le_of_ble_eq_true rfl) (Nat.le_of_ble_eq_true rfl) ?_
  refine lv_aload_n hx hb dX2_init_4 rfl (lv_at hl 0 rfl) ?_
  refine hp_newo (C := RX0) (T := TX0) (N := 2) (ci := 0) (kd := 31) hx hb hts iX2_init_X0 tyX0 tyX0_ok hown (hts (.classLink RX2 9 RX0) (List.mem_of_getElem? (i := 4) rfl)) (hts (.instantiable RX0 2) (List.mem_of_getElem? (i := 5) rfl)) (hts (.initialized RX0) (List.mem_of_getElem? (i := 6) rfl)) hK hZ rfl rfl (by unfold hk_ok; omega) (fun _ k hk => by match k, hk with | 0, _ => exact trivial | 1, _ => exact trivial) (fun h => absurd h (by decide)) (by show 0 + 1 ≤ 3; omega) (by show 0 + 2 ≤ 431; omega) dX2_init_5 (fun b1 H zb1 hZ => ?_)
  refine W.cs (cells' := 1) (slots' := 2) (by omega) (by omega) ?_
  have yb1 : κ b1 = 0 := en_b hE zb1 (ne_k k0 zb1 (by decide)).symm
  obtain ⟨κ2, eκ2⟩ : ∃ z, z = hp_kk κ b1 31 := ⟨_, rfl⟩
  rw [← eκ2] at hZ
  have k3 : κ2 h0 = 36 := by rw [eκ2, hp_kk_n (ne_k k0 zb1 (by decide))]; exact k0
  have k4 : κ2 b1 = 31 := by rw [eκ2]; exact hp_kk_s _ _ _
  have hE : hp_EN κ κ2 h0 b1 := by rw [eκ2]; exact en_raw hE h0n zb1
  refine lv_dup hx hb dX2_init_8 rfl ?_
  refine hp_callT (va_runI (As := []) (rest := [.ref b1, .ref h0]) ⟨hx, hb, hml, hown, hts⟩ (c_X0_init l dC dI dA κ2 B g b1 k4) (cwI 0 hts gX2_init_X0_init rfl rfl rfl (hts (.initialized RX0) (List.mem_of_getElem? (i := 6) rfl)) (hts (.methodLink RX2 11 yX0_init) (List.mem_of_getElem? (i := 8) rfl)) (hts (.instanceMethod yX0_init) (List.mem_of_getElem? (i := 9) rfl)) rfl (by decide +kernel) ⟨Nat.le_of_ble_eq_true rfl, Nat.le_of_ble_eq_true rfl⟩) (hp_preT [.ref b1] hK hN hAO hZ) rfl rfl hl.1 rfl (lv_room (Nat.le_of_ble_eq_true rfl)) dX2_init_9 ⟨(by show 1 + 2 ≤ 3; omega), (by show 2 + 429 ≤ 431; omega)⟩) hZ (fun κ5 H locs hDκ5 hZ => ?_)
  refine W.cs (cells' := 3) (slots' := 431) (by omega) (by omega) ?_
  have k6 : κ5 h0 = 36 := (hDκ5.2.1 h0 (by rw [k3]; decide) (fun h9 => by rw [h9, k4] at k3; exact absurd k3 (by decide))).trans k3
  have k7 : κ5 b1 = 2 := hDκ5.1
  have hE : hp_EN κ κ5 h0 h0 := en_call hE yb1 hDκ5 (by unfold hk_new; decide)
  refine hp_putv (C := RX2) (T := TX2) (N := 4) (ci := 2) (kd := 36) hx hb hts iX2_init_X2 hown hK hZ.2.2.2.2 k6 rfl rfl 0 (by decide) (hts (.fieldLink RX2 12 "NeighborBook$Neighbor" "contents" "LNeighborBook$Contents;") (List.mem_of_getElem? (i := 7) rfl)) (fun _ h9 => h9) tyX2 tyX2_ok nmX2 (v := .ref b1) rfl rfl (by decide) hZ.1 rfl dX2_init_12 (fun F H locs hM hO hS => ?_)
  have hZ := hp_step (k1 := 36) (k2 := 9) hZ.1 hZ.2.1 hZ.2.2.1 (Nat.le_trans hBz hS.1) hM hO hS k6 rfl (by unfold hk_ok; omega) (by decide) (fun a j hj _ h => by have := hk_sr (hZ.2.2.1 a) h hj; omega) (fun j hj h => by have := hk_sr (kd := 9) (by unfold hk_ok; omega) h hj; omega) ⟨b1, rfl, k7⟩ (fun j hj hl w hw => by
        have hl : j < 4 := hl
        match j, hj, hl with
        | 1, _, _ => exact hw
        | 2, _, _ => exact hw
        | 3, _, _ => exact hw
        | 0, hj, _ => exact absurd rfl hj) (fun h => absurd h (by decide))
  obtain ⟨κ8, eκ8⟩ : ∃ z, z = hp_kk κ5 h0 9 := ⟨_, rfl⟩
  rw [← eκ8] at hZ
  have k9 : κ8 b1 = 2 := by rw [eκ8, hp_kk_n (fun h9 => by rw [h9, k6] at k7; exact absurd k7 (by decide))]; exact k7
  have k10 : κ8 h0 = 9 := by rw [eκ8]; exact hp_kk_s _ _ _
  have hE : hp_EN κ κ8 h0 h0 := by rw [eκ8]; exact en_step hE h0n
  exact hp_Tret hx hb hK hN hAO hlocks hZ hr (en_D hE h0n k10) dX2_init_15
theorem iX5_init_X5 : ∀ w ∈ wsX50, w ∈ wsX5_init := fun _ h => List.mem_cons_of_mem _ (List.mem_append_right _ h)
set_option maxRecDepth 100000 in
set_option maxHeartbeats 4000000 in
theorem c_X5_init (l : Launch) (dC : Nat → ClassId) (dI : Nat → Nat → Nat) (dA : Nat → ClassId) (κ : Nat → Nat) (B : Nat) (g : Nat → Nat → Int) (h0 : Nat) (k0 : κ h0 = 34) (hg : ∀ a b : Nat, (a = 4 ∧ b = 1) → g a b = 0) (hg2 : g 4 2 = -1) (hu : ∀ a, κ a ≠ 4) : Met l yX5_init wsX5_init ({ frames := 1, cells := 1, slots := 439, locals := 12 } : Room) (hp_PT dC dI dA κ B g [.ref h0]) (hp_QT dC dI dA κ B g h0 4) 1 439 (hp_A B) := by
  refine Met.ofW (cc := cX5_init) (maxL := 1) (ret := none) (by decide) rfl ?_
  intro p e s m args below meth c s₁ Bd hml hv
  obtain ⟨rfl, ⟨hK, hN, hW, hF⟩, hV, hKk, hBz, hAO⟩ := hv
  have hx := Bd.exec
  have hb := Bd.bytes
  have hr := Bd.returns
  have hts := atoms_spec (ws := wsX5_init) Bd.pre
  have hown : s.vm.findClass RX5 = some m.cls := findClass_of_methodNamed Bd.named
  have hlocks := Bd.notSynchronized
  have hin : meth.name = "<init>" := (name_of_methodNamed Bd.named Bd.method).1
  have hZ : hp_Z dC dI dA κ B g s.heap s.heap [] := ⟨hW, hV, hKk, hBz, hF, va_S.rf⟩
  have hl := lv_entry ([Value.ref h0]) (n := 1) (Nat.le_of_ble_eq_true rfl)
  rw [lg_entry_eq]
  generalize (lg_sl ([Value.ref h0]) ++ List.replicate (1 - (lg_sl ([Value.ref h0])).length) Slot.unset).toArray = ls at hl ⊢
  have hl : lv_has ls 1 [(0, .ref h0)] := hl
  have hE : hp_EN κ κ h0 h0 := en_rf
  have h0n : κ h0 ≠ 0 := by rw [k0]; decide
  refine lv_aload_n hx hb dX5_init_0 rfl (lv_at hl 0 rfl) ?_
  refine W.objInit hx hb hown (hts (.methodLink RX5 3 objectInit) (List.mem_of_getElem? (i := 1) rfl)) (hts (.instanceMethod objectInit) (List.mem_of_getElem? (i := 2) rfl)) (hts (.code objectInit ⟨#[0xb1]⟩ 1 none) (List.mem_of_getElem? (i := 3) rfl)) rfl (by rw [hml]; exact hl.1) rfl dX5_init_1 (Nat.le_of_ble_eq_true rfl) (Nat.le_of_ble_eq_true rfl) ?_
  refine lv_aload_n hx hb dX5_init_4 rfl (lv_at hl 0 rfl) ?_
  refine hq_sipush hx hb dX5_init_5 (by decide) (fun z1 ez1 => ?_)
  refine hp_newi (atype := .byte) (ty := 1) (N := 439) (kd := 17) hx hb (hts (.arrayClass .byte) (List.mem_of_getElem? (i := 4) rfl)) hK hZ (hK.2 1 _ rfl).2 rfl (by unfold hk_ok; omega) (fun _ k _ => ⟨0, rfl, by decide, by decide⟩) (fun h => absurd h (by decide)) (by omega) (by show 439 * 1 ≤ 536870912; omega) (by show 0 + 1 ≤ 1; omega) (by show 0 + 439 ≤ 439; omega) dX5_init_8 (fun b2 H zb2 hZ => ?_)
  refine W.cs (cells' := 1) (slots' := 439) (by omega) (by omega) ?_
  obtain ⟨κ3, eκ3⟩ : ∃ z, z = hp_kk κ b2 17 := ⟨_, rfl⟩
  rw [← eκ3] at hZ
  have k4 : κ3 h0 = 34 := by rw [eκ3, hp_kk_n (ne_k k0 zb2 (by decide))]; exact k0
  have k5 : κ3 b2 = 17 := by rw [eκ3]; exact hp_kk_s _ _ _
  have hE : hp_EN κ κ3 h0 h0 := by rw [eκ3]; exact en_new hE zb2 (by unfold hk_new; decide)
  refine hp_putF (C := RX5) (T := TX5) (N := 3) (ci := 5) (kd := 34) hx hb hts iX5_init_X5 hown hK hZ.2.2.2.2 k4 rfl rfl 0 (by decide) (hts (.fieldLink RX5 9 "NeighborBook$SentFrame" "bytes" "[B") (List.mem_of_getElem? (i := 5) rfl)) (fun _ h9 => h9) tyX5 tyX5_ok nmX5 (v := .ref b2) rfl rfl (by decide) hZ.1 rfl hin rfl dX5_init_10 (fun F H locs hM hO hS => ?_)
  have hZ := hp_step (k1 := 34) (k2 := 35) hZ.1 hZ.2.1 hZ.2.2.1 (Nat.le_trans hBz hS.1) hM hO hS k4 rfl (by unfold hk_ok; omega) (by decide) (fun a j hj _ h => by have := hk_sr (hZ.2.2.1 a) h hj; omega) (fun j hj h => by have := hk_sr (kd := 35) (by unfold hk_ok; omega) h hj; omega) ⟨b2, rfl, k5⟩ (fun j hj hl w hw => by
        have hl : j < 3 := hl
        match j, hj, hl with
        | 1, _, _ => exact hw
        | 2, _, _ => exact hw
        | 0, hj, _ => exact absurd rfl hj) (fun h => absurd h (by decide))
  obtain ⟨κ6, eκ6⟩ : ∃ z, z = hp_kk κ3 h0 35 := ⟨_, rfl⟩
  rw [← eκ6] at hZ
  have k7 : κ6 b2 = 17 := by rw [eκ6, hp_kk_n (fun h9 => by rw [h9, k4] at k5; exact absurd k5 (by decide))]; exact k5
  have k8 : κ6 h0 = 35 := by rw [eκ6]; exact hp_kk_s _ _ _
  have hE : hp_EN κ κ6 h0 h0 := by rw [eκ6]; exact en_step hE h0n
  refine lv_aload_n hx hb dX5_init_13 rfl (lv_at hl 0 rfl) ?_
  refine hq_iconst hx hb dX5_init_14 (by decide) (by decide) (fun z9 ez9 => ?_)
  have hu2 : ∀ a, κ6 a ≠ 4 := by
    intro a h
    by_cases ha : a = h0
    · rw [ha, k8] at h; cases h
    · by_cases hz : κ a = 0
      · rcases hE.2 a hz with h3 | h3
        · exact ha h3
        · unfold hk_new at h3; omega
      · exact hu a (by rw [← hE.1 a hz ha]; exact h)
  refine hp_putv (C := RX5) (T := TX5) (N := 3) (ci := 5) (kd := 35) hx hb hts iX5_init_X5 hown hK hZ.2.2.2.2 k8 rfl rfl 2 (by decide) (hts (.fieldLink RX5 15 "NeighborBook$SentFrame" "port" "I") (List.mem_of_getElem? (i := 6) rfl)) (fun _ h9 => h9) tyX5 tyX5_ok nmX5 (v := .int z9) rfl rfl (by decide) hZ.1 rfl dX5_init_15 (fun F H locs hM hO hS => ?_)
  have hZ := hp_step (k1 := 35) (k2 := 4) hZ.1 hZ.2.1 hZ.2.2.1 (Nat.le_trans hBz hS.1) hM hO hS k8 rfl (by unfold hk_ok; omega) (by decide) (fun a j hj _ h => by have := hk_sr (hZ.2.2.1 a) h hj; omega) (fun j hj h => by have := hk_sr (kd := 4) (by unfold hk_ok; omega) h hj; omega) ⟨z9, rfl, (show z9.toInt = g 4 2 by rw [hg2]; exact ez9)⟩ (fun j hj hl w hw => by
        have hl : j < 3 := hl
        match j, hj, hl with
        | 0, _, _ => exact hw
        | 1, _, _ => obtain ⟨x9, hx1, hx2, hx3⟩ := (show ∃ x : Int32, w = .int x ∧ 0 ≤ x.toInt ∧ x.toInt ≤ ((0 : Nat) : Int) from hw); exact ⟨x9, hx1, (show x9.toInt = g 4 1 by rw [hg 4 1 (by decide)]; omega)⟩
        | 2, hj, _ => exact absurd rfl hj) (fun _ => hu2)
  obtain ⟨κ10, eκ10⟩ : ∃ z, z = hp_kk κ6 h0 4 := ⟨_, rfl⟩
  rw [← eκ10] at hZ
  have k11 : κ10 b2 = 17 := by rw [eκ10, hp_kk_n (fun h9 => by rw [h9, k8] at k7; exact absurd k7 (by decide))]; exact k7
  have k12 : κ10 h0 = 4 := by rw [eκ10]; exact hp_kk_s _ _ _
  have hE : hp_EN κ κ10 h0 h0 := by rw [eκ10]; exact en_step hE h0n
  exact hp_Tret hx hb hK hN hAO hlocks hZ hr (en_D hE h0n k12) dX5_init_18
set_option maxRecDepth 100000 in
set_option maxHeartbeats 4000000 in
theorem c_X4_init (l : Launch) (dC : Nat → ClassId) (dI : Nat → Nat → Nat) (dA : Nat → ClassId) (κ : Nat → Nat) (B : Nat) (g : Nat → Nat → Int) (h0 kd0 : Nat) (k0 : κ h0 = kd0) (hk0 : kd0 ≠ 0) : Met l yX4_init wsX4_init ({ frames := 1, cells := 0, slots := 0, locals := 12 } : Room) (hp_PT dC dI dA κ B g [.ref h0]) (hp_QT dC dI dA κ B g h0 kd0) 0 0 (hp_A B) := by
  refine Met.ofW (cc := cX4_init) (maxL := 1) (ret := none) (by decide) rfl ?_
  intro p e s m args below meth c s₁ Bd hml hv
  obtain ⟨rfl, ⟨hK, hN, hW, hF⟩, hV, hKk, hBz, hAO⟩ := hv
  have hx := Bd.exec
  have hb := Bd.bytes
  have hr := Bd.returns
  have hts := atoms_spec (ws := wsX4_init) Bd.pre
  have hown : s.vm.findClass RX4 = some m.cls := findClass_of_methodNamed Bd.named
  have hlocks := Bd.notSynchronized
  have hin : meth.name = "<init>" := (name_of_methodNamed Bd.named Bd.method).1
  have hZ : hp_Z dC dI dA κ B g s.heap s.heap [] := ⟨hW, hV, hKk, hBz, hF, va_S.rf⟩
  have hl := lv_entry ([Value.ref h0]) (n := 1) (Nat.le_of_ble_eq_true rfl)
  rw [lg_entry_eq]
  generalize (lg_sl ([Value.ref h0]) ++ List.replicate (1 - (lg_sl ([Value.ref h0])).length) Slot.unset).toArray = ls at hl ⊢
  have hl : lv_has ls 1 [(0, .ref h0)] := hl
  have hE : hp_EN κ κ h0 h0 := en_rf
  have h0n : κ h0 ≠ 0 := by rw [k0]; exact hk0
  refine lv_aload_n hx hb dX4_init_0 rfl (lv_at hl 0 rfl) ?_
  refine W.objInit hx hb hown (hts (.methodLink RX4 3 objectInit) (List.mem_of_getElem? (i := 1) rfl)) (hts (.instanceMethod objectInit) (List.mem_of_getElem? (i := 2) rfl)) (hts (.code objectInit ⟨#[0xb1]⟩ 1 none) (List.mem_of_getElem? (i := 3) rfl)) rfl (by rw [hml]; exact hl.1) rfl dX4_init_1 (Nat.le_of_ble_eq_true rfl) (Nat.le_of_ble_eq_true rfl) ?_
  exact hp_Tret hx hb hK hN hAO hlocks hZ hr (en_D hE h0n k0) dX4_init_4
