theorem iX0_init_X0 : ∀ w ∈ wsX00, w ∈ wsX0_init := fun _ h => List.mem_cons_of_mem _ (List.mem_append_right _ h)
set_option maxRecDepth 100000 in
set_option maxHeartbeats 4000000 in
theorem c_X0_init (l : Launch) (dC : Nat → ClassId) (dI : Nat → Nat → Nat) (dA : Nat → ClassId) (κ : Nat → Nat) (B : Nat) (g : Nat → Nat → Int) (h0 : Nat) (k0 : κ h0 = 31) (q : Nat) (hq : q < 14) (hu : ∀ a, κ a ≠ 340 + q ∧ κ a ≠ 360 + q) : Met l yX0_init wsX0_init ({ frames := 2, cells := 2, slots := 429, locals := 43 } : Room) (hp_PT dC dI dA κ B g [.ref h0]) (hp_QT dC dI dA κ B g h0 (320 + q) (fun n => n = 0 ∨ n = 340 + q ∨ n = 360 + q)) 2 429 (hp_A B) := by
  refine Met.ofW (cc := cX0_init) (maxL := 1) (ret := none) (by decide) rfl ?_
  intro p e s m args below meth c s₁ Bd hml hv
  obtain ⟨rfl, ⟨hK, hN, hW, hF⟩, hV, hKk, hBz, hAO⟩ := hv
  have hx := Bd.exec
  have hb := Bd.bytes
  have hr := Bd.returns
  have hts := atoms_spec (ws := wsX0_init) Bd.pre
  have hown : s.vm.findClass RX0 = some m.cls := findClass_of_methodNamed Bd.named
  have hlocks := Bd.notSynchronized
  have hin : meth.name = "<init>" := (name_of_methodNamed Bd.named Bd.method).1
  have hZ : hp_Z dC dI dA κ B g s.heap s.heap [] := ⟨hW, hV, hKk, hBz, hF, va_S.rf⟩
  have hl := lv_entry ([Value.ref h0]) (n := 1) (Nat.le_of_ble_eq_true rfl)
  rw [lg_entry_eq]
  generalize (lg_sl ([Value.ref h0]) ++ List.replicate (1 - (lg_sl ([Value.ref h0])).length) Slot.unset).toArray = ls at hl ⊢
  have hl : lv_has ls 1 [(0, .ref h0)] := hl
  have hE : hp_EN (fun n => n = 0 ∨ n = 340 + q ∨ n = 360 + q) κ κ h0 h0 := en_rf (show 0 = 0 ∨ 0 = 340 + q ∨ 0 = 360 + q from by omega)
  have h0n : κ h0 ≠ 0 := by rw [k0]; omega
  refine lv_aload_n hx hb dX0_init_0 rfl (lv_at hl 0 rfl) ?_
  refine W.objInit hx hb hown (hts (.methodLink RX0 3 objectInit) (List.mem_of_getElem? (i := 1) rfl)) (hts (.instanceMethod objectInit) (List.mem_of_getElem? (i := 2) rfl)) (hts (.code objectInit ⟨#[0xb1]⟩ 1 none) (List.mem_of_getElem? (i := 3) rfl)) rfl (by rw [hml]; exact hl.1) rfl dX0_init_1 (Nat.le_of_ble_eq_true rfl) (Nat.le_of_ble_eq_true rfl) ?_
  have nu4 : ∀ a, κ a ≠ 340 + q := fun a => (hu a).1
  have nu6 : ∀ a, κ a ≠ 360 + q := fun a => (hu a).2
  refine lv_aload_n hx hb dX0_init_4 rfl (lv_at hl 0 rfl) ?_
  refine hq_bipush hx hb dX0_init_5 (by decide) (fun z1 ez1 => ?_)
  refine hp_newi (atype := .int) (ty := 0) (N := 9) (kd := 340 + q) hx hb (hts (.arrayClass .int) (List.mem_of_getElem? (i := 4) rfl)) hK hZ (hK.2 0 _ rfl).2 (hk_t340 (by omega)) (by unfold hk_ok; omega) (fun _ k hk => by rw [hk_s340 (by omega)]; split <;> exact ⟨0, rfl, by decide, by decide⟩) (fun _ => nu4) (by omega) (by show 9 * 4 ≤ 536870912; omega) (by show 0 + 1 ≤ 2; omega) (by show 0 + 9 ≤ 429; omega) dX0_init_7 (fun b2 H zb2 hZ => ?_)
  refine W.cs (cells' := 1) (slots' := 9) (by omega) (by omega) ?_
  obtain ⟨κ3, eκ3⟩ : ∃ z, z = hp_kk κ b2 (340 + q) := ⟨_, rfl⟩
  rw [← eκ3] at hZ
  have k4 : κ3 h0 = 31 := by rw [eκ3, hp_kk_n (ne_k k0 zb2 (by omega))]; exact k0
  have k5 : κ3 b2 = 340 + q := by rw [eκ3]; exact hp_kk_s _ _ _
  have hE : hp_EN (fun n => n = 0 ∨ n = 340 + q ∨ n = 360 + q) κ κ3 h0 h0 := by rw [eκ3]; exact en_new hE zb2 (show (340 + q) = 0 ∨ (340 + q) = 340 + q ∨ (340 + q) = 360 + q from by omega)
  have nu6 : ∀ a, κ3 a ≠ 360 + q := fun a h => by
    by_cases e9 : a = b2
    · rw [e9, k5] at h; omega
    · rw [eκ3, hp_kk_n e9] at h; exact nu6 a h
  refine hp_putF (C := RX0) (T := TX0) (N := 2) (ci := 0) (kd := 31) hx hb hts iX0_init_X0 hown hK hZ.2.2.2.2 k4 (rfl : hk_t 31 = (1, 0, 2)) rfl 0 (by decide) (hts (.fieldLink RX0 9 "NeighborBook$Contents" "sizes" "[I") (List.mem_of_getElem? (i := 5) rfl)) (fun _ h9 => h9) tyX0 tyX0_ok nmX0 (v := .ref b2) rfl rfl (by omega) hZ.1 rfl hin rfl dX0_init_9 (fun F H locs hM hO hS => ?_)
  have hZ := hp_step (k1 := 31) (k2 := 380 + q) hZ.1 hZ.2.1 hZ.2.2.1 (Nat.le_trans hBz hS.1) hM hO hS k4 ((hk_t380 (q := q)).trans (rfl : hk_t 31 = (1, 0, 2)).symm) (by unfold hk_ok; omega) (by rw [(hk_t380 (q := q))]; decide) (fun a j hj _ h => by have := hk_sr (hZ.2.2.1 a) h hj; omega) (fun j hj h => by have := hk_sr (kd := 380 + q) (by unfold hk_ok; omega) h hj; omega) (by rw [hk_s380 (q := q) 0]; exact ⟨b2, rfl, k5⟩) (fun j hj hl w hw => by
        have hl : j < 2 := by rw [(rfl : hk_t 31 = (1, 0, 2))] at hl; exact hl
        match j, hj, hl, hw with
        | 1, _, _, hw => rw [hk_s380 (q := q) 1]; exact hw
        | 0, hj, _, _ => exact absurd rfl hj) (fun h => by rw [hk_x380] at h; cases h)
  obtain ⟨κ6, eκ6⟩ : ∃ z, z = hp_kk κ3 h0 (380 + q) := ⟨_, rfl⟩
  rw [← eκ6] at hZ
  have k7 : κ6 b2 = 340 + q := by rw [eκ6, hp_kk_n (fun h9 => by rw [h9, k4] at k5; omega)]; exact k5
  have k8 : κ6 h0 = 380 + q := by rw [eκ6]; exact hp_kk_s _ _ _
  have nu6 : ∀ a, κ6 a ≠ 360 + q := fun a h => by
    by_cases e9 : a = h0
    · rw [e9, k8] at h; omega
    · rw [eκ6, hp_kk_n e9] at h; exact nu6 a h
  have hE : hp_EN (fun n => n = 0 ∨ n = 340 + q ∨ n = 360 + q) κ κ6 h0 h0 := by rw [eκ6]; exact en_step hE h0n
  refine lv_aload_n hx hb dX0_init_12 rfl (lv_at hl 0 rfl) ?_
  refine hq_sipush hx hb dX0_init_13 (by decide) (fun z9 ez9 => ?_)
  refine hp_newi (atype := .byte) (ty := 1) (N := 420) (kd := 360 + q) hx hb (hts (.arrayClass .byte) (List.mem_of_getElem? (i := 6) rfl)) hK hZ (hK.2 1 _ rfl).2 (hk_t360 (by omega)) (by unfold hk_ok; omega) (fun _ k hk => by rw [hk_s360 (by omega)]; exact ⟨0, rfl, by decide, by decide⟩) (fun _ => nu6) (by omega) (by show 420 * 1 ≤ 536870912; omega) (by show 1 + 1 ≤ 2; omega) (by show 9 + 420 ≤ 429; omega) dX0_init_16 (fun b10 H zb10 hZ => ?_)
  refine W.cs (cells' := 2) (slots' := 429) (by omega) (by omega) ?_
  obtain ⟨κ11, eκ11⟩ : ∃ z, z = hp_kk κ6 b10 (360 + q) := ⟨_, rfl⟩
  rw [← eκ11] at hZ
  have k12 : κ11 h0 = 380 + q := by rw [eκ11, hp_kk_n (ne_k k8 zb10 (by omega))]; exact k8
  have k13 : κ11 b2 = 340 + q := by rw [eκ11, hp_kk_n (ne_k k7 zb10 (by omega))]; exact k7
  have k14 : κ11 b10 = 360 + q := by rw [eκ11]; exact hp_kk_s _ _ _
  have hE : hp_EN (fun n => n = 0 ∨ n = 340 + q ∨ n = 360 + q) κ κ11 h0 h0 := by rw [eκ11]; exact en_new hE zb10 (show (360 + q) = 0 ∨ (360 + q) = 340 + q ∨ (360 + q) = 360 + q from by omega)
  refine hp_putF (C := RX0) (T := TX0) (N := 2) (ci := 0) (kd := 380 + q) hx hb hts iX0_init_X0 hown hK hZ.2.2.2.2 k12 (hk_t380 (q := q)) rfl 1 (by decide) (hts (.fieldLink RX0 15 "NeighborBook$Contents" "bytes" "[B") (List.mem_of_getElem? (i := 7) rfl)) (fun _ h9 => h9) tyX0 tyX0_ok nmX0 (v := .ref b10) rfl rfl (by omega) hZ.1 rfl hin rfl dX0_init_18 (fun F H locs hM hO hS => ?_)
  have hZ := hp_step (k1 := 380 + q) (k2 := 320 + q) hZ.1 hZ.2.1 hZ.2.2.1 (Nat.le_trans hBz hS.1) hM hO hS k12 ((hk_t320 (q := q) (by omega)).trans (hk_t380 (q := q)).symm) (by unfold hk_ok; omega) (by rw [(hk_t320 (q := q) (by omega))]; decide) (fun a j hj _ h => by have := hk_sr (hZ.2.2.1 a) h hj; omega) (fun j hj h => by have := hk_sr (kd := 320 + q) (by unfold hk_ok; omega) h hj; omega) (by rw [hk_s320 (q := q) (by omega) 1]; exact ⟨b10, rfl, k14⟩) (fun j hj hl w hw => by
        have hl : j < 2 := by rw [(hk_t380 (q := q))] at hl; exact hl
        match j, hj, hl, hw with
        | 0, _, _, hw => rw [hk_s380 (q := q) 0] at hw; rw [hk_s320 (q := q) (by omega) 0]; exact hw
        | 1, hj, _, _ => exact absurd rfl hj) (fun h => by rw [hk_x320 (by omega)] at h; cases h)
  obtain ⟨κ15, eκ15⟩ : ∃ z, z = hp_kk κ11 h0 (320 + q) := ⟨_, rfl⟩
  rw [← eκ15] at hZ
  have k16 : κ15 b2 = 340 + q := by rw [eκ15, hp_kk_n (fun h9 => by rw [h9, k12] at k13; omega)]; exact k13
  have k17 : κ15 b10 = 360 + q := by rw [eκ15, hp_kk_n (fun h9 => by rw [h9, k12] at k14; omega)]; exact k14
  have k18 : κ15 h0 = 320 + q := by rw [eκ15]; exact hp_kk_s _ _ _
  have hE : hp_EN (fun n => n = 0 ∨ n = 340 + q ∨ n = 360 + q) κ κ15 h0 h0 := by rw [eκ15]; exact en_step hE h0n
  refine lv_aload_n hx hb dX0_init_21 rfl (lv_at hl 0 rfl) ?_
  refine hp_callv (va_runV (As := []) (rest := []) ⟨hx, hb, hml, hown, hts⟩ (c_X0_clear l dC dI dA κ15 B g q (by omega) h0 k18) (cwV 0 hts gX0_init_X0_clear rfl rfl rfl (by decide +kernel) ⟨Nat.le_of_ble_eq_true rfl, Nat.le_of_ble_eq_true rfl⟩) (hp_preV (q := (RX0, TX0, 2)) [] hK hN hZ.1 hZ.2.2.2.2 k18 (hk_t320 (by omega)) rfl) rfl rfl hl.1 rfl (lv_room (Nat.le_of_ble_eq_true rfl)) dX0_init_22 ⟨(by show 2 + 0 ≤ 2; omega), (by show 429 + 0 ≤ 429; omega)⟩) hZ.2.2.2.2 (fun g9 H locs hp hJ => ?_)
  subst hp
  have hZ := (⟨hZ.1, hZ.2.1, hZ.2.2.1, Nat.le_trans hBz hJ.2.1, hJ⟩ : hp_Z dC dI dA _ B g s.heap H locs)
  exact hp_Tret hx hb hK hN hAO hlocks hZ hr (en_D hE h0n k18) dX0_init_25
theorem iX2_init_X0 : ∀ w ∈ wsX00, w ∈ wsX2_init := fun _ h => List.mem_cons_of_mem _ (List.mem_append_left _ (List.mem_append_right _ h))
theorem iX2_init_X2 : ∀ w ∈ wsX20, w ∈ wsX2_init := fun _ h => List.mem_cons_of_mem _ (List.mem_append_right _ h)
set_option maxRecDepth 100000 in
set_option maxHeartbeats 4000000 in
theorem c_X2_init (l : Launch) (dC : Nat → ClassId) (dI : Nat → Nat → Nat) (dA : Nat → ClassId) (κ : Nat → Nat) (B : Nat) (g : Nat → Nat → Int) (h0 : Nat) (k0 : κ h0 = 36) (q : Nat) (hq : q < 12) (hu : ∀ a, κ a ≠ 300 + q ∧ κ a ≠ 340 + q ∧ κ a ≠ 360 + q) : Met l yX2_init wsX2_init ({ frames := 3, cells := 3, slots := 431, locals := 63 } : Room) (hp_PT dC dI dA κ B g [.ref h0]) (hp_QT dC dI dA κ B g h0 (300 + q) (fun n => n = 0 ∨ n = 320 + q ∨ n = 340 + q ∨ n = 360 + q)) 3 431 (hp_A B) := by
  refine Met.ofW (cc := cX2_init) (maxL := 1) (ret := none) (by decide) rfl ?_
  intro p e s m args below meth c s₁ Bd hml hv
  obtain ⟨rfl, ⟨hK, hN, hW, hF⟩, hV, hKk, hBz, hAO⟩ := hv
  have hx := Bd.exec
  have hb := Bd.bytes
  have hr := Bd.returns
  have hts := atoms_spec (ws := wsX2_init) Bd.pre
  have hown : s.vm.findClass RX2 = some m.cls := findClass_of_methodNamed Bd.named
  have hlocks := Bd.notSynchronized
  have hin : meth.name = "<init>" := (name_of_methodNamed Bd.named Bd.method).1
  have hZ : hp_Z dC dI dA κ B g s.heap s.heap [] := ⟨hW, hV, hKk, hBz, hF, va_S.rf⟩
  have hl := lv_entry ([Value.ref h0]) (n := 1) (Nat.le_of_ble_eq_true rfl)
  rw [lg_entry_eq]
  generalize (lg_sl ([Value.ref h0]) ++ List.replicate (1 - (lg_sl ([Value.ref h0])).length) Slot.unset).toArray = ls at hl ⊢
  have hl : lv_has ls 1 [(0, .ref h0)] := hl
  have hE : hp_EN (fun n => n = 0 ∨ n = 320 + q ∨ n = 340 + q ∨ n = 360 + q) κ κ h0 h0 := en_rf (show 0 = 0 ∨ 0 = 320 + q ∨ 0 = 340 + q ∨ 0 = 360 + q from by omega)
  have h0n : κ h0 ≠ 0 := by rw [k0]; omega
  refine lv_aload_n hx hb dX2_init_0 rfl (lv_at hl 0 rfl) ?_
  refine W.objInit hx hb hown (hts (.methodLink RX2 3 objectInit) (List.mem_of_getElem? (i := 1) rfl)) (hts (.instanceMethod objectInit) (List.mem_of_getElem? (i := 2) rfl)) (hts (.code objectInit ⟨#[0xb1]⟩ 1 none) (List.mem_of_getElem? (i := 3) rfl)) rfl (by rw [hml]; exact hl.1) rfl dX2_init_1 (Nat.le_of_ble_eq_true rfl) (Nat.le_of_ble_eq_true rfl) ?_
  have nu3 : ∀ a, κ a ≠ 300 + q := fun a => (hu a).1
  have nu4 : ∀ a, κ a ≠ 340 + q := fun a => (hu a).2.1
  have nu6 : ∀ a, κ a ≠ 360 + q := fun a => (hu a).2.2
  refine lv_aload_n hx hb dX2_init_4 rfl (lv_at hl 0 rfl) ?_
  refine hp_newo (C := RX0) (T := TX0) (N := 2) (ci := 0) (kd := 31) hx hb hts iX2_init_X0 tyX0 tyX0_ok hown (hts (.classLink RX2 9 RX0) (List.mem_of_getElem? (i := 4) rfl)) (hts (.instantiable RX0 2) (List.mem_of_getElem? (i := 5) rfl)) (hts (.initialized RX0) (List.mem_of_getElem? (i := 6) rfl)) hK hZ rfl rfl (by unfold hk_ok; omega) (fun _ k hk => by match k, hk with | 0, _ => exact trivial | 1, _ => exact trivial) (fun h => absurd h (by decide)) (by show 0 + 1 ≤ 3; omega) (by show 0 + 2 ≤ 431; omega) dX2_init_5 (fun b1 H zb1 hZ => ?_)
  refine W.cs (cells' := 1) (slots' := 2) (by omega) (by omega) ?_
  have yb1 : κ b1 = 0 := en_b hE zb1 (ne_k k0 zb1 (by omega)).symm
  obtain ⟨κ2, eκ2⟩ : ∃ z, z = hp_kk κ b1 (31) := ⟨_, rfl⟩
  rw [← eκ2] at hZ
  have k3 : κ2 h0 = 36 := by rw [eκ2, hp_kk_n (ne_k k0 zb1 (by omega))]; exact k0
  have k4 : κ2 b1 = 31 := by rw [eκ2]; exact hp_kk_s _ _ _
  have hE : hp_EN (fun n => n = 0 ∨ n = 320 + q ∨ n = 340 + q ∨ n = 360 + q) κ κ2 h0 b1 := by rw [eκ2]; exact en_raw hE h0n zb1
  have nu3 : ∀ a, κ2 a ≠ 300 + q := fun a h => by
    by_cases e9 : a = b1
    · rw [e9, k4] at h; omega
    · rw [eκ2, hp_kk_n e9] at h; exact nu3 a h
  have nu4 : ∀ a, κ2 a ≠ 340 + q := fun a h => by
    by_cases e9 : a = b1
    · rw [e9, k4] at h; omega
    · rw [eκ2, hp_kk_n e9] at h; exact nu4 a h
  have nu6 : ∀ a, κ2 a ≠ 360 + q := fun a h => by
    by_cases e9 : a = b1
    · rw [e9, k4] at h; omega
    · rw [eκ2, hp_kk_n e9] at h; exact nu6 a h
  refine lv_dup hx hb dX2_init_8 rfl ?_
  refine hp_callT (va_runI (As := []) (rest := [.ref b1, .ref h0]) ⟨hx, hb, hml, hown, hts⟩ (c_X0_init l dC dI dA κ2 B g b1 k4 q (by omega) (fun a => ⟨nu4 a, nu6 a⟩)) (cwI 0 hts gX2_init_X0_init rfl rfl rfl (hts (.initialized RX0) (List.mem_of_getElem? (i := 6) rfl)) (hts (.methodLink RX2 11 yX0_init) (List.mem_of_getElem? (i := 8) rfl)) (hts (.instanceMethod yX0_init) (List.mem_of_getElem? (i := 9) rfl)) rfl (by decide +kernel) ⟨Nat.le_of_ble_eq_true rfl, Nat.le_of_ble_eq_true rfl⟩) (hp_preT [.ref b1] hK hN hAO hZ) rfl rfl hl.1 rfl (lv_room (Nat.le_of_ble_eq_true rfl)) dX2_init_9 ⟨(by show 1 + 2 ≤ 3; omega), (by show 2 + 429 ≤ 431; omega)⟩) hZ (fun κ5 H locs hDκ5 hZ => ?_)
  refine W.cs (cells' := 3) (slots' := 431) (by omega) (by omega) ?_
  have k6 : κ5 h0 = 36 := (hDκ5.2.1 h0 (by rw [k3]; omega) (fun h9 => by rw [h9, k4] at k3; omega)).trans k3
  have nu3 : ∀ a, κ5 a ≠ 300 + q := fun a h => by
    by_cases e9 : a = b1
    · rw [e9, hDκ5.1] at h; omega
    · by_cases hz9 : κ2 a = 0
      · have h8 : (κ5 a) = 0 ∨ (κ5 a) = 340 + q ∨ (κ5 a) = 360 + q := hDκ5.2.2 a hz9
        omega
      · rw [hDκ5.2.1 a hz9 e9] at h; exact nu3 a h
  have k7 : κ5 b1 = 320 + q := hDκ5.1
  have hE : hp_EN (fun n => n = 0 ∨ n = 320 + q ∨ n = 340 + q ∨ n = 360 + q) κ κ5 h0 h0 := en_call hE yb1 hDκ5 (show (320 + q) = 0 ∨ (320 + q) = 320 + q ∨ (320 + q) = 340 + q ∨ (320 + q) = 360 + q from by omega) (fun n h9 => by have h9 : n = 0 ∨ n = 340 + q ∨ n = 360 + q := h9; show n = 0 ∨ n = 320 + q ∨ n = 340 + q ∨ n = 360 + q; omega)
  refine hp_putv (C := RX2) (T := TX2) (N := 4) (ci := 2) (kd := 36) hx hb hts iX2_init_X2 hown hK hZ.2.2.2.2 k6 (rfl : hk_t 36 = (1, 2, 4)) rfl 0 (by decide) (hts (.fieldLink RX2 12 "NeighborBook$Neighbor" "contents" "LNeighborBook$Contents;") (List.mem_of_getElem? (i := 7) rfl)) (fun _ h9 => h9) tyX2 tyX2_ok nmX2 (v := .ref b1) rfl rfl (by omega) hZ.1 rfl dX2_init_12 (fun F H locs hM hO hS => ?_)
  have hZ := hp_step (k1 := 36) (k2 := 300 + q) hZ.1 hZ.2.1 hZ.2.2.1 (Nat.le_trans hBz hS.1) hM hO hS k6 ((hk_t300 (q := q) (by omega)).trans (rfl : hk_t 36 = (1, 2, 4)).symm) (by unfold hk_ok; omega) (by rw [(hk_t300 (q := q) (by omega))]; decide) (fun a j hj _ h => by have := hk_sr (hZ.2.2.1 a) h hj; omega) (fun j hj h => by have := hk_sr (kd := 300 + q) (by unfold hk_ok; omega) h hj; omega) (by rw [hk_s300 (q := q) (by omega) 0]; exact ⟨b1, rfl, k7⟩) (fun j hj hl w hw => by
        have hl : j < 4 := by rw [(rfl : hk_t 36 = (1, 2, 4))] at hl; exact hl
        match j, hj, hl, hw with
        | 1, _, _, hw => rw [hk_s300 (q := q) (by omega) 1]; exact hw
        | 2, _, _, hw => rw [hk_s300 (q := q) (by omega) 2]; exact hw
        | 3, _, _, hw => rw [hk_s300 (q := q) (by omega) 3]; exact hw
        | 0, hj, _, _ => exact absurd rfl hj) (fun _ => nu3)
  obtain ⟨κ8, eκ8⟩ : ∃ z, z = hp_kk κ5 h0 (300 + q) := ⟨_, rfl⟩
  rw [← eκ8] at hZ
  have k9 : κ8 b1 = 320 + q := by rw [eκ8, hp_kk_n (fun h9 => by rw [h9, k6] at k7; omega)]; exact k7
  have k10 : κ8 h0 = 300 + q := by rw [eκ8]; exact hp_kk_s _ _ _
  have hE : hp_EN (fun n => n = 0 ∨ n = 320 + q ∨ n = 340 + q ∨ n = 360 + q) κ κ8 h0 h0 := by rw [eκ8]; exact en_step hE h0n
  exact hp_Tret hx hb hK hN hAO hlocks hZ hr (en_D hE h0n k10) dX2_init_15
theorem iX1_init_X0 : ∀ w ∈ wsX00, w ∈ wsX1_init := fun _ h => List.mem_cons_of_mem _ (List.mem_append_left _ (List.mem_append_right _ h))
theorem iX1_init_X1 : ∀ w ∈ wsX10, w ∈ wsX1_init := fun _ h => List.mem_cons_of_mem _ (List.mem_append_right _ h)
set_option maxRecDepth 100000 in
set_option maxHeartbeats 4000000 in
theorem c_X1_init (l : Launch) (dC : Nat → ClassId) (dI : Nat → Nat → Nat) (dA : Nat → ClassId) (κ : Nat → Nat) (B : Nat) (g : Nat → Nat → Int) (h0 : Nat) (k0 : κ h0 = 33) (hu : ∀ a, κ a ≠ 3 ∧ κ a ≠ 352 ∧ κ a ≠ 372) : Met l yX1_init wsX1_init ({ frames := 3, cells := 3, slots := 431, locals := 63 } : Room) (hp_PT dC dI dA κ B g [.ref h0]) (hp_QT dC dI dA κ B g h0 (3) (fun n => n = 0 ∨ n = 320 + 12 ∨ n = 340 + 12 ∨ n = 360 + 12)) 3 431 (hp_A B) := by
  refine Met.ofW (cc := cX1_init) (maxL := 1) (ret := none) (by decide) rfl ?_
  intro p e s m args below meth c s₁ Bd hml hv
  obtain ⟨rfl, ⟨hK, hN, hW, hF⟩, hV, hKk, hBz, hAO⟩ := hv
  have hx := Bd.exec
  have hb := Bd.bytes
  have hr := Bd.returns
  have hts := atoms_spec (ws := wsX1_init) Bd.pre
  have hown : s.vm.findClass RX1 = some m.cls := findClass_of_methodNamed Bd.named
  have hlocks := Bd.notSynchronized
  have hin : meth.name = "<init>" := (name_of_methodNamed Bd.named Bd.method).1
  have hZ : hp_Z dC dI dA κ B g s.heap s.heap [] := ⟨hW, hV, hKk, hBz, hF, va_S.rf⟩
  have hl := lv_entry ([Value.ref h0]) (n := 1) (Nat.le_of_ble_eq_true rfl)
  rw [lg_entry_eq]
  generalize (lg_sl ([Value.ref h0]) ++ List.replicate (1 - (lg_sl ([Value.ref h0])).length) Slot.unset).toArray = ls at hl ⊢
  have hl : lv_has ls 1 [(0, .ref h0)] := hl
  have hE : hp_EN (fun n => n = 0 ∨ n = 320 + 12 ∨ n = 340 + 12 ∨ n = 360 + 12) κ κ h0 h0 := en_rf (show 0 = 0 ∨ 0 = 320 + 12 ∨ 0 = 340 + 12 ∨ 0 = 360 + 12 from by omega)
  have h0n : κ h0 ≠ 0 := by rw [k0]; omega
  refine lv_aload_n hx hb dX1_init_0 rfl (lv_at hl 0 rfl) ?_
  refine W.objInit hx hb hown (hts (.methodLink RX1 3 objectInit) (List.mem_of_getElem? (i := 1) rfl)) (hts (.instanceMethod objectInit) (List.mem_of_getElem? (i := 2) rfl)) (hts (.code objectInit ⟨#[0xb1]⟩ 1 none) (List.mem_of_getElem? (i := 3) rfl)) rfl (by rw [hml]; exact hl.1) rfl dX1_init_1 (Nat.le_of_ble_eq_true rfl) (Nat.le_of_ble_eq_true rfl) ?_
  have nu3 : ∀ a, κ a ≠ 3 := fun a => (hu a).1
  have nu4 : ∀ a, κ a ≠ 352 := fun a => (hu a).2.1
  have nu6 : ∀ a, κ a ≠ 372 := fun a => (hu a).2.2
  refine lv_aload_n hx hb dX1_init_4 rfl (lv_at hl 0 rfl) ?_
  refine hp_newo (C := RX0) (T := TX0) (N := 2) (ci := 0) (kd := 31) hx hb hts iX1_init_X0 tyX0 tyX0_ok hown (hts (.classLink RX1 9 RX0) (List.mem_of_getElem? (i := 4) rfl)) (hts (.instantiable RX0 2) (List.mem_of_getElem? (i := 5) rfl)) (hts (.initialized RX0) (List.mem_of_getElem? (i := 6) rfl)) hK hZ rfl rfl (by unfold hk_ok; omega) (fun _ k hk => by match k, hk with | 0, _ => exact trivial | 1, _ => exact trivial) (fun h => absurd h (by decide)) (by show 0 + 1 ≤ 3; omega) (by show 0 + 2 ≤ 431; omega) dX1_init_5 (fun b1 H zb1 hZ => ?_)
  refine W.cs (cells' := 1) (slots' := 2) (by omega) (by omega) ?_
  have yb1 : κ b1 = 0 := en_b hE zb1 (ne_k k0 zb1 (by omega)).symm
  obtain ⟨κ2, eκ2⟩ : ∃ z, z = hp_kk κ b1 (31) := ⟨_, rfl⟩
  rw [← eκ2] at hZ
  have k3 : κ2 h0 = 33 := by rw [eκ2, hp_kk_n (ne_k k0 zb1 (by omega))]; exact k0
  have k4 : κ2 b1 = 31 := by rw [eκ2]; exact hp_kk_s _ _ _
  have hE : hp_EN (fun n => n = 0 ∨ n = 320 + 12 ∨ n = 340 + 12 ∨ n = 360 + 12) κ κ2 h0 b1 := by rw [eκ2]; exact en_raw hE h0n zb1
  have nu3 : ∀ a, κ2 a ≠ 3 := fun a h => by
    by_cases e9 : a = b1
    · rw [e9, k4] at h; omega
    · rw [eκ2, hp_kk_n e9] at h; exact nu3 a h
  have nu4 : ∀ a, κ2 a ≠ 352 := fun a h => by
    by_cases e9 : a = b1
    · rw [e9, k4] at h; omega
    · rw [eκ2, hp_kk_n e9] at h; exact nu4 a h
  have nu6 : ∀ a, κ2 a ≠ 372 := fun a h => by
    by_cases e9 : a = b1
    · rw [e9, k4] at h; omega
    · rw [eκ2, hp_kk_n e9] at h; exact nu6 a h
  refine lv_dup hx hb dX1_init_8 rfl ?_
  refine hp_callT (va_runI (As := []) (rest := [.ref b1, .ref h0]) ⟨hx, hb, hml, hown, hts⟩ (c_X0_init l dC dI dA κ2 B g b1 k4 12 (by omega) (fun a => ⟨nu4 a, nu6 a⟩)) (cwI 0 hts gX1_init_X0_init rfl rfl rfl (hts (.initialized RX0) (List.mem_of_getElem? (i := 6) rfl)) (hts (.methodLink RX1 11 yX0_init) (List.mem_of_getElem? (i := 8) rfl)) (hts (.instanceMethod yX0_init) (List.mem_of_getElem? (i := 9) rfl)) rfl (by decide +kernel) ⟨Nat.le_of_ble_eq_true rfl, Nat.le_of_ble_eq_true rfl⟩) (hp_preT [.ref b1] hK hN hAO hZ) rfl rfl hl.1 rfl (lv_room (Nat.le_of_ble_eq_true rfl)) dX1_init_9 ⟨(by show 1 + 2 ≤ 3; omega), (by show 2 + 429 ≤ 431; omega)⟩) hZ (fun κ5 H locs hDκ5 hZ => ?_)
  refine W.cs (cells' := 3) (slots' := 431) (by omega) (by omega) ?_
  have k6 : κ5 h0 = 33 := (hDκ5.2.1 h0 (by rw [k3]; omega) (fun h9 => by rw [h9, k4] at k3; omega)).trans k3
  have nu3 : ∀ a, κ5 a ≠ 3 := fun a h => by
    by_cases e9 : a = b1
    · rw [e9, hDκ5.1] at h; omega
    · by_cases hz9 : κ2 a = 0
      · have h8 : (κ5 a) = 0 ∨ (κ5 a) = 340 + 12 ∨ (κ5 a) = 360 + 12 := hDκ5.2.2 a hz9
        omega
      · rw [hDκ5.2.1 a hz9 e9] at h; exact nu3 a h
  have k7 : κ5 b1 = 332 := hDκ5.1
  have hE : hp_EN (fun n => n = 0 ∨ n = 320 + 12 ∨ n = 340 + 12 ∨ n = 360 + 12) κ κ5 h0 h0 := en_call hE yb1 hDκ5 (show (332) = 0 ∨ (332) = 320 + 12 ∨ (332) = 340 + 12 ∨ (332) = 360 + 12 from by omega) (fun n h9 => by have h9 : n = 0 ∨ n = 340 + 12 ∨ n = 360 + 12 := h9; show n = 0 ∨ n = 320 + 12 ∨ n = 340 + 12 ∨ n = 360 + 12; omega)
  refine hp_putv (C := RX1) (T := TX1) (N := 2) (ci := 1) (kd := 33) hx hb hts iX1_init_X1 hown hK hZ.2.2.2.2 k6 (rfl : hk_t 33 = (1, 1, 2)) rfl 0 (by decide) (hts (.fieldLink RX1 12 "NeighborBook$FrameReader" "contents" "LNeighborBook$Contents;") (List.mem_of_getElem? (i := 7) rfl)) (fun _ h9 => h9) tyX1 tyX1_ok nmX1 (v := .ref b1) rfl rfl (by omega) hZ.1 rfl dX1_init_12 (fun F H locs hM hO hS => ?_)
  have hZ := hp_step (k1 := 33) (k2 := 3) hZ.1 hZ.2.1 hZ.2.2.1 (Nat.le_trans hBz hS.1) hM hO hS k6 ((rfl : hk_t 3 = (1, 1, 2)).trans (rfl : hk_t 33 = (1, 1, 2)).symm) (by unfold hk_ok; omega) (by rw [(rfl : hk_t 3 = (1, 1, 2))]; decide) (fun a j hj _ h => by have := hk_sr (hZ.2.2.1 a) h hj; omega) (fun j hj h => by have := hk_sr (kd := 3) (by unfold hk_ok; omega) h hj; omega) ⟨b1, rfl, k7⟩ (fun j hj hl w hw => by
        have hl : j < 2 := by rw [(rfl : hk_t 33 = (1, 1, 2))] at hl; exact hl
        match j, hj, hl, hw with
        | 1, _, _, hw => exact hw
        | 0, hj, _, _ => exact absurd rfl hj) (fun _ => nu3)
  obtain ⟨κ8, eκ8⟩ : ∃ z, z = hp_kk κ5 h0 (3) := ⟨_, rfl⟩
  rw [← eκ8] at hZ
  have k9 : κ8 b1 = 332 := by rw [eκ8, hp_kk_n (fun h9 => by rw [h9, k6] at k7; omega)]; exact k7
  have k10 : κ8 h0 = 3 := by rw [eκ8]; exact hp_kk_s _ _ _
  have hE : hp_EN (fun n => n = 0 ∨ n = 320 + 12 ∨ n = 340 + 12 ∨ n = 360 + 12) κ κ8 h0 h0 := by rw [eκ8]; exact en_step hE h0n
  exact hp_Tret hx hb hK hN hAO hlocks hZ hr (en_D hE h0n k10) dX1_init_15
theorem iX5_init_X5 : ∀ w ∈ wsX50, w ∈ wsX5_init := fun _ h => List.mem_cons_of_mem _ (List.mem_append_right _ h)
set_option maxRecDepth 100000 in
set_option maxHeartbeats 4000000 in
theorem c_X5_init (l : Launch) (dC : Nat → ClassId) (dI : Nat → Nat → Nat) (dA : Nat → ClassId) (κ : Nat → Nat) (B : Nat) (g : Nat → Nat → Int) (h0 : Nat) (k0 : κ h0 = 34) (hg : ∀ a b : Nat, (a = 4 ∧ b = 1) → g a b = 0) (hg2 : g 4 2 = -1) (hu : ∀ a, κ a ≠ 4) : Met l yX5_init wsX5_init ({ frames := 1, cells := 1, slots := 439, locals := 12 } : Room) (hp_PT dC dI dA κ B g [.ref h0]) (hp_QT dC dI dA κ B g h0 (4) (fun n => n = 0 ∨ n = 17)) 1 439 (hp_A B) := by
  refine Met.ofW (cc := cX5_init) (maxL := 1) (ret := none) (by decide) rfl ?_
  intro p e s m args below meth c s₁ Bd hml hv
  obtain ⟨rfl, ⟨hK, hN, hW, hF⟩, hV, hKk, hBz, hAO⟩ := hv
  have hx := Bd.exec
  have hb := Bd.bytes
  have hr := Bd.returns
  have hts := atoms_spec (ws := wsX5_init) Bd.pre
  have hown : s.vm.findClass RX5 = some m.cls := findClass_of_methodNamed Bd.named
  have hlocks := Bd.notSynchronized
  have hin : meth.name = "<init>" := (name_of_methodNamed Bd.named Bd.method).1
  have hZ : hp_Z dC dI dA κ B g s.heap s.heap [] := ⟨hW, hV, hKk, hBz, hF, va_S.rf⟩
  have hl := lv_entry ([Value.ref h0]) (n := 1) (Nat.le_of_ble_eq_true rfl)
  rw [lg_entry_eq]
  generalize (lg_sl ([Value.ref h0]) ++ List.replicate (1 - (lg_sl ([Value.ref h0])).length) Slot.unset).toArray = ls at hl ⊢
  have hl : lv_has ls 1 [(0, .ref h0)] := hl
  have hE : hp_EN (fun n => n = 0 ∨ n = 17) κ κ h0 h0 := en_rf (show 0 = 0 ∨ 0 = 17 from by omega)
  have h0n : κ h0 ≠ 0 := by rw [k0]; omega
  refine lv_aload_n hx hb dX5_init_0 rfl (lv_at hl 0 rfl) ?_
  refine W.objInit hx hb hown (hts (.methodLink RX5 3 objectInit) (List.mem_of_getElem? (i := 1) rfl)) (hts (.instanceMethod objectInit) (List.mem_of_getElem? (i := 2) rfl)) (hts (.code objectInit ⟨#[0xb1]⟩ 1 none) (List.mem_of_getElem? (i := 3) rfl)) rfl (by rw [hml]; exact hl.1) rfl dX5_init_1 (Nat.le_of_ble_eq_true rfl) (Nat.le_of_ble_eq_true rfl) ?_
  refine lv_aload_n hx hb dX5_init_4 rfl (lv_at hl 0 rfl) ?_
  refine hq_sipush hx hb dX5_init_5 (by decide) (fun z1 ez1 => ?_)
  refine hp_newi (atype := .byte) (ty := 1) (N := 439) (kd := 17) hx hb (hts (.arrayClass .byte) (List.mem_of_getElem? (i := 4) rfl)) hK hZ (hK.2 1 _ rfl).2 rfl (by unfold hk_ok; omega) (fun _ k _ => ⟨0, rfl, by decide, by decide⟩) (fun h => absurd h (by decide)) (by omega) (by show 439 * 1 ≤ 536870912; omega) (by show 0 + 1 ≤ 1; omega) (by show 0 + 439 ≤ 439; omega) dX5_init_8 (fun b2 H zb2 hZ => ?_)
  refine W.cs (cells' := 1) (slots' := 439) (by omega) (by omega) ?_
  obtain ⟨κ3, eκ3⟩ : ∃ z, z = hp_kk κ b2 (17) := ⟨_, rfl⟩
  rw [← eκ3] at hZ
  have k4 : κ3 h0 = 34 := by rw [eκ3, hp_kk_n (ne_k k0 zb2 (by omega))]; exact k0
  have k5 : κ3 b2 = 17 := by rw [eκ3]; exact hp_kk_s _ _ _
  have hE : hp_EN (fun n => n = 0 ∨ n = 17) κ κ3 h0 h0 := by rw [eκ3]; exact en_new hE zb2 (show (17) = 0 ∨ (17) = 17 from by omega)
  have hu : ∀ a, κ3 a ≠ 4 := fun a h => by
    by_cases e9 : a = b2
    · rw [e9, k5] at h; omega
    · rw [eκ3, hp_kk_n e9] at h; exact hu a h
  refine hp_putF (C := RX5) (T := TX5) (N := 3) (ci := 5) (kd := 34) hx hb hts iX5_init_X5 hown hK hZ.2.2.2.2 k4 (rfl : hk_t 34 = (1, 5, 3)) rfl 0 (by decide) (hts (.fieldLink RX5 9 "NeighborBook$SentFrame" "bytes" "[B") (List.mem_of_getElem? (i := 5) rfl)) (fun _ h9 => h9) tyX5 tyX5_ok nmX5 (v := .ref b2) rfl rfl (by omega) hZ.1 rfl hin rfl dX5_init_10 (fun F H locs hM hO hS => ?_)
  have hZ := hp_step (k1 := 34) (k2 := 35) hZ.1 hZ.2.1 hZ.2.2.1 (Nat.le_trans hBz hS.1) hM hO hS k4 ((rfl : hk_t 35 = (1, 5, 3)).trans (rfl : hk_t 34 = (1, 5, 3)).symm) (by unfold hk_ok; omega) (by rw [(rfl : hk_t 35 = (1, 5, 3))]; decide) (fun a j hj _ h => by have := hk_sr (hZ.2.2.1 a) h hj; omega) (fun j hj h => by have := hk_sr (kd := 35) (by unfold hk_ok; omega) h hj; omega) ⟨b2, rfl, k5⟩ (fun j hj hl w hw => by
        have hl : j < 3 := by rw [(rfl : hk_t 34 = (1, 5, 3))] at hl; exact hl
        match j, hj, hl, hw with
        | 1, _, _, hw => exact hw
        | 2, _, _, hw => exact hw
        | 0, hj, _, _ => exact absurd rfl hj) (fun h => absurd h (by decide))
  obtain ⟨κ6, eκ6⟩ : ∃ z, z = hp_kk κ3 h0 (35) := ⟨_, rfl⟩
  rw [← eκ6] at hZ
  have k7 : κ6 b2 = 17 := by rw [eκ6, hp_kk_n (fun h9 => by rw [h9, k4] at k5; omega)]; exact k5
  have k8 : κ6 h0 = 35 := by rw [eκ6]; exact hp_kk_s _ _ _
  have hu : ∀ a, κ6 a ≠ 4 := fun a h => by
    by_cases e9 : a = h0
    · rw [e9, k8] at h; omega
    · rw [eκ6, hp_kk_n e9] at h; exact hu a h
  have hE : hp_EN (fun n => n = 0 ∨ n = 17) κ κ6 h0 h0 := by rw [eκ6]; exact en_step hE h0n
  refine lv_aload_n hx hb dX5_init_13 rfl (lv_at hl 0 rfl) ?_
  refine hq_iconst hx hb dX5_init_14 (by decide) (by decide) (fun z9 ez9 => ?_)
  refine hp_putv (C := RX5) (T := TX5) (N := 3) (ci := 5) (kd := 35) hx hb hts iX5_init_X5 hown hK hZ.2.2.2.2 k8 (rfl : hk_t 35 = (1, 5, 3)) rfl 2 (by decide) (hts (.fieldLink RX5 15 "NeighborBook$SentFrame" "port" "I") (List.mem_of_getElem? (i := 6) rfl)) (fun _ h9 => h9) tyX5 tyX5_ok nmX5 (v := .int z9) rfl rfl (by omega) hZ.1 rfl dX5_init_15 (fun F H locs hM hO hS => ?_)
  have hZ := hp_step (k1 := 35) (k2 := 4) hZ.1 hZ.2.1 hZ.2.2.1 (Nat.le_trans hBz hS.1) hM hO hS k8 ((rfl : hk_t 4 = (1, 5, 3)).trans (rfl : hk_t 35 = (1, 5, 3)).symm) (by unfold hk_ok; omega) (by rw [(rfl : hk_t 4 = (1, 5, 3))]; decide) (fun a j hj _ h => by have := hk_sr (hZ.2.2.1 a) h hj; omega) (fun j hj h => by have := hk_sr (kd := 4) (by unfold hk_ok; omega) h hj; omega) ⟨z9, rfl, (show z9.toInt = g 4 2 by rw [hg2]; exact ez9)⟩ (fun j hj hl w hw => by
        have hl : j < 3 := by rw [(rfl : hk_t 35 = (1, 5, 3))] at hl; exact hl
        match j, hj, hl, hw with
        | 0, _, _, hw => exact hw
        | 1, _, _, hw => obtain ⟨x9, hx1, hx2, hx3⟩ := (show ∃ x : Int32, w = .int x ∧ 0 ≤ x.toInt ∧ x.toInt ≤ ((0 : Nat) : Int) from hw); exact ⟨x9, hx1, (show x9.toInt = g 4 1 by rw [hg 4 1 (by decide)]; omega)⟩
        | 2, hj, _, _ => exact absurd rfl hj) (fun _ => hu)
  obtain ⟨κ10, eκ10⟩ : ∃ z, z = hp_kk κ6 h0 (4) := ⟨_, rfl⟩
  rw [← eκ10] at hZ
  have k11 : κ10 b2 = 17 := by rw [eκ10, hp_kk_n (fun h9 => by rw [h9, k8] at k7; omega)]; exact k7
  have k12 : κ10 h0 = 4 := by rw [eκ10]; exact hp_kk_s _ _ _
  have hE : hp_EN (fun n => n = 0 ∨ n = 17) κ κ10 h0 h0 := by rw [eκ10]; exact en_step hE h0n
  exact hp_Tret hx hb hK hN hAO hlocks hZ hr (en_D hE h0n k12) dX5_init_18
set_option maxRecDepth 100000 in
set_option maxHeartbeats 4000000 in
theorem c_X4_init (l : Launch) (dC : Nat → ClassId) (dI : Nat → Nat → Nat) (dA : Nat → ClassId) (κ : Nat → Nat) (B : Nat) (g : Nat → Nat → Int) (h0 kd0 : Nat) (k0 : κ h0 = kd0) (hk0 : kd0 ≠ 0) : Met l yX4_init wsX4_init ({ frames := 1, cells := 0, slots := 0, locals := 12 } : Room) (hp_PT dC dI dA κ B g [.ref h0]) (hp_QT dC dI dA κ B g h0 (kd0) (fun n => n = 0)) 0 0 (hp_A B) := by
  refine Met.ofW (cc := cX4_init) (maxL := 1) (ret := none) (by decide) rfl ?_
  intro p e s m args below meth c s₁ Bd hml hv
  obtain ⟨rfl, ⟨hK, hN, hW, hF⟩, hV, hKk, hBz, hAO⟩ := hv
  have hx := Bd.exec
  have hb := Bd.bytes
  have hr := Bd.returns
  have hts := atoms_spec (ws := wsX4_init) Bd.pre
  have hown : s.vm.findClass RX4 = some m.cls := findClass_of_methodNamed Bd.named
  have hlocks := Bd.notSynchronized
  have hin : meth.name = "<init>" := (name_of_methodNamed Bd.named Bd.method).1
  have hZ : hp_Z dC dI dA κ B g s.heap s.heap [] := ⟨hW, hV, hKk, hBz, hF, va_S.rf⟩
  have hl := lv_entry ([Value.ref h0]) (n := 1) (Nat.le_of_ble_eq_true rfl)
  rw [lg_entry_eq]
  generalize (lg_sl ([Value.ref h0]) ++ List.replicate (1 - (lg_sl ([Value.ref h0])).length) Slot.unset).toArray = ls at hl ⊢
  have hl : lv_has ls 1 [(0, .ref h0)] := hl
  have hE : hp_EN (fun n => n = 0) κ κ h0 h0 := en_rf (show 0 = 0 from by omega)
  have h0n : κ h0 ≠ 0 := by rw [k0]; exact hk0
  refine lv_aload_n hx hb dX4_init_0 rfl (lv_at hl 0 rfl) ?_
  refine W.objInit hx hb hown (hts (.methodLink RX4 3 objectInit) (List.mem_of_getElem? (i := 1) rfl)) (hts (.instanceMethod objectInit) (List.mem_of_getElem? (i := 2) rfl)) (hts (.code objectInit ⟨#[0xb1]⟩ 1 none) (List.mem_of_getElem? (i := 3) rfl)) rfl (by rw [hml]; exact hl.1) rfl dX4_init_1 (Nat.le_of_ble_eq_true rfl) (Nat.le_of_ble_eq_true rfl) ?_
  exact hp_Tret hx hb hK hN hAO hlocks hZ hr (en_D hE h0n k0) dX4_init_4
