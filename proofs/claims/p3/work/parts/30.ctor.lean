theorem iX0_init_X0 : ∀ w ∈ wsX00, w ∈ wsX0_init := fun _ h => List.mem_cons_of_mem _ (List.mem_append_right _ h)
set_option maxRecDepth 100000 in
set_option maxHeartbeats 4000000 in
theorem c_X0_init (l : Launch) (dC : Nat → ClassId) (dI : Nat → Nat → Nat) (dA : Nat → ClassId) (κ : Nat → Nat) (B : Nat) (g : Nat → Nat → Int) (h0 : Nat) (k0 : κ h0 = 31) : Met l yX0_init wsX0_init ({ frames := 2, cells := 2, slots := 429, locals := 43 } : Room) (hp_PT dC dI dA κ B g [.ref h0]) (hp_QT dC dI dA κ B g h0 2) 2 429 (hp_A B) := by
  refine Met.ofW (cc := cX0_init) (maxL := 1) (ret := none) (by decide) rfl ?_
  intro p e s m args below meth c s₁ Bd hml hv
  obtain ⟨rfl, ⟨hK, hN, hW, hF⟩, hV, hKk, hBz, hAO⟩ := hv
  have hx := Bd.exec
  have hb := Bd.bytes
  have hr := Bd.returns
  have hts := atoms_spec (ws := wsX0_init) Bd.pre
  have hown : s.vm.findClass RX0 = some m.cls := findClass_of_methodNamed Bd.named
  have hlocks := Bd.notSynchronized
  have hin : meth.name = "<init>" := (name_of_methodNamed Bd.named Bd.method).1
  have hZ : hp_Z dC dI dA κ B g s.heap s.heap [] := ⟨hW, hV, hKk, hBz, hF, va_S.rf⟩
  have hl := lv_entry ([Value.ref h0]) (n := 1) (Nat.le_of_ble_eq_true rfl)
  rw [lg_entry_eq]
  generalize (lg_sl ([Value.ref h0]) ++ List.replicate (1 - (lg_sl ([Value.ref h0])).length) Slot.unset).toArray = ls at hl ⊢
  have hl : lv_has ls 1 [(0, .ref h0)] := hl
  have hE : hp_EN κ κ h0 h0 := en_rf
  have h0n : κ h0 ≠ 0 := by rw [k0]; decide
  refine lv_aload_n hx hb dX0_init_0 rfl (lv_at hl 0 rfl) ?_
  refine W.objInit hx hb hown (hts (.methodLink RX0 3 objectInit) (List.mem_of_getElem? (i := 1) rfl)) (hts (.instanceMethod objectInit) (List.mem_of_getElem? (i := 2) rfl)) (hts (.code objectInit ⟨#[0xb1]⟩ 1 none) (List.mem_of_getElem? (i := 3) rfl)) rfl (by rw [hml]; exact hl.1) rfl dX0_init_1 (Nat.le_of_ble_eq_true rfl) (Nat.le_of_ble_eq_true rfl) ?_
  refine lv_aload_n hx hb dX0_init_4 rfl (lv_at hl 0 rfl) ?_
  refine hq_bipush hx hb dX0_init_5 (by decide) (fun z1 ez1 => ?_)
  refine hp_newi (atype := .int) (ty := 0) (N := 9) (kd := 13) hx hb (hts (.arrayClass .int) (List.mem_of_getElem? (i := 4) rfl)) hK hZ (hK.2 0 _ rfl).2 rfl (by unfold hk_ok; omega) (fun _ k hk => by rw [hk_s13 hk]; split <;> exact ⟨0, rfl, by decide, by decide⟩) (fun h => absurd h (by decide)) (by omega) (by show 9 * 4 ≤ 536870912; omega) (by show 0 + 1 ≤ 2; omega) (by show 0 + 9 ≤ 429; omega) dX0_init_7 (fun b2 H zb2 hZ => ?_)
  refine W.cs (cells' := 1) (slots' := 9) (by omega) (by omega) ?_
  obtain ⟨κ3, eκ3⟩ : ∃ z, z = hp_kk κ b2 13 := ⟨_, rfl⟩
  rw [← eκ3] at hZ
  have k4 : κ3 h0 = 31 := by rw [eκ3, hp_kk_n (ne_k k0 zb2 (by decide))]; exact k0
  have k5 : κ3 b2 = 13 := by rw [eκ3]; exact hp_kk_s _ _ _
  have hE : hp_EN κ κ3 h0 h0 := by rw [eκ3]; exact en_new hE zb2 (by unfold hk_new; decide)
  refine hp_putF (C := RX0) (T := TX0) (N := 2) (ci := 0) (kd := 31) hx hb hts iX0_init_X0 hown hK hZ.2.2.2.2 k4 rfl rfl 0 (by decide) (hts (.fieldLink RX0 9 "NeighborBook$Contents" "sizes" "[I") (List.mem_of_getElem? (i := 5) rfl)) (fun _ h9 => h9) tyX0 tyX0_ok nmX0 (v := .ref b2) rfl rfl (by decide) hZ.1 rfl hin rfl dX0_init_9 (fun F H locs hM hO hS => ?_)
  have hZ := hp_step (k1 := 31) (k2 := 32) hZ.1 hZ.2.1 hZ.2.2.1 (Nat.le_trans hBz hS.1) hM hO hS k4 rfl (by unfold hk_ok; omega) (by decide) (fun a j hj _ h => by have := hk_sr (hZ.2.2.1 a) h hj; omega) (fun j hj h => by have := hk_sr (kd := 32) (by unfold hk_ok; omega) h hj; omega) ⟨b2, rfl, k5⟩ (fun j hj hl w hw => by
        have hl : j < 2 := hl
        match j, hj, hl with
        | 1, _, _ => exact hw
        | 0, hj, _ => exact absurd rfl hj) (fun h => absurd h (by decide))
  obtain ⟨κ6, eκ6⟩ : ∃ z, z = hp_kk κ3 h0 32 := ⟨_, rfl⟩
  rw [← eκ6] at hZ
  have k7 : κ6 b2 = 13 := by rw [eκ6, hp_kk_n (fun h9 => by rw [h9, k4] at k5; exact absurd k5 (by decide))]; exact k5
  have k8 : κ6 h0 = 32 := by rw [eκ6]; exact hp_kk_s _ _ _
  have hE : hp_EN κ κ6 h0 h0 := by rw [eκ6]; exact en_step hE h0n
  refine lv_aload_n hx hb dX0_init_12 rfl (lv_at hl 0 rfl) ?_
  refine hq_sipush hx hb dX0_init_13 (by decide) (fun z9 ez9 => ?_)
  refine hp_newi (atype := .byte) (ty := 1) (N := 420) (kd := 14) hx hb (hts (.arrayClass .byte) (List.mem_of_getElem? (i := 6) rfl)) hK hZ (hK.2 1 _ rfl).2 rfl (by unfold hk_ok; omega) (fun _ k _ => ⟨0, rfl, by decide, by decide⟩) (fun h => absurd h (by decide)) (by omega) (by show 420 * 1 ≤ 536870912; omega) (by show 1 + 1 ≤ 2; omega) (by show 9 + 420 ≤ 429; omega) dX0_init_16 (fun b10 H zb10 hZ => ?_)
  refine W.cs (cells' := 2) (slots' := 429) (by omega) (by omega) ?_
  obtain ⟨κ11, eκ11⟩ : ∃ z, z = hp_kk κ6 b10 14 := ⟨_, rfl⟩
  rw [← eκ11] at hZ
  have k12 : κ11 h0 = 32 := by rw [eκ11, hp_kk_n (ne_k k8 zb10 (by decide))]; exact k8
  have k13 : κ11 b2 = 13 := by rw [eκ11, hp_kk_n (ne_k k7 zb10 (by decide))]; exact k7
  have k14 : κ11 b10 = 14 := by rw [eκ11]; exact hp_kk_s _ _ _
  have hE : hp_EN κ κ11 h0 h0 := by rw [eκ11]; exact en_new hE zb10 (by unfold hk_new; decide)
  refine hp_putF (C := RX0) (T := TX0) (N := 2) (ci := 0) (kd := 32) hx hb hts iX0_init_X0 hown hK hZ.2.2.2.2 k12 rfl rfl 1 (by decide) (hts (.fieldLink RX0 15 "NeighborBook$Contents" "bytes" "[B") (List.mem_of_getElem? (i := 7) rfl)) (fun _ h9 => h9) tyX0 tyX0_ok nmX0 (v := .ref b10) rfl rfl (by decide) hZ.1 rfl hin rfl dX0_init_18 (fun F H locs hM hO hS => ?_)
  have hZ := hp_step (k1 := 32) (k2 := 2) hZ.1 hZ.2.1 hZ.2.2.1 (Nat.le_trans hBz hS.1) hM hO hS k12 rfl (by unfold hk_ok; omega) (by decide) (fun a j hj _ h => by have := hk_sr (hZ.2.2.1 a) h hj; omega) (fun j hj h => by have := hk_sr (kd := 2) (by unfold hk_ok; omega) h hj; omega) ⟨b10, rfl, k14⟩ (fun j hj hl w hw => by
        have hl : j < 2 := hl
        match j, hj, hl with
        | 0, _, _ => exact hw
        | 1, hj, _ => exact absurd rfl hj) (fun h => absurd h (by decide))
  obtain ⟨κ15, eκ15⟩ : ∃ z, z = hp_kk κ11 h0 2 := ⟨_, rfl⟩
  rw [← eκ15] at hZ
  have k16 : κ15 b2 = 13 := by rw [eκ15, hp_kk_n (fun h9 => by rw [h9, k12] at k13; exact absurd k13 (by decide))]; exact k13
  have k17 : κ15 b10 = 14 := by rw [eκ15, hp_kk_n (fun h9 => by rw [h9, k12] at k14; exact absurd k14 (by decide))]; exact k14
  have k18 : κ15 h0 = 2 := by rw [eκ15]; exact hp_kk_s _ _ _
  have hE : hp_EN κ κ15 h0 h0 := by rw [eκ15]; exact en_step hE h0n
  refine lv_aload_n hx hb dX0_init_21 rfl (lv_at hl 0 rfl) ?_
  refine hp_callv (va_runV (As := []) (rest := []) ⟨hx, hb, hml, hown, hts⟩ (c_X0_clear l dC dI dA κ15 B g h0 k18) (cwV 0 hts gX0_init_X0_clear rfl rfl rfl (by decide +kernel) ⟨Nat.le_of_ble_eq_true rfl, Nat.le_of_ble_eq_true rfl⟩) (hp_preV (q := (RX0, TX0, 2)) [] hK hN hZ.1 hZ.2.2.2.2 k18 rfl rfl) rfl rfl hl.1 rfl (lv_room (Nat.le_of_ble_eq_true rfl)) dX0_init_22 ⟨(by show 2 + 0 ≤ 2; omega), (by show 429 + 0 ≤ 429; omega)⟩) hZ.2.2.2.2 (fun g9 H locs hp hJ => ?_)
  subst hp
  have hZ := (⟨hZ.1, hZ.2.1, hZ.2.2.1, Nat.le_trans hBz hJ.2.1, hJ⟩ : hp_Z dC dI dA _ B g s.heap H locs)
  exact hp_Tret hx hb hK hN hAO hlocks hZ hr (en_D hE h0n k18) dX0_init_25
