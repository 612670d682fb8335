theorem iX6_about_X6 : ∀ w ∈ wsX60, w ∈ wsX6_about := fun _ h => List.mem_cons_of_mem _ (List.mem_append_left _ (List.mem_append_left _ (List.mem_append_left _ (List.mem_append_right _ h))))
theorem iX6_about_X3 : ∀ w ∈ wsX30, w ∈ wsX6_about := fun _ h => List.mem_cons_of_mem _ (List.mem_append_left _ (List.mem_append_left _ (List.mem_append_right _ h)))
theorem iX6_about_X2 : ∀ w ∈ wsX20, w ∈ wsX6_about := fun _ h => List.mem_cons_of_mem _ (List.mem_append_left _ (List.mem_append_right _ h))
theorem iX6_about_X4 : ∀ w ∈ wsX40, w ∈ wsX6_about := fun _ h => List.mem_cons_of_mem _ (List.mem_append_right _ h)
set_option maxRecDepth 100000 in
set_option maxHeartbeats 4000000 in
theorem e_X6_about (l : Launch) (dC : Nat → ClassId) (dI : Nat → Nat → Nat) (dA : Nat → ClassId) (κ : Nat → Nat) (B : Nat) (g : Nat → Nat → Int) (h0 : Nat) (k0 : κ h0 = 1) (p1 : Int32) (what : Int32) : Met l yX6_about wsX6_about ({ frames := 2, cells := 0, slots := 0, locals := 43 } : Room) (he_Pre dC dI dA κ B g [Value.ref h0, Value.int p1, Value.int what]) (he_Qi dC dI dA κ B (fun r u => g = u)) 0 0 (hp_A B) := by
  refine Met.ofW (cc := cX6_about) (maxL := 3) (ret := (some .int)) (by decide) rfl ?_
  intro p e s m args below meth c s₁ Bd hml hv
  obtain ⟨rfl, hK, hN, hW, hF⟩ := hv
  have hx := Bd.exec
  have hb := Bd.bytes
  have hr := Bd.returns
  have hts := atoms_spec (ws := wsX6_about) Bd.pre
  have hown : s.vm.findClass RX6 = some m.cls := findClass_of_methodNamed Bd.named
  have hlocks := Bd.notSynchronized
  have hJ : he_J dC dI dA κ B g s.heap s.heap [] := ⟨hF, va_S.rf⟩
  have hl := lv_entry ([Value.ref h0, Value.int p1, Value.int what]) (n := 3) (Nat.le_of_ble_eq_true rfl)
  rw [lg_entry_eq]
  generalize (lg_sl ([Value.ref h0, Value.int p1, Value.int what]) ++ List.replicate (3 - (lg_sl ([Value.ref h0, Value.int p1, Value.int what])).length) Slot.unset).toArray = ls at hl ⊢
  have hl : lv_has ls 3 [(0, .ref h0), (1, .int p1), (2, .int what)] := hl
  refine lv_iload_n hx hb dX6_about_0 rfl (lv_at hl 1 rfl) ?_
  refine he_calli (va_runS (As := [.int p1]) (rest := []) ⟨hx, hb, hml, hown, hts⟩ (e_X6_isPort l dC dI dA κ B g p1) (va_cwS 1 hts gX6_about_X6_isPort rfl rfl rfl (by decide +kernel) ⟨Nat.le_of_ble_eq_true rfl, Nat.le_of_ble_eq_true rfl⟩) (he_preS [.int p1] hK hN hW hJ) rfl rfl hl.1 rfl (lv_room (Nat.le_of_ble_eq_true rfl)) dX6_about_1 ⟨Nat.zero_le _, Nat.zero_le _⟩) hJ (fun x2 g1 H locs hp hJ => ?_)
  obtain ⟨rfl, f3⟩ := hp
  refine hq_if_ne (tgt := 9) hx hb dX6_about_4 (by decide) (fun c4 => ?_) (fun c4 => ?_)
  · refine lv_iload_n hx hb dX6_about_9 rfl (lv_at hl 2 rfl) ?_
    refine hq_iconst hx hb dX6_about_10 (by decide) (by decide) (fun z5 ez5 => ?_)
    refine hq_icmp_ne (tgt := 23) hx hb dX6_about_11 (by decide) (fun c6 => ?_) (fun c6 => ?_)
    · refine lv_aload_n hx hb dX6_about_23 rfl (lv_at hl 0 rfl) ?_
      refine he_getr (C := RX6) (T := TX6) (N := 12) (ci := 6) (kd := 1) hx hb hts iX6_about_X6 hown hK hJ k0 rfl rfl 3 (by decide) (hts (.fieldLink RX6 22 "NeighborBook" "ports" "[LNeighborBook$Port;") (List.mem_of_getElem? (i := 2) rfl)) (fun _ h9 => h9) rfl dX6_about_24 (fun b7 kb7 => ?_)
      refine lv_iload_n hx hb dX6_about_27 rfl (lv_at hl 1 rfl) ?_
      refine he_aald3 (kd := 15) (n := 4) hx hb hK hJ kb7 rfl (by omega) (by omega) (he_s15 (by omega)) dX6_about_28 (fun b8 kb8 => ?_)
      refine lv_iload_n hx hb dX6_about_29 rfl (lv_at hl 2 rfl) ?_
      refine he_calli (va_runV (As := [.int what]) (rest := []) ⟨hx, hb, hml, hown, hts⟩ (e_X4_tellAbout l dC dI dA κ B g (p1.toInt.toNat) (by omega) b8 kb8 what) (cwV 1 hts gX6_about_X4_tellAbout rfl rfl rfl (by decide +kernel) ⟨Nat.le_of_ble_eq_true rfl, Nat.le_of_ble_eq_true rfl⟩) (he_preV (q := (RX4, TX4, 6)) [.int what] hK hN hW hJ kb8 (hk_t5 (by omega)) rfl) rfl rfl hl.1 rfl (lv_room (Nat.le_of_ble_eq_true rfl)) dX6_about_30 ⟨Nat.zero_le _, Nat.zero_le _⟩) hJ (fun x10 g9 H locs hp hJ => ?_)
      subst hp
      exact he_iret hx hb hK hN hW hlocks hJ hr rfl dX6_about_33
    · refine lv_aload_n hx hb dX6_about_14 rfl (lv_at hl 0 rfl) ?_
      refine he_getr (C := RX6) (T := TX6) (N := 12) (ci := 6) (kd := 1) hx hb hts iX6_about_X6 hown hK hJ k0 rfl rfl 4 (by decide) (hts (.fieldLink RX6 29 "NeighborBook" "known" "LNeighborBook$Neighbors;") (List.mem_of_getElem? (i := 1) rfl)) (fun _ h9 => h9) rfl dX6_about_15 (fun b11 kb11 => ?_)
      refine lv_iload_n hx hb dX6_about_18 rfl (lv_at hl 1 rfl) ?_
      refine he_calli (va_runV (As := [.int p1]) (rest := []) ⟨hx, hb, hml, hown, hts⟩ (e_X3_sizeAt l dC dI dA κ B g b11 kb11 p1) (cwV 1 hts gX6_about_X3_sizeAt rfl rfl rfl (by decide +kernel) ⟨Nat.le_of_ble_eq_true rfl, Nat.le_of_ble_eq_true rfl⟩) (he_preV (q := (RX3, TX3, 2)) [.int p1] hK hN hW hJ kb11 rfl rfl) rfl rfl hl.1 rfl (lv_room (Nat.le_of_ble_eq_true rfl)) dX6_about_19 ⟨Nat.zero_le _, Nat.zero_le _⟩) hJ (fun x13 g12 H locs hp hJ => ?_)
      subst hp
      exact he_iret hx hb hK hN hW hlocks hJ hr rfl dX6_about_22
  · refine hq_iconst hx hb dX6_about_7 (by decide) (by decide) (fun z14 ez14 => ?_)
    exact he_iret hx hb hK hN hW hlocks hJ hr rfl dX6_about_8
theorem iX6_count_X6 : ∀ w ∈ wsX60, w ∈ wsX6_count := fun _ h => List.mem_cons_of_mem _ (List.mem_append_left _ (List.mem_append_left _ (List.mem_append_right _ h)))
theorem iX6_count_X3 : ∀ w ∈ wsX30, w ∈ wsX6_count := fun _ h => List.mem_cons_of_mem _ (List.mem_append_left _ (List.mem_append_right _ h))
theorem iX6_count_X5 : ∀ w ∈ wsX50, w ∈ wsX6_count := fun _ h => List.mem_cons_of_mem _ (List.mem_append_right _ h)
set_option maxRecDepth 100000 in
set_option maxHeartbeats 4000000 in
theorem e_X6_count (l : Launch) (dC : Nat → ClassId) (dI : Nat → Nat → Nat) (dA : Nat → ClassId) (κ : Nat → Nat) (B : Nat) (g : Nat → Nat → Int) (h0 : Nat) (k0 : κ h0 = 1) (what : Int32) : Met l yX6_count wsX6_count ({ frames := 1, cells := 0, slots := 0, locals := 20 } : Room) (he_Pre dC dI dA κ B g [Value.ref h0, Value.int what]) (he_Qi dC dI dA κ B (fun r u => g = u)) 0 0 (hp_A B) := by
  refine Met.ofW (cc := cX6_count) (maxL := 2) (ret := (some .int)) (by decide) rfl ?_
  intro p e s m args below meth c s₁ Bd hml hv
  obtain ⟨rfl, hK, hN, hW, hF⟩ := hv
  have hx := Bd.exec
  have hb := Bd.bytes
  have hr := Bd.returns
  have hts := atoms_spec (ws := wsX6_count) Bd.pre
  have hown : s.vm.findClass RX6 = some m.cls := findClass_of_methodNamed Bd.named
  have hlocks := Bd.notSynchronized
  have hJ : he_J dC dI dA κ B g s.heap s.heap [] := ⟨hF, va_S.rf⟩
  have hl := lv_entry ([Value.ref h0, Value.int what]) (n := 2) (Nat.le_of_ble_eq_true rfl)
  rw [lg_entry_eq]
  generalize (lg_sl ([Value.ref h0, Value.int what]) ++ List.replicate (2 - (lg_sl ([Value.ref h0, Value.int what])).length) Slot.unset).toArray = ls at hl ⊢
  have hl : lv_has ls 2 [(0, .ref h0), (1, .int what)] := hl
  refine lv_iload_n hx hb dX6_count_0 rfl (lv_at hl 1 rfl) ?_
  have h1 : (what.toInt < 0 ∨ 5 < what.toInt) ∨ what.toInt = 0 ∨ what.toInt = 1 ∨ what.toInt = 2 ∨ what.toInt = 3 ∨ what.toInt = 4 ∨ what.toInt = 5 := by omega
  rcases h1 with h1 | h1 | h1 | h1 | h1 | h1 | h1
  · refine lv_tableOut (tgt := 79) hx hb dX6_count_1 h1 (by decide) ?_
    refine hq_iconst hx hb dX6_count_79 (by decide) (by decide) (fun z2 ez2 => ?_)
    exact he_iret hx hb hK hN hW hlocks hJ hr rfl dX6_count_80
  · refine lv_tableIn (off := 39) (tgt := 40) hx hb dX6_count_1 (by omega) (by omega) (by rw [h1]; rfl) (by decide) ?_
    refine lv_aload_n hx hb dX6_count_40 rfl (lv_at hl 0 rfl) ?_
    refine he_getr (C := RX6) (T := TX6) (N := 12) (ci := 6) (kd := 1) hx hb hts iX6_count_X6 hown hK hJ k0 rfl rfl 4 (by decide) (hts (.fieldLink RX6 29 "NeighborBook" "known" "LNeighborBook$Neighbors;") (List.mem_of_getElem? (i := 1) rfl)) (fun _ h9 => h9) rfl dX6_count_41 (fun b3 kb3 => ?_)
    refine he_calli (va_runV (As := []) (rest := []) ⟨hx, hb, hml, hown, hts⟩ (e_X3_size l dC dI dA κ B g b3 kb3) (cwV 0 hts gX6_count_X3_size rfl rfl rfl (by decide +kernel) ⟨Nat.le_of_ble_eq_true rfl, Nat.le_of_ble_eq_true rfl⟩) (he_preV (q := (RX3, TX3, 2)) [] hK hN hW hJ kb3 rfl rfl) rfl rfl hl.1 rfl (lv_room (Nat.le_of_ble_eq_true rfl)) dX6_count_44 ⟨Nat.zero_le _, Nat.zero_le _⟩) hJ (fun x5 g4 H locs hp hJ => ?_)
    obtain ⟨rfl, f6⟩ := hp
    exact he_iret hx hb hK hN hW hlocks hJ hr rfl dX6_count_47
  · refine lv_tableIn (off := 47) (tgt := 48) hx hb dX6_count_1 (by omega) (by omega) (by rw [h1]; rfl) (by decide) ?_
    refine lv_aload_n hx hb dX6_count_48 rfl (lv_at hl 0 rfl) ?_
    refine he_geti (C := RX6) (T := TX6) (N := 12) (ci := 6) (kd := 1) hx hb hts iX6_count_X6 hown hK hJ k0 rfl rfl 10 (by decide) (hts (.fieldLink RX6 115 "NeighborBook" "ticks" "I") (List.mem_of_getElem? (i := 2) rfl)) (fun _ h9 => h9) rfl rfl dX6_count_49 (fun x7 ex7 => ?_)
    have ex7 : x7.toInt = g 1 10 := ex7
    exact he_iret hx hb hK hN hW hlocks hJ hr rfl dX6_count_52
  · refine lv_tableIn (off := 52) (tgt := 53) hx hb dX6_count_1 (by omega) (by omega) (by rw [h1]; rfl) (by decide) ?_
    refine lv_aload_n hx hb dX6_count_53 rfl (lv_at hl 0 rfl) ?_
    refine he_geti (C := RX6) (T := TX6) (N := 12) (ci := 6) (kd := 1) hx hb hts iX6_count_X6 hown hK hJ k0 rfl rfl 11 (by decide) (hts (.fieldLink RX6 112 "NeighborBook" "latestFault" "I") (List.mem_of_getElem? (i := 3) rfl)) (fun _ h9 => h9) rfl rfl dX6_count_54 (fun x8 ex8 => ?_)
    have ex8 : x8.toInt = g 1 11 := ex8
    exact he_iret hx hb hK hN hW hlocks hJ hr rfl dX6_count_57
  · refine lv_tableIn (off := 57) (tgt := 58) hx hb dX6_count_1 (by omega) (by omega) (by rw [h1]; rfl) (by decide) ?_
    refine lv_aload_n hx hb dX6_count_58 rfl (lv_at hl 0 rfl) ?_
    refine he_geti (C := RX6) (T := TX6) (N := 12) (ci := 6) (kd := 1) hx hb hts iX6_count_X6 hown hK hJ k0 rfl rfl 1 (by decide) (hts (.fieldLink RX6 65 "NeighborBook" "typedCount" "I") (List.mem_of_getElem? (i := 4) rfl)) (fun _ h9 => h9) rfl rfl dX6_count_59 (fun x9 ex9 => ?_)
    have ex9 : x9.toInt = g 1 1 ∧ 0 ≤ x9.toInt ∧ x9.toInt ≤ 700 := ex9
    exact he_iret hx hb hK hN hW hlocks hJ hr rfl dX6_count_62
  · refine lv_tableIn (off := 62) (tgt := 63) hx hb dX6_count_1 (by omega) (by omega) (by rw [h1]; rfl) (by decide) ?_
    refine lv_aload_n hx hb dX6_count_63 rfl (lv_at hl 0 rfl) ?_
    refine he_getr (C := RX6) (T := TX6) (N := 12) (ci := 6) (kd := 1) hx hb hts iX6_count_X6 hown hK hJ k0 rfl rfl 6 (by decide) (hts (.fieldLink RX6 43 "NeighborBook" "latest" "LNeighborBook$SentFrame;") (List.mem_of_getElem? (i := 5) rfl)) (fun _ h9 => h9) rfl dX6_count_64 (fun b10 kb10 => ?_)
    refine he_calli (va_runV (As := []) (rest := []) ⟨hx, hb, hml, hown, hts⟩ (e_X5_portOf l dC dI dA κ B g b10 kb10) (cwV 0 hts gX6_count_X5_portOf rfl rfl rfl (by decide +kernel) ⟨Nat.le_of_ble_eq_true rfl, Nat.le_of_ble_eq_true rfl⟩) (he_preV (q := (RX5, TX5, 3)) [] hK hN hW hJ kb10 rfl rfl) rfl rfl hl.1 rfl (lv_room (Nat.le_of_ble_eq_true rfl)) dX6_count_67 ⟨Nat.zero_le _, Nat.zero_le _⟩) hJ (fun x12 g11 H locs hp hJ => ?_)
    subst hp
    exact he_iret hx hb hK hN hW hlocks hJ hr rfl dX6_count_70
  · refine lv_tableIn (off := 70) (tgt := 71) hx hb dX6_count_1 (by omega) (by omega) (by rw [h1]; rfl) (by decide) ?_
    refine lv_aload_n hx hb dX6_count_71 rfl (lv_at hl 0 rfl) ?_
    refine he_getr (C := RX6) (T := TX6) (N := 12) (ci := 6) (kd := 1) hx hb hts iX6_count_X6 hown hK hJ k0 rfl rfl 6 (by decide) (hts (.fieldLink RX6 43 "NeighborBook" "latest" "LNeighborBook$SentFrame;") (List.mem_of_getElem? (i := 5) rfl)) (fun _ h9 => h9) rfl dX6_count_72 (fun b13 kb13 => ?_)
    refine he_calli (va_runV (As := []) (rest := []) ⟨hx, hb, hml, hown, hts⟩ (e_X5_length l dC dI dA κ B g b13 kb13) (cwV 0 hts gX6_count_X5_length rfl rfl rfl (by decide +kernel) ⟨Nat.le_of_ble_eq_true rfl, Nat.le_of_ble_eq_true rfl⟩) (he_preV (q := (RX5, TX5, 3)) [] hK hN hW hJ kb13 rfl rfl) rfl rfl hl.1 rfl (lv_room (Nat.le_of_ble_eq_true rfl)) dX6_count_75 ⟨Nat.zero_le _, Nat.zero_le _⟩) hJ (fun x15 g14 H locs hp hJ => ?_)
    subst hp
    exact he_iret hx hb hK hN hW hlocks hJ hr rfl dX6_count_78
theorem iX6_sent_X6 : ∀ w ∈ wsX60, w ∈ wsX6_sent := fun _ h => List.mem_cons_of_mem _ (List.mem_append_left _ (List.mem_append_right _ h))
theorem iX6_sent_X5 : ∀ w ∈ wsX50, w ∈ wsX6_sent := fun _ h => List.mem_cons_of_mem _ (List.mem_append_right _ h)
set_option maxRecDepth 100000 in
set_option maxHeartbeats 4000000 in
theorem e_X6_sent (l : Launch) (dC : Nat → ClassId) (dI : Nat → Nat → Nat) (dA : Nat → ClassId) (κ : Nat → Nat) (B : Nat) (g : Nat → Nat → Int) (h0 : Nat) (k0 : κ h0 = 1) (k : Int32) : Met l yX6_sent wsX6_sent ({ frames := 1, cells := 0, slots := 0, locals := 21 } : Room) (he_Pre dC dI dA κ B g [Value.ref h0, Value.int k]) (he_Qi dC dI dA κ B (fun r u => g = u)) 0 0 (hp_A B) := by
  refine Met.ofW (cc := cX6_sent) (maxL := 2) (ret := (some .int)) (by decide) rfl ?_
  intro p e s m args below meth c s₁ Bd hml hv
  obtain ⟨rfl, hK, hN, hW, hF⟩ := hv
  have hx := Bd.exec
  have hb := Bd.bytes
  have hr := Bd.returns
  have hts := atoms_spec (ws := wsX6_sent) Bd.pre
  have hown : s.vm.findClass RX6 = some m.cls := findClass_of_methodNamed Bd.named
  have hlocks := Bd.notSynchronized
  have hJ : he_J dC dI dA κ B g s.heap s.heap [] := ⟨hF, va_S.rf⟩
  have hl := lv_entry ([Value.ref h0, Value.int k]) (n := 2) (Nat.le_of_ble_eq_true rfl)
  rw [lg_entry_eq]
  generalize (lg_sl ([Value.ref h0, Value.int k]) ++ List.replicate (2 - (lg_sl ([Value.ref h0, Value.int k])).length) Slot.unset).toArray = ls at hl ⊢
  have hl : lv_has ls 2 [(0, .ref h0), (1, .int k)] := hl
  refine lv_aload_n hx hb dX6_sent_0 rfl (lv_at hl 0 rfl) ?_
  refine he_getr (C := RX6) (T := TX6) (N := 12) (ci := 6) (kd := 1) hx hb hts iX6_sent_X6 hown hK hJ k0 rfl rfl 6 (by decide) (hts (.fieldLink RX6 43 "NeighborBook" "latest" "LNeighborBook$SentFrame;") (List.mem_of_getElem? (i := 1) rfl)) (fun _ h9 => h9) rfl dX6_sent_1 (fun b1 kb1 => ?_)
  refine lv_iload_n hx hb dX6_sent_4 rfl (lv_at hl 1 rfl) ?_
  refine he_calli (va_runV (As := [.int k]) (rest := []) ⟨hx, hb, hml, hown, hts⟩ (e_X5_byteAt l dC dI dA κ B g b1 kb1 k) (cwV 1 hts gX6_sent_X5_byteAt rfl rfl rfl (by decide +kernel) ⟨Nat.le_of_ble_eq_true rfl, Nat.le_of_ble_eq_true rfl⟩) (he_preV (q := (RX5, TX5, 3)) [.int k] hK hN hW hJ kb1 rfl rfl) rfl rfl hl.1 rfl (lv_room (Nat.le_of_ble_eq_true rfl)) dX6_sent_5 ⟨Nat.zero_le _, Nat.zero_le _⟩) hJ (fun x3 g2 H locs hp hJ => ?_)
  subst hp
  exact he_iret hx hb hK hN hW hlocks hJ hr rfl dX6_sent_8
theorem iX6_neighbor_X6 : ∀ w ∈ wsX60, w ∈ wsX6_neighbor := fun _ h => List.mem_cons_of_mem _ (List.mem_append_left _ (List.mem_append_left _ (List.mem_append_left _ (List.mem_append_right _ h))))
theorem iX6_neighbor_X3 : ∀ w ∈ wsX30, w ∈ wsX6_neighbor := fun _ h => List.mem_cons_of_mem _ (List.mem_append_left _ (List.mem_append_left _ (List.mem_append_right _ h)))
theorem iX6_neighbor_X2 : ∀ w ∈ wsX20, w ∈ wsX6_neighbor := fun _ h => List.mem_cons_of_mem _ (List.mem_append_left _ (List.mem_append_right _ h))
theorem iX6_neighbor_X0 : ∀ w ∈ wsX00, w ∈ wsX6_neighbor := fun _ h => List.mem_cons_of_mem _ (List.mem_append_right _ h)
set_option maxRecDepth 100000 in
set_option maxHeartbeats 4000000 in
theorem e_X6_neighbor (l : Launch) (dC : Nat → ClassId) (dI : Nat → Nat → Nat) (dA : Nat → ClassId) (κ : Nat → Nat) (B : Nat) (g : Nat → Nat → Int) (h0 : Nat) (k0 : κ h0 = 1) (i : Int32) (what : Int32) : Met l yX6_neighbor wsX6_neighbor ({ frames := 4, cells := 0, slots := 0, locals := 85 } : Room) (he_Pre dC dI dA κ B g [Value.ref h0, Value.int i, Value.int what]) (he_Qi dC dI dA κ B (fun r u => g = u)) 0 0 (hp_A B) := by
  refine Met.ofW (cc := cX6_neighbor) (maxL := 3) (ret := (some .int)) (by decide) rfl ?_
  intro p e s m args below meth c s₁ Bd hml hv
  obtain ⟨rfl, hK, hN, hW, hF⟩ := hv
  have hx := Bd.exec
  have hb := Bd.bytes
  have hr := Bd.returns
  have hts := atoms_spec (ws := wsX6_neighbor) Bd.pre
  have hown : s.vm.findClass RX6 = some m.cls := findClass_of_methodNamed Bd.named
  have hlocks := Bd.notSynchronized
  have hJ : he_J dC dI dA κ B g s.heap s.heap [] := ⟨hF, va_S.rf⟩
  have hl := lv_entry ([Value.ref h0, Value.int i, Value.int what]) (n := 3) (Nat.le_of_ble_eq_true rfl)
  rw [lg_entry_eq]
  generalize (lg_sl ([Value.ref h0, Value.int i, Value.int what]) ++ List.replicate (3 - (lg_sl ([Value.ref h0, Value.int i, Value.int what])).length) Slot.unset).toArray = ls at hl ⊢
  have hl : lv_has ls 3 [(0, .ref h0), (1, .int i), (2, .int what)] := hl
  refine lv_aload_n hx hb dX6_neighbor_0 rfl (lv_at hl 0 rfl) ?_
  refine he_getr (C := RX6) (T := TX6) (N := 12) (ci := 6) (kd := 1) hx hb hts iX6_neighbor_X6 hown hK hJ k0 rfl rfl 4 (by decide) (hts (.fieldLink RX6 29 "NeighborBook" "known" "LNeighborBook$Neighbors;") (List.mem_of_getElem? (i := 1) rfl)) (fun _ h9 => h9) rfl dX6_neighbor_1 (fun b1 kb1 => ?_)
  refine lv_iload_n hx hb dX6_neighbor_4 rfl (lv_at hl 1 rfl) ?_
  refine he_calli (va_runV (As := [.int i]) (rest := []) ⟨hx, hb, hml, hown, hts⟩ (e_X3_has l dC dI dA κ B g b1 kb1 i) (cwV 1 hts gX6_neighbor_X3_has rfl rfl rfl (by decide +kernel) ⟨Nat.le_of_ble_eq_true rfl, Nat.le_of_ble_eq_true rfl⟩) (he_preV (q := (RX3, TX3, 2)) [.int i] hK hN hW hJ kb1 rfl rfl) rfl rfl hl.1 rfl (lv_room (Nat.le_of_ble_eq_true rfl)) dX6_neighbor_5 ⟨Nat.zero_le _, Nat.zero_le _⟩) hJ (fun x3 g2 H locs hp hJ => ?_)
  obtain ⟨rfl, f4⟩ := hp
  refine hq_if_ne (tgt := 13) hx hb dX6_neighbor_8 (by decide) (fun c5 => ?_) (fun c5 => ?_)
  · refine lv_aload_n hx hb dX6_neighbor_13 rfl (lv_at hl 0 rfl) ?_
    refine he_getr (C := RX6) (T := TX6) (N := 12) (ci := 6) (kd := 1) hx hb hts iX6_neighbor_X6 hown hK hJ k0 rfl rfl 4 (by decide) (hts (.fieldLink RX6 29 "NeighborBook" "known" "LNeighborBook$Neighbors;") (List.mem_of_getElem? (i := 1) rfl)) (fun _ h9 => h9) rfl dX6_neighbor_14 (fun b6 kb6 => ?_)
    refine lv_iload_n hx hb dX6_neighbor_17 rfl (lv_at hl 1 rfl) ?_
    refine he_callr (va_runV (As := [.int i]) (rest := []) ⟨hx, hb, hml, hown, hts⟩ (e_X3_at l dC dI dA κ B g b6 kb6 i (by omega) (by omega)) (cwV 1 hts gX6_neighbor_X3_at rfl rfl rfl (by decide +kernel) ⟨Nat.le_of_ble_eq_true rfl, Nat.le_of_ble_eq_true rfl⟩) (he_preV (q := (RX3, TX3, 2)) [.int i] hK hN hW hJ kb6 rfl rfl) rfl rfl hl.1 rfl (lv_room (Nat.le_of_ble_eq_true rfl)) dX6_neighbor_18 ⟨Nat.zero_le _, Nat.zero_le _⟩) hJ (fun b8 g7 H locs kb8 hp hJ => ?_)
    obtain ⟨rfl, f10⟩ := hp
    obtain ⟨j9, hj9, ej9⟩ : ∃ j9 : Nat, j9 < 12 ∧ (g 16 i.toInt.toNat) = 300 + (j9 : Int) := ⟨((g 16 i.toInt.toNat) - 300).toNat, by omega, by omega⟩
    have kb8 : κ b8 = 300 + j9 := by rw [kb8]; omega
    refine lv_iload_n hx hb dX6_neighbor_21 rfl (lv_at hl 2 rfl) ?_
    refine he_calli (va_runV (As := [.int what]) (rest := []) ⟨hx, hb, hml, hown, hts⟩ (e_X2_tellAbout l dC dI dA κ B g (j9) (by omega) b8 kb8 what) (cwV 1 hts gX6_neighbor_X2_tellAbout rfl rfl rfl (by decide +kernel) ⟨Nat.le_of_ble_eq_true rfl, Nat.le_of_ble_eq_true rfl⟩) (he_preV (q := (RX2, TX2, 4)) [.int what] hK hN hW hJ kb8 (hk_t300 (by omega)) rfl) rfl rfl hl.1 rfl (lv_room (Nat.le_of_ble_eq_true rfl)) dX6_neighbor_22 ⟨Nat.zero_le _, Nat.zero_le _⟩) hJ (fun x12 g11 H locs hp hJ => ?_)
    subst hp
    exact he_iret hx hb hK hN hW hlocks hJ hr rfl dX6_neighbor_25
  · refine hq_iconst hx hb dX6_neighbor_11 (by decide) (by decide) (fun z13 ez13 => ?_)
    exact he_iret hx hb hK hN hW hlocks hJ hr rfl dX6_neighbor_12
theorem iX6_content_X6 : ∀ w ∈ wsX60, w ∈ wsX6_content := fun _ h => List.mem_cons_of_mem _ (List.mem_append_left _ (List.mem_append_left _ (List.mem_append_left _ (List.mem_append_right _ h))))
theorem iX6_content_X3 : ∀ w ∈ wsX30, w ∈ wsX6_content := fun _ h => List.mem_cons_of_mem _ (List.mem_append_left _ (List.mem_append_left _ (List.mem_append_right _ h)))
theorem iX6_content_X2 : ∀ w ∈ wsX20, w ∈ wsX6_content := fun _ h => List.mem_cons_of_mem _ (List.mem_append_left _ (List.mem_append_right _ h))
theorem iX6_content_X0 : ∀ w ∈ wsX00, w ∈ wsX6_content := fun _ h => List.mem_cons_of_mem _ (List.mem_append_right _ h)
set_option maxRecDepth 100000 in
set_option maxHeartbeats 4000000 in
theorem e_X6_content (l : Launch) (dC : Nat → ClassId) (dI : Nat → Nat → Nat) (dA : Nat → ClassId) (κ : Nat → Nat) (B : Nat) (g : Nat → Nat → Int) (h0 : Nat) (k0 : κ h0 = 1) (i : Int32) (type : Int32) (k : Int32) : Met l yX6_content wsX6_content ({ frames := 2, cells := 0, slots := 0, locals := 43 } : Room) (he_Pre dC dI dA κ B g [Value.ref h0, Value.int i, Value.int type, Value.int k]) (he_Qi dC dI dA κ B (fun r u => g = u)) 0 0 (hp_A B) := by
  refine Met.ofW (cc := cX6_content) (maxL := 5) (ret := (some .int)) (by decide) rfl ?_
  intro p e s m args below meth c s₁ Bd hml hv
  obtain ⟨rfl, hK, hN, hW, hF⟩ := hv
  have hx := Bd.exec
  have hb := Bd.bytes
  have hr := Bd.returns
  have hts := atoms_spec (ws := wsX6_content) Bd.pre
  have hown : s.vm.findClass RX6 = some m.cls := findClass_of_methodNamed Bd.named
  have hlocks := Bd.notSynchronized
  have hJ : he_J dC dI dA κ B g s.heap s.heap [] := ⟨hF, va_S.rf⟩
  have hl := lv_entry ([Value.ref h0, Value.int i, Value.int type, Value.int k]) (n := 5) (Nat.le_of_ble_eq_true rfl)
  rw [lg_entry_eq]
  generalize (lg_sl ([Value.ref h0, Value.int i, Value.int type, Value.int k]) ++ List.replicate (5 - (lg_sl ([Value.ref h0, Value.int i, Value.int type, Value.int k])).length) Slot.unset).toArray = ls at hl ⊢
  have hl : lv_has ls 5 [(0, .ref h0), (1, .int i), (2, .int type), (3, .int k)] := hl
  refine lv_aload_n hx hb dX6_content_0 rfl (lv_at hl 0 rfl) ?_
  refine he_getr (C := RX6) (T := TX6) (N := 12) (ci := 6) (kd := 1) hx hb hts iX6_content_X6 hown hK hJ k0 rfl rfl 4 (by decide) (hts (.fieldLink RX6 29 "NeighborBook" "known" "LNeighborBook$Neighbors;") (List.mem_of_getElem? (i := 1) rfl)) (fun _ h9 => h9) rfl dX6_content_1 (fun b1 kb1 => ?_)
  refine lv_iload_n hx hb dX6_content_4 rfl (lv_at hl 1 rfl) ?_
  refine he_calli (va_runV (As := [.int i]) (rest := []) ⟨hx, hb, hml, hown, hts⟩ (e_X3_has l dC dI dA κ B g b1 kb1 i) (cwV 1 hts gX6_content_X3_has rfl rfl rfl (by decide +kernel) ⟨Nat.le_of_ble_eq_true rfl, Nat.le_of_ble_eq_true rfl⟩) (he_preV (q := (RX3, TX3, 2)) [.int i] hK hN hW hJ kb1 rfl rfl) rfl rfl hl.1 rfl (lv_room (Nat.le_of_ble_eq_true rfl)) dX6_content_5 ⟨Nat.zero_le _, Nat.zero_le _⟩) hJ (fun x3 g2 H locs hp hJ => ?_)
  obtain ⟨rfl, f4⟩ := hp
  refine hq_if_ne (tgt := 13) hx hb dX6_content_8 (by decide) (fun c5 => ?_) (fun c5 => ?_)
  · refine lv_aload_n hx hb dX6_content_13 rfl (lv_at hl 0 rfl) ?_
    refine he_getr (C := RX6) (T := TX6) (N := 12) (ci := 6) (kd := 1) hx hb hts iX6_content_X6 hown hK hJ k0 rfl rfl 4 (by decide) (hts (.fieldLink RX6 29 "NeighborBook" "known" "LNeighborBook$Neighbors;") (List.mem_of_getElem? (i := 1) rfl)) (fun _ h9 => h9) rfl dX6_content_14 (fun b6 kb6 => ?_)
    refine lv_iload_n hx hb dX6_content_17 rfl (lv_at hl 1 rfl) ?_
    refine he_callr (va_runV (As := [.int i]) (rest := []) ⟨hx, hb, hml, hown, hts⟩ (e_X3_at l dC dI dA κ B g b6 kb6 i (by omega) (by omega)) (cwV 1 hts gX6_content_X3_at rfl rfl rfl (by decide +kernel) ⟨Nat.le_of_ble_eq_true rfl, Nat.le_of_ble_eq_true rfl⟩) (he_preV (q := (RX3, TX3, 2)) [.int i] hK hN hW hJ kb6 rfl rfl) rfl rfl hl.1 rfl (lv_room (Nat.le_of_ble_eq_true rfl)) dX6_content_18 ⟨Nat.zero_le _, Nat.zero_le _⟩) hJ (fun b8 g7 H locs kb8 hp hJ => ?_)
    obtain ⟨rfl, f10⟩ := hp
    obtain ⟨j9, hj9, ej9⟩ : ∃ j9 : Nat, j9 < 12 ∧ (g 16 i.toInt.toNat) = 300 + (j9 : Int) := ⟨((g 16 i.toInt.toNat) - 300).toNat, by omega, by omega⟩
    have kb8 : κ b8 = 300 + j9 := by rw [kb8]; omega
    refine he_callr (va_runV (As := []) (rest := []) ⟨hx, hb, hml, hown, hts⟩ (e_X2_contents l dC dI dA κ B g (j9) (by omega) b8 kb8) (cwV 0 hts gX6_content_X2_contents rfl rfl rfl (by decide +kernel) ⟨Nat.le_of_ble_eq_true rfl, Nat.le_of_ble_eq_true rfl⟩) (he_preV (q := (RX2, TX2, 4)) [] hK hN hW hJ kb8 (hk_t300 (by omega)) rfl) rfl rfl hl.1 rfl (lv_room (Nat.le_of_ble_eq_true rfl)) dX6_content_21 ⟨Nat.zero_le _, Nat.zero_le _⟩) hJ (fun b12 g11 H locs kb12 hp hJ => ?_)
    obtain ⟨rfl, f14⟩ := hp
    obtain ⟨c13, hc13, ec13⟩ : ∃ c13 : Nat, c13 < 13 ∧ (g (300 + j9) 0) = 320 + (c13 : Int) := ⟨((g (300 + j9) 0) - 320).toNat, by omega, by omega⟩
    have kb12 : κ b12 = 320 + c13 := by rw [kb12]; omega
    refine lv_astore (lv' := [(4, .ref b12), (0, .ref h0), (1, .int i), (2, .int type), (3, .int k)]) hx hb dX6_content_24 hl (by decide) rfl (fun ls hl => ?_)
    refine lv_iload_n hx hb dX6_content_26 rfl (lv_at hl 4 rfl) ?_
    refine hq_iconst hx hb dX6_content_27 (by decide) (by decide) (fun z15 ez15 => ?_)
    refine hq_icmp_ne (tgt := 40) hx hb dX6_content_28 (by decide) (fun c16 => ?_) (fun c16 => ?_)
    · refine lv_aload hx hb dX6_content_40 (lv_at hl 0 rfl) ?_
      refine lv_iload_n hx hb dX6_content_42 rfl (lv_at hl 3 rfl) ?_
      refine lv_iload_n hx hb dX6_content_43 rfl (lv_at hl 4 rfl) ?_
      refine he_calli (va_runV (As := [.int type, .int k]) (rest := []) ⟨hx, hb, hml, hown, hts⟩ (e_X0_byteAt l dC dI dA κ B g (c13) (by omega) b12 kb12 type k) (cwV 2 hts gX6_content_X0_byteAt rfl rfl rfl (by decide +kernel) ⟨Nat.le_of_ble_eq_true rfl, Nat.le_of_ble_eq_true rfl⟩) (he_preV (q := (RX0, TX0, 2)) [.int type, .int k] hK hN hW hJ kb12 (hk_t320 (by omega)) rfl) rfl rfl hl.1 rfl (lv_room (Nat.le_of_ble_eq_true rfl)) dX6_content_44 ⟨Nat.zero_le _, Nat.zero_le _⟩) hJ (fun x18 g17 H locs hp hJ => ?_)
      obtain ⟨rfl, f19⟩ := hp
      exact he_iret hx hb hK hN hW hlocks hJ hr rfl dX6_content_47
    · refine lv_aload hx hb dX6_content_31 (lv_at hl 0 rfl) ?_
      refine lv_iload_n hx hb dX6_content_33 rfl (lv_at hl 3 rfl) ?_
      refine he_calli (va_runV (As := [.int type]) (rest := []) ⟨hx, hb, hml, hown, hts⟩ (e_X0_sizeOf l dC dI dA κ B g (c13) (by omega) b12 kb12 type) (cwV 1 hts gX6_content_X0_sizeOf rfl rfl rfl (by decide +kernel) ⟨Nat.le_of_ble_eq_true rfl, Nat.le_of_ble_eq_true rfl⟩) (he_preV (q := (RX0, TX0, 2)) [.int type] hK hN hW hJ kb12 (hk_t320 (by omega)) rfl) rfl rfl hl.1 rfl (lv_room (Nat.le_of_ble_eq_true rfl)) dX6_content_34 ⟨Nat.zero_le _, Nat.zero_le _⟩) hJ (fun x21 g20 H locs hp hJ => ?_)
      obtain ⟨rfl, f22⟩ := hp
      refine lv_goto (tgt := 47) hx hb dX6_content_37 (by decide) ?_
      exact he_iret hx hb hK hN hW hlocks hJ hr rfl dX6_content_47
  · refine hq_iconst hx hb dX6_content_11 (by decide) (by decide) (fun z23 ez23 => ?_)
    exact he_iret hx hb hK hN hW hlocks hJ hr rfl dX6_content_12
