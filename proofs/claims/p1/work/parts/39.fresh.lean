set_option maxRecDepth 100000 in
set_option maxHeartbeats 4000000 in
theorem c_X6_aboutF (l : Launch) (dC : Nat → ClassId) (dI : Nat → Nat → Nat) (dA : Nat → ClassId) (κ : Nat → Nat) (B : Nat) (g : Nat → Nat → Int) (h0 : Nat) (k0 : κ h0 = 1) (p1 : Int32) (what : Int32) (hG : hg_k g) (h5 : ∀ j k : Nat, j < 4 → g (5 + j) k = 0) (h10 : g 10 1 = 0) : Met l yX6_about wsX6_about ({ frames := 2, cells := 0, slots := 0, locals := 43 } : Room) (hp_Pre dC dI dA κ B g [Value.ref h0, Value.int p1, Value.int what]) (hp_Qi dC dI dA κ B (fun r u => g = u ∧ (((0 ≤ p1.toInt ∧ p1.toInt < 4 ∧ 0 ≤ what.toInt ∧ what.toInt ≤ 6) ∧ r.toInt = 0) ∨ (¬ (0 ≤ p1.toInt ∧ p1.toInt < 4 ∧ 0 ≤ what.toInt ∧ what.toInt ≤ 6) ∧ r.toInt = -1)))) 0 0 (hp_A B) := by
  refine Met.ofW (cc := cX6_about) (maxL := 3) (ret := (some .int)) (by decide) rfl ?_
  intro p e s m args below meth c s₁ Bd hml hv
  obtain ⟨rfl, hK, hN, hW, hF⟩ := hv
  have hx := Bd.exec
  have hb := Bd.bytes
  have hr := Bd.returns
  have hts := atoms_spec (ws := wsX6_about) Bd.pre
  have hown : s.vm.findClass RX6 = some m.cls := findClass_of_methodNamed Bd.named
  have hlocks := Bd.notSynchronized
  have hJ : hp_J dC dI dA κ B g s.heap s.heap [] := ⟨hF, va_S.rf⟩
  have hl := lv_entry ([Value.ref h0, Value.int p1, Value.int what]) (n := 3) (Nat.le_of_ble_eq_true rfl)
  rw [lg_entry_eq]
  generalize (lg_sl ([Value.ref h0, Value.int p1, Value.int what]) ++ List.replicate (3 - (lg_sl ([Value.ref h0, Value.int p1, Value.int what])).length) Slot.unset).toArray = ls at hl ⊢
  have hl : lv_has ls 3 [(0, .ref h0), (1, .int p1), (2, .int what)] := hl
  obtain ⟨hG1, hG2, hG3, hG4, hG5, hG6, hG7, hG8⟩ := id hG
  refine lv_iload_n hx hb dX6_about_0 rfl (lv_at hl 1 rfl) ?_
  refine hp_calli (va_runS (As := [.int p1]) (rest := []) ⟨hx, hb, hml, hown, hts⟩ (c_X6_isPort l dC dI dA κ B g p1) (va_cwS 1 hts gX6_about_X6_isPort rfl rfl rfl (by decide +kernel) ⟨Nat.le_of_ble_eq_true rfl, Nat.le_of_ble_eq_true rfl⟩) (hp_preS [.int p1] hK hN hW hJ) rfl rfl hl.1 rfl (lv_room (Nat.le_of_ble_eq_true rfl)) dX6_about_1 ⟨Nat.zero_le _, Nat.zero_le _⟩) hJ (fun x2 g1 H locs hp hJ => ?_)
  obtain ⟨rfl, f3⟩ := hp
  refine hq_if_ne (tgt := 9) hx hb dX6_about_4 (by decide) (fun c4 => ?_) (fun c4 => ?_)
  · refine lv_iload_n hx hb dX6_about_9 rfl (lv_at hl 2 rfl) ?_
    refine hq_iconst hx hb dX6_about_10 (by decide) (by decide) (fun z5 ez5 => ?_)
    refine hq_icmp_ne (tgt := 23) hx hb dX6_about_11 (by decide) (fun c6 => ?_) (fun c6 => ?_)
    · refine lv_aload_n hx hb dX6_about_23 rfl (lv_at hl 0 rfl) ?_
      refine hp_getr (C := RX6) (T := TX6) (N := 12) (ci := 6) (kd := 1) hx hb hts iX6_about_X6 hown hK hJ k0 rfl rfl 3 (by decide) (hts (.fieldLink RX6 22 "NeighborBook" "ports" "[LNeighborBook$Port;") (List.mem_of_getElem? (i := 2) rfl)) (fun _ h9 => h9) rfl dX6_about_24 (fun b7 kb7 => ?_)
      refine lv_iload_n hx hb dX6_about_27 rfl (lv_at hl 1 rfl) ?_
      refine hp_aald3 (kd := 15) (n := 4) hx hb hK hJ kb7 rfl (by omega) (by omega) (hk_s15 (by omega)) dX6_about_28 (fun b8 kb8 => ?_)
      have a50 := h5 p1.toInt.toNat 0 (by omega)
      have a51 := h5 p1.toInt.toNat 1 (by omega)
      have a52 := h5 p1.toInt.toNat 2 (by omega)
      have a53 := h5 p1.toInt.toNat 3 (by omega)
      have a54 := h5 p1.toInt.toNat 4 (by omega)
      have a55 := h5 p1.toInt.toNat 5 (by omega)
      refine lv_iload_n hx hb dX6_about_29 rfl (lv_at hl 2 rfl) ?_
      refine hp_calli (va_runV (As := [.int what]) (rest := []) ⟨hx, hb, hml, hown, hts⟩ (c_X4_tellAbout l dC dI dA κ B g (p1.toInt.toNat) (by omega : p1.toInt.toNat < 4) b8 kb8 what hG) (cwV 1 hts gX6_about_X4_tellAbout rfl rfl rfl (by decide +kernel) ⟨Nat.le_of_ble_eq_true rfl, Nat.le_of_ble_eq_true rfl⟩) (hp_preV (q := (RX4, TX4, 6)) [.int what] hK hN hW hJ kb8 (hk_t5 (by omega : p1.toInt.toNat < 4)) rfl) rfl rfl hl.1 rfl (lv_room (Nat.le_of_ble_eq_true rfl)) dX6_about_30 ⟨Nat.zero_le _, Nat.zero_le _⟩) hJ (fun x10 g9 H locs hp hJ => ?_)
      obtain ⟨rfl, f11⟩ := hp
      exact hp_iret hx hb hK hN hW hlocks hJ hr ⟨rfl, by omega⟩ dX6_about_33
    · refine lv_aload_n hx hb dX6_about_14 rfl (lv_at hl 0 rfl) ?_
      refine hp_getr (C := RX6) (T := TX6) (N := 12) (ci := 6) (kd := 1) hx hb hts iX6_about_X6 hown hK hJ k0 rfl rfl 4 (by decide) (hts (.fieldLink RX6 29 "NeighborBook" "known" "LNeighborBook$Neighbors;") (List.mem_of_getElem? (i := 1) rfl)) (fun _ h9 => h9) rfl dX6_about_15 (fun b12 kb12 => ?_)
      refine lv_iload_n hx hb dX6_about_18 rfl (lv_at hl 1 rfl) ?_
      refine hp_calli (va_runV (As := [.int p1]) (rest := []) ⟨hx, hb, hml, hown, hts⟩ (c_X3_sizeAt l dC dI dA κ B g b12 kb12 p1 hG) (cwV 1 hts gX6_about_X3_sizeAt rfl rfl rfl (by decide +kernel) ⟨Nat.le_of_ble_eq_true rfl, Nat.le_of_ble_eq_true rfl⟩) (hp_preV (q := (RX3, TX3, 2)) [.int p1] hK hN hW hJ kb12 rfl rfl) rfl rfl hl.1 rfl (lv_room (Nat.le_of_ble_eq_true rfl)) dX6_about_19 ⟨Nat.zero_le _, Nat.zero_le _⟩) hJ (fun x14 g13 H locs hp hJ => ?_)
      obtain ⟨rfl, f15⟩ := hp
      exact hp_iret hx hb hK hN hW hlocks hJ hr ⟨rfl, by omega⟩ dX6_about_22
  · refine hq_iconst hx hb dX6_about_7 (by decide) (by decide) (fun z16 ez16 => ?_)
    exact hp_iret hx hb hK hN hW hlocks hJ hr ⟨rfl, by omega⟩ dX6_about_8
set_option maxRecDepth 100000 in
set_option maxHeartbeats 4000000 in
theorem c_X6_countF (l : Launch) (dC : Nat → ClassId) (dI : Nat → Nat → Nat) (dA : Nat → ClassId) (κ : Nat → Nat) (B : Nat) (g : Nat → Nat → Int) (h0 : Nat) (k0 : κ h0 = 1) (what : Int32) (hG : hg_k g) (h1 : ∀ k : Nat, g 1 k = 0) (h10 : g 10 1 = 0) (h4 : g 4 1 = 0) (h42 : g 4 2 = -1) : Met l yX6_count wsX6_count ({ frames := 1, cells := 0, slots := 0, locals := 20 } : Room) (hp_Pre dC dI dA κ B g [Value.ref h0, Value.int what]) (hp_Qi dC dI dA κ B (fun r u => g = u ∧ (((0 ≤ what.toInt ∧ what.toInt ≤ 5 ∧ what.toInt ≠ 4) ∧ r.toInt = 0) ∨ (¬ (0 ≤ what.toInt ∧ what.toInt ≤ 5 ∧ what.toInt ≠ 4) ∧ r.toInt = -1)))) 0 0 (hp_A B) := by
  refine Met.ofW (cc := cX6_count) (maxL := 2) (ret := (some .int)) (by decide) rfl ?_
  intro p e s m args below meth c s₁ Bd hml hv
  obtain ⟨rfl, hK, hN, hW, hF⟩ := hv
  have hx := Bd.exec
  have hb := Bd.bytes
  have hr := Bd.returns
  have hts := atoms_spec (ws := wsX6_count) Bd.pre
  have hown : s.vm.findClass RX6 = some m.cls := findClass_of_methodNamed Bd.named
  have hlocks := Bd.notSynchronized
  have hJ : hp_J dC dI dA κ B g s.heap s.heap [] := ⟨hF, va_S.rf⟩
  have hl := lv_entry ([Value.ref h0, Value.int what]) (n := 2) (Nat.le_of_ble_eq_true rfl)
  rw [lg_entry_eq]
  generalize (lg_sl ([Value.ref h0, Value.int what]) ++ List.replicate (2 - (lg_sl ([Value.ref h0, Value.int what])).length) Slot.unset).toArray = ls at hl ⊢
  have hl : lv_has ls 2 [(0, .ref h0), (1, .int what)] := hl
  obtain ⟨hG1, hG2, hG3, hG4, hG5, hG6, hG7, hG8⟩ := id hG
  have a10 := h1 10
  have a11 := h1 11
  have a1 := h1 1
  refine lv_iload_n hx hb dX6_count_0 rfl (lv_at hl 1 rfl) ?_
  have h1 : (what.toInt < 0 ∨ 5 < what.toInt) ∨ what.toInt = 0 ∨ what.toInt = 1 ∨ what.toInt = 2 ∨ what.toInt = 3 ∨ what.toInt = 4 ∨ what.toInt = 5 := by omega
  rcases h1 with h1 | h1 | h1 | h1 | h1 | h1 | h1
  · refine lv_tableOut (tgt := 79) hx hb dX6_count_1 h1 (by decide) ?_
    refine hq_iconst hx hb dX6_count_79 (by decide) (by decide) (fun z2 ez2 => ?_)
    exact hp_iret hx hb hK hN hW hlocks hJ hr ⟨rfl, by omega⟩ dX6_count_80
  · refine lv_tableIn (off := 39) (tgt := 40) hx hb dX6_count_1 (by omega) (by omega) (by rw [h1]; rfl) (by decide) ?_
    refine lv_aload_n hx hb dX6_count_40 rfl (lv_at hl 0 rfl) ?_
    refine hp_getr (C := RX6) (T := TX6) (N := 12) (ci := 6) (kd := 1) hx hb hts iX6_count_X6 hown hK hJ k0 rfl rfl 4 (by decide) (hts (.fieldLink RX6 29 "NeighborBook" "known" "LNeighborBook$Neighbors;") (List.mem_of_getElem? (i := 1) rfl)) (fun _ h9 => h9) rfl dX6_count_41 (fun b3 kb3 => ?_)
    refine hp_calli (va_runV (As := []) (rest := []) ⟨hx, hb, hml, hown, hts⟩ (c_X3_size l dC dI dA κ B g b3 kb3) (cwV 0 hts gX6_count_X3_size rfl rfl rfl (by decide +kernel) ⟨Nat.le_of_ble_eq_true rfl, Nat.le_of_ble_eq_true rfl⟩) (hp_preV (q := (RX3, TX3, 2)) [] hK hN hW hJ kb3 rfl rfl) rfl rfl hl.1 rfl (lv_room (Nat.le_of_ble_eq_true rfl)) dX6_count_44 ⟨Nat.zero_le _, Nat.zero_le _⟩) hJ (fun x5 g4 H locs hp hJ => ?_)
    obtain ⟨rfl, f6⟩ := hp
    exact hp_iret hx hb hK hN hW hlocks hJ hr ⟨rfl, by omega⟩ dX6_count_47
  · refine lv_tableIn (off := 47) (tgt := 48) hx hb dX6_count_1 (by omega) (by omega) (by rw [h1]; rfl) (by decide) ?_
    refine lv_aload_n hx hb dX6_count_48 rfl (lv_at hl 0 rfl) ?_
    refine hp_geti (C := RX6) (T := TX6) (N := 12) (ci := 6) (kd := 1) hx hb hts iX6_count_X6 hown hK hJ k0 rfl rfl 10 (by decide) (hts (.fieldLink RX6 115 "NeighborBook" "ticks" "I") (List.mem_of_getElem? (i := 2) rfl)) (fun _ h9 => h9) rfl rfl dX6_count_49 (fun x7 ex7 => ?_)
    have ex7 : x7.toInt = g 1 10 := ex7
    exact hp_iret hx hb hK hN hW hlocks hJ hr ⟨rfl, by omega⟩ dX6_count_52
  · refine lv_tableIn (off := 52) (tgt := 53) hx hb dX6_count_1 (by omega) (by omega) (by rw [h1]; rfl) (by decide) ?_
    refine lv_aload_n hx hb dX6_count_53 rfl (lv_at hl 0 rfl) ?_
    refine hp_geti (C := RX6) (T := TX6) (N := 12) (ci := 6) (kd := 1) hx hb hts iX6_count_X6 hown hK hJ k0 rfl rfl 11 (by decide) (hts (.fieldLink RX6 112 "NeighborBook" "latestFault" "I") (List.mem_of_getElem? (i := 3) rfl)) (fun _ h9 => h9) rfl rfl dX6_count_54 (fun x8 ex8 => ?_)
    have ex8 : x8.toInt = g 1 11 := ex8
    exact hp_iret hx hb hK hN hW hlocks hJ hr ⟨rfl, by omega⟩ dX6_count_57
  · refine lv_tableIn (off := 57) (tgt := 58) hx hb dX6_count_1 (by omega) (by omega) (by rw [h1]; rfl) (by decide) ?_
    refine lv_aload_n hx hb dX6_count_58 rfl (lv_at hl 0 rfl) ?_
    refine hp_geti (C := RX6) (T := TX6) (N := 12) (ci := 6) (kd := 1) hx hb hts iX6_count_X6 hown hK hJ k0 rfl rfl 1 (by decide) (hts (.fieldLink RX6 65 "NeighborBook" "typedCount" "I") (List.mem_of_getElem? (i := 4) rfl)) (fun _ h9 => h9) rfl rfl dX6_count_59 (fun x9 ex9 => ?_)
    have ex9 : x9.toInt = g 1 1 := ex9
    exact hp_iret hx hb hK hN hW hlocks hJ hr ⟨rfl, by omega⟩ dX6_count_62
  · refine lv_tableIn (off := 62) (tgt := 63) hx hb dX6_count_1 (by omega) (by omega) (by rw [h1]; rfl) (by decide) ?_
    refine lv_aload_n hx hb dX6_count_63 rfl (lv_at hl 0 rfl) ?_
    refine hp_getr (C := RX6) (T := TX6) (N := 12) (ci := 6) (kd := 1) hx hb hts iX6_count_X6 hown hK hJ k0 rfl rfl 6 (by decide) (hts (.fieldLink RX6 43 "NeighborBook" "latest" "LNeighborBook$SentFrame;") (List.mem_of_getElem? (i := 5) rfl)) (fun _ h9 => h9) rfl dX6_count_64 (fun b10 kb10 => ?_)
    refine hp_calli (va_runV (As := []) (rest := []) ⟨hx, hb, hml, hown, hts⟩ (c_X5_portOf l dC dI dA κ B g b10 kb10) (cwV 0 hts gX6_count_X5_portOf rfl rfl rfl (by decide +kernel) ⟨Nat.le_of_ble_eq_true rfl, Nat.le_of_ble_eq_true rfl⟩) (hp_preV (q := (RX5, TX5, 3)) [] hK hN hW hJ kb10 rfl rfl) rfl rfl hl.1 rfl (lv_room (Nat.le_of_ble_eq_true rfl)) dX6_count_67 ⟨Nat.zero_le _, Nat.zero_le _⟩) hJ (fun x12 g11 H locs hp hJ => ?_)
    obtain ⟨rfl, f13⟩ := hp
    exact hp_iret hx hb hK hN hW hlocks hJ hr ⟨rfl, by omega⟩ dX6_count_70
  · refine lv_tableIn (off := 70) (tgt := 71) hx hb dX6_count_1 (by omega) (by omega) (by rw [h1]; rfl) (by decide) ?_
    refine lv_aload_n hx hb dX6_count_71 rfl (lv_at hl 0 rfl) ?_
    refine hp_getr (C := RX6) (T := TX6) (N := 12) (ci := 6) (kd := 1) hx hb hts iX6_count_X6 hown hK hJ k0 rfl rfl 6 (by decide) (hts (.fieldLink RX6 43 "NeighborBook" "latest" "LNeighborBook$SentFrame;") (List.mem_of_getElem? (i := 5) rfl)) (fun _ h9 => h9) rfl dX6_count_72 (fun b14 kb14 => ?_)
    refine hp_calli (va_runV (As := []) (rest := []) ⟨hx, hb, hml, hown, hts⟩ (c_X5_length l dC dI dA κ B g b14 kb14) (cwV 0 hts gX6_count_X5_length rfl rfl rfl (by decide +kernel) ⟨Nat.le_of_ble_eq_true rfl, Nat.le_of_ble_eq_true rfl⟩) (hp_preV (q := (RX5, TX5, 3)) [] hK hN hW hJ kb14 rfl rfl) rfl rfl hl.1 rfl (lv_room (Nat.le_of_ble_eq_true rfl)) dX6_count_75 ⟨Nat.zero_le _, Nat.zero_le _⟩) hJ (fun x16 g15 H locs hp hJ => ?_)
    obtain ⟨rfl, f17⟩ := hp
    exact hp_iret hx hb hK hN hW hlocks hJ hr ⟨rfl, by omega⟩ dX6_count_78
set_option maxRecDepth 100000 in
set_option maxHeartbeats 4000000 in
theorem c_X7_aboutF (l : Launch) (dC : Nat → ClassId) (dI : Nat → Nat → Nat) (dA : Nat → ClassId) (κ : Nat → Nat) (B : Nat) (g : Nat → Nat → Int) (h0 : Nat) (k0 : κ h0 = 11) (p1 : Int32) (what : Int32) (hG : hg_k g) (hz : ∀ a j : Nat, 20 ≤ a → a ≤ 25 → g a j = 0) (h13 : g 11 13 = 0) : Met l yX7_about wsX7_about ({ frames := 0, cells := 0, slots := 0, locals := 0 } : Room) (hp_Pre dC dI dA κ B g [Value.ref h0, Value.int p1, Value.int what]) (hp_Qi dC dI dA κ B (fun r u => g = u ∧ (((0 ≤ p1.toInt ∧ p1.toInt < 4 ∧ 0 ≤ what.toInt ∧ what.toInt ≤ 6) ∧ r.toInt = 0) ∨ (¬ (0 ≤ p1.toInt ∧ p1.toInt < 4 ∧ 0 ≤ what.toInt ∧ what.toInt ≤ 6) ∧ r.toInt = -1)))) 0 0 (hp_A B) := by
  refine Met.ofW (cc := cX7_about) (maxL := 5) (ret := (some .int)) (by decide) rfl ?_
  intro p e s m args below meth c s₁ Bd hml hv
  obtain ⟨rfl, hK, hN, hW, hF⟩ := hv
  have hx := Bd.exec
  have hb := Bd.bytes
  have hr := Bd.returns
  have hts := atoms_spec (ws := wsX7_about) Bd.pre
  have hown : s.vm.findClass RX7 = some m.cls := findClass_of_methodNamed Bd.named
  have hlocks := Bd.notSynchronized
  have hJ : hp_J dC dI dA κ B g s.heap s.heap [] := ⟨hF, va_S.rf⟩
  have hl := lv_entry ([Value.ref h0, Value.int p1, Value.int what]) (n := 5) (Nat.le_of_ble_eq_true rfl)
  rw [lg_entry_eq]
  generalize (lg_sl ([Value.ref h0, Value.int p1, Value.int what]) ++ List.replicate (5 - (lg_sl ([Value.ref h0, Value.int p1, Value.int what])).length) Slot.unset).toArray = ls at hl ⊢
  have hl : lv_has ls 5 [(0, .ref h0), (1, .int p1), (2, .int what)] := hl
  obtain ⟨hG1, hG2, hG3, hG4, hG5, hG6, hG7, hG8⟩ := id hG
  refine lv_iload_n hx hb dX7_about_0 rfl (lv_at hl 1 rfl) ?_
  refine hq_if_lt (tgt := 9) hx hb dX7_about_1 (by decide) (fun c1 => ?_) (fun c1 => ?_)
  · refine hq_iconst hx hb dX7_about_9 (by decide) (by decide) (fun z2 ez2 => ?_)
    exact hp_iret hx hb hK hN hW hlocks hJ hr ⟨rfl, by omega⟩ dX7_about_10
  · refine lv_iload_n hx hb dX7_about_4 rfl (lv_at hl 1 rfl) ?_
    refine hq_iconst hx hb dX7_about_5 (by decide) (by decide) (fun z3 ez3 => ?_)
    refine hq_icmp_lt (tgt := 11) hx hb dX7_about_6 (by decide) (fun c4 => ?_) (fun c4 => ?_)
    · refine hq_iconst hx hb dX7_about_11 (by decide) (by decide) (fun z5 ez5 => ?_)
      refine lv_istore_n (lv' := [(3, .int z5), (0, .ref h0), (1, .int p1), (2, .int what)]) hx hb dX7_about_12 rfl hl (by decide) rfl (fun ls hl => ?_)
      refine hq_iconst hx hb dX7_about_13 (by decide) (by decide) (fun z6 ez6 => ?_)
      refine lv_istore (lv' := [(4, .int z6), (3, .int z5), (0, .ref h0), (1, .int p1), (2, .int what)]) hx hb dX7_about_14 hl (by decide) rfl (fun ls hl => ?_)
      have lp9 : ∀ (nlp9 : Nat) (v7 : Int32) (v8 : Int32) (H : Heap) (locs : List Loc) (ls : Array Slot), (0 ≤ v8.toInt) → (v8.toInt ≤ g 11 13) → (0 ≤ v7.toInt) → (v7.toInt ≤ v8.toInt) → (13 - v8.toInt < (nlp9 : Int)) → hp_J dC dI dA κ B g s.heap H locs → lv_has ls 5 [(0, .ref h0), (1, .int p1), (2, .int what), (3, .int v7), (4, .int v8)] → W p l e (headSpec wsX7_about ({ frames := 0, cells := 0, slots := 0, locals := 0 } : Room)).room s m ([Value.ref h0, Value.int p1, Value.int what] : List Value).toArray below meth c H locs 0 0 (MQ below (hp_Qi dC dI dA κ B (fun r u => g = u ∧ (((0 ≤ p1.toInt ∧ p1.toInt < 4 ∧ 0 ≤ what.toInt ∧ what.toInt ≤ 6) ∧ r.toInt = 0) ∨ (¬ (0 ≤ p1.toInt ∧ p1.toInt < 4 ∧ 0 ≤ what.toInt ∧ what.toInt ≤ 6) ∧ r.toInt = -1)))) ([Value.ref h0, Value.int p1, Value.int what] : List Value).toArray s 0 0 (hp_A B)) (F0 m 16 ls []) := by
        intro nlp9
        induction nlp9 with
        | zero => intro v7 v8 H locs ls iv11 iv12 iv13 iv14 hm10 hJ hl; exact absurd hm10 (by omega)
        | succ nlp9 ihlp9 =>
          intro v7 v8 H locs ls iv11 iv12 iv13 iv14 hm10 hJ hl
          refine lv_iload hx hb dX7_about_16 (lv_at hl 4 rfl) ?_
          refine lv_aload_n hx hb dX7_about_18 rfl (lv_at hl 0 rfl) ?_
          refine hp_geti (C := RX7) (T := TX7) (N := 24) (ci := 7) (kd := 11) hx hb hts iX7_about_X7 hown hK hJ k0 rfl rfl 13 (by decide) (hts (.fieldLink RX7 91 "NeighborBookModel" "known" "I") (List.mem_of_getElem? (i := 1) rfl)) (fun _ h9 => h9) rfl rfl dX7_about_19 (fun x15 ex15 => ?_)
          have ex15 : x15.toInt = g 11 13 := ex15
          refine hq_icmp_ge (tgt := 50) hx hb dX7_about_22 (by decide) (fun c16 => ?_) (fun c16 => ?_)
          · have b20 := hz 20 p1.toInt.toNat (by decide) (by decide)
            have b21 := hz 21 p1.toInt.toNat (by decide) (by decide)
            have b22 := hz 22 p1.toInt.toNat (by decide) (by decide)
            have b23 := hz 23 p1.toInt.toNat (by decide) (by decide)
            have b24 := hz 24 p1.toInt.toNat (by decide) (by decide)
            have b25 := hz 25 p1.toInt.toNat (by decide) (by decide)
            refine lv_iload_n hx hb dX7_about_50 rfl (lv_at hl 2 rfl) ?_
            have h17 : (what.toInt < 0 ∨ 6 < what.toInt) ∨ what.toInt = 0 ∨ what.toInt = 1 ∨ what.toInt = 2 ∨ what.toInt = 3 ∨ what.toInt = 4 ∨ what.toInt = 5 ∨ what.toInt = 6 := by omega
            rcases h17 with h17 | h17 | h17 | h17 | h17 | h17 | h17 | h17
            · refine lv_tableOut (tgt := 144) hx hb dX7_about_51 h17 (by decide) ?_
              refine hq_iconst hx hb dX7_about_144 (by decide) (by decide) (fun z18 ez18 => ?_)
              exact hp_iret hx hb hK hN hW hlocks hJ hr ⟨rfl, by omega⟩ dX7_about_145
            · refine lv_tableIn (off := 41) (tgt := 92) hx hb dX7_about_51 (by omega) (by omega) (by rw [h17]; rfl) (by decide) ?_
              refine lv_aload_n hx hb dX7_about_92 rfl (lv_at hl 0 rfl) ?_
              refine hp_getr (C := RX7) (T := TX7) (N := 24) (ci := 7) (kd := 11) hx hb hts iX7_about_X7 hown hK hJ k0 rfl rfl 7 (by decide) (hts (.fieldLink RX7 30 "NeighborBookModel" "up" "[Z") (List.mem_of_getElem? (i := 3) rfl)) (fun _ h9 => h9) rfl dX7_about_93 (fun b19 kb19 => ?_)
              refine lv_iload_n hx hb dX7_about_96 rfl (lv_at hl 1 rfl) ?_
              refine hp_zald (kd := 20) (n := 4) hx hb hK hJ kb19 rfl (by omega) (by omega) (sp := (0, 0)) rfl rfl dX7_about_97 (fun x20 ex20 => ?_)
              have ex20 : x20.toInt = g 20 p1.toInt.toNat := ex20
              refine hq_if_eq (tgt := 105) hx hb dX7_about_98 (by decide) (fun c21 => ?_) (fun c21 => ?_)
              · refine hq_iconst hx hb dX7_about_105 (by decide) (by decide) (fun z22 ez22 => ?_)
                exact hp_iret hx hb hK hN hW hlocks hJ hr ⟨rfl, by omega⟩ dX7_about_106
              · refine hq_iconst hx hb dX7_about_101 (by decide) (by decide) (fun z23 ez23 => ?_)
                refine lv_goto (tgt := 106) hx hb dX7_about_102 (by decide) ?_
                exact hp_iret hx hb hK hN hW hlocks hJ hr ⟨rfl, by omega⟩ dX7_about_106
            · refine lv_tableIn (off := 56) (tgt := 107) hx hb dX7_about_51 (by omega) (by omega) (by rw [h17]; rfl) (by decide) ?_
              refine lv_aload_n hx hb dX7_about_107 rfl (lv_at hl 0 rfl) ?_
              refine hp_getr (C := RX7) (T := TX7) (N := 24) (ci := 7) (kd := 11) hx hb hts iX7_about_X7 hown hK hJ k0 rfl rfl 8 (by decide) (hts (.fieldLink RX7 34 "NeighborBookModel" "sentFrames" "[I") (List.mem_of_getElem? (i := 4) rfl)) (fun _ h9 => h9) rfl dX7_about_108 (fun b24 kb24 => ?_)
              refine lv_iload_n hx hb dX7_about_111 rfl (lv_at hl 1 rfl) ?_
              refine hp_iald (kd := 21) (n := 4) hx hb hK hJ kb24 rfl (by omega) (by omega) (sp := (0, 0)) rfl rfl dX7_about_112 (fun x25 ex25 => ?_)
              have ex25 : x25.toInt = g 21 p1.toInt.toNat := ex25
              exact hp_iret hx hb hK hN hW hlocks hJ hr ⟨rfl, by omega⟩ dX7_about_113
            · refine lv_tableIn (off := 63) (tgt := 114) hx hb dX7_about_51 (by omega) (by omega) (by rw [h17]; rfl) (by decide) ?_
              refine lv_aload_n hx hb dX7_about_114 rfl (lv_at hl 0 rfl) ?_
              refine hp_getr (C := RX7) (T := TX7) (N := 24) (ci := 7) (kd := 11) hx hb hts iX7_about_X7 hown hK hJ k0 rfl rfl 9 (by decide) (hts (.fieldLink RX7 37 "NeighborBookModel" "good" "[I") (List.mem_of_getElem? (i := 5) rfl)) (fun _ h9 => h9) rfl dX7_about_115 (fun b26 kb26 => ?_)
              refine lv_iload_n hx hb dX7_about_118 rfl (lv_at hl 1 rfl) ?_
              refine hp_iald (kd := 22) (n := 4) hx hb hK hJ kb26 rfl (by omega) (by omega) (sp := (0, 0)) rfl rfl dX7_about_119 (fun x27 ex27 => ?_)
              have ex27 : x27.toInt = g 22 p1.toInt.toNat := ex27
              exact hp_iret hx hb hK hN hW hlocks hJ hr ⟨rfl, by omega⟩ dX7_about_120
            · refine lv_tableIn (off := 70) (tgt := 121) hx hb dX7_about_51 (by omega) (by omega) (by rw [h17]; rfl) (by decide) ?_
              refine lv_aload_n hx hb dX7_about_121 rfl (lv_at hl 0 rfl) ?_
              refine hp_getr (C := RX7) (T := TX7) (N := 24) (ci := 7) (kd := 11) hx hb hts iX7_about_X7 hown hK hJ k0 rfl rfl 10 (by decide) (hts (.fieldLink RX7 40 "NeighborBookModel" "bad" "[I") (List.mem_of_getElem? (i := 6) rfl)) (fun _ h9 => h9) rfl dX7_about_122 (fun b28 kb28 => ?_)
              refine lv_iload_n hx hb dX7_about_125 rfl (lv_at hl 1 rfl) ?_
              refine hp_iald (kd := 23) (n := 4) hx hb hK hJ kb28 rfl (by omega) (by omega) (sp := (0, 0)) rfl rfl dX7_about_126 (fun x29 ex29 => ?_)
              have ex29 : x29.toInt = g 23 p1.toInt.toNat := ex29
              exact hp_iret hx hb hK hN hW hlocks hJ hr ⟨rfl, by omega⟩ dX7_about_127
            · refine lv_tableIn (off := 77) (tgt := 128) hx hb dX7_about_51 (by omega) (by omega) (by rw [h17]; rfl) (by decide) ?_
              refine lv_iload_n hx hb dX7_about_128 rfl (lv_at hl 3 rfl) ?_
              exact hp_iret hx hb hK hN hW hlocks hJ hr ⟨rfl, by omega⟩ dX7_about_129
            · refine lv_tableIn (off := 79) (tgt := 130) hx hb dX7_about_51 (by omega) (by omega) (by rw [h17]; rfl) (by decide) ?_
              refine lv_aload_n hx hb dX7_about_130 rfl (lv_at hl 0 rfl) ?_
              refine hp_getr (C := RX7) (T := TX7) (N := 24) (ci := 7) (kd := 11) hx hb hts iX7_about_X7 hown hK hJ k0 rfl rfl 11 (by decide) (hts (.fieldLink RX7 43 "NeighborBookModel" "waits" "[I") (List.mem_of_getElem? (i := 7) rfl)) (fun _ h9 => h9) rfl dX7_about_131 (fun b30 kb30 => ?_)
              refine lv_iload_n hx hb dX7_about_134 rfl (lv_at hl 1 rfl) ?_
              refine hp_iald (kd := 24) (n := 4) hx hb hK hJ kb30 rfl (by omega) (by omega) (sp := (0, 0)) rfl rfl dX7_about_135 (fun x31 ex31 => ?_)
              have ex31 : x31.toInt = g 24 p1.toInt.toNat := ex31
              exact hp_iret hx hb hK hN hW hlocks hJ hr ⟨rfl, by omega⟩ dX7_about_136
            · refine lv_tableIn (off := 86) (tgt := 137) hx hb dX7_about_51 (by omega) (by omega) (by rw [h17]; rfl) (by decide) ?_
              refine lv_aload_n hx hb dX7_about_137 rfl (lv_at hl 0 rfl) ?_
              refine hp_getr (C := RX7) (T := TX7) (N := 24) (ci := 7) (kd := 11) hx hb hts iX7_about_X7 hown hK hJ k0 rfl rfl 12 (by decide) (hts (.fieldLink RX7 46 "NeighborBookModel" "quicks" "[I") (List.mem_of_getElem? (i := 8) rfl)) (fun _ h9 => h9) rfl dX7_about_138 (fun b32 kb32 => ?_)
              refine lv_iload_n hx hb dX7_about_141 rfl (lv_at hl 1 rfl) ?_
              refine hp_iald (kd := 25) (n := 4) hx hb hK hJ kb32 rfl (by omega) (by omega) (sp := (0, 0)) rfl rfl dX7_about_142 (fun x33 ex33 => ?_)
              have ex33 : x33.toInt = g 25 p1.toInt.toNat := ex33
              exact hp_iret hx hb hK hN hW hlocks hJ hr ⟨rfl, by omega⟩ dX7_about_143
          · refine lv_iload_n hx hb dX7_about_25 rfl (lv_at hl 3 rfl) ?_
            refine lv_aload_n hx hb dX7_about_26 rfl (lv_at hl 0 rfl) ?_
            refine hp_getr (C := RX7) (T := TX7) (N := 24) (ci := 7) (kd := 11) hx hb hts iX7_about_X7 hown hK hJ k0 rfl rfl 14 (by decide) (hts (.fieldLink RX7 49 "NeighborBookModel" "ports" "[I") (List.mem_of_getElem? (i := 2) rfl)) (fun _ h9 => h9) rfl dX7_about_27 (fun b34 kb34 => ?_)
            refine lv_iload hx hb dX7_about_30 (lv_at hl 4 rfl) ?_
            refine hp_iald (kd := 26) (n := 13) hx hb hK hJ kb34 rfl (by omega) (by omega) (sp := (2, 3)) rfl rfl dX7_about_32 (fun x35 ex35 => ?_)
            have ex35 : 0 ≤ x35.toInt ∧ x35.toInt ≤ 3 := ex35
            refine lv_iload_n hx hb dX7_about_33 rfl (lv_at hl 1 rfl) ?_
            refine hq_icmp_ne (tgt := 41) hx hb dX7_about_34 (by decide) (fun c36 => ?_) (fun c36 => ?_)
            · refine hq_iconst hx hb dX7_about_41 (by decide) (by decide) (fun z37 ez37 => ?_)
              refine hq_iadd hx hb dX7_about_42 (by omega) (by omega) (fun x38 ex38 => ?_)
              refine lv_istore_n (lv' := [(3, .int x38), (0, .ref h0), (1, .int p1), (2, .int what), (4, .int v8)]) hx hb dX7_about_43 rfl hl (by decide) rfl (fun ls hl => ?_)
              refine hq_iinc (k := 4) (lv' := fun (z9 : Int32) => [(4, .int z9), (3, .int x38), (0, .ref h0), (1, .int p1), (2, .int what)]) hx hb dX7_about_44 hl rfl (by decide) (by decide) (by omega) (by omega) (by decide) (fun _ => rfl) (fun x39 ls ex39 hl => ?_)
              have hl : lv_has ls 5 [(4, .int x39), (3, .int x38), (0, .ref h0), (1, .int p1), (2, .int what)] := hl
              refine lv_goto (tgt := 16) hx hb dX7_about_47 (by decide) ?_
              exact ihlp9 x38 x39 _ _ ls (by omega) (by omega) (by omega) (by omega) (by omega) hJ (lv_sub hl [2, 3, 4, 1, 0] rfl)
            · refine hq_iconst hx hb dX7_about_37 (by decide) (by decide) (fun z40 ez40 => ?_)
              refine lv_goto (tgt := 42) hx hb dX7_about_38 (by decide) ?_
              refine hq_iadd hx hb dX7_about_42 (by omega) (by omega) (fun x41 ex41 => ?_)
              refine lv_istore_n (lv' := [(3, .int x41), (0, .ref h0), (1, .int p1), (2, .int what), (4, .int v8)]) hx hb dX7_about_43 rfl hl (by decide) rfl (fun ls hl => ?_)
              refine hq_iinc (k := 4) (lv' := fun (z9 : Int32) => [(4, .int z9), (3, .int x41), (0, .ref h0), (1, .int p1), (2, .int what)]) hx hb dX7_about_44 hl rfl (by decide) (by decide) (by omega) (by omega) (by decide) (fun _ => rfl) (fun x42 ls ex42 hl => ?_)
              have hl : lv_has ls 5 [(4, .int x42), (3, .int x41), (0, .ref h0), (1, .int p1), (2, .int what)] := hl
              refine lv_goto (tgt := 16) hx hb dX7_about_47 (by decide) ?_
              exact ihlp9 x41 x42 _ _ ls (by omega) (by omega) (by omega) (by omega) (by omega) hJ (lv_sub hl [2, 3, 4, 1, 0] rfl)
      exact lp9 ((13 - z6.toInt).toNat + 1) z5 z6 _ _ ls (by omega) (by omega) (by omega) (by omega) (by omega) hJ (lv_sub hl [2, 3, 4, 1, 0] rfl)
    · refine hq_iconst hx hb dX7_about_9 (by decide) (by decide) (fun z43 ez43 => ?_)
      exact hp_iret hx hb hK hN hW hlocks hJ hr ⟨rfl, by omega⟩ dX7_about_10
set_option maxRecDepth 100000 in
set_option maxHeartbeats 4000000 in
theorem c_X7_countF (l : Launch) (dC : Nat → ClassId) (dI : Nat → Nat → Nat) (dA : Nat → ClassId) (κ : Nat → Nat) (B : Nat) (g : Nat → Nat → Int) (h0 : Nat) (k0 : κ h0 = 11) (what : Int32) (hG : hg_k g) (h13 : g 11 13 = 0) (h19 : g 11 19 = 0) (h20 : g 11 20 = 0) (h1 : g 11 1 = 0) (h22 : g 11 22 = 0) (h23 : g 11 23 = -1) : Met l yX7_count wsX7_count ({ frames := 0, cells := 0, slots := 0, locals := 0 } : Room) (hp_Pre dC dI dA κ B g [Value.ref h0, Value.int what]) (hp_Qi dC dI dA κ B (fun r u => g = u ∧ (((0 ≤ what.toInt ∧ what.toInt ≤ 5 ∧ what.toInt ≠ 4) ∧ r.toInt = 0) ∨ (¬ (0 ≤ what.toInt ∧ what.toInt ≤ 5 ∧ what.toInt ≠ 4) ∧ r.toInt = -1)))) 0 0 (hp_A B) := by
  refine Met.ofW (cc := cX7_count) (maxL := 2) (ret := (some .int)) (by decide) rfl ?_
  intro p e s m args below meth c s₁ Bd hml hv
  obtain ⟨rfl, hK, hN, hW, hF⟩ := hv
  have hx := Bd.exec
  have hb := Bd.bytes
  have hr := Bd.returns
  have hts := atoms_spec (ws := wsX7_count) Bd.pre
  have hown : s.vm.findClass RX7 = some m.cls := findClass_of_methodNamed Bd.named
  have hlocks := Bd.notSynchronized
  have hJ : hp_J dC dI dA κ B g s.heap s.heap [] := ⟨hF, va_S.rf⟩
  have hl := lv_entry ([Value.ref h0, Value.int what]) (n := 2) (Nat.le_of_ble_eq_true rfl)
  rw [lg_entry_eq]
  generalize (lg_sl ([Value.ref h0, Value.int what]) ++ List.replicate (2 - (lg_sl ([Value.ref h0, Value.int what])).length) Slot.unset).toArray = ls at hl ⊢
  have hl : lv_has ls 2 [(0, .ref h0), (1, .int what)] := hl
  obtain ⟨hG1, hG2, hG3, hG4, hG5, hG6, hG7, hG8⟩ := id hG
  refine lv_iload_n hx hb dX7_count_0 rfl (lv_at hl 1 rfl) ?_
  have h1 : (what.toInt < 0 ∨ 5 < what.toInt) ∨ what.toInt = 0 ∨ what.toInt = 1 ∨ what.toInt = 2 ∨ what.toInt = 3 ∨ what.toInt = 4 ∨ what.toInt = 5 := by omega
  rcases h1 with h1 | h1 | h1 | h1 | h1 | h1 | h1
  · refine lv_tableOut (tgt := 70) hx hb dX7_count_1 h1 (by decide) ?_
    refine hq_iconst hx hb dX7_count_70 (by decide) (by decide) (fun z2 ez2 => ?_)
    exact hp_iret hx hb hK hN hW hlocks hJ hr ⟨rfl, by omega⟩ dX7_count_71
  · refine lv_tableIn (off := 39) (tgt := 40) hx hb dX7_count_1 (by omega) (by omega) (by rw [h1]; rfl) (by decide) ?_
    refine lv_aload_n hx hb dX7_count_40 rfl (lv_at hl 0 rfl) ?_
    refine hp_geti (C := RX7) (T := TX7) (N := 24) (ci := 7) (kd := 11) hx hb hts iX7_count_X7 hown hK hJ k0 rfl rfl 13 (by decide) (hts (.fieldLink RX7 91 "NeighborBookModel" "known" "I") (List.mem_of_getElem? (i := 1) rfl)) (fun _ h9 => h9) rfl rfl dX7_count_41 (fun x3 ex3 => ?_)
    have ex3 : x3.toInt = g 11 13 := ex3
    exact hp_iret hx hb hK hN hW hlocks hJ hr ⟨rfl, by omega⟩ dX7_count_44
  · refine lv_tableIn (off := 44) (tgt := 45) hx hb dX7_count_1 (by omega) (by omega) (by rw [h1]; rfl) (by decide) ?_
    refine lv_aload_n hx hb dX7_count_45 rfl (lv_at hl 0 rfl) ?_
    refine hp_geti (C := RX7) (T := TX7) (N := 24) (ci := 7) (kd := 11) hx hb hts iX7_count_X7 hown hK hJ k0 rfl rfl 19 (by decide) (hts (.fieldLink RX7 115 "NeighborBookModel" "ticks" "I") (List.mem_of_getElem? (i := 2) rfl)) (fun _ h9 => h9) rfl rfl dX7_count_46 (fun x4 ex4 => ?_)
    have ex4 : x4.toInt = g 11 19 := ex4
    exact hp_iret hx hb hK hN hW hlocks hJ hr ⟨rfl, by omega⟩ dX7_count_49
  · refine lv_tableIn (off := 49) (tgt := 50) hx hb dX7_count_1 (by omega) (by omega) (by rw [h1]; rfl) (by decide) ?_
    refine lv_aload_n hx hb dX7_count_50 rfl (lv_at hl 0 rfl) ?_
    refine hp_geti (C := RX7) (T := TX7) (N := 24) (ci := 7) (kd := 11) hx hb hts iX7_count_X7 hown hK hJ k0 rfl rfl 20 (by decide) (hts (.fieldLink RX7 112 "NeighborBookModel" "fault" "I") (List.mem_of_getElem? (i := 3) rfl)) (fun _ h9 => h9) rfl rfl dX7_count_51 (fun x5 ex5 => ?_)
    have ex5 : x5.toInt = g 11 20 := ex5
    exact hp_iret hx hb hK hN hW hlocks hJ hr ⟨rfl, by omega⟩ dX7_count_54
  · refine lv_tableIn (off := 54) (tgt := 55) hx hb dX7_count_1 (by omega) (by omega) (by rw [h1]; rfl) (by decide) ?_
    refine lv_aload_n hx hb dX7_count_55 rfl (lv_at hl 0 rfl) ?_
    refine hp_geti (C := RX7) (T := TX7) (N := 24) (ci := 7) (kd := 11) hx hb hts iX7_count_X7 hown hK hJ k0 rfl rfl 1 (by decide) (hts (.fieldLink RX7 70 "NeighborBookModel" "typedSize" "I") (List.mem_of_getElem? (i := 4) rfl)) (fun _ h9 => h9) rfl rfl dX7_count_56 (fun x6 ex6 => ?_)
    have ex6 : x6.toInt = g 11 1 := ex6
    exact hp_iret hx hb hK hN hW hlocks hJ hr ⟨rfl, by omega⟩ dX7_count_59
  · refine lv_tableIn (off := 59) (tgt := 60) hx hb dX7_count_1 (by omega) (by omega) (by rw [h1]; rfl) (by decide) ?_
    refine lv_aload_n hx hb dX7_count_60 rfl (lv_at hl 0 rfl) ?_
    refine hp_geti (C := RX7) (T := TX7) (N := 24) (ci := 7) (kd := 11) hx hb hts iX7_count_X7 hown hK hJ k0 rfl rfl 23 (by decide) (hts (.fieldLink RX7 67 "NeighborBookModel" "pagePort" "I") (List.mem_of_getElem? (i := 5) rfl)) (fun _ h9 => h9) rfl rfl dX7_count_61 (fun x7 ex7 => ?_)
    have ex7 : x7.toInt = g 11 23 := ex7
    exact hp_iret hx hb hK hN hW hlocks hJ hr ⟨rfl, by omega⟩ dX7_count_64
  · refine lv_tableIn (off := 64) (tgt := 65) hx hb dX7_count_1 (by omega) (by omega) (by rw [h1]; rfl) (by decide) ?_
    refine lv_aload_n hx hb dX7_count_65 rfl (lv_at hl 0 rfl) ?_
    refine hp_geti (C := RX7) (T := TX7) (N := 24) (ci := 7) (kd := 11) hx hb hts iX7_count_X7 hown hK hJ k0 rfl rfl 22 (by decide) (hts (.fieldLink RX7 77 "NeighborBookModel" "pageSize" "I") (List.mem_of_getElem? (i := 6) rfl)) (fun _ h9 => h9) rfl rfl dX7_count_66 (fun x8 ex8 => ?_)
    have ex8 : x8.toInt = g 11 22 := ex8
    exact hp_iret hx hb hK hN hW hlocks hJ hr ⟨rfl, by omega⟩ dX7_count_69
