theorem iX6_about_X6 : ∀ w ∈ wsX60, w ∈ wsX6_about := fun _ h => List.mem_cons_of_mem _ (List.mem_append_left _ (List.mem_append_left _ (List.mem_append_left _ (List.mem_append_right _ h))))
theorem iX6_about_X3 : ∀ w ∈ wsX30, w ∈ wsX6_about := fun _ h => List.mem_cons_of_mem _ (List.mem_append_left _ (List.mem_append_left _ (List.mem_append_right _ h)))
theorem iX6_about_X2 : ∀ w ∈ wsX20, w ∈ wsX6_about := fun _ h => List.mem_cons_of_mem _ (List.mem_append_left _ (List.mem_append_right _ h))
theorem iX6_about_X4 : ∀ w ∈ wsX40, w ∈ wsX6_about := fun _ h => List.mem_cons_of_mem _ (List.mem_append_right _ h)
set_option maxRecDepth 100000 in
set_option maxHeartbeats 4000000 in
theorem c_X6_about (l : Launch) (dC : Nat → ClassId) (dI : Nat → Nat → Nat) (dA : Nat → ClassId) (κ : Nat → Nat) (B : Nat) (g : Nat → Nat → Int) (h0 : Nat) (k0 : κ h0 = 1) (p1 : Int32) (what : Int32) (hG : hg_k g) : Met l yX6_about wsX6_about ({ frames := 2, cells := 0, slots := 0, locals := 43 } : Room) (hp_Pre dC dI dA κ B g [Value.ref h0, Value.int p1, Value.int what]) (hp_Qi dC dI dA κ B (fun r u => g = u)) 0 0 (hp_A B) := by
  refine Met.ofW (cc := cX6_about) (maxL := 3) (ret := (some .int)) (by decide) rfl ?_
  intro p e s m args below meth c s₁ Bd hml hv
  obtain ⟨rfl, hK, hN, hW, hF⟩ := hv
  have hx := Bd.exec
  have hb := Bd.bytes
  have hr := Bd.returns
  have hts := atoms_spec (ws := wsX6_about) Bd.pre
  have hown : s.vm.findClass RX6 = some m.cls := findClass_of_methodNamed Bd.named
  have hlocks := Bd.notSynchronized
  have hJ : hp_J dC dI dA κ B g s.heap s.heap [] := ⟨hF, va_S.rf⟩
  have hl := lv_entry ([Value.ref h0, Value.int p1, Value.int what]) (n := 3) (Nat.le_of_ble_eq_true rfl)
  rw [lg_entry_eq]
  generalize (lg_sl ([Value.ref h0, Value.int p1, Value.int what]) ++ List.replicate (3 - (lg_sl ([Value.ref h0, Value.int p1, Value.int what])).length) Slot.unset).toArray = ls at hl ⊢
  have hl : lv_has ls 3 [(0, .ref h0), (1, .int p1), (2, .int what)] := hl
  obtain ⟨hG1, hG2, hG3, hG4, hG5, hG6, hG7, hG8⟩ := id hG
  refine lv_iload_n hx hb dX6_about_0 rfl (lv_at hl 1 rfl) ?_
  refine hp_calli (va_runS (As := [.int p1]) (rest := []) ⟨hx, hb, hml, hown, hts⟩ (c_X6_isPort l dC dI dA κ B g p1) (va_cwS 1 hts gX6_about_X6_isPort rfl rfl rfl (by decide +kernel) ⟨Nat.le_of_ble_eq_true rfl, Nat.le_of_ble_eq_true rfl⟩) (hp_preS [.int p1] hK hN hW hJ) rfl rfl hl.1 rfl (lv_room (Nat.le_of_ble_eq_true rfl)) dX6_about_1 ⟨Nat.zero_le _, Nat.zero_le _⟩) hJ (fun x2 g1 H locs hp hJ => ?_)
  obtain ⟨rfl, f3⟩ := hp
  refine hq_if_ne (tgt := 9) hx hb dX6_about_4 (by decide) (fun c4 => ?_) (fun c4 => ?_)
  · refine lv_iload_n hx hb dX6_about_9 rfl (lv_at hl 2 rfl) ?_
    refine hq_iconst hx hb dX6_about_10 (by decide) (by decide) (fun z5 ez5 => ?_)
    refine hq_icmp_ne (tgt := 23) hx hb dX6_about_11 (by decide) (fun c6 => ?_) (fun c6 => ?_)
    · refine lv_aload_n hx hb dX6_about_23 rfl (lv_at hl 0 rfl) ?_
      refine hp_getr (C := RX6) (T := TX6) (N := 12) (ci := 6) (kd := 1) hx hb hts iX6_about_X6 hown hK hJ k0 rfl rfl 3 (by decide) (hts (.fieldLink RX6 22 "NeighborBook" "ports" "[LNeighborBook$Port;") (List.mem_of_getElem? (i := 2) rfl)) (fun _ h9 => h9) rfl dX6_about_24 (fun b7 kb7 => ?_)
      refine lv_iload_n hx hb dX6_about_27 rfl (lv_at hl 1 rfl) ?_
      refine hp_aald3 (kd := 15) (n := 4) hx hb hK hJ kb7 rfl (by omega) (by omega) (hk_s15 (by omega)) dX6_about_28 (fun b8 kb8 => ?_)
      refine lv_iload_n hx hb dX6_about_29 rfl (lv_at hl 2 rfl) ?_
      refine hp_calli (va_runV (As := [.int what]) (rest := []) ⟨hx, hb, hml, hown, hts⟩ (c_X4_tellAbout l dC dI dA κ B g (p1.toInt.toNat) (by omega : p1.toInt.toNat < 4) b8 kb8 what hG) (cwV 1 hts gX6_about_X4_tellAbout rfl rfl rfl (by decide +kernel) ⟨Nat.le_of_ble_eq_true rfl, Nat.le_of_ble_eq_true rfl⟩) (hp_preV (q := (RX4, TX4, 6)) [.int what] hK hN hW hJ kb8 (hk_t5 (by omega : p1.toInt.toNat < 4)) rfl) rfl rfl hl.1 rfl (lv_room (Nat.le_of_ble_eq_true rfl)) dX6_about_30 ⟨Nat.zero_le _, Nat.zero_le _⟩) hJ (fun x10 g9 H locs hp hJ => ?_)
      obtain ⟨rfl, f11⟩ := hp
      exact hp_iret hx hb hK hN hW hlocks hJ hr rfl dX6_about_33
    · refine lv_aload_n hx hb dX6_about_14 rfl (lv_at hl 0 rfl) ?_
      refine hp_getr (C := RX6) (T := TX6) (N := 12) (ci := 6) (kd := 1) hx hb hts iX6_about_X6 hown hK hJ k0 rfl rfl 4 (by decide) (hts (.fieldLink RX6 29 "NeighborBook" "known" "LNeighborBook$Neighbors;") (List.mem_of_getElem? (i := 1) rfl)) (fun _ h9 => h9) rfl dX6_about_15 (fun b12 kb12 => ?_)
      refine lv_iload_n hx hb dX6_about_18 rfl (lv_at hl 1 rfl) ?_
      refine hp_calli (va_runV (As := [.int p1]) (rest := []) ⟨hx, hb, hml, hown, hts⟩ (c_X3_sizeAt l dC dI dA κ B g b12 kb12 p1 hG) (cwV 1 hts gX6_about_X3_sizeAt rfl rfl rfl (by decide +kernel) ⟨Nat.le_of_ble_eq_true rfl, Nat.le_of_ble_eq_true rfl⟩) (hp_preV (q := (RX3, TX3, 2)) [.int p1] hK hN hW hJ kb12 rfl rfl) rfl rfl hl.1 rfl (lv_room (Nat.le_of_ble_eq_true rfl)) dX6_about_19 ⟨Nat.zero_le _, Nat.zero_le _⟩) hJ (fun x14 g13 H locs hp hJ => ?_)
      obtain ⟨rfl, f15⟩ := hp
      exact hp_iret hx hb hK hN hW hlocks hJ hr rfl dX6_about_22
  · refine hq_iconst hx hb dX6_about_7 (by decide) (by decide) (fun z16 ez16 => ?_)
    exact hp_iret hx hb hK hN hW hlocks hJ hr rfl dX6_about_8
theorem iX6_count_X6 : ∀ w ∈ wsX60, w ∈ wsX6_count := fun _ h => List.mem_cons_of_mem _ (List.mem_append_left _ (List.mem_append_left _ (List.mem_append_right _ h)))
theorem iX6_count_X3 : ∀ w ∈ wsX30, w ∈ wsX6_count := fun _ h => List.mem_cons_of_mem _ (List.mem_append_left _ (List.mem_append_right _ h))
theorem iX6_count_X5 : ∀ w ∈ wsX50, w ∈ wsX6_count := fun _ h => List.mem_cons_of_mem _ (List.mem_append_right _ h)
set_option maxRecDepth 100000 in
set_option maxHeartbeats 4000000 in
theorem c_X6_count (l : Launch) (dC : Nat → ClassId) (dI : Nat → Nat → Nat) (dA : Nat → ClassId) (κ : Nat → Nat) (B : Nat) (g : Nat → Nat → Int) (h0 : Nat) (k0 : κ h0 = 1) (what : Int32) (hG : hg_k g) : Met l yX6_count wsX6_count ({ frames := 1, cells := 0, slots := 0, locals := 20 } : Room) (hp_Pre dC dI dA κ B g [Value.ref h0, Value.int what]) (hp_Qi dC dI dA κ B (fun r u => g = u)) 0 0 (hp_A B) := by
  refine Met.ofW (cc := cX6_count) (maxL := 2) (ret := (some .int)) (by decide) rfl ?_
  intro p e s m args below meth c s₁ Bd hml hv
  obtain ⟨rfl, hK, hN, hW, hF⟩ := hv
  have hx := Bd.exec
  have hb := Bd.bytes
  have hr := Bd.returns
  have hts := atoms_spec (ws := wsX6_count) Bd.pre
  have hown : s.vm.findClass RX6 = some m.cls := findClass_of_methodNamed Bd.named
  have hlocks := Bd.notSynchronized
  have hJ : hp_J dC dI dA κ B g s.heap s.heap [] := ⟨hF, va_S.rf⟩
  have hl := lv_entry ([Value.ref h0, Value.int what]) (n := 2) (Nat.le_of_ble_eq_true rfl)
  rw [lg_entry_eq]
  generalize (lg_sl ([Value.ref h0, Value.int what]) ++ List.replicate (2 - (lg_sl ([Value.ref h0, Value.int what])).length) Slot.unset).toArray = ls at hl ⊢
  have hl : lv_has ls 2 [(0, .ref h0), (1, .int what)] := hl
  obtain ⟨hG1, hG2, hG3, hG4, hG5, hG6, hG7, hG8⟩ := id hG
  refine lv_iload_n hx hb dX6_count_0 rfl (lv_at hl 1 rfl) ?_
  have h1 : (what.toInt < 0 ∨ 5 < what.toInt) ∨ what.toInt = 0 ∨ what.toInt = 1 ∨ what.toInt = 2 ∨ what.toInt = 3 ∨ what.toInt = 4 ∨ what.toInt = 5 := by omega
  rcases h1 with h1 | h1 | h1 | h1 | h1 | h1 | h1
  · refine lv_tableOut (tgt := 79) hx hb dX6_count_1 h1 (by decide) ?_
    refine hq_iconst hx hb dX6_count_79 (by decide) (by decide) (fun z2 ez2 => ?_)
    exact hp_iret hx hb hK hN hW hlocks hJ hr rfl dX6_count_80
  · refine lv_tableIn (off := 39) (tgt := 40) hx hb dX6_count_1 (by omega) (by omega) (by rw [h1]; rfl) (by decide) ?_
    refine lv_aload_n hx hb dX6_count_40 rfl (lv_at hl 0 rfl) ?_
    refine hp_getr (C := RX6) (T := TX6) (N := 12) (ci := 6) (kd := 1) hx hb hts iX6_count_X6 hown hK hJ k0 rfl rfl 4 (by decide) (hts (.fieldLink RX6 29 "NeighborBook" "known" "LNeighborBook$Neighbors;") (List.mem_of_getElem? (i := 1) rfl)) (fun _ h9 => h9) rfl dX6_count_41 (fun b3 kb3 => ?_)
    refine hp_calli (va_runV (As := []) (rest := []) ⟨hx, hb, hml, hown, hts⟩ (c_X3_size l dC dI dA κ B g b3 kb3) (cwV 0 hts gX6_count_X3_size rfl rfl rfl (by decide +kernel) ⟨Nat.le_of_ble_eq_true rfl, Nat.le_of_ble_eq_true rfl⟩) (hp_preV (q := (RX3, TX3, 2)) [] hK hN hW hJ kb3 rfl rfl) rfl rfl hl.1 rfl (lv_room (Nat.le_of_ble_eq_true rfl)) dX6_count_44 ⟨Nat.zero_le _, Nat.zero_le _⟩) hJ (fun x5 g4 H locs hp hJ => ?_)
    obtain ⟨rfl, f6⟩ := hp
    exact hp_iret hx hb hK hN hW hlocks hJ hr rfl dX6_count_47
  · refine lv_tableIn (off := 47) (tgt := 48) hx hb dX6_count_1 (by omega) (by omega) (by rw [h1]; rfl) (by decide) ?_
    refine lv_aload_n hx hb dX6_count_48 rfl (lv_at hl 0 rfl) ?_
    refine hp_geti (C := RX6) (T := TX6) (N := 12) (ci := 6) (kd := 1) hx hb hts iX6_count_X6 hown hK hJ k0 rfl rfl 10 (by decide) (hts (.fieldLink RX6 115 "NeighborBook" "ticks" "I") (List.mem_of_getElem? (i := 2) rfl)) (fun _ h9 => h9) rfl rfl dX6_count_49 (fun x7 ex7 => ?_)
    have ex7 : x7.toInt = g 1 10 := ex7
    exact hp_iret hx hb hK hN hW hlocks hJ hr rfl dX6_count_52
  · refine lv_tableIn (off := 52) (tgt := 53) hx hb dX6_count_1 (by omega) (by omega) (by rw [h1]; rfl) (by decide) ?_
    refine lv_aload_n hx hb dX6_count_53 rfl (lv_at hl 0 rfl) ?_
    refine hp_geti (C := RX6) (T := TX6) (N := 12) (ci := 6) (kd := 1) hx hb hts iX6_count_X6 hown hK hJ k0 rfl rfl 11 (by decide) (hts (.fieldLink RX6 112 "NeighborBook" "latestFault" "I") (List.mem_of_getElem? (i := 3) rfl)) (fun _ h9 => h9) rfl rfl dX6_count_54 (fun x8 ex8 => ?_)
    have ex8 : x8.toInt = g 1 11 := ex8
    exact hp_iret hx hb hK hN hW hlocks hJ hr rfl dX6_count_57
  · refine lv_tableIn (off := 57) (tgt := 58) hx hb dX6_count_1 (by omega) (by omega) (by rw [h1]; rfl) (by decide) ?_
    refine lv_aload_n hx hb dX6_count_58 rfl (lv_at hl 0 rfl) ?_
    refine hp_geti (C := RX6) (T := TX6) (N := 12) (ci := 6) (kd := 1) hx hb hts iX6_count_X6 hown hK hJ k0 rfl rfl 1 (by decide) (hts (.fieldLink RX6 65 "NeighborBook" "typedCount" "I") (List.mem_of_getElem? (i := 4) rfl)) (fun _ h9 => h9) rfl rfl dX6_count_59 (fun x9 ex9 => ?_)
    have ex9 : x9.toInt = g 1 1 := ex9
    exact hp_iret hx hb hK hN hW hlocks hJ hr rfl dX6_count_62
  · refine lv_tableIn (off := 62) (tgt := 63) hx hb dX6_count_1 (by omega) (by omega) (by rw [h1]; rfl) (by decide) ?_
    refine lv_aload_n hx hb dX6_count_63 rfl (lv_at hl 0 rfl) ?_
    refine hp_getr (C := RX6) (T := TX6) (N := 12) (ci := 6) (kd := 1) hx hb hts iX6_count_X6 hown hK hJ k0 rfl rfl 6 (by decide) (hts (.fieldLink RX6 43 "NeighborBook" "latest" "LNeighborBook$SentFrame;") (List.mem_of_getElem? (i := 5) rfl)) (fun _ h9 => h9) rfl dX6_count_64 (fun b10 kb10 => ?_)
    refine hp_calli (va_runV (As := []) (rest := []) ⟨hx, hb, hml, hown, hts⟩ (c_X5_portOf l dC dI dA κ B g b10 kb10) (cwV 0 hts gX6_count_X5_portOf rfl rfl rfl (by decide +kernel) ⟨Nat.le_of_ble_eq_true rfl, Nat.le_of_ble_eq_true rfl⟩) (hp_preV (q := (RX5, TX5, 3)) [] hK hN hW hJ kb10 rfl rfl) rfl rfl hl.1 rfl (lv_room (Nat.le_of_ble_eq_true rfl)) dX6_count_67 ⟨Nat.zero_le _, Nat.zero_le _⟩) hJ (fun x12 g11 H locs hp hJ => ?_)
    obtain ⟨rfl, f13⟩ := hp
    exact hp_iret hx hb hK hN hW hlocks hJ hr rfl dX6_count_70
  · refine lv_tableIn (off := 70) (tgt := 71) hx hb dX6_count_1 (by omega) (by omega) (by rw [h1]; rfl) (by decide) ?_
    refine lv_aload_n hx hb dX6_count_71 rfl (lv_at hl 0 rfl) ?_
    refine hp_getr (C := RX6) (T := TX6) (N := 12) (ci := 6) (kd := 1) hx hb hts iX6_count_X6 hown hK hJ k0 rfl rfl 6 (by decide) (hts (.fieldLink RX6 43 "NeighborBook" "latest" "LNeighborBook$SentFrame;") (List.mem_of_getElem? (i := 5) rfl)) (fun _ h9 => h9) rfl dX6_count_72 (fun b14 kb14 => ?_)
    refine hp_calli (va_runV (As := []) (rest := []) ⟨hx, hb, hml, hown, hts⟩ (c_X5_length l dC dI dA κ B g b14 kb14) (cwV 0 hts gX6_count_X5_length rfl rfl rfl (by decide +kernel) ⟨Nat.le_of_ble_eq_true rfl, Nat.le_of_ble_eq_true rfl⟩) (hp_preV (q := (RX5, TX5, 3)) [] hK hN hW hJ kb14 rfl rfl) rfl rfl hl.1 rfl (lv_room (Nat.le_of_ble_eq_true rfl)) dX6_count_75 ⟨Nat.zero_le _, Nat.zero_le _⟩) hJ (fun x16 g15 H locs hp hJ => ?_)
    obtain ⟨rfl, f17⟩ := hp
    exact hp_iret hx hb hK hN hW hlocks hJ hr rfl dX6_count_78
theorem iX6_sent_X6 : ∀ w ∈ wsX60, w ∈ wsX6_sent := fun _ h => List.mem_cons_of_mem _ (List.mem_append_left _ (List.mem_append_right _ h))
theorem iX6_sent_X5 : ∀ w ∈ wsX50, w ∈ wsX6_sent := fun _ h => List.mem_cons_of_mem _ (List.mem_append_right _ h)
set_option maxRecDepth 100000 in
set_option maxHeartbeats 4000000 in
theorem c_X6_sent (l : Launch) (dC : Nat → ClassId) (dI : Nat → Nat → Nat) (dA : Nat → ClassId) (κ : Nat → Nat) (B : Nat) (g : Nat → Nat → Int) (h0 : Nat) (k0 : κ h0 = 1) (k : Int32) (hG : hg_k g) : Met l yX6_sent wsX6_sent ({ frames := 1, cells := 0, slots := 0, locals := 21 } : Room) (hp_Pre dC dI dA κ B g [Value.ref h0, Value.int k]) (hp_Qi dC dI dA κ B (fun r u => g = u ∧ (g 4 1 = 0 → r.toInt = -1))) 0 0 (hp_A B) := by
  refine Met.ofW (cc := cX6_sent) (maxL := 2) (ret := (some .int)) (by decide) rfl ?_
  intro p e s m args below meth c s₁ Bd hml hv
  obtain ⟨rfl, hK, hN, hW, hF⟩ := hv
  have hx := Bd.exec
  have hb := Bd.bytes
  have hr := Bd.returns
  have hts := atoms_spec (ws := wsX6_sent) Bd.pre
  have hown : s.vm.findClass RX6 = some m.cls := findClass_of_methodNamed Bd.named
  have hlocks := Bd.notSynchronized
  have hJ : hp_J dC dI dA κ B g s.heap s.heap [] := ⟨hF, va_S.rf⟩
  have hl := lv_entry ([Value.ref h0, Value.int k]) (n := 2) (Nat.le_of_ble_eq_true rfl)
  rw [lg_entry_eq]
  generalize (lg_sl ([Value.ref h0, Value.int k]) ++ List.replicate (2 - (lg_sl ([Value.ref h0, Value.int k])).length) Slot.unset).toArray = ls at hl ⊢
  have hl : lv_has ls 2 [(0, .ref h0), (1, .int k)] := hl
  obtain ⟨hG1, hG2, hG3, hG4, hG5, hG6, hG7, hG8⟩ := id hG
  refine lv_aload_n hx hb dX6_sent_0 rfl (lv_at hl 0 rfl) ?_
  refine hp_getr (C := RX6) (T := TX6) (N := 12) (ci := 6) (kd := 1) hx hb hts iX6_sent_X6 hown hK hJ k0 rfl rfl 6 (by decide) (hts (.fieldLink RX6 43 "NeighborBook" "latest" "LNeighborBook$SentFrame;") (List.mem_of_getElem? (i := 1) rfl)) (fun _ h9 => h9) rfl dX6_sent_1 (fun b1 kb1 => ?_)
  refine lv_iload_n hx hb dX6_sent_4 rfl (lv_at hl 1 rfl) ?_
  refine hp_calli (va_runV (As := [.int k]) (rest := []) ⟨hx, hb, hml, hown, hts⟩ (c_X5_byteAt l dC dI dA κ B g b1 kb1 k hG) (cwV 1 hts gX6_sent_X5_byteAt rfl rfl rfl (by decide +kernel) ⟨Nat.le_of_ble_eq_true rfl, Nat.le_of_ble_eq_true rfl⟩) (hp_preV (q := (RX5, TX5, 3)) [.int k] hK hN hW hJ kb1 rfl rfl) rfl rfl hl.1 rfl (lv_room (Nat.le_of_ble_eq_true rfl)) dX6_sent_5 ⟨Nat.zero_le _, Nat.zero_le _⟩) hJ (fun x3 g2 H locs hp hJ => ?_)
  obtain ⟨rfl, f4⟩ := hp
  exact hp_iret hx hb hK hN hW hlocks hJ hr ⟨rfl, by omega⟩ dX6_sent_8
theorem iX6_neighbor_X6 : ∀ w ∈ wsX60, w ∈ wsX6_neighbor := fun _ h => List.mem_cons_of_mem _ (List.mem_append_left _ (List.mem_append_left _ (List.mem_append_left _ (List.mem_append_right _ h))))
theorem iX6_neighbor_X3 : ∀ w ∈ wsX30, w ∈ wsX6_neighbor := fun _ h => List.mem_cons_of_mem _ (List.mem_append_left _ (List.mem_append_left _ (List.mem_append_right _ h)))
theorem iX6_neighbor_X2 : ∀ w ∈ wsX20, w ∈ wsX6_neighbor := fun _ h => List.mem_cons_of_mem _ (List.mem_append_left _ (List.mem_append_right _ h))
theorem iX6_neighbor_X0 : ∀ w ∈ wsX00, w ∈ wsX6_neighbor := fun _ h => List.mem_cons_of_mem _ (List.mem_append_right _ h)
set_option maxRecDepth 100000 in
set_option maxHeartbeats 4000000 in
theorem c_X6_neighbor (l : Launch) (dC : Nat → ClassId) (dI : Nat → Nat → Nat) (dA : Nat → ClassId) (κ : Nat → Nat) (B : Nat) (g : Nat → Nat → Int) (h0 : Nat) (k0 : κ h0 = 1) (i : Int32) (what : Int32) (hG : hg_k g) : Met l yX6_neighbor wsX6_neighbor ({ frames := 4, cells := 0, slots := 0, locals := 85 } : Room) (hp_Pre dC dI dA κ B g [Value.ref h0, Value.int i, Value.int what]) (hp_Qi dC dI dA κ B (fun r u => g = u ∧ (g 10 1 = 0 → r.toInt = -1))) 0 0 (hp_A B) := by
  refine Met.ofW (cc := cX6_neighbor) (maxL := 3) (ret := (some .int)) (by decide) rfl ?_
  intro p e s m args below meth c s₁ Bd hml hv
  obtain ⟨rfl, hK, hN, hW, hF⟩ := hv
  have hx := Bd.exec
  have hb := Bd.bytes
  have hr := Bd.returns
  have hts := atoms_spec (ws := wsX6_neighbor) Bd.pre
  have hown : s.vm.findClass RX6 = some m.cls := findClass_of_methodNamed Bd.named
  have hlocks := Bd.notSynchronized
  have hJ : hp_J dC dI dA κ B g s.heap s.heap [] := ⟨hF, va_S.rf⟩
  have hl := lv_entry ([Value.ref h0, Value.int i, Value.int what]) (n := 3) (Nat.le_of_ble_eq_true rfl)
  rw [lg_entry_eq]
  generalize (lg_sl ([Value.ref h0, Value.int i, Value.int what]) ++ List.replicate (3 - (lg_sl ([Value.ref h0, Value.int i, Value.int what])).length) Slot.unset).toArray = ls at hl ⊢
  have hl : lv_has ls 3 [(0, .ref h0), (1, .int i), (2, .int what)] := hl
  obtain ⟨hG1, hG2, hG3, hG4, hG5, hG6, hG7, hG8⟩ := id hG
  refine lv_aload_n hx hb dX6_neighbor_0 rfl (lv_at hl 0 rfl) ?_
  refine hp_getr (C := RX6) (T := TX6) (N := 12) (ci := 6) (kd := 1) hx hb hts iX6_neighbor_X6 hown hK hJ k0 rfl rfl 4 (by decide) (hts (.fieldLink RX6 29 "NeighborBook" "known" "LNeighborBook$Neighbors;") (List.mem_of_getElem? (i := 1) rfl)) (fun _ h9 => h9) rfl dX6_neighbor_1 (fun b1 kb1 => ?_)
  refine lv_iload_n hx hb dX6_neighbor_4 rfl (lv_at hl 1 rfl) ?_
  refine hp_calli (va_runV (As := [.int i]) (rest := []) ⟨hx, hb, hml, hown, hts⟩ (c_X3_has l dC dI dA κ B g b1 kb1 i) (cwV 1 hts gX6_neighbor_X3_has rfl rfl rfl (by decide +kernel) ⟨Nat.le_of_ble_eq_true rfl, Nat.le_of_ble_eq_true rfl⟩) (hp_preV (q := (RX3, TX3, 2)) [.int i] hK hN hW hJ kb1 rfl rfl) rfl rfl hl.1 rfl (lv_room (Nat.le_of_ble_eq_true rfl)) dX6_neighbor_5 ⟨Nat.zero_le _, Nat.zero_le _⟩) hJ (fun x3 g2 H locs hp hJ => ?_)
  obtain ⟨rfl, f4⟩ := hp
  refine hq_if_ne (tgt := 13) hx hb dX6_neighbor_8 (by decide) (fun c5 => ?_) (fun c5 => ?_)
  · refine lv_aload_n hx hb dX6_neighbor_13 rfl (lv_at hl 0 rfl) ?_
    refine hp_getr (C := RX6) (T := TX6) (N := 12) (ci := 6) (kd := 1) hx hb hts iX6_neighbor_X6 hown hK hJ k0 rfl rfl 4 (by decide) (hts (.fieldLink RX6 29 "NeighborBook" "known" "LNeighborBook$Neighbors;") (List.mem_of_getElem? (i := 1) rfl)) (fun _ h9 => h9) rfl dX6_neighbor_14 (fun b6 kb6 => ?_)
    refine lv_iload_n hx hb dX6_neighbor_17 rfl (lv_at hl 1 rfl) ?_
    refine hp_callr (va_runV (As := [.int i]) (rest := []) ⟨hx, hb, hml, hown, hts⟩ (c_X3_at l dC dI dA κ B g b6 kb6 i (by omega) (by omega)) (cwV 1 hts gX6_neighbor_X3_at rfl rfl rfl (by decide +kernel) ⟨Nat.le_of_ble_eq_true rfl, Nat.le_of_ble_eq_true rfl⟩) (hp_preV (q := (RX3, TX3, 2)) [.int i] hK hN hW hJ kb6 rfl rfl) rfl rfl hl.1 rfl (lv_room (Nat.le_of_ble_eq_true rfl)) dX6_neighbor_18 ⟨Nat.zero_le _, Nat.zero_le _⟩) hJ (fun b8 g7 H locs kb8 hp hJ => ?_)
    subst hp
    refine lv_iload_n hx hb dX6_neighbor_21 rfl (lv_at hl 2 rfl) ?_
    refine hp_calli (va_runV (As := [.int what]) (rest := []) ⟨hx, hb, hml, hown, hts⟩ (c_X2_tellAbout l dC dI dA κ B g b8 kb8 what) (cwV 1 hts gX6_neighbor_X2_tellAbout rfl rfl rfl (by decide +kernel) ⟨Nat.le_of_ble_eq_true rfl, Nat.le_of_ble_eq_true rfl⟩) (hp_preV (q := (RX2, TX2, 4)) [.int what] hK hN hW hJ kb8 rfl rfl) rfl rfl hl.1 rfl (lv_room (Nat.le_of_ble_eq_true rfl)) dX6_neighbor_22 ⟨Nat.zero_le _, Nat.zero_le _⟩) hJ (fun x10 g9 H locs hp hJ => ?_)
    subst hp
    exact hp_iret hx hb hK hN hW hlocks hJ hr ⟨rfl, by omega⟩ dX6_neighbor_25
  · refine hq_iconst hx hb dX6_neighbor_11 (by decide) (by decide) (fun z11 ez11 => ?_)
    exact hp_iret hx hb hK hN hW hlocks hJ hr ⟨rfl, by omega⟩ dX6_neighbor_12
theorem iX6_content_X6 : ∀ w ∈ wsX60, w ∈ wsX6_content := fun _ h => List.mem_cons_of_mem _ (List.mem_append_left _ (List.mem_append_left _ (List.mem_append_left _ (List.mem_append_right _ h))))
theorem iX6_content_X3 : ∀ w ∈ wsX30, w ∈ wsX6_content := fun _ h => List.mem_cons_of_mem _ (List.mem_append_left _ (List.mem_append_left _ (List.mem_append_right _ h)))
theorem iX6_content_X2 : ∀ w ∈ wsX20, w ∈ wsX6_content := fun _ h => List.mem_cons_of_mem _ (List.mem_append_left _ (List.mem_append_right _ h))
theorem iX6_content_X0 : ∀ w ∈ wsX00, w ∈ wsX6_content := fun _ h => List.mem_cons_of_mem _ (List.mem_append_right _ h)
set_option maxRecDepth 100000 in
set_option maxHeartbeats 4000000 in
theorem c_X6_content (l : Launch) (dC : Nat → ClassId) (dI : Nat → Nat → Nat) (dA : Nat → ClassId) (κ : Nat → Nat) (B : Nat) (g : Nat → Nat → Int) (h0 : Nat) (k0 : κ h0 = 1) (i : Int32) (type : Int32) (k : Int32) (hG : hg_k g) : Met l yX6_content wsX6_content ({ frames := 2, cells := 0, slots := 0, locals := 43 } : Room) (hp_Pre dC dI dA κ B g [Value.ref h0, Value.int i, Value.int type, Value.int k]) (hp_Qi dC dI dA κ B (fun r u => g = u ∧ (g 10 1 = 0 → r.toInt = -1))) 0 0 (hp_A B) := by
  refine Met.ofW (cc := cX6_content) (maxL := 5) (ret := (some .int)) (by decide) rfl ?_
  intro p e s m args below meth c s₁ Bd hml hv
  obtain ⟨rfl, hK, hN, hW, hF⟩ := hv
  have hx := Bd.exec
  have hb := Bd.bytes
  have hr := Bd.returns
  have hts := atoms_spec (ws := wsX6_content) Bd.pre
  have hown : s.vm.findClass RX6 = some m.cls := findClass_of_methodNamed Bd.named
  have hlocks := Bd.notSynchronized
  have hJ : hp_J dC dI dA κ B g s.heap s.heap [] := ⟨hF, va_S.rf⟩
  have hl := lv_entry ([Value.ref h0, Value.int i, Value.int type, Value.int k]) (n := 5) (Nat.le_of_ble_eq_true rfl)
  rw [lg_entry_eq]
  generalize (lg_sl ([Value.ref h0, Value.int i, Value.int type, Value.int k]) ++ List.replicate (5 - (lg_sl ([Value.ref h0, Value.int i, Value.int type, Value.int k])).length) Slot.unset).toArray = ls at hl ⊢
  have hl : lv_has ls 5 [(0, .ref h0), (1, .int i), (2, .int type), (3, .int k)] := hl
  obtain ⟨hG1, hG2, hG3, hG4, hG5, hG6, hG7, hG8⟩ := id hG
  refine lv_aload_n hx hb dX6_content_0 rfl (lv_at hl 0 rfl) ?_
  refine hp_getr (C := RX6) (T := TX6) (N := 12) (ci := 6) (kd := 1) hx hb hts iX6_content_X6 hown hK hJ k0 rfl rfl 4 (by decide) (hts (.fieldLink RX6 29 "NeighborBook" "known" "LNeighborBook$Neighbors;") (List.mem_of_getElem? (i := 1) rfl)) (fun _ h9 => h9) rfl dX6_content_1 (fun b1 kb1 => ?_)
  refine lv_iload_n hx hb dX6_content_4 rfl (lv_at hl 1 rfl) ?_
  refine hp_calli (va_runV (As := [.int i]) (rest := []) ⟨hx, hb, hml, hown, hts⟩ (c_X3_has l dC dI dA κ B g b1 kb1 i) (cwV 1 hts gX6_content_X3_has rfl rfl rfl (by decide +kernel) ⟨Nat.le_of_ble_eq_true rfl, Nat.le_of_ble_eq_true rfl⟩) (hp_preV (q := (RX3, TX3, 2)) [.int i] hK hN hW hJ kb1 rfl rfl) rfl rfl hl.1 rfl (lv_room (Nat.le_of_ble_eq_true rfl)) dX6_content_5 ⟨Nat.zero_le _, Nat.zero_le _⟩) hJ (fun x3 g2 H locs hp hJ => ?_)
  obtain ⟨rfl, f4⟩ := hp
  refine hq_if_ne (tgt := 13) hx hb dX6_content_8 (by decide) (fun c5 => ?_) (fun c5 => ?_)
  · refine lv_aload_n hx hb dX6_content_13 rfl (lv_at hl 0 rfl) ?_
    refine hp_getr (C := RX6) (T := TX6) (N := 12) (ci := 6) (kd := 1) hx hb hts iX6_content_X6 hown hK hJ k0 rfl rfl 4 (by decide) (hts (.fieldLink RX6 29 "NeighborBook" "known" "LNeighborBook$Neighbors;") (List.mem_of_getElem? (i := 1) rfl)) (fun _ h9 => h9) rfl dX6_content_14 (fun b6 kb6 => ?_)
    refine lv_iload_n hx hb dX6_content_17 rfl (lv_at hl 1 rfl) ?_
    refine hp_callr (va_runV (As := [.int i]) (rest := []) ⟨hx, hb, hml, hown, hts⟩ (c_X3_at l dC dI dA κ B g b6 kb6 i (by omega) (by omega)) (cwV 1 hts gX6_content_X3_at rfl rfl rfl (by decide +kernel) ⟨Nat.le_of_ble_eq_true rfl, Nat.le_of_ble_eq_true rfl⟩) (hp_preV (q := (RX3, TX3, 2)) [.int i] hK hN hW hJ kb6 rfl rfl) rfl rfl hl.1 rfl (lv_room (Nat.le_of_ble_eq_true rfl)) dX6_content_18 ⟨Nat.zero_le _, Nat.zero_le _⟩) hJ (fun b8 g7 H locs kb8 hp hJ => ?_)
    subst hp
    refine hp_callr (va_runV (As := []) (rest := []) ⟨hx, hb, hml, hown, hts⟩ (c_X2_contents l dC dI dA κ B g b8 kb8) (cwV 0 hts gX6_content_X2_contents rfl rfl rfl (by decide +kernel) ⟨Nat.le_of_ble_eq_true rfl, Nat.le_of_ble_eq_true rfl⟩) (hp_preV (q := (RX2, TX2, 4)) [] hK hN hW hJ kb8 rfl rfl) rfl rfl hl.1 rfl (lv_room (Nat.le_of_ble_eq_true rfl)) dX6_content_21 ⟨Nat.zero_le _, Nat.zero_le _⟩) hJ (fun b10 g9 H locs kb10 hp hJ => ?_)
    subst hp
    refine lv_astore (lv' := [(4, .ref b10), (0, .ref h0), (1, .int i), (2, .int type), (3, .int k)]) hx hb dX6_content_24 hl (by decide) rfl (fun ls hl => ?_)
    refine lv_iload_n hx hb dX6_content_26 rfl (lv_at hl 4 rfl) ?_
    refine hq_iconst hx hb dX6_content_27 (by decide) (by decide) (fun z11 ez11 => ?_)
    refine hq_icmp_ne (tgt := 40) hx hb dX6_content_28 (by decide) (fun c12 => ?_) (fun c12 => ?_)
    · refine lv_aload hx hb dX6_content_40 (lv_at hl 0 rfl) ?_
      refine lv_iload_n hx hb dX6_content_42 rfl (lv_at hl 3 rfl) ?_
      refine lv_iload_n hx hb dX6_content_43 rfl (lv_at hl 4 rfl) ?_
      refine hp_calli (va_runV (As := [.int type, .int k]) (rest := []) ⟨hx, hb, hml, hown, hts⟩ (c_X0_byteAt l dC dI dA κ B g b10 kb10 type k) (cwV 2 hts gX6_content_X0_byteAt rfl rfl rfl (by decide +kernel) ⟨Nat.le_of_ble_eq_true rfl, Nat.le_of_ble_eq_true rfl⟩) (hp_preV (q := (RX0, TX0, 2)) [.int type, .int k] hK hN hW hJ kb10 rfl rfl) rfl rfl hl.1 rfl (lv_room (Nat.le_of_ble_eq_true rfl)) dX6_content_44 ⟨Nat.zero_le _, Nat.zero_le _⟩) hJ (fun x14 g13 H locs hp hJ => ?_)
      subst hp
      exact hp_iret hx hb hK hN hW hlocks hJ hr ⟨rfl, by omega⟩ dX6_content_47
    · refine lv_aload hx hb dX6_content_31 (lv_at hl 0 rfl) ?_
      refine lv_iload_n hx hb dX6_content_33 rfl (lv_at hl 3 rfl) ?_
      refine hp_calli (va_runV (As := [.int type]) (rest := []) ⟨hx, hb, hml, hown, hts⟩ (c_X0_sizeOf l dC dI dA κ B g b10 kb10 type) (cwV 1 hts gX6_content_X0_sizeOf rfl rfl rfl (by decide +kernel) ⟨Nat.le_of_ble_eq_true rfl, Nat.le_of_ble_eq_true rfl⟩) (hp_preV (q := (RX0, TX0, 2)) [.int type] hK hN hW hJ kb10 rfl rfl) rfl rfl hl.1 rfl (lv_room (Nat.le_of_ble_eq_true rfl)) dX6_content_34 ⟨Nat.zero_le _, Nat.zero_le _⟩) hJ (fun x16 g15 H locs hp hJ => ?_)
      obtain ⟨rfl, f17⟩ := hp
      refine lv_goto (tgt := 47) hx hb dX6_content_37 (by decide) ?_
      exact hp_iret hx hb hK hN hW hlocks hJ hr ⟨rfl, by omega⟩ dX6_content_47
  · refine hq_iconst hx hb dX6_content_11 (by decide) (by decide) (fun z18 ez18 => ?_)
    exact hp_iret hx hb hK hN hW hlocks hJ hr ⟨rfl, by omega⟩ dX6_content_12
theorem iX6_check_X6 : ∀ w ∈ wsX60, w ∈ wsX6_check := fun _ h => List.mem_cons_of_mem _ (List.mem_append_left _ (List.mem_append_left _ (List.mem_append_left _ (List.mem_append_left _ (List.mem_append_right _ h)))))
theorem iX6_check_X3 : ∀ w ∈ wsX30, w ∈ wsX6_check := fun _ h => List.mem_cons_of_mem _ (List.mem_append_left _ (List.mem_append_left _ (List.mem_append_left _ (List.mem_append_right _ h))))
theorem iX6_check_X2 : ∀ w ∈ wsX20, w ∈ wsX6_check := fun _ h => List.mem_cons_of_mem _ (List.mem_append_left _ (List.mem_append_left _ (List.mem_append_right _ h)))
theorem iX6_check_X4 : ∀ w ∈ wsX40, w ∈ wsX6_check := fun _ h => List.mem_cons_of_mem _ (List.mem_append_left _ (List.mem_append_right _ h))
theorem iX6_check_X0 : ∀ w ∈ wsX00, w ∈ wsX6_check := fun _ h => List.mem_cons_of_mem _ (List.mem_append_right _ h)
set_option maxRecDepth 100000 in
set_option maxHeartbeats 4000000 in
theorem c_X6_check (l : Launch) (dC : Nat → ClassId) (dI : Nat → Nat → Nat) (dA : Nat → ClassId) (κ : Nat → Nat) (B : Nat) (g : Nat → Nat → Int) (h0 : Nat) (k0 : κ h0 = 1) (hG : hg_k g) : Met l yX6_check wsX6_check ({ frames := 4, cells := 0, slots := 0, locals := 91 } : Room) (hp_Pre dC dI dA κ B g [Value.ref h0]) (hp_Qi dC dI dA κ B (fun r u => g = u ∧ (g 10 1 = 0 → r.toInt = 1))) 0 0 (hp_A B) := by
  refine Met.ofW (cc := cX6_check) (maxL := 3) (ret := (some .int)) (by decide) rfl ?_
  intro p e s m args below meth c s₁ Bd hml hv
  obtain ⟨rfl, hK, hN, hW, hF⟩ := hv
  have hx := Bd.exec
  have hb := Bd.bytes
  have hr := Bd.returns
  have hts := atoms_spec (ws := wsX6_check) Bd.pre
  have hown : s.vm.findClass RX6 = some m.cls := findClass_of_methodNamed Bd.named
  have hlocks := Bd.notSynchronized
  have hJ : hp_J dC dI dA κ B g s.heap s.heap [] := ⟨hF, va_S.rf⟩
  have hl := lv_entry ([Value.ref h0]) (n := 3) (Nat.le_of_ble_eq_true rfl)
  rw [lg_entry_eq]
  generalize (lg_sl ([Value.ref h0]) ++ List.replicate (3 - (lg_sl ([Value.ref h0])).length) Slot.unset).toArray = ls at hl ⊢
  have hl : lv_has ls 3 [(0, .ref h0)] := hl
  obtain ⟨hG1, hG2, hG3, hG4, hG5, hG6, hG7, hG8⟩ := id hG
  refine hq_iconst hx hb dX6_check_0 (by decide) (by decide) (fun z1 ez1 => ?_)
  refine lv_istore_n (lv' := [(1, .int z1), (0, .ref h0)]) hx hb dX6_check_1 rfl hl (by decide) rfl (fun ls hl => ?_)
  have lp3 : ∀ (nlp3 : Nat) (v2 : Int32) (H : Heap) (locs : List Loc) (ls : Array Slot), (0 ≤ v2.toInt) → (v2.toInt ≤ 12) → (13 - v2.toInt < (nlp3 : Int)) → hp_J dC dI dA κ B g s.heap H locs → lv_has ls 3 [(0, .ref h0), (1, .int v2)] → W p l e (headSpec wsX6_check ({ frames := 4, cells := 0, slots := 0, locals := 91 } : Room)).room s m ([Value.ref h0] : List Value).toArray below meth c H locs 0 0 (MQ below (hp_Qi dC dI dA κ B (fun r u => g = u ∧ (g 10 1 = 0 → r.toInt = 1))) ([Value.ref h0] : List Value).toArray s 0 0 (hp_A B)) (F0 m 2 ls []) := by
    intro nlp3
    induction nlp3 with
    | zero => intro v2 H locs ls iv5 iv6 hm4 hJ hl; exact absurd hm4 (by omega)
    | succ nlp3 ihlp3 =>
      intro v2 H locs ls iv5 iv6 hm4 hJ hl
      refine lv_iload_n hx hb dX6_check_2 rfl (lv_at hl 1 rfl) ?_
      refine lv_aload_n hx hb dX6_check_3 rfl (lv_at hl 0 rfl) ?_
      refine hp_getr (C := RX6) (T := TX6) (N := 12) (ci := 6) (kd := 1) hx hb hts iX6_check_X6 hown hK hJ k0 rfl rfl 4 (by decide) (hts (.fieldLink RX6 29 "NeighborBook" "known" "LNeighborBook$Neighbors;") (List.mem_of_getElem? (i := 1) rfl)) (fun _ h9 => h9) rfl dX6_check_4 (fun b7 kb7 => ?_)
      refine hp_calli (va_runV (As := []) (rest := [.int v2]) ⟨hx, hb, hml, hown, hts⟩ (c_X3_size l dC dI dA κ B g b7 kb7) (cwV 0 hts gX6_check_X3_size rfl rfl rfl (by decide +kernel) ⟨Nat.le_of_ble_eq_true rfl, Nat.le_of_ble_eq_true rfl⟩) (hp_preV (q := (RX3, TX3, 2)) [] hK hN hW hJ kb7 rfl rfl) rfl rfl hl.1 rfl (lv_room (Nat.le_of_ble_eq_true rfl)) dX6_check_7 ⟨Nat.zero_le _, Nat.zero_le _⟩) hJ (fun x9 g8 H locs hp hJ => ?_)
      obtain ⟨rfl, f10⟩ := hp
      refine hq_icmp_ge (tgt := 75) hx hb dX6_check_10 (by decide) (fun c11 => ?_) (fun c11 => ?_)
      · refine hq_iconst hx hb dX6_check_75 (by decide) (by decide) (fun z12 ez12 => ?_)
        exact hp_iret hx hb hK hN hW hlocks hJ hr ⟨rfl, by omega⟩ dX6_check_76
      · refine lv_aload_n hx hb dX6_check_13 rfl (lv_at hl 0 rfl) ?_
        refine hp_getr (C := RX6) (T := TX6) (N := 12) (ci := 6) (kd := 1) hx hb hts iX6_check_X6 hown hK hJ k0 rfl rfl 4 (by decide) (hts (.fieldLink RX6 29 "NeighborBook" "known" "LNeighborBook$Neighbors;") (List.mem_of_getElem? (i := 1) rfl)) (fun _ h9 => h9) rfl dX6_check_14 (fun b13 kb13 => ?_)
        refine lv_iload_n hx hb dX6_check_17 rfl (lv_at hl 1 rfl) ?_
        refine hp_callr (va_runV (As := [.int v2]) (rest := []) ⟨hx, hb, hml, hown, hts⟩ (c_X3_at l dC dI dA κ B g b13 kb13 v2 (by omega) (by omega)) (cwV 1 hts gX6_check_X3_at rfl rfl rfl (by decide +kernel) ⟨Nat.le_of_ble_eq_true rfl, Nat.le_of_ble_eq_true rfl⟩) (hp_preV (q := (RX3, TX3, 2)) [.int v2] hK hN hW hJ kb13 rfl rfl) rfl rfl hl.1 rfl (lv_room (Nat.le_of_ble_eq_true rfl)) dX6_check_18 ⟨Nat.zero_le _, Nat.zero_le _⟩) hJ (fun b15 g14 H locs kb15 hp hJ => ?_)
        subst hp
        refine hp_calli (va_runV (As := []) (rest := []) ⟨hx, hb, hml, hown, hts⟩ (c_X2_portOf l dC dI dA κ B g b15 kb15) (cwV 0 hts gX6_check_X2_portOf rfl rfl rfl (by decide +kernel) ⟨Nat.le_of_ble_eq_true rfl, Nat.le_of_ble_eq_true rfl⟩) (hp_preV (q := (RX2, TX2, 4)) [] hK hN hW hJ kb15 rfl rfl) rfl rfl hl.1 rfl (lv_room (Nat.le_of_ble_eq_true rfl)) dX6_check_21 ⟨Nat.zero_le _, Nat.zero_le _⟩) hJ (fun x17 g16 H locs hp hJ => ?_)
        subst hp
        refine lv_istore_n (lv' := [(2, .int x17), (0, .ref h0), (1, .int v2)]) hx hb dX6_check_24 rfl hl (by decide) rfl (fun ls hl => ?_)
        refine lv_iload_n hx hb dX6_check_25 rfl (lv_at hl 0 rfl) ?_
        refine hp_calli (va_runS (As := [.int x17]) (rest := []) ⟨hx, hb, hml, hown, hts⟩ (c_X6_isPort l dC dI dA κ B g x17) (va_cwS 1 hts gX6_check_X6_isPort rfl rfl rfl (by decide +kernel) ⟨Nat.le_of_ble_eq_true rfl, Nat.le_of_ble_eq_true rfl⟩) (hp_preS [.int x17] hK hN hW hJ) rfl rfl hl.1 rfl (lv_room (Nat.le_of_ble_eq_true rfl)) dX6_check_26 ⟨Nat.zero_le _, Nat.zero_le _⟩) hJ (fun x19 g18 H locs hp hJ => ?_)
        obtain ⟨rfl, f20⟩ := hp
        refine hq_if_eq (tgt := 67) hx hb dX6_check_29 (by decide) (fun c21 => ?_) (fun c21 => ?_)
        · refine hq_iconst hx hb dX6_check_67 (by decide) (by decide) (fun z22 ez22 => ?_)
          exact hp_iret hx hb hK hN hW hlocks hJ hr ⟨rfl, by omega⟩ dX6_check_68
        · refine lv_aload_n hx hb dX6_check_32 rfl (lv_at hl 1 rfl) ?_
          refine hp_getr (C := RX6) (T := TX6) (N := 12) (ci := 6) (kd := 1) hx hb hts iX6_check_X6 hown hK hJ k0 rfl rfl 3 (by decide) (hts (.fieldLink RX6 22 "NeighborBook" "ports" "[LNeighborBook$Port;") (List.mem_of_getElem? (i := 2) rfl)) (fun _ h9 => h9) rfl dX6_check_33 (fun b23 kb23 => ?_)
          refine lv_iload_n hx hb dX6_check_36 rfl (lv_at hl 0 rfl) ?_
          refine hp_aald3 (kd := 15) (n := 4) hx hb hK hJ kb23 rfl (by omega) (by omega) (hk_s15 (by omega)) dX6_check_37 (fun b24 kb24 => ?_)
          refine hp_calli (va_runV (As := []) (rest := []) ⟨hx, hb, hml, hown, hts⟩ (c_X4_isUp l dC dI dA κ B g (x17.toInt.toNat) (by omega : x17.toInt.toNat < 4) b24 kb24 hG) (cwV 0 hts gX6_check_X4_isUp rfl rfl rfl (by decide +kernel) ⟨Nat.le_of_ble_eq_true rfl, Nat.le_of_ble_eq_true rfl⟩) (hp_preV (q := (RX4, TX4, 6)) [] hK hN hW hJ kb24 (hk_t5 (by omega : x17.toInt.toNat < 4)) rfl) rfl rfl hl.1 rfl (lv_room (Nat.le_of_ble_eq_true rfl)) dX6_check_38 ⟨Nat.zero_le _, Nat.zero_le _⟩) hJ (fun x26 g25 H locs hp hJ => ?_)
          obtain ⟨rfl, f27⟩ := hp
          refine hq_if_eq (tgt := 67) hx hb dX6_check_41 (by decide) (fun c28 => ?_) (fun c28 => ?_)
          · refine hq_iconst hx hb dX6_check_67 (by decide) (by decide) (fun z29 ez29 => ?_)
            exact hp_iret hx hb hK hN hW hlocks hJ hr ⟨rfl, by omega⟩ dX6_check_68
          · refine lv_aload_n hx hb dX6_check_44 rfl (lv_at hl 1 rfl) ?_
            refine hp_getr (C := RX6) (T := TX6) (N := 12) (ci := 6) (kd := 1) hx hb hts iX6_check_X6 hown hK hJ k0 rfl rfl 4 (by decide) (hts (.fieldLink RX6 29 "NeighborBook" "known" "LNeighborBook$Neighbors;") (List.mem_of_getElem? (i := 1) rfl)) (fun _ h9 => h9) rfl dX6_check_45 (fun b30 kb30 => ?_)
            refine lv_iload_n hx hb dX6_check_48 rfl (lv_at hl 0 rfl) ?_
            refine lv_aload_n hx hb dX6_check_49 rfl (lv_at hl 1 rfl) ?_
            refine hp_getr (C := RX6) (T := TX6) (N := 12) (ci := 6) (kd := 1) hx hb hts iX6_check_X6 hown hK hJ k0 rfl rfl 4 (by decide) (hts (.fieldLink RX6 29 "NeighborBook" "known" "LNeighborBook$Neighbors;") (List.mem_of_getElem? (i := 1) rfl)) (fun _ h9 => h9) rfl dX6_check_50 (fun b31 kb31 => ?_)
            refine lv_iload_n hx hb dX6_check_53 rfl (lv_at hl 2 rfl) ?_
            refine hp_callr (va_runV (As := [.int v2]) (rest := [.int x17, .ref b30]) ⟨hx, hb, hml, hown, hts⟩ (c_X3_at l dC dI dA κ B g b31 kb31 v2 (by omega) (by omega)) (cwV 1 hts gX6_check_X3_at rfl rfl rfl (by decide +kernel) ⟨Nat.le_of_ble_eq_true rfl, Nat.le_of_ble_eq_true rfl⟩) (hp_preV (q := (RX3, TX3, 2)) [.int v2] hK hN hW hJ kb31 rfl rfl) rfl rfl hl.1 rfl (lv_room (Nat.le_of_ble_eq_true rfl)) dX6_check_54 ⟨Nat.zero_le _, Nat.zero_le _⟩) hJ (fun b33 g32 H locs kb33 hp hJ => ?_)
            subst hp
            refine hp_callr (va_runV (As := []) (rest := [.int x17, .ref b30]) ⟨hx, hb, hml, hown, hts⟩ (c_X2_contents l dC dI dA κ B g b33 kb33) (cwV 0 hts gX6_check_X2_contents rfl rfl rfl (by decide +kernel) ⟨Nat.le_of_ble_eq_true rfl, Nat.le_of_ble_eq_true rfl⟩) (hp_preV (q := (RX2, TX2, 4)) [] hK hN hW hJ kb33 rfl rfl) rfl rfl hl.1 rfl (lv_room (Nat.le_of_ble_eq_true rfl)) dX6_check_57 ⟨Nat.zero_le _, Nat.zero_le _⟩) hJ (fun b35 g34 H locs kb35 hp hJ => ?_)
            subst hp
            refine hp_calli (va_runV (As := [.int x17, .ref b35]) (rest := []) ⟨hx, hb, hml, hown, hts⟩ (c_X3_find l dC dI dA κ B g b30 kb30 x17 b35 kb35 hG) (cwV 2 hts gX6_check_X3_find rfl rfl rfl (by decide +kernel) ⟨Nat.le_of_ble_eq_true rfl, Nat.le_of_ble_eq_true rfl⟩) (hp_preV (q := (RX3, TX3, 2)) [.int x17, .ref b35] hK hN hW hJ kb30 rfl rfl) rfl rfl hl.1 rfl (lv_room (Nat.le_of_ble_eq_true rfl)) dX6_check_60 ⟨Nat.zero_le _, Nat.zero_le _⟩) hJ (fun x37 g36 H locs hp hJ => ?_)
            obtain ⟨rfl, f38⟩ := hp
            refine lv_iload_n hx hb dX6_check_63 rfl (lv_at hl 2 rfl) ?_
            refine hq_icmp_eq (tgt := 69) hx hb dX6_check_64 (by decide) (fun c39 => ?_) (fun c39 => ?_)
            · refine hq_iinc (k := 2) (lv' := fun (z9 : Int32) => [(1, .int z9), (2, .int x17), (0, .ref h0)]) hx hb dX6_check_69 hl rfl (by decide) (by decide) (by omega) (by omega) (by decide) (fun _ => rfl) (fun x40 ls ex40 hl => ?_)
              have hl : lv_has ls 3 [(1, .int x40), (2, .int x17), (0, .ref h0)] := hl
              refine lv_goto (tgt := 2) hx hb dX6_check_72 (by decide) ?_
              exact ihlp3 x40 _ _ ls (by omega) (by omega) (by omega) hJ (lv_sub hl [2, 0] rfl)
            · refine hq_iconst hx hb dX6_check_67 (by decide) (by decide) (fun z41 ez41 => ?_)
              exact hp_iret hx hb hK hN hW hlocks hJ hr ⟨rfl, by omega⟩ dX6_check_68
  exact lp3 ((13 - z1.toInt).toNat + 1) z1 _ _ ls (by omega) (by omega) (by omega) hJ (lv_sub hl [1, 0] rfl)
