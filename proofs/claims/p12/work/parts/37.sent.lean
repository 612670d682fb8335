theorem iX5_length_X5 : ∀ w ∈ wsX50, w ∈ wsX5_length := fun _ h => List.mem_cons_of_mem _ (List.mem_append_right _ h)
set_option maxRecDepth 100000 in
set_option maxHeartbeats 4000000 in
theorem e_X5_length (l : Launch) (dC : Nat → ClassId) (dI : Nat → Nat → Nat) (dA : Nat → ClassId) (κ : Nat → Nat) (B : Nat) (g : Nat → Nat → Int) (h0 : Nat) (k0 : κ h0 = 4) : Met l yX5_length wsX5_length ({ frames := 0, cells := 0, slots := 0, locals := 0 } : Room) (he_Pre dC dI dA κ B g [Value.ref h0]) (he_Qi dC dI dA κ B (fun r u => g = u)) 0 0 (hp_A B) := by
  refine Met.ofW (cc := cX5_length) (maxL := 1) (ret := (some .int)) (by decide) rfl ?_
  intro p e s m args below meth c s₁ Bd hml hv
  obtain ⟨rfl, hK, hN, hW, hF⟩ := hv
  have hx := Bd.exec
  have hb := Bd.bytes
  have hr := Bd.returns
  have hts := atoms_spec (ws := wsX5_length) Bd.pre
  have hown : s.vm.findClass RX5 = some m.cls := findClass_of_methodNamed Bd.named
  have hlocks := Bd.notSynchronized
  have hJ : he_J dC dI dA κ B g s.heap s.heap [] := ⟨hF, va_S.rf⟩
  have hl := lv_entry ([Value.ref h0]) (n := 1) (Nat.le_of_ble_eq_true rfl)
  rw [lg_entry_eq]
  generalize (lg_sl ([Value.ref h0]) ++ List.replicate (1 - (lg_sl ([Value.ref h0])).length) Slot.unset).toArray = ls at hl ⊢
  have hl : lv_has ls 1 [(0, .ref h0)] := hl
  refine lv_aload_n hx hb dX5_length_0 rfl (lv_at hl 0 rfl) ?_
  refine he_geti (C := RX5) (T := TX5) (N := 3) (ci := 5) (kd := 4) hx hb hts iX5_length_X5 hown hK hJ k0 rfl rfl 1 (by decide) (hts (.fieldLink RX5 19 "NeighborBook$SentFrame" "length" "I") (List.mem_of_getElem? (i := 1) rfl)) (fun _ h9 => h9) rfl rfl dX5_length_1 (fun x1 ex1 => ?_)
  have ex1 : x1.toInt = g 4 1 ∧ 0 ≤ x1.toInt ∧ x1.toInt ≤ 439 := ex1
  exact he_iret hx hb hK hN hW hlocks hJ hr rfl dX5_length_4
theorem iX5_portOf_X5 : ∀ w ∈ wsX50, w ∈ wsX5_portOf := fun _ h => List.mem_cons_of_mem _ (List.mem_append_right _ h)
set_option maxRecDepth 100000 in
set_option maxHeartbeats 4000000 in
theorem e_X5_portOf (l : Launch) (dC : Nat → ClassId) (dI : Nat → Nat → Nat) (dA : Nat → ClassId) (κ : Nat → Nat) (B : Nat) (g : Nat → Nat → Int) (h0 : Nat) (k0 : κ h0 = 4) : Met l yX5_portOf wsX5_portOf ({ frames := 0, cells := 0, slots := 0, locals := 0 } : Room) (he_Pre dC dI dA κ B g [Value.ref h0]) (he_Qi dC dI dA κ B (fun r u => g = u)) 0 0 (hp_A B) := by
  refine Met.ofW (cc := cX5_portOf) (maxL := 1) (ret := (some .int)) (by decide) rfl ?_
  intro p e s m args below meth c s₁ Bd hml hv
  obtain ⟨rfl, hK, hN, hW, hF⟩ := hv
  have hx := Bd.exec
  have hb := Bd.bytes
  have hr := Bd.returns
  have hts := atoms_spec (ws := wsX5_portOf) Bd.pre
  have hown : s.vm.findClass RX5 = some m.cls := findClass_of_methodNamed Bd.named
  have hlocks := Bd.notSynchronized
  have hJ : he_J dC dI dA κ B g s.heap s.heap [] := ⟨hF, va_S.rf⟩
  have hl := lv_entry ([Value.ref h0]) (n := 1) (Nat.le_of_ble_eq_true rfl)
  rw [lg_entry_eq]
  generalize (lg_sl ([Value.ref h0]) ++ List.replicate (1 - (lg_sl ([Value.ref h0])).length) Slot.unset).toArray = ls at hl ⊢
  have hl : lv_has ls 1 [(0, .ref h0)] := hl
  refine lv_aload_n hx hb dX5_portOf_0 rfl (lv_at hl 0 rfl) ?_
  refine he_geti (C := RX5) (T := TX5) (N := 3) (ci := 5) (kd := 4) hx hb hts iX5_portOf_X5 hown hK hJ k0 rfl rfl 2 (by decide) (hts (.fieldLink RX5 15 "NeighborBook$SentFrame" "port" "I") (List.mem_of_getElem? (i := 1) rfl)) (fun _ h9 => h9) rfl rfl dX5_portOf_1 (fun x1 ex1 => ?_)
  have ex1 : x1.toInt = g 4 2 := ex1
  exact he_iret hx hb hK hN hW hlocks hJ hr rfl dX5_portOf_4
theorem iX5_byteAt_X5 : ∀ w ∈ wsX50, w ∈ wsX5_byteAt := fun _ h => List.mem_cons_of_mem _ (List.mem_append_right _ h)
set_option maxRecDepth 100000 in
set_option maxHeartbeats 4000000 in
theorem e_X5_byteAt (l : Launch) (dC : Nat → ClassId) (dI : Nat → Nat → Nat) (dA : Nat → ClassId) (κ : Nat → Nat) (B : Nat) (g : Nat → Nat → Int) (h0 : Nat) (k0 : κ h0 = 4) (k : Int32) : Met l yX5_byteAt wsX5_byteAt ({ frames := 0, cells := 0, slots := 0, locals := 0 } : Room) (he_Pre dC dI dA κ B g [Value.ref h0, Value.int k]) (he_Qi dC dI dA κ B (fun r u => g = u)) 0 0 (hp_A B) := by
  refine Met.ofW (cc := cX5_byteAt) (maxL := 2) (ret := (some .int)) (by decide) rfl ?_
  intro p e s m args below meth c s₁ Bd hml hv
  obtain ⟨rfl, hK, hN, hW, hF⟩ := hv
  have hx := Bd.exec
  have hb := Bd.bytes
  have hr := Bd.returns
  have hts := atoms_spec (ws := wsX5_byteAt) Bd.pre
  have hown : s.vm.findClass RX5 = some m.cls := findClass_of_methodNamed Bd.named
  have hlocks := Bd.notSynchronized
  have hJ : he_J dC dI dA κ B g s.heap s.heap [] := ⟨hF, va_S.rf⟩
  have hl := lv_entry ([Value.ref h0, Value.int k]) (n := 2) (Nat.le_of_ble_eq_true rfl)
  rw [lg_entry_eq]
  generalize (lg_sl ([Value.ref h0, Value.int k]) ++ List.replicate (2 - (lg_sl ([Value.ref h0, Value.int k])).length) Slot.unset).toArray = ls at hl ⊢
  have hl : lv_has ls 2 [(0, .ref h0), (1, .int k)] := hl
  refine lv_iload_n hx hb dX5_byteAt_0 rfl (lv_at hl 1 rfl) ?_
  refine hq_if_lt (tgt := 25) hx hb dX5_byteAt_1 (by decide) (fun c1 => ?_) (fun c1 => ?_)
  · refine hq_iconst hx hb dX5_byteAt_25 (by decide) (by decide) (fun z2 ez2 => ?_)
    exact he_iret hx hb hK hN hW hlocks hJ hr rfl dX5_byteAt_26
  · refine lv_iload_n hx hb dX5_byteAt_4 rfl (lv_at hl 1 rfl) ?_
    refine lv_aload_n hx hb dX5_byteAt_5 rfl (lv_at hl 0 rfl) ?_
    refine he_geti (C := RX5) (T := TX5) (N := 3) (ci := 5) (kd := 4) hx hb hts iX5_byteAt_X5 hown hK hJ k0 rfl rfl 1 (by decide) (hts (.fieldLink RX5 19 "NeighborBook$SentFrame" "length" "I") (List.mem_of_getElem? (i := 1) rfl)) (fun _ h9 => h9) rfl rfl dX5_byteAt_6 (fun x3 ex3 => ?_)
    have ex3 : x3.toInt = g 4 1 ∧ 0 ≤ x3.toInt ∧ x3.toInt ≤ 439 := ex3
    refine hq_icmp_ge (tgt := 25) hx hb dX5_byteAt_9 (by decide) (fun c4 => ?_) (fun c4 => ?_)
    · refine hq_iconst hx hb dX5_byteAt_25 (by decide) (by decide) (fun z5 ez5 => ?_)
      exact he_iret hx hb hK hN hW hlocks hJ hr rfl dX5_byteAt_26
    · refine lv_aload_n hx hb dX5_byteAt_12 rfl (lv_at hl 0 rfl) ?_
      refine he_getr (C := RX5) (T := TX5) (N := 3) (ci := 5) (kd := 4) hx hb hts iX5_byteAt_X5 hown hK hJ k0 rfl rfl 0 (by decide) (hts (.fieldLink RX5 9 "NeighborBook$SentFrame" "bytes" "[B") (List.mem_of_getElem? (i := 2) rfl)) (fun _ h9 => h9) rfl dX5_byteAt_13 (fun b6 kb6 => ?_)
      refine lv_iload_n hx hb dX5_byteAt_16 rfl (lv_at hl 1 rfl) ?_
      refine he_bald (kd := 17) (n := 439) hx hb hK hJ kb6 rfl (by omega) (by omega) (sp := (5, 0)) rfl rfl dX5_byteAt_17 (fun x7 ex7 => ?_)
      have ex7 : -128 ≤ x7.toInt ∧ x7.toInt ≤ 127 := ex7
      refine hq_sipush hx hb dX5_byteAt_18 (by decide) (fun z8 ez8 => ?_)
      refine hq_iandm (k := 8) hx hb dX5_byteAt_21 ez8 (by decide) (fun x9 ex9 => ?_)
      refine lv_goto (tgt := 26) hx hb dX5_byteAt_22 (by decide) ?_
      exact he_iret hx hb hK hN hW hlocks hJ hr rfl dX5_byteAt_26
theorem iX5_putByte_X5 : ∀ w ∈ wsX50, w ∈ wsX5_putByte := fun _ h => List.mem_cons_of_mem _ (List.mem_append_right _ h)
set_option maxRecDepth 100000 in
set_option maxHeartbeats 4000000 in
theorem e_X5_putByte (l : Launch) (dC : Nat → ClassId) (dI : Nat → Nat → Nat) (dA : Nat → ClassId) (κ : Nat → Nat) (B : Nat) (g : Nat → Nat → Int) (h0 : Nat) (k0 : κ h0 = 4) (value : Int32) : Met l yX5_putByte wsX5_putByte ({ frames := 0, cells := 0, slots := 0, locals := 0 } : Room) (he_Pre dC dI dA κ B g [Value.ref h0, Value.int value]) (he_Qv dC dI dA κ B (fun u => hg_Q (fun a b => a = 4) g u)) 0 0 (hp_A B) := by
  refine Met.ofW (cc := cX5_putByte) (maxL := 2) (ret := none) (by decide) rfl ?_
  intro p e s m args below meth c s₁ Bd hml hv
  obtain ⟨rfl, hK, hN, hW, hF⟩ := hv
  have hx := Bd.exec
  have hb := Bd.bytes
  have hr := Bd.returns
  have hts := atoms_spec (ws := wsX5_putByte) Bd.pre
  have hown : s.vm.findClass RX5 = some m.cls := findClass_of_methodNamed Bd.named
  have hlocks := Bd.notSynchronized
  have hJ : he_J dC dI dA κ B g s.heap s.heap [] := ⟨hF, va_S.rf⟩
  have hl := lv_entry ([Value.ref h0, Value.int value]) (n := 2) (Nat.le_of_ble_eq_true rfl)
  rw [lg_entry_eq]
  generalize (lg_sl ([Value.ref h0, Value.int value]) ++ List.replicate (2 - (lg_sl ([Value.ref h0, Value.int value])).length) Slot.unset).toArray = ls at hl ⊢
  have hl : lv_has ls 2 [(0, .ref h0), (1, .int value)] := hl
  refine lv_aload_n hx hb dX5_putByte_0 rfl (lv_at hl 0 rfl) ?_
  refine he_geti (C := RX5) (T := TX5) (N := 3) (ci := 5) (kd := 4) hx hb hts iX5_putByte_X5 hown hK hJ k0 rfl rfl 1 (by decide) (hts (.fieldLink RX5 19 "NeighborBook$SentFrame" "length" "I") (List.mem_of_getElem? (i := 1) rfl)) (fun _ h9 => h9) rfl rfl dX5_putByte_1 (fun x1 ex1 => ?_)
  have ex1 : x1.toInt = g 4 1 ∧ 0 ≤ x1.toInt ∧ x1.toInt ≤ 439 := ex1
  refine hq_sipush hx hb dX5_putByte_4 (by decide) (fun z2 ez2 => ?_)
  refine hq_icmp_ge (tgt := 31) hx hb dX5_putByte_7 (by decide) (fun c3 => ?_) (fun c3 => ?_)
  · exact he_vret hx hb hK hN hW hlocks hJ hr hg_Q.rf dX5_putByte_31
  · refine lv_aload_n hx hb dX5_putByte_10 rfl (lv_at hl 0 rfl) ?_
    refine he_getr (C := RX5) (T := TX5) (N := 3) (ci := 5) (kd := 4) hx hb hts iX5_putByte_X5 hown hK hJ k0 rfl rfl 0 (by decide) (hts (.fieldLink RX5 9 "NeighborBook$SentFrame" "bytes" "[B") (List.mem_of_getElem? (i := 2) rfl)) (fun _ h9 => h9) rfl dX5_putByte_11 (fun b4 kb4 => ?_)
    refine lv_aload_n hx hb dX5_putByte_14 rfl (lv_at hl 0 rfl) ?_
    refine he_geti (C := RX5) (T := TX5) (N := 3) (ci := 5) (kd := 4) hx hb hts iX5_putByte_X5 hown hK hJ k0 rfl rfl 1 (by decide) (hts (.fieldLink RX5 19 "NeighborBook$SentFrame" "length" "I") (List.mem_of_getElem? (i := 1) rfl)) (fun _ h9 => h9) rfl rfl dX5_putByte_15 (fun x5 ex5 => ?_)
    have ex5 : x5.toInt = g 4 1 ∧ 0 ≤ x5.toInt ∧ x5.toInt ≤ 439 := ex5
    refine lv_iload_n hx hb dX5_putByte_18 rfl (lv_at hl 1 rfl) ?_
    refine hq_i2bb hx hb dX5_putByte_19 (fun x6 ex6 => ?_)
    refine he_bast (kd := 17) (n := 439) hx hb hK hJ kb4 rfl (by omega) (by omega) (by decide) hW rfl dX5_putByte_20 (fun H locs hJ => ?_)
    refine lv_aload_n hx hb dX5_putByte_21 rfl (lv_at hl 0 rfl) ?_
    refine lv_dup hx hb dX5_putByte_22 rfl ?_
    refine he_geti (C := RX5) (T := TX5) (N := 3) (ci := 5) (kd := 4) hx hb hts iX5_putByte_X5 hown hK hJ k0 rfl rfl 1 (by decide) (hts (.fieldLink RX5 19 "NeighborBook$SentFrame" "length" "I") (List.mem_of_getElem? (i := 1) rfl)) (fun _ h9 => h9) rfl rfl dX5_putByte_23 (fun x7 ex7 => ?_)
    have ex7 : x7.toInt = g 4 1 ∧ 0 ≤ x7.toInt ∧ x7.toInt ≤ 439 := ex7
    refine hq_iconst hx hb dX5_putByte_26 (by decide) (by decide) (fun z8 ez8 => ?_)
    refine hq_iadd hx hb dX5_putByte_27 (by omega) (by omega) (fun x9 ex9 => ?_)
    refine he_putx (C := RX5) (T := TX5) (N := 3) (ci := 5) (kd := 4) hx hb hts iX5_putByte_X5 hown hK hJ k0 rfl rfl 1 (by decide) (hts (.fieldLink RX5 19 "NeighborBook$SentFrame" "length" "I") (List.mem_of_getElem? (i := 1) rfl)) (fun _ h9 => h9) tyX5 tyX5_ok nmX5 (x := x9) rfl rfl (by decide) hW rfl rfl rfl rfl (show x9.toInt = x9.toInt ∧ 0 ≤ x9.toInt ∧ x9.toInt ≤ 439 from ⟨rfl, by omega, by omega⟩) dX5_putByte_28 (fun g10 H locs eg10 ng10 hJ => ?_)
    have eg10 : g10 4 1 = x9.toInt := eg10
    have P11 : hg_Q (fun a b => a = 4) g g10 := hg_Q.put hg_Q.rf ng10 (show 4 = 4 from by omega)
    exact he_vret hx hb hK hN hW hlocks hJ hr P11 dX5_putByte_31
theorem iX5_putHead_X5 : ∀ w ∈ wsX50, w ∈ wsX5_putHead := fun _ h => List.mem_cons_of_mem _ (List.mem_append_right _ h)
set_option maxRecDepth 100000 in
set_option maxHeartbeats 4000000 in
theorem e_X5_putHead (l : Launch) (dC : Nat → ClassId) (dI : Nat → Nat → Nat) (dA : Nat → ClassId) (κ : Nat → Nat) (B : Nat) (g : Nat → Nat → Int) (h0 : Nat) (k0 : κ h0 = 4) (type : Int32) (size : Int32) : Met l yX5_putHead wsX5_putHead ({ frames := 1, cells := 0, slots := 0, locals := 21 } : Room) (he_Pre dC dI dA κ B g [Value.ref h0, Value.int type, Value.int size]) (he_Qv dC dI dA κ B (fun u => hg_Q (fun a b => a = 4) g u)) 0 0 (hp_A B) := by
  refine Met.ofW (cc := cX5_putHead) (maxL := 4) (ret := none) (by decide) rfl ?_
  intro p e s m args below meth c s₁ Bd hml hv
  obtain ⟨rfl, hK, hN, hW, hF⟩ := hv
  have hx := Bd.exec
  have hb := Bd.bytes
  have hr := Bd.returns
  have hts := atoms_spec (ws := wsX5_putHead) Bd.pre
  have hown : s.vm.findClass RX5 = some m.cls := findClass_of_methodNamed Bd.named
  have hlocks := Bd.notSynchronized
  have hJ : he_J dC dI dA κ B g s.heap s.heap [] := ⟨hF, va_S.rf⟩
  have hl := lv_entry ([Value.ref h0, Value.int type, Value.int size]) (n := 4) (Nat.le_of_ble_eq_true rfl)
  rw [lg_entry_eq]
  generalize (lg_sl ([Value.ref h0, Value.int type, Value.int size]) ++ List.replicate (4 - (lg_sl ([Value.ref h0, Value.int type, Value.int size])).length) Slot.unset).toArray = ls at hl ⊢
  have hl : lv_has ls 4 [(0, .ref h0), (1, .int type), (2, .int size)] := hl
  refine lv_iload_n hx hb dX5_putHead_0 rfl (lv_at hl 1 rfl) ?_
  refine hq_bipush hx hb dX5_putHead_1 (by decide) (fun z1 ez1 => ?_)
  refine hq_ishlU hx hb dX5_putHead_3 (fun x2 => ?_)
  refine lv_iload_n hx hb dX5_putHead_4 rfl (lv_at hl 2 rfl) ?_
  refine hq_iorU hx hb dX5_putHead_5 (fun x3 => ?_)
  refine lv_istore_n (lv' := [(3, .int x3), (0, .ref h0), (1, .int type), (2, .int size)]) hx hb dX5_putHead_6 rfl hl (by decide) rfl (fun ls hl => ?_)
  refine lv_aload_n hx hb dX5_putHead_7 rfl (lv_at hl 1 rfl) ?_
  refine lv_iload_n hx hb dX5_putHead_8 rfl (lv_at hl 0 rfl) ?_
  refine hq_bipush hx hb dX5_putHead_9 (by decide) (fun z4 ez4 => ?_)
  refine hq_ishrU hx hb dX5_putHead_11 (fun x5 => ?_)
  refine he_callv (va_runV (As := [.int x5]) (rest := []) ⟨hx, hb, hml, hown, hts⟩ (e_X5_putByte l dC dI dA κ B g h0 k0 x5) (cwV 1 hts gX5_putHead_X5_putByte rfl rfl rfl (by decide +kernel) ⟨Nat.le_of_ble_eq_true rfl, Nat.le_of_ble_eq_true rfl⟩) (he_preV (q := (RX5, TX5, 3)) [.int x5] hK hN hW hJ k0 rfl rfl) rfl rfl hl.1 rfl (lv_room (Nat.le_of_ble_eq_true rfl)) dX5_putHead_12 ⟨Nat.zero_le _, Nat.zero_le _⟩) hJ (fun g6 H locs hp hJ => ?_)
  have P8a := hp
  have P8 : hg_Q (fun a b => a = 4) g g6 := (hg_Q.le P8a (fun a b h9 => by have h9 : a = 4 := h9; show a = 4; omega))
  refine lv_aload_n hx hb dX5_putHead_15 rfl (lv_at hl 1 rfl) ?_
  refine lv_iload_n hx hb dX5_putHead_16 rfl (lv_at hl 0 rfl) ?_
  refine he_callv (va_runV (As := [.int x3]) (rest := []) ⟨hx, hb, hml, hown, hts⟩ (e_X5_putByte l dC dI dA κ B g6 h0 k0 x3) (cwV 1 hts gX5_putHead_X5_putByte rfl rfl rfl (by decide +kernel) ⟨Nat.le_of_ble_eq_true rfl, Nat.le_of_ble_eq_true rfl⟩) (he_preV (q := (RX5, TX5, 3)) [.int x3] hK hN hW hJ k0 rfl rfl) rfl rfl hl.1 rfl (lv_room (Nat.le_of_ble_eq_true rfl)) dX5_putHead_17 ⟨Nat.zero_le _, Nat.zero_le _⟩) hJ (fun g9 H locs hp hJ => ?_)
  have P11a := hp
  have P11 : hg_Q (fun a b => a = 4) g g9 := hg_Q.tr P8 (hg_Q.le P11a (fun a b h9 => by have h9 : a = 4 := h9; show a = 4; omega))
  exact he_vret hx hb hK hN hW hlocks hJ hr P11 dX5_putHead_20
theorem iX5_putContent_X0 : ∀ w ∈ wsX00, w ∈ wsX5_putContent := fun _ h => List.mem_cons_of_mem _ (List.mem_append_left _ (List.mem_append_right _ h))
theorem iX5_putContent_X5 : ∀ w ∈ wsX50, w ∈ wsX5_putContent := fun _ h => List.mem_cons_of_mem _ (List.mem_append_right _ h)
set_option maxRecDepth 100000 in
set_option maxHeartbeats 4000000 in
theorem e_X5_putContent (l : Launch) (dC : Nat → ClassId) (dI : Nat → Nat → Nat) (dA : Nat → ClassId) (κ : Nat → Nat) (B : Nat) (g : Nat → Nat → Int) (cq : Nat) (hcq : cq < 14) (h0 : Nat) (k0 : κ h0 = 4) (type : Int32) (told : Nat) (ktold : κ told = 320 + cq) : Met l yX5_putContent wsX5_putContent ({ frames := 2, cells := 0, slots := 0, locals := 43 } : Room) (he_Pre dC dI dA κ B g [Value.ref h0, Value.int type, Value.ref told]) (he_Qv dC dI dA κ B (fun u => hg_Q (fun a b => a = 4) g u)) 0 0 (hp_A B) := by
  refine Met.ofW (cc := cX5_putContent) (maxL := 5) (ret := none) (by decide) rfl ?_
  intro p e s m args below meth c s₁ Bd hml hv
  obtain ⟨rfl, hK, hN, hW, hF⟩ := hv
  have hx := Bd.exec
  have hb := Bd.bytes
  have hr := Bd.returns
  have hts := atoms_spec (ws := wsX5_putContent) Bd.pre
  have hown : s.vm.findClass RX5 = some m.cls := findClass_of_methodNamed Bd.named
  have hlocks := Bd.notSynchronized
  have hJ : he_J dC dI dA κ B g s.heap s.heap [] := ⟨hF, va_S.rf⟩
  have hl := lv_entry ([Value.ref h0, Value.int type, Value.ref told]) (n := 5) (Nat.le_of_ble_eq_true rfl)
  rw [lg_entry_eq]
  generalize (lg_sl ([Value.ref h0, Value.int type, Value.ref told]) ++ List.replicate (5 - (lg_sl ([Value.ref h0, Value.int type, Value.ref told])).length) Slot.unset).toArray = ls at hl ⊢
  have hl : lv_has ls 5 [(0, .ref h0), (1, .int type), (2, .ref told)] := hl
  refine lv_aload_n hx hb dX5_putContent_0 rfl (lv_at hl 2 rfl) ?_
  refine lv_iload_n hx hb dX5_putContent_1 rfl (lv_at hl 1 rfl) ?_
  refine he_calli (va_runV (As := [.int type]) (rest := []) ⟨hx, hb, hml, hown, hts⟩ (e_X0_sizeOf l dC dI dA κ B g (cq) (by omega) told ktold type) (cwV 1 hts gX5_putContent_X0_sizeOf rfl rfl rfl (by decide +kernel) ⟨Nat.le_of_ble_eq_true rfl, Nat.le_of_ble_eq_true rfl⟩) (he_preV (q := (RX0, TX0, 2)) [.int type] hK hN hW hJ ktold (hk_t320 (by omega)) rfl) rfl rfl hl.1 rfl (lv_room (Nat.le_of_ble_eq_true rfl)) dX5_putContent_2 ⟨Nat.zero_le _, Nat.zero_le _⟩) hJ (fun x2 g1 H locs hp hJ => ?_)
  obtain ⟨rfl, f3⟩ := hp
  refine lv_istore_n (lv' := [(3, .int x2), (0, .ref h0), (1, .int type), (2, .ref told)]) hx hb dX5_putContent_5 rfl hl (by decide) rfl (fun ls hl => ?_)
  refine hq_iconst hx hb dX5_putContent_6 (by decide) (by decide) (fun z4 ez4 => ?_)
  refine lv_istore (lv' := [(4, .int z4), (3, .int x2), (0, .ref h0), (1, .int type), (2, .ref told)]) hx hb dX5_putContent_7 hl (by decide) rfl (fun ls hl => ?_)
  have lp7 : ∀ (nlp7 : Nat) (v5 : Int32) (g6 : Nat → Nat → Int) (H : Heap) (locs : List Loc) (ls : Array Slot), (hg_Q (fun a b => a = 4) g g6) → (0 ≤ v5.toInt) → (v5.toInt ≤ 60) → (61 - v5.toInt < (nlp7 : Int)) → he_J dC dI dA κ B g6 s.heap H locs → lv_has ls 5 [(0, .ref h0), (1, .int type), (2, .ref told), (3, .int x2), (4, .int v5)] → W p l e (headSpec wsX5_putContent ({ frames := 2, cells := 0, slots := 0, locals := 43 } : Room)).room s m ([Value.ref h0, Value.int type, Value.ref told] : List Value).toArray below meth c H locs 0 0 (MQ below (he_Qv dC dI dA κ B (fun u => hg_Q (fun a b => a = 4) g u)) ([Value.ref h0, Value.int type, Value.ref told] : List Value).toArray s 0 0 (hp_A B)) (F0 m 9 ls []) := by
    intro nlp7
    induction nlp7 with
    | zero => intro v5 g6 H locs ls iv9 iv10 iv11 hm8 hJ hl; exact absurd hm8 (by omega)
    | succ nlp7 ihlp7 =>
      intro v5 g6 H locs ls iv9 iv10 iv11 hm8 hJ hl
      refine lv_iload hx hb dX5_putContent_9 (lv_at hl 4 rfl) ?_
      refine lv_iload_n hx hb dX5_putContent_11 rfl (lv_at hl 3 rfl) ?_
      refine hq_icmp_ge (tgt := 32) hx hb dX5_putContent_12 (by decide) (fun c12 => ?_) (fun c12 => ?_)
      · exact he_vret hx hb hK hN hW hlocks hJ hr iv9 dX5_putContent_32
      · refine lv_aload_n hx hb dX5_putContent_15 rfl (lv_at hl 0 rfl) ?_
        refine lv_aload_n hx hb dX5_putContent_16 rfl (lv_at hl 2 rfl) ?_
        refine lv_iload_n hx hb dX5_putContent_17 rfl (lv_at hl 1 rfl) ?_
        refine lv_iload hx hb dX5_putContent_18 (lv_at hl 4 rfl) ?_
        refine he_calli (va_runV (As := [.int type, .int v5]) (rest := [.ref h0]) ⟨hx, hb, hml, hown, hts⟩ (e_X0_byteAt l dC dI dA κ B g6 (cq) (by omega) told ktold type v5) (cwV 2 hts gX5_putContent_X0_byteAt rfl rfl rfl (by decide +kernel) ⟨Nat.le_of_ble_eq_true rfl, Nat.le_of_ble_eq_true rfl⟩) (he_preV (q := (RX0, TX0, 2)) [.int type, .int v5] hK hN hW hJ ktold (hk_t320 (by omega)) rfl) rfl rfl hl.1 rfl (lv_room (Nat.le_of_ble_eq_true rfl)) dX5_putContent_20 ⟨Nat.zero_le _, Nat.zero_le _⟩) hJ (fun x14 g13 H locs hp hJ => ?_)
        obtain ⟨rfl, f15⟩ := hp
        refine he_callv (va_runV (As := [.int x14]) (rest := []) ⟨hx, hb, hml, hown, hts⟩ (e_X5_putByte l dC dI dA κ B g6 h0 k0 x14) (cwV 1 hts gX5_putContent_X5_putByte rfl rfl rfl (by decide +kernel) ⟨Nat.le_of_ble_eq_true rfl, Nat.le_of_ble_eq_true rfl⟩) (he_preV (q := (RX5, TX5, 3)) [.int x14] hK hN hW hJ k0 rfl rfl) rfl rfl hl.1 rfl (lv_room (Nat.le_of_ble_eq_true rfl)) dX5_putContent_23 ⟨Nat.zero_le _, Nat.zero_le _⟩) hJ (fun g16 H locs hp hJ => ?_)
        have P18a := hp
        have P18 : hg_Q (fun a b => a = 4) g g16 := hg_Q.tr iv9 (hg_Q.le P18a (fun a b h9 => by have h9 : a = 4 := h9; show a = 4; omega))
        refine hq_iinc (k := 4) (lv' := fun (z9 : Int32) => [(4, .int z9), (0, .ref h0), (1, .int type), (2, .ref told), (3, .int x2)]) hx hb dX5_putContent_26 hl rfl (by decide) (by decide) (by omega) (by omega) (by decide) (fun _ => rfl) (fun x19 ls ex19 hl => ?_)
        have hl : lv_has ls 5 [(4, .int x19), (0, .ref h0), (1, .int type), (2, .ref told), (3, .int x2)] := hl
        refine lv_goto (tgt := 9) hx hb dX5_putContent_29 (by decide) ?_
        exact ihlp7 x19 g16 _ _ ls P18 (by omega) (by omega) (by omega) hJ (lv_sub hl [1, 2, 3, 4, 0] rfl)
  exact lp7 ((61 - z4.toInt).toNat + 1) z4 g _ _ ls hg_Q.rf (by omega) (by omega) (by omega) hJ (lv_sub hl [2, 3, 4, 1, 0] rfl)
theorem iX5_write_X5 : ∀ w ∈ wsX50, w ∈ wsX5_write := fun _ h => List.mem_cons_of_mem _ (List.mem_append_left _ (List.mem_append_right _ h))
theorem iX5_write_X0 : ∀ w ∈ wsX00, w ∈ wsX5_write := fun _ h => List.mem_cons_of_mem _ (List.mem_append_right _ h)
set_option maxRecDepth 100000 in
set_option maxHeartbeats 4000000 in
theorem e_X5_write (l : Launch) (dC : Nat → ClassId) (dI : Nat → Nat → Nat) (dA : Nat → ClassId) (κ : Nat → Nat) (B : Nat) (g : Nat → Nat → Int) (cq : Nat) (hcq : cq < 14) (h0 : Nat) (k0 : κ h0 = 4) (p1 : Int32) (told : Nat) (ktold : κ told = 320 + cq) (held : Int32) : Met l yX5_write wsX5_write ({ frames := 3, cells := 0, slots := 0, locals := 67 } : Room) (he_Pre dC dI dA κ B g [Value.ref h0, Value.int p1, Value.ref told, Value.int held]) (he_Qv dC dI dA κ B (fun u => hg_Q (fun a b => a = 4) g u)) 0 0 (hp_A B) := by
  refine Met.ofW (cc := cX5_write) (maxL := 5) (ret := none) (by decide) rfl ?_
  intro p e s m args below meth c s₁ Bd hml hv
  obtain ⟨rfl, hK, hN, hW, hF⟩ := hv
  have hx := Bd.exec
  have hb := Bd.bytes
  have hr := Bd.returns
  have hts := atoms_spec (ws := wsX5_write) Bd.pre
  have hown : s.vm.findClass RX5 = some m.cls := findClass_of_methodNamed Bd.named
  have hlocks := Bd.notSynchronized
  have hJ : he_J dC dI dA κ B g s.heap s.heap [] := ⟨hF, va_S.rf⟩
  have hl := lv_entry ([Value.ref h0, Value.int p1, Value.ref told, Value.int held]) (n := 5) (Nat.le_of_ble_eq_true rfl)
  rw [lg_entry_eq]
  generalize (lg_sl ([Value.ref h0, Value.int p1, Value.ref told, Value.int held]) ++ List.replicate (5 - (lg_sl ([Value.ref h0, Value.int p1, Value.ref told, Value.int held])).length) Slot.unset).toArray = ls at hl ⊢
  have hl : lv_has ls 5 [(0, .ref h0), (1, .int p1), (2, .ref told), (3, .int held)] := hl
  refine lv_aload_n hx hb dX5_write_0 rfl (lv_at hl 0 rfl) ?_
  refine lv_iload_n hx hb dX5_write_1 rfl (lv_at hl 1 rfl) ?_
  refine he_putx (C := RX5) (T := TX5) (N := 3) (ci := 5) (kd := 4) hx hb hts iX5_write_X5 hown hK hJ k0 rfl rfl 2 (by decide) (hts (.fieldLink RX5 15 "NeighborBook$SentFrame" "port" "I") (List.mem_of_getElem? (i := 1) rfl)) (fun _ h9 => h9) tyX5 tyX5_ok nmX5 (x := p1) rfl rfl (by decide) hW rfl rfl rfl rfl rfl dX5_write_2 (fun g1 H locs eg1 ng1 hJ => ?_)
  have eg1 : g1 4 2 = p1.toInt := eg1
  have P2 : hg_Q (fun a b => a = 4) g g1 := hg_Q.put hg_Q.rf ng1 (show 4 = 4 from by omega)
  refine lv_aload_n hx hb dX5_write_5 rfl (lv_at hl 0 rfl) ?_
  refine hq_iconst hx hb dX5_write_6 (by decide) (by decide) (fun z3 ez3 => ?_)
  refine he_putx (C := RX5) (T := TX5) (N := 3) (ci := 5) (kd := 4) hx hb hts iX5_write_X5 hown hK hJ k0 rfl rfl 1 (by decide) (hts (.fieldLink RX5 19 "NeighborBook$SentFrame" "length" "I") (List.mem_of_getElem? (i := 2) rfl)) (fun _ h9 => h9) tyX5 tyX5_ok nmX5 (x := z3) rfl rfl (by decide) hW rfl rfl rfl rfl (show z3.toInt = z3.toInt ∧ 0 ≤ z3.toInt ∧ z3.toInt ≤ 439 from ⟨rfl, by omega, by omega⟩) dX5_write_7 (fun g4 H locs eg4 ng4 hJ => ?_)
  have eg4 : g4 4 1 = z3.toInt := eg4
  have P5 : hg_Q (fun a b => a = 4) g g4 := hg_Q.put P2 ng4 (show 4 = 4 from by omega)
  refine lv_aload_n hx hb dX5_write_10 rfl (lv_at hl 0 rfl) ?_
  refine hq_iconst hx hb dX5_write_11 (by decide) (by decide) (fun z6 ez6 => ?_)
  refine lv_aload_n hx hb dX5_write_12 rfl (lv_at hl 2 rfl) ?_
  refine hq_iconst hx hb dX5_write_13 (by decide) (by decide) (fun z7 ez7 => ?_)
  refine he_calli (va_runV (As := [.int z7]) (rest := [.int z6, .ref h0]) ⟨hx, hb, hml, hown, hts⟩ (e_X0_sizeOf l dC dI dA κ B g4 (cq) (by omega) told ktold z7) (cwV 1 hts gX5_write_X0_sizeOf rfl rfl rfl (by decide +kernel) ⟨Nat.le_of_ble_eq_true rfl, Nat.le_of_ble_eq_true rfl⟩) (he_preV (q := (RX0, TX0, 2)) [.int z7] hK hN hW hJ ktold (hk_t320 (by omega)) rfl) rfl rfl hl.1 rfl (lv_room (Nat.le_of_ble_eq_true rfl)) dX5_write_14 ⟨Nat.zero_le _, Nat.zero_le _⟩) hJ (fun x9 g8 H locs hp hJ => ?_)
  obtain ⟨rfl, f10⟩ := hp
  refine he_callv (va_runV (As := [.int z6, .int x9]) (rest := []) ⟨hx, hb, hml, hown, hts⟩ (e_X5_putHead l dC dI dA κ B g4 h0 k0 z6 x9) (cwV 2 hts gX5_write_X5_putHead rfl rfl rfl (by decide +kernel) ⟨Nat.le_of_ble_eq_true rfl, Nat.le_of_ble_eq_true rfl⟩) (he_preV (q := (RX5, TX5, 3)) [.int z6, .int x9] hK hN hW hJ k0 rfl rfl) rfl rfl hl.1 rfl (lv_room (Nat.le_of_ble_eq_true rfl)) dX5_write_17 ⟨Nat.zero_le _, Nat.zero_le _⟩) hJ (fun g11 H locs hp hJ => ?_)
  have P13a := hp
  have P13 : hg_Q (fun a b => a = 4) g g11 := hg_Q.tr P5 (hg_Q.le P13a (fun a b h9 => by have h9 : a = 4 := h9; show a = 4; omega))
  refine lv_aload_n hx hb dX5_write_20 rfl (lv_at hl 0 rfl) ?_
  refine hq_iconst hx hb dX5_write_21 (by decide) (by decide) (fun z14 ez14 => ?_)
  refine lv_aload_n hx hb dX5_write_22 rfl (lv_at hl 2 rfl) ?_
  refine he_callv (va_runV (As := [.int z14, .ref told]) (rest := []) ⟨hx, hb, hml, hown, hts⟩ (e_X5_putContent l dC dI dA κ B g11 (cq) (by omega) h0 k0 z14 told ktold) (cwV 2 hts gX5_write_X5_putContent rfl rfl rfl (by decide +kernel) ⟨Nat.le_of_ble_eq_true rfl, Nat.le_of_ble_eq_true rfl⟩) (he_preV (q := (RX5, TX5, 3)) [.int z14, .ref told] hK hN hW hJ k0 rfl rfl) rfl rfl hl.1 rfl (lv_room (Nat.le_of_ble_eq_true rfl)) dX5_write_23 ⟨Nat.zero_le _, Nat.zero_le _⟩) hJ (fun g15 H locs hp hJ => ?_)
  have P17a := hp
  have P17 : hg_Q (fun a b => a = 4) g g15 := hg_Q.tr P13 (hg_Q.le P17a (fun a b h9 => by have h9 : a = 4 := h9; show a = 4; omega))
  refine lv_aload_n hx hb dX5_write_26 rfl (lv_at hl 0 rfl) ?_
  refine hq_iconst hx hb dX5_write_27 (by decide) (by decide) (fun z18 ez18 => ?_)
  refine lv_aload_n hx hb dX5_write_28 rfl (lv_at hl 2 rfl) ?_
  refine hq_iconst hx hb dX5_write_29 (by decide) (by decide) (fun z19 ez19 => ?_)
  refine he_calli (va_runV (As := [.int z19]) (rest := [.int z18, .ref h0]) ⟨hx, hb, hml, hown, hts⟩ (e_X0_sizeOf l dC dI dA κ B g15 (cq) (by omega) told ktold z19) (cwV 1 hts gX5_write_X0_sizeOf rfl rfl rfl (by decide +kernel) ⟨Nat.le_of_ble_eq_true rfl, Nat.le_of_ble_eq_true rfl⟩) (he_preV (q := (RX0, TX0, 2)) [.int z19] hK hN hW hJ ktold (hk_t320 (by omega)) rfl) rfl rfl hl.1 rfl (lv_room (Nat.le_of_ble_eq_true rfl)) dX5_write_30 ⟨Nat.zero_le _, Nat.zero_le _⟩) hJ (fun x21 g20 H locs hp hJ => ?_)
  obtain ⟨rfl, f22⟩ := hp
  refine hq_iconst hx hb dX5_write_33 (by decide) (by decide) (fun z23 ez23 => ?_)
  refine hq_iadd hx hb dX5_write_34 (by omega) (by omega) (fun x24 ex24 => ?_)
  refine he_callv (va_runV (As := [.int z18, .int x24]) (rest := []) ⟨hx, hb, hml, hown, hts⟩ (e_X5_putHead l dC dI dA κ B g15 h0 k0 z18 x24) (cwV 2 hts gX5_write_X5_putHead rfl rfl rfl (by decide +kernel) ⟨Nat.le_of_ble_eq_true rfl, Nat.le_of_ble_eq_true rfl⟩) (he_preV (q := (RX5, TX5, 3)) [.int z18, .int x24] hK hN hW hJ k0 rfl rfl) rfl rfl hl.1 rfl (lv_room (Nat.le_of_ble_eq_true rfl)) dX5_write_35 ⟨Nat.zero_le _, Nat.zero_le _⟩) hJ (fun g25 H locs hp hJ => ?_)
  have P27a := hp
  have P27 : hg_Q (fun a b => a = 4) g g25 := hg_Q.tr P17 (hg_Q.le P27a (fun a b h9 => by have h9 : a = 4 := h9; show a = 4; omega))
  refine lv_aload_n hx hb dX5_write_38 rfl (lv_at hl 0 rfl) ?_
  refine hq_iconst hx hb dX5_write_39 (by decide) (by decide) (fun z28 ez28 => ?_)
  refine lv_aload_n hx hb dX5_write_40 rfl (lv_at hl 2 rfl) ?_
  refine he_callv (va_runV (As := [.int z28, .ref told]) (rest := []) ⟨hx, hb, hml, hown, hts⟩ (e_X5_putContent l dC dI dA κ B g25 (cq) (by omega) h0 k0 z28 told ktold) (cwV 2 hts gX5_write_X5_putContent rfl rfl rfl (by decide +kernel) ⟨Nat.le_of_ble_eq_true rfl, Nat.le_of_ble_eq_true rfl⟩) (he_preV (q := (RX5, TX5, 3)) [.int z28, .ref told] hK hN hW hJ k0 rfl rfl) rfl rfl hl.1 rfl (lv_room (Nat.le_of_ble_eq_true rfl)) dX5_write_41 ⟨Nat.zero_le _, Nat.zero_le _⟩) hJ (fun g29 H locs hp hJ => ?_)
  have P31a := hp
  have P31 : hg_Q (fun a b => a = 4) g g29 := hg_Q.tr P27 (hg_Q.le P31a (fun a b h9 => by have h9 : a = 4 := h9; show a = 4; omega))
  refine lv_aload_n hx hb dX5_write_44 rfl (lv_at hl 0 rfl) ?_
  refine lv_iload_n hx hb dX5_write_45 rfl (lv_at hl 1 rfl) ?_
  refine he_callv (va_runV (As := [.int p1]) (rest := []) ⟨hx, hb, hml, hown, hts⟩ (e_X5_putByte l dC dI dA κ B g29 h0 k0 p1) (cwV 1 hts gX5_write_X5_putByte rfl rfl rfl (by decide +kernel) ⟨Nat.le_of_ble_eq_true rfl, Nat.le_of_ble_eq_true rfl⟩) (he_preV (q := (RX5, TX5, 3)) [.int p1] hK hN hW hJ k0 rfl rfl) rfl rfl hl.1 rfl (lv_room (Nat.le_of_ble_eq_true rfl)) dX5_write_46 ⟨Nat.zero_le _, Nat.zero_le _⟩) hJ (fun g32 H locs hp hJ => ?_)
  have P34a := hp
  have P34 : hg_Q (fun a b => a = 4) g g32 := hg_Q.tr P31 (hg_Q.le P34a (fun a b h9 => by have h9 : a = 4 := h9; show a = 4; omega))
  refine lv_aload_n hx hb dX5_write_49 rfl (lv_at hl 0 rfl) ?_
  refine hq_iconst hx hb dX5_write_50 (by decide) (by decide) (fun z35 ez35 => ?_)
  refine hq_iconst hx hb dX5_write_51 (by decide) (by decide) (fun z36 ez36 => ?_)
  refine he_callv (va_runV (As := [.int z35, .int z36]) (rest := []) ⟨hx, hb, hml, hown, hts⟩ (e_X5_putHead l dC dI dA κ B g32 h0 k0 z35 z36) (cwV 2 hts gX5_write_X5_putHead rfl rfl rfl (by decide +kernel) ⟨Nat.le_of_ble_eq_true rfl, Nat.le_of_ble_eq_true rfl⟩) (he_preV (q := (RX5, TX5, 3)) [.int z35, .int z36] hK hN hW hJ k0 rfl rfl) rfl rfl hl.1 rfl (lv_room (Nat.le_of_ble_eq_true rfl)) dX5_write_52 ⟨Nat.zero_le _, Nat.zero_le _⟩) hJ (fun g37 H locs hp hJ => ?_)
  have P39a := hp
  have P39 : hg_Q (fun a b => a = 4) g g37 := hg_Q.tr P34 (hg_Q.le P39a (fun a b h9 => by have h9 : a = 4 := h9; show a = 4; omega))
  refine lv_aload_n hx hb dX5_write_55 rfl (lv_at hl 0 rfl) ?_
  refine lv_iload_n hx hb dX5_write_56 rfl (lv_at hl 3 rfl) ?_
  refine hq_bipush hx hb dX5_write_57 (by decide) (fun z40 ez40 => ?_)
  refine hq_ishrU hx hb dX5_write_59 (fun x41 => ?_)
  refine he_callv (va_runV (As := [.int x41]) (rest := []) ⟨hx, hb, hml, hown, hts⟩ (e_X5_putByte l dC dI dA κ B g37 h0 k0 x41) (cwV 1 hts gX5_write_X5_putByte rfl rfl rfl (by decide +kernel) ⟨Nat.le_of_ble_eq_true rfl, Nat.le_of_ble_eq_true rfl⟩) (he_preV (q := (RX5, TX5, 3)) [.int x41] hK hN hW hJ k0 rfl rfl) rfl rfl hl.1 rfl (lv_room (Nat.le_of_ble_eq_true rfl)) dX5_write_60 ⟨Nat.zero_le _, Nat.zero_le _⟩) hJ (fun g42 H locs hp hJ => ?_)
  have P44a := hp
  have P44 : hg_Q (fun a b => a = 4) g g42 := hg_Q.tr P39 (hg_Q.le P44a (fun a b h9 => by have h9 : a = 4 := h9; show a = 4; omega))
  refine lv_aload_n hx hb dX5_write_63 rfl (lv_at hl 0 rfl) ?_
  refine lv_iload_n hx hb dX5_write_64 rfl (lv_at hl 3 rfl) ?_
  refine he_callv (va_runV (As := [.int held]) (rest := []) ⟨hx, hb, hml, hown, hts⟩ (e_X5_putByte l dC dI dA κ B g42 h0 k0 held) (cwV 1 hts gX5_write_X5_putByte rfl rfl rfl (by decide +kernel) ⟨Nat.le_of_ble_eq_true rfl, Nat.le_of_ble_eq_true rfl⟩) (he_preV (q := (RX5, TX5, 3)) [.int held] hK hN hW hJ k0 rfl rfl) rfl rfl hl.1 rfl (lv_room (Nat.le_of_ble_eq_true rfl)) dX5_write_65 ⟨Nat.zero_le _, Nat.zero_le _⟩) hJ (fun g45 H locs hp hJ => ?_)
  have P47a := hp
  have P47 : hg_Q (fun a b => a = 4) g g45 := hg_Q.tr P44 (hg_Q.le P47a (fun a b h9 => by have h9 : a = 4 := h9; show a = 4; omega))
  refine hq_iconst hx hb dX5_write_68 (by decide) (by decide) (fun z48 ez48 => ?_)
  refine lv_istore (lv' := [(4, .int z48), (0, .ref h0), (1, .int p1), (2, .ref told), (3, .int held)]) hx hb dX5_write_69 hl (by decide) rfl (fun ls hl => ?_)
  have lp51 : ∀ (nlp51 : Nat) (v49 : Int32) (g50 : Nat → Nat → Int) (H : Heap) (locs : List Loc) (ls : Array Slot), (hg_Q (fun a b => a = 4) g g50) → (4 ≤ v49.toInt) → (v49.toInt ≤ 9) → (10 - v49.toInt < (nlp51 : Int)) → he_J dC dI dA κ B g50 s.heap H locs → lv_has ls 5 [(0, .ref h0), (1, .int p1), (2, .ref told), (3, .int held), (4, .int v49)] → W p l e (headSpec wsX5_write ({ frames := 3, cells := 0, slots := 0, locals := 67 } : Room)).room s m ([Value.ref h0, Value.int p1, Value.ref told, Value.int held] : List Value).toArray below meth c H locs 0 0 (MQ below (he_Qv dC dI dA κ B (fun u => hg_Q (fun a b => a = 4) g u)) ([Value.ref h0, Value.int p1, Value.ref told, Value.int held] : List Value).toArray s 0 0 (hp_A B)) (F0 m 71 ls []) := by
    intro nlp51
    induction nlp51 with
    | zero => intro v49 g50 H locs ls iv53 iv54 iv55 hm52 hJ hl; exact absurd hm52 (by omega)
    | succ nlp51 ihlp51 =>
      intro v49 g50 H locs ls iv53 iv54 iv55 hm52 hJ hl
      refine lv_iload hx hb dX5_write_71 (lv_at hl 4 rfl) ?_
      refine hq_bipush hx hb dX5_write_73 (by decide) (fun z56 ez56 => ?_)
      refine hq_icmp_gt (tgt := 112) hx hb dX5_write_75 (by decide) (fun c57 => ?_) (fun c57 => ?_)
      · refine lv_aload_n hx hb dX5_write_112 rfl (lv_at hl 0 rfl) ?_
        refine hq_iconst hx hb dX5_write_113 (by decide) (by decide) (fun z58 ez58 => ?_)
        refine hq_iconst hx hb dX5_write_114 (by decide) (by decide) (fun z59 ez59 => ?_)
        refine he_callv (va_runV (As := [.int z58, .int z59]) (rest := []) ⟨hx, hb, hml, hown, hts⟩ (e_X5_putHead l dC dI dA κ B g50 h0 k0 z58 z59) (cwV 2 hts gX5_write_X5_putHead rfl rfl rfl (by decide +kernel) ⟨Nat.le_of_ble_eq_true rfl, Nat.le_of_ble_eq_true rfl⟩) (he_preV (q := (RX5, TX5, 3)) [.int z58, .int z59] hK hN hW hJ k0 rfl rfl) rfl rfl hl.1 rfl (lv_room (Nat.le_of_ble_eq_true rfl)) dX5_write_115 ⟨Nat.zero_le _, Nat.zero_le _⟩) hJ (fun g60 H locs hp hJ => ?_)
        have P62a := hp
        have P62 : hg_Q (fun a b => a = 4) g g60 := hg_Q.tr iv53 (hg_Q.le P62a (fun a b h9 => by have h9 : a = 4 := h9; show a = 4; omega))
        exact he_vret hx hb hK hN hW hlocks hJ hr P62 dX5_write_118
      · refine lv_aload_n hx hb dX5_write_78 rfl (lv_at hl 2 rfl) ?_
        refine lv_iload hx hb dX5_write_79 (lv_at hl 4 rfl) ?_
        refine he_calli (va_runV (As := [.int v49]) (rest := []) ⟨hx, hb, hml, hown, hts⟩ (e_X0_has l dC dI dA κ B g50 (cq) (by omega) told ktold v49) (cwV 1 hts gX5_write_X0_has rfl rfl rfl (by decide +kernel) ⟨Nat.le_of_ble_eq_true rfl, Nat.le_of_ble_eq_true rfl⟩) (he_preV (q := (RX0, TX0, 2)) [.int v49] hK hN hW hJ ktold (hk_t320 (by omega)) rfl) rfl rfl hl.1 rfl (lv_room (Nat.le_of_ble_eq_true rfl)) dX5_write_81 ⟨Nat.zero_le _, Nat.zero_le _⟩) hJ (fun x64 g63 H locs hp hJ => ?_)
        obtain ⟨rfl, f65⟩ := hp
        refine hq_if_eq (tgt := 106) hx hb dX5_write_84 (by decide) (fun c66 => ?_) (fun c66 => ?_)
        · refine hq_iinc (k := 4) (lv' := fun (z9 : Int32) => [(4, .int z9), (0, .ref h0), (1, .int p1), (2, .ref told), (3, .int held)]) hx hb dX5_write_106 hl rfl (by decide) (by decide) (by omega) (by omega) (by decide) (fun _ => rfl) (fun x67 ls ex67 hl => ?_)
          have hl : lv_has ls 5 [(4, .int x67), (0, .ref h0), (1, .int p1), (2, .ref told), (3, .int held)] := hl
          refine lv_goto (tgt := 71) hx hb dX5_write_109 (by decide) ?_
          exact ihlp51 x67 g50 _ _ ls iv53 (by omega) (by omega) (by omega) hJ (lv_sub hl [1, 2, 3, 4, 0] rfl)
        · refine lv_aload_n hx hb dX5_write_87 rfl (lv_at hl 0 rfl) ?_
          refine lv_iload hx hb dX5_write_88 (lv_at hl 4 rfl) ?_
          refine lv_aload_n hx hb dX5_write_90 rfl (lv_at hl 2 rfl) ?_
          refine lv_iload hx hb dX5_write_91 (lv_at hl 4 rfl) ?_
          refine he_calli (va_runV (As := [.int v49]) (rest := [.int v49, .ref h0]) ⟨hx, hb, hml, hown, hts⟩ (e_X0_sizeOf l dC dI dA κ B g50 (cq) (by omega) told ktold v49) (cwV 1 hts gX5_write_X0_sizeOf rfl rfl rfl (by decide +kernel) ⟨Nat.le_of_ble_eq_true rfl, Nat.le_of_ble_eq_true rfl⟩) (he_preV (q := (RX0, TX0, 2)) [.int v49] hK hN hW hJ ktold (hk_t320 (by omega)) rfl) rfl rfl hl.1 rfl (lv_room (Nat.le_of_ble_eq_true rfl)) dX5_write_93 ⟨Nat.zero_le _, Nat.zero_le _⟩) hJ (fun x69 g68 H locs hp hJ => ?_)
          obtain ⟨rfl, f70⟩ := hp
          refine he_callv (va_runV (As := [.int v49, .int x69]) (rest := []) ⟨hx, hb, hml, hown, hts⟩ (e_X5_putHead l dC dI dA κ B g50 h0 k0 v49 x69) (cwV 2 hts gX5_write_X5_putHead rfl rfl rfl (by decide +kernel) ⟨Nat.le_of_ble_eq_true rfl, Nat.le_of_ble_eq_true rfl⟩) (he_preV (q := (RX5, TX5, 3)) [.int v49, .int x69] hK hN hW hJ k0 rfl rfl) rfl rfl hl.1 rfl (lv_room (Nat.le_of_ble_eq_true rfl)) dX5_write_96 ⟨Nat.zero_le _, Nat.zero_le _⟩) hJ (fun g71 H locs hp hJ => ?_)
          have P73a := hp
          have P73 : hg_Q (fun a b => a = 4) g g71 := hg_Q.tr iv53 (hg_Q.le P73a (fun a b h9 => by have h9 : a = 4 := h9; show a = 4; omega))
          refine lv_aload_n hx hb dX5_write_99 rfl (lv_at hl 0 rfl) ?_
          refine lv_iload hx hb dX5_write_100 (lv_at hl 4 rfl) ?_
          refine lv_aload_n hx hb dX5_write_102 rfl (lv_at hl 2 rfl) ?_
          refine he_callv (va_runV (As := [.int v49, .ref told]) (rest := []) ⟨hx, hb, hml, hown, hts⟩ (e_X5_putContent l dC dI dA κ B g71 (cq) (by omega) h0 k0 v49 told ktold) (cwV 2 hts gX5_write_X5_putContent rfl rfl rfl (by decide +kernel) ⟨Nat.le_of_ble_eq_true rfl, Nat.le_of_ble_eq_true rfl⟩) (he_preV (q := (RX5, TX5, 3)) [.int v49, .ref told] hK hN hW hJ k0 rfl rfl) rfl rfl hl.1 rfl (lv_room (Nat.le_of_ble_eq_true rfl)) dX5_write_103 ⟨Nat.zero_le _, Nat.zero_le _⟩) hJ (fun g74 H locs hp hJ => ?_)
          have P76a := hp
          have P76 : hg_Q (fun a b => a = 4) g g74 := hg_Q.tr P73 (hg_Q.le P76a (fun a b h9 => by have h9 : a = 4 := h9; show a = 4; omega))
          refine hq_iinc (k := 4) (lv' := fun (z9 : Int32) => [(4, .int z9), (0, .ref h0), (1, .int p1), (2, .ref told), (3, .int held)]) hx hb dX5_write_106 hl rfl (by decide) (by decide) (by omega) (by omega) (by decide) (fun _ => rfl) (fun x77 ls ex77 hl => ?_)
          have hl : lv_has ls 5 [(4, .int x77), (0, .ref h0), (1, .int p1), (2, .ref told), (3, .int held)] := hl
          refine lv_goto (tgt := 71) hx hb dX5_write_109 (by decide) ?_
          exact ihlp51 x77 g74 _ _ ls P76 (by omega) (by omega) (by omega) hJ (lv_sub hl [1, 2, 3, 4, 0] rfl)
  exact lp51 ((10 - z48.toInt).toNat + 1) z48 g45 _ _ ls P47 (by omega) (by omega) (by omega) hJ (lv_sub hl [1, 2, 3, 4, 0] rfl)
