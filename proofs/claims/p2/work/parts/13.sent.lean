theorem iX5_length_X5 : ∀ w ∈ wsX50, w ∈ wsX5_length := fun _ h => List.mem_cons_of_mem _ (List.mem_append_right _ h)
set_option maxRecDepth 100000 in
set_option maxHeartbeats 4000000 in
theorem c_X5_length (l : Launch) (dC : Nat → ClassId) (dI : Nat → Nat → Nat) (dA : Nat → ClassId) (κ : Nat → Nat) (B : Nat) (g : Nat → Nat → Int) (h0 : Nat) (k0 : κ h0 = 4) : Met l yX5_length wsX5_length ({ frames := 0, cells := 0, slots := 0, locals := 0 } : Room) (hp_Pre dC dI dA κ B g [Value.ref h0]) (hp_Qi dC dI dA κ B (fun r u => g = u ∧ r.toInt = g 4 1)) 0 0 (hp_A B) := by
  refine Met.ofW (cc := cX5_length) (maxL := 1) (ret := (some .int)) (by decide) rfl ?_
  intro p e s m args below meth c s₁ Bd hml hv
  obtain ⟨rfl, hK, hN, hW, hF⟩ := hv
  have hx := Bd.exec
  have hb := Bd.bytes
  have hr := Bd.returns
  have hts := atoms_spec (ws := wsX5_length) Bd.pre
  have hown : s.vm.findClass RX5 = some m.cls := findClass_of_methodNamed Bd.named
  have hlocks := Bd.notSynchronized
  have hJ : hp_J dC dI dA κ B g s.heap s.heap [] := ⟨hF, va_S.rf⟩
  have hl := lv_entry ([Value.ref h0]) (n := 1) (Nat.le_of_ble_eq_true rfl)
  rw [lg_entry_eq]
  generalize (lg_sl ([Value.ref h0]) ++ List.replicate (1 - (lg_sl ([Value.ref h0])).length) Slot.unset).toArray = ls at hl ⊢
  have hl : lv_has ls 1 [(0, .ref h0)] := hl
  refine lv_aload_n hx hb dX5_length_0 rfl (lv_at hl 0 rfl) ?_
  refine hp_geti (C := RX5) (T := TX5) (N := 3) (ci := 5) (kd := 4) hx hb hts iX5_length_X5 hown hK hJ k0 rfl rfl 1 (by decide) (hts (.fieldLink RX5 19 "NeighborBook$SentFrame" "length" "I") (List.mem_of_getElem? (i := 1) rfl)) (fun _ h9 => h9) rfl rfl dX5_length_1 (fun x1 ex1 => ?_)
  have ex1 : x1.toInt = g 4 1 := ex1
  exact hp_iret hx hb hK hN hW hlocks hJ hr ⟨rfl, by omega⟩ dX5_length_4
theorem iX5_portOf_X5 : ∀ w ∈ wsX50, w ∈ wsX5_portOf := fun _ h => List.mem_cons_of_mem _ (List.mem_append_right _ h)
set_option maxRecDepth 100000 in
set_option maxHeartbeats 4000000 in
theorem c_X5_portOf (l : Launch) (dC : Nat → ClassId) (dI : Nat → Nat → Nat) (dA : Nat → ClassId) (κ : Nat → Nat) (B : Nat) (g : Nat → Nat → Int) (h0 : Nat) (k0 : κ h0 = 4) : Met l yX5_portOf wsX5_portOf ({ frames := 0, cells := 0, slots := 0, locals := 0 } : Room) (hp_Pre dC dI dA κ B g [Value.ref h0]) (hp_Qi dC dI dA κ B (fun r u => g = u ∧ r.toInt = g 4 2)) 0 0 (hp_A B) := by
  refine Met.ofW (cc := cX5_portOf) (maxL := 1) (ret := (some .int)) (by decide) rfl ?_
  intro p e s m args below meth c s₁ Bd hml hv
  obtain ⟨rfl, hK, hN, hW, hF⟩ := hv
  have hx := Bd.exec
  have hb := Bd.bytes
  have hr := Bd.returns
  have hts := atoms_spec (ws := wsX5_portOf) Bd.pre
  have hown : s.vm.findClass RX5 = some m.cls := findClass_of_methodNamed Bd.named
  have hlocks := Bd.notSynchronized
  have hJ : hp_J dC dI dA κ B g s.heap s.heap [] := ⟨hF, va_S.rf⟩
  have hl := lv_entry ([Value.ref h0]) (n := 1) (Nat.le_of_ble_eq_true rfl)
  rw [lg_entry_eq]
  generalize (lg_sl ([Value.ref h0]) ++ List.replicate (1 - (lg_sl ([Value.ref h0])).length) Slot.unset).toArray = ls at hl ⊢
  have hl : lv_has ls 1 [(0, .ref h0)] := hl
  refine lv_aload_n hx hb dX5_portOf_0 rfl (lv_at hl 0 rfl) ?_
  refine hp_geti (C := RX5) (T := TX5) (N := 3) (ci := 5) (kd := 4) hx hb hts iX5_portOf_X5 hown hK hJ k0 rfl rfl 2 (by decide) (hts (.fieldLink RX5 15 "NeighborBook$SentFrame" "port" "I") (List.mem_of_getElem? (i := 1) rfl)) (fun _ h9 => h9) rfl rfl dX5_portOf_1 (fun x1 ex1 => ?_)
  have ex1 : x1.toInt = g 4 2 := ex1
  exact hp_iret hx hb hK hN hW hlocks hJ hr ⟨rfl, by omega⟩ dX5_portOf_4
theorem iX5_byteAt_X5 : ∀ w ∈ wsX50, w ∈ wsX5_byteAt := fun _ h => List.mem_cons_of_mem _ (List.mem_append_right _ h)
set_option maxRecDepth 100000 in
set_option maxHeartbeats 4000000 in
theorem c_X5_byteAt (l : Launch) (dC : Nat → ClassId) (dI : Nat → Nat → Nat) (dA : Nat → ClassId) (κ : Nat → Nat) (B : Nat) (g : Nat → Nat → Int) (h0 : Nat) (k0 : κ h0 = 4) (k : Int32) (hG : hg_k g) : Met l yX5_byteAt wsX5_byteAt ({ frames := 0, cells := 0, slots := 0, locals := 0 } : Room) (hp_Pre dC dI dA κ B g [Value.ref h0, Value.int k]) (hp_Qi dC dI dA κ B (fun r u => g = u ∧ (g 4 1 = 0 → r.toInt = -1))) 0 0 (hp_A B) := by
  refine Met.ofW (cc := cX5_byteAt) (maxL := 2) (ret := (some .int)) (by decide) rfl ?_
  intro p e s m args below meth c s₁ Bd hml hv
  obtain ⟨rfl, hK, hN, hW, hF⟩ := hv
  have hx := Bd.exec
  have hb := Bd.bytes
  have hr := Bd.returns
  have hts := atoms_spec (ws := wsX5_byteAt) Bd.pre
  have hown : s.vm.findClass RX5 = some m.cls := findClass_of_methodNamed Bd.named
  have hlocks := Bd.notSynchronized
  have hJ : hp_J dC dI dA κ B g s.heap s.heap [] := ⟨hF, va_S.rf⟩
  have hl := lv_entry ([Value.ref h0, Value.int k]) (n := 2) (Nat.le_of_ble_eq_true rfl)
  rw [lg_entry_eq]
  generalize (lg_sl ([Value.ref h0, Value.int k]) ++ List.replicate (2 - (lg_sl ([Value.ref h0, Value.int k])).length) Slot.unset).toArray = ls at hl ⊢
  have hl : lv_has ls 2 [(0, .ref h0), (1, .int k)] := hl
  obtain ⟨hG1, hG2, hG3, hG4, hG5, hG6, hG7, hG8⟩ := id hG
  refine lv_iload_n hx hb dX5_byteAt_0 rfl (lv_at hl 1 rfl) ?_
  refine hq_if_lt (tgt := 25) hx hb dX5_byteAt_1 (by decide) (fun c1 => ?_) (fun c1 => ?_)
  · refine hq_iconst hx hb dX5_byteAt_25 (by decide) (by decide) (fun z2 ez2 => ?_)
    exact hp_iret hx hb hK hN hW hlocks hJ hr ⟨rfl, by omega⟩ dX5_byteAt_26
  · refine lv_iload_n hx hb dX5_byteAt_4 rfl (lv_at hl 1 rfl) ?_
    refine lv_aload_n hx hb dX5_byteAt_5 rfl (lv_at hl 0 rfl) ?_
    refine hp_geti (C := RX5) (T := TX5) (N := 3) (ci := 5) (kd := 4) hx hb hts iX5_byteAt_X5 hown hK hJ k0 rfl rfl 1 (by decide) (hts (.fieldLink RX5 19 "NeighborBook$SentFrame" "length" "I") (List.mem_of_getElem? (i := 1) rfl)) (fun _ h9 => h9) rfl rfl dX5_byteAt_6 (fun x3 ex3 => ?_)
    have ex3 : x3.toInt = g 4 1 := ex3
    refine hq_icmp_ge (tgt := 25) hx hb dX5_byteAt_9 (by decide) (fun c4 => ?_) (fun c4 => ?_)
    · refine hq_iconst hx hb dX5_byteAt_25 (by decide) (by decide) (fun z5 ez5 => ?_)
      exact hp_iret hx hb hK hN hW hlocks hJ hr ⟨rfl, by omega⟩ dX5_byteAt_26
    · refine lv_aload_n hx hb dX5_byteAt_12 rfl (lv_at hl 0 rfl) ?_
      refine hp_getr (C := RX5) (T := TX5) (N := 3) (ci := 5) (kd := 4) hx hb hts iX5_byteAt_X5 hown hK hJ k0 rfl rfl 0 (by decide) (hts (.fieldLink RX5 9 "NeighborBook$SentFrame" "bytes" "[B") (List.mem_of_getElem? (i := 2) rfl)) (fun _ h9 => h9) rfl dX5_byteAt_13 (fun b6 kb6 => ?_)
      refine lv_iload_n hx hb dX5_byteAt_16 rfl (lv_at hl 1 rfl) ?_
      refine hp_bald (kd := 17) (n := 439) hx hb hK hJ kb6 rfl (by omega) (by omega) (sp := (5, 0)) rfl rfl dX5_byteAt_17 (fun x7 ex7 => ?_)
      have ex7 : -128 ≤ x7.toInt ∧ x7.toInt ≤ 127 := ex7
      refine hq_sipush hx hb dX5_byteAt_18 (by decide) (fun z8 ez8 => ?_)
      refine hq_iandm (k := 8) hx hb dX5_byteAt_21 ez8 (by decide) (fun x9 ex9 => ?_)
      refine lv_goto (tgt := 26) hx hb dX5_byteAt_22 (by decide) ?_
      exact hp_iret hx hb hK hN hW hlocks hJ hr ⟨rfl, by omega⟩ dX5_byteAt_26
theorem iX5_putByte_X5 : ∀ w ∈ wsX50, w ∈ wsX5_putByte := fun _ h => List.mem_cons_of_mem _ (List.mem_append_right _ h)
set_option maxRecDepth 100000 in
set_option maxHeartbeats 4000000 in
theorem c_X5_putByte (l : Launch) (dC : Nat → ClassId) (dI : Nat → Nat → Nat) (dA : Nat → ClassId) (κ : Nat → Nat) (B : Nat) (g : Nat → Nat → Int) (h0 : Nat) (k0 : κ h0 = 4) (value : Int32) (hG : hg_k g) : Met l yX5_putByte wsX5_putByte ({ frames := 0, cells := 0, slots := 0, locals := 0 } : Room) (hp_Pre dC dI dA κ B g [Value.ref h0, Value.int value]) (hp_Qv dC dI dA κ B (fun u => hg_P hx_c g u ∧ hg_k u)) 0 0 (hp_A B) := by
  refine Met.ofW (cc := cX5_putByte) (maxL := 2) (ret := none) (by decide) rfl ?_
  intro p e s m args below meth c s₁ Bd hml hv
  obtain ⟨rfl, hK, hN, hW, hF⟩ := hv
  have hx := Bd.exec
  have hb := Bd.bytes
  have hr := Bd.returns
  have hts := atoms_spec (ws := wsX5_putByte) Bd.pre
  have hown : s.vm.findClass RX5 = some m.cls := findClass_of_methodNamed Bd.named
  have hlocks := Bd.notSynchronized
  have hJ : hp_J dC dI dA κ B g s.heap s.heap [] := ⟨hF, va_S.rf⟩
  have hl := lv_entry ([Value.ref h0, Value.int value]) (n := 2) (Nat.le_of_ble_eq_true rfl)
  rw [lg_entry_eq]
  generalize (lg_sl ([Value.ref h0, Value.int value]) ++ List.replicate (2 - (lg_sl ([Value.ref h0, Value.int value])).length) Slot.unset).toArray = ls at hl ⊢
  have hl : lv_has ls 2 [(0, .ref h0), (1, .int value)] := hl
  obtain ⟨hG1, hG2, hG3, hG4, hG5, hG6, hG7, hG8⟩ := id hG
  refine lv_aload_n hx hb dX5_putByte_0 rfl (lv_at hl 0 rfl) ?_
  refine hp_geti (C := RX5) (T := TX5) (N := 3) (ci := 5) (kd := 4) hx hb hts iX5_putByte_X5 hown hK hJ k0 rfl rfl 1 (by decide) (hts (.fieldLink RX5 19 "NeighborBook$SentFrame" "length" "I") (List.mem_of_getElem? (i := 1) rfl)) (fun _ h9 => h9) rfl rfl dX5_putByte_1 (fun x1 ex1 => ?_)
  have ex1 : x1.toInt = g 4 1 := ex1
  refine hq_sipush hx hb dX5_putByte_4 (by decide) (fun z2 ez2 => ?_)
  refine hq_icmp_ge (tgt := 31) hx hb dX5_putByte_7 (by decide) (fun c3 => ?_) (fun c3 => ?_)
  · exact hp_vret hx hb hK hN hW hlocks hJ hr ⟨hg_P.rf, hG⟩ dX5_putByte_31
  · refine lv_aload_n hx hb dX5_putByte_10 rfl (lv_at hl 0 rfl) ?_
    refine hp_getr (C := RX5) (T := TX5) (N := 3) (ci := 5) (kd := 4) hx hb hts iX5_putByte_X5 hown hK hJ k0 rfl rfl 0 (by decide) (hts (.fieldLink RX5 9 "NeighborBook$SentFrame" "bytes" "[B") (List.mem_of_getElem? (i := 2) rfl)) (fun _ h9 => h9) rfl dX5_putByte_11 (fun b4 kb4 => ?_)
    refine lv_aload_n hx hb dX5_putByte_14 rfl (lv_at hl 0 rfl) ?_
    refine hp_geti (C := RX5) (T := TX5) (N := 3) (ci := 5) (kd := 4) hx hb hts iX5_putByte_X5 hown hK hJ k0 rfl rfl 1 (by decide) (hts (.fieldLink RX5 19 "NeighborBook$SentFrame" "length" "I") (List.mem_of_getElem? (i := 1) rfl)) (fun _ h9 => h9) rfl rfl dX5_putByte_15 (fun x5 ex5 => ?_)
    have ex5 : x5.toInt = g 4 1 := ex5
    refine lv_iload_n hx hb dX5_putByte_18 rfl (lv_at hl 1 rfl) ?_
    refine hq_i2b hx hb dX5_putByte_19 (fun x6 => ?_)
    refine hp_bast (kd := 17) (n := 439) hx hb hK hJ kb4 rfl (by omega) (by omega) (by decide) hW rfl dX5_putByte_20 (fun H locs hJ => ?_)
    refine lv_aload_n hx hb dX5_putByte_21 rfl (lv_at hl 0 rfl) ?_
    refine lv_dup hx hb dX5_putByte_22 rfl ?_
    refine hp_geti (C := RX5) (T := TX5) (N := 3) (ci := 5) (kd := 4) hx hb hts iX5_putByte_X5 hown hK hJ k0 rfl rfl 1 (by decide) (hts (.fieldLink RX5 19 "NeighborBook$SentFrame" "length" "I") (List.mem_of_getElem? (i := 1) rfl)) (fun _ h9 => h9) rfl rfl dX5_putByte_23 (fun x7 ex7 => ?_)
    have ex7 : x7.toInt = g 4 1 := ex7
    refine hq_iconst hx hb dX5_putByte_26 (by decide) (by decide) (fun z8 ez8 => ?_)
    refine hq_iadd hx hb dX5_putByte_27 (by omega) (by omega) (fun x9 ex9 => ?_)
    refine hp_putx (C := RX5) (T := TX5) (N := 3) (ci := 5) (kd := 4) hx hb hts iX5_putByte_X5 hown hK hJ k0 rfl rfl 1 (by decide) (hts (.fieldLink RX5 19 "NeighborBook$SentFrame" "length" "I") (List.mem_of_getElem? (i := 1) rfl)) (fun _ h9 => h9) tyX5 tyX5_ok nmX5 (x := x9) rfl rfl (by decide) hW rfl rfl rfl dX5_putByte_28 (fun g10 H locs eg10 ng10 hJ => ?_)
    have eg10 : g10 4 1 = x9.toInt := eg10
    have P11 : hg_P hx_c g g10 := hg_P.put hg_P.rf ng10 rfl
    have tt12 : g10 1 1 = g 1 1 := ng10 1 1 (by decide)
    have tt13 : g10 10 1 = g 10 1 := ng10 10 1 (by decide)
    exact hp_vret hx hb hK hN hW hlocks hJ hr ⟨P11, (hg_k.ofc hG P11 (by constructor <;> omega) (by constructor <;> omega) )⟩ dX5_putByte_31
theorem iX5_putHead_X5 : ∀ w ∈ wsX50, w ∈ wsX5_putHead := fun _ h => List.mem_cons_of_mem _ (List.mem_append_right _ h)
set_option maxRecDepth 100000 in
set_option maxHeartbeats 4000000 in
theorem c_X5_putHead (l : Launch) (dC : Nat → ClassId) (dI : Nat → Nat → Nat) (dA : Nat → ClassId) (κ : Nat → Nat) (B : Nat) (g : Nat → Nat → Int) (h0 : Nat) (k0 : κ h0 = 4) (type : Int32) (size : Int32) (hG : hg_k g) : Met l yX5_putHead wsX5_putHead ({ frames := 1, cells := 0, slots := 0, locals := 21 } : Room) (hp_Pre dC dI dA κ B g [Value.ref h0, Value.int type, Value.int size]) (hp_Qv dC dI dA κ B (fun u => hg_P hx_c g u ∧ hg_k u)) 0 0 (hp_A B) := by
  refine Met.ofW (cc := cX5_putHead) (maxL := 4) (ret := none) (by decide) rfl ?_
  intro p e s m args below meth c s₁ Bd hml hv
  obtain ⟨rfl, hK, hN, hW, hF⟩ := hv
  have hx := Bd.exec
  have hb := Bd.bytes
  have hr := Bd.returns
  have hts := atoms_spec (ws := wsX5_putHead) Bd.pre
  have hown : s.vm.findClass RX5 = some m.cls := findClass_of_methodNamed Bd.named
  have hlocks := Bd.notSynchronized
  have hJ : hp_J dC dI dA κ B g s.heap s.heap [] := ⟨hF, va_S.rf⟩
  have hl := lv_entry ([Value.ref h0, Value.int type, Value.int size]) (n := 4) (Nat.le_of_ble_eq_true rfl)
  rw [lg_entry_eq]
  generalize (lg_sl ([Value.ref h0, Value.int type, Value.int size]) ++ List.replicate (4 - (lg_sl ([Value.ref h0, Value.int type, Value.int size])).length) Slot.unset).toArray = ls at hl ⊢
  have hl : lv_has ls 4 [(0, .ref h0), (1, .int type), (2, .int size)] := hl
  obtain ⟨hG1, hG2, hG3, hG4, hG5, hG6, hG7, hG8⟩ := id hG
  refine lv_iload_n hx hb dX5_putHead_0 rfl (lv_at hl 1 rfl) ?_
  refine hq_bipush hx hb dX5_putHead_1 (by decide) (fun z1 ez1 => ?_)
  refine hq_ishlU hx hb dX5_putHead_3 (fun x2 => ?_)
  refine lv_iload_n hx hb dX5_putHead_4 rfl (lv_at hl 2 rfl) ?_
  refine hq_iorU hx hb dX5_putHead_5 (fun x3 => ?_)
  refine lv_istore_n (lv' := [(3, .int x3), (0, .ref h0), (1, .int type), (2, .int size)]) hx hb dX5_putHead_6 rfl hl (by decide) rfl (fun ls hl => ?_)
  refine lv_aload_n hx hb dX5_putHead_7 rfl (lv_at hl 1 rfl) ?_
  refine lv_iload_n hx hb dX5_putHead_8 rfl (lv_at hl 0 rfl) ?_
  refine hq_bipush hx hb dX5_putHead_9 (by decide) (fun z4 ez4 => ?_)
  refine hq_ishrU hx hb dX5_putHead_11 (fun x5 => ?_)
  refine hp_callv (va_runV (As := [.int x5]) (rest := []) ⟨hx, hb, hml, hown, hts⟩ (c_X5_putByte l dC dI dA κ B g h0 k0 x5 hG) (cwV 1 hts gX5_putHead_X5_putByte rfl rfl rfl (by decide +kernel) ⟨Nat.le_of_ble_eq_true rfl, Nat.le_of_ble_eq_true rfl⟩) (hp_preV (q := (RX5, TX5, 3)) [.int x5] hK hN hW hJ k0 rfl rfl) rfl rfl hl.1 rfl (lv_room (Nat.le_of_ble_eq_true rfl)) dX5_putHead_12 ⟨Nat.zero_le _, Nat.zero_le _⟩) hJ (fun g6 H locs hp hJ => ?_)
  obtain ⟨P8a, K9⟩ := hp
  obtain ⟨K91, K92, K93, K94, K95, K96, K97, K98⟩ := id K9
  have P8 : hg_P hx_c g g6 := P8a
  have qt10 : g6 1 1 = g 1 1 := P8a 1 1 rfl
  have qt11 : g6 11 1 = g 11 1 := P8a 11 1 rfl
  have qt12 : g6 11 13 = g 11 13 := P8a 11 13 rfl
  have qt13 : g6 11 22 = g 11 22 := P8a 11 22 rfl
  refine lv_aload_n hx hb dX5_putHead_15 rfl (lv_at hl 1 rfl) ?_
  refine lv_iload_n hx hb dX5_putHead_16 rfl (lv_at hl 0 rfl) ?_
  refine hp_callv (va_runV (As := [.int x3]) (rest := []) ⟨hx, hb, hml, hown, hts⟩ (c_X5_putByte l dC dI dA κ B g6 h0 k0 x3 K9) (cwV 1 hts gX5_putHead_X5_putByte rfl rfl rfl (by decide +kernel) ⟨Nat.le_of_ble_eq_true rfl, Nat.le_of_ble_eq_true rfl⟩) (hp_preV (q := (RX5, TX5, 3)) [.int x3] hK hN hW hJ k0 rfl rfl) rfl rfl hl.1 rfl (lv_room (Nat.le_of_ble_eq_true rfl)) dX5_putHead_17 ⟨Nat.zero_le _, Nat.zero_le _⟩) hJ (fun g14 H locs hp hJ => ?_)
  obtain ⟨P16a, K17⟩ := hp
  obtain ⟨K171, K172, K173, K174, K175, K176, K177, K178⟩ := id K17
  have P16 : hg_P hx_c g g14 := hg_P.tr P8 P16a
  have qt18 : g14 1 1 = g6 1 1 := P16a 1 1 rfl
  have qt19 : g14 11 1 = g6 11 1 := P16a 11 1 rfl
  have qt20 : g14 11 13 = g6 11 13 := P16a 11 13 rfl
  have qt21 : g14 11 22 = g6 11 22 := P16a 11 22 rfl
  exact hp_vret hx hb hK hN hW hlocks hJ hr ⟨P16, K17⟩ dX5_putHead_20
theorem iX5_putContent_X0 : ∀ w ∈ wsX00, w ∈ wsX5_putContent := fun _ h => List.mem_cons_of_mem _ (List.mem_append_left _ (List.mem_append_right _ h))
theorem iX5_putContent_X5 : ∀ w ∈ wsX50, w ∈ wsX5_putContent := fun _ h => List.mem_cons_of_mem _ (List.mem_append_right _ h)
set_option maxRecDepth 100000 in
set_option maxHeartbeats 4000000 in
theorem c_X5_putContent (l : Launch) (dC : Nat → ClassId) (dI : Nat → Nat → Nat) (dA : Nat → ClassId) (κ : Nat → Nat) (B : Nat) (g : Nat → Nat → Int) (h0 : Nat) (k0 : κ h0 = 4) (type : Int32) (told : Nat) (ktold : κ told = 2) (hG : hg_k g) : Met l yX5_putContent wsX5_putContent ({ frames := 2, cells := 0, slots := 0, locals := 43 } : Room) (hp_Pre dC dI dA κ B g [Value.ref h0, Value.int type, Value.ref told]) (hp_Qv dC dI dA κ B (fun u => hg_P hx_c g u ∧ hg_k u)) 0 0 (hp_A B) := by
  refine Met.ofW (cc := cX5_putContent) (maxL := 5) (ret := none) (by decide) rfl ?_
  intro p e s m args below meth c s₁ Bd hml hv
  obtain ⟨rfl, hK, hN, hW, hF⟩ := hv
  have hx := Bd.exec
  have hb := Bd.bytes
  have hr := Bd.returns
  have hts := atoms_spec (ws := wsX5_putContent) Bd.pre
  have hown : s.vm.findClass RX5 = some m.cls := findClass_of_methodNamed Bd.named
  have hlocks := Bd.notSynchronized
  have hJ : hp_J dC dI dA κ B g s.heap s.heap [] := ⟨hF, va_S.rf⟩
  have hl := lv_entry ([Value.ref h0, Value.int type, Value.ref told]) (n := 5) (Nat.le_of_ble_eq_true rfl)
  rw [lg_entry_eq]
  generalize (lg_sl ([Value.ref h0, Value.int type, Value.ref told]) ++ List.replicate (5 - (lg_sl ([Value.ref h0, Value.int type, Value.ref told])).length) Slot.unset).toArray = ls at hl ⊢
  have hl : lv_has ls 5 [(0, .ref h0), (1, .int type), (2, .ref told)] := hl
  obtain ⟨hG1, hG2, hG3, hG4, hG5, hG6, hG7, hG8⟩ := id hG
  refine lv_aload_n hx hb dX5_putContent_0 rfl (lv_at hl 2 rfl) ?_
  refine lv_iload_n hx hb dX5_putContent_1 rfl (lv_at hl 1 rfl) ?_
  refine hp_calli (va_runV (As := [.int type]) (rest := []) ⟨hx, hb, hml, hown, hts⟩ (c_X0_sizeOf l dC dI dA κ B g told ktold type) (cwV 1 hts gX5_putContent_X0_sizeOf rfl rfl rfl (by decide +kernel) ⟨Nat.le_of_ble_eq_true rfl, Nat.le_of_ble_eq_true rfl⟩) (hp_preV (q := (RX0, TX0, 2)) [.int type] hK hN hW hJ ktold rfl rfl) rfl rfl hl.1 rfl (lv_room (Nat.le_of_ble_eq_true rfl)) dX5_putContent_2 ⟨Nat.zero_le _, Nat.zero_le _⟩) hJ (fun x2 g1 H locs hp hJ => ?_)
  obtain ⟨rfl, f3⟩ := hp
  refine lv_istore_n (lv' := [(3, .int x2), (0, .ref h0), (1, .int type), (2, .ref told)]) hx hb dX5_putContent_5 rfl hl (by decide) rfl (fun ls hl => ?_)
  refine hq_iconst hx hb dX5_putContent_6 (by decide) (by decide) (fun z4 ez4 => ?_)
  refine lv_istore (lv' := [(4, .int z4), (3, .int x2), (0, .ref h0), (1, .int type), (2, .ref told)]) hx hb dX5_putContent_7 hl (by decide) rfl (fun ls hl => ?_)
  have lp7 : ∀ (nlp7 : Nat) (v5 : Int32) (g6 : Nat → Nat → Int) (H : Heap) (locs : List Loc) (ls : Array Slot), (hg_P hx_c g g6) → (hg_k g6) → (0 ≤ v5.toInt) → (v5.toInt ≤ 60) → (61 - v5.toInt < (nlp7 : Int)) → hp_J dC dI dA κ B g6 s.heap H locs → lv_has ls 5 [(0, .ref h0), (1, .int type), (2, .ref told), (3, .int x2), (4, .int v5)] → W p l e (headSpec wsX5_putContent ({ frames := 2, cells := 0, slots := 0, locals := 43 } : Room)).room s m ([Value.ref h0, Value.int type, Value.ref told] : List Value).toArray below meth c H locs 0 0 (MQ below (hp_Qv dC dI dA κ B (fun u => hg_P hx_c g u ∧ hg_k u)) ([Value.ref h0, Value.int type, Value.ref told] : List Value).toArray s 0 0 (hp_A B)) (F0 m 9 ls []) := by
    intro nlp7
    induction nlp7 with
    | zero => intro v5 g6 H locs ls iv9 iv10 iv11 iv12 hm8 hJ hl; exact absurd hm8 (by omega)
    | succ nlp7 ihlp7 =>
      intro v5 g6 H locs ls iv9 iv10 iv11 iv12 hm8 hJ hl
      obtain ⟨hG1, hG2, hG3, hG4, hG5, hG6, hG7, hG8⟩ := id iv10
      refine lv_iload hx hb dX5_putContent_9 (lv_at hl 4 rfl) ?_
      refine lv_iload_n hx hb dX5_putContent_11 rfl (lv_at hl 3 rfl) ?_
      refine hq_icmp_ge (tgt := 32) hx hb dX5_putContent_12 (by decide) (fun c13 => ?_) (fun c13 => ?_)
      · exact hp_vret hx hb hK hN hW hlocks hJ hr ⟨iv9, iv10⟩ dX5_putContent_32
      · refine lv_aload_n hx hb dX5_putContent_15 rfl (lv_at hl 0 rfl) ?_
        refine lv_aload_n hx hb dX5_putContent_16 rfl (lv_at hl 2 rfl) ?_
        refine lv_iload_n hx hb dX5_putContent_17 rfl (lv_at hl 1 rfl) ?_
        refine lv_iload hx hb dX5_putContent_18 (lv_at hl 4 rfl) ?_
        refine hp_calli (va_runV (As := [.int type, .int v5]) (rest := [.ref h0]) ⟨hx, hb, hml, hown, hts⟩ (c_X0_byteAt l dC dI dA κ B g6 told ktold type v5) (cwV 2 hts gX5_putContent_X0_byteAt rfl rfl rfl (by decide +kernel) ⟨Nat.le_of_ble_eq_true rfl, Nat.le_of_ble_eq_true rfl⟩) (hp_preV (q := (RX0, TX0, 2)) [.int type, .int v5] hK hN hW hJ ktold rfl rfl) rfl rfl hl.1 rfl (lv_room (Nat.le_of_ble_eq_true rfl)) dX5_putContent_20 ⟨Nat.zero_le _, Nat.zero_le _⟩) hJ (fun x15 g14 H locs hp hJ => ?_)
        subst hp
        refine hp_callv (va_runV (As := [.int x15]) (rest := []) ⟨hx, hb, hml, hown, hts⟩ (c_X5_putByte l dC dI dA κ B g6 h0 k0 x15 iv10) (cwV 1 hts gX5_putContent_X5_putByte rfl rfl rfl (by decide +kernel) ⟨Nat.le_of_ble_eq_true rfl, Nat.le_of_ble_eq_true rfl⟩) (hp_preV (q := (RX5, TX5, 3)) [.int x15] hK hN hW hJ k0 rfl rfl) rfl rfl hl.1 rfl (lv_room (Nat.le_of_ble_eq_true rfl)) dX5_putContent_23 ⟨Nat.zero_le _, Nat.zero_le _⟩) hJ (fun g16 H locs hp hJ => ?_)
        obtain ⟨P18a, K19⟩ := hp
        obtain ⟨K191, K192, K193, K194, K195, K196, K197, K198⟩ := id K19
        have P18 : hg_P hx_c g g16 := hg_P.tr iv9 P18a
        have qt20 : g16 1 1 = g6 1 1 := P18a 1 1 rfl
        have qt21 : g16 11 1 = g6 11 1 := P18a 11 1 rfl
        have qt22 : g16 11 13 = g6 11 13 := P18a 11 13 rfl
        have qt23 : g16 11 22 = g6 11 22 := P18a 11 22 rfl
        refine hq_iinc (k := 4) (lv' := fun (z9 : Int32) => [(4, .int z9), (0, .ref h0), (1, .int type), (2, .ref told), (3, .int x2)]) hx hb dX5_putContent_26 hl rfl (by decide) (by decide) (by omega) (by omega) (by decide) (fun _ => rfl) (fun x24 ls ex24 hl => ?_)
        have hl : lv_has ls 5 [(4, .int x24), (0, .ref h0), (1, .int type), (2, .ref told), (3, .int x2)] := hl
        refine lv_goto (tgt := 9) hx hb dX5_putContent_29 (by decide) ?_
        exact ihlp7 x24 g16 _ _ ls P18 K19 (by omega) (by omega) (by omega) hJ (lv_sub hl [1, 2, 3, 4, 0] rfl)
  exact lp7 ((61 - z4.toInt).toNat + 1) z4 g _ _ ls hg_P.rf hG (by omega) (by omega) (by omega) hJ (lv_sub hl [2, 3, 4, 1, 0] rfl)
theorem iX5_write_X5 : ∀ w ∈ wsX50, w ∈ wsX5_write := fun _ h => List.mem_cons_of_mem _ (List.mem_append_left _ (List.mem_append_right _ h))
theorem iX5_write_X0 : ∀ w ∈ wsX00, w ∈ wsX5_write := fun _ h => List.mem_cons_of_mem _ (List.mem_append_right _ h)
set_option maxRecDepth 100000 in
set_option maxHeartbeats 4000000 in
theorem c_X5_write (l : Launch) (dC : Nat → ClassId) (dI : Nat → Nat → Nat) (dA : Nat → ClassId) (κ : Nat → Nat) (B : Nat) (g : Nat → Nat → Int) (h0 : Nat) (k0 : κ h0 = 4) (p1 : Int32) (told : Nat) (ktold : κ told = 2) (held : Int32) (hG : hg_k g) : Met l yX5_write wsX5_write ({ frames := 3, cells := 0, slots := 0, locals := 67 } : Room) (hp_Pre dC dI dA κ B g [Value.ref h0, Value.int p1, Value.ref told, Value.int held]) (hp_Qv dC dI dA κ B (fun u => hg_P hx_c g u ∧ hg_k u)) 0 0 (hp_A B) := by
  refine Met.ofW (cc := cX5_write) (maxL := 5) (ret := none) (by decide) rfl ?_
  intro p e s m args below meth c s₁ Bd hml hv
  obtain ⟨rfl, hK, hN, hW, hF⟩ := hv
  have hx := Bd.exec
  have hb := Bd.bytes
  have hr := Bd.returns
  have hts := atoms_spec (ws := wsX5_write) Bd.pre
  have hown : s.vm.findClass RX5 = some m.cls := findClass_of_methodNamed Bd.named
  have hlocks := Bd.notSynchronized
  have hJ : hp_J dC dI dA κ B g s.heap s.heap [] := ⟨hF, va_S.rf⟩
  have hl := lv_entry ([Value.ref h0, Value.int p1, Value.ref told, Value.int held]) (n := 5) (Nat.le_of_ble_eq_true rfl)
  rw [lg_entry_eq]
  generalize (lg_sl ([Value.ref h0, Value.int p1, Value.ref told, Value.int held]) ++ List.replicate (5 - (lg_sl ([Value.ref h0, Value.int p1, Value.ref told, Value.int held])).length) Slot.unset).toArray = ls at hl ⊢
  have hl : lv_has ls 5 [(0, .ref h0), (1, .int p1), (2, .ref told), (3, .int held)] := hl
  obtain ⟨hG1, hG2, hG3, hG4, hG5, hG6, hG7, hG8⟩ := id hG
  refine lv_aload_n hx hb dX5_write_0 rfl (lv_at hl 0 rfl) ?_
  refine lv_iload_n hx hb dX5_write_1 rfl (lv_at hl 1 rfl) ?_
  refine hp_putx (C := RX5) (T := TX5) (N := 3) (ci := 5) (kd := 4) hx hb hts iX5_write_X5 hown hK hJ k0 rfl rfl 2 (by decide) (hts (.fieldLink RX5 15 "NeighborBook$SentFrame" "port" "I") (List.mem_of_getElem? (i := 1) rfl)) (fun _ h9 => h9) tyX5 tyX5_ok nmX5 (x := p1) rfl rfl (by decide) hW rfl rfl rfl dX5_write_2 (fun g1 H locs eg1 ng1 hJ => ?_)
  have eg1 : g1 4 2 = p1.toInt := eg1
  have P2 : hg_P hx_c g g1 := hg_P.put hg_P.rf ng1 rfl
  have tt3 : g1 1 1 = g 1 1 := ng1 1 1 (by decide)
  have tt4 : g1 10 1 = g 10 1 := ng1 10 1 (by decide)
  have tt5 : g1 4 1 = g 4 1 := ng1 4 1 (by decide)
  refine lv_aload_n hx hb dX5_write_5 rfl (lv_at hl 0 rfl) ?_
  refine hq_iconst hx hb dX5_write_6 (by decide) (by decide) (fun z6 ez6 => ?_)
  refine hp_putx (C := RX5) (T := TX5) (N := 3) (ci := 5) (kd := 4) hx hb hts iX5_write_X5 hown hK hJ k0 rfl rfl 1 (by decide) (hts (.fieldLink RX5 19 "NeighborBook$SentFrame" "length" "I") (List.mem_of_getElem? (i := 2) rfl)) (fun _ h9 => h9) tyX5 tyX5_ok nmX5 (x := z6) rfl rfl (by decide) hW rfl rfl rfl dX5_write_7 (fun g7 H locs eg7 ng7 hJ => ?_)
  have eg7 : g7 4 1 = z6.toInt := eg7
  have P8 : hg_P hx_c g g7 := hg_P.put P2 ng7 rfl
  have tt9 : g7 1 1 = g1 1 1 := ng7 1 1 (by decide)
  have tt10 : g7 10 1 = g1 10 1 := ng7 10 1 (by decide)
  refine lv_aload_n hx hb dX5_write_10 rfl (lv_at hl 0 rfl) ?_
  refine hq_iconst hx hb dX5_write_11 (by decide) (by decide) (fun z11 ez11 => ?_)
  refine lv_aload_n hx hb dX5_write_12 rfl (lv_at hl 2 rfl) ?_
  refine hq_iconst hx hb dX5_write_13 (by decide) (by decide) (fun z12 ez12 => ?_)
  refine hp_calli (va_runV (As := [.int z12]) (rest := [.int z11, .ref h0]) ⟨hx, hb, hml, hown, hts⟩ (c_X0_sizeOf l dC dI dA κ B g7 told ktold z12) (cwV 1 hts gX5_write_X0_sizeOf rfl rfl rfl (by decide +kernel) ⟨Nat.le_of_ble_eq_true rfl, Nat.le_of_ble_eq_true rfl⟩) (hp_preV (q := (RX0, TX0, 2)) [.int z12] hK hN hW hJ ktold rfl rfl) rfl rfl hl.1 rfl (lv_room (Nat.le_of_ble_eq_true rfl)) dX5_write_14 ⟨Nat.zero_le _, Nat.zero_le _⟩) hJ (fun x14 g13 H locs hp hJ => ?_)
  obtain ⟨rfl, f15⟩ := hp
  refine hp_callv (va_runV (As := [.int z11, .int x14]) (rest := []) ⟨hx, hb, hml, hown, hts⟩ (c_X5_putHead l dC dI dA κ B g7 h0 k0 z11 x14 (hg_k.ofc hG P8 (by constructor <;> omega) (by constructor <;> omega) )) (cwV 2 hts gX5_write_X5_putHead rfl rfl rfl (by decide +kernel) ⟨Nat.le_of_ble_eq_true rfl, Nat.le_of_ble_eq_true rfl⟩) (hp_preV (q := (RX5, TX5, 3)) [.int z11, .int x14] hK hN hW hJ k0 rfl rfl) rfl rfl hl.1 rfl (lv_room (Nat.le_of_ble_eq_true rfl)) dX5_write_17 ⟨Nat.zero_le _, Nat.zero_le _⟩) hJ (fun g16 H locs hp hJ => ?_)
  obtain ⟨P18a, K19⟩ := hp
  obtain ⟨K191, K192, K193, K194, K195, K196, K197, K198⟩ := id K19
  have P18 : hg_P hx_c g g16 := hg_P.tr P8 P18a
  have qt20 : g16 1 1 = g7 1 1 := P18a 1 1 rfl
  have qt21 : g16 11 1 = g7 11 1 := P18a 11 1 rfl
  have qt22 : g16 11 13 = g7 11 13 := P18a 11 13 rfl
  have qt23 : g16 11 22 = g7 11 22 := P18a 11 22 rfl
  refine lv_aload_n hx hb dX5_write_20 rfl (lv_at hl 0 rfl) ?_
  refine hq_iconst hx hb dX5_write_21 (by decide) (by decide) (fun z24 ez24 => ?_)
  refine lv_aload_n hx hb dX5_write_22 rfl (lv_at hl 2 rfl) ?_
  refine hp_callv (va_runV (As := [.int z24, .ref told]) (rest := []) ⟨hx, hb, hml, hown, hts⟩ (c_X5_putContent l dC dI dA κ B g16 h0 k0 z24 told ktold K19) (cwV 2 hts gX5_write_X5_putContent rfl rfl rfl (by decide +kernel) ⟨Nat.le_of_ble_eq_true rfl, Nat.le_of_ble_eq_true rfl⟩) (hp_preV (q := (RX5, TX5, 3)) [.int z24, .ref told] hK hN hW hJ k0 rfl rfl) rfl rfl hl.1 rfl (lv_room (Nat.le_of_ble_eq_true rfl)) dX5_write_23 ⟨Nat.zero_le _, Nat.zero_le _⟩) hJ (fun g25 H locs hp hJ => ?_)
  obtain ⟨P27a, K28⟩ := hp
  obtain ⟨K281, K282, K283, K284, K285, K286, K287, K288⟩ := id K28
  have P27 : hg_P hx_c g g25 := hg_P.tr P18 P27a
  have qt29 : g25 1 1 = g16 1 1 := P27a 1 1 rfl
  have qt30 : g25 11 1 = g16 11 1 := P27a 11 1 rfl
  have qt31 : g25 11 13 = g16 11 13 := P27a 11 13 rfl
  have qt32 : g25 11 22 = g16 11 22 := P27a 11 22 rfl
  refine lv_aload_n hx hb dX5_write_26 rfl (lv_at hl 0 rfl) ?_
  refine hq_iconst hx hb dX5_write_27 (by decide) (by decide) (fun z33 ez33 => ?_)
  refine lv_aload_n hx hb dX5_write_28 rfl (lv_at hl 2 rfl) ?_
  refine hq_iconst hx hb dX5_write_29 (by decide) (by decide) (fun z34 ez34 => ?_)
  refine hp_calli (va_runV (As := [.int z34]) (rest := [.int z33, .ref h0]) ⟨hx, hb, hml, hown, hts⟩ (c_X0_sizeOf l dC dI dA κ B g25 told ktold z34) (cwV 1 hts gX5_write_X0_sizeOf rfl rfl rfl (by decide +kernel) ⟨Nat.le_of_ble_eq_true rfl, Nat.le_of_ble_eq_true rfl⟩) (hp_preV (q := (RX0, TX0, 2)) [.int z34] hK hN hW hJ ktold rfl rfl) rfl rfl hl.1 rfl (lv_room (Nat.le_of_ble_eq_true rfl)) dX5_write_30 ⟨Nat.zero_le _, Nat.zero_le _⟩) hJ (fun x36 g35 H locs hp hJ => ?_)
  obtain ⟨rfl, f37⟩ := hp
  refine hq_iconst hx hb dX5_write_33 (by decide) (by decide) (fun z38 ez38 => ?_)
  refine hq_iadd hx hb dX5_write_34 (by omega) (by omega) (fun x39 ex39 => ?_)
  refine hp_callv (va_runV (As := [.int z33, .int x39]) (rest := []) ⟨hx, hb, hml, hown, hts⟩ (c_X5_putHead l dC dI dA κ B g25 h0 k0 z33 x39 K28) (cwV 2 hts gX5_write_X5_putHead rfl rfl rfl (by decide +kernel) ⟨Nat.le_of_ble_eq_true rfl, Nat.le_of_ble_eq_true rfl⟩) (hp_preV (q := (RX5, TX5, 3)) [.int z33, .int x39] hK hN hW hJ k0 rfl rfl) rfl rfl hl.1 rfl (lv_room (Nat.le_of_ble_eq_true rfl)) dX5_write_35 ⟨Nat.zero_le _, Nat.zero_le _⟩) hJ (fun g40 H locs hp hJ => ?_)
  obtain ⟨P42a, K43⟩ := hp
  obtain ⟨K431, K432, K433, K434, K435, K436, K437, K438⟩ := id K43
  have P42 : hg_P hx_c g g40 := hg_P.tr P27 P42a
  have qt44 : g40 1 1 = g25 1 1 := P42a 1 1 rfl
  have qt45 : g40 11 1 = g25 11 1 := P42a 11 1 rfl
  have qt46 : g40 11 13 = g25 11 13 := P42a 11 13 rfl
  have qt47 : g40 11 22 = g25 11 22 := P42a 11 22 rfl
  refine lv_aload_n hx hb dX5_write_38 rfl (lv_at hl 0 rfl) ?_
  refine hq_iconst hx hb dX5_write_39 (by decide) (by decide) (fun z48 ez48 => ?_)
  refine lv_aload_n hx hb dX5_write_40 rfl (lv_at hl 2 rfl) ?_
  refine hp_callv (va_runV (As := [.int z48, .ref told]) (rest := []) ⟨hx, hb, hml, hown, hts⟩ (c_X5_putContent l dC dI dA κ B g40 h0 k0 z48 told ktold K43) (cwV 2 hts gX5_write_X5_putContent rfl rfl rfl (by decide +kernel) ⟨Nat.le_of_ble_eq_true rfl, Nat.le_of_ble_eq_true rfl⟩) (hp_preV (q := (RX5, TX5, 3)) [.int z48, .ref told] hK hN hW hJ k0 rfl rfl) rfl rfl hl.1 rfl (lv_room (Nat.le_of_ble_eq_true rfl)) dX5_write_41 ⟨Nat.zero_le _, Nat.zero_le _⟩) hJ (fun g49 H locs hp hJ => ?_)
  obtain ⟨P51a, K52⟩ := hp
  obtain ⟨K521, K522, K523, K524, K525, K526, K527, K528⟩ := id K52
  have P51 : hg_P hx_c g g49 := hg_P.tr P42 P51a
  have qt53 : g49 1 1 = g40 1 1 := P51a 1 1 rfl
  have qt54 : g49 11 1 = g40 11 1 := P51a 11 1 rfl
  have qt55 : g49 11 13 = g40 11 13 := P51a 11 13 rfl
  have qt56 : g49 11 22 = g40 11 22 := P51a 11 22 rfl
  refine lv_aload_n hx hb dX5_write_44 rfl (lv_at hl 0 rfl) ?_
  refine lv_iload_n hx hb dX5_write_45 rfl (lv_at hl 1 rfl) ?_
  refine hp_callv (va_runV (As := [.int p1]) (rest := []) ⟨hx, hb, hml, hown, hts⟩ (c_X5_putByte l dC dI dA κ B g49 h0 k0 p1 K52) (cwV 1 hts gX5_write_X5_putByte rfl rfl rfl (by decide +kernel) ⟨Nat.le_of_ble_eq_true rfl, Nat.le_of_ble_eq_true rfl⟩) (hp_preV (q := (RX5, TX5, 3)) [.int p1] hK hN hW hJ k0 rfl rfl) rfl rfl hl.1 rfl (lv_room (Nat.le_of_ble_eq_true rfl)) dX5_write_46 ⟨Nat.zero_le _, Nat.zero_le _⟩) hJ (fun g57 H locs hp hJ => ?_)
  obtain ⟨P59a, K60⟩ := hp
  obtain ⟨K601, K602, K603, K604, K605, K606, K607, K608⟩ := id K60
  have P59 : hg_P hx_c g g57 := hg_P.tr P51 P59a
  have qt61 : g57 1 1 = g49 1 1 := P59a 1 1 rfl
  have qt62 : g57 11 1 = g49 11 1 := P59a 11 1 rfl
  have qt63 : g57 11 13 = g49 11 13 := P59a 11 13 rfl
  have qt64 : g57 11 22 = g49 11 22 := P59a 11 22 rfl
  refine lv_aload_n hx hb dX5_write_49 rfl (lv_at hl 0 rfl) ?_
  refine hq_iconst hx hb dX5_write_50 (by decide) (by decide) (fun z65 ez65 => ?_)
  refine hq_iconst hx hb dX5_write_51 (by decide) (by decide) (fun z66 ez66 => ?_)
  refine hp_callv (va_runV (As := [.int z65, .int z66]) (rest := []) ⟨hx, hb, hml, hown, hts⟩ (c_X5_putHead l dC dI dA κ B g57 h0 k0 z65 z66 K60) (cwV 2 hts gX5_write_X5_putHead rfl rfl rfl (by decide +kernel) ⟨Nat.le_of_ble_eq_true rfl, Nat.le_of_ble_eq_true rfl⟩) (hp_preV (q := (RX5, TX5, 3)) [.int z65, .int z66] hK hN hW hJ k0 rfl rfl) rfl rfl hl.1 rfl (lv_room (Nat.le_of_ble_eq_true rfl)) dX5_write_52 ⟨Nat.zero_le _, Nat.zero_le _⟩) hJ (fun g67 H locs hp hJ => ?_)
  obtain ⟨P69a, K70⟩ := hp
  obtain ⟨K701, K702, K703, K704, K705, K706, K707, K708⟩ := id K70
  have P69 : hg_P hx_c g g67 := hg_P.tr P59 P69a
  have qt71 : g67 1 1 = g57 1 1 := P69a 1 1 rfl
  have qt72 : g67 11 1 = g57 11 1 := P69a 11 1 rfl
  have qt73 : g67 11 13 = g57 11 13 := P69a 11 13 rfl
  have qt74 : g67 11 22 = g57 11 22 := P69a 11 22 rfl
  refine lv_aload_n hx hb dX5_write_55 rfl (lv_at hl 0 rfl) ?_
  refine lv_iload_n hx hb dX5_write_56 rfl (lv_at hl 3 rfl) ?_
  refine hq_bipush hx hb dX5_write_57 (by decide) (fun z75 ez75 => ?_)
  refine hq_ishrU hx hb dX5_write_59 (fun x76 => ?_)
  refine hp_callv (va_runV (As := [.int x76]) (rest := []) ⟨hx, hb, hml, hown, hts⟩ (c_X5_putByte l dC dI dA κ B g67 h0 k0 x76 K70) (cwV 1 hts gX5_write_X5_putByte rfl rfl rfl (by decide +kernel) ⟨Nat.le_of_ble_eq_true rfl, Nat.le_of_ble_eq_true rfl⟩) (hp_preV (q := (RX5, TX5, 3)) [.int x76] hK hN hW hJ k0 rfl rfl) rfl rfl hl.1 rfl (lv_room (Nat.le_of_ble_eq_true rfl)) dX5_write_60 ⟨Nat.zero_le _, Nat.zero_le _⟩) hJ (fun g77 H locs hp hJ => ?_)
  obtain ⟨P79a, K80⟩ := hp
  obtain ⟨K801, K802, K803, K804, K805, K806, K807, K808⟩ := id K80
  have P79 : hg_P hx_c g g77 := hg_P.tr P69 P79a
  have qt81 : g77 1 1 = g67 1 1 := P79a 1 1 rfl
  have qt82 : g77 11 1 = g67 11 1 := P79a 11 1 rfl
  have qt83 : g77 11 13 = g67 11 13 := P79a 11 13 rfl
  have qt84 : g77 11 22 = g67 11 22 := P79a 11 22 rfl
  refine lv_aload_n hx hb dX5_write_63 rfl (lv_at hl 0 rfl) ?_
  refine lv_iload_n hx hb dX5_write_64 rfl (lv_at hl 3 rfl) ?_
  refine hp_callv (va_runV (As := [.int held]) (rest := []) ⟨hx, hb, hml, hown, hts⟩ (c_X5_putByte l dC dI dA κ B g77 h0 k0 held K80) (cwV 1 hts gX5_write_X5_putByte rfl rfl rfl (by decide +kernel) ⟨Nat.le_of_ble_eq_true rfl, Nat.le_of_ble_eq_true rfl⟩) (hp_preV (q := (RX5, TX5, 3)) [.int held] hK hN hW hJ k0 rfl rfl) rfl rfl hl.1 rfl (lv_room (Nat.le_of_ble_eq_true rfl)) dX5_write_65 ⟨Nat.zero_le _, Nat.zero_le _⟩) hJ (fun g85 H locs hp hJ => ?_)
  obtain ⟨P87a, K88⟩ := hp
  obtain ⟨K881, K882, K883, K884, K885, K886, K887, K888⟩ := id K88
  have P87 : hg_P hx_c g g85 := hg_P.tr P79 P87a
  have qt89 : g85 1 1 = g77 1 1 := P87a 1 1 rfl
  have qt90 : g85 11 1 = g77 11 1 := P87a 11 1 rfl
  have qt91 : g85 11 13 = g77 11 13 := P87a 11 13 rfl
  have qt92 : g85 11 22 = g77 11 22 := P87a 11 22 rfl
  refine hq_iconst hx hb dX5_write_68 (by decide) (by decide) (fun z93 ez93 => ?_)
  refine lv_istore (lv' := [(4, .int z93), (0, .ref h0), (1, .int p1), (2, .ref told), (3, .int held)]) hx hb dX5_write_69 hl (by decide) rfl (fun ls hl => ?_)
  have lp96 : ∀ (nlp96 : Nat) (v94 : Int32) (g95 : Nat → Nat → Int) (H : Heap) (locs : List Loc) (ls : Array Slot), (hg_P hx_c g g95) → (hg_k g95) → (4 ≤ v94.toInt) → (v94.toInt ≤ 9) → (10 - v94.toInt < (nlp96 : Int)) → hp_J dC dI dA κ B g95 s.heap H locs → lv_has ls 5 [(0, .ref h0), (1, .int p1), (2, .ref told), (3, .int held), (4, .int v94)] → W p l e (headSpec wsX5_write ({ frames := 3, cells := 0, slots := 0, locals := 67 } : Room)).room s m ([Value.ref h0, Value.int p1, Value.ref told, Value.int held] : List Value).toArray below meth c H locs 0 0 (MQ below (hp_Qv dC dI dA κ B (fun u => hg_P hx_c g u ∧ hg_k u)) ([Value.ref h0, Value.int p1, Value.ref told, Value.int held] : List Value).toArray s 0 0 (hp_A B)) (F0 m 71 ls []) := by
    intro nlp96
    induction nlp96 with
    | zero => intro v94 g95 H locs ls iv98 iv99 iv100 iv101 hm97 hJ hl; exact absurd hm97 (by omega)
    | succ nlp96 ihlp96 =>
      intro v94 g95 H locs ls iv98 iv99 iv100 iv101 hm97 hJ hl
      obtain ⟨hG1, hG2, hG3, hG4, hG5, hG6, hG7, hG8⟩ := id iv99
      refine lv_iload hx hb dX5_write_71 (lv_at hl 4 rfl) ?_
      refine hq_bipush hx hb dX5_write_73 (by decide) (fun z102 ez102 => ?_)
      refine hq_icmp_gt (tgt := 112) hx hb dX5_write_75 (by decide) (fun c103 => ?_) (fun c103 => ?_)
      · refine lv_aload_n hx hb dX5_write_112 rfl (lv_at hl 0 rfl) ?_
        refine hq_iconst hx hb dX5_write_113 (by decide) (by decide) (fun z104 ez104 => ?_)
        refine hq_iconst hx hb dX5_write_114 (by decide) (by decide) (fun z105 ez105 => ?_)
        refine hp_callv (va_runV (As := [.int z104, .int z105]) (rest := []) ⟨hx, hb, hml, hown, hts⟩ (c_X5_putHead l dC dI dA κ B g95 h0 k0 z104 z105 iv99) (cwV 2 hts gX5_write_X5_putHead rfl rfl rfl (by decide +kernel) ⟨Nat.le_of_ble_eq_true rfl, Nat.le_of_ble_eq_true rfl⟩) (hp_preV (q := (RX5, TX5, 3)) [.int z104, .int z105] hK hN hW hJ k0 rfl rfl) rfl rfl hl.1 rfl (lv_room (Nat.le_of_ble_eq_true rfl)) dX5_write_115 ⟨Nat.zero_le _, Nat.zero_le _⟩) hJ (fun g106 H locs hp hJ => ?_)
        obtain ⟨P108a, K109⟩ := hp
        obtain ⟨K1091, K1092, K1093, K1094, K1095, K1096, K1097, K1098⟩ := id K109
        have P108 : hg_P hx_c g g106 := hg_P.tr iv98 P108a
        have qt110 : g106 1 1 = g95 1 1 := P108a 1 1 rfl
        have qt111 : g106 11 1 = g95 11 1 := P108a 11 1 rfl
        have qt112 : g106 11 13 = g95 11 13 := P108a 11 13 rfl
        have qt113 : g106 11 22 = g95 11 22 := P108a 11 22 rfl
        exact hp_vret hx hb hK hN hW hlocks hJ hr ⟨P108, K109⟩ dX5_write_118
      · refine lv_aload_n hx hb dX5_write_78 rfl (lv_at hl 2 rfl) ?_
        refine lv_iload hx hb dX5_write_79 (lv_at hl 4 rfl) ?_
        refine hp_calli (va_runV (As := [.int v94]) (rest := []) ⟨hx, hb, hml, hown, hts⟩ (c_X0_has l dC dI dA κ B g95 told ktold v94) (cwV 1 hts gX5_write_X0_has rfl rfl rfl (by decide +kernel) ⟨Nat.le_of_ble_eq_true rfl, Nat.le_of_ble_eq_true rfl⟩) (hp_preV (q := (RX0, TX0, 2)) [.int v94] hK hN hW hJ ktold rfl rfl) rfl rfl hl.1 rfl (lv_room (Nat.le_of_ble_eq_true rfl)) dX5_write_81 ⟨Nat.zero_le _, Nat.zero_le _⟩) hJ (fun x115 g114 H locs hp hJ => ?_)
        obtain ⟨rfl, f116⟩ := hp
        refine hq_if_eq (tgt := 106) hx hb dX5_write_84 (by decide) (fun c117 => ?_) (fun c117 => ?_)
        · refine hq_iinc (k := 4) (lv' := fun (z9 : Int32) => [(4, .int z9), (0, .ref h0), (1, .int p1), (2, .ref told), (3, .int held)]) hx hb dX5_write_106 hl rfl (by decide) (by decide) (by omega) (by omega) (by decide) (fun _ => rfl) (fun x118 ls ex118 hl => ?_)
          have hl : lv_has ls 5 [(4, .int x118), (0, .ref h0), (1, .int p1), (2, .ref told), (3, .int held)] := hl
          refine lv_goto (tgt := 71) hx hb dX5_write_109 (by decide) ?_
          exact ihlp96 x118 g95 _ _ ls iv98 iv99 (by omega) (by omega) (by omega) hJ (lv_sub hl [1, 2, 3, 4, 0] rfl)
        · refine lv_aload_n hx hb dX5_write_87 rfl (lv_at hl 0 rfl) ?_
          refine lv_iload hx hb dX5_write_88 (lv_at hl 4 rfl) ?_
          refine lv_aload_n hx hb dX5_write_90 rfl (lv_at hl 2 rfl) ?_
          refine lv_iload hx hb dX5_write_91 (lv_at hl 4 rfl) ?_
          refine hp_calli (va_runV (As := [.int v94]) (rest := [.int v94, .ref h0]) ⟨hx, hb, hml, hown, hts⟩ (c_X0_sizeOf l dC dI dA κ B g95 told ktold v94) (cwV 1 hts gX5_write_X0_sizeOf rfl rfl rfl (by decide +kernel) ⟨Nat.le_of_ble_eq_true rfl, Nat.le_of_ble_eq_true rfl⟩) (hp_preV (q := (RX0, TX0, 2)) [.int v94] hK hN hW hJ ktold rfl rfl) rfl rfl hl.1 rfl (lv_room (Nat.le_of_ble_eq_true rfl)) dX5_write_93 ⟨Nat.zero_le _, Nat.zero_le _⟩) hJ (fun x120 g119 H locs hp hJ => ?_)
          obtain ⟨rfl, f121⟩ := hp
          refine hp_callv (va_runV (As := [.int v94, .int x120]) (rest := []) ⟨hx, hb, hml, hown, hts⟩ (c_X5_putHead l dC dI dA κ B g95 h0 k0 v94 x120 iv99) (cwV 2 hts gX5_write_X5_putHead rfl rfl rfl (by decide +kernel) ⟨Nat.le_of_ble_eq_true rfl, Nat.le_of_ble_eq_true rfl⟩) (hp_preV (q := (RX5, TX5, 3)) [.int v94, .int x120] hK hN hW hJ k0 rfl rfl) rfl rfl hl.1 rfl (lv_room (Nat.le_of_ble_eq_true rfl)) dX5_write_96 ⟨Nat.zero_le _, Nat.zero_le _⟩) hJ (fun g122 H locs hp hJ => ?_)
          obtain ⟨P124a, K125⟩ := hp
          obtain ⟨K1251, K1252, K1253, K1254, K1255, K1256, K1257, K1258⟩ := id K125
          have P124 : hg_P hx_c g g122 := hg_P.tr iv98 P124a
          have qt126 : g122 1 1 = g95 1 1 := P124a 1 1 rfl
          have qt127 : g122 11 1 = g95 11 1 := P124a 11 1 rfl
          have qt128 : g122 11 13 = g95 11 13 := P124a 11 13 rfl
          have qt129 : g122 11 22 = g95 11 22 := P124a 11 22 rfl
          refine lv_aload_n hx hb dX5_write_99 rfl (lv_at hl 0 rfl) ?_
          refine lv_iload hx hb dX5_write_100 (lv_at hl 4 rfl) ?_
          refine lv_aload_n hx hb dX5_write_102 rfl (lv_at hl 2 rfl) ?_
          refine hp_callv (va_runV (As := [.int v94, .ref told]) (rest := []) ⟨hx, hb, hml, hown, hts⟩ (c_X5_putContent l dC dI dA κ B g122 h0 k0 v94 told ktold K125) (cwV 2 hts gX5_write_X5_putContent rfl rfl rfl (by decide +kernel) ⟨Nat.le_of_ble_eq_true rfl, Nat.le_of_ble_eq_true rfl⟩) (hp_preV (q := (RX5, TX5, 3)) [.int v94, .ref told] hK hN hW hJ k0 rfl rfl) rfl rfl hl.1 rfl (lv_room (Nat.le_of_ble_eq_true rfl)) dX5_write_103 ⟨Nat.zero_le _, Nat.zero_le _⟩) hJ (fun g130 H locs hp hJ => ?_)
          obtain ⟨P132a, K133⟩ := hp
          obtain ⟨K1331, K1332, K1333, K1334, K1335, K1336, K1337, K1338⟩ := id K133
          have P132 : hg_P hx_c g g130 := hg_P.tr P124 P132a
          have qt134 : g130 1 1 = g122 1 1 := P132a 1 1 rfl
          have qt135 : g130 11 1 = g122 11 1 := P132a 11 1 rfl
          have qt136 : g130 11 13 = g122 11 13 := P132a 11 13 rfl
          have qt137 : g130 11 22 = g122 11 22 := P132a 11 22 rfl
          refine hq_iinc (k := 4) (lv' := fun (z9 : Int32) => [(4, .int z9), (0, .ref h0), (1, .int p1), (2, .ref told), (3, .int held)]) hx hb dX5_write_106 hl rfl (by decide) (by decide) (by omega) (by omega) (by decide) (fun _ => rfl) (fun x138 ls ex138 hl => ?_)
          have hl : lv_has ls 5 [(4, .int x138), (0, .ref h0), (1, .int p1), (2, .ref told), (3, .int held)] := hl
          refine lv_goto (tgt := 71) hx hb dX5_write_109 (by decide) ?_
          exact ihlp96 x138 g130 _ _ ls P132 K133 (by omega) (by omega) (by omega) hJ (lv_sub hl [1, 2, 3, 4, 0] rfl)
  exact lp96 ((10 - z93.toInt).toNat + 1) z93 g85 _ _ ls P87 K88 (by omega) (by omega) (by omega) hJ (lv_sub hl [1, 2, 3, 4, 0] rfl)
