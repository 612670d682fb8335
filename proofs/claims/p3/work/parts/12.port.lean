theorem iX2_contents_X2 : ∀ w ∈ wsX20, w ∈ wsX2_contents := fun _ h => List.mem_cons_of_mem _ (List.mem_append_right _ h)
set_option maxRecDepth 100000 in
set_option maxHeartbeats 4000000 in
theorem c_X2_contents (l : Launch) (dC : Nat → ClassId) (dI : Nat → Nat → Nat) (dA : Nat → ClassId) (κ : Nat → Nat) (B : Nat) (g : Nat → Nat → Int) (h0 : Nat) (k0 : κ h0 = 9) : Met l yX2_contents wsX2_contents ({ frames := 0, cells := 0, slots := 0, locals := 0 } : Room) (hp_Pre dC dI dA κ B g [Value.ref h0]) (hp_Qr dC dI dA κ B 2 (fun u => g = u)) 0 0 (hp_A B) := by
  refine Met.ofW (cc := cX2_contents) (maxL := 1) (ret := (some (.object "NeighborBook$Contents"))) (by decide) rfl ?_
  intro p e s m args below meth c s₁ Bd hml hv
  obtain ⟨rfl, hK, hN, hW, hF⟩ := hv
  have hx := Bd.exec
  have hb := Bd.bytes
  have hr := Bd.returns
  have hts := atoms_spec (ws := wsX2_contents) Bd.pre
  have hown : s.vm.findClass RX2 = some m.cls := findClass_of_methodNamed Bd.named
  have hlocks := Bd.notSynchronized
  have hJ : hp_J dC dI dA κ B g s.heap s.heap [] := ⟨hF, va_S.rf⟩
  have hl := lv_entry ([Value.ref h0]) (n := 1) (Nat.le_of_ble_eq_true rfl)
  rw [lg_entry_eq]
  generalize (lg_sl ([Value.ref h0]) ++ List.replicate (1 - (lg_sl ([Value.ref h0])).length) Slot.unset).toArray = ls at hl ⊢
  have hl : lv_has ls 1 [(0, .ref h0)] := hl
  refine lv_aload_n hx hb dX2_contents_0 rfl (lv_at hl 0 rfl) ?_
  refine hp_getr (C := RX2) (T := TX2) (N := 4) (ci := 2) (kd := 9) hx hb hts iX2_contents_X2 hown hK hJ k0 rfl rfl 0 (by decide) (hts (.fieldLink RX2 12 "NeighborBook$Neighbor" "contents" "LNeighborBook$Contents;") (List.mem_of_getElem? (i := 1) rfl)) (fun _ h9 => h9) rfl dX2_contents_1 (fun b1 kb1 => ?_)
  exact hp_aret hx hb hK hN hW hlocks hJ hr kb1 rfl dX2_contents_4
theorem iX2_portOf_X2 : ∀ w ∈ wsX20, w ∈ wsX2_portOf := fun _ h => List.mem_cons_of_mem _ (List.mem_append_right _ h)
set_option maxRecDepth 100000 in
set_option maxHeartbeats 4000000 in
theorem c_X2_portOf (l : Launch) (dC : Nat → ClassId) (dI : Nat → Nat → Nat) (dA : Nat → ClassId) (κ : Nat → Nat) (B : Nat) (g : Nat → Nat → Int) (h0 : Nat) (k0 : κ h0 = 9) : Met l yX2_portOf wsX2_portOf ({ frames := 0, cells := 0, slots := 0, locals := 0 } : Room) (hp_Pre dC dI dA κ B g [Value.ref h0]) (hp_Qi dC dI dA κ B (fun r u => g = u)) 0 0 (hp_A B) := by
  refine Met.ofW (cc := cX2_portOf) (maxL := 1) (ret := (some .int)) (by decide) rfl ?_
  intro p e s m args below meth c s₁ Bd hml hv
  obtain ⟨rfl, hK, hN, hW, hF⟩ := hv
  have hx := Bd.exec
  have hb := Bd.bytes
  have hr := Bd.returns
  have hts := atoms_spec (ws := wsX2_portOf) Bd.pre
  have hown : s.vm.findClass RX2 = some m.cls := findClass_of_methodNamed Bd.named
  have hlocks := Bd.notSynchronized
  have hJ : hp_J dC dI dA κ B g s.heap s.heap [] := ⟨hF, va_S.rf⟩
  have hl := lv_entry ([Value.ref h0]) (n := 1) (Nat.le_of_ble_eq_true rfl)
  rw [lg_entry_eq]
  generalize (lg_sl ([Value.ref h0]) ++ List.replicate (1 - (lg_sl ([Value.ref h0])).length) Slot.unset).toArray = ls at hl ⊢
  have hl : lv_has ls 1 [(0, .ref h0)] := hl
  refine lv_aload_n hx hb dX2_portOf_0 rfl (lv_at hl 0 rfl) ?_
  refine hp_geti (C := RX2) (T := TX2) (N := 4) (ci := 2) (kd := 9) hx hb hts iX2_portOf_X2 hown hK hJ k0 rfl rfl 1 (by decide) (hts (.fieldLink RX2 18 "NeighborBook$Neighbor" "port" "I") (List.mem_of_getElem? (i := 1) rfl)) (fun _ h9 => h9) rfl rfl dX2_portOf_1 (fun x1 ex1 => ?_)
  exact hp_iret hx hb hK hN hW hlocks hJ hr rfl dX2_portOf_4
theorem iX2_begin_X2 : ∀ w ∈ wsX20, w ∈ wsX2_begin := fun _ h => List.mem_cons_of_mem _ (List.mem_append_right _ h)
set_option maxRecDepth 100000 in
set_option maxHeartbeats 4000000 in
theorem c_X2_begin (l : Launch) (dC : Nat → ClassId) (dI : Nat → Nat → Nat) (dA : Nat → ClassId) (κ : Nat → Nat) (B : Nat) (g : Nat → Nat → Int) (h0 : Nat) (k0 : κ h0 = 9) (p1 : Int32) : Met l yX2_begin wsX2_begin ({ frames := 0, cells := 0, slots := 0, locals := 0 } : Room) (hp_Pre dC dI dA κ B g [Value.ref h0, Value.int p1]) (hp_Qv dC dI dA κ B (fun u => g = u)) 0 0 (hp_A B) := by
  refine Met.ofW (cc := cX2_begin) (maxL := 2) (ret := none) (by decide) rfl ?_
  intro p e s m args below meth c s₁ Bd hml hv
  obtain ⟨rfl, hK, hN, hW, hF⟩ := hv
  have hx := Bd.exec
  have hb := Bd.bytes
  have hr := Bd.returns
  have hts := atoms_spec (ws := wsX2_begin) Bd.pre
  have hown : s.vm.findClass RX2 = some m.cls := findClass_of_methodNamed Bd.named
  have hlocks := Bd.notSynchronized
  have hJ : hp_J dC dI dA κ B g s.heap s.heap [] := ⟨hF, va_S.rf⟩
  have hl := lv_entry ([Value.ref h0, Value.int p1]) (n := 2) (Nat.le_of_ble_eq_true rfl)
  rw [lg_entry_eq]
  generalize (lg_sl ([Value.ref h0, Value.int p1]) ++ List.replicate (2 - (lg_sl ([Value.ref h0, Value.int p1])).length) Slot.unset).toArray = ls at hl ⊢
  have hl : lv_has ls 2 [(0, .ref h0), (1, .int p1)] := hl
  refine lv_aload_n hx hb dX2_begin_0 rfl (lv_at hl 0 rfl) ?_
  refine lv_iload_n hx hb dX2_begin_1 rfl (lv_at hl 1 rfl) ?_
  refine hp_put (C := RX2) (T := TX2) (N := 4) (ci := 2) (kd := 9) hx hb hts iX2_begin_X2 hown hK hJ k0 rfl rfl 1 (by decide) (hts (.fieldLink RX2 18 "NeighborBook$Neighbor" "port" "I") (List.mem_of_getElem? (i := 1) rfl)) (fun _ h9 => h9) tyX2 tyX2_ok nmX2 (v := .int p1) rfl rfl (by decide) hW rfl (hs_i_ok rfl trivial) dX2_begin_2 (fun H locs hJ => ?_)
  refine lv_aload_n hx hb dX2_begin_5 rfl (lv_at hl 0 rfl) ?_
  refine hq_iconst hx hb dX2_begin_6 (by decide) (by decide) (fun z1 ez1 => ?_)
  refine hp_put (C := RX2) (T := TX2) (N := 4) (ci := 2) (kd := 9) hx hb hts iX2_begin_X2 hown hK hJ k0 rfl rfl 3 (by decide) (hts (.fieldLink RX2 22 "NeighborBook$Neighbor" "frames" "I") (List.mem_of_getElem? (i := 2) rfl)) (fun _ h9 => h9) tyX2 tyX2_ok nmX2 (v := .int z1) rfl rfl (by decide) hW rfl (hs_i_ok rfl trivial) dX2_begin_7 (fun H locs hJ => ?_)
  exact hp_vret hx hb hK hN hW hlocks hJ hr rfl dX2_begin_10
theorem iX2_renew_X2 : ∀ w ∈ wsX20, w ∈ wsX2_renew := fun _ h => List.mem_cons_of_mem _ (List.mem_append_right _ h)
set_option maxRecDepth 100000 in
set_option maxHeartbeats 4000000 in
theorem c_X2_renew (l : Launch) (dC : Nat → ClassId) (dI : Nat → Nat → Nat) (dA : Nat → ClassId) (κ : Nat → Nat) (B : Nat) (g : Nat → Nat → Int) (h0 : Nat) (k0 : κ h0 = 9) (heard : Nat) (kheard : κ heard = 2) (held : Int32) : Met l yX2_renew wsX2_renew ({ frames := 0, cells := 0, slots := 0, locals := 0 } : Room) (hp_Pre dC dI dA κ B g [Value.ref h0, Value.ref heard, Value.int held]) (hp_Qr dC dI dA κ B 2 (fun u => g = u)) 0 0 (hp_A B) := by
  refine Met.ofW (cc := cX2_renew) (maxL := 4) (ret := (some (.object "NeighborBook$Contents"))) (by decide) rfl ?_
  intro p e s m args below meth c s₁ Bd hml hv
  obtain ⟨rfl, hK, hN, hW, hF⟩ := hv
  have hx := Bd.exec
  have hb := Bd.bytes
  have hr := Bd.returns
  have hts := atoms_spec (ws := wsX2_renew) Bd.pre
  have hown : s.vm.findClass RX2 = some m.cls := findClass_of_methodNamed Bd.named
  have hlocks := Bd.notSynchronized
  have hJ : hp_J dC dI dA κ B g s.heap s.heap [] := ⟨hF, va_S.rf⟩
  have hl := lv_entry ([Value.ref h0, Value.ref heard, Value.int held]) (n := 4) (Nat.le_of_ble_eq_true rfl)
  rw [lg_entry_eq]
  generalize (lg_sl ([Value.ref h0, Value.ref heard, Value.int held]) ++ List.replicate (4 - (lg_sl ([Value.ref h0, Value.ref heard, Value.int held])).length) Slot.unset).toArray = ls at hl ⊢
  have hl : lv_has ls 4 [(0, .ref h0), (1, .ref heard), (2, .int held)] := hl
  refine lv_aload_n hx hb dX2_renew_0 rfl (lv_at hl 0 rfl) ?_
  refine hp_getr (C := RX2) (T := TX2) (N := 4) (ci := 2) (kd := 9) hx hb hts iX2_renew_X2 hown hK hJ k0 rfl rfl 0 (by decide) (hts (.fieldLink RX2 12 "NeighborBook$Neighbor" "contents" "LNeighborBook$Contents;") (List.mem_of_getElem? (i := 1) rfl)) (fun _ h9 => h9) rfl dX2_renew_1 (fun b1 kb1 => ?_)
  refine lv_astore_n (lv' := [(3, .ref b1), (0, .ref h0), (1, .ref heard), (2, .int held)]) hx hb dX2_renew_4 rfl hl (by decide) rfl (fun ls hl => ?_)
  refine lv_aload_n hx hb dX2_renew_5 rfl (lv_at hl 1 rfl) ?_
  refine lv_aload_n hx hb dX2_renew_6 rfl (lv_at hl 2 rfl) ?_
  refine hp_put (C := RX2) (T := TX2) (N := 4) (ci := 2) (kd := 9) hx hb hts iX2_renew_X2 hown hK hJ k0 rfl rfl 0 (by decide) (hts (.fieldLink RX2 12 "NeighborBook$Neighbor" "contents" "LNeighborBook$Contents;") (List.mem_of_getElem? (i := 1) rfl)) (fun _ h9 => h9) tyX2 tyX2_ok nmX2 (v := .ref heard) rfl rfl (by decide) hW rfl ⟨_, rfl, kheard⟩ dX2_renew_7 (fun H locs hJ => ?_)
  refine lv_aload_n hx hb dX2_renew_10 rfl (lv_at hl 1 rfl) ?_
  refine lv_iload_n hx hb dX2_renew_11 rfl (lv_at hl 3 rfl) ?_
  refine hp_put (C := RX2) (T := TX2) (N := 4) (ci := 2) (kd := 9) hx hb hts iX2_renew_X2 hown hK hJ k0 rfl rfl 2 (by decide) (hts (.fieldLink RX2 25 "NeighborBook$Neighbor" "ticksLeft" "I") (List.mem_of_getElem? (i := 2) rfl)) (fun _ h9 => h9) tyX2 tyX2_ok nmX2 (v := .int held) rfl rfl (by decide) hW rfl (hs_i_ok rfl trivial) dX2_renew_12 (fun H locs hJ => ?_)
  refine lv_aload_n hx hb dX2_renew_15 rfl (lv_at hl 1 rfl) ?_
  refine lv_dup hx hb dX2_renew_16 rfl ?_
  refine hp_geti (C := RX2) (T := TX2) (N := 4) (ci := 2) (kd := 9) hx hb hts iX2_renew_X2 hown hK hJ k0 rfl rfl 3 (by decide) (hts (.fieldLink RX2 22 "NeighborBook$Neighbor" "frames" "I") (List.mem_of_getElem? (i := 3) rfl)) (fun _ h9 => h9) rfl rfl dX2_renew_17 (fun x2 ex2 => ?_)
  refine hq_iconst hx hb dX2_renew_20 (by decide) (by decide) (fun z3 ez3 => ?_)
  refine hq_iaddU hx hb dX2_renew_21 (fun x4 => ?_)
  refine hp_put (C := RX2) (T := TX2) (N := 4) (ci := 2) (kd := 9) hx hb hts iX2_renew_X2 hown hK hJ k0 rfl rfl 3 (by decide) (hts (.fieldLink RX2 22 "NeighborBook$Neighbor" "frames" "I") (List.mem_of_getElem? (i := 3) rfl)) (fun _ h9 => h9) tyX2 tyX2_ok nmX2 (v := .int x4) rfl rfl (by decide) hW rfl (hs_i_ok rfl trivial) dX2_renew_22 (fun H locs hJ => ?_)
  refine lv_aload_n hx hb dX2_renew_25 rfl (lv_at hl 0 rfl) ?_
  exact hp_aret hx hb hK hN hW hlocks hJ hr kb1 rfl dX2_renew_26
theorem iX2_passTick_X2 : ∀ w ∈ wsX20, w ∈ wsX2_passTick := fun _ h => List.mem_cons_of_mem _ (List.mem_append_right _ h)
set_option maxRecDepth 100000 in
set_option maxHeartbeats 4000000 in
theorem c_X2_passTick (l : Launch) (dC : Nat → ClassId) (dI : Nat → Nat → Nat) (dA : Nat → ClassId) (κ : Nat → Nat) (B : Nat) (g : Nat → Nat → Int) (h0 : Nat) (k0 : κ h0 = 9) : Met l yX2_passTick wsX2_passTick ({ frames := 0, cells := 0, slots := 0, locals := 0 } : Room) (hp_Pre dC dI dA κ B g [Value.ref h0]) (hp_Qi dC dI dA κ B (fun r u => g = u ∧ (r.toInt = 0 ∨ r.toInt = 1))) 0 0 (hp_A B) := by
  refine Met.ofW (cc := cX2_passTick) (maxL := 1) (ret := (some .boolean)) (by decide) rfl ?_
  intro p e s m args below meth c s₁ Bd hml hv
  obtain ⟨rfl, hK, hN, hW, hF⟩ := hv
  have hx := Bd.exec
  have hb := Bd.bytes
  have hr := Bd.returns
  have hts := atoms_spec (ws := wsX2_passTick) Bd.pre
  have hown : s.vm.findClass RX2 = some m.cls := findClass_of_methodNamed Bd.named
  have hlocks := Bd.notSynchronized
  have hJ : hp_J dC dI dA κ B g s.heap s.heap [] := ⟨hF, va_S.rf⟩
  have hl := lv_entry ([Value.ref h0]) (n := 1) (Nat.le_of_ble_eq_true rfl)
  rw [lg_entry_eq]
  generalize (lg_sl ([Value.ref h0]) ++ List.replicate (1 - (lg_sl ([Value.ref h0])).length) Slot.unset).toArray = ls at hl ⊢
  have hl : lv_has ls 1 [(0, .ref h0)] := hl
  refine lv_aload_n hx hb dX2_passTick_0 rfl (lv_at hl 0 rfl) ?_
  refine lv_dup hx hb dX2_passTick_1 rfl ?_
  refine hp_geti (C := RX2) (T := TX2) (N := 4) (ci := 2) (kd := 9) hx hb hts iX2_passTick_X2 hown hK hJ k0 rfl rfl 2 (by decide) (hts (.fieldLink RX2 25 "NeighborBook$Neighbor" "ticksLeft" "I") (List.mem_of_getElem? (i := 1) rfl)) (fun _ h9 => h9) rfl rfl dX2_passTick_2 (fun x1 ex1 => ?_)
  refine hq_iconst hx hb dX2_passTick_5 (by decide) (by decide) (fun z2 ez2 => ?_)
  refine hq_isubU hx hb dX2_passTick_6 (fun x3 => ?_)
  refine hp_put (C := RX2) (T := TX2) (N := 4) (ci := 2) (kd := 9) hx hb hts iX2_passTick_X2 hown hK hJ k0 rfl rfl 2 (by decide) (hts (.fieldLink RX2 25 "NeighborBook$Neighbor" "ticksLeft" "I") (List.mem_of_getElem? (i := 1) rfl)) (fun _ h9 => h9) tyX2 tyX2_ok nmX2 (v := .int x3) rfl rfl (by decide) hW rfl (hs_i_ok rfl trivial) dX2_passTick_7 (fun H locs hJ => ?_)
  refine lv_aload_n hx hb dX2_passTick_10 rfl (lv_at hl 0 rfl) ?_
  refine hp_geti (C := RX2) (T := TX2) (N := 4) (ci := 2) (kd := 9) hx hb hts iX2_passTick_X2 hown hK hJ k0 rfl rfl 2 (by decide) (hts (.fieldLink RX2 25 "NeighborBook$Neighbor" "ticksLeft" "I") (List.mem_of_getElem? (i := 1) rfl)) (fun _ h9 => h9) rfl rfl dX2_passTick_11 (fun x4 ex4 => ?_)
  refine hq_if_gt (tgt := 21) hx hb dX2_passTick_14 (by decide) (fun c5 => ?_) (fun c5 => ?_)
  · refine hq_iconst hx hb dX2_passTick_21 (by decide) (by decide) (fun z6 ez6 => ?_)
    exact hp_zret hx hb hK hN hW hlocks hJ hr (by omega) ⟨rfl, by omega⟩ dX2_passTick_22
  · refine hq_iconst hx hb dX2_passTick_17 (by decide) (by decide) (fun z7 ez7 => ?_)
    refine lv_goto (tgt := 22) hx hb dX2_passTick_18 (by decide) ?_
    exact hp_zret hx hb hK hN hW hlocks hJ hr (by omega) ⟨rfl, by omega⟩ dX2_passTick_22
theorem iX2_tellAbout_X2 : ∀ w ∈ wsX20, w ∈ wsX2_tellAbout := fun _ h => List.mem_cons_of_mem _ (List.mem_append_left _ (List.mem_append_right _ h))
theorem iX2_tellAbout_X0 : ∀ w ∈ wsX00, w ∈ wsX2_tellAbout := fun _ h => List.mem_cons_of_mem _ (List.mem_append_right _ h)
set_option maxRecDepth 100000 in
set_option maxHeartbeats 4000000 in
theorem c_X2_tellAbout (l : Launch) (dC : Nat → ClassId) (dI : Nat → Nat → Nat) (dA : Nat → ClassId) (κ : Nat → Nat) (B : Nat) (g : Nat → Nat → Int) (h0 : Nat) (k0 : κ h0 = 9) (what : Int32) : Met l yX2_tellAbout wsX2_tellAbout ({ frames := 3, cells := 0, slots := 0, locals := 64 } : Room) (hp_Pre dC dI dA κ B g [Value.ref h0, Value.int what]) (hp_Qi dC dI dA κ B (fun r u => g = u)) 0 0 (hp_A B) := by
  refine Met.ofW (cc := cX2_tellAbout) (maxL := 2) (ret := (some .int)) (by decide) rfl ?_
  intro p e s m args below meth c s₁ Bd hml hv
  obtain ⟨rfl, hK, hN, hW, hF⟩ := hv
  have hx := Bd.exec
  have hb := Bd.bytes
  have hr := Bd.returns
  have hts := atoms_spec (ws := wsX2_tellAbout) Bd.pre
  have hown : s.vm.findClass RX2 = some m.cls := findClass_of_methodNamed Bd.named
  have hlocks := Bd.notSynchronized
  have hJ : hp_J dC dI dA κ B g s.heap s.heap [] := ⟨hF, va_S.rf⟩
  have hl := lv_entry ([Value.ref h0, Value.int what]) (n := 2) (Nat.le_of_ble_eq_true rfl)
  rw [lg_entry_eq]
  generalize (lg_sl ([Value.ref h0, Value.int what]) ++ List.replicate (2 - (lg_sl ([Value.ref h0, Value.int what])).length) Slot.unset).toArray = ls at hl ⊢
  have hl : lv_has ls 2 [(0, .ref h0), (1, .int what)] := hl
  refine lv_iload_n hx hb dX2_tellAbout_0 rfl (lv_at hl 1 rfl) ?_
  have h1 : (what.toInt < 0 ∨ 3 < what.toInt) ∨ what.toInt = 0 ∨ what.toInt = 1 ∨ what.toInt = 2 ∨ what.toInt = 3 := by omega
  rcases h1 with h1 | h1 | h1 | h1 | h1
  · refine lv_tableOut (tgt := 55) hx hb dX2_tellAbout_1 h1 (by decide) ?_
    refine hq_iconst hx hb dX2_tellAbout_55 (by decide) (by decide) (fun z2 ez2 => ?_)
    exact hp_iret hx hb hK hN hW hlocks hJ hr rfl dX2_tellAbout_56
  · refine lv_tableIn (off := 31) (tgt := 32) hx hb dX2_tellAbout_1 (by omega) (by omega) (by rw [h1]; rfl) (by decide) ?_
    refine lv_aload_n hx hb dX2_tellAbout_32 rfl (lv_at hl 0 rfl) ?_
    refine hp_geti (C := RX2) (T := TX2) (N := 4) (ci := 2) (kd := 9) hx hb hts iX2_tellAbout_X2 hown hK hJ k0 rfl rfl 1 (by decide) (hts (.fieldLink RX2 18 "NeighborBook$Neighbor" "port" "I") (List.mem_of_getElem? (i := 1) rfl)) (fun _ h9 => h9) rfl rfl dX2_tellAbout_33 (fun x3 ex3 => ?_)
    exact hp_iret hx hb hK hN hW hlocks hJ hr rfl dX2_tellAbout_36
  · refine lv_tableIn (off := 36) (tgt := 37) hx hb dX2_tellAbout_1 (by omega) (by omega) (by rw [h1]; rfl) (by decide) ?_
    refine lv_aload_n hx hb dX2_tellAbout_37 rfl (lv_at hl 0 rfl) ?_
    refine hp_geti (C := RX2) (T := TX2) (N := 4) (ci := 2) (kd := 9) hx hb hts iX2_tellAbout_X2 hown hK hJ k0 rfl rfl 2 (by decide) (hts (.fieldLink RX2 25 "NeighborBook$Neighbor" "ticksLeft" "I") (List.mem_of_getElem? (i := 2) rfl)) (fun _ h9 => h9) rfl rfl dX2_tellAbout_38 (fun x4 ex4 => ?_)
    exact hp_iret hx hb hK hN hW hlocks hJ hr rfl dX2_tellAbout_41
  · refine lv_tableIn (off := 41) (tgt := 42) hx hb dX2_tellAbout_1 (by omega) (by omega) (by rw [h1]; rfl) (by decide) ?_
    refine lv_aload_n hx hb dX2_tellAbout_42 rfl (lv_at hl 0 rfl) ?_
    refine hp_geti (C := RX2) (T := TX2) (N := 4) (ci := 2) (kd := 9) hx hb hts iX2_tellAbout_X2 hown hK hJ k0 rfl rfl 3 (by decide) (hts (.fieldLink RX2 22 "NeighborBook$Neighbor" "frames" "I") (List.mem_of_getElem? (i := 3) rfl)) (fun _ h9 => h9) rfl rfl dX2_tellAbout_43 (fun x5 ex5 => ?_)
    exact hp_iret hx hb hK hN hW hlocks hJ hr rfl dX2_tellAbout_46
  · refine lv_tableIn (off := 46) (tgt := 47) hx hb dX2_tellAbout_1 (by omega) (by omega) (by rw [h1]; rfl) (by decide) ?_
    refine lv_aload_n hx hb dX2_tellAbout_47 rfl (lv_at hl 0 rfl) ?_
    refine hp_getr (C := RX2) (T := TX2) (N := 4) (ci := 2) (kd := 9) hx hb hts iX2_tellAbout_X2 hown hK hJ k0 rfl rfl 0 (by decide) (hts (.fieldLink RX2 12 "NeighborBook$Neighbor" "contents" "LNeighborBook$Contents;") (List.mem_of_getElem? (i := 4) rfl)) (fun _ h9 => h9) rfl dX2_tellAbout_48 (fun b6 kb6 => ?_)
    refine hp_calli (va_runV (As := []) (rest := []) ⟨hx, hb, hml, hown, hts⟩ (c_X0_typeBits l dC dI dA κ B g b6 kb6) (cwV 0 hts gX2_tellAbout_X0_typeBits rfl rfl rfl (by decide +kernel) ⟨Nat.le_of_ble_eq_true rfl, Nat.le_of_ble_eq_true rfl⟩) (hp_preV (q := (RX0, TX0, 2)) [] hK hN hW hJ kb6 rfl rfl) rfl rfl hl.1 rfl (lv_room (Nat.le_of_ble_eq_true rfl)) dX2_tellAbout_51 ⟨Nat.zero_le _, Nat.zero_le _⟩) hJ (fun x8 g7 H locs hp hJ => ?_)
    subst hp
    exact hp_iret hx hb hK hN hW hlocks hJ hr rfl dX2_tellAbout_54
theorem iX4_isUp_X4 : ∀ w ∈ wsX40, w ∈ wsX4_isUp := fun _ h => List.mem_cons_of_mem _ (List.mem_append_right _ h)
set_option maxRecDepth 100000 in
set_option maxHeartbeats 4000000 in
theorem c_X4_isUp (l : Launch) (dC : Nat → ClassId) (dI : Nat → Nat → Nat) (dA : Nat → ClassId) (κ : Nat → Nat) (B : Nat) (g : Nat → Nat → Int) (q : Nat) (hq : q < 4) (h0 : Nat) (k0 : κ h0 = 5 + q) (hG : hg_k g) : Met l yX4_isUp wsX4_isUp ({ frames := 0, cells := 0, slots := 0, locals := 0 } : Room) (hp_Pre dC dI dA κ B g [Value.ref h0]) (hp_Qi dC dI dA κ B (fun r u => g = u ∧ r.toInt = g (5 + q) 0)) 0 0 (hp_A B) := by
  refine Met.ofW (cc := cX4_isUp) (maxL := 1) (ret := (some .boolean)) (by decide) rfl ?_
  intro p e s m args below meth c s₁ Bd hml hv
  obtain ⟨rfl, hK, hN, hW, hF⟩ := hv
  have hx := Bd.exec
  have hb := Bd.bytes
  have hr := Bd.returns
  have hts := atoms_spec (ws := wsX4_isUp) Bd.pre
  have hown : s.vm.findClass RX4 = some m.cls := findClass_of_methodNamed Bd.named
  have hlocks := Bd.notSynchronized
  have hJ : hp_J dC dI dA κ B g s.heap s.heap [] := ⟨hF, va_S.rf⟩
  have hl := lv_entry ([Value.ref h0]) (n := 1) (Nat.le_of_ble_eq_true rfl)
  rw [lg_entry_eq]
  generalize (lg_sl ([Value.ref h0]) ++ List.replicate (1 - (lg_sl ([Value.ref h0])).length) Slot.unset).toArray = ls at hl ⊢
  have hl : lv_has ls 1 [(0, .ref h0)] := hl
  obtain ⟨hG1, hG2, hG3, hG4, hG5, hG6, hG7, hG8⟩ := id hG
  have hGq := hG7 q hq
  refine lv_aload_n hx hb dX4_isUp_0 rfl (lv_at hl 0 rfl) ?_
  refine hp_geti (C := RX4) (T := TX4) (N := 6) (ci := 4) (kd := 5 + q) hx hb hts iX4_isUp_X4 hown hK hJ k0 (hk_t5 hq) rfl 0 (by decide) (hts (.fieldLink RX4 9 "NeighborBook$Port" "up" "Z") (List.mem_of_getElem? (i := 1) rfl)) (fun _ h9 => h9) (hk_s5 hq (by decide)) rfl dX4_isUp_1 (fun x1 ex1 => ?_)
  have ex1 : x1.toInt = g (5 + q) 0 := ex1
  exact hp_zret hx hb hK hN hW hlocks hJ hr (by omega) ⟨rfl, by omega⟩ dX4_isUp_4
theorem iX4_goUp_X4 : ∀ w ∈ wsX40, w ∈ wsX4_goUp := fun _ h => List.mem_cons_of_mem _ (List.mem_append_right _ h)
set_option maxRecDepth 100000 in
set_option maxHeartbeats 4000000 in
theorem c_X4_goUp (l : Launch) (dC : Nat → ClassId) (dI : Nat → Nat → Nat) (dA : Nat → ClassId) (κ : Nat → Nat) (B : Nat) (g : Nat → Nat → Int) (q : Nat) (hq : q < 4) (h0 : Nat) (k0 : κ h0 = 5 + q) (quick : Int32) (hG : hg_k g) : Met l yX4_goUp wsX4_goUp ({ frames := 0, cells := 0, slots := 0, locals := 0 } : Room) (hp_Pre dC dI dA κ B g [Value.ref h0, Value.int quick]) (hp_Qv dC dI dA κ B (fun u => hg_P hx_C g u ∧ hg_k u ∧ u 1 1 = g 1 1 ∧ ∀ j : Nat, j < 4 → u (5 + j) 0 = if j = q then 1 else g (5 + j) 0)) 0 0 (hp_A B) := by
  refine Met.ofW (cc := cX4_goUp) (maxL := 2) (ret := none) (by decide) rfl ?_
  intro p e s m args below meth c s₁ Bd hml hv
  obtain ⟨rfl, hK, hN, hW, hF⟩ := hv
  have hx := Bd.exec
  have hb := Bd.bytes
  have hr := Bd.returns
  have hts := atoms_spec (ws := wsX4_goUp) Bd.pre
  have hown : s.vm.findClass RX4 = some m.cls := findClass_of_methodNamed Bd.named
  have hlocks := Bd.notSynchronized
  have hJ : hp_J dC dI dA κ B g s.heap s.heap [] := ⟨hF, va_S.rf⟩
  have hl := lv_entry ([Value.ref h0, Value.int quick]) (n := 2) (Nat.le_of_ble_eq_true rfl)
  rw [lg_entry_eq]
  generalize (lg_sl ([Value.ref h0, Value.int quick]) ++ List.replicate (2 - (lg_sl ([Value.ref h0, Value.int quick])).length) Slot.unset).toArray = ls at hl ⊢
  have hl : lv_has ls 2 [(0, .ref h0), (1, .int quick)] := hl
  obtain ⟨hG1, hG2, hG3, hG4, hG5, hG6, hG7, hG8⟩ := id hG
  refine lv_aload_n hx hb dX4_goUp_0 rfl (lv_at hl 0 rfl) ?_
  refine hq_iconst hx hb dX4_goUp_1 (by decide) (by decide) (fun z1 ez1 => ?_)
  refine hp_putx (C := RX4) (T := TX4) (N := 6) (ci := 4) (kd := 5 + q) hx hb hts iX4_goUp_X4 hown hK hJ k0 (hk_t5 hq) rfl 0 (by decide) (hts (.fieldLink RX4 9 "NeighborBook$Port" "up" "Z") (List.mem_of_getElem? (i := 1) rfl)) (fun _ h9 => h9) tyX4 tyX4_ok nmX4 (x := z1) (hi_bool (by omega)) (hi_fz (by omega)) (by omega) hW rfl (hk_x5 hq) (hk_s5 hq (by decide)) dX4_goUp_2 (fun g2 H locs eg2 ng2 hJ => ?_)
  have eg2 : g2 (5 + q) 0 = z1.toInt := eg2
  have P3 : hg_P hx_C g g2 := hg_P.put hg_P.rf ng2 (hx_C5 hq)
  have tt4 : g2 1 1 = g 1 1 := ng2 1 1 (by omega)
  have tt5 : g2 10 1 = g 10 1 := ng2 10 1 (by omega)
  have tt6 : g2 4 1 = g 4 1 := ng2 4 1 (by omega)
  refine lv_aload_n hx hb dX4_goUp_5 rfl (lv_at hl 0 rfl) ?_
  refine lv_iload_n hx hb dX4_goUp_6 rfl (lv_at hl 1 rfl) ?_
  refine hp_putx (C := RX4) (T := TX4) (N := 6) (ci := 4) (kd := 5 + q) hx hb hts iX4_goUp_X4 hown hK hJ k0 (hk_t5 hq) rfl 2 (by decide) (hts (.fieldLink RX4 15 "NeighborBook$Port" "quickLeft" "I") (List.mem_of_getElem? (i := 2) rfl)) (fun _ h9 => h9) tyX4 tyX4_ok nmX4 (x := quick) rfl rfl (by omega) hW rfl (hk_x5 hq) (hk_s5 hq (by decide)) dX4_goUp_7 (fun g7 H locs eg7 ng7 hJ => ?_)
  have eg7 : g7 (5 + q) 2 = quick.toInt := eg7
  have P8 : hg_P hx_C g g7 := hg_P.put P3 ng7 (hx_C5 hq)
  have tt9 : g7 1 1 = g2 1 1 := ng7 1 1 (by omega)
  have tt10 : g7 10 1 = g2 10 1 := ng7 10 1 (by omega)
  have tt11 : g7 4 1 = g2 4 1 := ng7 4 1 (by omega)
  refine lv_aload_n hx hb dX4_goUp_10 rfl (lv_at hl 0 rfl) ?_
  refine hq_iconst hx hb dX4_goUp_11 (by decide) (by decide) (fun z12 ez12 => ?_)
  refine hp_putx (C := RX4) (T := TX4) (N := 6) (ci := 4) (kd := 5 + q) hx hb hts iX4_goUp_X4 hown hK hJ k0 (hk_t5 hq) rfl 1 (by decide) (hts (.fieldLink RX4 19 "NeighborBook$Port" "waitLeft" "I") (List.mem_of_getElem? (i := 3) rfl)) (fun _ h9 => h9) tyX4 tyX4_ok nmX4 (x := z12) rfl rfl (by omega) hW rfl (hk_x5 hq) (hk_s5 hq (by decide)) dX4_goUp_12 (fun g13 H locs eg13 ng13 hJ => ?_)
  have eg13 : g13 (5 + q) 1 = z12.toInt := eg13
  have P14 : hg_P hx_C g g13 := hg_P.put P8 ng13 (hx_C5 hq)
  have tt15 : g13 1 1 = g7 1 1 := ng13 1 1 (by omega)
  have tt16 : g13 10 1 = g7 10 1 := ng13 10 1 (by omega)
  have tt17 : g13 4 1 = g7 4 1 := ng13 4 1 (by omega)
  have hu : ∀ j : Nat, j < 4 → g13 (5 + j) 0 = if j = q then 1 else g (5 + j) 0 := by
    intro j hj
    by_cases hjq : j = q
    · subst hjq
      rw [if_pos rfl, ng13 (5 + j) 0 (by omega), ng7 (5 + j) 0 (by omega), eg2]
      omega
    · rw [if_neg hjq, ng13 (5 + j) 0 (by omega), ng7 (5 + j) 0 (by omega), ng2 (5 + j) 0 (by omega)]
  exact hp_vret hx hb hK hN hW hlocks hJ hr ⟨P14, hg_k.ofp hG P14 (by omega) (by omega) (by omega) (fun j hj => by rw [hu j hj]; split <;> first | omega | exact hG7 j hj), by omega, hu⟩ dX4_goUp_15
theorem iX4_goDown_X4 : ∀ w ∈ wsX40, w ∈ wsX4_goDown := fun _ h => List.mem_cons_of_mem _ (List.mem_append_right _ h)
set_option maxRecDepth 100000 in
set_option maxHeartbeats 4000000 in
theorem c_X4_goDown (l : Launch) (dC : Nat → ClassId) (dI : Nat → Nat → Nat) (dA : Nat → ClassId) (κ : Nat → Nat) (B : Nat) (g : Nat → Nat → Int) (q : Nat) (hq : q < 4) (h0 : Nat) (k0 : κ h0 = 5 + q) (hG : hg_k g) : Met l yX4_goDown wsX4_goDown ({ frames := 0, cells := 0, slots := 0, locals := 0 } : Room) (hp_Pre dC dI dA κ B g [Value.ref h0]) (hp_Qv dC dI dA κ B (fun u => hg_P hx_C g u ∧ hg_k u ∧ u 1 1 = g 1 1 ∧ ∀ j : Nat, j < 4 → u (5 + j) 0 = if j = q then 0 else g (5 + j) 0)) 0 0 (hp_A B) := by
  refine Met.ofW (cc := cX4_goDown) (maxL := 1) (ret := none) (by decide) rfl ?_
  intro p e s m args below meth c s₁ Bd hml hv
  obtain ⟨rfl, hK, hN, hW, hF⟩ := hv
  have hx := Bd.exec
  have hb := Bd.bytes
  have hr := Bd.returns
  have hts := atoms_spec (ws := wsX4_goDown) Bd.pre
  have hown : s.vm.findClass RX4 = some m.cls := findClass_of_methodNamed Bd.named
  have hlocks := Bd.notSynchronized
  have hJ : hp_J dC dI dA κ B g s.heap s.heap [] := ⟨hF, va_S.rf⟩
  have hl := lv_entry ([Value.ref h0]) (n := 1) (Nat.le_of_ble_eq_true rfl)
  rw [lg_entry_eq]
  generalize (lg_sl ([Value.ref h0]) ++ List.replicate (1 - (lg_sl ([Value.ref h0])).length) Slot.unset).toArray = ls at hl ⊢
  have hl : lv_has ls 1 [(0, .ref h0)] := hl
  obtain ⟨hG1, hG2, hG3, hG4, hG5, hG6, hG7, hG8⟩ := id hG
  refine lv_aload_n hx hb dX4_goDown_0 rfl (lv_at hl 0 rfl) ?_
  refine hq_iconst hx hb dX4_goDown_1 (by decide) (by decide) (fun z1 ez1 => ?_)
  refine hp_putx (C := RX4) (T := TX4) (N := 6) (ci := 4) (kd := 5 + q) hx hb hts iX4_goDown_X4 hown hK hJ k0 (hk_t5 hq) rfl 0 (by decide) (hts (.fieldLink RX4 9 "NeighborBook$Port" "up" "Z") (List.mem_of_getElem? (i := 1) rfl)) (fun _ h9 => h9) tyX4 tyX4_ok nmX4 (x := z1) (hi_bool (by omega)) (hi_fz (by omega)) (by omega) hW rfl (hk_x5 hq) (hk_s5 hq (by decide)) dX4_goDown_2 (fun g2 H locs eg2 ng2 hJ => ?_)
  have eg2 : g2 (5 + q) 0 = z1.toInt := eg2
  have P3 : hg_P hx_C g g2 := hg_P.put hg_P.rf ng2 (hx_C5 hq)
  have tt4 : g2 1 1 = g 1 1 := ng2 1 1 (by omega)
  have tt5 : g2 10 1 = g 10 1 := ng2 10 1 (by omega)
  have tt6 : g2 4 1 = g 4 1 := ng2 4 1 (by omega)
  refine lv_aload_n hx hb dX4_goDown_5 rfl (lv_at hl 0 rfl) ?_
  refine hq_iconst hx hb dX4_goDown_6 (by decide) (by decide) (fun z7 ez7 => ?_)
  refine hp_putx (C := RX4) (T := TX4) (N := 6) (ci := 4) (kd := 5 + q) hx hb hts iX4_goDown_X4 hown hK hJ k0 (hk_t5 hq) rfl 1 (by decide) (hts (.fieldLink RX4 19 "NeighborBook$Port" "waitLeft" "I") (List.mem_of_getElem? (i := 2) rfl)) (fun _ h9 => h9) tyX4 tyX4_ok nmX4 (x := z7) rfl rfl (by omega) hW rfl (hk_x5 hq) (hk_s5 hq (by decide)) dX4_goDown_7 (fun g8 H locs eg8 ng8 hJ => ?_)
  have eg8 : g8 (5 + q) 1 = z7.toInt := eg8
  have P9 : hg_P hx_C g g8 := hg_P.put P3 ng8 (hx_C5 hq)
  have tt10 : g8 1 1 = g2 1 1 := ng8 1 1 (by omega)
  have tt11 : g8 10 1 = g2 10 1 := ng8 10 1 (by omega)
  have tt12 : g8 4 1 = g2 4 1 := ng8 4 1 (by omega)
  refine lv_aload_n hx hb dX4_goDown_10 rfl (lv_at hl 0 rfl) ?_
  refine lv_dup hx hb dX4_goDown_11 rfl ?_
  refine hp_geti (C := RX4) (T := TX4) (N := 6) (ci := 4) (kd := 5 + q) hx hb hts iX4_goDown_X4 hown hK hJ k0 (hk_t5 hq) rfl 3 (by decide) (hts (.fieldLink RX4 22 "NeighborBook$Port" "framesSent" "I") (List.mem_of_getElem? (i := 3) rfl)) (fun _ h9 => h9) (hk_s5 hq (by decide)) rfl dX4_goDown_12 (fun x13 ex13 => ?_)
  have ex13 : x13.toInt = g8 (5 + q) 3 := ex13
  refine hq_iconst hx hb dX4_goDown_15 (by decide) (by decide) (fun z14 ez14 => ?_)
  refine hq_iaddU hx hb dX4_goDown_16 (fun x15 => ?_)
  refine hp_putx (C := RX4) (T := TX4) (N := 6) (ci := 4) (kd := 5 + q) hx hb hts iX4_goDown_X4 hown hK hJ k0 (hk_t5 hq) rfl 3 (by decide) (hts (.fieldLink RX4 22 "NeighborBook$Port" "framesSent" "I") (List.mem_of_getElem? (i := 3) rfl)) (fun _ h9 => h9) tyX4 tyX4_ok nmX4 (x := x15) rfl rfl (by omega) hW rfl (hk_x5 hq) (hk_s5 hq (by decide)) dX4_goDown_17 (fun g16 H locs eg16 ng16 hJ => ?_)
  have eg16 : g16 (5 + q) 3 = x15.toInt := eg16
  have P17 : hg_P hx_C g g16 := hg_P.put P9 ng16 (hx_C5 hq)
  have tt18 : g16 1 1 = g8 1 1 := ng16 1 1 (by omega)
  have tt19 : g16 10 1 = g8 10 1 := ng16 10 1 (by omega)
  have tt20 : g16 4 1 = g8 4 1 := ng16 4 1 (by omega)
  have hu : ∀ j : Nat, j < 4 → g16 (5 + j) 0 = if j = q then 0 else g (5 + j) 0 := by
    intro j hj
    by_cases hjq : j = q
    · subst hjq
      rw [if_pos rfl, ng16 (5 + j) 0 (by omega), ng8 (5 + j) 0 (by omega), eg2]
      omega
    · rw [if_neg hjq, ng16 (5 + j) 0 (by omega), ng8 (5 + j) 0 (by omega), ng2 (5 + j) 0 (by omega)]
  exact hp_vret hx hb hK hN hW hlocks hJ hr ⟨P17, hg_k.ofp hG P17 (by omega) (by omega) (by omega) (fun j hj => by rw [hu j hj]; split <;> first | omega | exact hG7 j hj), by omega, hu⟩ dX4_goDown_20
theorem iX4_hurry_X4 : ∀ w ∈ wsX40, w ∈ wsX4_hurry := fun _ h => List.mem_cons_of_mem _ (List.mem_append_right _ h)
set_option maxRecDepth 100000 in
set_option maxHeartbeats 4000000 in
theorem c_X4_hurry (l : Launch) (dC : Nat → ClassId) (dI : Nat → Nat → Nat) (dA : Nat → ClassId) (κ : Nat → Nat) (B : Nat) (g : Nat → Nat → Int) (q : Nat) (hq : q < 4) (h0 : Nat) (k0 : κ h0 = 5 + q) (hG : hg_k g) : Met l yX4_hurry wsX4_hurry ({ frames := 0, cells := 0, slots := 0, locals := 0 } : Room) (hp_Pre dC dI dA κ B g [Value.ref h0]) (hp_Qv dC dI dA κ B (fun u => hg_P hx_c g u ∧ hg_k u)) 0 0 (hp_A B) := by
  refine Met.ofW (cc := cX4_hurry) (maxL := 1) (ret := none) (by decide) rfl ?_
  intro p e s m args below meth c s₁ Bd hml hv
  obtain ⟨rfl, hK, hN, hW, hF⟩ := hv
  have hx := Bd.exec
  have hb := Bd.bytes
  have hr := Bd.returns
  have hts := atoms_spec (ws := wsX4_hurry) Bd.pre
  have hown : s.vm.findClass RX4 = some m.cls := findClass_of_methodNamed Bd.named
  have hlocks := Bd.notSynchronized
  have hJ : hp_J dC dI dA κ B g s.heap s.heap [] := ⟨hF, va_S.rf⟩
  have hl := lv_entry ([Value.ref h0]) (n := 1) (Nat.le_of_ble_eq_true rfl)
  rw [lg_entry_eq]
  generalize (lg_sl ([Value.ref h0]) ++ List.replicate (1 - (lg_sl ([Value.ref h0])).length) Slot.unset).toArray = ls at hl ⊢
  have hl : lv_has ls 1 [(0, .ref h0)] := hl
  obtain ⟨hG1, hG2, hG3, hG4, hG5, hG6, hG7, hG8⟩ := id hG
  refine lv_aload_n hx hb dX4_hurry_0 rfl (lv_at hl 0 rfl) ?_
  refine hp_geti (C := RX4) (T := TX4) (N := 6) (ci := 4) (kd := 5 + q) hx hb hts iX4_hurry_X4 hown hK hJ k0 (hk_t5 hq) rfl 0 (by decide) (hts (.fieldLink RX4 9 "NeighborBook$Port" "up" "Z") (List.mem_of_getElem? (i := 1) rfl)) (fun _ h9 => h9) (hk_s5 hq (by decide)) rfl dX4_hurry_1 (fun x1 ex1 => ?_)
  have ex1 : x1.toInt = g (5 + q) 0 := ex1
  refine hq_if_eq (tgt := 12) hx hb dX4_hurry_4 (by decide) (fun c2 => ?_) (fun c2 => ?_)
  · exact hp_vret hx hb hK hN hW hlocks hJ hr ⟨hg_P.rf, hG⟩ dX4_hurry_12
  · refine lv_aload_n hx hb dX4_hurry_7 rfl (lv_at hl 0 rfl) ?_
    refine hq_iconst hx hb dX4_hurry_8 (by decide) (by decide) (fun z3 ez3 => ?_)
    refine hp_putx (C := RX4) (T := TX4) (N := 6) (ci := 4) (kd := 5 + q) hx hb hts iX4_hurry_X4 hown hK hJ k0 (hk_t5 hq) rfl 1 (by decide) (hts (.fieldLink RX4 19 "NeighborBook$Port" "waitLeft" "I") (List.mem_of_getElem? (i := 2) rfl)) (fun _ h9 => h9) tyX4 tyX4_ok nmX4 (x := z3) rfl rfl (by omega) hW rfl (hk_x5 hq) (hk_s5 hq (by decide)) dX4_hurry_9 (fun g4 H locs eg4 ng4 hJ => ?_)
    have eg4 : g4 (5 + q) 1 = z3.toInt := eg4
    have P5 : hg_P hx_c g g4 := hg_P.put hg_P.rf ng4 (hx_c5 hq (by decide))
    have tt6 : g4 1 1 = g 1 1 := ng4 1 1 (by omega)
    have tt7 : g4 10 1 = g 10 1 := ng4 10 1 (by omega)
    have tt8 : g4 4 1 = g 4 1 := ng4 4 1 (by omega)
    exact hp_vret hx hb hK hN hW hlocks hJ hr ⟨P5, (hg_k.ofc hG P5 (by constructor <;> omega) (by constructor <;> omega) )⟩ dX4_hurry_12
theorem iX4_greet_X4 : ∀ w ∈ wsX40, w ∈ wsX4_greet := fun _ h => List.mem_cons_of_mem _ (List.mem_append_right _ h)
set_option maxRecDepth 100000 in
set_option maxHeartbeats 4000000 in
theorem c_X4_greet (l : Launch) (dC : Nat → ClassId) (dI : Nat → Nat → Nat) (dA : Nat → ClassId) (κ : Nat → Nat) (B : Nat) (g : Nat → Nat → Int) (q : Nat) (hq : q < 4) (h0 : Nat) (k0 : κ h0 = 5 + q) (quick : Int32) (hG : hg_k g) : Met l yX4_greet wsX4_greet ({ frames := 1, cells := 0, slots := 0, locals := 16 } : Room) (hp_Pre dC dI dA κ B g [Value.ref h0, Value.int quick]) (hp_Qv dC dI dA κ B (fun u => hg_P hx_c g u ∧ hg_k u)) 0 0 (hp_A B) := by
  refine Met.ofW (cc := cX4_greet) (maxL := 2) (ret := none) (by decide) rfl ?_
  intro p e s m args below meth c s₁ Bd hml hv
  obtain ⟨rfl, hK, hN, hW, hF⟩ := hv
  have hx := Bd.exec
  have hb := Bd.bytes
  have hr := Bd.returns
  have hts := atoms_spec (ws := wsX4_greet) Bd.pre
  have hown : s.vm.findClass RX4 = some m.cls := findClass_of_methodNamed Bd.named
  have hlocks := Bd.notSynchronized
  have hJ : hp_J dC dI dA κ B g s.heap s.heap [] := ⟨hF, va_S.rf⟩
  have hl := lv_entry ([Value.ref h0, Value.int quick]) (n := 2) (Nat.le_of_ble_eq_true rfl)
  rw [lg_entry_eq]
  generalize (lg_sl ([Value.ref h0, Value.int quick]) ++ List.replicate (2 - (lg_sl ([Value.ref h0, Value.int quick])).length) Slot.unset).toArray = ls at hl ⊢
  have hl : lv_has ls 2 [(0, .ref h0), (1, .int quick)] := hl
  obtain ⟨hG1, hG2, hG3, hG4, hG5, hG6, hG7, hG8⟩ := id hG
  refine lv_aload_n hx hb dX4_greet_0 rfl (lv_at hl 0 rfl) ?_
  refine lv_aload_n hx hb dX4_greet_1 rfl (lv_at hl 0 rfl) ?_
  refine hp_geti (C := RX4) (T := TX4) (N := 6) (ci := 4) (kd := 5 + q) hx hb hts iX4_greet_X4 hown hK hJ k0 (hk_t5 hq) rfl 2 (by decide) (hts (.fieldLink RX4 15 "NeighborBook$Port" "quickLeft" "I") (List.mem_of_getElem? (i := 1) rfl)) (fun _ h9 => h9) (hk_s5 hq (by decide)) rfl dX4_greet_2 (fun x1 ex1 => ?_)
  have ex1 : x1.toInt = g (5 + q) 2 := ex1
  refine lv_iload_n hx hb dX4_greet_5 rfl (lv_at hl 1 rfl) ?_
  refine va_mmax hx hb (hml.trans hl.1.symm) hown (hts (.methodLink RX4 25 Lib.Math.max.name) (List.mem_of_getElem? (i := 2) rfl)) (hts (.static Lib.Math.max.name) (List.mem_of_getElem? (i := 3) rfl)) (hts (.initialized "java/lang/Math") (List.mem_of_getElem? (i := 4) rfl)) (hts (.code Lib.Math.max.name Lib.Math.max.code 2 (some .int)) (List.mem_of_getElem? (i := 5) rfl)) (Nat.le_of_ble_eq_true rfl) (Nat.le_of_ble_eq_true rfl) (Nat.zero_le _) (Nat.zero_le _) dX4_greet_6 ?_
  refine lv_topi (fun x2 _ => ?_)
  refine hp_putx (C := RX4) (T := TX4) (N := 6) (ci := 4) (kd := 5 + q) hx hb hts iX4_greet_X4 hown hK hJ k0 (hk_t5 hq) rfl 2 (by decide) (hts (.fieldLink RX4 15 "NeighborBook$Port" "quickLeft" "I") (List.mem_of_getElem? (i := 1) rfl)) (fun _ h9 => h9) tyX4 tyX4_ok nmX4 (x := x2) rfl rfl (by omega) hW rfl (hk_x5 hq) (hk_s5 hq (by decide)) dX4_greet_9 (fun g3 H locs eg3 ng3 hJ => ?_)
  have eg3 : g3 (5 + q) 2 = x2.toInt := eg3
  have P4 : hg_P hx_c g g3 := hg_P.put hg_P.rf ng3 (hx_c5 hq (by decide))
  have tt5 : g3 1 1 = g 1 1 := ng3 1 1 (by omega)
  have tt6 : g3 10 1 = g 10 1 := ng3 10 1 (by omega)
  have tt7 : g3 4 1 = g 4 1 := ng3 4 1 (by omega)
  refine lv_aload_n hx hb dX4_greet_12 rfl (lv_at hl 0 rfl) ?_
  refine hq_iconst hx hb dX4_greet_13 (by decide) (by decide) (fun z8 ez8 => ?_)
  refine hp_putx (C := RX4) (T := TX4) (N := 6) (ci := 4) (kd := 5 + q) hx hb hts iX4_greet_X4 hown hK hJ k0 (hk_t5 hq) rfl 1 (by decide) (hts (.fieldLink RX4 19 "NeighborBook$Port" "waitLeft" "I") (List.mem_of_getElem? (i := 6) rfl)) (fun _ h9 => h9) tyX4 tyX4_ok nmX4 (x := z8) rfl rfl (by omega) hW rfl (hk_x5 hq) (hk_s5 hq (by decide)) dX4_greet_14 (fun g9 H locs eg9 ng9 hJ => ?_)
  have eg9 : g9 (5 + q) 1 = z8.toInt := eg9
  have P10 : hg_P hx_c g g9 := hg_P.put P4 ng9 (hx_c5 hq (by decide))
  have tt11 : g9 1 1 = g3 1 1 := ng9 1 1 (by omega)
  have tt12 : g9 10 1 = g3 10 1 := ng9 10 1 (by omega)
  have tt13 : g9 4 1 = g3 4 1 := ng9 4 1 (by omega)
  exact hp_vret hx hb hK hN hW hlocks hJ hr ⟨P10, (hg_k.ofc hG P10 (by constructor <;> omega) (by constructor <;> omega) )⟩ dX4_greet_17
theorem iX4_noteHeard_X4 : ∀ w ∈ wsX40, w ∈ wsX4_noteHeard := fun _ h => List.mem_cons_of_mem _ (List.mem_append_right _ h)
set_option maxRecDepth 100000 in
set_option maxHeartbeats 4000000 in
theorem c_X4_noteHeard (l : Launch) (dC : Nat → ClassId) (dI : Nat → Nat → Nat) (dA : Nat → ClassId) (κ : Nat → Nat) (B : Nat) (g : Nat → Nat → Int) (q : Nat) (hq : q < 4) (h0 : Nat) (k0 : κ h0 = 5 + q) (well : Int32) (hG : hg_k g) : Met l yX4_noteHeard wsX4_noteHeard ({ frames := 0, cells := 0, slots := 0, locals := 0 } : Room) (hp_Pre dC dI dA κ B g [Value.ref h0, Value.int well]) (hp_Qv dC dI dA κ B (fun u => hg_P hx_c g u ∧ hg_k u)) 0 0 (hp_A B) := by
  refine Met.ofW (cc := cX4_noteHeard) (maxL := 2) (ret := none) (by decide) rfl ?_
  intro p e s m args below meth c s₁ Bd hml hv
  obtain ⟨rfl, hK, hN, hW, hF⟩ := hv
  have hx := Bd.exec
  have hb := Bd.bytes
  have hr := Bd.returns
  have hts := atoms_spec (ws := wsX4_noteHeard) Bd.pre
  have hown : s.vm.findClass RX4 = some m.cls := findClass_of_methodNamed Bd.named
  have hlocks := Bd.notSynchronized
  have hJ : hp_J dC dI dA κ B g s.heap s.heap [] := ⟨hF, va_S.rf⟩
  have hl := lv_entry ([Value.ref h0, Value.int well]) (n := 2) (Nat.le_of_ble_eq_true rfl)
  rw [lg_entry_eq]
  generalize (lg_sl ([Value.ref h0, Value.int well]) ++ List.replicate (2 - (lg_sl ([Value.ref h0, Value.int well])).length) Slot.unset).toArray = ls at hl ⊢
  have hl : lv_has ls 2 [(0, .ref h0), (1, .int well)] := hl
  obtain ⟨hG1, hG2, hG3, hG4, hG5, hG6, hG7, hG8⟩ := id hG
  refine lv_iload_n hx hb dX4_noteHeard_0 rfl (lv_at hl 1 rfl) ?_
  refine hq_if_eq (tgt := 17) hx hb dX4_noteHeard_1 (by decide) (fun c1 => ?_) (fun c1 => ?_)
  · refine lv_aload_n hx hb dX4_noteHeard_17 rfl (lv_at hl 0 rfl) ?_
    refine lv_dup hx hb dX4_noteHeard_18 rfl ?_
    refine hp_geti (C := RX4) (T := TX4) (N := 6) (ci := 4) (kd := 5 + q) hx hb hts iX4_noteHeard_X4 hown hK hJ k0 (hk_t5 hq) rfl 5 (by decide) (hts (.fieldLink RX4 34 "NeighborBook$Port" "heardFaulty" "I") (List.mem_of_getElem? (i := 2) rfl)) (fun _ h9 => h9) (hk_s5 hq (by decide)) rfl dX4_noteHeard_19 (fun x2 ex2 => ?_)
    have ex2 : x2.toInt = g (5 + q) 5 := ex2
    refine hq_iconst hx hb dX4_noteHeard_22 (by decide) (by decide) (fun z3 ez3 => ?_)
    refine hq_iaddU hx hb dX4_noteHeard_23 (fun x4 => ?_)
    refine hp_putx (C := RX4) (T := TX4) (N := 6) (ci := 4) (kd := 5 + q) hx hb hts iX4_noteHeard_X4 hown hK hJ k0 (hk_t5 hq) rfl 5 (by decide) (hts (.fieldLink RX4 34 "NeighborBook$Port" "heardFaulty" "I") (List.mem_of_getElem? (i := 2) rfl)) (fun _ h9 => h9) tyX4 tyX4_ok nmX4 (x := x4) rfl rfl (by omega) hW rfl (hk_x5 hq) (hk_s5 hq (by decide)) dX4_noteHeard_24 (fun g5 H locs eg5 ng5 hJ => ?_)
    have eg5 : g5 (5 + q) 5 = x4.toInt := eg5
    have P6 : hg_P hx_c g g5 := hg_P.put hg_P.rf ng5 (hx_c5 hq (by decide))
    have tt7 : g5 1 1 = g 1 1 := ng5 1 1 (by omega)
    have tt8 : g5 10 1 = g 10 1 := ng5 10 1 (by omega)
    have tt9 : g5 4 1 = g 4 1 := ng5 4 1 (by omega)
    exact hp_vret hx hb hK hN hW hlocks hJ hr ⟨P6, (hg_k.ofc hG P6 (by constructor <;> omega) (by constructor <;> omega) )⟩ dX4_noteHeard_27
  · refine lv_aload_n hx hb dX4_noteHeard_4 rfl (lv_at hl 0 rfl) ?_
    refine lv_dup hx hb dX4_noteHeard_5 rfl ?_
    refine hp_geti (C := RX4) (T := TX4) (N := 6) (ci := 4) (kd := 5 + q) hx hb hts iX4_noteHeard_X4 hown hK hJ k0 (hk_t5 hq) rfl 4 (by decide) (hts (.fieldLink RX4 31 "NeighborBook$Port" "heardWell" "I") (List.mem_of_getElem? (i := 1) rfl)) (fun _ h9 => h9) (hk_s5 hq (by decide)) rfl dX4_noteHeard_6 (fun x10 ex10 => ?_)
    have ex10 : x10.toInt = g (5 + q) 4 := ex10
    refine hq_iconst hx hb dX4_noteHeard_9 (by decide) (by decide) (fun z11 ez11 => ?_)
    refine hq_iaddU hx hb dX4_noteHeard_10 (fun x12 => ?_)
    refine hp_putx (C := RX4) (T := TX4) (N := 6) (ci := 4) (kd := 5 + q) hx hb hts iX4_noteHeard_X4 hown hK hJ k0 (hk_t5 hq) rfl 4 (by decide) (hts (.fieldLink RX4 31 "NeighborBook$Port" "heardWell" "I") (List.mem_of_getElem? (i := 1) rfl)) (fun _ h9 => h9) tyX4 tyX4_ok nmX4 (x := x12) rfl rfl (by omega) hW rfl (hk_x5 hq) (hk_s5 hq (by decide)) dX4_noteHeard_11 (fun g13 H locs eg13 ng13 hJ => ?_)
    have eg13 : g13 (5 + q) 4 = x12.toInt := eg13
    have P14 : hg_P hx_c g g13 := hg_P.put hg_P.rf ng13 (hx_c5 hq (by decide))
    have tt15 : g13 1 1 = g 1 1 := ng13 1 1 (by omega)
    have tt16 : g13 10 1 = g 10 1 := ng13 10 1 (by omega)
    have tt17 : g13 4 1 = g 4 1 := ng13 4 1 (by omega)
    refine lv_goto (tgt := 27) hx hb dX4_noteHeard_14 (by decide) ?_
    exact hp_vret hx hb hK hN hW hlocks hJ hr ⟨P14, (hg_k.ofc hG P14 (by constructor <;> omega) (by constructor <;> omega) )⟩ dX4_noteHeard_27
theorem iX4_passTick_X4 : ∀ w ∈ wsX40, w ∈ wsX4_passTick := fun _ h => List.mem_cons_of_mem _ (List.mem_append_right _ h)
set_option maxRecDepth 100000 in
set_option maxHeartbeats 4000000 in
theorem c_X4_passTick (l : Launch) (dC : Nat → ClassId) (dI : Nat → Nat → Nat) (dA : Nat → ClassId) (κ : Nat → Nat) (B : Nat) (g : Nat → Nat → Int) (q : Nat) (hq : q < 4) (h0 : Nat) (k0 : κ h0 = 5 + q) (interval : Int32) (hG : hg_k g) : Met l yX4_passTick wsX4_passTick ({ frames := 0, cells := 0, slots := 0, locals := 0 } : Room) (hp_Pre dC dI dA κ B g [Value.ref h0, Value.int interval]) (hp_Qi dC dI dA κ B (fun r u => hg_P hx_c g u ∧ hg_k u ∧ (r.toInt = 0 ∨ r.toInt = 1) ∧ (g (5 + q) 0 = 0 → r.toInt = 0 ∧ g = u))) 0 0 (hp_A B) := by
  refine Met.ofW (cc := cX4_passTick) (maxL := 2) (ret := (some .boolean)) (by decide) rfl ?_
  intro p e s m args below meth c s₁ Bd hml hv
  obtain ⟨rfl, hK, hN, hW, hF⟩ := hv
  have hx := Bd.exec
  have hb := Bd.bytes
  have hr := Bd.returns
  have hts := atoms_spec (ws := wsX4_passTick) Bd.pre
  have hown : s.vm.findClass RX4 = some m.cls := findClass_of_methodNamed Bd.named
  have hlocks := Bd.notSynchronized
  have hJ : hp_J dC dI dA κ B g s.heap s.heap [] := ⟨hF, va_S.rf⟩
  have hl := lv_entry ([Value.ref h0, Value.int interval]) (n := 2) (Nat.le_of_ble_eq_true rfl)
  rw [lg_entry_eq]
  generalize (lg_sl ([Value.ref h0, Value.int interval]) ++ List.replicate (2 - (lg_sl ([Value.ref h0, Value.int interval])).length) Slot.unset).toArray = ls at hl ⊢
  have hl : lv_has ls 2 [(0, .ref h0), (1, .int interval)] := hl
  obtain ⟨hG1, hG2, hG3, hG4, hG5, hG6, hG7, hG8⟩ := id hG
  refine lv_aload_n hx hb dX4_passTick_0 rfl (lv_at hl 0 rfl) ?_
  refine hp_geti (C := RX4) (T := TX4) (N := 6) (ci := 4) (kd := 5 + q) hx hb hts iX4_passTick_X4 hown hK hJ k0 (hk_t5 hq) rfl 0 (by decide) (hts (.fieldLink RX4 9 "NeighborBook$Port" "up" "Z") (List.mem_of_getElem? (i := 1) rfl)) (fun _ h9 => h9) (hk_s5 hq (by decide)) rfl dX4_passTick_1 (fun x1 ex1 => ?_)
  have ex1 : x1.toInt = g (5 + q) 0 := ex1
  refine hq_if_ne (tgt := 9) hx hb dX4_passTick_4 (by decide) (fun c2 => ?_) (fun c2 => ?_)
  · refine lv_aload_n hx hb dX4_passTick_9 rfl (lv_at hl 0 rfl) ?_
    refine lv_dup hx hb dX4_passTick_10 rfl ?_
    refine hp_geti (C := RX4) (T := TX4) (N := 6) (ci := 4) (kd := 5 + q) hx hb hts iX4_passTick_X4 hown hK hJ k0 (hk_t5 hq) rfl 1 (by decide) (hts (.fieldLink RX4 19 "NeighborBook$Port" "waitLeft" "I") (List.mem_of_getElem? (i := 2) rfl)) (fun _ h9 => h9) (hk_s5 hq (by decide)) rfl dX4_passTick_11 (fun x3 ex3 => ?_)
    have ex3 : x3.toInt = g (5 + q) 1 := ex3
    refine hq_iconst hx hb dX4_passTick_14 (by decide) (by decide) (fun z4 ez4 => ?_)
    refine hq_isubU hx hb dX4_passTick_15 (fun x5 => ?_)
    refine hp_putx (C := RX4) (T := TX4) (N := 6) (ci := 4) (kd := 5 + q) hx hb hts iX4_passTick_X4 hown hK hJ k0 (hk_t5 hq) rfl 1 (by decide) (hts (.fieldLink RX4 19 "NeighborBook$Port" "waitLeft" "I") (List.mem_of_getElem? (i := 2) rfl)) (fun _ h9 => h9) tyX4 tyX4_ok nmX4 (x := x5) rfl rfl (by omega) hW rfl (hk_x5 hq) (hk_s5 hq (by decide)) dX4_passTick_16 (fun g6 H locs eg6 ng6 hJ => ?_)
    have eg6 : g6 (5 + q) 1 = x5.toInt := eg6
    have P7 : hg_P hx_c g g6 := hg_P.put hg_P.rf ng6 (hx_c5 hq (by decide))
    have tt8 : g6 1 1 = g 1 1 := ng6 1 1 (by omega)
    have tt9 : g6 10 1 = g 10 1 := ng6 10 1 (by omega)
    have tt10 : g6 4 1 = g 4 1 := ng6 4 1 (by omega)
    refine lv_aload_n hx hb dX4_passTick_19 rfl (lv_at hl 0 rfl) ?_
    refine hp_geti (C := RX4) (T := TX4) (N := 6) (ci := 4) (kd := 5 + q) hx hb hts iX4_passTick_X4 hown hK hJ k0 (hk_t5 hq) rfl 1 (by decide) (hts (.fieldLink RX4 19 "NeighborBook$Port" "waitLeft" "I") (List.mem_of_getElem? (i := 2) rfl)) (fun _ h9 => h9) (hk_s5 hq (by decide)) rfl dX4_passTick_20 (fun x11 ex11 => ?_)
    have ex11 : x11.toInt = g6 (5 + q) 1 := ex11
    refine hq_if_le (tgt := 28) hx hb dX4_passTick_23 (by decide) (fun c12 => ?_) (fun c12 => ?_)
    · refine lv_aload_n hx hb dX4_passTick_28 rfl (lv_at hl 0 rfl) ?_
      refine lv_dup hx hb dX4_passTick_29 rfl ?_
      refine hp_geti (C := RX4) (T := TX4) (N := 6) (ci := 4) (kd := 5 + q) hx hb hts iX4_passTick_X4 hown hK hJ k0 (hk_t5 hq) rfl 3 (by decide) (hts (.fieldLink RX4 22 "NeighborBook$Port" "framesSent" "I") (List.mem_of_getElem? (i := 3) rfl)) (fun _ h9 => h9) (hk_s5 hq (by decide)) rfl dX4_passTick_30 (fun x13 ex13 => ?_)
      have ex13 : x13.toInt = g6 (5 + q) 3 := ex13
      refine hq_iconst hx hb dX4_passTick_33 (by decide) (by decide) (fun z14 ez14 => ?_)
      refine hq_iaddU hx hb dX4_passTick_34 (fun x15 => ?_)
      refine hp_putx (C := RX4) (T := TX4) (N := 6) (ci := 4) (kd := 5 + q) hx hb hts iX4_passTick_X4 hown hK hJ k0 (hk_t5 hq) rfl 3 (by decide) (hts (.fieldLink RX4 22 "NeighborBook$Port" "framesSent" "I") (List.mem_of_getElem? (i := 3) rfl)) (fun _ h9 => h9) tyX4 tyX4_ok nmX4 (x := x15) rfl rfl (by omega) hW rfl (hk_x5 hq) (hk_s5 hq (by decide)) dX4_passTick_35 (fun g16 H locs eg16 ng16 hJ => ?_)
      have eg16 : g16 (5 + q) 3 = x15.toInt := eg16
      have P17 : hg_P hx_c g g16 := hg_P.put P7 ng16 (hx_c5 hq (by decide))
      have tt18 : g16 1 1 = g6 1 1 := ng16 1 1 (by omega)
      have tt19 : g16 10 1 = g6 10 1 := ng16 10 1 (by omega)
      have tt20 : g16 4 1 = g6 4 1 := ng16 4 1 (by omega)
      refine lv_aload_n hx hb dX4_passTick_38 rfl (lv_at hl 0 rfl) ?_
      refine hp_geti (C := RX4) (T := TX4) (N := 6) (ci := 4) (kd := 5 + q) hx hb hts iX4_passTick_X4 hown hK hJ k0 (hk_t5 hq) rfl 2 (by decide) (hts (.fieldLink RX4 15 "NeighborBook$Port" "quickLeft" "I") (List.mem_of_getElem? (i := 4) rfl)) (fun _ h9 => h9) (hk_s5 hq (by decide)) rfl dX4_passTick_39 (fun x21 ex21 => ?_)
      have ex21 : x21.toInt = g16 (5 + q) 2 := ex21
      refine hq_if_le (tgt := 55) hx hb dX4_passTick_42 (by decide) (fun c22 => ?_) (fun c22 => ?_)
      · refine lv_aload_n hx hb dX4_passTick_55 rfl (lv_at hl 0 rfl) ?_
        refine lv_aload_n hx hb dX4_passTick_56 rfl (lv_at hl 0 rfl) ?_
        refine hp_geti (C := RX4) (T := TX4) (N := 6) (ci := 4) (kd := 5 + q) hx hb hts iX4_passTick_X4 hown hK hJ k0 (hk_t5 hq) rfl 2 (by decide) (hts (.fieldLink RX4 15 "NeighborBook$Port" "quickLeft" "I") (List.mem_of_getElem? (i := 4) rfl)) (fun _ h9 => h9) (hk_s5 hq (by decide)) rfl dX4_passTick_57 (fun x23 ex23 => ?_)
        have ex23 : x23.toInt = g16 (5 + q) 2 := ex23
        refine hq_if_le (tgt := 67) hx hb dX4_passTick_60 (by decide) (fun c24 => ?_) (fun c24 => ?_)
        · refine lv_iload_n hx hb dX4_passTick_67 rfl (lv_at hl 1 rfl) ?_
          refine hp_putx (C := RX4) (T := TX4) (N := 6) (ci := 4) (kd := 5 + q) hx hb hts iX4_passTick_X4 hown hK hJ k0 (hk_t5 hq) rfl 1 (by decide) (hts (.fieldLink RX4 19 "NeighborBook$Port" "waitLeft" "I") (List.mem_of_getElem? (i := 2) rfl)) (fun _ h9 => h9) tyX4 tyX4_ok nmX4 (x := interval) rfl rfl (by omega) hW rfl (hk_x5 hq) (hk_s5 hq (by decide)) dX4_passTick_68 (fun g25 H locs eg25 ng25 hJ => ?_)
          have eg25 : g25 (5 + q) 1 = interval.toInt := eg25
          have P26 : hg_P hx_c g g25 := hg_P.put P17 ng25 (hx_c5 hq (by decide))
          have tt27 : g25 1 1 = g16 1 1 := ng25 1 1 (by omega)
          have tt28 : g25 10 1 = g16 10 1 := ng25 10 1 (by omega)
          have tt29 : g25 4 1 = g16 4 1 := ng25 4 1 (by omega)
          refine hq_iconst hx hb dX4_passTick_71 (by decide) (by decide) (fun z30 ez30 => ?_)
          exact hp_zret hx hb hK hN hW hlocks hJ hr (by omega) ⟨P26, (hg_k.ofc hG P26 (by constructor <;> omega) (by constructor <;> omega) ), by omega, fun h9 => by first | exact ⟨by omega, rfl⟩ | (exfalso; omega)⟩ dX4_passTick_72
        · refine hq_iconst hx hb dX4_passTick_63 (by decide) (by decide) (fun z31 ez31 => ?_)
          refine lv_goto (tgt := 68) hx hb dX4_passTick_64 (by decide) ?_
          refine hp_putx (C := RX4) (T := TX4) (N := 6) (ci := 4) (kd := 5 + q) hx hb hts iX4_passTick_X4 hown hK hJ k0 (hk_t5 hq) rfl 1 (by decide) (hts (.fieldLink RX4 19 "NeighborBook$Port" "waitLeft" "I") (List.mem_of_getElem? (i := 2) rfl)) (fun _ h9 => h9) tyX4 tyX4_ok nmX4 (x := z31) rfl rfl (by omega) hW rfl (hk_x5 hq) (hk_s5 hq (by decide)) dX4_passTick_68 (fun g32 H locs eg32 ng32 hJ => ?_)
          have eg32 : g32 (5 + q) 1 = z31.toInt := eg32
          have P33 : hg_P hx_c g g32 := hg_P.put P17 ng32 (hx_c5 hq (by decide))
          have tt34 : g32 1 1 = g16 1 1 := ng32 1 1 (by omega)
          have tt35 : g32 10 1 = g16 10 1 := ng32 10 1 (by omega)
          have tt36 : g32 4 1 = g16 4 1 := ng32 4 1 (by omega)
          refine hq_iconst hx hb dX4_passTick_71 (by decide) (by decide) (fun z37 ez37 => ?_)
          exact hp_zret hx hb hK hN hW hlocks hJ hr (by omega) ⟨P33, (hg_k.ofc hG P33 (by constructor <;> omega) (by constructor <;> omega) ), by omega, fun h9 => by first | exact ⟨by omega, rfl⟩ | (exfalso; omega)⟩ dX4_passTick_72
      · refine lv_aload_n hx hb dX4_passTick_45 rfl (lv_at hl 0 rfl) ?_
        refine lv_dup hx hb dX4_passTick_46 rfl ?_
        refine hp_geti (C := RX4) (T := TX4) (N := 6) (ci := 4) (kd := 5 + q) hx hb hts iX4_passTick_X4 hown hK hJ k0 (hk_t5 hq) rfl 2 (by decide) (hts (.fieldLink RX4 15 "NeighborBook$Port" "quickLeft" "I") (List.mem_of_getElem? (i := 4) rfl)) (fun _ h9 => h9) (hk_s5 hq (by decide)) rfl dX4_passTick_47 (fun x38 ex38 => ?_)
        have ex38 : x38.toInt = g16 (5 + q) 2 := ex38
        refine hq_iconst hx hb dX4_passTick_50 (by decide) (by decide) (fun z39 ez39 => ?_)
        refine hq_isubU hx hb dX4_passTick_51 (fun x40 => ?_)
        refine hp_putx (C := RX4) (T := TX4) (N := 6) (ci := 4) (kd := 5 + q) hx hb hts iX4_passTick_X4 hown hK hJ k0 (hk_t5 hq) rfl 2 (by decide) (hts (.fieldLink RX4 15 "NeighborBook$Port" "quickLeft" "I") (List.mem_of_getElem? (i := 4) rfl)) (fun _ h9 => h9) tyX4 tyX4_ok nmX4 (x := x40) rfl rfl (by omega) hW rfl (hk_x5 hq) (hk_s5 hq (by decide)) dX4_passTick_52 (fun g41 H locs eg41 ng41 hJ => ?_)
        have eg41 : g41 (5 + q) 2 = x40.toInt := eg41
        have P42 : hg_P hx_c g g41 := hg_P.put P17 ng41 (hx_c5 hq (by decide))
        have tt43 : g41 1 1 = g16 1 1 := ng41 1 1 (by omega)
        have tt44 : g41 10 1 = g16 10 1 := ng41 10 1 (by omega)
        have tt45 : g41 4 1 = g16 4 1 := ng41 4 1 (by omega)
        refine lv_aload_n hx hb dX4_passTick_55 rfl (lv_at hl 0 rfl) ?_
        refine lv_aload_n hx hb dX4_passTick_56 rfl (lv_at hl 0 rfl) ?_
        refine hp_geti (C := RX4) (T := TX4) (N := 6) (ci := 4) (kd := 5 + q) hx hb hts iX4_passTick_X4 hown hK hJ k0 (hk_t5 hq) rfl 2 (by decide) (hts (.fieldLink RX4 15 "NeighborBook$Port" "quickLeft" "I") (List.mem_of_getElem? (i := 4) rfl)) (fun _ h9 => h9) (hk_s5 hq (by decide)) rfl dX4_passTick_57 (fun x46 ex46 => ?_)
        have ex46 : x46.toInt = g41 (5 + q) 2 := ex46
        refine hq_if_le (tgt := 67) hx hb dX4_passTick_60 (by decide) (fun c47 => ?_) (fun c47 => ?_)
        · refine lv_iload_n hx hb dX4_passTick_67 rfl (lv_at hl 1 rfl) ?_
          refine hp_putx (C := RX4) (T := TX4) (N := 6) (ci := 4) (kd := 5 + q) hx hb hts iX4_passTick_X4 hown hK hJ k0 (hk_t5 hq) rfl 1 (by decide) (hts (.fieldLink RX4 19 "NeighborBook$Port" "waitLeft" "I") (List.mem_of_getElem? (i := 2) rfl)) (fun _ h9 => h9) tyX4 tyX4_ok nmX4 (x := interval) rfl rfl (by omega) hW rfl (hk_x5 hq) (hk_s5 hq (by decide)) dX4_passTick_68 (fun g48 H locs eg48 ng48 hJ => ?_)
          have eg48 : g48 (5 + q) 1 = interval.toInt := eg48
          have P49 : hg_P hx_c g g48 := hg_P.put P42 ng48 (hx_c5 hq (by decide))
          have tt50 : g48 1 1 = g41 1 1 := ng48 1 1 (by omega)
          have tt51 : g48 10 1 = g41 10 1 := ng48 10 1 (by omega)
          have tt52 : g48 4 1 = g41 4 1 := ng48 4 1 (by omega)
          refine hq_iconst hx hb dX4_passTick_71 (by decide) (by decide) (fun z53 ez53 => ?_)
          exact hp_zret hx hb hK hN hW hlocks hJ hr (by omega) ⟨P49, (hg_k.ofc hG P49 (by constructor <;> omega) (by constructor <;> omega) ), by omega, fun h9 => by first | exact ⟨by omega, rfl⟩ | (exfalso; omega)⟩ dX4_passTick_72
        · refine hq_iconst hx hb dX4_passTick_63 (by decide) (by decide) (fun z54 ez54 => ?_)
          refine lv_goto (tgt := 68) hx hb dX4_passTick_64 (by decide) ?_
          refine hp_putx (C := RX4) (T := TX4) (N := 6) (ci := 4) (kd := 5 + q) hx hb hts iX4_passTick_X4 hown hK hJ k0 (hk_t5 hq) rfl 1 (by decide) (hts (.fieldLink RX4 19 "NeighborBook$Port" "waitLeft" "I") (List.mem_of_getElem? (i := 2) rfl)) (fun _ h9 => h9) tyX4 tyX4_ok nmX4 (x := z54) rfl rfl (by omega) hW rfl (hk_x5 hq) (hk_s5 hq (by decide)) dX4_passTick_68 (fun g55 H locs eg55 ng55 hJ => ?_)
          have eg55 : g55 (5 + q) 1 = z54.toInt := eg55
          have P56 : hg_P hx_c g g55 := hg_P.put P42 ng55 (hx_c5 hq (by decide))
          have tt57 : g55 1 1 = g41 1 1 := ng55 1 1 (by omega)
          have tt58 : g55 10 1 = g41 10 1 := ng55 10 1 (by omega)
          have tt59 : g55 4 1 = g41 4 1 := ng55 4 1 (by omega)
          refine hq_iconst hx hb dX4_passTick_71 (by decide) (by decide) (fun z60 ez60 => ?_)
          exact hp_zret hx hb hK hN hW hlocks hJ hr (by omega) ⟨P56, (hg_k.ofc hG P56 (by constructor <;> omega) (by constructor <;> omega) ), by omega, fun h9 => by first | exact ⟨by omega, rfl⟩ | (exfalso; omega)⟩ dX4_passTick_72
    · refine hq_iconst hx hb dX4_passTick_26 (by decide) (by decide) (fun z61 ez61 => ?_)
      exact hp_zret hx hb hK hN hW hlocks hJ hr (by omega) ⟨P7, (hg_k.ofc hG P7 (by constructor <;> omega) (by constructor <;> omega) ), by omega, fun h9 => by first | exact ⟨by omega, rfl⟩ | (exfalso; omega)⟩ dX4_passTick_27
  · refine hq_iconst hx hb dX4_passTick_7 (by decide) (by decide) (fun z62 ez62 => ?_)
    exact hp_zret hx hb hK hN hW hlocks hJ hr (by omega) ⟨hg_P.rf, hG, by omega, fun h9 => by first | exact ⟨by omega, rfl⟩ | (exfalso; omega)⟩ dX4_passTick_8
theorem iX4_tellAbout_X4 : ∀ w ∈ wsX40, w ∈ wsX4_tellAbout := fun _ h => List.mem_cons_of_mem _ (List.mem_append_right _ h)
set_option maxRecDepth 100000 in
set_option maxHeartbeats 4000000 in
theorem c_X4_tellAbout (l : Launch) (dC : Nat → ClassId) (dI : Nat → Nat → Nat) (dA : Nat → ClassId) (κ : Nat → Nat) (B : Nat) (g : Nat → Nat → Int) (q : Nat) (hq : q < 4) (h0 : Nat) (k0 : κ h0 = 5 + q) (what : Int32) (hG : hg_k g) : Met l yX4_tellAbout wsX4_tellAbout ({ frames := 0, cells := 0, slots := 0, locals := 0 } : Room) (hp_Pre dC dI dA κ B g [Value.ref h0, Value.int what]) (hp_Qi dC dI dA κ B (fun r u => g = u ∧ ((what.toInt = 0 ∧ r.toInt = g (5 + q) 0) ∨ (what.toInt = 1 ∧ r.toInt = g (5 + q) 3) ∨ (what.toInt = 2 ∧ r.toInt = g (5 + q) 4) ∨ (what.toInt = 3 ∧ r.toInt = g (5 + q) 5) ∨ (what.toInt = 5 ∧ r.toInt = g (5 + q) 1) ∨ (what.toInt = 6 ∧ r.toInt = g (5 + q) 2) ∨ ((what.toInt < 0 ∨ what.toInt = 4 ∨ 6 < what.toInt) ∧ r.toInt = -1)))) 0 0 (hp_A B) := by
  refine Met.ofW (cc := cX4_tellAbout) (maxL := 2) (ret := (some .int)) (by decide) rfl ?_
  intro p e s m args below meth c s₁ Bd hml hv
  obtain ⟨rfl, hK, hN, hW, hF⟩ := hv
  have hx := Bd.exec
  have hb := Bd.bytes
  have hr := Bd.returns
  have hts := atoms_spec (ws := wsX4_tellAbout) Bd.pre
  have hown : s.vm.findClass RX4 = some m.cls := findClass_of_methodNamed Bd.named
  have hlocks := Bd.notSynchronized
  have hJ : hp_J dC dI dA κ B g s.heap s.heap [] := ⟨hF, va_S.rf⟩
  have hl := lv_entry ([Value.ref h0, Value.int what]) (n := 2) (Nat.le_of_ble_eq_true rfl)
  rw [lg_entry_eq]
  generalize (lg_sl ([Value.ref h0, Value.int what]) ++ List.replicate (2 - (lg_sl ([Value.ref h0, Value.int what])).length) Slot.unset).toArray = ls at hl ⊢
  have hl : lv_has ls 2 [(0, .ref h0), (1, .int what)] := hl
  obtain ⟨hG1, hG2, hG3, hG4, hG5, hG6, hG7, hG8⟩ := id hG
  have hGq := hG7 q hq
  refine lv_iload_n hx hb dX4_tellAbout_0 rfl (lv_at hl 1 rfl) ?_
  have h1 : (what.toInt < 0 ∨ 6 < what.toInt) ∨ what.toInt = 0 ∨ what.toInt = 1 ∨ what.toInt = 2 ∨ what.toInt = 3 ∨ what.toInt = 4 ∨ what.toInt = 5 ∨ what.toInt = 6 := by omega
  rcases h1 with h1 | h1 | h1 | h1 | h1 | h1 | h1 | h1
  · refine lv_tableOut (tgt := 82) hx hb dX4_tellAbout_1 h1 (by decide) ?_
    refine hq_iconst hx hb dX4_tellAbout_82 (by decide) (by decide) (fun z2 ez2 => ?_)
    exact hp_iret hx hb hK hN hW hlocks hJ hr ⟨rfl, by omega⟩ dX4_tellAbout_83
  · refine lv_tableIn (off := 43) (tgt := 44) hx hb dX4_tellAbout_1 (by omega) (by omega) (by rw [h1]; rfl) (by decide) ?_
    refine lv_aload_n hx hb dX4_tellAbout_44 rfl (lv_at hl 0 rfl) ?_
    refine hp_geti (C := RX4) (T := TX4) (N := 6) (ci := 4) (kd := 5 + q) hx hb hts iX4_tellAbout_X4 hown hK hJ k0 (hk_t5 hq) rfl 0 (by decide) (hts (.fieldLink RX4 9 "NeighborBook$Port" "up" "Z") (List.mem_of_getElem? (i := 1) rfl)) (fun _ h9 => h9) (hk_s5 hq (by decide)) rfl dX4_tellAbout_45 (fun x3 ex3 => ?_)
    have ex3 : x3.toInt = g (5 + q) 0 := ex3
    refine hq_if_eq (tgt := 55) hx hb dX4_tellAbout_48 (by decide) (fun c4 => ?_) (fun c4 => ?_)
    · refine hq_iconst hx hb dX4_tellAbout_55 (by decide) (by decide) (fun z5 ez5 => ?_)
      exact hp_iret hx hb hK hN hW hlocks hJ hr ⟨rfl, by omega⟩ dX4_tellAbout_56
    · refine hq_iconst hx hb dX4_tellAbout_51 (by decide) (by decide) (fun z6 ez6 => ?_)
      refine lv_goto (tgt := 56) hx hb dX4_tellAbout_52 (by decide) ?_
      exact hp_iret hx hb hK hN hW hlocks hJ hr ⟨rfl, by omega⟩ dX4_tellAbout_56
  · refine lv_tableIn (off := 56) (tgt := 57) hx hb dX4_tellAbout_1 (by omega) (by omega) (by rw [h1]; rfl) (by decide) ?_
    refine lv_aload_n hx hb dX4_tellAbout_57 rfl (lv_at hl 0 rfl) ?_
    refine hp_geti (C := RX4) (T := TX4) (N := 6) (ci := 4) (kd := 5 + q) hx hb hts iX4_tellAbout_X4 hown hK hJ k0 (hk_t5 hq) rfl 3 (by decide) (hts (.fieldLink RX4 22 "NeighborBook$Port" "framesSent" "I") (List.mem_of_getElem? (i := 2) rfl)) (fun _ h9 => h9) (hk_s5 hq (by decide)) rfl dX4_tellAbout_58 (fun x7 ex7 => ?_)
    have ex7 : x7.toInt = g (5 + q) 3 := ex7
    exact hp_iret hx hb hK hN hW hlocks hJ hr ⟨rfl, by omega⟩ dX4_tellAbout_61
  · refine lv_tableIn (off := 61) (tgt := 62) hx hb dX4_tellAbout_1 (by omega) (by omega) (by rw [h1]; rfl) (by decide) ?_
    refine lv_aload_n hx hb dX4_tellAbout_62 rfl (lv_at hl 0 rfl) ?_
    refine hp_geti (C := RX4) (T := TX4) (N := 6) (ci := 4) (kd := 5 + q) hx hb hts iX4_tellAbout_X4 hown hK hJ k0 (hk_t5 hq) rfl 4 (by decide) (hts (.fieldLink RX4 31 "NeighborBook$Port" "heardWell" "I") (List.mem_of_getElem? (i := 3) rfl)) (fun _ h9 => h9) (hk_s5 hq (by decide)) rfl dX4_tellAbout_63 (fun x8 ex8 => ?_)
    have ex8 : x8.toInt = g (5 + q) 4 := ex8
    exact hp_iret hx hb hK hN hW hlocks hJ hr ⟨rfl, by omega⟩ dX4_tellAbout_66
  · refine lv_tableIn (off := 66) (tgt := 67) hx hb dX4_tellAbout_1 (by omega) (by omega) (by rw [h1]; rfl) (by decide) ?_
    refine lv_aload_n hx hb dX4_tellAbout_67 rfl (lv_at hl 0 rfl) ?_
    refine hp_geti (C := RX4) (T := TX4) (N := 6) (ci := 4) (kd := 5 + q) hx hb hts iX4_tellAbout_X4 hown hK hJ k0 (hk_t5 hq) rfl 5 (by decide) (hts (.fieldLink RX4 34 "NeighborBook$Port" "heardFaulty" "I") (List.mem_of_getElem? (i := 4) rfl)) (fun _ h9 => h9) (hk_s5 hq (by decide)) rfl dX4_tellAbout_68 (fun x9 ex9 => ?_)
    have ex9 : x9.toInt = g (5 + q) 5 := ex9
    exact hp_iret hx hb hK hN hW hlocks hJ hr ⟨rfl, by omega⟩ dX4_tellAbout_71
  · refine lv_tableIn (off := 81) (tgt := 82) hx hb dX4_tellAbout_1 (by omega) (by omega) (by rw [h1]; rfl) (by decide) ?_
    refine hq_iconst hx hb dX4_tellAbout_82 (by decide) (by decide) (fun z10 ez10 => ?_)
    exact hp_iret hx hb hK hN hW hlocks hJ hr ⟨rfl, by omega⟩ dX4_tellAbout_83
  · refine lv_tableIn (off := 71) (tgt := 72) hx hb dX4_tellAbout_1 (by omega) (by omega) (by rw [h1]; rfl) (by decide) ?_
    refine lv_aload_n hx hb dX4_tellAbout_72 rfl (lv_at hl 0 rfl) ?_
    refine hp_geti (C := RX4) (T := TX4) (N := 6) (ci := 4) (kd := 5 + q) hx hb hts iX4_tellAbout_X4 hown hK hJ k0 (hk_t5 hq) rfl 1 (by decide) (hts (.fieldLink RX4 19 "NeighborBook$Port" "waitLeft" "I") (List.mem_of_getElem? (i := 5) rfl)) (fun _ h9 => h9) (hk_s5 hq (by decide)) rfl dX4_tellAbout_73 (fun x11 ex11 => ?_)
    have ex11 : x11.toInt = g (5 + q) 1 := ex11
    exact hp_iret hx hb hK hN hW hlocks hJ hr ⟨rfl, by omega⟩ dX4_tellAbout_76
  · refine lv_tableIn (off := 76) (tgt := 77) hx hb dX4_tellAbout_1 (by omega) (by omega) (by rw [h1]; rfl) (by decide) ?_
    refine lv_aload_n hx hb dX4_tellAbout_77 rfl (lv_at hl 0 rfl) ?_
    refine hp_geti (C := RX4) (T := TX4) (N := 6) (ci := 4) (kd := 5 + q) hx hb hts iX4_tellAbout_X4 hown hK hJ k0 (hk_t5 hq) rfl 2 (by decide) (hts (.fieldLink RX4 15 "NeighborBook$Port" "quickLeft" "I") (List.mem_of_getElem? (i := 6) rfl)) (fun _ h9 => h9) (hk_s5 hq (by decide)) rfl dX4_tellAbout_78 (fun x12 ex12 => ?_)
    have ex12 : x12.toInt = g (5 + q) 2 := ex12
    exact hp_iret hx hb hK hN hW hlocks hJ hr ⟨rfl, by omega⟩ dX4_tellAbout_81
