theorem iX2_contents_X2 : ∀ w ∈ wsX20, w ∈ wsX2_contents := fun _ h => List.mem_cons_of_mem _ (List.mem_append_right _ h)
set_option maxRecDepth 100000 in
set_option maxHeartbeats 4000000 in
theorem e_X2_contents (l : Launch) (dC : Nat → ClassId) (dI : Nat → Nat → Nat) (dA : Nat → ClassId) (κ : Nat → Nat) (B : Nat) (g : Nat → Nat → Int) (nj : Nat) (hnj : nj < 12) (h0 : Nat) (k0 : κ h0 = 300 + nj) : Met l yX2_contents wsX2_contents ({ frames := 0, cells := 0, slots := 0, locals := 0 } : Room) (he_Pre dC dI dA κ B g [Value.ref h0]) (he_Qr dC dI dA κ B (g (300 + nj) 0).toNat (fun u => g = u ∧ 320 ≤ g (300 + nj) 0 ∧ g (300 + nj) 0 < 333)) 0 0 (hp_A B) := by
  refine Met.ofW (cc := cX2_contents) (maxL := 1) (ret := (some (.object "NeighborBook$Contents"))) (by decide) rfl ?_
  intro p e s m args below meth c s₁ Bd hml hv
  obtain ⟨rfl, hK, hN, hW, hF⟩ := hv
  have hx := Bd.exec
  have hb := Bd.bytes
  have hr := Bd.returns
  have hts := atoms_spec (ws := wsX2_contents) Bd.pre
  have hown : s.vm.findClass RX2 = some m.cls := findClass_of_methodNamed Bd.named
  have hlocks := Bd.notSynchronized
  have hJ : he_J dC dI dA κ B g s.heap s.heap [] := ⟨hF, va_S.rf⟩
  have hl := lv_entry ([Value.ref h0]) (n := 1) (Nat.le_of_ble_eq_true rfl)
  rw [lg_entry_eq]
  generalize (lg_sl ([Value.ref h0]) ++ List.replicate (1 - (lg_sl ([Value.ref h0])).length) Slot.unset).toArray = ls at hl ⊢
  have hl : lv_has ls 1 [(0, .ref h0)] := hl
  refine lv_aload_n hx hb dX2_contents_0 rfl (lv_at hl 0 rfl) ?_
  refine he_getc (C := RX2) (T := TX2) (N := 4) (ci := 2) (kd := 300 + nj) hx hb hts iX2_contents_X2 hown hK hJ k0 (hk_t300 (by omega)) rfl 0 (by decide) (hts (.fieldLink RX2 12 "NeighborBook$Neighbor" "contents" "LNeighborBook$Contents;") (List.mem_of_getElem? (i := 1) rfl)) (fun _ h9 => h9) (he_s300 (by omega) 0) dX2_contents_1 (fun b1 c2 hc2 kb1 ec2 => ?_)
  have ec2 : g (300 + nj) 0 = 320 + (c2 : Int) := ec2
  exact he_aret hx hb hK hN hW hlocks hJ hr (by rw [kb1]; omega) ⟨rfl, by omega⟩ dX2_contents_4
theorem iX2_portOf_X2 : ∀ w ∈ wsX20, w ∈ wsX2_portOf := fun _ h => List.mem_cons_of_mem _ (List.mem_append_right _ h)
set_option maxRecDepth 100000 in
set_option maxHeartbeats 4000000 in
theorem e_X2_portOf (l : Launch) (dC : Nat → ClassId) (dI : Nat → Nat → Nat) (dA : Nat → ClassId) (κ : Nat → Nat) (B : Nat) (g : Nat → Nat → Int) (nj : Nat) (hnj : nj < 12) (h0 : Nat) (k0 : κ h0 = 300 + nj) : Met l yX2_portOf wsX2_portOf ({ frames := 0, cells := 0, slots := 0, locals := 0 } : Room) (he_Pre dC dI dA κ B g [Value.ref h0]) (he_Qi dC dI dA κ B (fun r u => g = u ∧ r.toInt = g (300 + nj) 1 ∧ 0 ≤ r.toInt ∧ r.toInt ≤ 3)) 0 0 (hp_A B) := by
  refine Met.ofW (cc := cX2_portOf) (maxL := 1) (ret := (some .int)) (by decide) rfl ?_
  intro p e s m args below meth c s₁ Bd hml hv
  obtain ⟨rfl, hK, hN, hW, hF⟩ := hv
  have hx := Bd.exec
  have hb := Bd.bytes
  have hr := Bd.returns
  have hts := atoms_spec (ws := wsX2_portOf) Bd.pre
  have hown : s.vm.findClass RX2 = some m.cls := findClass_of_methodNamed Bd.named
  have hlocks := Bd.notSynchronized
  have hJ : he_J dC dI dA κ B g s.heap s.heap [] := ⟨hF, va_S.rf⟩
  have hl := lv_entry ([Value.ref h0]) (n := 1) (Nat.le_of_ble_eq_true rfl)
  rw [lg_entry_eq]
  generalize (lg_sl ([Value.ref h0]) ++ List.replicate (1 - (lg_sl ([Value.ref h0])).length) Slot.unset).toArray = ls at hl ⊢
  have hl : lv_has ls 1 [(0, .ref h0)] := hl
  refine lv_aload_n hx hb dX2_portOf_0 rfl (lv_at hl 0 rfl) ?_
  refine he_geti (C := RX2) (T := TX2) (N := 4) (ci := 2) (kd := 300 + nj) hx hb hts iX2_portOf_X2 hown hK hJ k0 (hk_t300 (by omega)) rfl 1 (by decide) (hts (.fieldLink RX2 18 "NeighborBook$Neighbor" "port" "I") (List.mem_of_getElem? (i := 1) rfl)) (fun _ h9 => h9) (he_s300 (by omega) 1) rfl dX2_portOf_1 (fun x1 ex1 => ?_)
  have ex1 : x1.toInt = g (300 + nj) 1 ∧ 0 ≤ x1.toInt ∧ x1.toInt ≤ 3 := ex1
  exact he_iret hx hb hK hN hW hlocks hJ hr ⟨rfl, by omega⟩ dX2_portOf_4
theorem iX2_begin_X2 : ∀ w ∈ wsX20, w ∈ wsX2_begin := fun _ h => List.mem_cons_of_mem _ (List.mem_append_right _ h)
set_option maxRecDepth 100000 in
set_option maxHeartbeats 4000000 in
theorem e_X2_begin (l : Launch) (dC : Nat → ClassId) (dI : Nat → Nat → Nat) (dA : Nat → ClassId) (κ : Nat → Nat) (B : Nat) (g : Nat → Nat → Int) (nj : Nat) (hnj : nj < 12) (h0 : Nat) (k0 : κ h0 = 300 + nj) (p1 : Int32) (hp0 : 0 ≤ p1.toInt) (hp3 : p1.toInt < 4) : Met l yX2_begin wsX2_begin ({ frames := 0, cells := 0, slots := 0, locals := 0 } : Room) (he_Pre dC dI dA κ B g [Value.ref h0, Value.int p1]) (he_Qv dC dI dA κ B (fun u => hg_Q (fun a b => a = 300 + nj ∧ (b = 1 ∨ b = 3)) g u ∧ u (300 + nj) 1 = p1.toInt ∧ u (300 + nj) 3 = 0)) 0 0 (hp_A B) := by
  refine Met.ofW (cc := cX2_begin) (maxL := 2) (ret := none) (by decide) rfl ?_
  intro p e s m args below meth c s₁ Bd hml hv
  obtain ⟨rfl, hK, hN, hW, hF⟩ := hv
  have hx := Bd.exec
  have hb := Bd.bytes
  have hr := Bd.returns
  have hts := atoms_spec (ws := wsX2_begin) Bd.pre
  have hown : s.vm.findClass RX2 = some m.cls := findClass_of_methodNamed Bd.named
  have hlocks := Bd.notSynchronized
  have hJ : he_J dC dI dA κ B g s.heap s.heap [] := ⟨hF, va_S.rf⟩
  have hl := lv_entry ([Value.ref h0, Value.int p1]) (n := 2) (Nat.le_of_ble_eq_true rfl)
  rw [lg_entry_eq]
  generalize (lg_sl ([Value.ref h0, Value.int p1]) ++ List.replicate (2 - (lg_sl ([Value.ref h0, Value.int p1])).length) Slot.unset).toArray = ls at hl ⊢
  have hl : lv_has ls 2 [(0, .ref h0), (1, .int p1)] := hl
  refine lv_aload_n hx hb dX2_begin_0 rfl (lv_at hl 0 rfl) ?_
  refine lv_iload_n hx hb dX2_begin_1 rfl (lv_at hl 1 rfl) ?_
  refine he_putx (C := RX2) (T := TX2) (N := 4) (ci := 2) (kd := 300 + nj) hx hb hts iX2_begin_X2 hown hK hJ k0 (hk_t300 (by omega)) rfl 1 (by decide) (hts (.fieldLink RX2 18 "NeighborBook$Neighbor" "port" "I") (List.mem_of_getElem? (i := 1) rfl)) (fun _ h9 => h9) tyX2 tyX2_ok nmX2 (x := p1) rfl rfl (by omega) hW rfl (hk_x300 (by omega)) (he_s300 (by omega) 1) rfl (show p1.toInt = p1.toInt ∧ 0 ≤ p1.toInt ∧ p1.toInt ≤ 3 from ⟨rfl, by omega, by omega⟩) dX2_begin_2 (fun g1 H locs eg1 ng1 hJ => ?_)
  have eg1 : g1 (300 + nj) 1 = p1.toInt := eg1
  have P2 : hg_Q (fun a b => a = 300 + nj ∧ (b = 1 ∨ b = 3)) g g1 := hg_Q.put hg_Q.rf ng1 (show (300 + nj) = 300 + nj ∧ (1 = 1 ∨ 1 = 3) from by omega)
  refine lv_aload_n hx hb dX2_begin_5 rfl (lv_at hl 0 rfl) ?_
  refine hq_iconst hx hb dX2_begin_6 (by decide) (by decide) (fun z3 ez3 => ?_)
  refine he_putx (C := RX2) (T := TX2) (N := 4) (ci := 2) (kd := 300 + nj) hx hb hts iX2_begin_X2 hown hK hJ k0 (hk_t300 (by omega)) rfl 3 (by decide) (hts (.fieldLink RX2 22 "NeighborBook$Neighbor" "frames" "I") (List.mem_of_getElem? (i := 2) rfl)) (fun _ h9 => h9) tyX2 tyX2_ok nmX2 (x := z3) rfl rfl (by omega) hW rfl (hk_x300 (by omega)) (he_s300 (by omega) 3) rfl rfl dX2_begin_7 (fun g4 H locs eg4 ng4 hJ => ?_)
  have eg4 : g4 (300 + nj) 3 = z3.toInt := eg4
  have P5 : hg_Q (fun a b => a = 300 + nj ∧ (b = 1 ∨ b = 3)) g g4 := hg_Q.put P2 ng4 (show (300 + nj) = 300 + nj ∧ (3 = 1 ∨ 3 = 3) from by omega)
  exact he_vret hx hb hK hN hW hlocks hJ hr ⟨P5, by rw [ng4 (300 + nj) 1 (by omega), eg1], by rw [eg4]; omega⟩ dX2_begin_10
theorem iX2_renew_X2 : ∀ w ∈ wsX20, w ∈ wsX2_renew := fun _ h => List.mem_cons_of_mem _ (List.mem_append_right _ h)
set_option maxRecDepth 100000 in
set_option maxHeartbeats 4000000 in
theorem e_X2_renew (l : Launch) (dC : Nat → ClassId) (dI : Nat → Nat → Nat) (dA : Nat → ClassId) (κ : Nat → Nat) (B : Nat) (g : Nat → Nat → Int) (nj : Nat) (hnj : nj < 12) (cd : Nat) (hcd : cd < 13) (h0 : Nat) (k0 : κ h0 = 300 + nj) (heard : Nat) (kheard : κ heard = 320 + cd) (held : Int32) : Met l yX2_renew wsX2_renew ({ frames := 0, cells := 0, slots := 0, locals := 0 } : Room) (he_Pre dC dI dA κ B g [Value.ref h0, Value.ref heard, Value.int held]) (he_Qr dC dI dA κ B (g (300 + nj) 0).toNat (fun u => hg_Q (fun a b => a = 300 + nj ∧ b ≠ 1) g u ∧ u (300 + nj) 0 = 320 + (cd : Int) ∧ u (300 + nj) 2 = held.toInt ∧ u (300 + nj) 3 = (g (300 + nj) 3 + 1).bmod (2 ^ 32) ∧ 320 ≤ g (300 + nj) 0 ∧ g (300 + nj) 0 < 333)) 0 0 (hp_A B) := by
  refine Met.ofW (cc := cX2_renew) (maxL := 4) (ret := (some (.object "NeighborBook$Contents"))) (by decide) rfl ?_
  intro p e s m args below meth c s₁ Bd hml hv
  obtain ⟨rfl, hK, hN, hW, hF⟩ := hv
  have hx := Bd.exec
  have hb := Bd.bytes
  have hr := Bd.returns
  have hts := atoms_spec (ws := wsX2_renew) Bd.pre
  have hown : s.vm.findClass RX2 = some m.cls := findClass_of_methodNamed Bd.named
  have hlocks := Bd.notSynchronized
  have hJ : he_J dC dI dA κ B g s.heap s.heap [] := ⟨hF, va_S.rf⟩
  have hl := lv_entry ([Value.ref h0, Value.ref heard, Value.int held]) (n := 4) (Nat.le_of_ble_eq_true rfl)
  rw [lg_entry_eq]
  generalize (lg_sl ([Value.ref h0, Value.ref heard, Value.int held]) ++ List.replicate (4 - (lg_sl ([Value.ref h0, Value.ref heard, Value.int held])).length) Slot.unset).toArray = ls at hl ⊢
  have hl : lv_has ls 4 [(0, .ref h0), (1, .ref heard), (2, .int held)] := hl
  refine lv_aload_n hx hb dX2_renew_0 rfl (lv_at hl 0 rfl) ?_
  refine he_getc (C := RX2) (T := TX2) (N := 4) (ci := 2) (kd := 300 + nj) hx hb hts iX2_renew_X2 hown hK hJ k0 (hk_t300 (by omega)) rfl 0 (by decide) (hts (.fieldLink RX2 12 "NeighborBook$Neighbor" "contents" "LNeighborBook$Contents;") (List.mem_of_getElem? (i := 1) rfl)) (fun _ h9 => h9) (he_s300 (by omega) 0) dX2_renew_1 (fun b1 c2 hc2 kb1 ec2 => ?_)
  have ec2 : g (300 + nj) 0 = 320 + (c2 : Int) := ec2
  refine lv_astore_n (lv' := [(3, .ref b1), (0, .ref h0), (1, .ref heard), (2, .int held)]) hx hb dX2_renew_4 rfl hl (by decide) rfl (fun ls hl => ?_)
  refine lv_aload_n hx hb dX2_renew_5 rfl (lv_at hl 1 rfl) ?_
  refine lv_aload_n hx hb dX2_renew_6 rfl (lv_at hl 2 rfl) ?_
  refine he_putc (C := RX2) (T := TX2) (N := 4) (ci := 2) (kd := 300 + nj) hx hb hts iX2_renew_X2 hown hK hJ k0 (hk_t300 (by omega)) rfl 0 (by decide) (hts (.fieldLink RX2 12 "NeighborBook$Neighbor" "contents" "LNeighborBook$Contents;") (List.mem_of_getElem? (i := 1) rfl)) (fun _ h9 => h9) tyX2 tyX2_ok nmX2 (b := heard) rfl rfl (by omega) hW rfl (hk_x300 (by omega)) (he_s300 (by omega) 0) (c9 := cd) kheard (by omega) dX2_renew_7 (fun g3 H locs eg3 ng3 hJ => ?_)
  have eg3 : g3 (300 + nj) 0 = 320 + ((cd : Nat) : Int) := eg3
  have P4 : hg_Q (fun a b => a = 300 + nj ∧ b ≠ 1) g g3 := hg_Q.put hg_Q.rf ng3 (show (300 + nj) = 300 + nj ∧ 0 ≠ 1 from by omega)
  refine lv_aload_n hx hb dX2_renew_10 rfl (lv_at hl 1 rfl) ?_
  refine lv_iload_n hx hb dX2_renew_11 rfl (lv_at hl 3 rfl) ?_
  refine he_putx (C := RX2) (T := TX2) (N := 4) (ci := 2) (kd := 300 + nj) hx hb hts iX2_renew_X2 hown hK hJ k0 (hk_t300 (by omega)) rfl 2 (by decide) (hts (.fieldLink RX2 25 "NeighborBook$Neighbor" "ticksLeft" "I") (List.mem_of_getElem? (i := 2) rfl)) (fun _ h9 => h9) tyX2 tyX2_ok nmX2 (x := held) rfl rfl (by omega) hW rfl (hk_x300 (by omega)) (he_s300 (by omega) 2) rfl rfl dX2_renew_12 (fun g5 H locs eg5 ng5 hJ => ?_)
  have eg5 : g5 (300 + nj) 2 = held.toInt := eg5
  have P6 : hg_Q (fun a b => a = 300 + nj ∧ b ≠ 1) g g5 := hg_Q.put P4 ng5 (show (300 + nj) = 300 + nj ∧ 2 ≠ 1 from by omega)
  refine lv_aload_n hx hb dX2_renew_15 rfl (lv_at hl 1 rfl) ?_
  refine lv_dup hx hb dX2_renew_16 rfl ?_
  refine he_geti (C := RX2) (T := TX2) (N := 4) (ci := 2) (kd := 300 + nj) hx hb hts iX2_renew_X2 hown hK hJ k0 (hk_t300 (by omega)) rfl 3 (by decide) (hts (.fieldLink RX2 22 "NeighborBook$Neighbor" "frames" "I") (List.mem_of_getElem? (i := 3) rfl)) (fun _ h9 => h9) (he_s300 (by omega) 3) rfl dX2_renew_17 (fun x7 ex7 => ?_)
  have ex7 : x7.toInt = g5 (300 + nj) 3 := ex7
  refine hq_iconst hx hb dX2_renew_20 (by decide) (by decide) (fun z8 ez8 => ?_)
  refine hq_iaddW hx hb dX2_renew_21 (fun x9 ex9 => ?_)
  refine he_putx (C := RX2) (T := TX2) (N := 4) (ci := 2) (kd := 300 + nj) hx hb hts iX2_renew_X2 hown hK hJ k0 (hk_t300 (by omega)) rfl 3 (by decide) (hts (.fieldLink RX2 22 "NeighborBook$Neighbor" "frames" "I") (List.mem_of_getElem? (i := 3) rfl)) (fun _ h9 => h9) tyX2 tyX2_ok nmX2 (x := x9) rfl rfl (by omega) hW rfl (hk_x300 (by omega)) (he_s300 (by omega) 3) rfl rfl dX2_renew_22 (fun g10 H locs eg10 ng10 hJ => ?_)
  have eg10 : g10 (300 + nj) 3 = x9.toInt := eg10
  have P11 : hg_Q (fun a b => a = 300 + nj ∧ b ≠ 1) g g10 := hg_Q.put P6 ng10 (show (300 + nj) = 300 + nj ∧ 3 ≠ 1 from by omega)
  refine lv_aload_n hx hb dX2_renew_25 rfl (lv_at hl 0 rfl) ?_
  exact he_aret hx hb hK hN hW hlocks hJ hr (by rw [kb1]; omega) ⟨P11, by rw [ng10 (300 + nj) 0 (by omega), ng5 (300 + nj) 0 (by omega), eg3], by rw [ng10 (300 + nj) 2 (by omega), eg5], by rw [eg10, ex9, ex7, ng5 (300 + nj) 3 (by omega), ng3 (300 + nj) 3 (by omega), ez8], by omega, by omega⟩ dX2_renew_26
theorem iX2_passTick_X2 : ∀ w ∈ wsX20, w ∈ wsX2_passTick := fun _ h => List.mem_cons_of_mem _ (List.mem_append_right _ h)
set_option maxRecDepth 100000 in
set_option maxHeartbeats 4000000 in
theorem e_X2_passTick (l : Launch) (dC : Nat → ClassId) (dI : Nat → Nat → Nat) (dA : Nat → ClassId) (κ : Nat → Nat) (B : Nat) (g : Nat → Nat → Int) (nj : Nat) (hnj : nj < 12) (h0 : Nat) (k0 : κ h0 = 300 + nj) (hl0 : 1 ≤ g (300 + nj) 2) (hl1 : g (300 + nj) 2 ≤ 2147483647) : Met l yX2_passTick wsX2_passTick ({ frames := 0, cells := 0, slots := 0, locals := 0 } : Room) (he_Pre dC dI dA κ B g [Value.ref h0]) (he_Qi dC dI dA κ B (fun r u => hg_Q (fun a b => a = 300 + nj ∧ b = 2) g u ∧ u (300 + nj) 2 = g (300 + nj) 2 - 1 ∧ ((r.toInt = 1 ∧ g (300 + nj) 2 ≤ 1) ∨ (r.toInt = 0 ∧ 1 < g (300 + nj) 2)))) 0 0 (hp_A B) := by
  refine Met.ofW (cc := cX2_passTick) (maxL := 1) (ret := (some .boolean)) (by decide) rfl ?_
  intro p e s m args below meth c s₁ Bd hml hv
  obtain ⟨rfl, hK, hN, hW, hF⟩ := hv
  have hx := Bd.exec
  have hb := Bd.bytes
  have hr := Bd.returns
  have hts := atoms_spec (ws := wsX2_passTick) Bd.pre
  have hown : s.vm.findClass RX2 = some m.cls := findClass_of_methodNamed Bd.named
  have hlocks := Bd.notSynchronized
  have hJ : he_J dC dI dA κ B g s.heap s.heap [] := ⟨hF, va_S.rf⟩
  have hl := lv_entry ([Value.ref h0]) (n := 1) (Nat.le_of_ble_eq_true rfl)
  rw [lg_entry_eq]
  generalize (lg_sl ([Value.ref h0]) ++ List.replicate (1 - (lg_sl ([Value.ref h0])).length) Slot.unset).toArray = ls at hl ⊢
  have hl : lv_has ls 1 [(0, .ref h0)] := hl
  refine lv_aload_n hx hb dX2_passTick_0 rfl (lv_at hl 0 rfl) ?_
  refine lv_dup hx hb dX2_passTick_1 rfl ?_
  refine he_geti (C := RX2) (T := TX2) (N := 4) (ci := 2) (kd := 300 + nj) hx hb hts iX2_passTick_X2 hown hK hJ k0 (hk_t300 (by omega)) rfl 2 (by decide) (hts (.fieldLink RX2 25 "NeighborBook$Neighbor" "ticksLeft" "I") (List.mem_of_getElem? (i := 1) rfl)) (fun _ h9 => h9) (he_s300 (by omega) 2) rfl dX2_passTick_2 (fun x1 ex1 => ?_)
  have ex1 : x1.toInt = g (300 + nj) 2 := ex1
  refine hq_iconst hx hb dX2_passTick_5 (by decide) (by decide) (fun z2 ez2 => ?_)
  refine hq_isub hx hb dX2_passTick_6 (by omega) (by omega) (fun x3 ex3 => ?_)
  refine he_putx (C := RX2) (T := TX2) (N := 4) (ci := 2) (kd := 300 + nj) hx hb hts iX2_passTick_X2 hown hK hJ k0 (hk_t300 (by omega)) rfl 2 (by decide) (hts (.fieldLink RX2 25 "NeighborBook$Neighbor" "ticksLeft" "I") (List.mem_of_getElem? (i := 1) rfl)) (fun _ h9 => h9) tyX2 tyX2_ok nmX2 (x := x3) rfl rfl (by omega) hW rfl (hk_x300 (by omega)) (he_s300 (by omega) 2) rfl rfl dX2_passTick_7 (fun g4 H locs eg4 ng4 hJ => ?_)
  have eg4 : g4 (300 + nj) 2 = x3.toInt := eg4
  have P5 : hg_Q (fun a b => a = 300 + nj ∧ b = 2) g g4 := hg_Q.put hg_Q.rf ng4 (show (300 + nj) = 300 + nj ∧ 2 = 2 from by omega)
  refine lv_aload_n hx hb dX2_passTick_10 rfl (lv_at hl 0 rfl) ?_
  refine he_geti (C := RX2) (T := TX2) (N := 4) (ci := 2) (kd := 300 + nj) hx hb hts iX2_passTick_X2 hown hK hJ k0 (hk_t300 (by omega)) rfl 2 (by decide) (hts (.fieldLink RX2 25 "NeighborBook$Neighbor" "ticksLeft" "I") (List.mem_of_getElem? (i := 1) rfl)) (fun _ h9 => h9) (he_s300 (by omega) 2) rfl dX2_passTick_11 (fun x6 ex6 => ?_)
  have ex6 : x6.toInt = g4 (300 + nj) 2 := ex6
  refine hq_if_gt (tgt := 21) hx hb dX2_passTick_14 (by decide) (fun c7 => ?_) (fun c7 => ?_)
  · refine hq_iconst hx hb dX2_passTick_21 (by decide) (by decide) (fun z8 ez8 => ?_)
    exact he_zret hx hb hK hN hW hlocks hJ hr (by omega) ⟨P5, by omega, by omega⟩ dX2_passTick_22
  · refine hq_iconst hx hb dX2_passTick_17 (by decide) (by decide) (fun z9 ez9 => ?_)
    refine lv_goto (tgt := 22) hx hb dX2_passTick_18 (by decide) ?_
    exact he_zret hx hb hK hN hW hlocks hJ hr (by omega) ⟨P5, by omega, by omega⟩ dX2_passTick_22
theorem iX2_tellAbout_X2 : ∀ w ∈ wsX20, w ∈ wsX2_tellAbout := fun _ h => List.mem_cons_of_mem _ (List.mem_append_left _ (List.mem_append_right _ h))
theorem iX2_tellAbout_X0 : ∀ w ∈ wsX00, w ∈ wsX2_tellAbout := fun _ h => List.mem_cons_of_mem _ (List.mem_append_right _ h)
set_option maxRecDepth 100000 in
set_option maxHeartbeats 4000000 in
theorem e_X2_tellAbout (l : Launch) (dC : Nat → ClassId) (dI : Nat → Nat → Nat) (dA : Nat → ClassId) (κ : Nat → Nat) (B : Nat) (g : Nat → Nat → Int) (nj : Nat) (hnj : nj < 12) (h0 : Nat) (k0 : κ h0 = 300 + nj) (what : Int32) : Met l yX2_tellAbout wsX2_tellAbout ({ frames := 3, cells := 0, slots := 0, locals := 64 } : Room) (he_Pre dC dI dA κ B g [Value.ref h0, Value.int what]) (he_Qi dC dI dA κ B (fun r u => g = u)) 0 0 (hp_A B) := by
  refine Met.ofW (cc := cX2_tellAbout) (maxL := 2) (ret := (some .int)) (by decide) rfl ?_
  intro p e s m args below meth c s₁ Bd hml hv
  obtain ⟨rfl, hK, hN, hW, hF⟩ := hv
  have hx := Bd.exec
  have hb := Bd.bytes
  have hr := Bd.returns
  have hts := atoms_spec (ws := wsX2_tellAbout) Bd.pre
  have hown : s.vm.findClass RX2 = some m.cls := findClass_of_methodNamed Bd.named
  have hlocks := Bd.notSynchronized
  have hJ : he_J dC dI dA κ B g s.heap s.heap [] := ⟨hF, va_S.rf⟩
  have hl := lv_entry ([Value.ref h0, Value.int what]) (n := 2) (Nat.le_of_ble_eq_true rfl)
  rw [lg_entry_eq]
  generalize (lg_sl ([Value.ref h0, Value.int what]) ++ List.replicate (2 - (lg_sl ([Value.ref h0, Value.int what])).length) Slot.unset).toArray = ls at hl ⊢
  have hl : lv_has ls 2 [(0, .ref h0), (1, .int what)] := hl
  refine lv_iload_n hx hb dX2_tellAbout_0 rfl (lv_at hl 1 rfl) ?_
  have h1 : (what.toInt < 0 ∨ 3 < what.toInt) ∨ what.toInt = 0 ∨ what.toInt = 1 ∨ what.toInt = 2 ∨ what.toInt = 3 := by omega
  rcases h1 with h1 | h1 | h1 | h1 | h1
  · refine lv_tableOut (tgt := 55) hx hb dX2_tellAbout_1 h1 (by decide) ?_
    refine hq_iconst hx hb dX2_tellAbout_55 (by decide) (by decide) (fun z2 ez2 => ?_)
    exact he_iret hx hb hK hN hW hlocks hJ hr rfl dX2_tellAbout_56
  · refine lv_tableIn (off := 31) (tgt := 32) hx hb dX2_tellAbout_1 (by omega) (by omega) (by rw [h1]; rfl) (by decide) ?_
    refine lv_aload_n hx hb dX2_tellAbout_32 rfl (lv_at hl 0 rfl) ?_
    refine he_geti (C := RX2) (T := TX2) (N := 4) (ci := 2) (kd := 300 + nj) hx hb hts iX2_tellAbout_X2 hown hK hJ k0 (hk_t300 (by omega)) rfl 1 (by decide) (hts (.fieldLink RX2 18 "NeighborBook$Neighbor" "port" "I") (List.mem_of_getElem? (i := 1) rfl)) (fun _ h9 => h9) (he_s300 (by omega) 1) rfl dX2_tellAbout_33 (fun x3 ex3 => ?_)
    have ex3 : x3.toInt = g (300 + nj) 1 ∧ 0 ≤ x3.toInt ∧ x3.toInt ≤ 3 := ex3
    exact he_iret hx hb hK hN hW hlocks hJ hr rfl dX2_tellAbout_36
  · refine lv_tableIn (off := 36) (tgt := 37) hx hb dX2_tellAbout_1 (by omega) (by omega) (by rw [h1]; rfl) (by decide) ?_
    refine lv_aload_n hx hb dX2_tellAbout_37 rfl (lv_at hl 0 rfl) ?_
    refine he_geti (C := RX2) (T := TX2) (N := 4) (ci := 2) (kd := 300 + nj) hx hb hts iX2_tellAbout_X2 hown hK hJ k0 (hk_t300 (by omega)) rfl 2 (by decide) (hts (.fieldLink RX2 25 "NeighborBook$Neighbor" "ticksLeft" "I") (List.mem_of_getElem? (i := 2) rfl)) (fun _ h9 => h9) (he_s300 (by omega) 2) rfl dX2_tellAbout_38 (fun x4 ex4 => ?_)
    have ex4 : x4.toInt = g (300 + nj) 2 := ex4
    exact he_iret hx hb hK hN hW hlocks hJ hr rfl dX2_tellAbout_41
  · refine lv_tableIn (off := 41) (tgt := 42) hx hb dX2_tellAbout_1 (by omega) (by omega) (by rw [h1]; rfl) (by decide) ?_
    refine lv_aload_n hx hb dX2_tellAbout_42 rfl (lv_at hl 0 rfl) ?_
    refine he_geti (C := RX2) (T := TX2) (N := 4) (ci := 2) (kd := 300 + nj) hx hb hts iX2_tellAbout_X2 hown hK hJ k0 (hk_t300 (by omega)) rfl 3 (by decide) (hts (.fieldLink RX2 22 "NeighborBook$Neighbor" "frames" "I") (List.mem_of_getElem? (i := 3) rfl)) (fun _ h9 => h9) (he_s300 (by omega) 3) rfl dX2_tellAbout_43 (fun x5 ex5 => ?_)
    have ex5 : x5.toInt = g (300 + nj) 3 := ex5
    exact he_iret hx hb hK hN hW hlocks hJ hr rfl dX2_tellAbout_46
  · refine lv_tableIn (off := 46) (tgt := 47) hx hb dX2_tellAbout_1 (by omega) (by omega) (by rw [h1]; rfl) (by decide) ?_
    refine lv_aload_n hx hb dX2_tellAbout_47 rfl (lv_at hl 0 rfl) ?_
    refine he_getc (C := RX2) (T := TX2) (N := 4) (ci := 2) (kd := 300 + nj) hx hb hts iX2_tellAbout_X2 hown hK hJ k0 (hk_t300 (by omega)) rfl 0 (by decide) (hts (.fieldLink RX2 12 "NeighborBook$Neighbor" "contents" "LNeighborBook$Contents;") (List.mem_of_getElem? (i := 4) rfl)) (fun _ h9 => h9) (he_s300 (by omega) 0) dX2_tellAbout_48 (fun b6 c7 hc7 kb6 ec7 => ?_)
    have ec7 : g (300 + nj) 0 = 320 + (c7 : Int) := ec7
    refine he_calli (va_runV (As := []) (rest := []) ⟨hx, hb, hml, hown, hts⟩ (e_X0_typeBits l dC dI dA κ B g (c7) (by omega) b6 kb6) (cwV 0 hts gX2_tellAbout_X0_typeBits rfl rfl rfl (by decide +kernel) ⟨Nat.le_of_ble_eq_true rfl, Nat.le_of_ble_eq_true rfl⟩) (he_preV (q := (RX0, TX0, 2)) [] hK hN hW hJ kb6 (hk_t320 (by omega)) rfl) rfl rfl hl.1 rfl (lv_room (Nat.le_of_ble_eq_true rfl)) dX2_tellAbout_51 ⟨Nat.zero_le _, Nat.zero_le _⟩) hJ (fun x9 g8 H locs hp hJ => ?_)
    subst hp
    exact he_iret hx hb hK hN hW hlocks hJ hr rfl dX2_tellAbout_54
theorem iX4_isUp_X4 : ∀ w ∈ wsX40, w ∈ wsX4_isUp := fun _ h => List.mem_cons_of_mem _ (List.mem_append_right _ h)
set_option maxRecDepth 100000 in
set_option maxHeartbeats 4000000 in
theorem e_X4_isUp (l : Launch) (dC : Nat → ClassId) (dI : Nat → Nat → Nat) (dA : Nat → ClassId) (κ : Nat → Nat) (B : Nat) (g : Nat → Nat → Int) (q : Nat) (hq : q < 4) (h0 : Nat) (k0 : κ h0 = 5 + q) : Met l yX4_isUp wsX4_isUp ({ frames := 0, cells := 0, slots := 0, locals := 0 } : Room) (he_Pre dC dI dA κ B g [Value.ref h0]) (he_Qi dC dI dA κ B (fun r u => g = u ∧ r.toInt = g (5 + q) 0 ∧ 0 ≤ r.toInt ∧ r.toInt ≤ 1)) 0 0 (hp_A B) := by
  refine Met.ofW (cc := cX4_isUp) (maxL := 1) (ret := (some .boolean)) (by decide) rfl ?_
  intro p e s m args below meth c s₁ Bd hml hv
  obtain ⟨rfl, hK, hN, hW, hF⟩ := hv
  have hx := Bd.exec
  have hb := Bd.bytes
  have hr := Bd.returns
  have hts := atoms_spec (ws := wsX4_isUp) Bd.pre
  have hown : s.vm.findClass RX4 = some m.cls := findClass_of_methodNamed Bd.named
  have hlocks := Bd.notSynchronized
  have hJ : he_J dC dI dA κ B g s.heap s.heap [] := ⟨hF, va_S.rf⟩
  have hl := lv_entry ([Value.ref h0]) (n := 1) (Nat.le_of_ble_eq_true rfl)
  rw [lg_entry_eq]
  generalize (lg_sl ([Value.ref h0]) ++ List.replicate (1 - (lg_sl ([Value.ref h0])).length) Slot.unset).toArray = ls at hl ⊢
  have hl : lv_has ls 1 [(0, .ref h0)] := hl
  refine lv_aload_n hx hb dX4_isUp_0 rfl (lv_at hl 0 rfl) ?_
  refine he_geti (C := RX4) (T := TX4) (N := 6) (ci := 4) (kd := 5 + q) hx hb hts iX4_isUp_X4 hown hK hJ k0 (hk_t5 (by omega)) rfl 0 (by decide) (hts (.fieldLink RX4 9 "NeighborBook$Port" "up" "Z") (List.mem_of_getElem? (i := 1) rfl)) (fun _ h9 => h9) (he_s5 (by omega) 0) rfl dX4_isUp_1 (fun x1 ex1 => ?_)
  have ex1 : x1.toInt = g (5 + q) 0 ∧ 0 ≤ x1.toInt ∧ x1.toInt ≤ 1 := ex1
  exact he_zret hx hb hK hN hW hlocks hJ hr (by omega) ⟨rfl, by omega⟩ dX4_isUp_4
theorem iX4_goUp_X4 : ∀ w ∈ wsX40, w ∈ wsX4_goUp := fun _ h => List.mem_cons_of_mem _ (List.mem_append_right _ h)
set_option maxRecDepth 100000 in
set_option maxHeartbeats 4000000 in
theorem e_X4_goUp (l : Launch) (dC : Nat → ClassId) (dI : Nat → Nat → Nat) (dA : Nat → ClassId) (κ : Nat → Nat) (B : Nat) (g : Nat → Nat → Int) (q : Nat) (hq : q < 4) (h0 : Nat) (k0 : κ h0 = 5 + q) (quick : Int32) : Met l yX4_goUp wsX4_goUp ({ frames := 0, cells := 0, slots := 0, locals := 0 } : Room) (he_Pre dC dI dA κ B g [Value.ref h0, Value.int quick]) (he_Qv dC dI dA κ B (fun u => hg_Q (fun a b => a = 5 + q) g u ∧ u (5 + q) 0 = 1)) 0 0 (hp_A B) := by
  refine Met.ofW (cc := cX4_goUp) (maxL := 2) (ret := none) (by decide) rfl ?_
  intro p e s m args below meth c s₁ Bd hml hv
  obtain ⟨rfl, hK, hN, hW, hF⟩ := hv
  have hx := Bd.exec
  have hb := Bd.bytes
  have hr := Bd.returns
  have hts := atoms_spec (ws := wsX4_goUp) Bd.pre
  have hown : s.vm.findClass RX4 = some m.cls := findClass_of_methodNamed Bd.named
  have hlocks := Bd.notSynchronized
  have hJ : he_J dC dI dA κ B g s.heap s.heap [] := ⟨hF, va_S.rf⟩
  have hl := lv_entry ([Value.ref h0, Value.int quick]) (n := 2) (Nat.le_of_ble_eq_true rfl)
  rw [lg_entry_eq]
  generalize (lg_sl ([Value.ref h0, Value.int quick]) ++ List.replicate (2 - (lg_sl ([Value.ref h0, Value.int quick])).length) Slot.unset).toArray = ls at hl ⊢
  have hl : lv_has ls 2 [(0, .ref h0), (1, .int quick)] := hl
  refine lv_aload_n hx hb dX4_goUp_0 rfl (lv_at hl 0 rfl) ?_
  refine hq_iconst hx hb dX4_goUp_1 (by decide) (by decide) (fun z1 ez1 => ?_)
  refine he_putx (C := RX4) (T := TX4) (N := 6) (ci := 4) (kd := 5 + q) hx hb hts iX4_goUp_X4 hown hK hJ k0 (hk_t5 (by omega)) rfl 0 (by decide) (hts (.fieldLink RX4 9 "NeighborBook$Port" "up" "Z") (List.mem_of_getElem? (i := 1) rfl)) (fun _ h9 => h9) tyX4 tyX4_ok nmX4 (x := z1) (hi_bool (by omega)) (hi_fz (by omega)) (by omega) hW rfl (hk_x5 (by omega)) (he_s5 (by omega) 0) rfl (show z1.toInt = z1.toInt ∧ 0 ≤ z1.toInt ∧ z1.toInt ≤ 1 from ⟨rfl, by omega, by omega⟩) dX4_goUp_2 (fun g2 H locs eg2 ng2 hJ => ?_)
  have eg2 : g2 (5 + q) 0 = z1.toInt := eg2
  have P3 : hg_Q (fun a b => a = 5 + q) g g2 := hg_Q.put hg_Q.rf ng2 (show (5 + q) = 5 + q from by omega)
  refine lv_aload_n hx hb dX4_goUp_5 rfl (lv_at hl 0 rfl) ?_
  refine lv_iload_n hx hb dX4_goUp_6 rfl (lv_at hl 1 rfl) ?_
  refine he_putx (C := RX4) (T := TX4) (N := 6) (ci := 4) (kd := 5 + q) hx hb hts iX4_goUp_X4 hown hK hJ k0 (hk_t5 (by omega)) rfl 2 (by decide) (hts (.fieldLink RX4 15 "NeighborBook$Port" "quickLeft" "I") (List.mem_of_getElem? (i := 2) rfl)) (fun _ h9 => h9) tyX4 tyX4_ok nmX4 (x := quick) rfl rfl (by omega) hW rfl (hk_x5 (by omega)) (he_s5 (by omega) 2) rfl rfl dX4_goUp_7 (fun g4 H locs eg4 ng4 hJ => ?_)
  have eg4 : g4 (5 + q) 2 = quick.toInt := eg4
  have P5 : hg_Q (fun a b => a = 5 + q) g g4 := hg_Q.put P3 ng4 (show (5 + q) = 5 + q from by omega)
  refine lv_aload_n hx hb dX4_goUp_10 rfl (lv_at hl 0 rfl) ?_
  refine hq_iconst hx hb dX4_goUp_11 (by decide) (by decide) (fun z6 ez6 => ?_)
  refine he_putx (C := RX4) (T := TX4) (N := 6) (ci := 4) (kd := 5 + q) hx hb hts iX4_goUp_X4 hown hK hJ k0 (hk_t5 (by omega)) rfl 1 (by decide) (hts (.fieldLink RX4 19 "NeighborBook$Port" "waitLeft" "I") (List.mem_of_getElem? (i := 3) rfl)) (fun _ h9 => h9) tyX4 tyX4_ok nmX4 (x := z6) rfl rfl (by omega) hW rfl (hk_x5 (by omega)) (he_s5 (by omega) 1) rfl rfl dX4_goUp_12 (fun g7 H locs eg7 ng7 hJ => ?_)
  have eg7 : g7 (5 + q) 1 = z6.toInt := eg7
  have P8 : hg_Q (fun a b => a = 5 + q) g g7 := hg_Q.put P5 ng7 (show (5 + q) = 5 + q from by omega)
  exact he_vret hx hb hK hN hW hlocks hJ hr ⟨P8, by rw [ng7 (5 + q) 0 (by omega), ng4 (5 + q) 0 (by omega), eg2]; omega⟩ dX4_goUp_15
theorem iX4_goDown_X4 : ∀ w ∈ wsX40, w ∈ wsX4_goDown := fun _ h => List.mem_cons_of_mem _ (List.mem_append_right _ h)
set_option maxRecDepth 100000 in
set_option maxHeartbeats 4000000 in
theorem e_X4_goDown (l : Launch) (dC : Nat → ClassId) (dI : Nat → Nat → Nat) (dA : Nat → ClassId) (κ : Nat → Nat) (B : Nat) (g : Nat → Nat → Int) (q : Nat) (hq : q < 4) (h0 : Nat) (k0 : κ h0 = 5 + q) : Met l yX4_goDown wsX4_goDown ({ frames := 0, cells := 0, slots := 0, locals := 0 } : Room) (he_Pre dC dI dA κ B g [Value.ref h0]) (he_Qv dC dI dA κ B (fun u => hg_Q (fun a b => a = 5 + q) g u ∧ u (5 + q) 0 = 0)) 0 0 (hp_A B) := by
  refine Met.ofW (cc := cX4_goDown) (maxL := 1) (ret := none) (by decide) rfl ?_
  intro p e s m args below meth c s₁ Bd hml hv
  obtain ⟨rfl, hK, hN, hW, hF⟩ := hv
  have hx := Bd.exec
  have hb := Bd.bytes
  have hr := Bd.returns
  have hts := atoms_spec (ws := wsX4_goDown) Bd.pre
  have hown : s.vm.findClass RX4 = some m.cls := findClass_of_methodNamed Bd.named
  have hlocks := Bd.notSynchronized
  have hJ : he_J dC dI dA κ B g s.heap s.heap [] := ⟨hF, va_S.rf⟩
  have hl := lv_entry ([Value.ref h0]) (n := 1) (Nat.le_of_ble_eq_true rfl)
  rw [lg_entry_eq]
  generalize (lg_sl ([Value.ref h0]) ++ List.replicate (1 - (lg_sl ([Value.ref h0])).length) Slot.unset).toArray = ls at hl ⊢
  have hl : lv_has ls 1 [(0, .ref h0)] := hl
  refine lv_aload_n hx hb dX4_goDown_0 rfl (lv_at hl 0 rfl) ?_
  refine hq_iconst hx hb dX4_goDown_1 (by decide) (by decide) (fun z1 ez1 => ?_)
  refine he_putx (C := RX4) (T := TX4) (N := 6) (ci := 4) (kd := 5 + q) hx hb hts iX4_goDown_X4 hown hK hJ k0 (hk_t5 (by omega)) rfl 0 (by decide) (hts (.fieldLink RX4 9 "NeighborBook$Port" "up" "Z") (List.mem_of_getElem? (i := 1) rfl)) (fun _ h9 => h9) tyX4 tyX4_ok nmX4 (x := z1) (hi_bool (by omega)) (hi_fz (by omega)) (by omega) hW rfl (hk_x5 (by omega)) (he_s5 (by omega) 0) rfl (show z1.toInt = z1.toInt ∧ 0 ≤ z1.toInt ∧ z1.toInt ≤ 1 from ⟨rfl, by omega, by omega⟩) dX4_goDown_2 (fun g2 H locs eg2 ng2 hJ => ?_)
  have eg2 : g2 (5 + q) 0 = z1.toInt := eg2
  have P3 : hg_Q (fun a b => a = 5 + q) g g2 := hg_Q.put hg_Q.rf ng2 (show (5 + q) = 5 + q from by omega)
  refine lv_aload_n hx hb dX4_goDown_5 rfl (lv_at hl 0 rfl) ?_
  refine hq_iconst hx hb dX4_goDown_6 (by decide) (by decide) (fun z4 ez4 => ?_)
  refine he_putx (C := RX4) (T := TX4) (N := 6) (ci := 4) (kd := 5 + q) hx hb hts iX4_goDown_X4 hown hK hJ k0 (hk_t5 (by omega)) rfl 1 (by decide) (hts (.fieldLink RX4 19 "NeighborBook$Port" "waitLeft" "I") (List.mem_of_getElem? (i := 2) rfl)) (fun _ h9 => h9) tyX4 tyX4_ok nmX4 (x := z4) rfl rfl (by omega) hW rfl (hk_x5 (by omega)) (he_s5 (by omega) 1) rfl rfl dX4_goDown_7 (fun g5 H locs eg5 ng5 hJ => ?_)
  have eg5 : g5 (5 + q) 1 = z4.toInt := eg5
  have P6 : hg_Q (fun a b => a = 5 + q) g g5 := hg_Q.put P3 ng5 (show (5 + q) = 5 + q from by omega)
  refine lv_aload_n hx hb dX4_goDown_10 rfl (lv_at hl 0 rfl) ?_
  refine lv_dup hx hb dX4_goDown_11 rfl ?_
  refine he_geti (C := RX4) (T := TX4) (N := 6) (ci := 4) (kd := 5 + q) hx hb hts iX4_goDown_X4 hown hK hJ k0 (hk_t5 (by omega)) rfl 3 (by decide) (hts (.fieldLink RX4 22 "NeighborBook$Port" "framesSent" "I") (List.mem_of_getElem? (i := 3) rfl)) (fun _ h9 => h9) (he_s5 (by omega) 3) rfl dX4_goDown_12 (fun x7 ex7 => ?_)
  have ex7 : x7.toInt = g5 (5 + q) 3 := ex7
  refine hq_iconst hx hb dX4_goDown_15 (by decide) (by decide) (fun z8 ez8 => ?_)
  refine hq_iaddU hx hb dX4_goDown_16 (fun x9 => ?_)
  refine he_putx (C := RX4) (T := TX4) (N := 6) (ci := 4) (kd := 5 + q) hx hb hts iX4_goDown_X4 hown hK hJ k0 (hk_t5 (by omega)) rfl 3 (by decide) (hts (.fieldLink RX4 22 "NeighborBook$Port" "framesSent" "I") (List.mem_of_getElem? (i := 3) rfl)) (fun _ h9 => h9) tyX4 tyX4_ok nmX4 (x := x9) rfl rfl (by omega) hW rfl (hk_x5 (by omega)) (he_s5 (by omega) 3) rfl rfl dX4_goDown_17 (fun g10 H locs eg10 ng10 hJ => ?_)
  have eg10 : g10 (5 + q) 3 = x9.toInt := eg10
  have P11 : hg_Q (fun a b => a = 5 + q) g g10 := hg_Q.put P6 ng10 (show (5 + q) = 5 + q from by omega)
  exact he_vret hx hb hK hN hW hlocks hJ hr ⟨P11, by rw [ng10 (5 + q) 0 (by omega), ng5 (5 + q) 0 (by omega), eg2]; omega⟩ dX4_goDown_20
theorem iX4_hurry_X4 : ∀ w ∈ wsX40, w ∈ wsX4_hurry := fun _ h => List.mem_cons_of_mem _ (List.mem_append_right _ h)
set_option maxRecDepth 100000 in
set_option maxHeartbeats 4000000 in
theorem e_X4_hurry (l : Launch) (dC : Nat → ClassId) (dI : Nat → Nat → Nat) (dA : Nat → ClassId) (κ : Nat → Nat) (B : Nat) (g : Nat → Nat → Int) (q : Nat) (hq : q < 4) (h0 : Nat) (k0 : κ h0 = 5 + q) : Met l yX4_hurry wsX4_hurry ({ frames := 0, cells := 0, slots := 0, locals := 0 } : Room) (he_Pre dC dI dA κ B g [Value.ref h0]) (he_Qv dC dI dA κ B (fun u => hg_Q (fun a b => a = 5 + q ∧ b ≠ 0) g u)) 0 0 (hp_A B) := by
  refine Met.ofW (cc := cX4_hurry) (maxL := 1) (ret := none) (by decide) rfl ?_
  intro p e s m args below meth c s₁ Bd hml hv
  obtain ⟨rfl, hK, hN, hW, hF⟩ := hv
  have hx := Bd.exec
  have hb := Bd.bytes
  have hr := Bd.returns
  have hts := atoms_spec (ws := wsX4_hurry) Bd.pre
  have hown : s.vm.findClass RX4 = some m.cls := findClass_of_methodNamed Bd.named
  have hlocks := Bd.notSynchronized
  have hJ : he_J dC dI dA κ B g s.heap s.heap [] := ⟨hF, va_S.rf⟩
  have hl := lv_entry ([Value.ref h0]) (n := 1) (Nat.le_of_ble_eq_true rfl)
  rw [lg_entry_eq]
  generalize (lg_sl ([Value.ref h0]) ++ List.replicate (1 - (lg_sl ([Value.ref h0])).length) Slot.unset).toArray = ls at hl ⊢
  have hl : lv_has ls 1 [(0, .ref h0)] := hl
  refine lv_aload_n hx hb dX4_hurry_0 rfl (lv_at hl 0 rfl) ?_
  refine he_geti (C := RX4) (T := TX4) (N := 6) (ci := 4) (kd := 5 + q) hx hb hts iX4_hurry_X4 hown hK hJ k0 (hk_t5 (by omega)) rfl 0 (by decide) (hts (.fieldLink RX4 9 "NeighborBook$Port" "up" "Z") (List.mem_of_getElem? (i := 1) rfl)) (fun _ h9 => h9) (he_s5 (by omega) 0) rfl dX4_hurry_1 (fun x1 ex1 => ?_)
  have ex1 : x1.toInt = g (5 + q) 0 ∧ 0 ≤ x1.toInt ∧ x1.toInt ≤ 1 := ex1
  refine hq_if_eq (tgt := 12) hx hb dX4_hurry_4 (by decide) (fun c2 => ?_) (fun c2 => ?_)
  · exact he_vret hx hb hK hN hW hlocks hJ hr hg_Q.rf dX4_hurry_12
  · refine lv_aload_n hx hb dX4_hurry_7 rfl (lv_at hl 0 rfl) ?_
    refine hq_iconst hx hb dX4_hurry_8 (by decide) (by decide) (fun z3 ez3 => ?_)
    refine he_putx (C := RX4) (T := TX4) (N := 6) (ci := 4) (kd := 5 + q) hx hb hts iX4_hurry_X4 hown hK hJ k0 (hk_t5 (by omega)) rfl 1 (by decide) (hts (.fieldLink RX4 19 "NeighborBook$Port" "waitLeft" "I") (List.mem_of_getElem? (i := 2) rfl)) (fun _ h9 => h9) tyX4 tyX4_ok nmX4 (x := z3) rfl rfl (by omega) hW rfl (hk_x5 (by omega)) (he_s5 (by omega) 1) rfl rfl dX4_hurry_9 (fun g4 H locs eg4 ng4 hJ => ?_)
    have eg4 : g4 (5 + q) 1 = z3.toInt := eg4
    have P5 : hg_Q (fun a b => a = 5 + q ∧ b ≠ 0) g g4 := hg_Q.put hg_Q.rf ng4 (show (5 + q) = 5 + q ∧ 1 ≠ 0 from by omega)
    exact he_vret hx hb hK hN hW hlocks hJ hr P5 dX4_hurry_12
theorem iX4_greet_X4 : ∀ w ∈ wsX40, w ∈ wsX4_greet := fun _ h => List.mem_cons_of_mem _ (List.mem_append_right _ h)
set_option maxRecDepth 100000 in
set_option maxHeartbeats 4000000 in
theorem e_X4_greet (l : Launch) (dC : Nat → ClassId) (dI : Nat → Nat → Nat) (dA : Nat → ClassId) (κ : Nat → Nat) (B : Nat) (g : Nat → Nat → Int) (q : Nat) (hq : q < 4) (h0 : Nat) (k0 : κ h0 = 5 + q) (quick : Int32) : Met l yX4_greet wsX4_greet ({ frames := 1, cells := 0, slots := 0, locals := 16 } : Room) (he_Pre dC dI dA κ B g [Value.ref h0, Value.int quick]) (he_Qv dC dI dA κ B (fun u => hg_Q (fun a b => a = 5 + q ∧ b ≠ 0) g u)) 0 0 (hp_A B) := by
  refine Met.ofW (cc := cX4_greet) (maxL := 2) (ret := none) (by decide) rfl ?_
  intro p e s m args below meth c s₁ Bd hml hv
  obtain ⟨rfl, hK, hN, hW, hF⟩ := hv
  have hx := Bd.exec
  have hb := Bd.bytes
  have hr := Bd.returns
  have hts := atoms_spec (ws := wsX4_greet) Bd.pre
  have hown : s.vm.findClass RX4 = some m.cls := findClass_of_methodNamed Bd.named
  have hlocks := Bd.notSynchronized
  have hJ : he_J dC dI dA κ B g s.heap s.heap [] := ⟨hF, va_S.rf⟩
  have hl := lv_entry ([Value.ref h0, Value.int quick]) (n := 2) (Nat.le_of_ble_eq_true rfl)
  rw [lg_entry_eq]
  generalize (lg_sl ([Value.ref h0, Value.int quick]) ++ List.replicate (2 - (lg_sl ([Value.ref h0, Value.int quick])).length) Slot.unset).toArray = ls at hl ⊢
  have hl : lv_has ls 2 [(0, .ref h0), (1, .int quick)] := hl
  refine lv_aload_n hx hb dX4_greet_0 rfl (lv_at hl 0 rfl) ?_
  refine lv_aload_n hx hb dX4_greet_1 rfl (lv_at hl 0 rfl) ?_
  refine he_geti (C := RX4) (T := TX4) (N := 6) (ci := 4) (kd := 5 + q) hx hb hts iX4_greet_X4 hown hK hJ k0 (hk_t5 (by omega)) rfl 2 (by decide) (hts (.fieldLink RX4 15 "NeighborBook$Port" "quickLeft" "I") (List.mem_of_getElem? (i := 1) rfl)) (fun _ h9 => h9) (he_s5 (by omega) 2) rfl dX4_greet_2 (fun x1 ex1 => ?_)
  have ex1 : x1.toInt = g (5 + q) 2 := ex1
  refine lv_iload_n hx hb dX4_greet_5 rfl (lv_at hl 1 rfl) ?_
  refine va_mmax hx hb (hml.trans hl.1.symm) hown (hts (.methodLink RX4 25 Lib.Math.max.name) (List.mem_of_getElem? (i := 2) rfl)) (hts (.static Lib.Math.max.name) (List.mem_of_getElem? (i := 3) rfl)) (hts (.initialized "java/lang/Math") (List.mem_of_getElem? (i := 4) rfl)) (hts (.code Lib.Math.max.name Lib.Math.max.code 2 (some .int)) (List.mem_of_getElem? (i := 5) rfl)) (Nat.le_of_ble_eq_true rfl) (Nat.le_of_ble_eq_true rfl) (Nat.zero_le _) (Nat.zero_le _) dX4_greet_6 ?_
  refine lv_topi (fun x2 _ => ?_)
  refine he_putx (C := RX4) (T := TX4) (N := 6) (ci := 4) (kd := 5 + q) hx hb hts iX4_greet_X4 hown hK hJ k0 (hk_t5 (by omega)) rfl 2 (by decide) (hts (.fieldLink RX4 15 "NeighborBook$Port" "quickLeft" "I") (List.mem_of_getElem? (i := 1) rfl)) (fun _ h9 => h9) tyX4 tyX4_ok nmX4 (x := x2) rfl rfl (by omega) hW rfl (hk_x5 (by omega)) (he_s5 (by omega) 2) rfl rfl dX4_greet_9 (fun g3 H locs eg3 ng3 hJ => ?_)
  have eg3 : g3 (5 + q) 2 = x2.toInt := eg3
  have P4 : hg_Q (fun a b => a = 5 + q ∧ b ≠ 0) g g3 := hg_Q.put hg_Q.rf ng3 (show (5 + q) = 5 + q ∧ 2 ≠ 0 from by omega)
  refine lv_aload_n hx hb dX4_greet_12 rfl (lv_at hl 0 rfl) ?_
  refine hq_iconst hx hb dX4_greet_13 (by decide) (by decide) (fun z5 ez5 => ?_)
  refine he_putx (C := RX4) (T := TX4) (N := 6) (ci := 4) (kd := 5 + q) hx hb hts iX4_greet_X4 hown hK hJ k0 (hk_t5 (by omega)) rfl 1 (by decide) (hts (.fieldLink RX4 19 "NeighborBook$Port" "waitLeft" "I") (List.mem_of_getElem? (i := 6) rfl)) (fun _ h9 => h9) tyX4 tyX4_ok nmX4 (x := z5) rfl rfl (by omega) hW rfl (hk_x5 (by omega)) (he_s5 (by omega) 1) rfl rfl dX4_greet_14 (fun g6 H locs eg6 ng6 hJ => ?_)
  have eg6 : g6 (5 + q) 1 = z5.toInt := eg6
  have P7 : hg_Q (fun a b => a = 5 + q ∧ b ≠ 0) g g6 := hg_Q.put P4 ng6 (show (5 + q) = 5 + q ∧ 1 ≠ 0 from by omega)
  exact he_vret hx hb hK hN hW hlocks hJ hr P7 dX4_greet_17
theorem iX4_noteHeard_X4 : ∀ w ∈ wsX40, w ∈ wsX4_noteHeard := fun _ h => List.mem_cons_of_mem _ (List.mem_append_right _ h)
set_option maxRecDepth 100000 in
set_option maxHeartbeats 4000000 in
theorem e_X4_noteHeard (l : Launch) (dC : Nat → ClassId) (dI : Nat → Nat → Nat) (dA : Nat → ClassId) (κ : Nat → Nat) (B : Nat) (g : Nat → Nat → Int) (q : Nat) (hq : q < 4) (h0 : Nat) (k0 : κ h0 = 5 + q) (well : Int32) : Met l yX4_noteHeard wsX4_noteHeard ({ frames := 0, cells := 0, slots := 0, locals := 0 } : Room) (he_Pre dC dI dA κ B g [Value.ref h0, Value.int well]) (he_Qv dC dI dA κ B (fun u => hg_Q (fun a b => a = 5 + q ∧ b ≠ 0) g u)) 0 0 (hp_A B) := by
  refine Met.ofW (cc := cX4_noteHeard) (maxL := 2) (ret := none) (by decide) rfl ?_
  intro p e s m args below meth c s₁ Bd hml hv
  obtain ⟨rfl, hK, hN, hW, hF⟩ := hv
  have hx := Bd.exec
  have hb := Bd.bytes
  have hr := Bd.returns
  have hts := atoms_spec (ws := wsX4_noteHeard) Bd.pre
  have hown : s.vm.findClass RX4 = some m.cls := findClass_of_methodNamed Bd.named
  have hlocks := Bd.notSynchronized
  have hJ : he_J dC dI dA κ B g s.heap s.heap [] := ⟨hF, va_S.rf⟩
  have hl := lv_entry ([Value.ref h0, Value.int well]) (n := 2) (Nat.le_of_ble_eq_true rfl)
  rw [lg_entry_eq]
  generalize (lg_sl ([Value.ref h0, Value.int well]) ++ List.replicate (2 - (lg_sl ([Value.ref h0, Value.int well])).length) Slot.unset).toArray = ls at hl ⊢
  have hl : lv_has ls 2 [(0, .ref h0), (1, .int well)] := hl
  refine lv_iload_n hx hb dX4_noteHeard_0 rfl (lv_at hl 1 rfl) ?_
  refine hq_if_eq (tgt := 17) hx hb dX4_noteHeard_1 (by decide) (fun c1 => ?_) (fun c1 => ?_)
  · refine lv_aload_n hx hb dX4_noteHeard_17 rfl (lv_at hl 0 rfl) ?_
    refine lv_dup hx hb dX4_noteHeard_18 rfl ?_
    refine he_geti (C := RX4) (T := TX4) (N := 6) (ci := 4) (kd := 5 + q) hx hb hts iX4_noteHeard_X4 hown hK hJ k0 (hk_t5 (by omega)) rfl 5 (by decide) (hts (.fieldLink RX4 34 "NeighborBook$Port" "heardFaulty" "I") (List.mem_of_getElem? (i := 2) rfl)) (fun _ h9 => h9) (he_s5 (by omega) 5) rfl dX4_noteHeard_19 (fun x2 ex2 => ?_)
    have ex2 : x2.toInt = g (5 + q) 5 := ex2
    refine hq_iconst hx hb dX4_noteHeard_22 (by decide) (by decide) (fun z3 ez3 => ?_)
    refine hq_iaddU hx hb dX4_noteHeard_23 (fun x4 => ?_)
    refine he_putx (C := RX4) (T := TX4) (N := 6) (ci := 4) (kd := 5 + q) hx hb hts iX4_noteHeard_X4 hown hK hJ k0 (hk_t5 (by omega)) rfl 5 (by decide) (hts (.fieldLink RX4 34 "NeighborBook$Port" "heardFaulty" "I") (List.mem_of_getElem? (i := 2) rfl)) (fun _ h9 => h9) tyX4 tyX4_ok nmX4 (x := x4) rfl rfl (by omega) hW rfl (hk_x5 (by omega)) (he_s5 (by omega) 5) rfl rfl dX4_noteHeard_24 (fun g5 H locs eg5 ng5 hJ => ?_)
    have eg5 : g5 (5 + q) 5 = x4.toInt := eg5
    have P6 : hg_Q (fun a b => a = 5 + q ∧ b ≠ 0) g g5 := hg_Q.put hg_Q.rf ng5 (show (5 + q) = 5 + q ∧ 5 ≠ 0 from by omega)
    exact he_vret hx hb hK hN hW hlocks hJ hr P6 dX4_noteHeard_27
  · refine lv_aload_n hx hb dX4_noteHeard_4 rfl (lv_at hl 0 rfl) ?_
    refine lv_dup hx hb dX4_noteHeard_5 rfl ?_
    refine he_geti (C := RX4) (T := TX4) (N := 6) (ci := 4) (kd := 5 + q) hx hb hts iX4_noteHeard_X4 hown hK hJ k0 (hk_t5 (by omega)) rfl 4 (by decide) (hts (.fieldLink RX4 31 "NeighborBook$Port" "heardWell" "I") (List.mem_of_getElem? (i := 1) rfl)) (fun _ h9 => h9) (he_s5 (by omega) 4) rfl dX4_noteHeard_6 (fun x7 ex7 => ?_)
    have ex7 : x7.toInt = g (5 + q) 4 := ex7
    refine hq_iconst hx hb dX4_noteHeard_9 (by decide) (by decide) (fun z8 ez8 => ?_)
    refine hq_iaddU hx hb dX4_noteHeard_10 (fun x9 => ?_)
    refine he_putx (C := RX4) (T := TX4) (N := 6) (ci := 4) (kd := 5 + q) hx hb hts iX4_noteHeard_X4 hown hK hJ k0 (hk_t5 (by omega)) rfl 4 (by decide) (hts (.fieldLink RX4 31 "NeighborBook$Port" "heardWell" "I") (List.mem_of_getElem? (i := 1) rfl)) (fun _ h9 => h9) tyX4 tyX4_ok nmX4 (x := x9) rfl rfl (by omega) hW rfl (hk_x5 (by omega)) (he_s5 (by omega) 4) rfl rfl dX4_noteHeard_11 (fun g10 H locs eg10 ng10 hJ => ?_)
    have eg10 : g10 (5 + q) 4 = x9.toInt := eg10
    have P11 : hg_Q (fun a b => a = 5 + q ∧ b ≠ 0) g g10 := hg_Q.put hg_Q.rf ng10 (show (5 + q) = 5 + q ∧ 4 ≠ 0 from by omega)
    refine lv_goto (tgt := 27) hx hb dX4_noteHeard_14 (by decide) ?_
    exact he_vret hx hb hK hN hW hlocks hJ hr P11 dX4_noteHeard_27
theorem iX4_passTick_X4 : ∀ w ∈ wsX40, w ∈ wsX4_passTick := fun _ h => List.mem_cons_of_mem _ (List.mem_append_right _ h)
set_option maxRecDepth 100000 in
set_option maxHeartbeats 4000000 in
theorem e_X4_passTick (l : Launch) (dC : Nat → ClassId) (dI : Nat → Nat → Nat) (dA : Nat → ClassId) (κ : Nat → Nat) (B : Nat) (g : Nat → Nat → Int) (q : Nat) (hq : q < 4) (h0 : Nat) (k0 : κ h0 = 5 + q) (interval : Int32) : Met l yX4_passTick wsX4_passTick ({ frames := 0, cells := 0, slots := 0, locals := 0 } : Room) (he_Pre dC dI dA κ B g [Value.ref h0, Value.int interval]) (he_Qi dC dI dA κ B (fun r u => hg_Q (fun a b => a = 5 + q ∧ b ≠ 0) g u ∧ (r.toInt = 0 ∨ r.toInt = 1))) 0 0 (hp_A B) := by
  refine Met.ofW (cc := cX4_passTick) (maxL := 2) (ret := (some .boolean)) (by decide) rfl ?_
  intro p e s m args below meth c s₁ Bd hml hv
  obtain ⟨rfl, hK, hN, hW, hF⟩ := hv
  have hx := Bd.exec
  have hb := Bd.bytes
  have hr := Bd.returns
  have hts := atoms_spec (ws := wsX4_passTick) Bd.pre
  have hown : s.vm.findClass RX4 = some m.cls := findClass_of_methodNamed Bd.named
  have hlocks := Bd.notSynchronized
  have hJ : he_J dC dI dA κ B g s.heap s.heap [] := ⟨hF, va_S.rf⟩
  have hl := lv_entry ([Value.ref h0, Value.int interval]) (n := 2) (Nat.le_of_ble_eq_true rfl)
  rw [lg_entry_eq]
  generalize (lg_sl ([Value.ref h0, Value.int interval]) ++ List.replicate (2 - (lg_sl ([Value.ref h0, Value.int interval])).length) Slot.unset).toArray = ls at hl ⊢
  have hl : lv_has ls 2 [(0, .ref h0), (1, .int interval)] := hl
  refine lv_aload_n hx hb dX4_passTick_0 rfl (lv_at hl 0 rfl) ?_
  refine he_geti (C := RX4) (T := TX4) (N := 6) (ci := 4) (kd := 5 + q) hx hb hts iX4_passTick_X4 hown hK hJ k0 (hk_t5 (by omega)) rfl 0 (by decide) (hts (.fieldLink RX4 9 "NeighborBook$Port" "up" "Z") (List.mem_of_getElem? (i := 1) rfl)) (fun _ h9 => h9) (he_s5 (by omega) 0) rfl dX4_passTick_1 (fun x1 ex1 => ?_)
  have ex1 : x1.toInt = g (5 + q) 0 ∧ 0 ≤ x1.toInt ∧ x1.toInt ≤ 1 := ex1
  refine hq_if_ne (tgt := 9) hx hb dX4_passTick_4 (by decide) (fun c2 => ?_) (fun c2 => ?_)
  · refine lv_aload_n hx hb dX4_passTick_9 rfl (lv_at hl 0 rfl) ?_
    refine lv_dup hx hb dX4_passTick_10 rfl ?_
    refine he_geti (C := RX4) (T := TX4) (N := 6) (ci := 4) (kd := 5 + q) hx hb hts iX4_passTick_X4 hown hK hJ k0 (hk_t5 (by omega)) rfl 1 (by decide) (hts (.fieldLink RX4 19 "NeighborBook$Port" "waitLeft" "I") (List.mem_of_getElem? (i := 2) rfl)) (fun _ h9 => h9) (he_s5 (by omega) 1) rfl dX4_passTick_11 (fun x3 ex3 => ?_)
    have ex3 : x3.toInt = g (5 + q) 1 := ex3
    refine hq_iconst hx hb dX4_passTick_14 (by decide) (by decide) (fun z4 ez4 => ?_)
    refine hq_isubU hx hb dX4_passTick_15 (fun x5 => ?_)
    refine he_putx (C := RX4) (T := TX4) (N := 6) (ci := 4) (kd := 5 + q) hx hb hts iX4_passTick_X4 hown hK hJ k0 (hk_t5 (by omega)) rfl 1 (by decide) (hts (.fieldLink RX4 19 "NeighborBook$Port" "waitLeft" "I") (List.mem_of_getElem? (i := 2) rfl)) (fun _ h9 => h9) tyX4 tyX4_ok nmX4 (x := x5) rfl rfl (by omega) hW rfl (hk_x5 (by omega)) (he_s5 (by omega) 1) rfl rfl dX4_passTick_16 (fun g6 H locs eg6 ng6 hJ => ?_)
    have eg6 : g6 (5 + q) 1 = x5.toInt := eg6
    have P7 : hg_Q (fun a b => a = 5 + q ∧ b ≠ 0) g g6 := hg_Q.put hg_Q.rf ng6 (show (5 + q) = 5 + q ∧ 1 ≠ 0 from by omega)
    refine lv_aload_n hx hb dX4_passTick_19 rfl (lv_at hl 0 rfl) ?_
    refine he_geti (C := RX4) (T := TX4) (N := 6) (ci := 4) (kd := 5 + q) hx hb hts iX4_passTick_X4 hown hK hJ k0 (hk_t5 (by omega)) rfl 1 (by decide) (hts (.fieldLink RX4 19 "NeighborBook$Port" "waitLeft" "I") (List.mem_of_getElem? (i := 2) rfl)) (fun _ h9 => h9) (he_s5 (by omega) 1) rfl dX4_passTick_20 (fun x8 ex8 => ?_)
    have ex8 : x8.toInt = g6 (5 + q) 1 := ex8
    refine hq_if_le (tgt := 28) hx hb dX4_passTick_23 (by decide) (fun c9 => ?_) (fun c9 => ?_)
    · refine lv_aload_n hx hb dX4_passTick_28 rfl (lv_at hl 0 rfl) ?_
      refine lv_dup hx hb dX4_passTick_29 rfl ?_
      refine he_geti (C := RX4) (T := TX4) (N := 6) (ci := 4) (kd := 5 + q) hx hb hts iX4_passTick_X4 hown hK hJ k0 (hk_t5 (by omega)) rfl 3 (by decide) (hts (.fieldLink RX4 22 "NeighborBook$Port" "framesSent" "I") (List.mem_of_getElem? (i := 3) rfl)) (fun _ h9 => h9) (he_s5 (by omega) 3) rfl dX4_passTick_30 (fun x10 ex10 => ?_)
      have ex10 : x10.toInt = g6 (5 + q) 3 := ex10
      refine hq_iconst hx hb dX4_passTick_33 (by decide) (by decide) (fun z11 ez11 => ?_)
      refine hq_iaddU hx hb dX4_passTick_34 (fun x12 => ?_)
      refine he_putx (C := RX4) (T := TX4) (N := 6) (ci := 4) (kd := 5 + q) hx hb hts iX4_passTick_X4 hown hK hJ k0 (hk_t5 (by omega)) rfl 3 (by decide) (hts (.fieldLink RX4 22 "NeighborBook$Port" "framesSent" "I") (List.mem_of_getElem? (i := 3) rfl)) (fun _ h9 => h9) tyX4 tyX4_ok nmX4 (x := x12) rfl rfl (by omega) hW rfl (hk_x5 (by omega)) (he_s5 (by omega) 3) rfl rfl dX4_passTick_35 (fun g13 H locs eg13 ng13 hJ => ?_)
      have eg13 : g13 (5 + q) 3 = x12.toInt := eg13
      have P14 : hg_Q (fun a b => a = 5 + q ∧ b ≠ 0) g g13 := hg_Q.put P7 ng13 (show (5 + q) = 5 + q ∧ 3 ≠ 0 from by omega)
      refine lv_aload_n hx hb dX4_passTick_38 rfl (lv_at hl 0 rfl) ?_
      refine he_geti (C := RX4) (T := TX4) (N := 6) (ci := 4) (kd := 5 + q) hx hb hts iX4_passTick_X4 hown hK hJ k0 (hk_t5 (by omega)) rfl 2 (by decide) (hts (.fieldLink RX4 15 "NeighborBook$Port" "quickLeft" "I") (List.mem_of_getElem? (i := 4) rfl)) (fun _ h9 => h9) (he_s5 (by omega) 2) rfl dX4_passTick_39 (fun x15 ex15 => ?_)
      have ex15 : x15.toInt = g13 (5 + q) 2 := ex15
      refine hq_if_le (tgt := 55) hx hb dX4_passTick_42 (by decide) (fun c16 => ?_) (fun c16 => ?_)
      · refine lv_aload_n hx hb dX4_passTick_55 rfl (lv_at hl 0 rfl) ?_
        refine lv_aload_n hx hb dX4_passTick_56 rfl (lv_at hl 0 rfl) ?_
        refine he_geti (C := RX4) (T := TX4) (N := 6) (ci := 4) (kd := 5 + q) hx hb hts iX4_passTick_X4 hown hK hJ k0 (hk_t5 (by omega)) rfl 2 (by decide) (hts (.fieldLink RX4 15 "NeighborBook$Port" "quickLeft" "I") (List.mem_of_getElem? (i := 4) rfl)) (fun _ h9 => h9) (he_s5 (by omega) 2) rfl dX4_passTick_57 (fun x17 ex17 => ?_)
        have ex17 : x17.toInt = g13 (5 + q) 2 := ex17
        refine hq_if_le (tgt := 67) hx hb dX4_passTick_60 (by decide) (fun c18 => ?_) (fun c18 => ?_)
        · refine lv_iload_n hx hb dX4_passTick_67 rfl (lv_at hl 1 rfl) ?_
          refine he_putx (C := RX4) (T := TX4) (N := 6) (ci := 4) (kd := 5 + q) hx hb hts iX4_passTick_X4 hown hK hJ k0 (hk_t5 (by omega)) rfl 1 (by decide) (hts (.fieldLink RX4 19 "NeighborBook$Port" "waitLeft" "I") (List.mem_of_getElem? (i := 2) rfl)) (fun _ h9 => h9) tyX4 tyX4_ok nmX4 (x := interval) rfl rfl (by omega) hW rfl (hk_x5 (by omega)) (he_s5 (by omega) 1) rfl rfl dX4_passTick_68 (fun g19 H locs eg19 ng19 hJ => ?_)
          have eg19 : g19 (5 + q) 1 = interval.toInt := eg19
          have P20 : hg_Q (fun a b => a = 5 + q ∧ b ≠ 0) g g19 := hg_Q.put P14 ng19 (show (5 + q) = 5 + q ∧ 1 ≠ 0 from by omega)
          refine hq_iconst hx hb dX4_passTick_71 (by decide) (by decide) (fun z21 ez21 => ?_)
          exact he_zret hx hb hK hN hW hlocks hJ hr (by omega) ⟨P20, by omega⟩ dX4_passTick_72
        · refine hq_iconst hx hb dX4_passTick_63 (by decide) (by decide) (fun z22 ez22 => ?_)
          refine lv_goto (tgt := 68) hx hb dX4_passTick_64 (by decide) ?_
          refine he_putx (C := RX4) (T := TX4) (N := 6) (ci := 4) (kd := 5 + q) hx hb hts iX4_passTick_X4 hown hK hJ k0 (hk_t5 (by omega)) rfl 1 (by decide) (hts (.fieldLink RX4 19 "NeighborBook$Port" "waitLeft" "I") (List.mem_of_getElem? (i := 2) rfl)) (fun _ h9 => h9) tyX4 tyX4_ok nmX4 (x := z22) rfl rfl (by omega) hW rfl (hk_x5 (by omega)) (he_s5 (by omega) 1) rfl rfl dX4_passTick_68 (fun g23 H locs eg23 ng23 hJ => ?_)
          have eg23 : g23 (5 + q) 1 = z22.toInt := eg23
          have P24 : hg_Q (fun a b => a = 5 + q ∧ b ≠ 0) g g23 := hg_Q.put P14 ng23 (show (5 + q) = 5 + q ∧ 1 ≠ 0 from by omega)
          refine hq_iconst hx hb dX4_passTick_71 (by decide) (by decide) (fun z25 ez25 => ?_)
          exact he_zret hx hb hK hN hW hlocks hJ hr (by omega) ⟨P24, by omega⟩ dX4_passTick_72
      · refine lv_aload_n hx hb dX4_passTick_45 rfl (lv_at hl 0 rfl) ?_
        refine lv_dup hx hb dX4_passTick_46 rfl ?_
        refine he_geti (C := RX4) (T := TX4) (N := 6) (ci := 4) (kd := 5 + q) hx hb hts iX4_passTick_X4 hown hK hJ k0 (hk_t5 (by omega)) rfl 2 (by decide) (hts (.fieldLink RX4 15 "NeighborBook$Port" "quickLeft" "I") (List.mem_of_getElem? (i := 4) rfl)) (fun _ h9 => h9) (he_s5 (by omega) 2) rfl dX4_passTick_47 (fun x26 ex26 => ?_)
        have ex26 : x26.toInt = g13 (5 + q) 2 := ex26
        refine hq_iconst hx hb dX4_passTick_50 (by decide) (by decide) (fun z27 ez27 => ?_)
        refine hq_isubU hx hb dX4_passTick_51 (fun x28 => ?_)
        refine he_putx (C := RX4) (T := TX4) (N := 6) (ci := 4) (kd := 5 + q) hx hb hts iX4_passTick_X4 hown hK hJ k0 (hk_t5 (by omega)) rfl 2 (by decide) (hts (.fieldLink RX4 15 "NeighborBook$Port" "quickLeft" "I") (List.mem_of_getElem? (i := 4) rfl)) (fun _ h9 => h9) tyX4 tyX4_ok nmX4 (x := x28) rfl rfl (by omega) hW rfl (hk_x5 (by omega)) (he_s5 (by omega) 2) rfl rfl dX4_passTick_52 (fun g29 H locs eg29 ng29 hJ => ?_)
        have eg29 : g29 (5 + q) 2 = x28.toInt := eg29
        have P30 : hg_Q (fun a b => a = 5 + q ∧ b ≠ 0) g g29 := hg_Q.put P14 ng29 (show (5 + q) = 5 + q ∧ 2 ≠ 0 from by omega)
        refine lv_aload_n hx hb dX4_passTick_55 rfl (lv_at hl 0 rfl) ?_
        refine lv_aload_n hx hb dX4_passTick_56 rfl (lv_at hl 0 rfl) ?_
        refine he_geti (C := RX4) (T := TX4) (N := 6) (ci := 4) (kd := 5 + q) hx hb hts iX4_passTick_X4 hown hK hJ k0 (hk_t5 (by omega)) rfl 2 (by decide) (hts (.fieldLink RX4 15 "NeighborBook$Port" "quickLeft" "I") (List.mem_of_getElem? (i := 4) rfl)) (fun _ h9 => h9) (he_s5 (by omega) 2) rfl dX4_passTick_57 (fun x31 ex31 => ?_)
        have ex31 : x31.toInt = g29 (5 + q) 2 := ex31
        refine hq_if_le (tgt := 67) hx hb dX4_passTick_60 (by decide) (fun c32 => ?_) (fun c32 => ?_)
        · refine lv_iload_n hx hb dX4_passTick_67 rfl (lv_at hl 1 rfl) ?_
          refine he_putx (C := RX4) (T := TX4) (N := 6) (ci := 4) (kd := 5 + q) hx hb hts iX4_passTick_X4 hown hK hJ k0 (hk_t5 (by omega)) rfl 1 (by decide) (hts (.fieldLink RX4 19 "NeighborBook$Port" "waitLeft" "I") (List.mem_of_getElem? (i := 2) rfl)) (fun _ h9 => h9) tyX4 tyX4_ok nmX4 (x := interval) rfl rfl (by omega) hW rfl (hk_x5 (by omega)) (he_s5 (by omega) 1) rfl rfl dX4_passTick_68 (fun g33 H locs eg33 ng33 hJ => ?_)
          have eg33 : g33 (5 + q) 1 = interval.toInt := eg33
          have P34 : hg_Q (fun a b => a = 5 + q ∧ b ≠ 0) g g33 := hg_Q.put P30 ng33 (show (5 + q) = 5 + q ∧ 1 ≠ 0 from by omega)
          refine hq_iconst hx hb dX4_passTick_71 (by decide) (by decide) (fun z35 ez35 => ?_)
          exact he_zret hx hb hK hN hW hlocks hJ hr (by omega) ⟨P34, by omega⟩ dX4_passTick_72
        · refine hq_iconst hx hb dX4_passTick_63 (by decide) (by decide) (fun z36 ez36 => ?_)
          refine lv_goto (tgt := 68) hx hb dX4_passTick_64 (by decide) ?_
          refine he_putx (C := RX4) (T := TX4) (N := 6) (ci := 4) (kd := 5 + q) hx hb hts iX4_passTick_X4 hown hK hJ k0 (hk_t5 (by omega)) rfl 1 (by decide) (hts (.fieldLink RX4 19 "NeighborBook$Port" "waitLeft" "I") (List.mem_of_getElem? (i := 2) rfl)) (fun _ h9 => h9) tyX4 tyX4_ok nmX4 (x := z36) rfl rfl (by omega) hW rfl (hk_x5 (by omega)) (he_s5 (by omega) 1) rfl rfl dX4_passTick_68 (fun g37 H locs eg37 ng37 hJ => ?_)
          have eg37 : g37 (5 + q) 1 = z36.toInt := eg37
          have P38 : hg_Q (fun a b => a = 5 + q ∧ b ≠ 0) g g37 := hg_Q.put P30 ng37 (show (5 + q) = 5 + q ∧ 1 ≠ 0 from by omega)
          refine hq_iconst hx hb dX4_passTick_71 (by decide) (by decide) (fun z39 ez39 => ?_)
          exact he_zret hx hb hK hN hW hlocks hJ hr (by omega) ⟨P38, by omega⟩ dX4_passTick_72
    · refine hq_iconst hx hb dX4_passTick_26 (by decide) (by decide) (fun z40 ez40 => ?_)
      exact he_zret hx hb hK hN hW hlocks hJ hr (by omega) ⟨P7, by omega⟩ dX4_passTick_27
  · refine hq_iconst hx hb dX4_passTick_7 (by decide) (by decide) (fun z41 ez41 => ?_)
    exact he_zret hx hb hK hN hW hlocks hJ hr (by omega) ⟨hg_Q.rf, by omega⟩ dX4_passTick_8
theorem iX4_tellAbout_X4 : ∀ w ∈ wsX40, w ∈ wsX4_tellAbout := fun _ h => List.mem_cons_of_mem _ (List.mem_append_right _ h)
set_option maxRecDepth 100000 in
set_option maxHeartbeats 4000000 in
theorem e_X4_tellAbout (l : Launch) (dC : Nat → ClassId) (dI : Nat → Nat → Nat) (dA : Nat → ClassId) (κ : Nat → Nat) (B : Nat) (g : Nat → Nat → Int) (q : Nat) (hq : q < 4) (h0 : Nat) (k0 : κ h0 = 5 + q) (what : Int32) : Met l yX4_tellAbout wsX4_tellAbout ({ frames := 0, cells := 0, slots := 0, locals := 0 } : Room) (he_Pre dC dI dA κ B g [Value.ref h0, Value.int what]) (he_Qi dC dI dA κ B (fun r u => g = u)) 0 0 (hp_A B) := by
  refine Met.ofW (cc := cX4_tellAbout) (maxL := 2) (ret := (some .int)) (by decide) rfl ?_
  intro p e s m args below meth c s₁ Bd hml hv
  obtain ⟨rfl, hK, hN, hW, hF⟩ := hv
  have hx := Bd.exec
  have hb := Bd.bytes
  have hr := Bd.returns
  have hts := atoms_spec (ws := wsX4_tellAbout) Bd.pre
  have hown : s.vm.findClass RX4 = some m.cls := findClass_of_methodNamed Bd.named
  have hlocks := Bd.notSynchronized
  have hJ : he_J dC dI dA κ B g s.heap s.heap [] := ⟨hF, va_S.rf⟩
  have hl := lv_entry ([Value.ref h0, Value.int what]) (n := 2) (Nat.le_of_ble_eq_true rfl)
  rw [lg_entry_eq]
  generalize (lg_sl ([Value.ref h0, Value.int what]) ++ List.replicate (2 - (lg_sl ([Value.ref h0, Value.int what])).length) Slot.unset).toArray = ls at hl ⊢
  have hl : lv_has ls 2 [(0, .ref h0), (1, .int what)] := hl
  refine lv_iload_n hx hb dX4_tellAbout_0 rfl (lv_at hl 1 rfl) ?_
  have h1 : (what.toInt < 0 ∨ 6 < what.toInt) ∨ what.toInt = 0 ∨ what.toInt = 1 ∨ what.toInt = 2 ∨ what.toInt = 3 ∨ what.toInt = 4 ∨ what.toInt = 5 ∨ what.toInt = 6 := by omega
  rcases h1 with h1 | h1 | h1 | h1 | h1 | h1 | h1 | h1
  · refine lv_tableOut (tgt := 82) hx hb dX4_tellAbout_1 h1 (by decide) ?_
    refine hq_iconst hx hb dX4_tellAbout_82 (by decide) (by decide) (fun z2 ez2 => ?_)
    exact he_iret hx hb hK hN hW hlocks hJ hr rfl dX4_tellAbout_83
  · refine lv_tableIn (off := 43) (tgt := 44) hx hb dX4_tellAbout_1 (by omega) (by omega) (by rw [h1]; rfl) (by decide) ?_
    refine lv_aload_n hx hb dX4_tellAbout_44 rfl (lv_at hl 0 rfl) ?_
    refine he_geti (C := RX4) (T := TX4) (N := 6) (ci := 4) (kd := 5 + q) hx hb hts iX4_tellAbout_X4 hown hK hJ k0 (hk_t5 (by omega)) rfl 0 (by decide) (hts (.fieldLink RX4 9 "NeighborBook$Port" "up" "Z") (List.mem_of_getElem? (i := 1) rfl)) (fun _ h9 => h9) (he_s5 (by omega) 0) rfl dX4_tellAbout_45 (fun x3 ex3 => ?_)
    have ex3 : x3.toInt = g (5 + q) 0 ∧ 0 ≤ x3.toInt ∧ x3.toInt ≤ 1 := ex3
    refine hq_if_eq (tgt := 55) hx hb dX4_tellAbout_48 (by decide) (fun c4 => ?_) (fun c4 => ?_)
    · refine hq_iconst hx hb dX4_tellAbout_55 (by decide) (by decide) (fun z5 ez5 => ?_)
      exact he_iret hx hb hK hN hW hlocks hJ hr rfl dX4_tellAbout_56
    · refine hq_iconst hx hb dX4_tellAbout_51 (by decide) (by decide) (fun z6 ez6 => ?_)
      refine lv_goto (tgt := 56) hx hb dX4_tellAbout_52 (by decide) ?_
      exact he_iret hx hb hK hN hW hlocks hJ hr rfl dX4_tellAbout_56
  · refine lv_tableIn (off := 56) (tgt := 57) hx hb dX4_tellAbout_1 (by omega) (by omega) (by rw [h1]; rfl) (by decide) ?_
    refine lv_aload_n hx hb dX4_tellAbout_57 rfl (lv_at hl 0 rfl) ?_
    refine he_geti (C := RX4) (T := TX4) (N := 6) (ci := 4) (kd := 5 + q) hx hb hts iX4_tellAbout_X4 hown hK hJ k0 (hk_t5 (by omega)) rfl 3 (by decide) (hts (.fieldLink RX4 22 "NeighborBook$Port" "framesSent" "I") (List.mem_of_getElem? (i := 2) rfl)) (fun _ h9 => h9) (he_s5 (by omega) 3) rfl dX4_tellAbout_58 (fun x7 ex7 => ?_)
    have ex7 : x7.toInt = g (5 + q) 3 := ex7
    exact he_iret hx hb hK hN hW hlocks hJ hr rfl dX4_tellAbout_61
  · refine lv_tableIn (off := 61) (tgt := 62) hx hb dX4_tellAbout_1 (by omega) (by omega) (by rw [h1]; rfl) (by decide) ?_
    refine lv_aload_n hx hb dX4_tellAbout_62 rfl (lv_at hl 0 rfl) ?_
    refine he_geti (C := RX4) (T := TX4) (N := 6) (ci := 4) (kd := 5 + q) hx hb hts iX4_tellAbout_X4 hown hK hJ k0 (hk_t5 (by omega)) rfl 4 (by decide) (hts (.fieldLink RX4 31 "NeighborBook$Port" "heardWell" "I") (List.mem_of_getElem? (i := 3) rfl)) (fun _ h9 => h9) (he_s5 (by omega) 4) rfl dX4_tellAbout_63 (fun x8 ex8 => ?_)
    have ex8 : x8.toInt = g (5 + q) 4 := ex8
    exact he_iret hx hb hK hN hW hlocks hJ hr rfl dX4_tellAbout_66
  · refine lv_tableIn (off := 66) (tgt := 67) hx hb dX4_tellAbout_1 (by omega) (by omega) (by rw [h1]; rfl) (by decide) ?_
    refine lv_aload_n hx hb dX4_tellAbout_67 rfl (lv_at hl 0 rfl) ?_
    refine he_geti (C := RX4) (T := TX4) (N := 6) (ci := 4) (kd := 5 + q) hx hb hts iX4_tellAbout_X4 hown hK hJ k0 (hk_t5 (by omega)) rfl 5 (by decide) (hts (.fieldLink RX4 34 "NeighborBook$Port" "heardFaulty" "I") (List.mem_of_getElem? (i := 4) rfl)) (fun _ h9 => h9) (he_s5 (by omega) 5) rfl dX4_tellAbout_68 (fun x9 ex9 => ?_)
    have ex9 : x9.toInt = g (5 + q) 5 := ex9
    exact he_iret hx hb hK hN hW hlocks hJ hr rfl dX4_tellAbout_71
  · refine lv_tableIn (off := 81) (tgt := 82) hx hb dX4_tellAbout_1 (by omega) (by omega) (by rw [h1]; rfl) (by decide) ?_
    refine hq_iconst hx hb dX4_tellAbout_82 (by decide) (by decide) (fun z10 ez10 => ?_)
    exact he_iret hx hb hK hN hW hlocks hJ hr rfl dX4_tellAbout_83
  · refine lv_tableIn (off := 71) (tgt := 72) hx hb dX4_tellAbout_1 (by omega) (by omega) (by rw [h1]; rfl) (by decide) ?_
    refine lv_aload_n hx hb dX4_tellAbout_72 rfl (lv_at hl 0 rfl) ?_
    refine he_geti (C := RX4) (T := TX4) (N := 6) (ci := 4) (kd := 5 + q) hx hb hts iX4_tellAbout_X4 hown hK hJ k0 (hk_t5 (by omega)) rfl 1 (by decide) (hts (.fieldLink RX4 19 "NeighborBook$Port" "waitLeft" "I") (List.mem_of_getElem? (i := 5) rfl)) (fun _ h9 => h9) (he_s5 (by omega) 1) rfl dX4_tellAbout_73 (fun x11 ex11 => ?_)
    have ex11 : x11.toInt = g (5 + q) 1 := ex11
    exact he_iret hx hb hK hN hW hlocks hJ hr rfl dX4_tellAbout_76
  · refine lv_tableIn (off := 76) (tgt := 77) hx hb dX4_tellAbout_1 (by omega) (by omega) (by rw [h1]; rfl) (by decide) ?_
    refine lv_aload_n hx hb dX4_tellAbout_77 rfl (lv_at hl 0 rfl) ?_
    refine he_geti (C := RX4) (T := TX4) (N := 6) (ci := 4) (kd := 5 + q) hx hb hts iX4_tellAbout_X4 hown hK hJ k0 (hk_t5 (by omega)) rfl 2 (by decide) (hts (.fieldLink RX4 15 "NeighborBook$Port" "quickLeft" "I") (List.mem_of_getElem? (i := 6) rfl)) (fun _ h9 => h9) (he_s5 (by omega) 2) rfl dX4_tellAbout_78 (fun x12 ex12 => ?_)
    have ex12 : x12.toInt = g (5 + q) 2 := ex12
    exact he_iret hx hb hK hN hW hlocks hJ hr rfl dX4_tellAbout_81
