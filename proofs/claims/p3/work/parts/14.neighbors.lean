theorem iX3_size_X3 : ∀ w ∈ wsX30, w ∈ wsX3_size := fun _ h => List.mem_cons_of_mem _ (List.mem_append_right _ h)
set_option maxRecDepth 100000 in
set_option maxHeartbeats 4000000 in
theorem c_X3_size (l : Launch) (dC : Nat → ClassId) (dI : Nat → Nat → Nat) (dA : Nat → ClassId) (κ : Nat → Nat) (B : Nat) (g : Nat → Nat → Int) (h0 : Nat) (k0 : κ h0 = 10) : Met l yX3_size wsX3_size ({ frames := 0, cells := 0, slots := 0, locals := 0 } : Room) (hp_Pre dC dI dA κ B g [Value.ref h0]) (hp_Qi dC dI dA κ B (fun r u => g = u ∧ r.toInt = g 10 1)) 0 0 (hp_A B) := by
  refine Met.ofW (cc := cX3_size) (maxL := 1) (ret := (some .int)) (by decide) rfl ?_
  intro p e s m args below meth c s₁ Bd hml hv
  obtain ⟨rfl, hK, hN, hW, hF⟩ := hv
  have hx := Bd.exec
  have hb := Bd.bytes
  have hr := Bd.returns
  have hts := atoms_spec (ws := wsX3_size) Bd.pre
  have hown : s.vm.findClass RX3 = some m.cls := findClass_of_methodNamed Bd.named
  have hlocks := Bd.notSynchronized
  have hJ : hp_J dC dI dA κ B g s.heap s.heap [] := ⟨hF, va_S.rf⟩
  have hl := lv_entry ([Value.ref h0]) (n := 1) (Nat.le_of_ble_eq_true rfl)
  rw [lg_entry_eq]
  generalize (lg_sl ([Value.ref h0]) ++ List.replicate (1 - (lg_sl ([Value.ref h0])).length) Slot.unset).toArray = ls at hl ⊢
  have hl : lv_has ls 1 [(0, .ref h0)] := hl
  refine lv_aload_n hx hb dX3_size_0 rfl (lv_at hl 0 rfl) ?_
  refine hp_geti (C := RX3) (T := TX3) (N := 2) (ci := 3) (kd := 10) hx hb hts iX3_size_X3 hown hK hJ k0 rfl rfl 1 (by decide) (hts (.fieldLink RX3 18 "NeighborBook$Neighbors" "size" "I") (List.mem_of_getElem? (i := 1) rfl)) (fun _ h9 => h9) rfl rfl dX3_size_1 (fun x1 ex1 => ?_)
  have ex1 : x1.toInt = g 10 1 := ex1
  exact hp_iret hx hb hK hN hW hlocks hJ hr ⟨rfl, by omega⟩ dX3_size_4
theorem iX3_has_X3 : ∀ w ∈ wsX30, w ∈ wsX3_has := fun _ h => List.mem_cons_of_mem _ (List.mem_append_right _ h)
set_option maxRecDepth 100000 in
set_option maxHeartbeats 4000000 in
theorem c_X3_has (l : Launch) (dC : Nat → ClassId) (dI : Nat → Nat → Nat) (dA : Nat → ClassId) (κ : Nat → Nat) (B : Nat) (g : Nat → Nat → Int) (h0 : Nat) (k0 : κ h0 = 10) (i : Int32) : Met l yX3_has wsX3_has ({ frames := 0, cells := 0, slots := 0, locals := 0 } : Room) (hp_Pre dC dI dA κ B g [Value.ref h0, Value.int i]) (hp_Qi dC dI dA κ B (fun r u => g = u ∧ ((r.toInt = 1 ∧ 0 ≤ i.toInt ∧ i.toInt < g 10 1) ∨ (r.toInt = 0 ∧ (i.toInt < 0 ∨ g 10 1 ≤ i.toInt))))) 0 0 (hp_A B) := by
  refine Met.ofW (cc := cX3_has) (maxL := 2) (ret := (some .boolean)) (by decide) rfl ?_
  intro p e s m args below meth c s₁ Bd hml hv
  obtain ⟨rfl, hK, hN, hW, hF⟩ := hv
  have hx := Bd.exec
  have hb := Bd.bytes
  have hr := Bd.returns
  have hts := atoms_spec (ws := wsX3_has) Bd.pre
  have hown : s.vm.findClass RX3 = some m.cls := findClass_of_methodNamed Bd.named
  have hlocks := Bd.notSynchronized
  have hJ : hp_J dC dI dA κ B g s.heap s.heap [] := ⟨hF, va_S.rf⟩
  have hl := lv_entry ([Value.ref h0, Value.int i]) (n := 2) (Nat.le_of_ble_eq_true rfl)
  rw [lg_entry_eq]
  generalize (lg_sl ([Value.ref h0, Value.int i]) ++ List.replicate (2 - (lg_sl ([Value.ref h0, Value.int i])).length) Slot.unset).toArray = ls at hl ⊢
  have hl : lv_has ls 2 [(0, .ref h0), (1, .int i)] := hl
  refine lv_iload_n hx hb dX3_has_0 rfl (lv_at hl 1 rfl) ?_
  refine hq_if_lt (tgt := 16) hx hb dX3_has_1 (by decide) (fun c1 => ?_) (fun c1 => ?_)
  · refine hq_iconst hx hb dX3_has_16 (by decide) (by decide) (fun z2 ez2 => ?_)
    exact hp_zret hx hb hK hN hW hlocks hJ hr (by omega) ⟨rfl, by omega⟩ dX3_has_17
  · refine lv_iload_n hx hb dX3_has_4 rfl (lv_at hl 1 rfl) ?_
    refine lv_aload_n hx hb dX3_has_5 rfl (lv_at hl 0 rfl) ?_
    refine hp_geti (C := RX3) (T := TX3) (N := 2) (ci := 3) (kd := 10) hx hb hts iX3_has_X3 hown hK hJ k0 rfl rfl 1 (by decide) (hts (.fieldLink RX3 18 "NeighborBook$Neighbors" "size" "I") (List.mem_of_getElem? (i := 1) rfl)) (fun _ h9 => h9) rfl rfl dX3_has_6 (fun x3 ex3 => ?_)
    have ex3 : x3.toInt = g 10 1 := ex3
    refine hq_icmp_ge (tgt := 16) hx hb dX3_has_9 (by decide) (fun c4 => ?_) (fun c4 => ?_)
    · refine hq_iconst hx hb dX3_has_16 (by decide) (by decide) (fun z5 ez5 => ?_)
      exact hp_zret hx hb hK hN hW hlocks hJ hr (by omega) ⟨rfl, by omega⟩ dX3_has_17
    · refine hq_iconst hx hb dX3_has_12 (by decide) (by decide) (fun z6 ez6 => ?_)
      refine lv_goto (tgt := 17) hx hb dX3_has_13 (by decide) ?_
      exact hp_zret hx hb hK hN hW hlocks hJ hr (by omega) ⟨rfl, by omega⟩ dX3_has_17
theorem iX3_at_X3 : ∀ w ∈ wsX30, w ∈ wsX3_at := fun _ h => List.mem_cons_of_mem _ (List.mem_append_right _ h)
set_option maxRecDepth 100000 in
set_option maxHeartbeats 4000000 in
theorem c_X3_at (l : Launch) (dC : Nat → ClassId) (dI : Nat → Nat → Nat) (dA : Nat → ClassId) (κ : Nat → Nat) (B : Nat) (g : Nat → Nat → Int) (h0 : Nat) (k0 : κ h0 = 10) (i : Int32) (hi0 : 0 ≤ i.toInt) (hi1 : i.toInt < 12) : Met l yX3_at wsX3_at ({ frames := 0, cells := 0, slots := 0, locals := 0 } : Room) (hp_Pre dC dI dA κ B g [Value.ref h0, Value.int i]) (hp_Qr dC dI dA κ B 9 (fun u => g = u)) 0 0 (hp_A B) := by
  refine Met.ofW (cc := cX3_at) (maxL := 2) (ret := (some (.object "NeighborBook$Neighbor"))) (by decide) rfl ?_
  intro p e s m args below meth c s₁ Bd hml hv
  obtain ⟨rfl, hK, hN, hW, hF⟩ := hv
  have hx := Bd.exec
  have hb := Bd.bytes
  have hr := Bd.returns
  have hts := atoms_spec (ws := wsX3_at) Bd.pre
  have hown : s.vm.findClass RX3 = some m.cls := findClass_of_methodNamed Bd.named
  have hlocks := Bd.notSynchronized
  have hJ : hp_J dC dI dA κ B g s.heap s.heap [] := ⟨hF, va_S.rf⟩
  have hl := lv_entry ([Value.ref h0, Value.int i]) (n := 2) (Nat.le_of_ble_eq_true rfl)
  rw [lg_entry_eq]
  generalize (lg_sl ([Value.ref h0, Value.int i]) ++ List.replicate (2 - (lg_sl ([Value.ref h0, Value.int i])).length) Slot.unset).toArray = ls at hl ⊢
  have hl : lv_has ls 2 [(0, .ref h0), (1, .int i)] := hl
  refine lv_aload_n hx hb dX3_at_0 rfl (lv_at hl 0 rfl) ?_
  refine hp_getr (C := RX3) (T := TX3) (N := 2) (ci := 3) (kd := 10) hx hb hts iX3_at_X3 hown hK hJ k0 rfl rfl 0 (by decide) (hts (.fieldLink RX3 11 "NeighborBook$Neighbors" "rows" "[LNeighborBook$Neighbor;") (List.mem_of_getElem? (i := 1) rfl)) (fun _ h9 => h9) rfl dX3_at_1 (fun b1 kb1 => ?_)
  refine lv_iload_n hx hb dX3_at_4 rfl (lv_at hl 1 rfl) ?_
  refine hp_aald4 (kd := 16) (n := 12) hx hb hK hJ kb1 rfl (by omega) (by omega) rfl dX3_at_5 (fun b2 kb2 => ?_)
  exact hp_aret hx hb hK hN hW hlocks hJ hr kb2 rfl dX3_at_6
theorem iX3_sizeAt_X3 : ∀ w ∈ wsX30, w ∈ wsX3_sizeAt := fun _ h => List.mem_cons_of_mem _ (List.mem_append_left _ (List.mem_append_right _ h))
theorem iX3_sizeAt_X2 : ∀ w ∈ wsX20, w ∈ wsX3_sizeAt := fun _ h => List.mem_cons_of_mem _ (List.mem_append_right _ h)
set_option maxRecDepth 100000 in
set_option maxHeartbeats 4000000 in
theorem c_X3_sizeAt (l : Launch) (dC : Nat → ClassId) (dI : Nat → Nat → Nat) (dA : Nat → ClassId) (κ : Nat → Nat) (B : Nat) (g : Nat → Nat → Int) (h0 : Nat) (k0 : κ h0 = 10) (p1 : Int32) (hG : hg_k g) : Met l yX3_sizeAt wsX3_sizeAt ({ frames := 1, cells := 0, slots := 0, locals := 20 } : Room) (hp_Pre dC dI dA κ B g [Value.ref h0, Value.int p1]) (hp_Qi dC dI dA κ B (fun r u => g = u ∧ (g 10 1 = 0 → r.toInt = 0))) 0 0 (hp_A B) := by
  refine Met.ofW (cc := cX3_sizeAt) (maxL := 4) (ret := (some .int)) (by decide) rfl ?_
  intro p e s m args below meth c s₁ Bd hml hv
  obtain ⟨rfl, hK, hN, hW, hF⟩ := hv
  have hx := Bd.exec
  have hb := Bd.bytes
  have hr := Bd.returns
  have hts := atoms_spec (ws := wsX3_sizeAt) Bd.pre
  have hown : s.vm.findClass RX3 = some m.cls := findClass_of_methodNamed Bd.named
  have hlocks := Bd.notSynchronized
  have hJ : hp_J dC dI dA κ B g s.heap s.heap [] := ⟨hF, va_S.rf⟩
  have hl := lv_entry ([Value.ref h0, Value.int p1]) (n := 4) (Nat.le_of_ble_eq_true rfl)
  rw [lg_entry_eq]
  generalize (lg_sl ([Value.ref h0, Value.int p1]) ++ List.replicate (4 - (lg_sl ([Value.ref h0, Value.int p1])).length) Slot.unset).toArray = ls at hl ⊢
  have hl : lv_has ls 4 [(0, .ref h0), (1, .int p1)] := hl
  obtain ⟨hG1, hG2, hG3, hG4, hG5, hG6, hG7, hG8⟩ := id hG
  refine hq_iconst hx hb dX3_sizeAt_0 (by decide) (by decide) (fun z1 ez1 => ?_)
  refine lv_istore_n (lv' := [(2, .int z1), (0, .ref h0), (1, .int p1)]) hx hb dX3_sizeAt_1 rfl hl (by decide) rfl (fun ls hl => ?_)
  refine hq_iconst hx hb dX3_sizeAt_2 (by decide) (by decide) (fun z2 ez2 => ?_)
  refine lv_istore_n (lv' := [(3, .int z2), (2, .int z1), (0, .ref h0), (1, .int p1)]) hx hb dX3_sizeAt_3 rfl hl (by decide) rfl (fun ls hl => ?_)
  have lp5 : ∀ (nlp5 : Nat) (v3 : Int32) (v4 : Int32) (H : Heap) (locs : List Loc) (ls : Array Slot), (0 ≤ v4.toInt) → (0 ≤ v3.toInt) → (v3.toInt ≤ v4.toInt) → (v4.toInt ≤ g 10 1) → (13 - v4.toInt < (nlp5 : Int)) → hp_J dC dI dA κ B g s.heap H locs → lv_has ls 4 [(0, .ref h0), (1, .int p1), (2, .int v3), (3, .int v4)] → W p l e (headSpec wsX3_sizeAt ({ frames := 1, cells := 0, slots := 0, locals := 20 } : Room)).room s m ([Value.ref h0, Value.int p1] : List Value).toArray below meth c H locs 0 0 (MQ below (hp_Qi dC dI dA κ B (fun r u => g = u ∧ (g 10 1 = 0 → r.toInt = 0))) ([Value.ref h0, Value.int p1] : List Value).toArray s 0 0 (hp_A B)) (F0 m 4 ls []) := by
    intro nlp5
    induction nlp5 with
    | zero => intro v3 v4 H locs ls iv7 iv8 iv9 iv10 hm6 hJ hl; exact absurd hm6 (by omega)
    | succ nlp5 ihlp5 =>
      intro v3 v4 H locs ls iv7 iv8 iv9 iv10 hm6 hJ hl
      refine lv_iload_n hx hb dX3_sizeAt_4 rfl (lv_at hl 3 rfl) ?_
      refine lv_aload_n hx hb dX3_sizeAt_5 rfl (lv_at hl 0 rfl) ?_
      refine hp_geti (C := RX3) (T := TX3) (N := 2) (ci := 3) (kd := 10) hx hb hts iX3_sizeAt_X3 hown hK hJ k0 rfl rfl 1 (by decide) (hts (.fieldLink RX3 18 "NeighborBook$Neighbors" "size" "I") (List.mem_of_getElem? (i := 1) rfl)) (fun _ h9 => h9) rfl rfl dX3_sizeAt_6 (fun x11 ex11 => ?_)
      have ex11 : x11.toInt = g 10 1 := ex11
      refine hq_icmp_ge (tgt := 34) hx hb dX3_sizeAt_9 (by decide) (fun c12 => ?_) (fun c12 => ?_)
      · refine lv_iload_n hx hb dX3_sizeAt_34 rfl (lv_at hl 2 rfl) ?_
        exact hp_iret hx hb hK hN hW hlocks hJ hr ⟨rfl, by omega⟩ dX3_sizeAt_35
      · refine lv_aload_n hx hb dX3_sizeAt_12 rfl (lv_at hl 0 rfl) ?_
        refine hp_getr (C := RX3) (T := TX3) (N := 2) (ci := 3) (kd := 10) hx hb hts iX3_sizeAt_X3 hown hK hJ k0 rfl rfl 0 (by decide) (hts (.fieldLink RX3 11 "NeighborBook$Neighbors" "rows" "[LNeighborBook$Neighbor;") (List.mem_of_getElem? (i := 2) rfl)) (fun _ h9 => h9) rfl dX3_sizeAt_13 (fun b13 kb13 => ?_)
        refine lv_iload_n hx hb dX3_sizeAt_16 rfl (lv_at hl 3 rfl) ?_
        refine hp_aald4 (kd := 16) (n := 12) hx hb hK hJ kb13 rfl (by omega) (by omega) rfl dX3_sizeAt_17 (fun b14 kb14 => ?_)
        refine hp_calli (va_runV (As := []) (rest := []) ⟨hx, hb, hml, hown, hts⟩ (c_X2_portOf l dC dI dA κ B g b14 kb14) (cwV 0 hts gX3_sizeAt_X2_portOf rfl rfl rfl (by decide +kernel) ⟨Nat.le_of_ble_eq_true rfl, Nat.le_of_ble_eq_true rfl⟩) (hp_preV (q := (RX2, TX2, 4)) [] hK hN hW hJ kb14 rfl rfl) rfl rfl hl.1 rfl (lv_room (Nat.le_of_ble_eq_true rfl)) dX3_sizeAt_18 ⟨Nat.zero_le _, Nat.zero_le _⟩) hJ (fun x16 g15 H locs hp hJ => ?_)
        subst hp
        refine lv_iload_n hx hb dX3_sizeAt_21 rfl (lv_at hl 1 rfl) ?_
        refine hq_icmp_ne (tgt := 28) hx hb dX3_sizeAt_22 (by decide) (fun c17 => ?_) (fun c17 => ?_)
        · refine hq_iinc (k := 3) (lv' := fun (z9 : Int32) => [(3, .int z9), (0, .ref h0), (1, .int p1), (2, .int v3)]) hx hb dX3_sizeAt_28 hl rfl (by decide) (by decide) (by omega) (by omega) (by decide) (fun _ => rfl) (fun x18 ls ex18 hl => ?_)
          have hl : lv_has ls 4 [(3, .int x18), (0, .ref h0), (1, .int p1), (2, .int v3)] := hl
          refine lv_goto (tgt := 4) hx hb dX3_sizeAt_31 (by decide) ?_
          exact ihlp5 v3 x18 _ _ ls (by omega) (by omega) (by omega) (by omega) (by omega) hJ (lv_sub hl [1, 2, 3, 0] rfl)
        · refine hq_iinc (k := 2) (lv' := fun (z9 : Int32) => [(2, .int z9), (0, .ref h0), (1, .int p1), (3, .int v4)]) hx hb dX3_sizeAt_25 hl rfl (by decide) (by decide) (by omega) (by omega) (by decide) (fun _ => rfl) (fun x19 ls ex19 hl => ?_)
          have hl : lv_has ls 4 [(2, .int x19), (0, .ref h0), (1, .int p1), (3, .int v4)] := hl
          refine hq_iinc (k := 3) (lv' := fun (z9 : Int32) => [(3, .int z9), (2, .int x19), (0, .ref h0), (1, .int p1)]) hx hb dX3_sizeAt_28 hl rfl (by decide) (by decide) (by omega) (by omega) (by decide) (fun _ => rfl) (fun x20 ls ex20 hl => ?_)
          have hl : lv_has ls 4 [(3, .int x20), (2, .int x19), (0, .ref h0), (1, .int p1)] := hl
          refine lv_goto (tgt := 4) hx hb dX3_sizeAt_31 (by decide) ?_
          exact ihlp5 x19 x20 _ _ ls (by omega) (by omega) (by omega) (by omega) (by omega) hJ (lv_sub hl [2, 3, 1, 0] rfl)
  exact lp5 ((13 - z2.toInt).toNat + 1) z1 z2 _ _ ls (by omega) (by omega) (by omega) (by omega) (by omega) hJ (lv_sub hl [2, 3, 1, 0] rfl)
theorem iX3_find_X3 : ∀ w ∈ wsX30, w ∈ wsX3_find := fun _ h => List.mem_cons_of_mem _ (List.mem_append_left _ (List.mem_append_left _ (List.mem_append_right _ h)))
theorem iX3_find_X2 : ∀ w ∈ wsX20, w ∈ wsX3_find := fun _ h => List.mem_cons_of_mem _ (List.mem_append_left _ (List.mem_append_right _ h))
theorem iX3_find_X0 : ∀ w ∈ wsX00, w ∈ wsX3_find := fun _ h => List.mem_cons_of_mem _ (List.mem_append_right _ h)
set_option maxRecDepth 100000 in
set_option maxHeartbeats 4000000 in
theorem c_X3_find (l : Launch) (dC : Nat → ClassId) (dI : Nat → Nat → Nat) (dA : Nat → ClassId) (κ : Nat → Nat) (B : Nat) (g : Nat → Nat → Int) (h0 : Nat) (k0 : κ h0 = 10) (p1 : Int32) (heard : Nat) (kheard : κ heard = 2) (hG : hg_k g) : Met l yX3_find wsX3_find ({ frames := 3, cells := 0, slots := 0, locals := 68 } : Room) (hp_Pre dC dI dA κ B g [Value.ref h0, Value.int p1, Value.ref heard]) (hp_Qi dC dI dA κ B (fun r u => g = u ∧ -1 ≤ r.toInt ∧ r.toInt < 12 ∧ r.toInt < g 10 1)) 0 0 (hp_A B) := by
  refine Met.ofW (cc := cX3_find) (maxL := 4) (ret := (some .int)) (by decide) rfl ?_
  intro p e s m args below meth c s₁ Bd hml hv
  obtain ⟨rfl, hK, hN, hW, hF⟩ := hv
  have hx := Bd.exec
  have hb := Bd.bytes
  have hr := Bd.returns
  have hts := atoms_spec (ws := wsX3_find) Bd.pre
  have hown : s.vm.findClass RX3 = some m.cls := findClass_of_methodNamed Bd.named
  have hlocks := Bd.notSynchronized
  have hJ : hp_J dC dI dA κ B g s.heap s.heap [] := ⟨hF, va_S.rf⟩
  have hl := lv_entry ([Value.ref h0, Value.int p1, Value.ref heard]) (n := 4) (Nat.le_of_ble_eq_true rfl)
  rw [lg_entry_eq]
  generalize (lg_sl ([Value.ref h0, Value.int p1, Value.ref heard]) ++ List.replicate (4 - (lg_sl ([Value.ref h0, Value.int p1, Value.ref heard])).length) Slot.unset).toArray = ls at hl ⊢
  have hl : lv_has ls 4 [(0, .ref h0), (1, .int p1), (2, .ref heard)] := hl
  obtain ⟨hG1, hG2, hG3, hG4, hG5, hG6, hG7, hG8⟩ := id hG
  refine hq_iconst hx hb dX3_find_0 (by decide) (by decide) (fun z1 ez1 => ?_)
  refine lv_istore_n (lv' := [(3, .int z1), (0, .ref h0), (1, .int p1), (2, .ref heard)]) hx hb dX3_find_1 rfl hl (by decide) rfl (fun ls hl => ?_)
  have lp3 : ∀ (nlp3 : Nat) (v2 : Int32) (H : Heap) (locs : List Loc) (ls : Array Slot), (0 ≤ v2.toInt) → (v2.toInt ≤ 12) → (13 - v2.toInt < (nlp3 : Int)) → hp_J dC dI dA κ B g s.heap H locs → lv_has ls 4 [(0, .ref h0), (1, .int p1), (2, .ref heard), (3, .int v2)] → W p l e (headSpec wsX3_find ({ frames := 3, cells := 0, slots := 0, locals := 68 } : Room)).room s m ([Value.ref h0, Value.int p1, Value.ref heard] : List Value).toArray below meth c H locs 0 0 (MQ below (hp_Qi dC dI dA κ B (fun r u => g = u ∧ -1 ≤ r.toInt ∧ r.toInt < 12 ∧ r.toInt < g 10 1)) ([Value.ref h0, Value.int p1, Value.ref heard] : List Value).toArray s 0 0 (hp_A B)) (F0 m 2 ls []) := by
    intro nlp3
    induction nlp3 with
    | zero => intro v2 H locs ls iv5 iv6 hm4 hJ hl; exact absurd hm4 (by omega)
    | succ nlp3 ihlp3 =>
      intro v2 H locs ls iv5 iv6 hm4 hJ hl
      refine lv_iload_n hx hb dX3_find_2 rfl (lv_at hl 3 rfl) ?_
      refine lv_aload_n hx hb dX3_find_3 rfl (lv_at hl 0 rfl) ?_
      refine hp_geti (C := RX3) (T := TX3) (N := 2) (ci := 3) (kd := 10) hx hb hts iX3_find_X3 hown hK hJ k0 rfl rfl 1 (by decide) (hts (.fieldLink RX3 18 "NeighborBook$Neighbors" "size" "I") (List.mem_of_getElem? (i := 1) rfl)) (fun _ h9 => h9) rfl rfl dX3_find_4 (fun x7 ex7 => ?_)
      have ex7 : x7.toInt = g 10 1 := ex7
      refine hq_icmp_ge (tgt := 47) hx hb dX3_find_7 (by decide) (fun c8 => ?_) (fun c8 => ?_)
      · refine hq_iconst hx hb dX3_find_47 (by decide) (by decide) (fun z9 ez9 => ?_)
        exact hp_iret hx hb hK hN hW hlocks hJ hr ⟨rfl, by omega⟩ dX3_find_48
      · refine lv_aload_n hx hb dX3_find_10 rfl (lv_at hl 0 rfl) ?_
        refine hp_getr (C := RX3) (T := TX3) (N := 2) (ci := 3) (kd := 10) hx hb hts iX3_find_X3 hown hK hJ k0 rfl rfl 0 (by decide) (hts (.fieldLink RX3 11 "NeighborBook$Neighbors" "rows" "[LNeighborBook$Neighbor;") (List.mem_of_getElem? (i := 2) rfl)) (fun _ h9 => h9) rfl dX3_find_11 (fun b10 kb10 => ?_)
        refine lv_iload_n hx hb dX3_find_14 rfl (lv_at hl 3 rfl) ?_
        refine hp_aald4 (kd := 16) (n := 12) hx hb hK hJ kb10 rfl (by omega) (by omega) rfl dX3_find_15 (fun b11 kb11 => ?_)
        refine hp_calli (va_runV (As := []) (rest := []) ⟨hx, hb, hml, hown, hts⟩ (c_X2_portOf l dC dI dA κ B g b11 kb11) (cwV 0 hts gX3_find_X2_portOf rfl rfl rfl (by decide +kernel) ⟨Nat.le_of_ble_eq_true rfl, Nat.le_of_ble_eq_true rfl⟩) (hp_preV (q := (RX2, TX2, 4)) [] hK hN hW hJ kb11 rfl rfl) rfl rfl hl.1 rfl (lv_room (Nat.le_of_ble_eq_true rfl)) dX3_find_16 ⟨Nat.zero_le _, Nat.zero_le _⟩) hJ (fun x13 g12 H locs hp hJ => ?_)
        subst hp
        refine lv_iload_n hx hb dX3_find_19 rfl (lv_at hl 1 rfl) ?_
        refine hq_icmp_ne (tgt := 41) hx hb dX3_find_20 (by decide) (fun c14 => ?_) (fun c14 => ?_)
        · refine hq_iinc (k := 3) (lv' := fun (z9 : Int32) => [(3, .int z9), (0, .ref h0), (1, .int p1), (2, .ref heard)]) hx hb dX3_find_41 hl rfl (by decide) (by decide) (by omega) (by omega) (by decide) (fun _ => rfl) (fun x15 ls ex15 hl => ?_)
          have hl : lv_has ls 4 [(3, .int x15), (0, .ref h0), (1, .int p1), (2, .ref heard)] := hl
          refine lv_goto (tgt := 2) hx hb dX3_find_44 (by decide) ?_
          exact ihlp3 x15 _ _ ls (by omega) (by omega) (by omega) hJ (lv_sub hl [1, 2, 3, 0] rfl)
        · refine lv_aload_n hx hb dX3_find_23 rfl (lv_at hl 0 rfl) ?_
          refine hp_getr (C := RX3) (T := TX3) (N := 2) (ci := 3) (kd := 10) hx hb hts iX3_find_X3 hown hK hJ k0 rfl rfl 0 (by decide) (hts (.fieldLink RX3 11 "NeighborBook$Neighbors" "rows" "[LNeighborBook$Neighbor;") (List.mem_of_getElem? (i := 2) rfl)) (fun _ h9 => h9) rfl dX3_find_24 (fun b16 kb16 => ?_)
          refine lv_iload_n hx hb dX3_find_27 rfl (lv_at hl 3 rfl) ?_
          refine hp_aald4 (kd := 16) (n := 12) hx hb hK hJ kb16 rfl (by omega) (by omega) rfl dX3_find_28 (fun b17 kb17 => ?_)
          refine hp_callr (va_runV (As := []) (rest := []) ⟨hx, hb, hml, hown, hts⟩ (c_X2_contents l dC dI dA κ B g b17 kb17) (cwV 0 hts gX3_find_X2_contents rfl rfl rfl (by decide +kernel) ⟨Nat.le_of_ble_eq_true rfl, Nat.le_of_ble_eq_true rfl⟩) (hp_preV (q := (RX2, TX2, 4)) [] hK hN hW hJ kb17 rfl rfl) rfl rfl hl.1 rfl (lv_room (Nat.le_of_ble_eq_true rfl)) dX3_find_29 ⟨Nat.zero_le _, Nat.zero_le _⟩) hJ (fun b19 g18 H locs kb19 hp hJ => ?_)
          subst hp
          refine lv_aload_n hx hb dX3_find_32 rfl (lv_at hl 2 rfl) ?_
          refine hp_calli (va_runV (As := [.ref heard]) (rest := []) ⟨hx, hb, hml, hown, hts⟩ (c_X0_isSameStation l dC dI dA κ B g b19 kb19 heard kheard) (cwV 1 hts gX3_find_X0_isSameStation rfl rfl rfl (by decide +kernel) ⟨Nat.le_of_ble_eq_true rfl, Nat.le_of_ble_eq_true rfl⟩) (hp_preV (q := (RX0, TX0, 2)) [.ref heard] hK hN hW hJ kb19 rfl rfl) rfl rfl hl.1 rfl (lv_room (Nat.le_of_ble_eq_true rfl)) dX3_find_33 ⟨Nat.zero_le _, Nat.zero_le _⟩) hJ (fun x21 g20 H locs hp hJ => ?_)
          obtain ⟨rfl, f22⟩ := hp
          refine hq_if_eq (tgt := 41) hx hb dX3_find_36 (by decide) (fun c23 => ?_) (fun c23 => ?_)
          · refine hq_iinc (k := 3) (lv' := fun (z9 : Int32) => [(3, .int z9), (0, .ref h0), (1, .int p1), (2, .ref heard)]) hx hb dX3_find_41 hl rfl (by decide) (by decide) (by omega) (by omega) (by decide) (fun _ => rfl) (fun x24 ls ex24 hl => ?_)
            have hl : lv_has ls 4 [(3, .int x24), (0, .ref h0), (1, .int p1), (2, .ref heard)] := hl
            refine lv_goto (tgt := 2) hx hb dX3_find_44 (by decide) ?_
            exact ihlp3 x24 _ _ ls (by omega) (by omega) (by omega) hJ (lv_sub hl [1, 2, 3, 0] rfl)
          · refine lv_iload_n hx hb dX3_find_39 rfl (lv_at hl 3 rfl) ?_
            exact hp_iret hx hb hK hN hW hlocks hJ hr ⟨rfl, by omega⟩ dX3_find_40
  exact lp3 ((13 - z1.toInt).toNat + 1) z1 _ _ ls (by omega) (by omega) (by omega) hJ (lv_sub hl [1, 2, 3, 0] rfl)
theorem iX3_add_X3 : ∀ w ∈ wsX30, w ∈ wsX3_add := fun _ h => List.mem_cons_of_mem _ (List.mem_append_left _ (List.mem_append_right _ h))
theorem iX3_add_X2 : ∀ w ∈ wsX20, w ∈ wsX3_add := fun _ h => List.mem_cons_of_mem _ (List.mem_append_right _ h)
set_option maxRecDepth 100000 in
set_option maxHeartbeats 4000000 in
theorem c_X3_add (l : Launch) (dC : Nat → ClassId) (dI : Nat → Nat → Nat) (dA : Nat → ClassId) (κ : Nat → Nat) (B : Nat) (g : Nat → Nat → Int) (h0 : Nat) (k0 : κ h0 = 10) (p1 : Int32) (hG : hg_k g) : Met l yX3_add wsX3_add ({ frames := 1, cells := 0, slots := 0, locals := 21 } : Room) (hp_Pre dC dI dA κ B g [Value.ref h0, Value.int p1]) (hp_Qi dC dI dA κ B (fun r u => hg_P hx_c g u ∧ hg_k u ∧ -1 ≤ r.toInt ∧ r.toInt < 12)) 0 0 (hp_A B) := by
  refine Met.ofW (cc := cX3_add) (maxL := 3) (ret := (some .int)) (by decide) rfl ?_
  intro p e s m args below meth c s₁ Bd hml hv
  obtain ⟨rfl, hK, hN, hW, hF⟩ := hv
  have hx := Bd.exec
  have hb := Bd.bytes
  have hr := Bd.returns
  have hts := atoms_spec (ws := wsX3_add) Bd.pre
  have hown : s.vm.findClass RX3 = some m.cls := findClass_of_methodNamed Bd.named
  have hlocks := Bd.notSynchronized
  have hJ : hp_J dC dI dA κ B g s.heap s.heap [] := ⟨hF, va_S.rf⟩
  have hl := lv_entry ([Value.ref h0, Value.int p1]) (n := 3) (Nat.le_of_ble_eq_true rfl)
  rw [lg_entry_eq]
  generalize (lg_sl ([Value.ref h0, Value.int p1]) ++ List.replicate (3 - (lg_sl ([Value.ref h0, Value.int p1])).length) Slot.unset).toArray = ls at hl ⊢
  have hl : lv_has ls 3 [(0, .ref h0), (1, .int p1)] := hl
  obtain ⟨hG1, hG2, hG3, hG4, hG5, hG6, hG7, hG8⟩ := id hG
  refine lv_aload_n hx hb dX3_add_0 rfl (lv_at hl 0 rfl) ?_
  refine hp_geti (C := RX3) (T := TX3) (N := 2) (ci := 3) (kd := 10) hx hb hts iX3_add_X3 hown hK hJ k0 rfl rfl 1 (by decide) (hts (.fieldLink RX3 18 "NeighborBook$Neighbors" "size" "I") (List.mem_of_getElem? (i := 1) rfl)) (fun _ h9 => h9) rfl rfl dX3_add_1 (fun x1 ex1 => ?_)
  have ex1 : x1.toInt = g 10 1 := ex1
  refine hq_bipush hx hb dX3_add_4 (by decide) (fun z2 ez2 => ?_)
  refine hq_icmp_lt (tgt := 11) hx hb dX3_add_6 (by decide) (fun c3 => ?_) (fun c3 => ?_)
  · refine lv_aload_n hx hb dX3_add_11 rfl (lv_at hl 0 rfl) ?_
    refine hp_geti (C := RX3) (T := TX3) (N := 2) (ci := 3) (kd := 10) hx hb hts iX3_add_X3 hown hK hJ k0 rfl rfl 1 (by decide) (hts (.fieldLink RX3 18 "NeighborBook$Neighbors" "size" "I") (List.mem_of_getElem? (i := 1) rfl)) (fun _ h9 => h9) rfl rfl dX3_add_12 (fun x4 ex4 => ?_)
    have ex4 : x4.toInt = g 10 1 := ex4
    refine lv_istore_n (lv' := [(2, .int x4), (0, .ref h0), (1, .int p1)]) hx hb dX3_add_15 rfl hl (by decide) rfl (fun ls hl => ?_)
    refine lv_aload_n hx hb dX3_add_16 rfl (lv_at hl 1 rfl) ?_
    refine hp_getr (C := RX3) (T := TX3) (N := 2) (ci := 3) (kd := 10) hx hb hts iX3_add_X3 hown hK hJ k0 rfl rfl 0 (by decide) (hts (.fieldLink RX3 11 "NeighborBook$Neighbors" "rows" "[LNeighborBook$Neighbor;") (List.mem_of_getElem? (i := 2) rfl)) (fun _ h9 => h9) rfl dX3_add_17 (fun b5 kb5 => ?_)
    refine lv_iload_n hx hb dX3_add_20 rfl (lv_at hl 0 rfl) ?_
    refine hp_aald4 (kd := 16) (n := 12) hx hb hK hJ kb5 rfl (by omega) (by omega) rfl dX3_add_21 (fun b6 kb6 => ?_)
    refine lv_iload_n hx hb dX3_add_22 rfl (lv_at hl 2 rfl) ?_
    refine hp_callv (va_runV (As := [.int p1]) (rest := []) ⟨hx, hb, hml, hown, hts⟩ (c_X2_begin l dC dI dA κ B g b6 kb6 p1) (cwV 1 hts gX3_add_X2_begin rfl rfl rfl (by decide +kernel) ⟨Nat.le_of_ble_eq_true rfl, Nat.le_of_ble_eq_true rfl⟩) (hp_preV (q := (RX2, TX2, 4)) [.int p1] hK hN hW hJ kb6 rfl rfl) rfl rfl hl.1 rfl (lv_room (Nat.le_of_ble_eq_true rfl)) dX3_add_23 ⟨Nat.zero_le _, Nat.zero_le _⟩) hJ (fun g7 H locs hp hJ => ?_)
    subst hp
    refine lv_aload_n hx hb dX3_add_26 rfl (lv_at hl 1 rfl) ?_
    refine lv_dup hx hb dX3_add_27 rfl ?_
    refine hp_geti (C := RX3) (T := TX3) (N := 2) (ci := 3) (kd := 10) hx hb hts iX3_add_X3 hown hK hJ k0 rfl rfl 1 (by decide) (hts (.fieldLink RX3 18 "NeighborBook$Neighbors" "size" "I") (List.mem_of_getElem? (i := 1) rfl)) (fun _ h9 => h9) rfl rfl dX3_add_28 (fun x8 ex8 => ?_)
    have ex8 : x8.toInt = g 10 1 := ex8
    refine hq_iconst hx hb dX3_add_31 (by decide) (by decide) (fun z9 ez9 => ?_)
    refine hq_iadd hx hb dX3_add_32 (by omega) (by omega) (fun x10 ex10 => ?_)
    refine hp_putx (C := RX3) (T := TX3) (N := 2) (ci := 3) (kd := 10) hx hb hts iX3_add_X3 hown hK hJ k0 rfl rfl 1 (by decide) (hts (.fieldLink RX3 18 "NeighborBook$Neighbors" "size" "I") (List.mem_of_getElem? (i := 1) rfl)) (fun _ h9 => h9) tyX3 tyX3_ok nmX3 (x := x10) rfl rfl (by decide) hW rfl rfl rfl dX3_add_33 (fun g11 H locs eg11 ng11 hJ => ?_)
    have eg11 : g11 10 1 = x10.toInt := eg11
    have P12 : hg_P hx_c g g11 := hg_P.put hg_P.rf ng11 rfl
    have tt13 : g11 1 1 = g 1 1 := ng11 1 1 (by decide)
    have tt14 : g11 4 1 = g 4 1 := ng11 4 1 (by decide)
    refine lv_iload_n hx hb dX3_add_36 rfl (lv_at hl 0 rfl) ?_
    exact hp_iret hx hb hK hN hW hlocks hJ hr ⟨P12, (hg_k.ofc hG P12 (by constructor <;> omega) (by constructor <;> omega) ), by omega⟩ dX3_add_37
  · refine hq_iconst hx hb dX3_add_9 (by decide) (by decide) (fun z15 ez15 => ?_)
    exact hp_iret hx hb hK hN hW hlocks hJ hr ⟨hg_P.rf, hG, by omega⟩ dX3_add_10
theorem iX3_forget_X3 : ∀ w ∈ wsX30, w ∈ wsX3_forget := fun _ h => List.mem_cons_of_mem _ (List.mem_append_right _ h)
set_option maxRecDepth 100000 in
set_option maxHeartbeats 4000000 in
theorem c_X3_forget (l : Launch) (dC : Nat → ClassId) (dI : Nat → Nat → Nat) (dA : Nat → ClassId) (κ : Nat → Nat) (B : Nat) (g : Nat → Nat → Int) (h0 : Nat) (k0 : κ h0 = 10) (i : Int32) (hG : hg_k g) : Met l yX3_forget wsX3_forget ({ frames := 1, cells := 0, slots := 0, locals := 21 } : Room) (hp_Pre dC dI dA κ B g [Value.ref h0, Value.int i]) (hp_Qv dC dI dA κ B (fun u => hg_P hx_c g u ∧ hg_k u)) 0 0 (hp_A B) := by
  refine Met.ofW (cc := cX3_forget) (maxL := 4) (ret := none) (by decide) rfl ?_
  intro p e s m args below meth c s₁ Bd hml hv
  obtain ⟨rfl, hK, hN, hW, hF⟩ := hv
  have hx := Bd.exec
  have hb := Bd.bytes
  have hr := Bd.returns
  have hts := atoms_spec (ws := wsX3_forget) Bd.pre
  have hown : s.vm.findClass RX3 = some m.cls := findClass_of_methodNamed Bd.named
  have hlocks := Bd.notSynchronized
  have hJ : hp_J dC dI dA κ B g s.heap s.heap [] := ⟨hF, va_S.rf⟩
  have hl := lv_entry ([Value.ref h0, Value.int i]) (n := 4) (Nat.le_of_ble_eq_true rfl)
  rw [lg_entry_eq]
  generalize (lg_sl ([Value.ref h0, Value.int i]) ++ List.replicate (4 - (lg_sl ([Value.ref h0, Value.int i])).length) Slot.unset).toArray = ls at hl ⊢
  have hl : lv_has ls 4 [(0, .ref h0), (1, .int i)] := hl
  obtain ⟨hG1, hG2, hG3, hG4, hG5, hG6, hG7, hG8⟩ := id hG
  refine lv_aload_n hx hb dX3_forget_0 rfl (lv_at hl 0 rfl) ?_
  refine lv_iload_n hx hb dX3_forget_1 rfl (lv_at hl 1 rfl) ?_
  refine hp_calli (va_runV (As := [.int i]) (rest := []) ⟨hx, hb, hml, hown, hts⟩ (c_X3_has l dC dI dA κ B g h0 k0 i) (cwV 1 hts gX3_forget_X3_has rfl rfl rfl (by decide +kernel) ⟨Nat.le_of_ble_eq_true rfl, Nat.le_of_ble_eq_true rfl⟩) (hp_preV (q := (RX3, TX3, 2)) [.int i] hK hN hW hJ k0 rfl rfl) rfl rfl hl.1 rfl (lv_room (Nat.le_of_ble_eq_true rfl)) dX3_forget_2 ⟨Nat.zero_le _, Nat.zero_le _⟩) hJ (fun x2 g1 H locs hp hJ => ?_)
  obtain ⟨rfl, f3⟩ := hp
  refine hq_if_ne (tgt := 9) hx hb dX3_forget_5 (by decide) (fun c4 => ?_) (fun c4 => ?_)
  · refine lv_aload_n hx hb dX3_forget_9 rfl (lv_at hl 0 rfl) ?_
    refine hp_getr (C := RX3) (T := TX3) (N := 2) (ci := 3) (kd := 10) hx hb hts iX3_forget_X3 hown hK hJ k0 rfl rfl 0 (by decide) (hts (.fieldLink RX3 11 "NeighborBook$Neighbors" "rows" "[LNeighborBook$Neighbor;") (List.mem_of_getElem? (i := 1) rfl)) (fun _ h9 => h9) rfl dX3_forget_10 (fun b5 kb5 => ?_)
    refine lv_iload_n hx hb dX3_forget_13 rfl (lv_at hl 1 rfl) ?_
    refine hp_aald4 (kd := 16) (n := 12) hx hb hK hJ kb5 rfl (by omega) (by omega) rfl dX3_forget_14 (fun b6 kb6 => ?_)
    refine lv_astore_n (lv' := [(2, .ref b6), (0, .ref h0), (1, .int i)]) hx hb dX3_forget_15 rfl hl (by decide) rfl (fun ls hl => ?_)
    refine lv_aload_n hx hb dX3_forget_16 rfl (lv_at hl 1 rfl) ?_
    refine lv_dup hx hb dX3_forget_17 rfl ?_
    refine hp_geti (C := RX3) (T := TX3) (N := 2) (ci := 3) (kd := 10) hx hb hts iX3_forget_X3 hown hK hJ k0 rfl rfl 1 (by decide) (hts (.fieldLink RX3 18 "NeighborBook$Neighbors" "size" "I") (List.mem_of_getElem? (i := 2) rfl)) (fun _ h9 => h9) rfl rfl dX3_forget_18 (fun x7 ex7 => ?_)
    have ex7 : x7.toInt = g 10 1 := ex7
    refine hq_iconst hx hb dX3_forget_21 (by decide) (by decide) (fun z8 ez8 => ?_)
    refine hq_isub hx hb dX3_forget_22 (by omega) (by omega) (fun x9 ex9 => ?_)
    refine hp_putx (C := RX3) (T := TX3) (N := 2) (ci := 3) (kd := 10) hx hb hts iX3_forget_X3 hown hK hJ k0 rfl rfl 1 (by decide) (hts (.fieldLink RX3 18 "NeighborBook$Neighbors" "size" "I") (List.mem_of_getElem? (i := 2) rfl)) (fun _ h9 => h9) tyX3 tyX3_ok nmX3 (x := x9) rfl rfl (by decide) hW rfl rfl rfl dX3_forget_23 (fun g10 H locs eg10 ng10 hJ => ?_)
    have eg10 : g10 10 1 = x9.toInt := eg10
    have P11 : hg_P hx_c g g10 := hg_P.put hg_P.rf ng10 rfl
    have tt12 : g10 1 1 = g 1 1 := ng10 1 1 (by decide)
    have tt13 : g10 4 1 = g 4 1 := ng10 4 1 (by decide)
    refine lv_iload_n hx hb dX3_forget_26 rfl (lv_at hl 2 rfl) ?_
    refine lv_istore_n (lv' := [(3, .int i), (2, .ref b6), (0, .ref h0), (1, .int i)]) hx hb dX3_forget_27 rfl hl (by decide) rfl (fun ls hl => ?_)
    have lp15 : ∀ (nlp15 : Nat) (v14 : Int32) (H : Heap) (locs : List Loc) (ls : Array Slot), (0 ≤ v14.toInt) → (v14.toInt ≤ 12) → (13 - v14.toInt < (nlp15 : Int)) → hp_J dC dI dA κ B g10 s.heap H locs → lv_has ls 4 [(0, .ref h0), (1, .int i), (2, .ref b6), (3, .int v14)] → W p l e (headSpec wsX3_forget ({ frames := 1, cells := 0, slots := 0, locals := 21 } : Room)).room s m ([Value.ref h0, Value.int i] : List Value).toArray below meth c H locs 0 0 (MQ below (hp_Qv dC dI dA κ B (fun u => hg_P hx_c g u ∧ hg_k u)) ([Value.ref h0, Value.int i] : List Value).toArray s 0 0 (hp_A B)) (F0 m 28 ls []) := by
      intro nlp15
      induction nlp15 with
      | zero => intro v14 H locs ls iv17 iv18 hm16 hJ hl; exact absurd hm16 (by omega)
      | succ nlp15 ihlp15 =>
        intro v14 H locs ls iv17 iv18 hm16 hJ hl
        refine lv_iload_n hx hb dX3_forget_28 rfl (lv_at hl 3 rfl) ?_
        refine lv_aload_n hx hb dX3_forget_29 rfl (lv_at hl 0 rfl) ?_
        refine hp_geti (C := RX3) (T := TX3) (N := 2) (ci := 3) (kd := 10) hx hb hts iX3_forget_X3 hown hK hJ k0 rfl rfl 1 (by decide) (hts (.fieldLink RX3 18 "NeighborBook$Neighbors" "size" "I") (List.mem_of_getElem? (i := 2) rfl)) (fun _ h9 => h9) rfl rfl dX3_forget_30 (fun x19 ex19 => ?_)
        have ex19 : x19.toInt = g10 10 1 := ex19
        refine hq_icmp_ge (tgt := 56) hx hb dX3_forget_33 (by decide) (fun c20 => ?_) (fun c20 => ?_)
        · refine lv_aload_n hx hb dX3_forget_56 rfl (lv_at hl 0 rfl) ?_
          refine hp_getr (C := RX3) (T := TX3) (N := 2) (ci := 3) (kd := 10) hx hb hts iX3_forget_X3 hown hK hJ k0 rfl rfl 0 (by decide) (hts (.fieldLink RX3 11 "NeighborBook$Neighbors" "rows" "[LNeighborBook$Neighbor;") (List.mem_of_getElem? (i := 1) rfl)) (fun _ h9 => h9) rfl dX3_forget_57 (fun b21 kb21 => ?_)
          refine lv_aload_n hx hb dX3_forget_60 rfl (lv_at hl 0 rfl) ?_
          refine hp_geti (C := RX3) (T := TX3) (N := 2) (ci := 3) (kd := 10) hx hb hts iX3_forget_X3 hown hK hJ k0 rfl rfl 1 (by decide) (hts (.fieldLink RX3 18 "NeighborBook$Neighbors" "size" "I") (List.mem_of_getElem? (i := 2) rfl)) (fun _ h9 => h9) rfl rfl dX3_forget_61 (fun x22 ex22 => ?_)
          have ex22 : x22.toInt = g10 10 1 := ex22
          refine lv_aload_n hx hb dX3_forget_64 rfl (lv_at hl 2 rfl) ?_
          refine hp_aast4 (kd := 16) (n := 12) (q := (RX2, TX2, 4)) hx hb hK hJ kb21 rfl (by omega) (by omega) (by decide) hW rfl kb6 rfl rfl rfl dX3_forget_65 (fun H locs hJ => ?_)
          exact hp_vret hx hb hK hN hW hlocks hJ hr ⟨P11, (hg_k.ofc hG P11 (by constructor <;> omega) (by constructor <;> omega) )⟩ dX3_forget_66
        · refine lv_aload_n hx hb dX3_forget_36 rfl (lv_at hl 0 rfl) ?_
          refine hp_getr (C := RX3) (T := TX3) (N := 2) (ci := 3) (kd := 10) hx hb hts iX3_forget_X3 hown hK hJ k0 rfl rfl 0 (by decide) (hts (.fieldLink RX3 11 "NeighborBook$Neighbors" "rows" "[LNeighborBook$Neighbor;") (List.mem_of_getElem? (i := 1) rfl)) (fun _ h9 => h9) rfl dX3_forget_37 (fun b23 kb23 => ?_)
          refine lv_iload_n hx hb dX3_forget_40 rfl (lv_at hl 3 rfl) ?_
          refine lv_aload_n hx hb dX3_forget_41 rfl (lv_at hl 0 rfl) ?_
          refine hp_getr (C := RX3) (T := TX3) (N := 2) (ci := 3) (kd := 10) hx hb hts iX3_forget_X3 hown hK hJ k0 rfl rfl 0 (by decide) (hts (.fieldLink RX3 11 "NeighborBook$Neighbors" "rows" "[LNeighborBook$Neighbor;") (List.mem_of_getElem? (i := 1) rfl)) (fun _ h9 => h9) rfl dX3_forget_42 (fun b24 kb24 => ?_)
          refine lv_iload_n hx hb dX3_forget_45 rfl (lv_at hl 3 rfl) ?_
          refine hq_iconst hx hb dX3_forget_46 (by decide) (by decide) (fun z25 ez25 => ?_)
          refine hq_iadd hx hb dX3_forget_47 (by omega) (by omega) (fun x26 ex26 => ?_)
          refine hp_aald4 (kd := 16) (n := 12) hx hb hK hJ kb24 rfl (by omega) (by omega) rfl dX3_forget_48 (fun b27 kb27 => ?_)
          refine hp_aast4 (kd := 16) (n := 12) (q := (RX2, TX2, 4)) hx hb hK hJ kb23 rfl (by omega) (by omega) (by decide) hW rfl kb27 rfl rfl rfl dX3_forget_49 (fun H locs hJ => ?_)
          refine hq_iinc (k := 3) (lv' := fun (z9 : Int32) => [(3, .int z9), (0, .ref h0), (1, .int i), (2, .ref b6)]) hx hb dX3_forget_50 hl rfl (by decide) (by decide) (by omega) (by omega) (by decide) (fun _ => rfl) (fun x28 ls ex28 hl => ?_)
          have hl : lv_has ls 4 [(3, .int x28), (0, .ref h0), (1, .int i), (2, .ref b6)] := hl
          refine lv_goto (tgt := 28) hx hb dX3_forget_53 (by decide) ?_
          exact ihlp15 x28 _ _ ls (by omega) (by omega) (by omega) hJ (lv_sub hl [1, 2, 3, 0] rfl)
    exact lp15 ((13 - i.toInt).toNat + 1) i _ _ ls (by omega) (by omega) (by omega) hJ (lv_sub hl [2, 3, 1, 0] rfl)
  · exact hp_vret hx hb hK hN hW hlocks hJ hr ⟨hg_P.rf, hG⟩ dX3_forget_8
theorem iX3_forgetAllAt_X3 : ∀ w ∈ wsX30, w ∈ wsX3_forgetAllAt := fun _ h => List.mem_cons_of_mem _ (List.mem_append_left _ (List.mem_append_right _ h))
theorem iX3_forgetAllAt_X2 : ∀ w ∈ wsX20, w ∈ wsX3_forgetAllAt := fun _ h => List.mem_cons_of_mem _ (List.mem_append_right _ h)
set_option maxRecDepth 100000 in
set_option maxHeartbeats 4000000 in
theorem c_X3_forgetAllAt (l : Launch) (dC : Nat → ClassId) (dI : Nat → Nat → Nat) (dA : Nat → ClassId) (κ : Nat → Nat) (B : Nat) (g : Nat → Nat → Int) (h0 : Nat) (k0 : κ h0 = 10) (p1 : Int32) (hG : hg_k g) : Met l yX3_forgetAllAt wsX3_forgetAllAt ({ frames := 2, cells := 0, slots := 0, locals := 44 } : Room) (hp_Pre dC dI dA κ B g [Value.ref h0, Value.int p1]) (hp_Qv dC dI dA κ B (fun u => hg_P hx_c g u ∧ hg_k u)) 0 0 (hp_A B) := by
  refine Met.ofW (cc := cX3_forgetAllAt) (maxL := 3) (ret := none) (by decide) rfl ?_
  intro p e s m args below meth c s₁ Bd hml hv
  obtain ⟨rfl, hK, hN, hW, hF⟩ := hv
  have hx := Bd.exec
  have hb := Bd.bytes
  have hr := Bd.returns
  have hts := atoms_spec (ws := wsX3_forgetAllAt) Bd.pre
  have hown : s.vm.findClass RX3 = some m.cls := findClass_of_methodNamed Bd.named
  have hlocks := Bd.notSynchronized
  have hJ : hp_J dC dI dA κ B g s.heap s.heap [] := ⟨hF, va_S.rf⟩
  have hl := lv_entry ([Value.ref h0, Value.int p1]) (n := 3) (Nat.le_of_ble_eq_true rfl)
  rw [lg_entry_eq]
  generalize (lg_sl ([Value.ref h0, Value.int p1]) ++ List.replicate (3 - (lg_sl ([Value.ref h0, Value.int p1])).length) Slot.unset).toArray = ls at hl ⊢
  have hl : lv_has ls 3 [(0, .ref h0), (1, .int p1)] := hl
  obtain ⟨hG1, hG2, hG3, hG4, hG5, hG6, hG7, hG8⟩ := id hG
  refine lv_aload_n hx hb dX3_forgetAllAt_0 rfl (lv_at hl 0 rfl) ?_
  refine hp_geti (C := RX3) (T := TX3) (N := 2) (ci := 3) (kd := 10) hx hb hts iX3_forgetAllAt_X3 hown hK hJ k0 rfl rfl 1 (by decide) (hts (.fieldLink RX3 18 "NeighborBook$Neighbors" "size" "I") (List.mem_of_getElem? (i := 1) rfl)) (fun _ h9 => h9) rfl rfl dX3_forgetAllAt_1 (fun x1 ex1 => ?_)
  have ex1 : x1.toInt = g 10 1 := ex1
  refine hq_iconst hx hb dX3_forgetAllAt_4 (by decide) (by decide) (fun z2 ez2 => ?_)
  refine hq_isub hx hb dX3_forgetAllAt_5 (by omega) (by omega) (fun x3 ex3 => ?_)
  refine lv_istore_n (lv' := [(2, .int x3), (0, .ref h0), (1, .int p1)]) hx hb dX3_forgetAllAt_6 rfl hl (by decide) rfl (fun ls hl => ?_)
  have lp6 : ∀ (nlp6 : Nat) (v4 : Int32) (g5 : Nat → Nat → Int) (H : Heap) (locs : List Loc) (ls : Array Slot), (hg_P hx_c g g5) → (hg_k g5) → (-1 ≤ v4.toInt) → (v4.toInt < 12) → (v4.toInt + 2 < (nlp6 : Int)) → hp_J dC dI dA κ B g5 s.heap H locs → lv_has ls 3 [(0, .ref h0), (1, .int p1), (2, .int v4)] → W p l e (headSpec wsX3_forgetAllAt ({ frames := 2, cells := 0, slots := 0, locals := 44 } : Room)).room s m ([Value.ref h0, Value.int p1] : List Value).toArray below meth c H locs 0 0 (MQ below (hp_Qv dC dI dA κ B (fun u => hg_P hx_c g u ∧ hg_k u)) ([Value.ref h0, Value.int p1] : List Value).toArray s 0 0 (hp_A B)) (F0 m 7 ls []) := by
    intro nlp6
    induction nlp6 with
    | zero => intro v4 g5 H locs ls iv8 iv9 iv10 iv11 hm7 hJ hl; exact absurd hm7 (by omega)
    | succ nlp6 ihlp6 =>
      intro v4 g5 H locs ls iv8 iv9 iv10 iv11 hm7 hJ hl
      obtain ⟨hG1, hG2, hG3, hG4, hG5, hG6, hG7, hG8⟩ := id iv9
      refine lv_iload_n hx hb dX3_forgetAllAt_7 rfl (lv_at hl 2 rfl) ?_
      refine hq_if_lt (tgt := 35) hx hb dX3_forgetAllAt_8 (by decide) (fun c12 => ?_) (fun c12 => ?_)
      · exact hp_vret hx hb hK hN hW hlocks hJ hr ⟨iv8, iv9⟩ dX3_forgetAllAt_35
      · refine lv_aload_n hx hb dX3_forgetAllAt_11 rfl (lv_at hl 0 rfl) ?_
        refine hp_getr (C := RX3) (T := TX3) (N := 2) (ci := 3) (kd := 10) hx hb hts iX3_forgetAllAt_X3 hown hK hJ k0 rfl rfl 0 (by decide) (hts (.fieldLink RX3 11 "NeighborBook$Neighbors" "rows" "[LNeighborBook$Neighbor;") (List.mem_of_getElem? (i := 2) rfl)) (fun _ h9 => h9) rfl dX3_forgetAllAt_12 (fun b13 kb13 => ?_)
        refine lv_iload_n hx hb dX3_forgetAllAt_15 rfl (lv_at hl 2 rfl) ?_
        refine hp_aald4 (kd := 16) (n := 12) hx hb hK hJ kb13 rfl (by omega) (by omega) rfl dX3_forgetAllAt_16 (fun b14 kb14 => ?_)
        refine hp_calli (va_runV (As := []) (rest := []) ⟨hx, hb, hml, hown, hts⟩ (c_X2_portOf l dC dI dA κ B g5 b14 kb14) (cwV 0 hts gX3_forgetAllAt_X2_portOf rfl rfl rfl (by decide +kernel) ⟨Nat.le_of_ble_eq_true rfl, Nat.le_of_ble_eq_true rfl⟩) (hp_preV (q := (RX2, TX2, 4)) [] hK hN hW hJ kb14 rfl rfl) rfl rfl hl.1 rfl (lv_room (Nat.le_of_ble_eq_true rfl)) dX3_forgetAllAt_17 ⟨Nat.zero_le _, Nat.zero_le _⟩) hJ (fun x16 g15 H locs hp hJ => ?_)
        subst hp
        refine lv_iload_n hx hb dX3_forgetAllAt_20 rfl (lv_at hl 1 rfl) ?_
        refine hq_icmp_ne (tgt := 29) hx hb dX3_forgetAllAt_21 (by decide) (fun c17 => ?_) (fun c17 => ?_)
        · refine hq_iinc (k := 2) (lv' := fun (z9 : Int32) => [(2, .int z9), (0, .ref h0), (1, .int p1)]) hx hb dX3_forgetAllAt_29 hl rfl (by decide) (by decide) (by omega) (by omega) (by decide) (fun _ => rfl) (fun x18 ls ex18 hl => ?_)
          have hl : lv_has ls 3 [(2, .int x18), (0, .ref h0), (1, .int p1)] := hl
          refine lv_goto (tgt := 7) hx hb dX3_forgetAllAt_32 (by decide) ?_
          exact ihlp6 x18 g5 _ _ ls iv8 iv9 (by omega) (by omega) (by omega) hJ (lv_sub hl [1, 2, 0] rfl)
        · refine lv_aload_n hx hb dX3_forgetAllAt_24 rfl (lv_at hl 0 rfl) ?_
          refine lv_iload_n hx hb dX3_forgetAllAt_25 rfl (lv_at hl 2 rfl) ?_
          refine hp_callv (va_runV (As := [.int v4]) (rest := []) ⟨hx, hb, hml, hown, hts⟩ (c_X3_forget l dC dI dA κ B g5 h0 k0 v4 iv9) (cwV 1 hts gX3_forgetAllAt_X3_forget rfl rfl rfl (by decide +kernel) ⟨Nat.le_of_ble_eq_true rfl, Nat.le_of_ble_eq_true rfl⟩) (hp_preV (q := (RX3, TX3, 2)) [.int v4] hK hN hW hJ k0 rfl rfl) rfl rfl hl.1 rfl (lv_room (Nat.le_of_ble_eq_true rfl)) dX3_forgetAllAt_26 ⟨Nat.zero_le _, Nat.zero_le _⟩) hJ (fun g19 H locs hp hJ => ?_)
          obtain ⟨P21a, K22⟩ := hp
          obtain ⟨K221, K222, K223, K224, K225, K226, K227, K228⟩ := id K22
          have P21 : hg_P hx_c g g19 := hg_P.tr iv8 P21a
          have qt23 : g19 1 1 = g5 1 1 := P21a 1 1 rfl
          have qt24 : g19 11 1 = g5 11 1 := P21a 11 1 rfl
          have qt25 : g19 11 13 = g5 11 13 := P21a 11 13 rfl
          have qt26 : g19 11 22 = g5 11 22 := P21a 11 22 rfl
          refine hq_iinc (k := 2) (lv' := fun (z9 : Int32) => [(2, .int z9), (0, .ref h0), (1, .int p1)]) hx hb dX3_forgetAllAt_29 hl rfl (by decide) (by decide) (by omega) (by omega) (by decide) (fun _ => rfl) (fun x27 ls ex27 hl => ?_)
          have hl : lv_has ls 3 [(2, .int x27), (0, .ref h0), (1, .int p1)] := hl
          refine lv_goto (tgt := 7) hx hb dX3_forgetAllAt_32 (by decide) ?_
          exact ihlp6 x27 g19 _ _ ls P21 K22 (by omega) (by omega) (by omega) hJ (lv_sub hl [1, 2, 0] rfl)
  exact lp6 ((x3.toInt + 2).toNat + 1) x3 g _ _ ls hg_P.rf hG (by omega) (by omega) (by omega) hJ (lv_sub hl [1, 2, 0] rfl)
theorem iX3_passTick_X3 : ∀ w ∈ wsX30, w ∈ wsX3_passTick := fun _ h => List.mem_cons_of_mem _ (List.mem_append_left _ (List.mem_append_right _ h))
theorem iX3_passTick_X2 : ∀ w ∈ wsX20, w ∈ wsX3_passTick := fun _ h => List.mem_cons_of_mem _ (List.mem_append_right _ h)
set_option maxRecDepth 100000 in
set_option maxHeartbeats 4000000 in
theorem c_X3_passTick (l : Launch) (dC : Nat → ClassId) (dI : Nat → Nat → Nat) (dA : Nat → ClassId) (κ : Nat → Nat) (B : Nat) (g : Nat → Nat → Int) (h0 : Nat) (k0 : κ h0 = 10) (hG : hg_k g) : Met l yX3_passTick wsX3_passTick ({ frames := 2, cells := 0, slots := 0, locals := 44 } : Room) (hp_Pre dC dI dA κ B g [Value.ref h0]) (hp_Qv dC dI dA κ B (fun u => hg_P hx_c g u ∧ hg_k u)) 0 0 (hp_A B) := by
  refine Met.ofW (cc := cX3_passTick) (maxL := 2) (ret := none) (by decide) rfl ?_
  intro p e s m args below meth c s₁ Bd hml hv
  obtain ⟨rfl, hK, hN, hW, hF⟩ := hv
  have hx := Bd.exec
  have hb := Bd.bytes
  have hr := Bd.returns
  have hts := atoms_spec (ws := wsX3_passTick) Bd.pre
  have hown : s.vm.findClass RX3 = some m.cls := findClass_of_methodNamed Bd.named
  have hlocks := Bd.notSynchronized
  have hJ : hp_J dC dI dA κ B g s.heap s.heap [] := ⟨hF, va_S.rf⟩
  have hl := lv_entry ([Value.ref h0]) (n := 2) (Nat.le_of_ble_eq_true rfl)
  rw [lg_entry_eq]
  generalize (lg_sl ([Value.ref h0]) ++ List.replicate (2 - (lg_sl ([Value.ref h0])).length) Slot.unset).toArray = ls at hl ⊢
  have hl : lv_has ls 2 [(0, .ref h0)] := hl
  obtain ⟨hG1, hG2, hG3, hG4, hG5, hG6, hG7, hG8⟩ := id hG
  refine lv_aload_n hx hb dX3_passTick_0 rfl (lv_at hl 0 rfl) ?_
  refine hp_geti (C := RX3) (T := TX3) (N := 2) (ci := 3) (kd := 10) hx hb hts iX3_passTick_X3 hown hK hJ k0 rfl rfl 1 (by decide) (hts (.fieldLink RX3 18 "NeighborBook$Neighbors" "size" "I") (List.mem_of_getElem? (i := 1) rfl)) (fun _ h9 => h9) rfl rfl dX3_passTick_1 (fun x1 ex1 => ?_)
  have ex1 : x1.toInt = g 10 1 := ex1
  refine hq_iconst hx hb dX3_passTick_4 (by decide) (by decide) (fun z2 ez2 => ?_)
  refine hq_isub hx hb dX3_passTick_5 (by omega) (by omega) (fun x3 ex3 => ?_)
  refine lv_istore_n (lv' := [(1, .int x3), (0, .ref h0)]) hx hb dX3_passTick_6 rfl hl (by decide) rfl (fun ls hl => ?_)
  have lp6 : ∀ (nlp6 : Nat) (v4 : Int32) (g5 : Nat → Nat → Int) (H : Heap) (locs : List Loc) (ls : Array Slot), (hg_P hx_c g g5) → (hg_k g5) → (-1 ≤ v4.toInt) → (v4.toInt < 12) → (v4.toInt + 2 < (nlp6 : Int)) → hp_J dC dI dA κ B g5 s.heap H locs → lv_has ls 2 [(0, .ref h0), (1, .int v4)] → W p l e (headSpec wsX3_passTick ({ frames := 2, cells := 0, slots := 0, locals := 44 } : Room)).room s m ([Value.ref h0] : List Value).toArray below meth c H locs 0 0 (MQ below (hp_Qv dC dI dA κ B (fun u => hg_P hx_c g u ∧ hg_k u)) ([Value.ref h0] : List Value).toArray s 0 0 (hp_A B)) (F0 m 7 ls []) := by
    intro nlp6
    induction nlp6 with
    | zero => intro v4 g5 H locs ls iv8 iv9 iv10 iv11 hm7 hJ hl; exact absurd hm7 (by omega)
    | succ nlp6 ihlp6 =>
      intro v4 g5 H locs ls iv8 iv9 iv10 iv11 hm7 hJ hl
      obtain ⟨hG1, hG2, hG3, hG4, hG5, hG6, hG7, hG8⟩ := id iv9
      refine lv_iload_n hx hb dX3_passTick_7 rfl (lv_at hl 1 rfl) ?_
      refine hq_if_lt (tgt := 34) hx hb dX3_passTick_8 (by decide) (fun c12 => ?_) (fun c12 => ?_)
      · exact hp_vret hx hb hK hN hW hlocks hJ hr ⟨iv8, iv9⟩ dX3_passTick_34
      · refine lv_aload_n hx hb dX3_passTick_11 rfl (lv_at hl 0 rfl) ?_
        refine hp_getr (C := RX3) (T := TX3) (N := 2) (ci := 3) (kd := 10) hx hb hts iX3_passTick_X3 hown hK hJ k0 rfl rfl 0 (by decide) (hts (.fieldLink RX3 11 "NeighborBook$Neighbors" "rows" "[LNeighborBook$Neighbor;") (List.mem_of_getElem? (i := 2) rfl)) (fun _ h9 => h9) rfl dX3_passTick_12 (fun b13 kb13 => ?_)
        refine lv_iload_n hx hb dX3_passTick_15 rfl (lv_at hl 1 rfl) ?_
        refine hp_aald4 (kd := 16) (n := 12) hx hb hK hJ kb13 rfl (by omega) (by omega) rfl dX3_passTick_16 (fun b14 kb14 => ?_)
        refine hp_calli (va_runV (As := []) (rest := []) ⟨hx, hb, hml, hown, hts⟩ (c_X2_passTick l dC dI dA κ B g5 b14 kb14) (cwV 0 hts gX3_passTick_X2_passTick rfl rfl rfl (by decide +kernel) ⟨Nat.le_of_ble_eq_true rfl, Nat.le_of_ble_eq_true rfl⟩) (hp_preV (q := (RX2, TX2, 4)) [] hK hN hW hJ kb14 rfl rfl) rfl rfl hl.1 rfl (lv_room (Nat.le_of_ble_eq_true rfl)) dX3_passTick_17 ⟨Nat.zero_le _, Nat.zero_le _⟩) hJ (fun x16 g15 H locs hp hJ => ?_)
        obtain ⟨rfl, f17⟩ := hp
        refine hq_if_eq (tgt := 28) hx hb dX3_passTick_20 (by decide) (fun c18 => ?_) (fun c18 => ?_)
        · refine hq_iinc (k := 1) (lv' := fun (z9 : Int32) => [(1, .int z9), (0, .ref h0)]) hx hb dX3_passTick_28 hl rfl (by decide) (by decide) (by omega) (by omega) (by decide) (fun _ => rfl) (fun x19 ls ex19 hl => ?_)
          have hl : lv_has ls 2 [(1, .int x19), (0, .ref h0)] := hl
          refine lv_goto (tgt := 7) hx hb dX3_passTick_31 (by decide) ?_
          exact ihlp6 x19 g5 _ _ ls iv8 iv9 (by omega) (by omega) (by omega) hJ (lv_sub hl [1, 0] rfl)
        · refine lv_aload_n hx hb dX3_passTick_23 rfl (lv_at hl 0 rfl) ?_
          refine lv_iload_n hx hb dX3_passTick_24 rfl (lv_at hl 1 rfl) ?_
          refine hp_callv (va_runV (As := [.int v4]) (rest := []) ⟨hx, hb, hml, hown, hts⟩ (c_X3_forget l dC dI dA κ B g5 h0 k0 v4 iv9) (cwV 1 hts gX3_passTick_X3_forget rfl rfl rfl (by decide +kernel) ⟨Nat.le_of_ble_eq_true rfl, Nat.le_of_ble_eq_true rfl⟩) (hp_preV (q := (RX3, TX3, 2)) [.int v4] hK hN hW hJ k0 rfl rfl) rfl rfl hl.1 rfl (lv_room (Nat.le_of_ble_eq_true rfl)) dX3_passTick_25 ⟨Nat.zero_le _, Nat.zero_le _⟩) hJ (fun g20 H locs hp hJ => ?_)
          obtain ⟨P22a, K23⟩ := hp
          obtain ⟨K231, K232, K233, K234, K235, K236, K237, K238⟩ := id K23
          have P22 : hg_P hx_c g g20 := hg_P.tr iv8 P22a
          have qt24 : g20 1 1 = g5 1 1 := P22a 1 1 rfl
          have qt25 : g20 11 1 = g5 11 1 := P22a 11 1 rfl
          have qt26 : g20 11 13 = g5 11 13 := P22a 11 13 rfl
          have qt27 : g20 11 22 = g5 11 22 := P22a 11 22 rfl
          refine hq_iinc (k := 1) (lv' := fun (z9 : Int32) => [(1, .int z9), (0, .ref h0)]) hx hb dX3_passTick_28 hl rfl (by decide) (by decide) (by omega) (by omega) (by decide) (fun _ => rfl) (fun x28 ls ex28 hl => ?_)
          have hl : lv_has ls 2 [(1, .int x28), (0, .ref h0)] := hl
          refine lv_goto (tgt := 7) hx hb dX3_passTick_31 (by decide) ?_
          exact ihlp6 x28 g20 _ _ ls P22 K23 (by omega) (by omega) (by omega) hJ (lv_sub hl [1, 0] rfl)
  exact lp6 ((x3.toInt + 2).toNat + 1) x3 g _ _ ls hg_P.rf hG (by omega) (by omega) (by omega) hJ (lv_sub hl [1, 0] rfl)
