theorem iX3_size_X3 : ∀ w ∈ wsX30, w ∈ wsX3_size := fun _ h => List.mem_cons_of_mem _ (List.mem_append_right _ h)
set_option maxRecDepth 100000 in
set_option maxHeartbeats 4000000 in
theorem e_X3_size (l : Launch) (dC : Nat → ClassId) (dI : Nat → Nat → Nat) (dA : Nat → ClassId) (κ : Nat → Nat) (B : Nat) (g : Nat → Nat → Int) (h0 : Nat) (k0 : κ h0 = 10) : Met l yX3_size wsX3_size ({ frames := 0, cells := 0, slots := 0, locals := 0 } : Room) (he_Pre dC dI dA κ B g [Value.ref h0]) (he_Qi dC dI dA κ B (fun r u => g = u ∧ r.toInt = g 10 1 ∧ 0 ≤ r.toInt ∧ r.toInt ≤ 12)) 0 0 (hp_A B) := by
  refine Met.ofW (cc := cX3_size) (maxL := 1) (ret := (some .int)) (by decide) rfl ?_
  intro p e s m args below meth c s₁ Bd hml hv
  obtain ⟨rfl, hK, hN, hW, hF⟩ := hv
  have hx := Bd.exec
  have hb := Bd.bytes
  have hr := Bd.returns
  have hts := atoms_spec (ws := wsX3_size) Bd.pre
  have hown : s.vm.findClass RX3 = some m.cls := findClass_of_methodNamed Bd.named
  have hlocks := Bd.notSynchronized
  have hJ : he_J dC dI dA κ B g s.heap s.heap [] := ⟨hF, va_S.rf⟩
  have hl := lv_entry ([Value.ref h0]) (n := 1) (Nat.le_of_ble_eq_true rfl)
  rw [lg_entry_eq]
  generalize (lg_sl ([Value.ref h0]) ++ List.replicate (1 - (lg_sl ([Value.ref h0])).length) Slot.unset).toArray = ls at hl ⊢
  have hl : lv_has ls 1 [(0, .ref h0)] := hl
  refine lv_aload_n hx hb dX3_size_0 rfl (lv_at hl 0 rfl) ?_
  refine he_geti (C := RX3) (T := TX3) (N := 2) (ci := 3) (kd := 10) hx hb hts iX3_size_X3 hown hK hJ k0 rfl rfl 1 (by decide) (hts (.fieldLink RX3 18 "NeighborBook$Neighbors" "size" "I") (List.mem_of_getElem? (i := 1) rfl)) (fun _ h9 => h9) rfl rfl dX3_size_1 (fun x1 ex1 => ?_)
  have ex1 : x1.toInt = g 10 1 ∧ 0 ≤ x1.toInt ∧ x1.toInt ≤ 12 := ex1
  exact he_iret hx hb hK hN hW hlocks hJ hr ⟨rfl, by omega⟩ dX3_size_4
theorem iX3_has_X3 : ∀ w ∈ wsX30, w ∈ wsX3_has := fun _ h => List.mem_cons_of_mem _ (List.mem_append_right _ h)
set_option maxRecDepth 100000 in
set_option maxHeartbeats 4000000 in
theorem e_X3_has (l : Launch) (dC : Nat → ClassId) (dI : Nat → Nat → Nat) (dA : Nat → ClassId) (κ : Nat → Nat) (B : Nat) (g : Nat → Nat → Int) (h0 : Nat) (k0 : κ h0 = 10) (i : Int32) : Met l yX3_has wsX3_has ({ frames := 0, cells := 0, slots := 0, locals := 0 } : Room) (he_Pre dC dI dA κ B g [Value.ref h0, Value.int i]) (he_Qi dC dI dA κ B (fun r u => g = u ∧ 0 ≤ g 10 1 ∧ g 10 1 ≤ 12 ∧ ((r.toInt = 1 ∧ 0 ≤ i.toInt ∧ i.toInt < g 10 1) ∨ (r.toInt = 0 ∧ (i.toInt < 0 ∨ g 10 1 ≤ i.toInt))))) 0 0 (hp_A B) := by
  refine Met.ofW (cc := cX3_has) (maxL := 2) (ret := (some .boolean)) (by decide) rfl ?_
  intro p e s m args below meth c s₁ Bd hml hv
  obtain ⟨rfl, hK, hN, hW, hF⟩ := hv
  have hx := Bd.exec
  have hb := Bd.bytes
  have hr := Bd.returns
  have hts := atoms_spec (ws := wsX3_has) Bd.pre
  have hown : s.vm.findClass RX3 = some m.cls := findClass_of_methodNamed Bd.named
  have hlocks := Bd.notSynchronized
  have hJ : he_J dC dI dA κ B g s.heap s.heap [] := ⟨hF, va_S.rf⟩
  have hl := lv_entry ([Value.ref h0, Value.int i]) (n := 2) (Nat.le_of_ble_eq_true rfl)
  rw [lg_entry_eq]
  generalize (lg_sl ([Value.ref h0, Value.int i]) ++ List.replicate (2 - (lg_sl ([Value.ref h0, Value.int i])).length) Slot.unset).toArray = ls at hl ⊢
  have hl : lv_has ls 2 [(0, .ref h0), (1, .int i)] := hl
  have hnb := he_c10 hJ k0
  refine lv_iload_n hx hb dX3_has_0 rfl (lv_at hl 1 rfl) ?_
  refine hq_if_lt (tgt := 16) hx hb dX3_has_1 (by decide) (fun c1 => ?_) (fun c1 => ?_)
  · refine hq_iconst hx hb dX3_has_16 (by decide) (by decide) (fun z2 ez2 => ?_)
    exact he_zret hx hb hK hN hW hlocks hJ hr (by omega) ⟨rfl, by omega⟩ dX3_has_17
  · refine lv_iload_n hx hb dX3_has_4 rfl (lv_at hl 1 rfl) ?_
    refine lv_aload_n hx hb dX3_has_5 rfl (lv_at hl 0 rfl) ?_
    refine he_geti (C := RX3) (T := TX3) (N := 2) (ci := 3) (kd := 10) hx hb hts iX3_has_X3 hown hK hJ k0 rfl rfl 1 (by decide) (hts (.fieldLink RX3 18 "NeighborBook$Neighbors" "size" "I") (List.mem_of_getElem? (i := 1) rfl)) (fun _ h9 => h9) rfl rfl dX3_has_6 (fun x3 ex3 => ?_)
    have ex3 : x3.toInt = g 10 1 ∧ 0 ≤ x3.toInt ∧ x3.toInt ≤ 12 := ex3
    refine hq_icmp_ge (tgt := 16) hx hb dX3_has_9 (by decide) (fun c4 => ?_) (fun c4 => ?_)
    · refine hq_iconst hx hb dX3_has_16 (by decide) (by decide) (fun z5 ez5 => ?_)
      exact he_zret hx hb hK hN hW hlocks hJ hr (by omega) ⟨rfl, by omega⟩ dX3_has_17
    · refine hq_iconst hx hb dX3_has_12 (by decide) (by decide) (fun z6 ez6 => ?_)
      refine lv_goto (tgt := 17) hx hb dX3_has_13 (by decide) ?_
      exact he_zret hx hb hK hN hW hlocks hJ hr (by omega) ⟨rfl, by omega⟩ dX3_has_17
theorem iX3_at_X3 : ∀ w ∈ wsX30, w ∈ wsX3_at := fun _ h => List.mem_cons_of_mem _ (List.mem_append_right _ h)
set_option maxRecDepth 100000 in
set_option maxHeartbeats 4000000 in
theorem e_X3_at (l : Launch) (dC : Nat → ClassId) (dI : Nat → Nat → Nat) (dA : Nat → ClassId) (κ : Nat → Nat) (B : Nat) (g : Nat → Nat → Int) (h0 : Nat) (k0 : κ h0 = 10) (i : Int32) (hi0 : 0 ≤ i.toInt) (hi1 : i.toInt < 12) : Met l yX3_at wsX3_at ({ frames := 0, cells := 0, slots := 0, locals := 0 } : Room) (he_Pre dC dI dA κ B g [Value.ref h0, Value.int i]) (he_Qr dC dI dA κ B (g 16 i.toInt.toNat).toNat (fun u => g = u ∧ 300 ≤ g 16 i.toInt.toNat ∧ g 16 i.toInt.toNat < 312)) 0 0 (hp_A B) := by
  refine Met.ofW (cc := cX3_at) (maxL := 2) (ret := (some (.object "NeighborBook$Neighbor"))) (by decide) rfl ?_
  intro p e s m args below meth c s₁ Bd hml hv
  obtain ⟨rfl, hK, hN, hW, hF⟩ := hv
  have hx := Bd.exec
  have hb := Bd.bytes
  have hr := Bd.returns
  have hts := atoms_spec (ws := wsX3_at) Bd.pre
  have hown : s.vm.findClass RX3 = some m.cls := findClass_of_methodNamed Bd.named
  have hlocks := Bd.notSynchronized
  have hJ : he_J dC dI dA κ B g s.heap s.heap [] := ⟨hF, va_S.rf⟩
  have hl := lv_entry ([Value.ref h0, Value.int i]) (n := 2) (Nat.le_of_ble_eq_true rfl)
  rw [lg_entry_eq]
  generalize (lg_sl ([Value.ref h0, Value.int i]) ++ List.replicate (2 - (lg_sl ([Value.ref h0, Value.int i])).length) Slot.unset).toArray = ls at hl ⊢
  have hl : lv_has ls 2 [(0, .ref h0), (1, .int i)] := hl
  refine lv_aload_n hx hb dX3_at_0 rfl (lv_at hl 0 rfl) ?_
  refine he_getr (C := RX3) (T := TX3) (N := 2) (ci := 3) (kd := 10) hx hb hts iX3_at_X3 hown hK hJ k0 rfl rfl 0 (by decide) (hts (.fieldLink RX3 11 "NeighborBook$Neighbors" "rows" "[LNeighborBook$Neighbor;") (List.mem_of_getElem? (i := 1) rfl)) (fun _ h9 => h9) rfl dX3_at_1 (fun b1 kb1 => ?_)
  refine lv_iload_n hx hb dX3_at_4 rfl (lv_at hl 1 rfl) ?_
  refine he_aaldn (kd := 16) (n := 12) hx hb hK hJ kb1 rfl (by omega) (by omega) rfl dX3_at_5 (fun b2 j3 hj3 kb2 ej3 => ?_)
  have ej3 : g 16 i.toInt.toNat = 300 + (j3 : Int) := ej3
  exact he_aret hx hb hK hN hW hlocks hJ hr (by rw [kb2]; omega) ⟨rfl, by omega⟩ dX3_at_6
theorem iX3_sizeAt_X3 : ∀ w ∈ wsX30, w ∈ wsX3_sizeAt := fun _ h => List.mem_cons_of_mem _ (List.mem_append_left _ (List.mem_append_right _ h))
theorem iX3_sizeAt_X2 : ∀ w ∈ wsX20, w ∈ wsX3_sizeAt := fun _ h => List.mem_cons_of_mem _ (List.mem_append_right _ h)
set_option maxRecDepth 100000 in
set_option maxHeartbeats 4000000 in
theorem e_X3_sizeAt (l : Launch) (dC : Nat → ClassId) (dI : Nat → Nat → Nat) (dA : Nat → ClassId) (κ : Nat → Nat) (B : Nat) (g : Nat → Nat → Int) (h0 : Nat) (k0 : κ h0 = 10) (p1 : Int32) : Met l yX3_sizeAt wsX3_sizeAt ({ frames := 1, cells := 0, slots := 0, locals := 20 } : Room) (he_Pre dC dI dA κ B g [Value.ref h0, Value.int p1]) (he_Qi dC dI dA κ B (fun r u => g = u)) 0 0 (hp_A B) := by
  refine Met.ofW (cc := cX3_sizeAt) (maxL := 4) (ret := (some .int)) (by decide) rfl ?_
  intro p e s m args below meth c s₁ Bd hml hv
  obtain ⟨rfl, hK, hN, hW, hF⟩ := hv
  have hx := Bd.exec
  have hb := Bd.bytes
  have hr := Bd.returns
  have hts := atoms_spec (ws := wsX3_sizeAt) Bd.pre
  have hown : s.vm.findClass RX3 = some m.cls := findClass_of_methodNamed Bd.named
  have hlocks := Bd.notSynchronized
  have hJ : he_J dC dI dA κ B g s.heap s.heap [] := ⟨hF, va_S.rf⟩
  have hl := lv_entry ([Value.ref h0, Value.int p1]) (n := 4) (Nat.le_of_ble_eq_true rfl)
  rw [lg_entry_eq]
  generalize (lg_sl ([Value.ref h0, Value.int p1]) ++ List.replicate (4 - (lg_sl ([Value.ref h0, Value.int p1])).length) Slot.unset).toArray = ls at hl ⊢
  have hl : lv_has ls 4 [(0, .ref h0), (1, .int p1)] := hl
  refine hq_iconst hx hb dX3_sizeAt_0 (by decide) (by decide) (fun z1 ez1 => ?_)
  refine lv_istore_n (lv' := [(2, .int z1), (0, .ref h0), (1, .int p1)]) hx hb dX3_sizeAt_1 rfl hl (by decide) rfl (fun ls hl => ?_)
  refine hq_iconst hx hb dX3_sizeAt_2 (by decide) (by decide) (fun z2 ez2 => ?_)
  refine lv_istore_n (lv' := [(3, .int z2), (2, .int z1), (0, .ref h0), (1, .int p1)]) hx hb dX3_sizeAt_3 rfl hl (by decide) rfl (fun ls hl => ?_)
  have lp5 : ∀ (nlp5 : Nat) (v3 : Int32) (v4 : Int32) (H : Heap) (locs : List Loc) (ls : Array Slot), (0 ≤ v4.toInt) → (0 ≤ v3.toInt) → (v3.toInt ≤ v4.toInt) → (v4.toInt ≤ 12) → (13 - v4.toInt < (nlp5 : Int)) → he_J dC dI dA κ B g s.heap H locs → lv_has ls 4 [(0, .ref h0), (1, .int p1), (2, .int v3), (3, .int v4)] → W p l e (headSpec wsX3_sizeAt ({ frames := 1, cells := 0, slots := 0, locals := 20 } : Room)).room s m ([Value.ref h0, Value.int p1] : List Value).toArray below meth c H locs 0 0 (MQ below (he_Qi dC dI dA κ B (fun r u => g = u)) ([Value.ref h0, Value.int p1] : List Value).toArray s 0 0 (hp_A B)) (F0 m 4 ls []) := by
    intro nlp5
    induction nlp5 with
    | zero => intro v3 v4 H locs ls iv7 iv8 iv9 iv10 hm6 hJ hl; exact absurd hm6 (by omega)
    | succ nlp5 ihlp5 =>
      intro v3 v4 H locs ls iv7 iv8 iv9 iv10 hm6 hJ hl
      refine lv_iload_n hx hb dX3_sizeAt_4 rfl (lv_at hl 3 rfl) ?_
      refine lv_aload_n hx hb dX3_sizeAt_5 rfl (lv_at hl 0 rfl) ?_
      refine he_geti (C := RX3) (T := TX3) (N := 2) (ci := 3) (kd := 10) hx hb hts iX3_sizeAt_X3 hown hK hJ k0 rfl rfl 1 (by decide) (hts (.fieldLink RX3 18 "NeighborBook$Neighbors" "size" "I") (List.mem_of_getElem? (i := 1) rfl)) (fun _ h9 => h9) rfl rfl dX3_sizeAt_6 (fun x11 ex11 => ?_)
      have ex11 : x11.toInt = g 10 1 ∧ 0 ≤ x11.toInt ∧ x11.toInt ≤ 12 := ex11
      refine hq_icmp_ge (tgt := 34) hx hb dX3_sizeAt_9 (by decide) (fun c12 => ?_) (fun c12 => ?_)
      · refine lv_iload_n hx hb dX3_sizeAt_34 rfl (lv_at hl 2 rfl) ?_
        exact he_iret hx hb hK hN hW hlocks hJ hr rfl dX3_sizeAt_35
      · refine lv_aload_n hx hb dX3_sizeAt_12 rfl (lv_at hl 0 rfl) ?_
        refine he_getr (C := RX3) (T := TX3) (N := 2) (ci := 3) (kd := 10) hx hb hts iX3_sizeAt_X3 hown hK hJ k0 rfl rfl 0 (by decide) (hts (.fieldLink RX3 11 "NeighborBook$Neighbors" "rows" "[LNeighborBook$Neighbor;") (List.mem_of_getElem? (i := 2) rfl)) (fun _ h9 => h9) rfl dX3_sizeAt_13 (fun b13 kb13 => ?_)
        refine lv_iload_n hx hb dX3_sizeAt_16 rfl (lv_at hl 3 rfl) ?_
        refine he_aaldn (kd := 16) (n := 12) hx hb hK hJ kb13 rfl (by omega) (by omega) rfl dX3_sizeAt_17 (fun b14 j15 hj15 kb14 ej15 => ?_)
        have ej15 : g 16 v4.toInt.toNat = 300 + (j15 : Int) := ej15
        refine he_calli (va_runV (As := []) (rest := []) ⟨hx, hb, hml, hown, hts⟩ (e_X2_portOf l dC dI dA κ B g (j15) (by omega) b14 kb14) (cwV 0 hts gX3_sizeAt_X2_portOf rfl rfl rfl (by decide +kernel) ⟨Nat.le_of_ble_eq_true rfl, Nat.le_of_ble_eq_true rfl⟩) (he_preV (q := (RX2, TX2, 4)) [] hK hN hW hJ kb14 (hk_t300 (by omega)) rfl) rfl rfl hl.1 rfl (lv_room (Nat.le_of_ble_eq_true rfl)) dX3_sizeAt_18 ⟨Nat.zero_le _, Nat.zero_le _⟩) hJ (fun x17 g16 H locs hp hJ => ?_)
        obtain ⟨rfl, f18⟩ := hp
        refine lv_iload_n hx hb dX3_sizeAt_21 rfl (lv_at hl 1 rfl) ?_
        refine hq_icmp_ne (tgt := 28) hx hb dX3_sizeAt_22 (by decide) (fun c19 => ?_) (fun c19 => ?_)
        · refine hq_iinc (k := 3) (lv' := fun (z9 : Int32) => [(3, .int z9), (0, .ref h0), (1, .int p1), (2, .int v3)]) hx hb dX3_sizeAt_28 hl rfl (by decide) (by decide) (by omega) (by omega) (by decide) (fun _ => rfl) (fun x20 ls ex20 hl => ?_)
          have hl : lv_has ls 4 [(3, .int x20), (0, .ref h0), (1, .int p1), (2, .int v3)] := hl
          refine lv_goto (tgt := 4) hx hb dX3_sizeAt_31 (by decide) ?_
          exact ihlp5 v3 x20 _ _ ls (by omega) (by omega) (by omega) (by omega) (by omega) hJ (lv_sub hl [1, 2, 3, 0] rfl)
        · refine hq_iinc (k := 2) (lv' := fun (z9 : Int32) => [(2, .int z9), (0, .ref h0), (1, .int p1), (3, .int v4)]) hx hb dX3_sizeAt_25 hl rfl (by decide) (by decide) (by omega) (by omega) (by decide) (fun _ => rfl) (fun x21 ls ex21 hl => ?_)
          have hl : lv_has ls 4 [(2, .int x21), (0, .ref h0), (1, .int p1), (3, .int v4)] := hl
          refine hq_iinc (k := 3) (lv' := fun (z9 : Int32) => [(3, .int z9), (2, .int x21), (0, .ref h0), (1, .int p1)]) hx hb dX3_sizeAt_28 hl rfl (by decide) (by decide) (by omega) (by omega) (by decide) (fun _ => rfl) (fun x22 ls ex22 hl => ?_)
          have hl : lv_has ls 4 [(3, .int x22), (2, .int x21), (0, .ref h0), (1, .int p1)] := hl
          refine lv_goto (tgt := 4) hx hb dX3_sizeAt_31 (by decide) ?_
          exact ihlp5 x21 x22 _ _ ls (by omega) (by omega) (by omega) (by omega) (by omega) hJ (lv_sub hl [2, 3, 1, 0] rfl)
  exact lp5 ((13 - z2.toInt).toNat + 1) z1 z2 _ _ ls (by omega) (by omega) (by omega) (by omega) (by omega) hJ (lv_sub hl [2, 3, 1, 0] rfl)
theorem iX3_find_X3 : ∀ w ∈ wsX30, w ∈ wsX3_find := fun _ h => List.mem_cons_of_mem _ (List.mem_append_left _ (List.mem_append_left _ (List.mem_append_right _ h)))
theorem iX3_find_X2 : ∀ w ∈ wsX20, w ∈ wsX3_find := fun _ h => List.mem_cons_of_mem _ (List.mem_append_left _ (List.mem_append_right _ h))
theorem iX3_find_X0 : ∀ w ∈ wsX00, w ∈ wsX3_find := fun _ h => List.mem_cons_of_mem _ (List.mem_append_right _ h)
set_option maxRecDepth 100000 in
set_option maxHeartbeats 4000000 in
theorem e_X3_find (l : Launch) (dC : Nat → ClassId) (dI : Nat → Nat → Nat) (dA : Nat → ClassId) (κ : Nat → Nat) (B : Nat) (g : Nat → Nat → Int) (cd : Nat) (hcd : cd < 14) (h0 : Nat) (k0 : κ h0 = 10) (p1 : Int32) (heard : Nat) (kheard : κ heard = 320 + cd) : Met l yX3_find wsX3_find ({ frames := 3, cells := 0, slots := 0, locals := 68 } : Room) (he_Pre dC dI dA κ B g [Value.ref h0, Value.int p1, Value.ref heard]) (he_Qi dC dI dA κ B (fun r u => g = u ∧ 0 ≤ g 10 1 ∧ -1 ≤ r.toInt ∧ r.toInt < g 10 1 ∧ r.toInt < 12 ∧ (r.toInt = -1 → ∀ k : Nat, (k : Int) < g 10 1 → ¬ hc_mt g p1.toInt cd k) ∧ (0 ≤ r.toInt → hc_mt g p1.toInt cd r.toInt.toNat) ∧ ∀ k : Nat, (k : Int) < r.toInt → ¬ hc_mt g p1.toInt cd k)) 0 0 (hp_A B) := by
  refine Met.ofW (cc := cX3_find) (maxL := 4) (ret := (some .int)) (by decide) rfl ?_
  intro p e s m args below meth c s₁ Bd hml hv
  obtain ⟨rfl, hK, hN, hW, hF⟩ := hv
  have hx := Bd.exec
  have hb := Bd.bytes
  have hr := Bd.returns
  have hts := atoms_spec (ws := wsX3_find) Bd.pre
  have hown : s.vm.findClass RX3 = some m.cls := findClass_of_methodNamed Bd.named
  have hlocks := Bd.notSynchronized
  have hJ : he_J dC dI dA κ B g s.heap s.heap [] := ⟨hF, va_S.rf⟩
  have hl := lv_entry ([Value.ref h0, Value.int p1, Value.ref heard]) (n := 4) (Nat.le_of_ble_eq_true rfl)
  rw [lg_entry_eq]
  generalize (lg_sl ([Value.ref h0, Value.int p1, Value.ref heard]) ++ List.replicate (4 - (lg_sl ([Value.ref h0, Value.int p1, Value.ref heard])).length) Slot.unset).toArray = ls at hl ⊢
  have hl : lv_has ls 4 [(0, .ref h0), (1, .int p1), (2, .ref heard)] := hl
  refine hq_iconst hx hb dX3_find_0 (by decide) (by decide) (fun z1 ez1 => ?_)
  refine lv_istore_n (lv' := [(3, .int z1), (0, .ref h0), (1, .int p1), (2, .ref heard)]) hx hb dX3_find_1 rfl hl (by decide) rfl (fun ls hl => ?_)
  have lp3 : ∀ (nlp3 : Nat) (v2 : Int32) (H : Heap) (locs : List Loc) (ls : Array Slot), (0 ≤ v2.toInt) → (v2.toInt ≤ 12) → (∀ k : Nat, (k : Int) < v2.toInt → ¬ hc_mt g p1.toInt cd k) → (13 - v2.toInt < (nlp3 : Int)) → he_J dC dI dA κ B g s.heap H locs → lv_has ls 4 [(0, .ref h0), (1, .int p1), (2, .ref heard), (3, .int v2)] → W p l e (headSpec wsX3_find ({ frames := 3, cells := 0, slots := 0, locals := 68 } : Room)).room s m ([Value.ref h0, Value.int p1, Value.ref heard] : List Value).toArray below meth c H locs 0 0 (MQ below (he_Qi dC dI dA κ B (fun r u => g = u ∧ 0 ≤ g 10 1 ∧ -1 ≤ r.toInt ∧ r.toInt < g 10 1 ∧ r.toInt < 12 ∧ (r.toInt = -1 → ∀ k : Nat, (k : Int) < g 10 1 → ¬ hc_mt g p1.toInt cd k) ∧ (0 ≤ r.toInt → hc_mt g p1.toInt cd r.toInt.toNat) ∧ ∀ k : Nat, (k : Int) < r.toInt → ¬ hc_mt g p1.toInt cd k)) ([Value.ref h0, Value.int p1, Value.ref heard] : List Value).toArray s 0 0 (hp_A B)) (F0 m 2 ls []) := by
    intro nlp3
    induction nlp3 with
    | zero => intro v2 H locs ls iv5 iv6 iv7 hm4 hJ hl; exact absurd hm4 (by omega)
    | succ nlp3 ihlp3 =>
      intro v2 H locs ls iv5 iv6 iv7 hm4 hJ hl
      refine lv_iload_n hx hb dX3_find_2 rfl (lv_at hl 3 rfl) ?_
      refine lv_aload_n hx hb dX3_find_3 rfl (lv_at hl 0 rfl) ?_
      refine he_geti (C := RX3) (T := TX3) (N := 2) (ci := 3) (kd := 10) hx hb hts iX3_find_X3 hown hK hJ k0 rfl rfl 1 (by decide) (hts (.fieldLink RX3 18 "NeighborBook$Neighbors" "size" "I") (List.mem_of_getElem? (i := 1) rfl)) (fun _ h9 => h9) rfl rfl dX3_find_4 (fun x8 ex8 => ?_)
      have ex8 : x8.toInt = g 10 1 ∧ 0 ≤ x8.toInt ∧ x8.toInt ≤ 12 := ex8
      refine hq_icmp_ge (tgt := 47) hx hb dX3_find_7 (by decide) (fun c9 => ?_) (fun c9 => ?_)
      · refine hq_iconst hx hb dX3_find_47 (by decide) (by decide) (fun z10 ez10 => ?_)
        exact he_iret hx hb hK hN hW hlocks hJ hr ⟨rfl, by omega, by omega, by omega, by omega, fun _ k hk => iv7 k (by omega), fun h9 => absurd h9 (by omega), fun k hk => absurd hk (by omega)⟩ dX3_find_48
      · refine lv_aload_n hx hb dX3_find_10 rfl (lv_at hl 0 rfl) ?_
        refine he_getr (C := RX3) (T := TX3) (N := 2) (ci := 3) (kd := 10) hx hb hts iX3_find_X3 hown hK hJ k0 rfl rfl 0 (by decide) (hts (.fieldLink RX3 11 "NeighborBook$Neighbors" "rows" "[LNeighborBook$Neighbor;") (List.mem_of_getElem? (i := 2) rfl)) (fun _ h9 => h9) rfl dX3_find_11 (fun b11 kb11 => ?_)
        refine lv_iload_n hx hb dX3_find_14 rfl (lv_at hl 3 rfl) ?_
        refine he_aaldn (kd := 16) (n := 12) hx hb hK hJ kb11 rfl (by omega) (by omega) rfl dX3_find_15 (fun b12 j13 hj13 kb12 ej13 => ?_)
        have ej13 : g 16 v2.toInt.toNat = 300 + (j13 : Int) := ej13
        refine he_calli (va_runV (As := []) (rest := []) ⟨hx, hb, hml, hown, hts⟩ (e_X2_portOf l dC dI dA κ B g (j13) (by omega) b12 kb12) (cwV 0 hts gX3_find_X2_portOf rfl rfl rfl (by decide +kernel) ⟨Nat.le_of_ble_eq_true rfl, Nat.le_of_ble_eq_true rfl⟩) (he_preV (q := (RX2, TX2, 4)) [] hK hN hW hJ kb12 (hk_t300 (by omega)) rfl) rfl rfl hl.1 rfl (lv_room (Nat.le_of_ble_eq_true rfl)) dX3_find_16 ⟨Nat.zero_le _, Nat.zero_le _⟩) hJ (fun x15 g14 H locs hp hJ => ?_)
        obtain ⟨rfl, f16⟩ := hp
        refine lv_iload_n hx hb dX3_find_19 rfl (lv_at hl 1 rfl) ?_
        refine hq_icmp_ne (tgt := 41) hx hb dX3_find_20 (by decide) (fun c17 => ?_) (fun c17 => ?_)
        · have hnm : ¬ hc_mt g p1.toInt cd v2.toInt.toNat := fun h9 => by
            have h8 := hc_mt_port ej13 h9
            omega
          refine hq_iinc (k := 3) (lv' := fun (z9 : Int32) => [(3, .int z9), (0, .ref h0), (1, .int p1), (2, .ref heard)]) hx hb dX3_find_41 hl rfl (by decide) (by decide) (by omega) (by omega) (by decide) (fun _ => rfl) (fun x18 ls ex18 hl => ?_)
          have hl : lv_has ls 4 [(3, .int x18), (0, .ref h0), (1, .int p1), (2, .ref heard)] := hl
          refine lv_goto (tgt := 2) hx hb dX3_find_44 (by decide) ?_
          exact ihlp3 x18 _ _ ls (by omega) (by omega) (fun k hk => by by_cases h9 : k = v2.toInt.toNat; (rw [h9]; exact hnm); (exact iv7 k (by omega))) (by omega) hJ (lv_sub hl [1, 2, 3, 0] rfl)
        · refine lv_aload_n hx hb dX3_find_23 rfl (lv_at hl 0 rfl) ?_
          refine he_getr (C := RX3) (T := TX3) (N := 2) (ci := 3) (kd := 10) hx hb hts iX3_find_X3 hown hK hJ k0 rfl rfl 0 (by decide) (hts (.fieldLink RX3 11 "NeighborBook$Neighbors" "rows" "[LNeighborBook$Neighbor;") (List.mem_of_getElem? (i := 2) rfl)) (fun _ h9 => h9) rfl dX3_find_24 (fun b19 kb19 => ?_)
          refine lv_iload_n hx hb dX3_find_27 rfl (lv_at hl 3 rfl) ?_
          refine he_aaldn (kd := 16) (n := 12) hx hb hK hJ kb19 rfl (by omega) (by omega) rfl dX3_find_28 (fun b20 j21 hj21 kb20 ej21 => ?_)
          have ej21 : g 16 v2.toInt.toNat = 300 + (j21 : Int) := ej21
          refine he_callr (va_runV (As := []) (rest := []) ⟨hx, hb, hml, hown, hts⟩ (e_X2_contents l dC dI dA κ B g (j21) (by omega) b20 kb20) (cwV 0 hts gX3_find_X2_contents rfl rfl rfl (by decide +kernel) ⟨Nat.le_of_ble_eq_true rfl, Nat.le_of_ble_eq_true rfl⟩) (he_preV (q := (RX2, TX2, 4)) [] hK hN hW hJ kb20 (hk_t300 (by omega)) rfl) rfl rfl hl.1 rfl (lv_room (Nat.le_of_ble_eq_true rfl)) dX3_find_29 ⟨Nat.zero_le _, Nat.zero_le _⟩) hJ (fun b23 g22 H locs kb23 hp hJ => ?_)
          obtain ⟨rfl, f25⟩ := hp
          obtain ⟨c24, hc24, ec24⟩ : ∃ c24 : Nat, c24 < 13 ∧ (g (300 + j21) 0) = 320 + (c24 : Int) := ⟨((g (300 + j21) 0) - 320).toNat, by omega, by omega⟩
          have kb23 : κ b23 = 320 + c24 := by rw [kb23]; omega
          refine lv_aload_n hx hb dX3_find_32 rfl (lv_at hl 2 rfl) ?_
          refine he_calli (va_runV (As := [.ref heard]) (rest := []) ⟨hx, hb, hml, hown, hts⟩ (e_X0_isSameStation l dC dI dA κ B g (c24) (by omega) (cd) (by omega) b23 kb23 heard kheard) (cwV 1 hts gX3_find_X0_isSameStation rfl rfl rfl (by decide +kernel) ⟨Nat.le_of_ble_eq_true rfl, Nat.le_of_ble_eq_true rfl⟩) (he_preV (q := (RX0, TX0, 2)) [.ref heard] hK hN hW hJ kb23 (hk_t320 (by omega)) rfl) rfl rfl hl.1 rfl (lv_room (Nat.le_of_ble_eq_true rfl)) dX3_find_33 ⟨Nat.zero_le _, Nat.zero_le _⟩) hJ (fun x27 g26 H locs hp hJ => ?_)
          obtain ⟨rfl, f28⟩ := hp
          have hjj : j21 = j13 := by omega
          have hpp : x15.toInt = g (300 + j21) 1 := by rw [hjj]; omega
          have hmt := hc_mt_iff (cd := cd) (p := p1.toInt) ej21 ec24
          refine hq_if_eq (tgt := 41) hx hb dX3_find_36 (by decide) (fun c29 => ?_) (fun c29 => ?_)
          · have hnm : ¬ hc_mt g p1.toInt cd v2.toInt.toNat := fun h9 => absurd (f28.2.mpr (hmt.mp h9).2) (by omega)
            refine hq_iinc (k := 3) (lv' := fun (z9 : Int32) => [(3, .int z9), (0, .ref h0), (1, .int p1), (2, .ref heard)]) hx hb dX3_find_41 hl rfl (by decide) (by decide) (by omega) (by omega) (by decide) (fun _ => rfl) (fun x30 ls ex30 hl => ?_)
            have hl : lv_has ls 4 [(3, .int x30), (0, .ref h0), (1, .int p1), (2, .ref heard)] := hl
            refine lv_goto (tgt := 2) hx hb dX3_find_44 (by decide) ?_
            exact ihlp3 x30 _ _ ls (by omega) (by omega) (fun k hk => by by_cases h9 : k = v2.toInt.toNat; (rw [h9]; exact hnm); (exact iv7 k (by omega))) (by omega) hJ (lv_sub hl [1, 2, 3, 0] rfl)
          · refine lv_iload_n hx hb dX3_find_39 rfl (lv_at hl 3 rfl) ?_
            exact he_iret hx hb hK hN hW hlocks hJ hr ⟨rfl, by omega, by omega, by omega, by omega, fun h9 => absurd h9 (by omega), fun _ => hmt.mpr ⟨by omega, f28.2.mp (by omega)⟩, fun k hk => iv7 k hk⟩ dX3_find_40
  exact lp3 ((13 - z1.toInt).toNat + 1) z1 _ _ ls (by omega) (by omega) (fun k hk => absurd hk (by omega)) (by omega) hJ (lv_sub hl [1, 2, 3, 0] rfl)
theorem iX3_add_X3 : ∀ w ∈ wsX30, w ∈ wsX3_add := fun _ h => List.mem_cons_of_mem _ (List.mem_append_left _ (List.mem_append_right _ h))
theorem iX3_add_X2 : ∀ w ∈ wsX20, w ∈ wsX3_add := fun _ h => List.mem_cons_of_mem _ (List.mem_append_right _ h)
set_option maxRecDepth 100000 in
set_option maxHeartbeats 4000000 in
theorem e_X3_add (l : Launch) (dC : Nat → ClassId) (dI : Nat → Nat → Nat) (dA : Nat → ClassId) (κ : Nat → Nat) (B : Nat) (g : Nat → Nat → Int) (h0 : Nat) (k0 : κ h0 = 10) (p1 : Int32) (hp0 : 0 ≤ p1.toInt) (hp3 : p1.toInt < 4) : Met l yX3_add wsX3_add ({ frames := 1, cells := 0, slots := 0, locals := 21 } : Room) (he_Pre dC dI dA κ B g [Value.ref h0, Value.int p1]) (he_Qi dC dI dA κ B (fun r u => hg_Q (fun a b => (a = 10 ∧ b = 1) ∨ (300 ≤ a ∧ a < 312 ∧ (b = 1 ∨ b = 3))) g u ∧ 0 ≤ g 10 1 ∧ g 10 1 ≤ 12 ∧ ((g 10 1 < 12 ∧ r.toInt = g 10 1 ∧ u 10 1 = g 10 1 + 1 ∧ ∃ j : Nat, j < 12 ∧ g 16 (g 10 1).toNat = 300 + (j : Int) ∧ u (300 + j) 1 = p1.toInt ∧ u (300 + j) 3 = 0 ∧ ∀ a b : Nat, ¬ ((a = 10 ∧ b = 1) ∨ (a = 300 + j ∧ (b = 1 ∨ b = 3))) → u a b = g a b) ∨ (12 ≤ g 10 1 ∧ r.toInt = -1 ∧ g = u)))) 0 0 (hp_A B) := by
  refine Met.ofW (cc := cX3_add) (maxL := 3) (ret := (some .int)) (by decide) rfl ?_
  intro p e s m args below meth c s₁ Bd hml hv
  obtain ⟨rfl, hK, hN, hW, hF⟩ := hv
  have hx := Bd.exec
  have hb := Bd.bytes
  have hr := Bd.returns
  have hts := atoms_spec (ws := wsX3_add) Bd.pre
  have hown : s.vm.findClass RX3 = some m.cls := findClass_of_methodNamed Bd.named
  have hlocks := Bd.notSynchronized
  have hJ : he_J dC dI dA κ B g s.heap s.heap [] := ⟨hF, va_S.rf⟩
  have hl := lv_entry ([Value.ref h0, Value.int p1]) (n := 3) (Nat.le_of_ble_eq_true rfl)
  rw [lg_entry_eq]
  generalize (lg_sl ([Value.ref h0, Value.int p1]) ++ List.replicate (3 - (lg_sl ([Value.ref h0, Value.int p1])).length) Slot.unset).toArray = ls at hl ⊢
  have hl : lv_has ls 3 [(0, .ref h0), (1, .int p1)] := hl
  refine lv_aload_n hx hb dX3_add_0 rfl (lv_at hl 0 rfl) ?_
  refine he_geti (C := RX3) (T := TX3) (N := 2) (ci := 3) (kd := 10) hx hb hts iX3_add_X3 hown hK hJ k0 rfl rfl 1 (by decide) (hts (.fieldLink RX3 18 "NeighborBook$Neighbors" "size" "I") (List.mem_of_getElem? (i := 1) rfl)) (fun _ h9 => h9) rfl rfl dX3_add_1 (fun x1 ex1 => ?_)
  have ex1 : x1.toInt = g 10 1 ∧ 0 ≤ x1.toInt ∧ x1.toInt ≤ 12 := ex1
  refine hq_bipush hx hb dX3_add_4 (by decide) (fun z2 ez2 => ?_)
  refine hq_icmp_lt (tgt := 11) hx hb dX3_add_6 (by decide) (fun c3 => ?_) (fun c3 => ?_)
  · refine lv_aload_n hx hb dX3_add_11 rfl (lv_at hl 0 rfl) ?_
    refine he_geti (C := RX3) (T := TX3) (N := 2) (ci := 3) (kd := 10) hx hb hts iX3_add_X3 hown hK hJ k0 rfl rfl 1 (by decide) (hts (.fieldLink RX3 18 "NeighborBook$Neighbors" "size" "I") (List.mem_of_getElem? (i := 1) rfl)) (fun _ h9 => h9) rfl rfl dX3_add_12 (fun x4 ex4 => ?_)
    have ex4 : x4.toInt = g 10 1 ∧ 0 ≤ x4.toInt ∧ x4.toInt ≤ 12 := ex4
    refine lv_istore_n (lv' := [(2, .int x4), (0, .ref h0), (1, .int p1)]) hx hb dX3_add_15 rfl hl (by decide) rfl (fun ls hl => ?_)
    refine lv_aload_n hx hb dX3_add_16 rfl (lv_at hl 1 rfl) ?_
    refine he_getr (C := RX3) (T := TX3) (N := 2) (ci := 3) (kd := 10) hx hb hts iX3_add_X3 hown hK hJ k0 rfl rfl 0 (by decide) (hts (.fieldLink RX3 11 "NeighborBook$Neighbors" "rows" "[LNeighborBook$Neighbor;") (List.mem_of_getElem? (i := 2) rfl)) (fun _ h9 => h9) rfl dX3_add_17 (fun b5 kb5 => ?_)
    refine lv_iload_n hx hb dX3_add_20 rfl (lv_at hl 0 rfl) ?_
    refine he_aaldn (kd := 16) (n := 12) hx hb hK hJ kb5 rfl (by omega) (by omega) rfl dX3_add_21 (fun b6 j7 hj7 kb6 ej7 => ?_)
    have ej7 : g 16 x4.toInt.toNat = 300 + (j7 : Int) := ej7
    refine lv_iload_n hx hb dX3_add_22 rfl (lv_at hl 2 rfl) ?_
    refine he_callv (va_runV (As := [.int p1]) (rest := []) ⟨hx, hb, hml, hown, hts⟩ (e_X2_begin l dC dI dA κ B g (j7) (by omega) b6 kb6 p1 (by omega) (by omega)) (cwV 1 hts gX3_add_X2_begin rfl rfl rfl (by decide +kernel) ⟨Nat.le_of_ble_eq_true rfl, Nat.le_of_ble_eq_true rfl⟩) (he_preV (q := (RX2, TX2, 4)) [.int p1] hK hN hW hJ kb6 (hk_t300 (by omega)) rfl) rfl rfl hl.1 rfl (lv_room (Nat.le_of_ble_eq_true rfl)) dX3_add_23 ⟨Nat.zero_le _, Nat.zero_le _⟩) hJ (fun g8 H locs hp hJ => ?_)
    obtain ⟨P10a, f9⟩ := hp
    have P10 : hg_Q (fun a b => (a = 10 ∧ b = 1) ∨ (300 ≤ a ∧ a < 312 ∧ (b = 1 ∨ b = 3))) g g8 := (hg_Q.le P10a (fun a b h9 => by have h9 : a = 300 + j7 ∧ (b = 1 ∨ b = 3) := h9; show (a = 10 ∧ b = 1) ∨ (300 ≤ a ∧ a < 312 ∧ (b = 1 ∨ b = 3)); omega))
    have qt11 : g8 10 1 = g 10 1 := P10a 10 1 (show ¬ (10 = 300 + j7 ∧ (1 = 1 ∨ 1 = 3)) from by omega)
    refine lv_aload_n hx hb dX3_add_26 rfl (lv_at hl 1 rfl) ?_
    refine lv_dup hx hb dX3_add_27 rfl ?_
    refine he_geti (C := RX3) (T := TX3) (N := 2) (ci := 3) (kd := 10) hx hb hts iX3_add_X3 hown hK hJ k0 rfl rfl 1 (by decide) (hts (.fieldLink RX3 18 "NeighborBook$Neighbors" "size" "I") (List.mem_of_getElem? (i := 1) rfl)) (fun _ h9 => h9) rfl rfl dX3_add_28 (fun x12 ex12 => ?_)
    have ex12 : x12.toInt = g8 10 1 ∧ 0 ≤ x12.toInt ∧ x12.toInt ≤ 12 := ex12
    refine hq_iconst hx hb dX3_add_31 (by decide) (by decide) (fun z13 ez13 => ?_)
    refine hq_iadd hx hb dX3_add_32 (by omega) (by omega) (fun x14 ex14 => ?_)
    refine he_putx (C := RX3) (T := TX3) (N := 2) (ci := 3) (kd := 10) hx hb hts iX3_add_X3 hown hK hJ k0 rfl rfl 1 (by decide) (hts (.fieldLink RX3 18 "NeighborBook$Neighbors" "size" "I") (List.mem_of_getElem? (i := 1) rfl)) (fun _ h9 => h9) tyX3 tyX3_ok nmX3 (x := x14) rfl rfl (by decide) hW rfl rfl rfl rfl (show x14.toInt = x14.toInt ∧ 0 ≤ x14.toInt ∧ x14.toInt ≤ 12 from ⟨rfl, by omega, by omega⟩) dX3_add_33 (fun g15 H locs eg15 ng15 hJ => ?_)
    have eg15 : g15 10 1 = x14.toInt := eg15
    have P16 : hg_Q (fun a b => (a = 10 ∧ b = 1) ∨ (300 ≤ a ∧ a < 312 ∧ (b = 1 ∨ b = 3))) g g15 := hg_Q.put P10 ng15 (show (10 = 10 ∧ 1 = 1) ∨ (300 ≤ 10 ∧ 10 < 312 ∧ (1 = 1 ∨ 1 = 3)) from by omega)
    refine lv_iload_n hx hb dX3_add_36 rfl (lv_at hl 0 rfl) ?_
    exact he_iret hx hb hK hN hW hlocks hJ hr ⟨P16, by omega, by omega, Or.inl ⟨by omega, by omega, by omega, j7, hj7, by rw [show (g 10 1).toNat = x4.toInt.toNat by omega]; exact ej7, by rw [ng15 (300 + j7) 1 (by omega)]; exact f9.1, by rw [ng15 (300 + j7) 3 (by omega)]; exact f9.2, fun a b h9 => by rw [ng15 a b (by omega)]; exact P10a a b (fun h8 => by have h8 : a = 300 + j7 ∧ (b = 1 ∨ b = 3) := h8; omega)⟩⟩ dX3_add_37
  · refine hq_iconst hx hb dX3_add_9 (by decide) (by decide) (fun z17 ez17 => ?_)
    exact he_iret hx hb hK hN hW hlocks hJ hr ⟨hg_Q.rf, by omega, by omega, Or.inr ⟨by omega, by omega, rfl⟩⟩ dX3_add_10
theorem iX3_forget_X3 : ∀ w ∈ wsX30, w ∈ wsX3_forget := fun _ h => List.mem_cons_of_mem _ (List.mem_append_right _ h)
set_option maxRecDepth 100000 in
set_option maxHeartbeats 4000000 in
theorem e_X3_forget (l : Launch) (dC : Nat → ClassId) (dI : Nat → Nat → Nat) (dA : Nat → ClassId) (κ : Nat → Nat) (B : Nat) (g : Nat → Nat → Int) (h0 : Nat) (k0 : κ h0 = 10) (i : Int32) : Met l yX3_forget wsX3_forget ({ frames := 1, cells := 0, slots := 0, locals := 21 } : Room) (he_Pre dC dI dA κ B g [Value.ref h0, Value.int i]) (he_Qv dC dI dA κ B (fun u => hg_Q (fun a b => (a = 10 ∧ b = 1) ∨ a = 16) g u ∧ 0 ≤ g 10 1 ∧ g 10 1 ≤ 12 ∧ ((0 ≤ i.toInt ∧ i.toInt < g 10 1 ∧ hc_fg g u i.toInt.toNat) ∨ ((i.toInt < 0 ∨ g 10 1 ≤ i.toInt) ∧ g = u)))) 0 0 (hp_A B) := by
  refine Met.ofW (cc := cX3_forget) (maxL := 4) (ret := none) (by decide) rfl ?_
  intro p e s m args below meth c s₁ Bd hml hv
  obtain ⟨rfl, hK, hN, hW, hF⟩ := hv
  have hx := Bd.exec
  have hb := Bd.bytes
  have hr := Bd.returns
  have hts := atoms_spec (ws := wsX3_forget) Bd.pre
  have hown : s.vm.findClass RX3 = some m.cls := findClass_of_methodNamed Bd.named
  have hlocks := Bd.notSynchronized
  have hJ : he_J dC dI dA κ B g s.heap s.heap [] := ⟨hF, va_S.rf⟩
  have hl := lv_entry ([Value.ref h0, Value.int i]) (n := 4) (Nat.le_of_ble_eq_true rfl)
  rw [lg_entry_eq]
  generalize (lg_sl ([Value.ref h0, Value.int i]) ++ List.replicate (4 - (lg_sl ([Value.ref h0, Value.int i])).length) Slot.unset).toArray = ls at hl ⊢
  have hl : lv_has ls 4 [(0, .ref h0), (1, .int i)] := hl
  refine lv_aload_n hx hb dX3_forget_0 rfl (lv_at hl 0 rfl) ?_
  refine lv_iload_n hx hb dX3_forget_1 rfl (lv_at hl 1 rfl) ?_
  refine he_calli (va_runV (As := [.int i]) (rest := []) ⟨hx, hb, hml, hown, hts⟩ (e_X3_has l dC dI dA κ B g h0 k0 i) (cwV 1 hts gX3_forget_X3_has rfl rfl rfl (by decide +kernel) ⟨Nat.le_of_ble_eq_true rfl, Nat.le_of_ble_eq_true rfl⟩) (he_preV (q := (RX3, TX3, 2)) [.int i] hK hN hW hJ k0 rfl rfl) rfl rfl hl.1 rfl (lv_room (Nat.le_of_ble_eq_true rfl)) dX3_forget_2 ⟨Nat.zero_le _, Nat.zero_le _⟩) hJ (fun x2 g1 H locs hp hJ => ?_)
  obtain ⟨rfl, f3⟩ := hp
  refine hq_if_ne (tgt := 9) hx hb dX3_forget_5 (by decide) (fun c4 => ?_) (fun c4 => ?_)
  · refine lv_aload_n hx hb dX3_forget_9 rfl (lv_at hl 0 rfl) ?_
    refine he_getr (C := RX3) (T := TX3) (N := 2) (ci := 3) (kd := 10) hx hb hts iX3_forget_X3 hown hK hJ k0 rfl rfl 0 (by decide) (hts (.fieldLink RX3 11 "NeighborBook$Neighbors" "rows" "[LNeighborBook$Neighbor;") (List.mem_of_getElem? (i := 1) rfl)) (fun _ h9 => h9) rfl dX3_forget_10 (fun b5 kb5 => ?_)
    refine lv_iload_n hx hb dX3_forget_13 rfl (lv_at hl 1 rfl) ?_
    refine he_aaldn (kd := 16) (n := 12) hx hb hK hJ kb5 rfl (by omega) (by omega) rfl dX3_forget_14 (fun b6 j7 hj7 kb6 ej7 => ?_)
    have ej7 : g 16 i.toInt.toNat = 300 + (j7 : Int) := ej7
    refine lv_astore_n (lv' := [(2, .ref b6), (0, .ref h0), (1, .int i)]) hx hb dX3_forget_15 rfl hl (by decide) rfl (fun ls hl => ?_)
    refine lv_aload_n hx hb dX3_forget_16 rfl (lv_at hl 1 rfl) ?_
    refine lv_dup hx hb dX3_forget_17 rfl ?_
    refine he_geti (C := RX3) (T := TX3) (N := 2) (ci := 3) (kd := 10) hx hb hts iX3_forget_X3 hown hK hJ k0 rfl rfl 1 (by decide) (hts (.fieldLink RX3 18 "NeighborBook$Neighbors" "size" "I") (List.mem_of_getElem? (i := 2) rfl)) (fun _ h9 => h9) rfl rfl dX3_forget_18 (fun x8 ex8 => ?_)
    have ex8 : x8.toInt = g 10 1 ∧ 0 ≤ x8.toInt ∧ x8.toInt ≤ 12 := ex8
    refine hq_iconst hx hb dX3_forget_21 (by decide) (by decide) (fun z9 ez9 => ?_)
    refine hq_isub hx hb dX3_forget_22 (by omega) (by omega) (fun x10 ex10 => ?_)
    refine he_putx (C := RX3) (T := TX3) (N := 2) (ci := 3) (kd := 10) hx hb hts iX3_forget_X3 hown hK hJ k0 rfl rfl 1 (by decide) (hts (.fieldLink RX3 18 "NeighborBook$Neighbors" "size" "I") (List.mem_of_getElem? (i := 2) rfl)) (fun _ h9 => h9) tyX3 tyX3_ok nmX3 (x := x10) rfl rfl (by decide) hW rfl rfl rfl rfl (show x10.toInt = x10.toInt ∧ 0 ≤ x10.toInt ∧ x10.toInt ≤ 12 from ⟨rfl, by omega, by omega⟩) dX3_forget_23 (fun g11 H locs eg11 ng11 hJ => ?_)
    have eg11 : g11 10 1 = x10.toInt := eg11
    have P12 : hg_Q (fun a b => (a = 10 ∧ b = 1) ∨ a = 16) g g11 := hg_Q.put hg_Q.rf ng11 (show (10 = 10 ∧ 1 = 1) ∨ 10 = 16 from by omega)
    refine lv_iload_n hx hb dX3_forget_26 rfl (lv_at hl 2 rfl) ?_
    refine lv_istore_n (lv' := [(3, .int i), (2, .ref b6), (0, .ref h0), (1, .int i)]) hx hb dX3_forget_27 rfl hl (by decide) rfl (fun ls hl => ?_)
    have lp15 : ∀ (nlp15 : Nat) (v13 : Int32) (g14 : Nat → Nat → Int) (H : Heap) (locs : List Loc) (ls : Array Slot), (hg_Q (fun a b => (a = 10 ∧ b = 1) ∨ a = 16) g g14) → (i.toInt ≤ v13.toInt) → (v13.toInt ≤ g 10 1 - 1) → (g14 10 1 = g 10 1 - 1) → (∀ k : Nat, k < 12 → g14 16 k = if i.toInt.toNat ≤ k ∧ (k : Int) < v13.toInt then g 16 (k + 1) else g 16 k) → (13 - v13.toInt < (nlp15 : Int)) → he_J dC dI dA κ B g14 s.heap H locs → lv_has ls 4 [(0, .ref h0), (1, .int i), (2, .ref b6), (3, .int v13)] → W p l e (headSpec wsX3_forget ({ frames := 1, cells := 0, slots := 0, locals := 21 } : Room)).room s m ([Value.ref h0, Value.int i] : List Value).toArray below meth c H locs 0 0 (MQ below (he_Qv dC dI dA κ B (fun u => hg_Q (fun a b => (a = 10 ∧ b = 1) ∨ a = 16) g u ∧ 0 ≤ g 10 1 ∧ g 10 1 ≤ 12 ∧ ((0 ≤ i.toInt ∧ i.toInt < g 10 1 ∧ hc_fg g u i.toInt.toNat) ∨ ((i.toInt < 0 ∨ g 10 1 ≤ i.toInt) ∧ g = u)))) ([Value.ref h0, Value.int i] : List Value).toArray s 0 0 (hp_A B)) (F0 m 28 ls []) := by
      intro nlp15
      induction nlp15 with
      | zero => intro v13 g14 H locs ls iv17 iv18 iv19 iv20 iv21 hm16 hJ hl; exact absurd hm16 (by omega)
      | succ nlp15 ihlp15 =>
        intro v13 g14 H locs ls iv17 iv18 iv19 iv20 iv21 hm16 hJ hl
        refine lv_iload_n hx hb dX3_forget_28 rfl (lv_at hl 3 rfl) ?_
        refine lv_aload_n hx hb dX3_forget_29 rfl (lv_at hl 0 rfl) ?_
        refine he_geti (C := RX3) (T := TX3) (N := 2) (ci := 3) (kd := 10) hx hb hts iX3_forget_X3 hown hK hJ k0 rfl rfl 1 (by decide) (hts (.fieldLink RX3 18 "NeighborBook$Neighbors" "size" "I") (List.mem_of_getElem? (i := 2) rfl)) (fun _ h9 => h9) rfl rfl dX3_forget_30 (fun x22 ex22 => ?_)
        have ex22 : x22.toInt = g14 10 1 ∧ 0 ≤ x22.toInt ∧ x22.toInt ≤ 12 := ex22
        refine hq_icmp_ge (tgt := 56) hx hb dX3_forget_33 (by decide) (fun c23 => ?_) (fun c23 => ?_)
        · refine lv_aload_n hx hb dX3_forget_56 rfl (lv_at hl 0 rfl) ?_
          refine he_getr (C := RX3) (T := TX3) (N := 2) (ci := 3) (kd := 10) hx hb hts iX3_forget_X3 hown hK hJ k0 rfl rfl 0 (by decide) (hts (.fieldLink RX3 11 "NeighborBook$Neighbors" "rows" "[LNeighborBook$Neighbor;") (List.mem_of_getElem? (i := 1) rfl)) (fun _ h9 => h9) rfl dX3_forget_57 (fun b24 kb24 => ?_)
          refine lv_aload_n hx hb dX3_forget_60 rfl (lv_at hl 0 rfl) ?_
          refine he_geti (C := RX3) (T := TX3) (N := 2) (ci := 3) (kd := 10) hx hb hts iX3_forget_X3 hown hK hJ k0 rfl rfl 1 (by decide) (hts (.fieldLink RX3 18 "NeighborBook$Neighbors" "size" "I") (List.mem_of_getElem? (i := 2) rfl)) (fun _ h9 => h9) rfl rfl dX3_forget_61 (fun x25 ex25 => ?_)
          have ex25 : x25.toInt = g14 10 1 ∧ 0 ≤ x25.toInt ∧ x25.toInt ≤ 12 := ex25
          refine lv_aload_n hx hb dX3_forget_64 rfl (lv_at hl 2 rfl) ?_
          refine he_aastn (kd := 16) (n := 12) (q := (RX2, TX2, 4)) (j := j7) hx hb hK hJ kb24 rfl (by omega) (by omega) (by decide) hW rfl rfl kb6 (by omega) rfl rfl dX3_forget_65 (fun g26 H locs eg26 ng26 hJ => ?_)
          have eg26 : g26 16 x25.toInt.toNat = 300 + ((j7 : Nat) : Int) := eg26
          have P27 : hg_Q (fun a b => (a = 10 ∧ b = 1) ∨ a = 16) g g26 := hg_Q.put iv17 ng26 (show (16 = 10 ∧ x25.toInt.toNat = 1) ∨ 16 = 16 from by omega)
          have qt28 : g26 10 1 = g14 10 1 := ng26 10 1 (by omega)
          exact he_vret hx hb hK hN hW hlocks hJ hr ⟨P27, by omega, by omega, Or.inl ⟨by omega, by omega, by omega, fun k hk => by by_cases h9 : k = x25.toInt.toNat; (rw [h9, eg26, if_neg (by omega), if_neg (by omega), if_pos (by omega)]; omega); (rw [ng26 16 k (by omega), iv21 k hk]; by_cases h8 : k < i.toInt.toNat; (rw [if_neg (by omega), if_pos h8]); (rw [if_neg h8]; by_cases h7 : (k : Int) + 1 < g 10 1; (rw [if_pos (by omega), if_pos h7]); (rw [if_neg (by omega), if_neg h7, if_neg (by omega)])))⟩⟩ dX3_forget_66
        · refine lv_aload_n hx hb dX3_forget_36 rfl (lv_at hl 0 rfl) ?_
          refine he_getr (C := RX3) (T := TX3) (N := 2) (ci := 3) (kd := 10) hx hb hts iX3_forget_X3 hown hK hJ k0 rfl rfl 0 (by decide) (hts (.fieldLink RX3 11 "NeighborBook$Neighbors" "rows" "[LNeighborBook$Neighbor;") (List.mem_of_getElem? (i := 1) rfl)) (fun _ h9 => h9) rfl dX3_forget_37 (fun b29 kb29 => ?_)
          refine lv_iload_n hx hb dX3_forget_40 rfl (lv_at hl 3 rfl) ?_
          refine lv_aload_n hx hb dX3_forget_41 rfl (lv_at hl 0 rfl) ?_
          refine he_getr (C := RX3) (T := TX3) (N := 2) (ci := 3) (kd := 10) hx hb hts iX3_forget_X3 hown hK hJ k0 rfl rfl 0 (by decide) (hts (.fieldLink RX3 11 "NeighborBook$Neighbors" "rows" "[LNeighborBook$Neighbor;") (List.mem_of_getElem? (i := 1) rfl)) (fun _ h9 => h9) rfl dX3_forget_42 (fun b30 kb30 => ?_)
          refine lv_iload_n hx hb dX3_forget_45 rfl (lv_at hl 3 rfl) ?_
          refine hq_iconst hx hb dX3_forget_46 (by decide) (by decide) (fun z31 ez31 => ?_)
          refine hq_iadd hx hb dX3_forget_47 (by omega) (by omega) (fun x32 ex32 => ?_)
          refine he_aaldn (kd := 16) (n := 12) hx hb hK hJ kb30 rfl (by omega) (by omega) rfl dX3_forget_48 (fun b33 j34 hj34 kb33 ej34 => ?_)
          have ej34 : g14 16 x32.toInt.toNat = 300 + (j34 : Int) := ej34
          refine he_aastn (kd := 16) (n := 12) (q := (RX2, TX2, 4)) (j := j34) hx hb hK hJ kb29 rfl (by omega) (by omega) (by decide) hW rfl rfl kb33 (by omega) rfl rfl dX3_forget_49 (fun g35 H locs eg35 ng35 hJ => ?_)
          have eg35 : g35 16 v13.toInt.toNat = 300 + ((j34 : Nat) : Int) := eg35
          have P36 : hg_Q (fun a b => (a = 10 ∧ b = 1) ∨ a = 16) g g35 := hg_Q.put iv17 ng35 (show (16 = 10 ∧ v13.toInt.toNat = 1) ∨ 16 = 16 from by omega)
          have qt37 : g35 10 1 = g14 10 1 := ng35 10 1 (by omega)
          refine hq_iinc (k := 3) (lv' := fun (z9 : Int32) => [(3, .int z9), (0, .ref h0), (1, .int i), (2, .ref b6)]) hx hb dX3_forget_50 hl rfl (by decide) (by decide) (by omega) (by omega) (by decide) (fun _ => rfl) (fun x38 ls ex38 hl => ?_)
          have hl : lv_has ls 4 [(3, .int x38), (0, .ref h0), (1, .int i), (2, .ref b6)] := hl
          refine lv_goto (tgt := 28) hx hb dX3_forget_53 (by decide) ?_
          exact ihlp15 x38 g35 _ _ ls P36 (by omega) (by omega) (by omega) (fun k hk => by by_cases h9 : k = v13.toInt.toNat; (have h7 := iv21 (v13.toInt.toNat + 1) (by omega); rw [if_neg (by omega), show v13.toInt.toNat + 1 = x32.toInt.toNat by omega] at h7; rw [h9, eg35, if_pos (by omega), show v13.toInt.toNat + 1 = x32.toInt.toNat by omega]; omega); (rw [ng35 16 k (by omega), iv21 k hk]; by_cases h8 : i.toInt.toNat ≤ k ∧ (k : Int) < v13.toInt; (rw [if_pos h8, if_pos (by omega)]); (rw [if_neg h8, if_neg (by omega)]))) (by omega) hJ (lv_sub hl [1, 2, 3, 0] rfl)
    exact lp15 ((13 - i.toInt).toNat + 1) i g11 _ _ ls P12 (by omega) (by omega) (by omega) (fun k hk => by rw [ng11 16 k (by omega), if_neg (by omega)]) (by omega) hJ (lv_sub hl [2, 3, 1, 0] rfl)
  · exact he_vret hx hb hK hN hW hlocks hJ hr ⟨hg_Q.rf, by omega, by omega, Or.inr ⟨by omega, rfl⟩⟩ dX3_forget_8
theorem iX3_forgetAllAt_X3 : ∀ w ∈ wsX30, w ∈ wsX3_forgetAllAt := fun _ h => List.mem_cons_of_mem _ (List.mem_append_left _ (List.mem_append_right _ h))
theorem iX3_forgetAllAt_X2 : ∀ w ∈ wsX20, w ∈ wsX3_forgetAllAt := fun _ h => List.mem_cons_of_mem _ (List.mem_append_right _ h)
set_option maxRecDepth 100000 in
set_option maxHeartbeats 4000000 in
theorem e_X3_forgetAllAt (l : Launch) (dC : Nat → ClassId) (dI : Nat → Nat → Nat) (dA : Nat → ClassId) (κ : Nat → Nat) (B : Nat) (g : Nat → Nat → Int) (h0 : Nat) (k0 : κ h0 = 10) (p1 : Int32) (hw : hc_wf g) : Met l yX3_forgetAllAt wsX3_forgetAllAt ({ frames := 2, cells := 0, slots := 0, locals := 44 } : Room) (he_Pre dC dI dA κ B g [Value.ref h0, Value.int p1]) (he_Qv dC dI dA κ B (fun u => hg_Q (fun a b => (a = 10 ∧ b = 1) ∨ a = 16) g u ∧ hc_wf u ∧ hc_tab u = hr_np p1.toInt (hc_tab g))) 0 0 (hp_A B) := by
  refine Met.ofW (cc := cX3_forgetAllAt) (maxL := 3) (ret := none) (by decide) rfl ?_
  intro p e s m args below meth c s₁ Bd hml hv
  obtain ⟨rfl, hK, hN, hW, hF⟩ := hv
  have hx := Bd.exec
  have hb := Bd.bytes
  have hr := Bd.returns
  have hts := atoms_spec (ws := wsX3_forgetAllAt) Bd.pre
  have hown : s.vm.findClass RX3 = some m.cls := findClass_of_methodNamed Bd.named
  have hlocks := Bd.notSynchronized
  have hJ : he_J dC dI dA κ B g s.heap s.heap [] := ⟨hF, va_S.rf⟩
  have hl := lv_entry ([Value.ref h0, Value.int p1]) (n := 3) (Nat.le_of_ble_eq_true rfl)
  rw [lg_entry_eq]
  generalize (lg_sl ([Value.ref h0, Value.int p1]) ++ List.replicate (3 - (lg_sl ([Value.ref h0, Value.int p1])).length) Slot.unset).toArray = ls at hl ⊢
  have hl : lv_has ls 3 [(0, .ref h0), (1, .int p1)] := hl
  refine lv_aload_n hx hb dX3_forgetAllAt_0 rfl (lv_at hl 0 rfl) ?_
  refine he_geti (C := RX3) (T := TX3) (N := 2) (ci := 3) (kd := 10) hx hb hts iX3_forgetAllAt_X3 hown hK hJ k0 rfl rfl 1 (by decide) (hts (.fieldLink RX3 18 "NeighborBook$Neighbors" "size" "I") (List.mem_of_getElem? (i := 1) rfl)) (fun _ h9 => h9) rfl rfl dX3_forgetAllAt_1 (fun x1 ex1 => ?_)
  have ex1 : x1.toInt = g 10 1 ∧ 0 ≤ x1.toInt ∧ x1.toInt ≤ 12 := ex1
  refine hq_iconst hx hb dX3_forgetAllAt_4 (by decide) (by decide) (fun z2 ez2 => ?_)
  refine hq_isub hx hb dX3_forgetAllAt_5 (by omega) (by omega) (fun x3 ex3 => ?_)
  refine lv_istore_n (lv' := [(2, .int x3), (0, .ref h0), (1, .int p1)]) hx hb dX3_forgetAllAt_6 rfl hl (by decide) rfl (fun ls hl => ?_)
  have lp6 : ∀ (nlp6 : Nat) (v4 : Int32) (g5 : Nat → Nat → Int) (H : Heap) (locs : List Loc) (ls : Array Slot), (hg_Q (fun a b => (a = 10 ∧ b = 1) ∨ a = 16) g g5) → (-1 ≤ v4.toInt) → (v4.toInt < 12) → (v4.toInt < g5 10 1) → (g5 10 1 ≤ 12 ∧ v4.toInt < g 10 1) → (hc_wf g5) → (hc_tab g5 = (hc_tab g).take (v4.toInt + 1).toNat ++ hr_np p1.toInt ((hc_tab g).drop (v4.toInt + 1).toNat)) → (v4.toInt + 2 < (nlp6 : Int)) → he_J dC dI dA κ B g5 s.heap H locs → lv_has ls 3 [(0, .ref h0), (1, .int p1), (2, .int v4)] → W p l e (headSpec wsX3_forgetAllAt ({ frames := 2, cells := 0, slots := 0, locals := 44 } : Room)).room s m ([Value.ref h0, Value.int p1] : List Value).toArray below meth c H locs 0 0 (MQ below (he_Qv dC dI dA κ B (fun u => hg_Q (fun a b => (a = 10 ∧ b = 1) ∨ a = 16) g u ∧ hc_wf u ∧ hc_tab u = hr_np p1.toInt (hc_tab g))) ([Value.ref h0, Value.int p1] : List Value).toArray s 0 0 (hp_A B)) (F0 m 7 ls []) := by
    intro nlp6
    induction nlp6 with
    | zero => intro v4 g5 H locs ls iv8 iv9 iv10 iv11 iv12 iv13 iv14 hm7 hJ hl; exact absurd hm7 (by omega)
    | succ nlp6 ihlp6 =>
      intro v4 g5 H locs ls iv8 iv9 iv10 iv11 iv12 iv13 iv14 hm7 hJ hl
      refine lv_iload_n hx hb dX3_forgetAllAt_7 rfl (lv_at hl 2 rfl) ?_
      refine hq_if_lt (tgt := 35) hx hb dX3_forgetAllAt_8 (by decide) (fun c15 => ?_) (fun c15 => ?_)
      · exact he_vret hx hb hK hN hW hlocks hJ hr ⟨iv8, iv13, by rw [iv14, show (v4.toInt + 1).toNat = 0 by omega]; rfl⟩ dX3_forgetAllAt_35
      · refine lv_aload_n hx hb dX3_forgetAllAt_11 rfl (lv_at hl 0 rfl) ?_
        refine he_getr (C := RX3) (T := TX3) (N := 2) (ci := 3) (kd := 10) hx hb hts iX3_forgetAllAt_X3 hown hK hJ k0 rfl rfl 0 (by decide) (hts (.fieldLink RX3 11 "NeighborBook$Neighbors" "rows" "[LNeighborBook$Neighbor;") (List.mem_of_getElem? (i := 2) rfl)) (fun _ h9 => h9) rfl dX3_forgetAllAt_12 (fun b16 kb16 => ?_)
        refine lv_iload_n hx hb dX3_forgetAllAt_15 rfl (lv_at hl 2 rfl) ?_
        refine he_aaldn (kd := 16) (n := 12) hx hb hK hJ kb16 rfl (by omega) (by omega) rfl dX3_forgetAllAt_16 (fun b17 j18 hj18 kb17 ej18 => ?_)
        have ej18 : g5 16 v4.toInt.toNat = 300 + (j18 : Int) := ej18
        have hvl : v4.toInt.toNat < (hc_tab g).length := by rw [hc_tab_len]; omega
        have hTv := iv14
        rw [show (v4.toInt + 1).toNat = v4.toInt.toNat + 1 by omega] at hTv
        have hlk := hr_look hTv (by omega) ej18 hvl
        refine he_calli (va_runV (As := []) (rest := []) ⟨hx, hb, hml, hown, hts⟩ (e_X2_portOf l dC dI dA κ B g5 (j18) (by omega) b17 kb17) (cwV 0 hts gX3_forgetAllAt_X2_portOf rfl rfl rfl (by decide +kernel) ⟨Nat.le_of_ble_eq_true rfl, Nat.le_of_ble_eq_true rfl⟩) (he_preV (q := (RX2, TX2, 4)) [] hK hN hW hJ kb17 (hk_t300 (by omega)) rfl) rfl rfl hl.1 rfl (lv_room (Nat.le_of_ble_eq_true rfl)) dX3_forgetAllAt_17 ⟨Nat.zero_le _, Nat.zero_le _⟩) hJ (fun x20 g19 H locs hp hJ => ?_)
        obtain ⟨rfl, f21⟩ := hp
        refine lv_iload_n hx hb dX3_forgetAllAt_20 rfl (lv_at hl 1 rfl) ?_
        refine hq_icmp_ne (tgt := 29) hx hb dX3_forgetAllAt_21 (by decide) (fun c22 => ?_) (fun c22 => ?_)
        · have hwn := iv13
          have hT : hc_tab g5 = (hc_tab g).take v4.toInt.toNat ++ hr_np p1.toInt ((hc_tab g).drop v4.toInt.toNat) := by
            rw [hTv]
            exact hr_np_k hvl (by rw [hlk]; show g5 (300 + j18) 1 ≠ p1.toInt; omega)
          refine hq_iinc (k := 2) (lv' := fun (z9 : Int32) => [(2, .int z9), (0, .ref h0), (1, .int p1)]) hx hb dX3_forgetAllAt_29 hl rfl (by decide) (by decide) (by omega) (by omega) (by decide) (fun _ => rfl) (fun x23 ls ex23 hl => ?_)
          have hl : lv_has ls 3 [(2, .int x23), (0, .ref h0), (1, .int p1)] := hl
          refine lv_goto (tgt := 7) hx hb dX3_forgetAllAt_32 (by decide) ?_
          exact ihlp6 x23 g5 _ _ ls iv8 (by omega) (by omega) (by omega) (by omega) hwn (by rw [show (x23.toInt + 1).toNat = v4.toInt.toNat by omega]; exact hT) (by omega) hJ (lv_sub hl [1, 2, 0] rfl)
        · refine lv_aload_n hx hb dX3_forgetAllAt_24 rfl (lv_at hl 0 rfl) ?_
          refine lv_iload_n hx hb dX3_forgetAllAt_25 rfl (lv_at hl 2 rfl) ?_
          refine he_callv (va_runV (As := [.int v4]) (rest := []) ⟨hx, hb, hml, hown, hts⟩ (e_X3_forget l dC dI dA κ B g5 h0 k0 v4) (cwV 1 hts gX3_forgetAllAt_X3_forget rfl rfl rfl (by decide +kernel) ⟨Nat.le_of_ble_eq_true rfl, Nat.le_of_ble_eq_true rfl⟩) (he_preV (q := (RX3, TX3, 2)) [.int v4] hK hN hW hJ k0 rfl rfl) rfl rfl hl.1 rfl (lv_room (Nat.le_of_ble_eq_true rfl)) dX3_forgetAllAt_26 ⟨Nat.zero_le _, Nat.zero_le _⟩) hJ (fun g24 H locs hp hJ => ?_)
          obtain ⟨P26a, f25⟩ := hp
          have P26 : hg_Q (fun a b => (a = 10 ∧ b = 1) ∨ a = 16) g g24 := hg_Q.tr iv8 (hg_Q.le P26a (fun a b h9 => by have h9 : (a = 10 ∧ b = 1) ∨ a = 16 := h9; show (a = 10 ∧ b = 1) ∨ a = 16; omega))
          have hfg : hc_fg g5 g24 v4.toInt.toNat := by
            rcases f25.2.2 with h | h
            · exact h.2.2
            · exfalso; omega
          have hn1 := hfg.1
          obtain ⟨hTn, hwn⟩ := hc_forget iv13 (fun a b h9 => P26a a b h9) (by omega) (by omega) hfg
          have hT : hc_tab g24 = (hc_tab g).take v4.toInt.toNat ++ hr_np p1.toInt ((hc_tab g).drop v4.toInt.toNat) := by
            rw [hTn, hTv]
            exact hr_np_e hvl (by rw [hlk]; show g5 (300 + j18) 1 = p1.toInt; omega)
          refine hq_iinc (k := 2) (lv' := fun (z9 : Int32) => [(2, .int z9), (0, .ref h0), (1, .int p1)]) hx hb dX3_forgetAllAt_29 hl rfl (by decide) (by decide) (by omega) (by omega) (by decide) (fun _ => rfl) (fun x27 ls ex27 hl => ?_)
          have hl : lv_has ls 3 [(2, .int x27), (0, .ref h0), (1, .int p1)] := hl
          refine lv_goto (tgt := 7) hx hb dX3_forgetAllAt_32 (by decide) ?_
          exact ihlp6 x27 g24 _ _ ls P26 (by omega) (by omega) (by omega) (by omega) hwn (by rw [show (x27.toInt + 1).toNat = v4.toInt.toNat by omega]; exact hT) (by omega) hJ (lv_sub hl [1, 2, 0] rfl)
  exact lp6 ((x3.toInt + 2).toNat + 1) x3 g _ _ ls hg_Q.rf (by omega) (by omega) (by omega) (by omega) hw (by rw [show (x3.toInt + 1).toNat = (hc_tab g).length by rw [hc_tab_len]; omega, List.take_length, List.drop_length]; exact (List.append_nil _).symm) (by omega) hJ (lv_sub hl [1, 2, 0] rfl)
theorem iX3_passTick_X3 : ∀ w ∈ wsX30, w ∈ wsX3_passTick := fun _ h => List.mem_cons_of_mem _ (List.mem_append_left _ (List.mem_append_right _ h))
theorem iX3_passTick_X2 : ∀ w ∈ wsX20, w ∈ wsX3_passTick := fun _ h => List.mem_cons_of_mem _ (List.mem_append_right _ h)
set_option maxRecDepth 100000 in
set_option maxHeartbeats 4000000 in
theorem e_X3_passTick (l : Launch) (dC : Nat → ClassId) (dI : Nat → Nat → Nat) (dA : Nat → ClassId) (κ : Nat → Nat) (B : Nat) (g : Nat → Nat → Int) (h0 : Nat) (k0 : κ h0 = 10) (hw : hc_wf g) (hlt : ∀ r ∈ hc_tab g, 1 ≤ r.2.1 ∧ r.2.1 ≤ 65535) : Met l yX3_passTick wsX3_passTick ({ frames := 2, cells := 0, slots := 0, locals := 44 } : Room) (he_Pre dC dI dA κ B g [Value.ref h0]) (he_Qv dC dI dA κ B (fun u => hg_Q (fun a b => (a = 10 ∧ b = 1) ∨ a = 16 ∨ (300 ≤ a ∧ a < 312 ∧ b = 2)) g u ∧ hc_wf u ∧ hc_tab u = hr_tk (hc_tab g))) 0 0 (hp_A B) := by
  refine Met.ofW (cc := cX3_passTick) (maxL := 2) (ret := none) (by decide) rfl ?_
  intro p e s m args below meth c s₁ Bd hml hv
  obtain ⟨rfl, hK, hN, hW, hF⟩ := hv
  have hx := Bd.exec
  have hb := Bd.bytes
  have hr := Bd.returns
  have hts := atoms_spec (ws := wsX3_passTick) Bd.pre
  have hown : s.vm.findClass RX3 = some m.cls := findClass_of_methodNamed Bd.named
  have hlocks := Bd.notSynchronized
  have hJ : he_J dC dI dA κ B g s.heap s.heap [] := ⟨hF, va_S.rf⟩
  have hl := lv_entry ([Value.ref h0]) (n := 2) (Nat.le_of_ble_eq_true rfl)
  rw [lg_entry_eq]
  generalize (lg_sl ([Value.ref h0]) ++ List.replicate (2 - (lg_sl ([Value.ref h0])).length) Slot.unset).toArray = ls at hl ⊢
  have hl : lv_has ls 2 [(0, .ref h0)] := hl
  refine lv_aload_n hx hb dX3_passTick_0 rfl (lv_at hl 0 rfl) ?_
  refine he_geti (C := RX3) (T := TX3) (N := 2) (ci := 3) (kd := 10) hx hb hts iX3_passTick_X3 hown hK hJ k0 rfl rfl 1 (by decide) (hts (.fieldLink RX3 18 "NeighborBook$Neighbors" "size" "I") (List.mem_of_getElem? (i := 1) rfl)) (fun _ h9 => h9) rfl rfl dX3_passTick_1 (fun x1 ex1 => ?_)
  have ex1 : x1.toInt = g 10 1 ∧ 0 ≤ x1.toInt ∧ x1.toInt ≤ 12 := ex1
  refine hq_iconst hx hb dX3_passTick_4 (by decide) (by decide) (fun z2 ez2 => ?_)
  refine hq_isub hx hb dX3_passTick_5 (by omega) (by omega) (fun x3 ex3 => ?_)
  refine lv_istore_n (lv' := [(1, .int x3), (0, .ref h0)]) hx hb dX3_passTick_6 rfl hl (by decide) rfl (fun ls hl => ?_)
  have lp6 : ∀ (nlp6 : Nat) (v4 : Int32) (g5 : Nat → Nat → Int) (H : Heap) (locs : List Loc) (ls : Array Slot), (hg_Q (fun a b => (a = 10 ∧ b = 1) ∨ a = 16 ∨ (300 ≤ a ∧ a < 312 ∧ b = 2)) g g5) → (-1 ≤ v4.toInt) → (v4.toInt < 12) → (v4.toInt < g5 10 1) → (g5 10 1 ≤ 12 ∧ v4.toInt < g 10 1) → (hc_wf g5) → (hc_tab g5 = (hc_tab g).take (v4.toInt + 1).toNat ++ hr_tk ((hc_tab g).drop (v4.toInt + 1).toNat)) → (v4.toInt + 2 < (nlp6 : Int)) → he_J dC dI dA κ B g5 s.heap H locs → lv_has ls 2 [(0, .ref h0), (1, .int v4)] → W p l e (headSpec wsX3_passTick ({ frames := 2, cells := 0, slots := 0, locals := 44 } : Room)).room s m ([Value.ref h0] : List Value).toArray below meth c H locs 0 0 (MQ below (he_Qv dC dI dA κ B (fun u => hg_Q (fun a b => (a = 10 ∧ b = 1) ∨ a = 16 ∨ (300 ≤ a ∧ a < 312 ∧ b = 2)) g u ∧ hc_wf u ∧ hc_tab u = hr_tk (hc_tab g))) ([Value.ref h0] : List Value).toArray s 0 0 (hp_A B)) (F0 m 7 ls []) := by
    intro nlp6
    induction nlp6 with
    | zero => intro v4 g5 H locs ls iv8 iv9 iv10 iv11 iv12 iv13 iv14 hm7 hJ hl; exact absurd hm7 (by omega)
    | succ nlp6 ihlp6 =>
      intro v4 g5 H locs ls iv8 iv9 iv10 iv11 iv12 iv13 iv14 hm7 hJ hl
      refine lv_iload_n hx hb dX3_passTick_7 rfl (lv_at hl 1 rfl) ?_
      refine hq_if_lt (tgt := 34) hx hb dX3_passTick_8 (by decide) (fun c15 => ?_) (fun c15 => ?_)
      · exact he_vret hx hb hK hN hW hlocks hJ hr ⟨iv8, iv13, by rw [iv14, show (v4.toInt + 1).toNat = 0 by omega]; rfl⟩ dX3_passTick_34
      · refine lv_aload_n hx hb dX3_passTick_11 rfl (lv_at hl 0 rfl) ?_
        refine he_getr (C := RX3) (T := TX3) (N := 2) (ci := 3) (kd := 10) hx hb hts iX3_passTick_X3 hown hK hJ k0 rfl rfl 0 (by decide) (hts (.fieldLink RX3 11 "NeighborBook$Neighbors" "rows" "[LNeighborBook$Neighbor;") (List.mem_of_getElem? (i := 2) rfl)) (fun _ h9 => h9) rfl dX3_passTick_12 (fun b16 kb16 => ?_)
        refine lv_iload_n hx hb dX3_passTick_15 rfl (lv_at hl 1 rfl) ?_
        refine he_aaldn (kd := 16) (n := 12) hx hb hK hJ kb16 rfl (by omega) (by omega) rfl dX3_passTick_16 (fun b17 j18 hj18 kb17 ej18 => ?_)
        have ej18 : g5 16 v4.toInt.toNat = 300 + (j18 : Int) := ej18
        have hvl : v4.toInt.toNat < (hc_tab g).length := by rw [hc_tab_len]; omega
        have hTv := iv14
        rw [show (v4.toInt + 1).toNat = v4.toInt.toNat + 1 by omega] at hTv
        have hlk := hr_look hTv (by omega) ej18 hvl
        have hlj : 1 ≤ g5 (300 + j18) 2 ∧ g5 (300 + j18) 2 ≤ 65535 := by
          have h9 := hlt _ (List.getElem_mem hvl)
          rw [hlk] at h9
          exact h9
        refine he_calli (va_runV (As := []) (rest := []) ⟨hx, hb, hml, hown, hts⟩ (e_X2_passTick l dC dI dA κ B g5 (j18) (by omega) b17 kb17 (by omega) (by omega)) (cwV 0 hts gX3_passTick_X2_passTick rfl rfl rfl (by decide +kernel) ⟨Nat.le_of_ble_eq_true rfl, Nat.le_of_ble_eq_true rfl⟩) (he_preV (q := (RX2, TX2, 4)) [] hK hN hW hJ kb17 (hk_t300 (by omega)) rfl) rfl rfl hl.1 rfl (lv_room (Nat.le_of_ble_eq_true rfl)) dX3_passTick_17 ⟨Nat.zero_le _, Nat.zero_le _⟩) hJ (fun x20 g19 H locs hp hJ => ?_)
        obtain ⟨P22a, f21⟩ := hp
        have P22 : hg_Q (fun a b => (a = 10 ∧ b = 1) ∨ a = 16 ∨ (300 ≤ a ∧ a < 312 ∧ b = 2)) g g19 := hg_Q.tr iv8 (hg_Q.le P22a (fun a b h9 => by have h9 : a = 300 + j18 ∧ b = 2 := h9; show (a = 10 ∧ b = 1) ∨ a = 16 ∨ (300 ≤ a ∧ a < 312 ∧ b = 2); omega))
        have qt23 : g19 10 1 = g5 10 1 := P22a 10 1 (show ¬ (10 = 300 + j18 ∧ 1 = 2) from by omega)
        have htk := hc_tick iv13 hTv hvl (by omega) (by omega) ej18 hj18 (fun a b h9 => P22a a b h9) f21.1
        refine hq_if_eq (tgt := 28) hx hb dX3_passTick_20 (by decide) (fun c24 => ?_) (fun c24 => ?_)
        · have hwn := htk.1
          have hT := htk.2.2 (by omega)
          refine hq_iinc (k := 1) (lv' := fun (z9 : Int32) => [(1, .int z9), (0, .ref h0)]) hx hb dX3_passTick_28 hl rfl (by decide) (by decide) (by omega) (by omega) (by decide) (fun _ => rfl) (fun x25 ls ex25 hl => ?_)
          have hl : lv_has ls 2 [(1, .int x25), (0, .ref h0)] := hl
          refine lv_goto (tgt := 7) hx hb dX3_passTick_31 (by decide) ?_
          exact ihlp6 x25 g19 _ _ ls P22 (by omega) (by omega) (by omega) (by omega) hwn (by rw [show (x25.toInt + 1).toNat = v4.toInt.toNat by omega]; exact hT) (by omega) hJ (lv_sub hl [1, 0] rfl)
        · refine lv_aload_n hx hb dX3_passTick_23 rfl (lv_at hl 0 rfl) ?_
          refine lv_iload_n hx hb dX3_passTick_24 rfl (lv_at hl 1 rfl) ?_
          refine he_callv (va_runV (As := [.int v4]) (rest := []) ⟨hx, hb, hml, hown, hts⟩ (e_X3_forget l dC dI dA κ B g19 h0 k0 v4) (cwV 1 hts gX3_passTick_X3_forget rfl rfl rfl (by decide +kernel) ⟨Nat.le_of_ble_eq_true rfl, Nat.le_of_ble_eq_true rfl⟩) (he_preV (q := (RX3, TX3, 2)) [.int v4] hK hN hW hJ k0 rfl rfl) rfl rfl hl.1 rfl (lv_room (Nat.le_of_ble_eq_true rfl)) dX3_passTick_25 ⟨Nat.zero_le _, Nat.zero_le _⟩) hJ (fun g26 H locs hp hJ => ?_)
          obtain ⟨P28a, f27⟩ := hp
          have P28 : hg_Q (fun a b => (a = 10 ∧ b = 1) ∨ a = 16 ∨ (300 ≤ a ∧ a < 312 ∧ b = 2)) g g26 := hg_Q.tr P22 (hg_Q.le P28a (fun a b h9 => by have h9 : (a = 10 ∧ b = 1) ∨ a = 16 := h9; show (a = 10 ∧ b = 1) ∨ a = 16 ∨ (300 ≤ a ∧ a < 312 ∧ b = 2); omega))
          have hfg : hc_fg g19 g26 v4.toInt.toNat := by
            rcases f27.2.2 with h | h
            · exact h.2.2
            · exfalso; omega
          have hn1 := hfg.1
          obtain ⟨hTn, hwn⟩ := hc_forget htk.1 (fun a b h9 => P28a a b h9) (by omega) (by omega) hfg
          have hT : hc_tab g26 = (hc_tab g).take v4.toInt.toNat ++ hr_tk ((hc_tab g).drop v4.toInt.toNat) := by
            rw [hTn, htk.2.1, hl_es, hTv]
            exact hr_tk_e hvl (by rw [hlk]; show g5 (300 + j18) 2 ≤ 1; omega)
          refine hq_iinc (k := 1) (lv' := fun (z9 : Int32) => [(1, .int z9), (0, .ref h0)]) hx hb dX3_passTick_28 hl rfl (by decide) (by decide) (by omega) (by omega) (by decide) (fun _ => rfl) (fun x29 ls ex29 hl => ?_)
          have hl : lv_has ls 2 [(1, .int x29), (0, .ref h0)] := hl
          refine lv_goto (tgt := 7) hx hb dX3_passTick_31 (by decide) ?_
          exact ihlp6 x29 g26 _ _ ls P28 (by omega) (by omega) (by omega) (by omega) hwn (by rw [show (x29.toInt + 1).toNat = v4.toInt.toNat by omega]; exact hT) (by omega) hJ (lv_sub hl [1, 0] rfl)
  exact lp6 ((x3.toInt + 2).toNat + 1) x3 g _ _ ls hg_Q.rf (by omega) (by omega) (by omega) (by omega) hw (by rw [show (x3.toInt + 1).toNat = (hc_tab g).length by rw [hc_tab_len]; omega, List.take_length, List.drop_length]; exact (List.append_nil _).symm) (by omega) hJ (lv_sub hl [1, 0] rfl)
