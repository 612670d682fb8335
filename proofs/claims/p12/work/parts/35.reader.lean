theorem iX1_contents_X1 : ∀ w ∈ wsX10, w ∈ wsX1_contents := fun _ h => List.mem_cons_of_mem _ (List.mem_append_right _ h)
set_option maxRecDepth 100000 in
set_option maxHeartbeats 4000000 in
theorem e_X1_contents (l : Launch) (dC : Nat → ClassId) (dI : Nat → Nat → Nat) (dA : Nat → ClassId) (κ : Nat → Nat) (B : Nat) (g : Nat → Nat → Int) (h0 : Nat) (k0 : κ h0 = 3) : Met l yX1_contents wsX1_contents ({ frames := 0, cells := 0, slots := 0, locals := 0 } : Room) (he_Pre dC dI dA κ B g [Value.ref h0]) (he_Qr dC dI dA κ B (g 3 0).toNat (fun u => g = u ∧ 320 ≤ g 3 0 ∧ g 3 0 < 333)) 0 0 (hp_A B) := by
  refine Met.ofW (cc := cX1_contents) (maxL := 1) (ret := (some (.object "NeighborBook$Contents"))) (by decide) rfl ?_
  intro p e s m args below meth c s₁ Bd hml hv
  obtain ⟨rfl, hK, hN, hW, hF⟩ := hv
  have hx := Bd.exec
  have hb := Bd.bytes
  have hr := Bd.returns
  have hts := atoms_spec (ws := wsX1_contents) Bd.pre
  have hown : s.vm.findClass RX1 = some m.cls := findClass_of_methodNamed Bd.named
  have hlocks := Bd.notSynchronized
  have hJ : he_J dC dI dA κ B g s.heap s.heap [] := ⟨hF, va_S.rf⟩
  have hl := lv_entry ([Value.ref h0]) (n := 1) (Nat.le_of_ble_eq_true rfl)
  rw [lg_entry_eq]
  generalize (lg_sl ([Value.ref h0]) ++ List.replicate (1 - (lg_sl ([Value.ref h0])).length) Slot.unset).toArray = ls at hl ⊢
  have hl : lv_has ls 1 [(0, .ref h0)] := hl
  refine lv_aload_n hx hb dX1_contents_0 rfl (lv_at hl 0 rfl) ?_
  refine he_getc (C := RX1) (T := TX1) (N := 2) (ci := 1) (kd := 3) hx hb hts iX1_contents_X1 hown hK hJ k0 rfl rfl 0 (by decide) (hts (.fieldLink RX1 12 "NeighborBook$FrameReader" "contents" "LNeighborBook$Contents;") (List.mem_of_getElem? (i := 1) rfl)) (fun _ h9 => h9) rfl dX1_contents_1 (fun b1 c2 hc2 kb1 ec2 => ?_)
  have ec2 : g 3 0 = 320 + (c2 : Int) := ec2
  exact he_aret hx hb hK hN hW hlocks hJ hr (by rw [kb1]; omega) ⟨rfl, by omega⟩ dX1_contents_4
theorem iX1_held_X1 : ∀ w ∈ wsX10, w ∈ wsX1_held := fun _ h => List.mem_cons_of_mem _ (List.mem_append_right _ h)
set_option maxRecDepth 100000 in
set_option maxHeartbeats 4000000 in
theorem e_X1_held (l : Launch) (dC : Nat → ClassId) (dI : Nat → Nat → Nat) (dA : Nat → ClassId) (κ : Nat → Nat) (B : Nat) (g : Nat → Nat → Int) (h0 : Nat) (k0 : κ h0 = 3) : Met l yX1_held wsX1_held ({ frames := 0, cells := 0, slots := 0, locals := 0 } : Room) (he_Pre dC dI dA κ B g [Value.ref h0]) (he_Qi dC dI dA κ B (fun r u => g = u ∧ r.toInt = g 3 1 ∧ 0 ≤ r.toInt ∧ r.toInt ≤ 65535)) 0 0 (hp_A B) := by
  refine Met.ofW (cc := cX1_held) (maxL := 1) (ret := (some .int)) (by decide) rfl ?_
  intro p e s m args below meth c s₁ Bd hml hv
  obtain ⟨rfl, hK, hN, hW, hF⟩ := hv
  have hx := Bd.exec
  have hb := Bd.bytes
  have hr := Bd.returns
  have hts := atoms_spec (ws := wsX1_held) Bd.pre
  have hown : s.vm.findClass RX1 = some m.cls := findClass_of_methodNamed Bd.named
  have hlocks := Bd.notSynchronized
  have hJ : he_J dC dI dA κ B g s.heap s.heap [] := ⟨hF, va_S.rf⟩
  have hl := lv_entry ([Value.ref h0]) (n := 1) (Nat.le_of_ble_eq_true rfl)
  rw [lg_entry_eq]
  generalize (lg_sl ([Value.ref h0]) ++ List.replicate (1 - (lg_sl ([Value.ref h0])).length) Slot.unset).toArray = ls at hl ⊢
  have hl : lv_has ls 1 [(0, .ref h0)] := hl
  refine lv_aload_n hx hb dX1_held_0 rfl (lv_at hl 0 rfl) ?_
  refine he_geti (C := RX1) (T := TX1) (N := 2) (ci := 1) (kd := 3) hx hb hts iX1_held_X1 hown hK hJ k0 rfl rfl 1 (by decide) (hts (.fieldLink RX1 18 "NeighborBook$FrameReader" "held" "I") (List.mem_of_getElem? (i := 1) rfl)) (fun _ h9 => h9) rfl rfl dX1_held_1 (fun x1 ex1 => ?_)
  have ex1 : x1.toInt = g 3 1 ∧ 0 ≤ x1.toInt ∧ x1.toInt ≤ 65535 := ex1
  exact he_iret hx hb hK hN hW hlocks hJ hr ⟨rfl, by omega⟩ dX1_held_4
theorem iX1_useNext_X1 : ∀ w ∈ wsX10, w ∈ wsX1_useNext := fun _ h => List.mem_cons_of_mem _ (List.mem_append_right _ h)
set_option maxRecDepth 100000 in
set_option maxHeartbeats 4000000 in
theorem e_X1_useNext (l : Launch) (dC : Nat → ClassId) (dI : Nat → Nat → Nat) (dA : Nat → ClassId) (κ : Nat → Nat) (B : Nat) (g : Nat → Nat → Int) (cd : Nat) (hcd : cd < 13) (h0 : Nat) (k0 : κ h0 = 3) (spare : Nat) (kspare : κ spare = 320 + cd) : Met l yX1_useNext wsX1_useNext ({ frames := 0, cells := 0, slots := 0, locals := 0 } : Room) (he_Pre dC dI dA κ B g [Value.ref h0, Value.ref spare]) (he_Qv dC dI dA κ B (fun u => hg_Q (fun a b => a = 3 ∧ b = 0) g u ∧ u 3 0 = 320 + (cd : Int))) 0 0 (hp_A B) := by
  refine Met.ofW (cc := cX1_useNext) (maxL := 2) (ret := none) (by decide) rfl ?_
  intro p e s m args below meth c s₁ Bd hml hv
  obtain ⟨rfl, hK, hN, hW, hF⟩ := hv
  have hx := Bd.exec
  have hb := Bd.bytes
  have hr := Bd.returns
  have hts := atoms_spec (ws := wsX1_useNext) Bd.pre
  have hown : s.vm.findClass RX1 = some m.cls := findClass_of_methodNamed Bd.named
  have hlocks := Bd.notSynchronized
  have hJ : he_J dC dI dA κ B g s.heap s.heap [] := ⟨hF, va_S.rf⟩
  have hl := lv_entry ([Value.ref h0, Value.ref spare]) (n := 2) (Nat.le_of_ble_eq_true rfl)
  rw [lg_entry_eq]
  generalize (lg_sl ([Value.ref h0, Value.ref spare]) ++ List.replicate (2 - (lg_sl ([Value.ref h0, Value.ref spare])).length) Slot.unset).toArray = ls at hl ⊢
  have hl : lv_has ls 2 [(0, .ref h0), (1, .ref spare)] := hl
  refine lv_aload_n hx hb dX1_useNext_0 rfl (lv_at hl 0 rfl) ?_
  refine lv_aload_n hx hb dX1_useNext_1 rfl (lv_at hl 1 rfl) ?_
  refine he_putc (C := RX1) (T := TX1) (N := 2) (ci := 1) (kd := 3) hx hb hts iX1_useNext_X1 hown hK hJ k0 rfl rfl 0 (by decide) (hts (.fieldLink RX1 12 "NeighborBook$FrameReader" "contents" "LNeighborBook$Contents;") (List.mem_of_getElem? (i := 1) rfl)) (fun _ h9 => h9) tyX1 tyX1_ok nmX1 (b := spare) rfl rfl (by decide) hW rfl rfl rfl (c9 := cd) kspare (by omega) dX1_useNext_2 (fun g1 H locs eg1 ng1 hJ => ?_)
  have eg1 : g1 3 0 = 320 + ((cd : Nat) : Int) := eg1
  have P2 : hg_Q (fun a b => a = 3 ∧ b = 0) g g1 := hg_Q.put hg_Q.rf ng1 (show 3 = 3 ∧ 0 = 0 from by omega)
  exact he_vret hx hb hK hN hW hlocks hJ hr ⟨P2, eg1⟩ dX1_useNext_5
set_option maxRecDepth 100000 in
set_option maxHeartbeats 4000000 in
theorem e_X1_pairAt (l : Launch) (dC : Nat → ClassId) (dI : Nat → Nat → Nat) (dA : Nat → ClassId) (κ : Nat → Nat) (B : Nat) (g : Nat → Nat → Int) (frame : Nat) (kframe : κ frame = 12) (at_ : Int32) (hat : at_.toInt ≤ 1000000) : Met l yX1_pairAt wsX1_pairAt ({ frames := 0, cells := 0, slots := 0, locals := 0 } : Room) (he_Pre dC dI dA κ B g [Value.ref frame, Value.int at_]) (he_Qi dC dI dA κ B (fun r u => g = u ∧ ((0 ≤ at_.toInt ∧ at_.toInt < 699 ∧ r.toInt = (g 12 at_.toInt.toNat % 256) * 256 + g 12 (at_.toInt.toNat + 1) % 256) ∨ ((at_.toInt < 0 ∨ 699 ≤ at_.toInt) ∧ r.toInt = 0)) ∧ 0 ≤ r.toInt ∧ r.toInt ≤ 65535)) 0 0 (hp_A B) := by
  refine Met.ofW (cc := cX1_pairAt) (maxL := 2) (ret := (some .int)) (by decide) rfl ?_
  intro p e s m args below meth c s₁ Bd hml hv
  obtain ⟨rfl, hK, hN, hW, hF⟩ := hv
  have hx := Bd.exec
  have hb := Bd.bytes
  have hr := Bd.returns
  have hts := atoms_spec (ws := wsX1_pairAt) Bd.pre
  have hown : s.vm.findClass RX1 = some m.cls := findClass_of_methodNamed Bd.named
  have hlocks := Bd.notSynchronized
  have hJ : he_J dC dI dA κ B g s.heap s.heap [] := ⟨hF, va_S.rf⟩
  have hl := lv_entry ([Value.ref frame, Value.int at_]) (n := 2) (Nat.le_of_ble_eq_true rfl)
  rw [lg_entry_eq]
  generalize (lg_sl ([Value.ref frame, Value.int at_]) ++ List.replicate (2 - (lg_sl ([Value.ref frame, Value.int at_])).length) Slot.unset).toArray = ls at hl ⊢
  have hl : lv_has ls 2 [(0, .ref frame), (1, .int at_)] := hl
  refine lv_iload_n hx hb dX1_pairAt_0 rfl (lv_at hl 1 rfl) ?_
  refine hq_if_lt (tgt := 12) hx hb dX1_pairAt_1 (by decide) (fun c1 => ?_) (fun c1 => ?_)
  · refine hq_iconst hx hb dX1_pairAt_12 (by decide) (by decide) (fun z2 ez2 => ?_)
    exact he_iret hx hb hK hN hW hlocks hJ hr ⟨rfl, by omega, by omega⟩ dX1_pairAt_13
  · refine lv_iload_n hx hb dX1_pairAt_4 rfl (lv_at hl 1 rfl) ?_
    refine hq_iconst hx hb dX1_pairAt_5 (by decide) (by decide) (fun z3 ez3 => ?_)
    refine hq_iadd hx hb dX1_pairAt_6 (by omega) (by omega) (fun x4 ex4 => ?_)
    refine lv_aload_n hx hb dX1_pairAt_7 rfl (lv_at hl 0 rfl) ?_
    refine he_alen (q := (dA 1, .byte)) (ty := 1) (n := 700) hx hb hK hJ kframe rfl rfl rfl (by decide) dX1_pairAt_8 (fun x5 ex5 => ?_)
    have ex5 : x5.toInt = 700 := ex5
    refine hq_icmp_lt (tgt := 14) hx hb dX1_pairAt_9 (by decide) (fun c6 => ?_) (fun c6 => ?_)
    · refine lv_aload_n hx hb dX1_pairAt_14 rfl (lv_at hl 0 rfl) ?_
      refine lv_iload_n hx hb dX1_pairAt_15 rfl (lv_at hl 1 rfl) ?_
      refine he_bald (kd := 12) (n := 700) hx hb hK hJ kframe rfl (by omega) (by omega) (sp := (11, 0)) rfl rfl dX1_pairAt_16 (fun x7 ex7 => ?_)
      have ex7 : x7.toInt = g 12 at_.toInt.toNat ∧ -128 ≤ x7.toInt ∧ x7.toInt ≤ 127 := ex7
      refine hq_sipush hx hb dX1_pairAt_17 (by decide) (fun z8 ez8 => ?_)
      refine hq_iand255 hx hb dX1_pairAt_20 ez8 (fun x9 ex9 => ?_)
      refine hq_bipush hx hb dX1_pairAt_21 (by decide) (fun z10 ez10 => ?_)
      refine hq_ishl8e hx hb dX1_pairAt_23 ez10 (by omega) (by omega) (fun x11 ex11 => ?_)
      refine lv_aload_n hx hb dX1_pairAt_24 rfl (lv_at hl 0 rfl) ?_
      refine lv_iload_n hx hb dX1_pairAt_25 rfl (lv_at hl 1 rfl) ?_
      refine hq_iconst hx hb dX1_pairAt_26 (by decide) (by decide) (fun z12 ez12 => ?_)
      refine hq_iadd hx hb dX1_pairAt_27 (by omega) (by omega) (fun x13 ex13 => ?_)
      refine he_bald (kd := 12) (n := 700) hx hb hK hJ kframe rfl (by omega) (by omega) (sp := (11, 0)) rfl rfl dX1_pairAt_28 (fun x14 ex14 => ?_)
      have ex14 : x14.toInt = g 12 x13.toInt.toNat ∧ -128 ≤ x14.toInt ∧ x14.toInt ≤ 127 := ex14
      refine hq_sipush hx hb dX1_pairAt_29 (by decide) (fun z15 ez15 => ?_)
      refine hq_iand255 hx hb dX1_pairAt_32 ez15 (fun x16 ex16 => ?_)
      refine hq_ior16 hx hb dX1_pairAt_33 (m9 := x9.toInt) (by omega) (by omega) (by omega) (by omega) (by omega) (fun x17 ex17 => ?_)
      have hi1 : at_.toInt.toNat + 1 = x13.toInt.toNat := by omega
      exact he_iret hx hb hK hN hW hlocks hJ hr ⟨rfl, Or.inl ⟨by omega, by omega, by rw [hi1]; omega⟩, by omega⟩ dX1_pairAt_34
    · refine hq_iconst hx hb dX1_pairAt_12 (by decide) (by decide) (fun z18 ez18 => ?_)
      exact he_iret hx hb hK hN hW hlocks hJ hr ⟨rfl, by omega, by omega⟩ dX1_pairAt_13
set_option maxRecDepth 100000 in
set_option maxHeartbeats 4000000 in
theorem e_X1_isOutOfOrder (l : Launch) (dC : Nat → ClassId) (dI : Nat → Nat → Nat) (dA : Nat → ClassId) (κ : Nat → Nat) (B : Nat) (g : Nat → Nat → Int) (part : Int32) (type : Int32) (hpt : part.toInt ≤ 1000000) (hpt0 : 0 ≤ part.toInt) : Met l yX1_isOutOfOrder wsX1_isOutOfOrder ({ frames := 0, cells := 0, slots := 0, locals := 0 } : Room) (he_Pre dC dI dA κ B g [Value.int part, Value.int type]) (he_Qi dC dI dA κ B (fun r u => g = u ∧ ((r.toInt = 1 ∧ ((part.toInt < 3 ∧ type.toInt ≠ part.toInt + 1) ∨ (3 ≤ part.toInt ∧ 1 ≤ type.toInt ∧ type.toInt ≤ 3))) ∨ (r.toInt = 0 ∧ ¬ ((part.toInt < 3 ∧ type.toInt ≠ part.toInt + 1) ∨ (3 ≤ part.toInt ∧ 1 ≤ type.toInt ∧ type.toInt ≤ 3)))))) 0 0 (hp_A B) := by
  refine Met.ofW (cc := cX1_isOutOfOrder) (maxL := 2) (ret := (some .boolean)) (by decide) rfl ?_
  intro p e s m args below meth c s₁ Bd hml hv
  obtain ⟨rfl, hK, hN, hW, hF⟩ := hv
  have hx := Bd.exec
  have hb := Bd.bytes
  have hr := Bd.returns
  have hts := atoms_spec (ws := wsX1_isOutOfOrder) Bd.pre
  have hown : s.vm.findClass RX1 = some m.cls := findClass_of_methodNamed Bd.named
  have hlocks := Bd.notSynchronized
  have hJ : he_J dC dI dA κ B g s.heap s.heap [] := ⟨hF, va_S.rf⟩
  have hl := lv_entry ([Value.int part, Value.int type]) (n := 2) (Nat.le_of_ble_eq_true rfl)
  rw [lg_entry_eq]
  generalize (lg_sl ([Value.int part, Value.int type]) ++ List.replicate (2 - (lg_sl ([Value.int part, Value.int type])).length) Slot.unset).toArray = ls at hl ⊢
  have hl : lv_has ls 2 [(0, .int part), (1, .int type)] := hl
  refine lv_iload_n hx hb dX1_isOutOfOrder_0 rfl (lv_at hl 0 rfl) ?_
  refine hq_iconst hx hb dX1_isOutOfOrder_1 (by decide) (by decide) (fun z1 ez1 => ?_)
  refine hq_icmp_ge (tgt := 18) hx hb dX1_isOutOfOrder_2 (by decide) (fun c2 => ?_) (fun c2 => ?_)
  · refine lv_iload_n hx hb dX1_isOutOfOrder_18 rfl (lv_at hl 1 rfl) ?_
    refine hq_iconst hx hb dX1_isOutOfOrder_19 (by decide) (by decide) (fun z3 ez3 => ?_)
    refine hq_icmp_lt (tgt := 32) hx hb dX1_isOutOfOrder_20 (by decide) (fun c4 => ?_) (fun c4 => ?_)
    · refine hq_iconst hx hb dX1_isOutOfOrder_32 (by decide) (by decide) (fun z5 ez5 => ?_)
      exact he_zret hx hb hK hN hW hlocks hJ hr (by omega) ⟨rfl, by omega⟩ dX1_isOutOfOrder_33
    · refine lv_iload_n hx hb dX1_isOutOfOrder_23 rfl (lv_at hl 1 rfl) ?_
      refine hq_iconst hx hb dX1_isOutOfOrder_24 (by decide) (by decide) (fun z6 ez6 => ?_)
      refine hq_icmp_gt (tgt := 32) hx hb dX1_isOutOfOrder_25 (by decide) (fun c7 => ?_) (fun c7 => ?_)
      · refine hq_iconst hx hb dX1_isOutOfOrder_32 (by decide) (by decide) (fun z8 ez8 => ?_)
        exact he_zret hx hb hK hN hW hlocks hJ hr (by omega) ⟨rfl, by omega⟩ dX1_isOutOfOrder_33
      · refine hq_iconst hx hb dX1_isOutOfOrder_28 (by decide) (by decide) (fun z9 ez9 => ?_)
        refine lv_goto (tgt := 33) hx hb dX1_isOutOfOrder_29 (by decide) ?_
        exact he_zret hx hb hK hN hW hlocks hJ hr (by omega) ⟨rfl, by omega⟩ dX1_isOutOfOrder_33
  · refine lv_iload_n hx hb dX1_isOutOfOrder_5 rfl (lv_at hl 1 rfl) ?_
    refine lv_iload_n hx hb dX1_isOutOfOrder_6 rfl (lv_at hl 0 rfl) ?_
    refine hq_iconst hx hb dX1_isOutOfOrder_7 (by decide) (by decide) (fun z10 ez10 => ?_)
    refine hq_iadd hx hb dX1_isOutOfOrder_8 (by omega) (by omega) (fun x11 ex11 => ?_)
    refine hq_icmp_eq (tgt := 16) hx hb dX1_isOutOfOrder_9 (by decide) (fun c12 => ?_) (fun c12 => ?_)
    · refine hq_iconst hx hb dX1_isOutOfOrder_16 (by decide) (by decide) (fun z13 ez13 => ?_)
      exact he_zret hx hb hK hN hW hlocks hJ hr (by omega) ⟨rfl, by omega⟩ dX1_isOutOfOrder_17
    · refine hq_iconst hx hb dX1_isOutOfOrder_12 (by decide) (by decide) (fun z14 ez14 => ?_)
      refine lv_goto (tgt := 17) hx hb dX1_isOutOfOrder_13 (by decide) ?_
      exact he_zret hx hb hK hN hW hlocks hJ hr (by omega) ⟨rfl, by omega⟩ dX1_isOutOfOrder_17
set_option maxRecDepth 100000 in
set_option maxHeartbeats 4000000 in
theorem e_X1_isWrongSize (l : Launch) (dC : Nat → ClassId) (dI : Nat → Nat → Nat) (dA : Nat → ClassId) (κ : Nat → Nat) (B : Nat) (g : Nat → Nat → Int) (type : Int32) (size : Int32) : Met l yX1_isWrongSize wsX1_isWrongSize ({ frames := 1, cells := 0, slots := 0, locals := 20 } : Room) (he_Pre dC dI dA κ B g [Value.int type, Value.int size]) (he_Qi dC dI dA κ B (fun r u => g = u ∧ ((r.toInt = 1 ∧ ((type.toInt = 0 ∧ size.toInt ≠ 0) ∨ ((type.toInt = 1 ∨ type.toInt = 2) ∧ (size.toInt < 2 ∨ 60 < size.toInt)) ∨ (type.toInt = 3 ∧ size.toInt < 2) ∨ (4 ≤ type.toInt ∧ type.toInt ≤ 8 ∧ 60 < size.toInt))) ∨ (r.toInt = 0 ∧ ¬ ((type.toInt = 0 ∧ size.toInt ≠ 0) ∨ ((type.toInt = 1 ∨ type.toInt = 2) ∧ (size.toInt < 2 ∨ 60 < size.toInt)) ∨ (type.toInt = 3 ∧ size.toInt < 2) ∨ (4 ≤ type.toInt ∧ type.toInt ≤ 8 ∧ 60 < size.toInt)))))) 0 0 (hp_A B) := by
  refine Met.ofW (cc := cX1_isWrongSize) (maxL := 2) (ret := (some .boolean)) (by decide) rfl ?_
  intro p e s m args below meth c s₁ Bd hml hv
  obtain ⟨rfl, hK, hN, hW, hF⟩ := hv
  have hx := Bd.exec
  have hb := Bd.bytes
  have hr := Bd.returns
  have hts := atoms_spec (ws := wsX1_isWrongSize) Bd.pre
  have hown : s.vm.findClass RX1 = some m.cls := findClass_of_methodNamed Bd.named
  have hlocks := Bd.notSynchronized
  have hJ : he_J dC dI dA κ B g s.heap s.heap [] := ⟨hF, va_S.rf⟩
  have hl := lv_entry ([Value.int type, Value.int size]) (n := 2) (Nat.le_of_ble_eq_true rfl)
  rw [lg_entry_eq]
  generalize (lg_sl ([Value.int type, Value.int size]) ++ List.replicate (2 - (lg_sl ([Value.int type, Value.int size])).length) Slot.unset).toArray = ls at hl ⊢
  have hl : lv_has ls 2 [(0, .int type), (1, .int size)] := hl
  refine lv_iload_n hx hb dX1_isWrongSize_0 rfl (lv_at hl 0 rfl) ?_
  refine hq_if_ne (tgt := 14) hx hb dX1_isWrongSize_1 (by decide) (fun c1 => ?_) (fun c1 => ?_)
  · refine lv_iload_n hx hb dX1_isWrongSize_14 rfl (lv_at hl 0 rfl) ?_
    refine hq_iconst hx hb dX1_isWrongSize_15 (by decide) (by decide) (fun z2 ez2 => ?_)
    refine hq_icmp_eq (tgt := 24) hx hb dX1_isWrongSize_16 (by decide) (fun c3 => ?_) (fun c3 => ?_)
    · refine lv_iload_n hx hb dX1_isWrongSize_24 rfl (lv_at hl 1 rfl) ?_
      refine hq_iconst hx hb dX1_isWrongSize_25 (by decide) (by decide) (fun z4 ez4 => ?_)
      refine hq_icmp_lt (tgt := 35) hx hb dX1_isWrongSize_26 (by decide) (fun c5 => ?_) (fun c5 => ?_)
      · refine hq_iconst hx hb dX1_isWrongSize_35 (by decide) (by decide) (fun z6 ez6 => ?_)
        refine lv_goto (tgt := 40) hx hb dX1_isWrongSize_36 (by decide) ?_
        exact he_zret hx hb hK hN hW hlocks hJ hr (by omega) ⟨rfl, by omega⟩ dX1_isWrongSize_40
      · refine lv_iload_n hx hb dX1_isWrongSize_29 rfl (lv_at hl 1 rfl) ?_
        refine hq_bipush hx hb dX1_isWrongSize_30 (by decide) (fun z7 ez7 => ?_)
        refine hq_icmp_le (tgt := 39) hx hb dX1_isWrongSize_32 (by decide) (fun c8 => ?_) (fun c8 => ?_)
        · refine hq_iconst hx hb dX1_isWrongSize_39 (by decide) (by decide) (fun z9 ez9 => ?_)
          exact he_zret hx hb hK hN hW hlocks hJ hr (by omega) ⟨rfl, by omega⟩ dX1_isWrongSize_40
        · refine hq_iconst hx hb dX1_isWrongSize_35 (by decide) (by decide) (fun z10 ez10 => ?_)
          refine lv_goto (tgt := 40) hx hb dX1_isWrongSize_36 (by decide) ?_
          exact he_zret hx hb hK hN hW hlocks hJ hr (by omega) ⟨rfl, by omega⟩ dX1_isWrongSize_40
    · refine lv_iload_n hx hb dX1_isWrongSize_19 rfl (lv_at hl 0 rfl) ?_
      refine hq_iconst hx hb dX1_isWrongSize_20 (by decide) (by decide) (fun z11 ez11 => ?_)
      refine hq_icmp_ne (tgt := 41) hx hb dX1_isWrongSize_21 (by decide) (fun c12 => ?_) (fun c12 => ?_)
      · refine lv_iload_n hx hb dX1_isWrongSize_41 rfl (lv_at hl 0 rfl) ?_
        refine hq_iconst hx hb dX1_isWrongSize_42 (by decide) (by decide) (fun z13 ez13 => ?_)
        refine hq_icmp_ne (tgt := 57) hx hb dX1_isWrongSize_43 (by decide) (fun c14 => ?_) (fun c14 => ?_)
        · refine lv_iload_n hx hb dX1_isWrongSize_57 rfl (lv_at hl 0 rfl) ?_
          refine he_calli (va_runSN (As := [.int type]) (rest := []) ⟨hx, hb, hml, hown, hts⟩ (e_X6_isMore l dC dI dA κ B g type) ⟨va_cnB 1 hts gX1_isWrongSize_X6_isMore_n44 rfl rfl rfl (hN _ (List.mem_of_getElem? (i := 5) rfl)) (hts (.initialized RX6) (List.mem_of_getElem? (i := 2) rfl)) (by decide +kernel) ⟨Nat.le_of_ble_eq_true rfl, Nat.le_of_ble_eq_true rfl⟩, (hts (.static yX6_isMore) (List.mem_of_getElem? (i := 1) rfl)), trivial⟩ (he_preS [.int type] hK hN hW hJ) rfl rfl hl.1 rfl (lv_room (Nat.le_of_ble_eq_true rfl)) dX1_isWrongSize_58 ⟨Nat.zero_le _, Nat.zero_le _⟩) hJ (fun x16 g15 H locs hp hJ => ?_)
          obtain ⟨rfl, f17⟩ := hp
          refine hq_if_eq (tgt := 74) hx hb dX1_isWrongSize_61 (by decide) (fun c18 => ?_) (fun c18 => ?_)
          · refine hq_iconst hx hb dX1_isWrongSize_74 (by decide) (by decide) (fun z19 ez19 => ?_)
            exact he_zret hx hb hK hN hW hlocks hJ hr (by omega) ⟨rfl, by omega⟩ dX1_isWrongSize_75
          · refine lv_iload_n hx hb dX1_isWrongSize_64 rfl (lv_at hl 1 rfl) ?_
            refine hq_bipush hx hb dX1_isWrongSize_65 (by decide) (fun z20 ez20 => ?_)
            refine hq_icmp_le (tgt := 74) hx hb dX1_isWrongSize_67 (by decide) (fun c21 => ?_) (fun c21 => ?_)
            · refine hq_iconst hx hb dX1_isWrongSize_74 (by decide) (by decide) (fun z22 ez22 => ?_)
              exact he_zret hx hb hK hN hW hlocks hJ hr (by omega) ⟨rfl, by omega⟩ dX1_isWrongSize_75
            · refine hq_iconst hx hb dX1_isWrongSize_70 (by decide) (by decide) (fun z23 ez23 => ?_)
              refine lv_goto (tgt := 75) hx hb dX1_isWrongSize_71 (by decide) ?_
              exact he_zret hx hb hK hN hW hlocks hJ hr (by omega) ⟨rfl, by omega⟩ dX1_isWrongSize_75
        · refine lv_iload_n hx hb dX1_isWrongSize_46 rfl (lv_at hl 1 rfl) ?_
          refine hq_iconst hx hb dX1_isWrongSize_47 (by decide) (by decide) (fun z24 ez24 => ?_)
          refine hq_icmp_ge (tgt := 55) hx hb dX1_isWrongSize_48 (by decide) (fun c25 => ?_) (fun c25 => ?_)
          · refine hq_iconst hx hb dX1_isWrongSize_55 (by decide) (by decide) (fun z26 ez26 => ?_)
            exact he_zret hx hb hK hN hW hlocks hJ hr (by omega) ⟨rfl, by omega⟩ dX1_isWrongSize_56
          · refine hq_iconst hx hb dX1_isWrongSize_51 (by decide) (by decide) (fun z27 ez27 => ?_)
            refine lv_goto (tgt := 56) hx hb dX1_isWrongSize_52 (by decide) ?_
            exact he_zret hx hb hK hN hW hlocks hJ hr (by omega) ⟨rfl, by omega⟩ dX1_isWrongSize_56
      · refine lv_iload_n hx hb dX1_isWrongSize_24 rfl (lv_at hl 1 rfl) ?_
        refine hq_iconst hx hb dX1_isWrongSize_25 (by decide) (by decide) (fun z28 ez28 => ?_)
        refine hq_icmp_lt (tgt := 35) hx hb dX1_isWrongSize_26 (by decide) (fun c29 => ?_) (fun c29 => ?_)
        · refine hq_iconst hx hb dX1_isWrongSize_35 (by decide) (by decide) (fun z30 ez30 => ?_)
          refine lv_goto (tgt := 40) hx hb dX1_isWrongSize_36 (by decide) ?_
          exact he_zret hx hb hK hN hW hlocks hJ hr (by omega) ⟨rfl, by omega⟩ dX1_isWrongSize_40
        · refine lv_iload_n hx hb dX1_isWrongSize_29 rfl (lv_at hl 1 rfl) ?_
          refine hq_bipush hx hb dX1_isWrongSize_30 (by decide) (fun z31 ez31 => ?_)
          refine hq_icmp_le (tgt := 39) hx hb dX1_isWrongSize_32 (by decide) (fun c32 => ?_) (fun c32 => ?_)
          · refine hq_iconst hx hb dX1_isWrongSize_39 (by decide) (by decide) (fun z33 ez33 => ?_)
            exact he_zret hx hb hK hN hW hlocks hJ hr (by omega) ⟨rfl, by omega⟩ dX1_isWrongSize_40
          · refine hq_iconst hx hb dX1_isWrongSize_35 (by decide) (by decide) (fun z34 ez34 => ?_)
            refine lv_goto (tgt := 40) hx hb dX1_isWrongSize_36 (by decide) ?_
            exact he_zret hx hb hK hN hW hlocks hJ hr (by omega) ⟨rfl, by omega⟩ dX1_isWrongSize_40
  · refine lv_iload_n hx hb dX1_isWrongSize_4 rfl (lv_at hl 1 rfl) ?_
    refine hq_if_eq (tgt := 12) hx hb dX1_isWrongSize_5 (by decide) (fun c35 => ?_) (fun c35 => ?_)
    · refine hq_iconst hx hb dX1_isWrongSize_12 (by decide) (by decide) (fun z36 ez36 => ?_)
      exact he_zret hx hb hK hN hW hlocks hJ hr (by omega) ⟨rfl, by omega⟩ dX1_isWrongSize_13
    · refine hq_iconst hx hb dX1_isWrongSize_8 (by decide) (by decide) (fun z37 ez37 => ?_)
      refine lv_goto (tgt := 13) hx hb dX1_isWrongSize_9 (by decide) ?_
      exact he_zret hx hb hK hN hW hlocks hJ hr (by omega) ⟨rfl, by omega⟩ dX1_isWrongSize_13
theorem iX1_faultOfPart_X1 : ∀ w ∈ wsX10, w ∈ wsX1_faultOfPart := fun _ h => List.mem_cons_of_mem _ (List.mem_append_left _ (List.mem_append_right _ h))
theorem iX1_faultOfPart_X0 : ∀ w ∈ wsX00, w ∈ wsX1_faultOfPart := fun _ h => List.mem_cons_of_mem _ (List.mem_append_right _ h)
set_option maxRecDepth 100000 in
set_option maxHeartbeats 4000000 in
theorem e_X1_faultOfPart (l : Launch) (dC : Nat → ClassId) (dI : Nat → Nat → Nat) (dA : Nat → ClassId) (κ : Nat → Nat) (B : Nat) (g : Nat → Nat → Int) (h0 : Nat) (k0 : κ h0 = 3) (part : Int32) (type : Int32) (size : Int32) (rest : Int32) (hpt : part.toInt ≤ 1000000) (hpt0 : 0 ≤ part.toInt) : Met l yX1_faultOfPart wsX1_faultOfPart ({ frames := 2, cells := 0, slots := 0, locals := 42 } : Room) (he_Pre dC dI dA κ B g [Value.ref h0, Value.int part, Value.int type, Value.int size, Value.int rest]) (he_Qi dC dI dA κ B (fun r u => g = u ∧ 0 ≤ r.toInt ∧ r.toInt ≤ 4)) 0 0 (hp_A B) := by
  refine Met.ofW (cc := cX1_faultOfPart) (maxL := 5) (ret := (some .int)) (by decide) rfl ?_
  intro p e s m args below meth c s₁ Bd hml hv
  obtain ⟨rfl, hK, hN, hW, hF⟩ := hv
  have hx := Bd.exec
  have hb := Bd.bytes
  have hr := Bd.returns
  have hts := atoms_spec (ws := wsX1_faultOfPart) Bd.pre
  have hown : s.vm.findClass RX1 = some m.cls := findClass_of_methodNamed Bd.named
  have hlocks := Bd.notSynchronized
  have hJ : he_J dC dI dA κ B g s.heap s.heap [] := ⟨hF, va_S.rf⟩
  have hl := lv_entry ([Value.ref h0, Value.int part, Value.int type, Value.int size, Value.int rest]) (n := 5) (Nat.le_of_ble_eq_true rfl)
  rw [lg_entry_eq]
  generalize (lg_sl ([Value.ref h0, Value.int part, Value.int type, Value.int size, Value.int rest]) ++ List.replicate (5 - (lg_sl ([Value.ref h0, Value.int part, Value.int type, Value.int size, Value.int rest])).length) Slot.unset).toArray = ls at hl ⊢
  have hl : lv_has ls 5 [(0, .ref h0), (1, .int part), (2, .int type), (3, .int size), (4, .int rest)] := hl
  refine lv_iload_n hx hb dX1_faultOfPart_0 rfl (lv_at hl 1 rfl) ?_
  refine lv_iload_n hx hb dX1_faultOfPart_1 rfl (lv_at hl 2 rfl) ?_
  refine he_calli (va_runS (As := [.int part, .int type]) (rest := []) ⟨hx, hb, hml, hown, hts⟩ (e_X1_isOutOfOrder l dC dI dA κ B g part type (by omega) (by omega)) (va_cwS 2 hts gX1_faultOfPart_X1_isOutOfOrder rfl rfl rfl (by decide +kernel) ⟨Nat.le_of_ble_eq_true rfl, Nat.le_of_ble_eq_true rfl⟩) (he_preS [.int part, .int type] hK hN hW hJ) rfl rfl hl.1 rfl (lv_room (Nat.le_of_ble_eq_true rfl)) dX1_faultOfPart_2 ⟨Nat.zero_le _, Nat.zero_le _⟩) hJ (fun x2 g1 H locs hp hJ => ?_)
  obtain ⟨rfl, f3⟩ := hp
  refine hq_if_eq (tgt := 10) hx hb dX1_faultOfPart_5 (by decide) (fun c4 => ?_) (fun c4 => ?_)
  · refine lv_iload_n hx hb dX1_faultOfPart_10 rfl (lv_at hl 2 rfl) ?_
    refine lv_iload_n hx hb dX1_faultOfPart_11 rfl (lv_at hl 3 rfl) ?_
    refine he_calli (va_runS (As := [.int type, .int size]) (rest := []) ⟨hx, hb, hml, hown, hts⟩ (e_X1_isWrongSize l dC dI dA κ B g type size) (va_cwS 2 hts gX1_faultOfPart_X1_isWrongSize rfl rfl rfl (by decide +kernel) ⟨Nat.le_of_ble_eq_true rfl, Nat.le_of_ble_eq_true rfl⟩) (he_preS [.int type, .int size] hK hN hW hJ) rfl rfl hl.1 rfl (lv_room (Nat.le_of_ble_eq_true rfl)) dX1_faultOfPart_12 ⟨Nat.zero_le _, Nat.zero_le _⟩) hJ (fun x6 g5 H locs hp hJ => ?_)
    obtain ⟨rfl, f7⟩ := hp
    refine hq_if_eq (tgt := 20) hx hb dX1_faultOfPart_15 (by decide) (fun c8 => ?_) (fun c8 => ?_)
    · refine lv_iload_n hx hb dX1_faultOfPart_20 rfl (lv_at hl 3 rfl) ?_
      refine lv_iload hx hb dX1_faultOfPart_21 (lv_at hl 4 rfl) ?_
      refine hq_icmp_le (tgt := 28) hx hb dX1_faultOfPart_23 (by decide) (fun c9 => ?_) (fun c9 => ?_)
      · refine lv_iload_n hx hb dX1_faultOfPart_28 rfl (lv_at hl 2 rfl) ?_
        refine he_calli (va_runSN (As := [.int type]) (rest := []) ⟨hx, hb, hml, hown, hts⟩ (e_X6_isMore l dC dI dA κ B g type) ⟨va_cnB 1 hts gX1_faultOfPart_X6_isMore_n44 rfl rfl rfl (hN _ (List.mem_of_getElem? (i := 5) rfl)) (hts (.initialized RX6) (List.mem_of_getElem? (i := 10) rfl)) (by decide +kernel) ⟨Nat.le_of_ble_eq_true rfl, Nat.le_of_ble_eq_true rfl⟩, (hts (.static yX6_isMore) (List.mem_of_getElem? (i := 9) rfl)), trivial⟩ (he_preS [.int type] hK hN hW hJ) rfl rfl hl.1 rfl (lv_room (Nat.le_of_ble_eq_true rfl)) dX1_faultOfPart_29 ⟨Nat.zero_le _, Nat.zero_le _⟩) hJ (fun x11 g10 H locs hp hJ => ?_)
        obtain ⟨rfl, f12⟩ := hp
        refine hq_if_eq (tgt := 50) hx hb dX1_faultOfPart_32 (by decide) (fun c13 => ?_) (fun c13 => ?_)
        · refine hq_iconst hx hb dX1_faultOfPart_50 (by decide) (by decide) (fun z14 ez14 => ?_)
          exact he_iret hx hb hK hN hW hlocks hJ hr ⟨rfl, by omega⟩ dX1_faultOfPart_51
        · refine lv_aload_n hx hb dX1_faultOfPart_35 rfl (lv_at hl 0 rfl) ?_
          refine he_getc (C := RX1) (T := TX1) (N := 2) (ci := 1) (kd := 3) hx hb hts iX1_faultOfPart_X1 hown hK hJ k0 rfl rfl 0 (by decide) (hts (.fieldLink RX1 12 "NeighborBook$FrameReader" "contents" "LNeighborBook$Contents;") (List.mem_of_getElem? (i := 1) rfl)) (fun _ h9 => h9) rfl dX1_faultOfPart_36 (fun b15 c16 hc16 kb15 ec16 => ?_)
          have ec16 : g 3 0 = 320 + (c16 : Int) := ec16
          refine lv_iload_n hx hb dX1_faultOfPart_39 rfl (lv_at hl 2 rfl) ?_
          refine he_calli (va_runV (As := [.int type]) (rest := []) ⟨hx, hb, hml, hown, hts⟩ (e_X0_has l dC dI dA κ B g (c16) (by omega) b15 kb15 type) (cwV 1 hts gX1_faultOfPart_X0_has rfl rfl rfl (by decide +kernel) ⟨Nat.le_of_ble_eq_true rfl, Nat.le_of_ble_eq_true rfl⟩) (he_preV (q := (RX0, TX0, 2)) [.int type] hK hN hW hJ kb15 (hk_t320 (by omega)) rfl) rfl rfl hl.1 rfl (lv_room (Nat.le_of_ble_eq_true rfl)) dX1_faultOfPart_40 ⟨Nat.zero_le _, Nat.zero_le _⟩) hJ (fun x18 g17 H locs hp hJ => ?_)
          obtain ⟨rfl, f19⟩ := hp
          refine hq_if_eq (tgt := 50) hx hb dX1_faultOfPart_43 (by decide) (fun c20 => ?_) (fun c20 => ?_)
          · refine hq_iconst hx hb dX1_faultOfPart_50 (by decide) (by decide) (fun z21 ez21 => ?_)
            exact he_iret hx hb hK hN hW hlocks hJ hr ⟨rfl, by omega⟩ dX1_faultOfPart_51
          · refine hq_iconst hx hb dX1_faultOfPart_46 (by decide) (by decide) (fun z22 ez22 => ?_)
            refine lv_goto (tgt := 51) hx hb dX1_faultOfPart_47 (by decide) ?_
            exact he_iret hx hb hK hN hW hlocks hJ hr ⟨rfl, by omega⟩ dX1_faultOfPart_51
      · refine hq_iconst hx hb dX1_faultOfPart_26 (by decide) (by decide) (fun z23 ez23 => ?_)
        exact he_iret hx hb hK hN hW hlocks hJ hr ⟨rfl, by omega⟩ dX1_faultOfPart_27
    · refine hq_iconst hx hb dX1_faultOfPart_18 (by decide) (by decide) (fun z24 ez24 => ?_)
      exact he_iret hx hb hK hN hW hlocks hJ hr ⟨rfl, by omega⟩ dX1_faultOfPart_19
  · refine hq_iconst hx hb dX1_faultOfPart_8 (by decide) (by decide) (fun z25 ez25 => ?_)
    exact he_iret hx hb hK hN hW hlocks hJ hr ⟨rfl, by omega⟩ dX1_faultOfPart_9
theorem iX1_takePart_X1 : ∀ w ∈ wsX10, w ∈ wsX1_takePart := fun _ h => List.mem_cons_of_mem _ (List.mem_append_left _ (List.mem_append_right _ h))
theorem iX1_takePart_X0 : ∀ w ∈ wsX00, w ∈ wsX1_takePart := fun _ h => List.mem_cons_of_mem _ (List.mem_append_right _ h)
set_option maxRecDepth 100000 in
set_option maxHeartbeats 4000000 in
theorem e_X1_takePart (l : Launch) (dC : Nat → ClassId) (dI : Nat → Nat → Nat) (dA : Nat → ClassId) (κ : Nat → Nat) (B : Nat) (g : Nat → Nat → Int) (cq : Nat) (hcq : cq < 13) (h0 : Nat) (k0 : κ h0 = 3) (type : Int32) (frame : Nat) (kframe : κ frame = 12) (start : Int32) (size : Int32) (hst : start.toInt ≤ 1000000) (hcr : g 3 0 = 320 + (cq : Int)) : Met l yX1_takePart wsX1_takePart ({ frames := 3, cells := 0, slots := 0, locals := 64 } : Room) (he_Pre dC dI dA κ B g [Value.ref h0, Value.int type, Value.ref frame, Value.int start, Value.int size]) (he_Qv dC dI dA κ B (fun u => hg_Q (fun a b => ((a = 3 ∧ b = 1) ∨ a = 340 + cq ∨ a = 360 + cq)) g u)) 0 0 (hp_A B) := by
  refine Met.ofW (cc := cX1_takePart) (maxL := 5) (ret := none) (by decide) rfl ?_
  intro p e s m args below meth c s₁ Bd hml hv
  obtain ⟨rfl, hK, hN, hW, hF⟩ := hv
  have hx := Bd.exec
  have hb := Bd.bytes
  have hr := Bd.returns
  have hts := atoms_spec (ws := wsX1_takePart) Bd.pre
  have hown : s.vm.findClass RX1 = some m.cls := findClass_of_methodNamed Bd.named
  have hlocks := Bd.notSynchronized
  have hJ : he_J dC dI dA κ B g s.heap s.heap [] := ⟨hF, va_S.rf⟩
  have hl := lv_entry ([Value.ref h0, Value.int type, Value.ref frame, Value.int start, Value.int size]) (n := 5) (Nat.le_of_ble_eq_true rfl)
  rw [lg_entry_eq]
  generalize (lg_sl ([Value.ref h0, Value.int type, Value.ref frame, Value.int start, Value.int size]) ++ List.replicate (5 - (lg_sl ([Value.ref h0, Value.int type, Value.ref frame, Value.int start, Value.int size])).length) Slot.unset).toArray = ls at hl ⊢
  have hl : lv_has ls 5 [(0, .ref h0), (1, .int type), (2, .ref frame), (3, .int start), (4, .int size)] := hl
  refine lv_iload_n hx hb dX1_takePart_0 rfl (lv_at hl 1 rfl) ?_
  refine hq_iconst hx hb dX1_takePart_1 (by decide) (by decide) (fun z1 ez1 => ?_)
  refine hq_icmp_ne (tgt := 17) hx hb dX1_takePart_2 (by decide) (fun c2 => ?_) (fun c2 => ?_)
  · refine lv_aload_n hx hb dX1_takePart_17 rfl (lv_at hl 0 rfl) ?_
    refine he_getc (C := RX1) (T := TX1) (N := 2) (ci := 1) (kd := 3) hx hb hts iX1_takePart_X1 hown hK hJ k0 rfl rfl 0 (by decide) (hts (.fieldLink RX1 12 "NeighborBook$FrameReader" "contents" "LNeighborBook$Contents;") (List.mem_of_getElem? (i := 2) rfl)) (fun _ h9 => h9) rfl dX1_takePart_18 (fun b3 c4 hc4 kb3 ec4 => ?_)
    have ec4 : g 3 0 = 320 + (c4 : Int) := ec4
    refine lv_iload_n hx hb dX1_takePart_21 rfl (lv_at hl 1 rfl) ?_
    refine lv_aload_n hx hb dX1_takePart_22 rfl (lv_at hl 2 rfl) ?_
    refine lv_iload_n hx hb dX1_takePart_23 rfl (lv_at hl 3 rfl) ?_
    refine lv_iload hx hb dX1_takePart_24 (lv_at hl 4 rfl) ?_
    refine he_callv (va_runV (As := [.int type, .ref frame, .int start, .int size]) (rest := []) ⟨hx, hb, hml, hown, hts⟩ (e_X0_keep l dC dI dA κ B g (c4) (by omega) b3 kb3 type frame kframe start size) (cwV 4 hts gX1_takePart_X0_keep rfl rfl rfl (by decide +kernel) ⟨Nat.le_of_ble_eq_true rfl, Nat.le_of_ble_eq_true rfl⟩) (he_preV (q := (RX0, TX0, 2)) [.int type, .ref frame, .int start, .int size] hK hN hW hJ kb3 (hk_t320 (by omega)) rfl) rfl rfl hl.1 rfl (lv_room (Nat.le_of_ble_eq_true rfl)) dX1_takePart_26 ⟨Nat.zero_le _, Nat.zero_le _⟩) hJ (fun g5 H locs hp hJ => ?_)
    obtain ⟨P7a, f6⟩ := hp
    have P7 : hg_Q (fun a b => ((a = 3 ∧ b = 1) ∨ a = 340 + cq ∨ a = 360 + cq)) g g5 := (hg_Q.le P7a (fun a b h9 => by have h9 : (a = 340 + c4 ∧ b = type.toInt.toNat) ∨ a = 360 + c4 := h9; show ((a = 3 ∧ b = 1) ∨ a = 340 + cq ∨ a = 360 + cq); omega))
    have qt8 : g5 3 0 = g 3 0 := P7a 3 0 (show ¬ ((3 = 340 + c4 ∧ 0 = type.toInt.toNat) ∨ 3 = 360 + c4) from by omega)
    exact he_vret hx hb hK hN hW hlocks hJ hr P7 dX1_takePart_29
  · refine lv_aload_n hx hb dX1_takePart_5 rfl (lv_at hl 0 rfl) ?_
    refine lv_aload_n hx hb dX1_takePart_6 rfl (lv_at hl 2 rfl) ?_
    refine lv_iload_n hx hb dX1_takePart_7 rfl (lv_at hl 3 rfl) ?_
    refine he_calli (va_runS (As := [.ref frame, .int start]) (rest := [.ref h0]) ⟨hx, hb, hml, hown, hts⟩ (e_X1_pairAt l dC dI dA κ B g frame kframe start (by omega)) (va_cwS 2 hts gX1_takePart_X1_pairAt rfl rfl rfl (by decide +kernel) ⟨Nat.le_of_ble_eq_true rfl, Nat.le_of_ble_eq_true rfl⟩) (he_preS [.ref frame, .int start] hK hN hW hJ) rfl rfl hl.1 rfl (lv_room (Nat.le_of_ble_eq_true rfl)) dX1_takePart_8 ⟨Nat.zero_le _, Nat.zero_le _⟩) hJ (fun x10 g9 H locs hp hJ => ?_)
    obtain ⟨rfl, f11⟩ := hp
    refine he_putx (C := RX1) (T := TX1) (N := 2) (ci := 1) (kd := 3) hx hb hts iX1_takePart_X1 hown hK hJ k0 rfl rfl 1 (by decide) (hts (.fieldLink RX1 18 "NeighborBook$FrameReader" "held" "I") (List.mem_of_getElem? (i := 1) rfl)) (fun _ h9 => h9) tyX1 tyX1_ok nmX1 (x := x10) rfl rfl (by decide) hW rfl rfl rfl rfl (show x10.toInt = x10.toInt ∧ 0 ≤ x10.toInt ∧ x10.toInt ≤ 65535 from ⟨rfl, by omega, by omega⟩) dX1_takePart_11 (fun g12 H locs eg12 ng12 hJ => ?_)
    have eg12 : g12 3 1 = x10.toInt := eg12
    have P13 : hg_Q (fun a b => ((a = 3 ∧ b = 1) ∨ a = 340 + cq ∨ a = 360 + cq)) g g12 := hg_Q.put hg_Q.rf ng12 (show ((3 = 3 ∧ 1 = 1) ∨ 3 = 340 + cq ∨ 3 = 360 + cq) from by omega)
    have qt14 : g12 3 0 = g 3 0 := ng12 3 0 (by omega)
    refine lv_goto (tgt := 29) hx hb dX1_takePart_14 (by decide) ?_
    exact he_vret hx hb hK hN hW hlocks hJ hr P13 dX1_takePart_29
theorem iX1_read_X1 : ∀ w ∈ wsX10, w ∈ wsX1_read := fun _ h => List.mem_cons_of_mem _ (List.mem_append_left _ (List.mem_append_right _ h))
theorem iX1_read_X0 : ∀ w ∈ wsX00, w ∈ wsX1_read := fun _ h => List.mem_cons_of_mem _ (List.mem_append_right _ h)
set_option maxRecDepth 100000 in
set_option maxHeartbeats 4000000 in
theorem e_X1_read (l : Launch) (dC : Nat → ClassId) (dI : Nat → Nat → Nat) (dA : Nat → ClassId) (κ : Nat → Nat) (B : Nat) (g : Nat → Nat → Int) (cq : Nat) (hcq : cq < 13) (h0 : Nat) (k0 : κ h0 = 3) (frame : Nat) (kframe : κ frame = 12) (length : Int32) (hl0 : 0 ≤ length.toInt) (hl7 : length.toInt ≤ 700) (hcr : g 3 0 = 320 + (cq : Int)) : Met l yX1_read wsX1_read ({ frames := 4, cells := 0, slots := 0, locals := 88 } : Room) (he_Pre dC dI dA κ B g [Value.ref h0, Value.ref frame, Value.int length]) (he_Qi dC dI dA κ B (fun r u => hg_Q (fun a b => ((a = 3 ∧ b = 1) ∨ a = 340 + cq ∨ a = 360 + cq)) g u)) 0 0 (hp_A B) := by
  refine Met.ofW (cc := cX1_read) (maxL := 10) (ret := (some .int)) (by decide) rfl ?_
  intro p e s m args below meth c s₁ Bd hml hv
  obtain ⟨rfl, hK, hN, hW, hF⟩ := hv
  have hx := Bd.exec
  have hb := Bd.bytes
  have hr := Bd.returns
  have hts := atoms_spec (ws := wsX1_read) Bd.pre
  have hown : s.vm.findClass RX1 = some m.cls := findClass_of_methodNamed Bd.named
  have hlocks := Bd.notSynchronized
  have hJ : he_J dC dI dA κ B g s.heap s.heap [] := ⟨hF, va_S.rf⟩
  have hl := lv_entry ([Value.ref h0, Value.ref frame, Value.int length]) (n := 10) (Nat.le_of_ble_eq_true rfl)
  rw [lg_entry_eq]
  generalize (lg_sl ([Value.ref h0, Value.ref frame, Value.int length]) ++ List.replicate (10 - (lg_sl ([Value.ref h0, Value.ref frame, Value.int length])).length) Slot.unset).toArray = ls at hl ⊢
  have hl : lv_has ls 10 [(0, .ref h0), (1, .ref frame), (2, .int length)] := hl
  refine lv_aload_n hx hb dX1_read_0 rfl (lv_at hl 0 rfl) ?_
  refine he_getc (C := RX1) (T := TX1) (N := 2) (ci := 1) (kd := 3) hx hb hts iX1_read_X1 hown hK hJ k0 rfl rfl 0 (by decide) (hts (.fieldLink RX1 12 "NeighborBook$FrameReader" "contents" "LNeighborBook$Contents;") (List.mem_of_getElem? (i := 1) rfl)) (fun _ h9 => h9) rfl dX1_read_1 (fun b1 c2 hc2 kb1 ec2 => ?_)
  have ec2 : g 3 0 = 320 + (c2 : Int) := ec2
  refine he_callv (va_runV (As := []) (rest := []) ⟨hx, hb, hml, hown, hts⟩ (e_X0_clear l dC dI dA κ B g (c2) (by omega) b1 kb1) (cwV 0 hts gX1_read_X0_clear rfl rfl rfl (by decide +kernel) ⟨Nat.le_of_ble_eq_true rfl, Nat.le_of_ble_eq_true rfl⟩) (he_preV (q := (RX0, TX0, 2)) [] hK hN hW hJ kb1 (hk_t320 (by omega)) rfl) rfl rfl hl.1 rfl (lv_room (Nat.le_of_ble_eq_true rfl)) dX1_read_4 ⟨Nat.zero_le _, Nat.zero_le _⟩) hJ (fun g3 H locs hp hJ => ?_)
  obtain ⟨P5a, f4⟩ := hp
  have P5 : hg_Q (fun a b => ((a = 3 ∧ b = 1) ∨ a = 340 + cq ∨ a = 360 + cq)) g g3 := (hg_Q.le P5a (fun a b h9 => by have h9 : a = 340 + c2 := h9; show ((a = 3 ∧ b = 1) ∨ a = 340 + cq ∨ a = 360 + cq); omega))
  have qt6 : g3 3 0 = g 3 0 := P5a 3 0 (show ¬ (3 = 340 + c2) from by omega)
  refine hq_iconst hx hb dX1_read_7 (by decide) (by decide) (fun z7 ez7 => ?_)
  refine lv_istore_n (lv' := [(3, .int z7), (0, .ref h0), (1, .ref frame), (2, .int length)]) hx hb dX1_read_8 rfl hl (by decide) rfl (fun ls hl => ?_)
  refine hq_iconst hx hb dX1_read_9 (by decide) (by decide) (fun z8 ez8 => ?_)
  refine lv_istore (lv' := [(4, .int z8), (3, .int z7), (0, .ref h0), (1, .ref frame), (2, .int length)]) hx hb dX1_read_10 hl (by decide) rfl (fun ls hl => ?_)
  have lp12 : ∀ (nlp12 : Nat) (v9 : Int32) (v10 : Int32) (g11 : Nat → Nat → Int) (H : Heap) (locs : List Loc) (ls : Array Slot), (hg_Q (fun a b => ((a = 3 ∧ b = 1) ∨ a = 340 + cq ∨ a = 360 + cq)) g g11) → (0 ≤ v9.toInt) → (v9.toInt ≤ 600 * v10.toInt) → (0 ≤ v10.toInt) → (v10.toInt ≤ 351) → (g11 3 0 = 320 + (cq : Int)) → (352 - v10.toInt < (nlp12 : Int)) → he_J dC dI dA κ B g11 s.heap H locs → lv_has ls 10 [(0, .ref h0), (1, .ref frame), (2, .int length), (3, .int v9), (4, .int v10)] → W p l e (headSpec wsX1_read ({ frames := 4, cells := 0, slots := 0, locals := 88 } : Room)).room s m ([Value.ref h0, Value.ref frame, Value.int length] : List Value).toArray below meth c H locs 0 0 (MQ below (he_Qi dC dI dA κ B (fun r u => hg_Q (fun a b => ((a = 3 ∧ b = 1) ∨ a = 340 + cq ∨ a = 360 + cq)) g u)) ([Value.ref h0, Value.ref frame, Value.int length] : List Value).toArray s 0 0 (hp_A B)) (F0 m 12 ls []) := by
    intro nlp12
    induction nlp12 with
    | zero => intro v9 v10 g11 H locs ls iv14 iv15 iv16 iv17 iv18 iv19 hm13 hJ hl; exact absurd hm13 (by omega)
    | succ nlp12 ihlp12 =>
      intro v9 v10 g11 H locs ls iv14 iv15 iv16 iv17 iv18 iv19 hm13 hJ hl
      refine lv_iload hx hb dX1_read_12 (lv_at hl 4 rfl) ?_
      refine hq_sipush hx hb dX1_read_14 (by decide) (fun z20 ez20 => ?_)
      refine hq_icmp_gt (tgt := 108) hx hb dX1_read_17 (by decide) (fun c21 => ?_) (fun c21 => ?_)
      · refine hq_iconst hx hb dX1_read_108 (by decide) (by decide) (fun z22 ez22 => ?_)
        exact he_iret hx hb hK hN hW hlocks hJ hr iv14 dX1_read_109
      · refine lv_iload_n hx hb dX1_read_20 rfl (lv_at hl 2 rfl) ?_
        refine lv_iload_n hx hb dX1_read_21 rfl (lv_at hl 3 rfl) ?_
        refine hq_isub hx hb dX1_read_22 (by omega) (by omega) (fun x23 ex23 => ?_)
        refine hq_iconst hx hb dX1_read_23 (by decide) (by decide) (fun z24 ez24 => ?_)
        refine hq_isub hx hb dX1_read_24 (by omega) (by omega) (fun x25 ex25 => ?_)
        refine lv_istore (lv' := [(5, .int x25), (0, .ref h0), (1, .ref frame), (2, .int length), (3, .int v9), (4, .int v10)]) hx hb dX1_read_25 hl (by decide) rfl (fun ls hl => ?_)
        refine lv_iload hx hb dX1_read_27 (lv_at hl 0 rfl) ?_
        refine hq_if_ge (tgt := 34) hx hb dX1_read_29 (by decide) (fun c26 => ?_) (fun c26 => ?_)
        · refine lv_aload_n hx hb dX1_read_34 rfl (lv_at hl 2 rfl) ?_
          refine lv_iload_n hx hb dX1_read_35 rfl (lv_at hl 4 rfl) ?_
          refine he_calli (va_runS (As := [.ref frame, .int v9]) (rest := []) ⟨hx, hb, hml, hown, hts⟩ (e_X1_pairAt l dC dI dA κ B g11 frame kframe v9 (by omega)) (va_cwS 2 hts gX1_read_X1_pairAt rfl rfl rfl (by decide +kernel) ⟨Nat.le_of_ble_eq_true rfl, Nat.le_of_ble_eq_true rfl⟩) (he_preS [.ref frame, .int v9] hK hN hW hJ) rfl rfl hl.1 rfl (lv_room (Nat.le_of_ble_eq_true rfl)) dX1_read_36 ⟨Nat.zero_le _, Nat.zero_le _⟩) hJ (fun x28 g27 H locs hp hJ => ?_)
          obtain ⟨rfl, f29⟩ := hp
          refine lv_istore (lv' := [(6, .int x28), (5, .int x25), (0, .ref h0), (1, .ref frame), (2, .int length), (3, .int v9), (4, .int v10)]) hx hb dX1_read_39 hl (by decide) rfl (fun ls hl => ?_)
          refine lv_iload hx hb dX1_read_41 (lv_at hl 0 rfl) ?_
          refine hq_bipush hx hb dX1_read_43 (by decide) (fun z30 ez30 => ?_)
          refine hq_ishrU hx hb dX1_read_45 (fun x31 => ?_)
          refine lv_istore (lv' := [(7, .int x31), (6, .int x28), (5, .int x25), (0, .ref h0), (1, .ref frame), (2, .int length), (3, .int v9), (4, .int v10)]) hx hb dX1_read_46 hl (by decide) rfl (fun ls hl => ?_)
          refine lv_iload hx hb dX1_read_48 (lv_at hl 1 rfl) ?_
          refine hq_sipush hx hb dX1_read_50 (by decide) (fun z32 ez32 => ?_)
          refine hq_iandm (k := 9) hx hb dX1_read_53 ez32 (by decide) (fun x33 ex33 => ?_)
          refine lv_istore (lv' := [(8, .int x33), (7, .int x31), (6, .int x28), (5, .int x25), (0, .ref h0), (1, .ref frame), (2, .int length), (3, .int v9), (4, .int v10)]) hx hb dX1_read_54 hl (by decide) rfl (fun ls hl => ?_)
          refine lv_aload_n hx hb dX1_read_56 rfl (lv_at hl 4 rfl) ?_
          refine lv_iload hx hb dX1_read_57 (lv_at hl 8 rfl) ?_
          refine lv_iload hx hb dX1_read_59 (lv_at hl 1 rfl) ?_
          refine lv_iload hx hb dX1_read_61 (lv_at hl 0 rfl) ?_
          refine lv_iload hx hb dX1_read_63 (lv_at hl 3 rfl) ?_
          refine he_calli (va_runV (As := [.int v10, .int x31, .int x33, .int x25]) (rest := []) ⟨hx, hb, hml, hown, hts⟩ (e_X1_faultOfPart l dC dI dA κ B g11 h0 k0 v10 x31 x33 x25 (by omega) (by omega)) (cwV 4 hts gX1_read_X1_faultOfPart rfl rfl rfl (by decide +kernel) ⟨Nat.le_of_ble_eq_true rfl, Nat.le_of_ble_eq_true rfl⟩) (he_preV (q := (RX1, TX1, 2)) [.int v10, .int x31, .int x33, .int x25] hK hN hW hJ k0 rfl rfl) rfl rfl hl.1 rfl (lv_room (Nat.le_of_ble_eq_true rfl)) dX1_read_65 ⟨Nat.zero_le _, Nat.zero_le _⟩) hJ (fun x35 g34 H locs hp hJ => ?_)
          obtain ⟨rfl, f36⟩ := hp
          refine lv_istore (lv' := [(9, .int x35), (8, .int x33), (7, .int x31), (6, .int x28), (5, .int x25), (0, .ref h0), (1, .ref frame), (2, .int length), (3, .int v9), (4, .int v10)]) hx hb dX1_read_68 hl (by decide) rfl (fun ls hl => ?_)
          refine lv_iload hx hb dX1_read_70 (lv_at hl 0 rfl) ?_
          refine hq_if_ne (tgt := 80) hx hb dX1_read_72 (by decide) (fun c37 => ?_) (fun c37 => ?_)
          · refine lv_iload hx hb dX1_read_80 (lv_at hl 0 rfl) ?_
            exact he_iret hx hb hK hN hW hlocks hJ hr iv14 dX1_read_82
          · refine lv_iload hx hb dX1_read_75 (lv_at hl 2 rfl) ?_
            refine hq_if_ne (tgt := 83) hx hb dX1_read_77 (by decide) (fun c38 => ?_) (fun c38 => ?_)
            · refine lv_aload_n hx hb dX1_read_83 rfl (lv_at hl 5 rfl) ?_
              refine lv_iload hx hb dX1_read_84 (lv_at hl 2 rfl) ?_
              refine lv_aload_n hx hb dX1_read_86 rfl (lv_at hl 6 rfl) ?_
              refine lv_iload_n hx hb dX1_read_87 rfl (lv_at hl 8 rfl) ?_
              refine hq_iconst hx hb dX1_read_88 (by decide) (by decide) (fun z39 ez39 => ?_)
              refine hq_iadd hx hb dX1_read_89 (by omega) (by omega) (fun x40 ex40 => ?_)
              refine lv_iload hx hb dX1_read_90 (lv_at hl 1 rfl) ?_
              refine he_callv (va_runV (As := [.int x31, .ref frame, .int x40, .int x33]) (rest := []) ⟨hx, hb, hml, hown, hts⟩ (e_X1_takePart l dC dI dA κ B g11 (cq) (by omega) h0 k0 x31 frame kframe x40 x33 (by omega) (by omega)) (cwV 4 hts gX1_read_X1_takePart rfl rfl rfl (by decide +kernel) ⟨Nat.le_of_ble_eq_true rfl, Nat.le_of_ble_eq_true rfl⟩) (he_preV (q := (RX1, TX1, 2)) [.int x31, .ref frame, .int x40, .int x33] hK hN hW hJ k0 rfl rfl) rfl rfl hl.1 rfl (lv_room (Nat.le_of_ble_eq_true rfl)) dX1_read_92 ⟨Nat.zero_le _, Nat.zero_le _⟩) hJ (fun g41 H locs hp hJ => ?_)
              have P43a := hp
              have P43 : hg_Q (fun a b => ((a = 3 ∧ b = 1) ∨ a = 340 + cq ∨ a = 360 + cq)) g g41 := hg_Q.tr iv14 (hg_Q.le P43a (fun a b h9 => by have h9 : ((a = 3 ∧ b = 1) ∨ a = 340 + cq ∨ a = 360 + cq) := h9; show ((a = 3 ∧ b = 1) ∨ a = 340 + cq ∨ a = 360 + cq); omega))
              have qt44 : g41 3 0 = g11 3 0 := P43a 3 0 (show ¬ (((3 = 3 ∧ 0 = 1) ∨ 3 = 340 + cq ∨ 3 = 360 + cq)) from by omega)
              refine lv_iload_n hx hb dX1_read_95 rfl (lv_at hl 8 rfl) ?_
              refine hq_iconst hx hb dX1_read_96 (by decide) (by decide) (fun z45 ez45 => ?_)
              refine lv_iload hx hb dX1_read_97 (lv_at hl 1 rfl) ?_
              refine hq_iadd hx hb dX1_read_99 (by omega) (by omega) (fun x46 ex46 => ?_)
              refine hq_iadd hx hb dX1_read_100 (by omega) (by omega) (fun x47 ex47 => ?_)
              refine lv_istore_n (lv' := [(3, .int x47), (9, .int x35), (8, .int x33), (7, .int x31), (6, .int x28), (5, .int x25), (0, .ref h0), (1, .ref frame), (2, .int length), (4, .int v10)]) hx hb dX1_read_101 rfl hl (by decide) rfl (fun ls hl => ?_)
              refine hq_iinc (k := 9) (lv' := fun (z9 : Int32) => [(4, .int z9), (3, .int x47), (9, .int x35), (8, .int x33), (7, .int x31), (6, .int x28), (5, .int x25), (0, .ref h0), (1, .ref frame), (2, .int length)]) hx hb dX1_read_102 hl rfl (by decide) (by decide) (by omega) (by omega) (by decide) (fun _ => rfl) (fun x48 ls ex48 hl => ?_)
              have hl : lv_has ls 10 [(4, .int x48), (3, .int x47), (9, .int x35), (8, .int x33), (7, .int x31), (6, .int x28), (5, .int x25), (0, .ref h0), (1, .ref frame), (2, .int length)] := hl
              refine lv_goto (tgt := 12) hx hb dX1_read_105 (by decide) ?_
              exact ihlp12 x47 x48 g41 _ _ ls P43 (by omega) (by omega) (by omega) (by omega) (by omega) (by omega) hJ (lv_sub hl [7, 8, 9, 1, 0] rfl)
            · refine lv_iload hx hb dX1_read_80 (lv_at hl 0 rfl) ?_
              exact he_iret hx hb hK hN hW hlocks hJ hr iv14 dX1_read_82
        · refine hq_iconst hx hb dX1_read_32 (by decide) (by decide) (fun z49 ez49 => ?_)
          exact he_iret hx hb hK hN hW hlocks hJ hr iv14 dX1_read_33
  exact lp12 ((352 - z8.toInt).toNat + 1) z7 z8 g3 _ _ ls P5 (by omega) (by omega) (by omega) (by omega) (by omega) (by omega) hJ (lv_sub hl [2, 3, 4, 1, 0] rfl)
