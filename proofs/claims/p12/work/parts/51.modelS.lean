theorem iX7_put_X7 : ∀ w ∈ wsX70, w ∈ wsX7_put := fun _ h => List.mem_cons_of_mem _ (List.mem_append_right _ h)
set_option maxRecDepth 100000 in
set_option maxHeartbeats 4000000 in
theorem e_X7_put (l : Launch) (dC : Nat → ClassId) (dI : Nat → Nat → Nat) (dA : Nat → ClassId) (κ : Nat → Nat) (B : Nat) (g : Nat → Nat → Int) (h0 : Nat) (k0 : κ h0 = 11) (b1 : Int32) (hps : g 11 22 ≤ 699) : Met l yX7_put wsX7_put ({ frames := 0, cells := 0, slots := 0, locals := 0 } : Room) (he_Pre dC dI dA κ B g [Value.ref h0, Value.int b1]) (he_Qv dC dI dA κ B (fun u => hg_Q (fun a b => a = 11 ∧ b = 22) g u ∧ u 11 22 = g 11 22 + 1)) 0 0 (hp_A B) := by
  refine Met.ofW (cc := cX7_put) (maxL := 2) (ret := none) (by decide) rfl ?_
  intro p e s m args below meth c s₁ Bd hml hv
  obtain ⟨rfl, hK, hN, hW, hF⟩ := hv
  have hx := Bd.exec
  have hb := Bd.bytes
  have hr := Bd.returns
  have hts := atoms_spec (ws := wsX7_put) Bd.pre
  have hown : s.vm.findClass RX7 = some m.cls := findClass_of_methodNamed Bd.named
  have hlocks := Bd.notSynchronized
  have hJ : he_J dC dI dA κ B g s.heap s.heap [] := ⟨hF, va_S.rf⟩
  have hl := lv_entry ([Value.ref h0, Value.int b1]) (n := 2) (Nat.le_of_ble_eq_true rfl)
  rw [lg_entry_eq]
  generalize (lg_sl ([Value.ref h0, Value.int b1]) ++ List.replicate (2 - (lg_sl ([Value.ref h0, Value.int b1])).length) Slot.unset).toArray = ls at hl ⊢
  have hl : lv_has ls 2 [(0, .ref h0), (1, .int b1)] := hl
  refine lv_aload_n hx hb dX7_put_0 rfl (lv_at hl 0 rfl) ?_
  refine he_getr (C := RX7) (T := TX7) (N := 24) (ci := 7) (kd := 11) hx hb hts iX7_put_X7 hown hK hJ k0 rfl rfl 21 (by decide) (hts (.fieldLink RX7 64 "NeighborBookModel" "page" "[B") (List.mem_of_getElem? (i := 1) rfl)) (fun _ h9 => h9) rfl dX7_put_1 (fun b1 kb1 => ?_)
  refine lv_aload_n hx hb dX7_put_4 rfl (lv_at hl 0 rfl) ?_
  refine he_geti (C := RX7) (T := TX7) (N := 24) (ci := 7) (kd := 11) hx hb hts iX7_put_X7 hown hK hJ k0 rfl rfl 22 (by decide) (hts (.fieldLink RX7 77 "NeighborBookModel" "pageSize" "I") (List.mem_of_getElem? (i := 2) rfl)) (fun _ h9 => h9) rfl rfl dX7_put_5 (fun x2 ex2 => ?_)
  have ex2 : x2.toInt = g 11 22 ∧ 0 ≤ x2.toInt ∧ x2.toInt ≤ 700 := ex2
  refine lv_iload_n hx hb dX7_put_8 rfl (lv_at hl 1 rfl) ?_
  refine hq_i2bb hx hb dX7_put_9 (fun x3 ex3 => ?_)
  refine he_bast (kd := 39) (n := 700) hx hb hK hJ kb1 rfl (by omega) (by omega) (by decide) hW rfl dX7_put_10 (fun H locs hJ => ?_)
  refine lv_aload_n hx hb dX7_put_11 rfl (lv_at hl 0 rfl) ?_
  refine lv_dup hx hb dX7_put_12 rfl ?_
  refine he_geti (C := RX7) (T := TX7) (N := 24) (ci := 7) (kd := 11) hx hb hts iX7_put_X7 hown hK hJ k0 rfl rfl 22 (by decide) (hts (.fieldLink RX7 77 "NeighborBookModel" "pageSize" "I") (List.mem_of_getElem? (i := 2) rfl)) (fun _ h9 => h9) rfl rfl dX7_put_13 (fun x4 ex4 => ?_)
  have ex4 : x4.toInt = g 11 22 ∧ 0 ≤ x4.toInt ∧ x4.toInt ≤ 700 := ex4
  refine hq_iconst hx hb dX7_put_16 (by decide) (by decide) (fun z5 ez5 => ?_)
  refine hq_iadd hx hb dX7_put_17 (by omega) (by omega) (fun x6 ex6 => ?_)
  refine he_putx (C := RX7) (T := TX7) (N := 24) (ci := 7) (kd := 11) hx hb hts iX7_put_X7 hown hK hJ k0 rfl rfl 22 (by decide) (hts (.fieldLink RX7 77 "NeighborBookModel" "pageSize" "I") (List.mem_of_getElem? (i := 2) rfl)) (fun _ h9 => h9) tyX7 tyX7_ok nmX7 (x := x6) rfl rfl (by decide) hW rfl rfl rfl rfl (show x6.toInt = x6.toInt ∧ 0 ≤ x6.toInt ∧ x6.toInt ≤ 700 from ⟨rfl, by omega, by omega⟩) dX7_put_18 (fun g7 H locs eg7 ng7 hJ => ?_)
  have eg7 : g7 11 22 = x6.toInt := eg7
  have P8 : hg_Q (fun a b => a = 11 ∧ b = 22) g g7 := hg_Q.put hg_Q.rf ng7 (show 11 = 11 ∧ 22 = 22 from by omega)
  exact he_vret hx hb hK hN hW hlocks hJ hr ⟨P8, by omega⟩ dX7_put_21
theorem iX7_head_X7 : ∀ w ∈ wsX70, w ∈ wsX7_head := fun _ h => List.mem_cons_of_mem _ (List.mem_append_right _ h)
set_option maxRecDepth 100000 in
set_option maxHeartbeats 4000000 in
theorem e_X7_head (l : Launch) (dC : Nat → ClassId) (dI : Nat → Nat → Nat) (dA : Nat → ClassId) (κ : Nat → Nat) (B : Nat) (g : Nat → Nat → Int) (h0 : Nat) (k0 : κ h0 = 11) (type : Int32) (n : Int32) (hps : g 11 22 ≤ 698) : Met l yX7_head wsX7_head ({ frames := 1, cells := 0, slots := 0, locals := 21 } : Room) (he_Pre dC dI dA κ B g [Value.ref h0, Value.int type, Value.int n]) (he_Qv dC dI dA κ B (fun u => hg_Q (fun a b => a = 11 ∧ b = 22) g u ∧ u 11 22 = g 11 22 + 2)) 0 0 (hp_A B) := by
  refine Met.ofW (cc := cX7_head) (maxL := 3) (ret := none) (by decide) rfl ?_
  intro p e s m args below meth c s₁ Bd hml hv
  obtain ⟨rfl, hK, hN, hW, hF⟩ := hv
  have hx := Bd.exec
  have hb := Bd.bytes
  have hr := Bd.returns
  have hts := atoms_spec (ws := wsX7_head) Bd.pre
  have hown : s.vm.findClass RX7 = some m.cls := findClass_of_methodNamed Bd.named
  have hlocks := Bd.notSynchronized
  have hJ : he_J dC dI dA κ B g s.heap s.heap [] := ⟨hF, va_S.rf⟩
  have hl := lv_entry ([Value.ref h0, Value.int type, Value.int n]) (n := 3) (Nat.le_of_ble_eq_true rfl)
  rw [lg_entry_eq]
  generalize (lg_sl ([Value.ref h0, Value.int type, Value.int n]) ++ List.replicate (3 - (lg_sl ([Value.ref h0, Value.int type, Value.int n])).length) Slot.unset).toArray = ls at hl ⊢
  have hl : lv_has ls 3 [(0, .ref h0), (1, .int type), (2, .int n)] := hl
  refine lv_aload_n hx hb dX7_head_0 rfl (lv_at hl 0 rfl) ?_
  refine lv_iload_n hx hb dX7_head_1 rfl (lv_at hl 1 rfl) ?_
  refine hq_iconst hx hb dX7_head_2 (by decide) (by decide) (fun z1 ez1 => ?_)
  refine hq_ishlU hx hb dX7_head_3 (fun x2 => ?_)
  refine lv_iload_n hx hb dX7_head_4 rfl (lv_at hl 2 rfl) ?_
  refine hq_bipush hx hb dX7_head_5 (by decide) (fun z3 ez3 => ?_)
  refine hq_ishrU hx hb dX7_head_7 (fun x4 => ?_)
  refine hq_iorU hx hb dX7_head_8 (fun x5 => ?_)
  refine he_callv (va_runV (As := [.int x5]) (rest := []) ⟨hx, hb, hml, hown, hts⟩ (e_X7_put l dC dI dA κ B g h0 k0 x5 (by omega)) (cwV 1 hts gX7_head_X7_put rfl rfl rfl (by decide +kernel) ⟨Nat.le_of_ble_eq_true rfl, Nat.le_of_ble_eq_true rfl⟩) (he_preV (q := (RX7, TX7, 24)) [.int x5] hK hN hW hJ k0 rfl rfl) rfl rfl hl.1 rfl (lv_room (Nat.le_of_ble_eq_true rfl)) dX7_head_9 ⟨Nat.zero_le _, Nat.zero_le _⟩) hJ (fun g6 H locs hp hJ => ?_)
  obtain ⟨P8a, f7⟩ := hp
  have P8 : hg_Q (fun a b => a = 11 ∧ b = 22) g g6 := (hg_Q.le P8a (fun a b h9 => by have h9 : a = 11 ∧ b = 22 := h9; show a = 11 ∧ b = 22; omega))
  refine lv_aload_n hx hb dX7_head_12 rfl (lv_at hl 0 rfl) ?_
  refine lv_iload_n hx hb dX7_head_13 rfl (lv_at hl 2 rfl) ?_
  refine he_callv (va_runV (As := [.int n]) (rest := []) ⟨hx, hb, hml, hown, hts⟩ (e_X7_put l dC dI dA κ B g6 h0 k0 n (by omega)) (cwV 1 hts gX7_head_X7_put rfl rfl rfl (by decide +kernel) ⟨Nat.le_of_ble_eq_true rfl, Nat.le_of_ble_eq_true rfl⟩) (he_preV (q := (RX7, TX7, 24)) [.int n] hK hN hW hJ k0 rfl rfl) rfl rfl hl.1 rfl (lv_room (Nat.le_of_ble_eq_true rfl)) dX7_head_14 ⟨Nat.zero_le _, Nat.zero_le _⟩) hJ (fun g9 H locs hp hJ => ?_)
  obtain ⟨P11a, f10⟩ := hp
  have P11 : hg_Q (fun a b => a = 11 ∧ b = 22) g g9 := hg_Q.tr P8 (hg_Q.le P11a (fun a b h9 => by have h9 : a = 11 ∧ b = 22 := h9; show a = 11 ∧ b = 22; omega))
  exact he_vret hx hb hK hN hW hlocks hJ hr ⟨P11, by omega⟩ dX7_head_17
theorem iX7_send_X7 : ∀ w ∈ wsX70, w ∈ wsX7_send := fun _ h => List.mem_cons_of_mem _ (List.mem_append_right _ h)
set_option maxRecDepth 100000 in
set_option maxHeartbeats 4000000 in
theorem e_X7_send (l : Launch) (dC : Nat → ClassId) (dI : Nat → Nat → Nat) (dA : Nat → ClassId) (κ : Nat → Nat) (B : Nat) (g : Nat → Nat → Int) (h0 : Nat) (k0 : κ h0 = 11) (p1 : Int32) (holds : Int32) (hp0 : 0 ≤ p1.toInt) (hp3 : p1.toInt < 4) : Met l yX7_send wsX7_send ({ frames := 2, cells := 0, slots := 0, locals := 43 } : Room) (he_Pre dC dI dA κ B g [Value.ref h0, Value.int p1, Value.int holds]) (he_Qv dC dI dA κ B (fun u => hg_Q (fun a b => (a = 11 ∧ (b = 22 ∨ b = 23)) ∨ a = 21) g u)) 0 0 (hp_A B) := by
  refine Met.ofW (cc := cX7_send) (maxL := 5) (ret := none) (by decide) rfl ?_
  intro p e s m args below meth c s₁ Bd hml hv
  obtain ⟨rfl, hK, hN, hW, hF⟩ := hv
  have hx := Bd.exec
  have hb := Bd.bytes
  have hr := Bd.returns
  have hts := atoms_spec (ws := wsX7_send) Bd.pre
  have hown : s.vm.findClass RX7 = some m.cls := findClass_of_methodNamed Bd.named
  have hlocks := Bd.notSynchronized
  have hJ : he_J dC dI dA κ B g s.heap s.heap [] := ⟨hF, va_S.rf⟩
  have hl := lv_entry ([Value.ref h0, Value.int p1, Value.int holds]) (n := 5) (Nat.le_of_ble_eq_true rfl)
  rw [lg_entry_eq]
  generalize (lg_sl ([Value.ref h0, Value.int p1, Value.int holds]) ++ List.replicate (5 - (lg_sl ([Value.ref h0, Value.int p1, Value.int holds])).length) Slot.unset).toArray = ls at hl ⊢
  have hl : lv_has ls 5 [(0, .ref h0), (1, .int p1), (2, .int holds)] := hl
  refine lv_aload_n hx hb dX7_send_0 rfl (lv_at hl 0 rfl) ?_
  refine hq_iconst hx hb dX7_send_1 (by decide) (by decide) (fun z1 ez1 => ?_)
  refine he_putx (C := RX7) (T := TX7) (N := 24) (ci := 7) (kd := 11) hx hb hts iX7_send_X7 hown hK hJ k0 rfl rfl 22 (by decide) (hts (.fieldLink RX7 77 "NeighborBookModel" "pageSize" "I") (List.mem_of_getElem? (i := 1) rfl)) (fun _ h9 => h9) tyX7 tyX7_ok nmX7 (x := z1) rfl rfl (by decide) hW rfl rfl rfl rfl (show z1.toInt = z1.toInt ∧ 0 ≤ z1.toInt ∧ z1.toInt ≤ 700 from ⟨rfl, by omega, by omega⟩) dX7_send_2 (fun g2 H locs eg2 ng2 hJ => ?_)
  have eg2 : g2 11 22 = z1.toInt := eg2
  have P3 : hg_Q (fun a b => (a = 11 ∧ (b = 22 ∨ b = 23)) ∨ a = 21) g g2 := hg_Q.put hg_Q.rf ng2 (show (11 = 11 ∧ (22 = 22 ∨ 22 = 23)) ∨ 11 = 21 from by omega)
  refine lv_aload_n hx hb dX7_send_5 rfl (lv_at hl 0 rfl) ?_
  refine lv_iload_n hx hb dX7_send_6 rfl (lv_at hl 1 rfl) ?_
  refine he_putx (C := RX7) (T := TX7) (N := 24) (ci := 7) (kd := 11) hx hb hts iX7_send_X7 hown hK hJ k0 rfl rfl 23 (by decide) (hts (.fieldLink RX7 67 "NeighborBookModel" "pagePort" "I") (List.mem_of_getElem? (i := 2) rfl)) (fun _ h9 => h9) tyX7 tyX7_ok nmX7 (x := p1) rfl rfl (by decide) hW rfl rfl rfl rfl rfl dX7_send_7 (fun g4 H locs eg4 ng4 hJ => ?_)
  have eg4 : g4 11 23 = p1.toInt := eg4
  have P5 : hg_Q (fun a b => (a = 11 ∧ (b = 22 ∨ b = 23)) ∨ a = 21) g g4 := hg_Q.put P3 ng4 (show (11 = 11 ∧ (23 = 22 ∨ 23 = 23)) ∨ 11 = 21 from by omega)
  have qt6 : g4 11 22 = g2 11 22 := ng4 11 22 (by omega)
  refine hq_iconst hx hb dX7_send_10 (by decide) (by decide) (fun z7 ez7 => ?_)
  refine lv_istore_n (lv' := [(3, .int z7), (0, .ref h0), (1, .int p1), (2, .int holds)]) hx hb dX7_send_11 rfl hl (by decide) rfl (fun ls hl => ?_)
  have lp10 : ∀ (nlp10 : Nat) (v8 : Int32) (g9 : Nat → Nat → Int) (H : Heap) (locs : List Loc) (ls : Array Slot), (hg_Q (fun a b => (a = 11 ∧ (b = 22 ∨ b = 23)) ∨ a = 21) g g9) → (1 ≤ v8.toInt) → (v8.toInt ≤ 9) → (0 ≤ g9 11 22) → (g9 11 22 ≤ 70 * (v8.toInt - 1)) → (10 - v8.toInt < (nlp10 : Int)) → he_J dC dI dA κ B g9 s.heap H locs → lv_has ls 5 [(0, .ref h0), (1, .int p1), (2, .int holds), (3, .int v8)] → W p l e (headSpec wsX7_send ({ frames := 2, cells := 0, slots := 0, locals := 43 } : Room)).room s m ([Value.ref h0, Value.int p1, Value.int holds] : List Value).toArray below meth c H locs 0 0 (MQ below (he_Qv dC dI dA κ B (fun u => hg_Q (fun a b => (a = 11 ∧ (b = 22 ∨ b = 23)) ∨ a = 21) g u)) ([Value.ref h0, Value.int p1, Value.int holds] : List Value).toArray s 0 0 (hp_A B)) (F0 m 12 ls []) := by
    intro nlp10
    induction nlp10 with
    | zero => intro v8 g9 H locs ls iv12 iv13 iv14 iv15 iv16 hm11 hJ hl; exact absurd hm11 (by omega)
    | succ nlp10 ihlp10 =>
      intro v8 g9 H locs ls iv12 iv13 iv14 iv15 iv16 hm11 hJ hl
      refine lv_iload_n hx hb dX7_send_12 rfl (lv_at hl 3 rfl) ?_
      refine hq_bipush hx hb dX7_send_13 (by decide) (fun z17 ez17 => ?_)
      refine hq_icmp_ge (tgt := 134) hx hb dX7_send_15 (by decide) (fun c18 => ?_) (fun c18 => ?_)
      · refine lv_aload_n hx hb dX7_send_134 rfl (lv_at hl 0 rfl) ?_
        refine hq_iconst hx hb dX7_send_135 (by decide) (by decide) (fun z19 ez19 => ?_)
        refine hq_iconst hx hb dX7_send_136 (by decide) (by decide) (fun z20 ez20 => ?_)
        refine he_callv (va_runV (As := [.int z19, .int z20]) (rest := []) ⟨hx, hb, hml, hown, hts⟩ (e_X7_head l dC dI dA κ B g9 h0 k0 z19 z20 (by omega)) (cwV 2 hts gX7_send_X7_head rfl rfl rfl (by decide +kernel) ⟨Nat.le_of_ble_eq_true rfl, Nat.le_of_ble_eq_true rfl⟩) (he_preV (q := (RX7, TX7, 24)) [.int z19, .int z20] hK hN hW hJ k0 rfl rfl) rfl rfl hl.1 rfl (lv_room (Nat.le_of_ble_eq_true rfl)) dX7_send_137 ⟨Nat.zero_le _, Nat.zero_le _⟩) hJ (fun g21 H locs hp hJ => ?_)
        obtain ⟨P23a, f22⟩ := hp
        have P23 : hg_Q (fun a b => (a = 11 ∧ (b = 22 ∨ b = 23)) ∨ a = 21) g g21 := hg_Q.tr iv12 (hg_Q.le P23a (fun a b h9 => by have h9 : a = 11 ∧ b = 22 := h9; show (a = 11 ∧ (b = 22 ∨ b = 23)) ∨ a = 21; omega))
        refine lv_aload_n hx hb dX7_send_140 rfl (lv_at hl 0 rfl) ?_
        refine he_getr (C := RX7) (T := TX7) (N := 24) (ci := 7) (kd := 11) hx hb hts iX7_send_X7 hown hK hJ k0 rfl rfl 8 (by decide) (hts (.fieldLink RX7 34 "NeighborBookModel" "sentFrames" "[I") (List.mem_of_getElem? (i := 5) rfl)) (fun _ h9 => h9) rfl dX7_send_141 (fun b24 kb24 => ?_)
        refine lv_iload_n hx hb dX7_send_144 rfl (lv_at hl 1 rfl) ?_
        refine lv_dup2_11 hx hb dX7_send_145 rfl rfl ?_
        refine he_iald (kd := 21) (n := 4) hx hb hK hJ kb24 rfl (by omega) (by omega) (sp := (0, 0)) rfl rfl dX7_send_146 (fun x25 ex25 => ?_)
        have ex25 : x25.toInt = g21 21 p1.toInt.toNat := ex25
        refine hq_iconst hx hb dX7_send_147 (by decide) (by decide) (fun z26 ez26 => ?_)
        refine hq_iaddU hx hb dX7_send_148 (fun x27 => ?_)
        refine he_iastx (kd := 21) (n := 4) hx hb hK hJ kb24 rfl (by omega) (by omega) (by decide) hW rfl (sp := (0, 0)) rfl rfl rfl dX7_send_149 (fun g28 H locs eg28 ng28 hJ => ?_)
        have eg28 : g28 21 p1.toInt.toNat = x27.toInt := eg28
        have P29 : hg_Q (fun a b => (a = 11 ∧ (b = 22 ∨ b = 23)) ∨ a = 21) g g28 := hg_Q.put P23 ng28 (show (21 = 11 ∧ (p1.toInt.toNat = 22 ∨ p1.toInt.toNat = 23)) ∨ 21 = 21 from by omega)
        have qt30 : g28 11 22 = g21 11 22 := ng28 11 22 (by omega)
        exact he_vret hx hb hK hN hW hlocks hJ hr P29 dX7_send_150
      · refine lv_iload_n hx hb dX7_send_18 rfl (lv_at hl 3 rfl) ?_
        refine hq_iconst hx hb dX7_send_19 (by decide) (by decide) (fun z31 ez31 => ?_)
        refine hq_icmp_ne (tgt := 42) hx hb dX7_send_20 (by decide) (fun c32 => ?_) (fun c32 => ?_)
        · refine lv_iload_n hx hb dX7_send_42 rfl (lv_at hl 3 rfl) ?_
          refine hq_iconst hx hb dX7_send_43 (by decide) (by decide) (fun z33 ez33 => ?_)
          refine hq_icmp_eq (tgt := 128) hx hb dX7_send_44 (by decide) (fun c34 => ?_) (fun c34 => ?_)
          · exfalso; omega
          · refine lv_aload_n hx hb dX7_send_47 rfl (lv_at hl 0 rfl) ?_
            refine he_getr (C := RX7) (T := TX7) (N := 24) (ci := 7) (kd := 11) hx hb hts iX7_send_X7 hown hK hJ k0 rfl rfl 3 (by decide) (hts (.fieldLink RX7 16 "NeighborBookModel" "ownSizes" "[I") (List.mem_of_getElem? (i := 3) rfl)) (fun _ h9 => h9) rfl dX7_send_48 (fun b35 kb35 => ?_)
            refine lv_iload_n hx hb dX7_send_51 rfl (lv_at hl 3 rfl) ?_
            refine he_iald (kd := 19) (n := 9) hx hb hK hJ kb35 rfl (by omega) (by omega) (sp := (3, 60)) rfl rfl dX7_send_52 (fun x36 ex36 => ?_)
            have ex36 : -1 ≤ x36.toInt ∧ x36.toInt ≤ 60 := ex36
            refine hq_iconst hx hb dX7_send_53 (by decide) (by decide) (fun z37 ez37 => ?_)
            refine hq_icmp_ne (tgt := 60) hx hb dX7_send_54 (by decide) (fun c38 => ?_) (fun c38 => ?_)
            · refine lv_aload_n hx hb dX7_send_60 rfl (lv_at hl 0 rfl) ?_
              refine lv_iload_n hx hb dX7_send_61 rfl (lv_at hl 3 rfl) ?_
              refine lv_aload_n hx hb dX7_send_62 rfl (lv_at hl 0 rfl) ?_
              refine he_getr (C := RX7) (T := TX7) (N := 24) (ci := 7) (kd := 11) hx hb hts iX7_send_X7 hown hK hJ k0 rfl rfl 3 (by decide) (hts (.fieldLink RX7 16 "NeighborBookModel" "ownSizes" "[I") (List.mem_of_getElem? (i := 3) rfl)) (fun _ h9 => h9) rfl dX7_send_63 (fun b39 kb39 => ?_)
              refine lv_iload_n hx hb dX7_send_66 rfl (lv_at hl 3 rfl) ?_
              refine he_iald (kd := 19) (n := 9) hx hb hK hJ kb39 rfl (by omega) (by omega) (sp := (3, 60)) rfl rfl dX7_send_67 (fun x40 ex40 => ?_)
              have ex40 : -1 ≤ x40.toInt ∧ x40.toInt ≤ 60 := ex40
              refine lv_iload_n hx hb dX7_send_68 rfl (lv_at hl 3 rfl) ?_
              refine hq_iconst hx hb dX7_send_69 (by decide) (by decide) (fun z41 ez41 => ?_)
              refine hq_icmp_ne (tgt := 77) hx hb dX7_send_70 (by decide) (fun c42 => ?_) (fun c42 => ?_)
              · refine hq_iconst hx hb dX7_send_77 (by decide) (by decide) (fun z43 ez43 => ?_)
                refine hq_iadd hx hb dX7_send_78 (by omega) (by omega) (fun x44 ex44 => ?_)
                refine he_callv (va_runV (As := [.int v8, .int x44]) (rest := []) ⟨hx, hb, hml, hown, hts⟩ (e_X7_head l dC dI dA κ B g9 h0 k0 v8 x44 (by omega)) (cwV 2 hts gX7_send_X7_head rfl rfl rfl (by decide +kernel) ⟨Nat.le_of_ble_eq_true rfl, Nat.le_of_ble_eq_true rfl⟩) (he_preV (q := (RX7, TX7, 24)) [.int v8, .int x44] hK hN hW hJ k0 rfl rfl) rfl rfl hl.1 rfl (lv_room (Nat.le_of_ble_eq_true rfl)) dX7_send_79 ⟨Nat.zero_le _, Nat.zero_le _⟩) hJ (fun g45 H locs hp hJ => ?_)
                obtain ⟨P47a, f46⟩ := hp
                have P47 : hg_Q (fun a b => (a = 11 ∧ (b = 22 ∨ b = 23)) ∨ a = 21) g g45 := hg_Q.tr iv12 (hg_Q.le P47a (fun a b h9 => by have h9 : a = 11 ∧ b = 22 := h9; show (a = 11 ∧ (b = 22 ∨ b = 23)) ∨ a = 21; omega))
                refine hq_iconst hx hb dX7_send_82 (by decide) (by decide) (fun z48 ez48 => ?_)
                refine lv_istore (lv' := [(4, .int z48), (0, .ref h0), (1, .int p1), (2, .int holds), (3, .int v8)]) hx hb dX7_send_83 hl (by decide) rfl (fun ls hl => ?_)
                have lp51 : ∀ (nlp51 : Nat) (v49 : Int32) (g50 : Nat → Nat → Int) (H : Heap) (locs : List Loc) (ls : Array Slot), (hg_Q (fun a b => (a = 11 ∧ (b = 22 ∨ b = 23)) ∨ a = 21) g g50) → (0 ≤ v49.toInt) → (v49.toInt ≤ 60) → (0 ≤ g50 11 22) → (g50 11 22 ≤ 70 * (v8.toInt - 1) + 2 + v49.toInt) → (61 - v49.toInt < (nlp51 : Int)) → he_J dC dI dA κ B g50 s.heap H locs → lv_has ls 5 [(0, .ref h0), (1, .int p1), (2, .int holds), (3, .int v8), (4, .int v49)] → W p l e (headSpec wsX7_send ({ frames := 2, cells := 0, slots := 0, locals := 43 } : Room)).room s m ([Value.ref h0, Value.int p1, Value.int holds] : List Value).toArray below meth c H locs 0 0 (MQ below (he_Qv dC dI dA κ B (fun u => hg_Q (fun a b => (a = 11 ∧ (b = 22 ∨ b = 23)) ∨ a = 21) g u)) ([Value.ref h0, Value.int p1, Value.int holds] : List Value).toArray s 0 0 (hp_A B)) (F0 m 85 ls []) := by
                  intro nlp51
                  induction nlp51 with
                  | zero => intro v49 g50 H locs ls iv53 iv54 iv55 iv56 iv57 hm52 hJ hl; exact absurd hm52 (by omega)
                  | succ nlp51 ihlp51 =>
                    intro v49 g50 H locs ls iv53 iv54 iv55 iv56 iv57 hm52 hJ hl
                    refine lv_iload hx hb dX7_send_85 (lv_at hl 4 rfl) ?_
                    refine lv_aload_n hx hb dX7_send_87 rfl (lv_at hl 0 rfl) ?_
                    refine he_getr (C := RX7) (T := TX7) (N := 24) (ci := 7) (kd := 11) hx hb hts iX7_send_X7 hown hK hJ k0 rfl rfl 3 (by decide) (hts (.fieldLink RX7 16 "NeighborBookModel" "ownSizes" "[I") (List.mem_of_getElem? (i := 3) rfl)) (fun _ h9 => h9) rfl dX7_send_88 (fun b58 kb58 => ?_)
                    refine lv_iload_n hx hb dX7_send_91 rfl (lv_at hl 3 rfl) ?_
                    refine he_iald (kd := 19) (n := 9) hx hb hK hJ kb58 rfl (by omega) (by omega) (sp := (3, 60)) rfl rfl dX7_send_92 (fun x59 ex59 => ?_)
                    have ex59 : -1 ≤ x59.toInt ∧ x59.toInt ≤ 60 := ex59
                    refine hq_icmp_ge (tgt := 118) hx hb dX7_send_93 (by decide) (fun c60 => ?_) (fun c60 => ?_)
                    · refine lv_iload_n hx hb dX7_send_118 rfl (lv_at hl 3 rfl) ?_
                      refine hq_iconst hx hb dX7_send_119 (by decide) (by decide) (fun z61 ez61 => ?_)
                      refine hq_icmp_ne (tgt := 128) hx hb dX7_send_120 (by decide) (fun c62 => ?_) (fun c62 => ?_)
                      · refine hq_iinc (k := 3) (lv' := fun (z9 : Int32) => [(3, .int z9), (0, .ref h0), (1, .int p1), (2, .int holds), (4, .int v49)]) hx hb dX7_send_128 hl rfl (by decide) (by decide) (by omega) (by omega) (by decide) (fun _ => rfl) (fun x63 ls ex63 hl => ?_)
                        have hl : lv_has ls 5 [(3, .int x63), (0, .ref h0), (1, .int p1), (2, .int holds), (4, .int v49)] := hl
                        refine lv_goto (tgt := 12) hx hb dX7_send_131 (by decide) ?_
                        exact ihlp10 x63 g50 _ _ ls iv53 (by omega) (by omega) (by omega) (by omega) (by omega) hJ (lv_sub hl [1, 2, 3, 0] rfl)
                      · exfalso; omega
                    · refine lv_aload_n hx hb dX7_send_96 rfl (lv_at hl 0 rfl) ?_
                      refine lv_aload_n hx hb dX7_send_97 rfl (lv_at hl 0 rfl) ?_
                      refine he_getr (C := RX7) (T := TX7) (N := 24) (ci := 7) (kd := 11) hx hb hts iX7_send_X7 hown hK hJ k0 rfl rfl 2 (by decide) (hts (.fieldLink RX7 13 "NeighborBookModel" "own" "[B") (List.mem_of_getElem? (i := 4) rfl)) (fun _ h9 => h9) rfl dX7_send_98 (fun b64 kb64 => ?_)
                      refine hq_bipush hx hb dX7_send_101 (by decide) (fun z65 ez65 => ?_)
                      refine lv_iload_n hx hb dX7_send_103 rfl (lv_at hl 3 rfl) ?_
                      refine hq_imul (w := 60 * v8.toInt) hx hb dX7_send_104 (by rw [ez65]) (by omega) (by omega) (fun x66 ex66 => ?_)
                      refine lv_iload hx hb dX7_send_105 (lv_at hl 4 rfl) ?_
                      refine hq_iadd hx hb dX7_send_107 (by omega) (by omega) (fun x67 ex67 => ?_)
                      refine he_bald (kd := 18) (n := 540) hx hb hK hJ kb64 rfl (by omega) (by omega) (sp := (5, 0)) rfl rfl dX7_send_108 (fun x68 ex68 => ?_)
                      have ex68 : -128 ≤ x68.toInt ∧ x68.toInt ≤ 127 := ex68
                      refine he_callv (va_runV (As := [.int x68]) (rest := []) ⟨hx, hb, hml, hown, hts⟩ (e_X7_put l dC dI dA κ B g50 h0 k0 x68 (by omega)) (cwV 1 hts gX7_send_X7_put rfl rfl rfl (by decide +kernel) ⟨Nat.le_of_ble_eq_true rfl, Nat.le_of_ble_eq_true rfl⟩) (he_preV (q := (RX7, TX7, 24)) [.int x68] hK hN hW hJ k0 rfl rfl) rfl rfl hl.1 rfl (lv_room (Nat.le_of_ble_eq_true rfl)) dX7_send_109 ⟨Nat.zero_le _, Nat.zero_le _⟩) hJ (fun g69 H locs hp hJ => ?_)
                      obtain ⟨P71a, f70⟩ := hp
                      have P71 : hg_Q (fun a b => (a = 11 ∧ (b = 22 ∨ b = 23)) ∨ a = 21) g g69 := hg_Q.tr iv53 (hg_Q.le P71a (fun a b h9 => by have h9 : a = 11 ∧ b = 22 := h9; show (a = 11 ∧ (b = 22 ∨ b = 23)) ∨ a = 21; omega))
                      refine hq_iinc (k := 4) (lv' := fun (z9 : Int32) => [(4, .int z9), (0, .ref h0), (1, .int p1), (2, .int holds), (3, .int v8)]) hx hb dX7_send_112 hl rfl (by decide) (by decide) (by omega) (by omega) (by decide) (fun _ => rfl) (fun x72 ls ex72 hl => ?_)
                      have hl : lv_has ls 5 [(4, .int x72), (0, .ref h0), (1, .int p1), (2, .int holds), (3, .int v8)] := hl
                      refine lv_goto (tgt := 85) hx hb dX7_send_115 (by decide) ?_
                      exact ihlp51 x72 g69 _ _ ls P71 (by omega) (by omega) (by omega) (by omega) (by omega) hJ (lv_sub hl [1, 2, 3, 4, 0] rfl)
                exact lp51 ((61 - z48.toInt).toNat + 1) z48 g45 _ _ ls P47 (by omega) (by omega) (by omega) (by omega) (by omega) hJ (lv_sub hl [1, 2, 3, 4, 0] rfl)
              · refine hq_iconst hx hb dX7_send_73 (by decide) (by decide) (fun z73 ez73 => ?_)
                refine lv_goto (tgt := 78) hx hb dX7_send_74 (by decide) ?_
                refine hq_iadd hx hb dX7_send_78 (by omega) (by omega) (fun x74 ex74 => ?_)
                refine he_callv (va_runV (As := [.int v8, .int x74]) (rest := []) ⟨hx, hb, hml, hown, hts⟩ (e_X7_head l dC dI dA κ B g9 h0 k0 v8 x74 (by omega)) (cwV 2 hts gX7_send_X7_head rfl rfl rfl (by decide +kernel) ⟨Nat.le_of_ble_eq_true rfl, Nat.le_of_ble_eq_true rfl⟩) (he_preV (q := (RX7, TX7, 24)) [.int v8, .int x74] hK hN hW hJ k0 rfl rfl) rfl rfl hl.1 rfl (lv_room (Nat.le_of_ble_eq_true rfl)) dX7_send_79 ⟨Nat.zero_le _, Nat.zero_le _⟩) hJ (fun g75 H locs hp hJ => ?_)
                obtain ⟨P77a, f76⟩ := hp
                have P77 : hg_Q (fun a b => (a = 11 ∧ (b = 22 ∨ b = 23)) ∨ a = 21) g g75 := hg_Q.tr iv12 (hg_Q.le P77a (fun a b h9 => by have h9 : a = 11 ∧ b = 22 := h9; show (a = 11 ∧ (b = 22 ∨ b = 23)) ∨ a = 21; omega))
                refine hq_iconst hx hb dX7_send_82 (by decide) (by decide) (fun z78 ez78 => ?_)
                refine lv_istore (lv' := [(4, .int z78), (0, .ref h0), (1, .int p1), (2, .int holds), (3, .int v8)]) hx hb dX7_send_83 hl (by decide) rfl (fun ls hl => ?_)
                have lp81 : ∀ (nlp81 : Nat) (v79 : Int32) (g80 : Nat → Nat → Int) (H : Heap) (locs : List Loc) (ls : Array Slot), (hg_Q (fun a b => (a = 11 ∧ (b = 22 ∨ b = 23)) ∨ a = 21) g g80) → (0 ≤ v79.toInt) → (v79.toInt ≤ 60) → (0 ≤ g80 11 22) → (g80 11 22 ≤ 70 * (v8.toInt - 1) + 2 + v79.toInt) → (61 - v79.toInt < (nlp81 : Int)) → he_J dC dI dA κ B g80 s.heap H locs → lv_has ls 5 [(0, .ref h0), (1, .int p1), (2, .int holds), (3, .int v8), (4, .int v79)] → W p l e (headSpec wsX7_send ({ frames := 2, cells := 0, slots := 0, locals := 43 } : Room)).room s m ([Value.ref h0, Value.int p1, Value.int holds] : List Value).toArray below meth c H locs 0 0 (MQ below (he_Qv dC dI dA κ B (fun u => hg_Q (fun a b => (a = 11 ∧ (b = 22 ∨ b = 23)) ∨ a = 21) g u)) ([Value.ref h0, Value.int p1, Value.int holds] : List Value).toArray s 0 0 (hp_A B)) (F0 m 85 ls []) := by
                  intro nlp81
                  induction nlp81 with
                  | zero => intro v79 g80 H locs ls iv83 iv84 iv85 iv86 iv87 hm82 hJ hl; exact absurd hm82 (by omega)
                  | succ nlp81 ihlp81 =>
                    intro v79 g80 H locs ls iv83 iv84 iv85 iv86 iv87 hm82 hJ hl
                    refine lv_iload hx hb dX7_send_85 (lv_at hl 4 rfl) ?_
                    refine lv_aload_n hx hb dX7_send_87 rfl (lv_at hl 0 rfl) ?_
                    refine he_getr (C := RX7) (T := TX7) (N := 24) (ci := 7) (kd := 11) hx hb hts iX7_send_X7 hown hK hJ k0 rfl rfl 3 (by decide) (hts (.fieldLink RX7 16 "NeighborBookModel" "ownSizes" "[I") (List.mem_of_getElem? (i := 3) rfl)) (fun _ h9 => h9) rfl dX7_send_88 (fun b88 kb88 => ?_)
                    refine lv_iload_n hx hb dX7_send_91 rfl (lv_at hl 3 rfl) ?_
                    refine he_iald (kd := 19) (n := 9) hx hb hK hJ kb88 rfl (by omega) (by omega) (sp := (3, 60)) rfl rfl dX7_send_92 (fun x89 ex89 => ?_)
                    have ex89 : -1 ≤ x89.toInt ∧ x89.toInt ≤ 60 := ex89
                    refine hq_icmp_ge (tgt := 118) hx hb dX7_send_93 (by decide) (fun c90 => ?_) (fun c90 => ?_)
                    · refine lv_iload_n hx hb dX7_send_118 rfl (lv_at hl 3 rfl) ?_
                      refine hq_iconst hx hb dX7_send_119 (by decide) (by decide) (fun z91 ez91 => ?_)
                      refine hq_icmp_ne (tgt := 128) hx hb dX7_send_120 (by decide) (fun c92 => ?_) (fun c92 => ?_)
                      · exfalso; omega
                      · refine lv_aload_n hx hb dX7_send_123 rfl (lv_at hl 0 rfl) ?_
                        refine lv_iload_n hx hb dX7_send_124 rfl (lv_at hl 1 rfl) ?_
                        refine he_callv (va_runV (As := [.int p1]) (rest := []) ⟨hx, hb, hml, hown, hts⟩ (e_X7_put l dC dI dA κ B g80 h0 k0 p1 (by omega)) (cwV 1 hts gX7_send_X7_put rfl rfl rfl (by decide +kernel) ⟨Nat.le_of_ble_eq_true rfl, Nat.le_of_ble_eq_true rfl⟩) (he_preV (q := (RX7, TX7, 24)) [.int p1] hK hN hW hJ k0 rfl rfl) rfl rfl hl.1 rfl (lv_room (Nat.le_of_ble_eq_true rfl)) dX7_send_125 ⟨Nat.zero_le _, Nat.zero_le _⟩) hJ (fun g93 H locs hp hJ => ?_)
                        obtain ⟨P95a, f94⟩ := hp
                        have P95 : hg_Q (fun a b => (a = 11 ∧ (b = 22 ∨ b = 23)) ∨ a = 21) g g93 := hg_Q.tr iv83 (hg_Q.le P95a (fun a b h9 => by have h9 : a = 11 ∧ b = 22 := h9; show (a = 11 ∧ (b = 22 ∨ b = 23)) ∨ a = 21; omega))
                        refine hq_iinc (k := 3) (lv' := fun (z9 : Int32) => [(3, .int z9), (0, .ref h0), (1, .int p1), (2, .int holds), (4, .int v79)]) hx hb dX7_send_128 hl rfl (by decide) (by decide) (by omega) (by omega) (by decide) (fun _ => rfl) (fun x96 ls ex96 hl => ?_)
                        have hl : lv_has ls 5 [(3, .int x96), (0, .ref h0), (1, .int p1), (2, .int holds), (4, .int v79)] := hl
                        refine lv_goto (tgt := 12) hx hb dX7_send_131 (by decide) ?_
                        exact ihlp10 x96 g93 _ _ ls P95 (by omega) (by omega) (by omega) (by omega) (by omega) hJ (lv_sub hl [1, 2, 3, 0] rfl)
                    · refine lv_aload_n hx hb dX7_send_96 rfl (lv_at hl 0 rfl) ?_
                      refine lv_aload_n hx hb dX7_send_97 rfl (lv_at hl 0 rfl) ?_
                      refine he_getr (C := RX7) (T := TX7) (N := 24) (ci := 7) (kd := 11) hx hb hts iX7_send_X7 hown hK hJ k0 rfl rfl 2 (by decide) (hts (.fieldLink RX7 13 "NeighborBookModel" "own" "[B") (List.mem_of_getElem? (i := 4) rfl)) (fun _ h9 => h9) rfl dX7_send_98 (fun b97 kb97 => ?_)
                      refine hq_bipush hx hb dX7_send_101 (by decide) (fun z98 ez98 => ?_)
                      refine lv_iload_n hx hb dX7_send_103 rfl (lv_at hl 3 rfl) ?_
                      refine hq_imul (w := 60 * v8.toInt) hx hb dX7_send_104 (by rw [ez98]) (by omega) (by omega) (fun x99 ex99 => ?_)
                      refine lv_iload hx hb dX7_send_105 (lv_at hl 4 rfl) ?_
                      refine hq_iadd hx hb dX7_send_107 (by omega) (by omega) (fun x100 ex100 => ?_)
                      refine he_bald (kd := 18) (n := 540) hx hb hK hJ kb97 rfl (by omega) (by omega) (sp := (5, 0)) rfl rfl dX7_send_108 (fun x101 ex101 => ?_)
                      have ex101 : -128 ≤ x101.toInt ∧ x101.toInt ≤ 127 := ex101
                      refine he_callv (va_runV (As := [.int x101]) (rest := []) ⟨hx, hb, hml, hown, hts⟩ (e_X7_put l dC dI dA κ B g80 h0 k0 x101 (by omega)) (cwV 1 hts gX7_send_X7_put rfl rfl rfl (by decide +kernel) ⟨Nat.le_of_ble_eq_true rfl, Nat.le_of_ble_eq_true rfl⟩) (he_preV (q := (RX7, TX7, 24)) [.int x101] hK hN hW hJ k0 rfl rfl) rfl rfl hl.1 rfl (lv_room (Nat.le_of_ble_eq_true rfl)) dX7_send_109 ⟨Nat.zero_le _, Nat.zero_le _⟩) hJ (fun g102 H locs hp hJ => ?_)
                      obtain ⟨P104a, f103⟩ := hp
                      have P104 : hg_Q (fun a b => (a = 11 ∧ (b = 22 ∨ b = 23)) ∨ a = 21) g g102 := hg_Q.tr iv83 (hg_Q.le P104a (fun a b h9 => by have h9 : a = 11 ∧ b = 22 := h9; show (a = 11 ∧ (b = 22 ∨ b = 23)) ∨ a = 21; omega))
                      refine hq_iinc (k := 4) (lv' := fun (z9 : Int32) => [(4, .int z9), (0, .ref h0), (1, .int p1), (2, .int holds), (3, .int v8)]) hx hb dX7_send_112 hl rfl (by decide) (by decide) (by omega) (by omega) (by decide) (fun _ => rfl) (fun x105 ls ex105 hl => ?_)
                      have hl : lv_has ls 5 [(4, .int x105), (0, .ref h0), (1, .int p1), (2, .int holds), (3, .int v8)] := hl
                      refine lv_goto (tgt := 85) hx hb dX7_send_115 (by decide) ?_
                      exact ihlp81 x105 g102 _ _ ls P104 (by omega) (by omega) (by omega) (by omega) (by omega) hJ (lv_sub hl [1, 2, 3, 4, 0] rfl)
                exact lp81 ((61 - z78.toInt).toNat + 1) z78 g75 _ _ ls P77 (by omega) (by omega) (by omega) (by omega) (by omega) hJ (lv_sub hl [1, 2, 3, 4, 0] rfl)
            · refine lv_goto (tgt := 128) hx hb dX7_send_57 (by decide) ?_
              refine hq_iinc (k := 3) (lv' := fun (z9 : Int32) => [(3, .int z9), (0, .ref h0), (1, .int p1), (2, .int holds)]) hx hb dX7_send_128 hl rfl (by decide) (by decide) (by omega) (by omega) (by decide) (fun _ => rfl) (fun x106 ls ex106 hl => ?_)
              have hl : lv_has ls 5 [(3, .int x106), (0, .ref h0), (1, .int p1), (2, .int holds)] := hl
              refine lv_goto (tgt := 12) hx hb dX7_send_131 (by decide) ?_
              exact ihlp10 x106 g9 _ _ ls iv12 (by omega) (by omega) (by omega) (by omega) (by omega) hJ (lv_sub hl [1, 2, 3, 0] rfl)
        · refine lv_aload_n hx hb dX7_send_23 rfl (lv_at hl 0 rfl) ?_
          refine hq_iconst hx hb dX7_send_24 (by decide) (by decide) (fun z107 ez107 => ?_)
          refine hq_iconst hx hb dX7_send_25 (by decide) (by decide) (fun z108 ez108 => ?_)
          refine he_callv (va_runV (As := [.int z107, .int z108]) (rest := []) ⟨hx, hb, hml, hown, hts⟩ (e_X7_head l dC dI dA κ B g9 h0 k0 z107 z108 (by omega)) (cwV 2 hts gX7_send_X7_head rfl rfl rfl (by decide +kernel) ⟨Nat.le_of_ble_eq_true rfl, Nat.le_of_ble_eq_true rfl⟩) (he_preV (q := (RX7, TX7, 24)) [.int z107, .int z108] hK hN hW hJ k0 rfl rfl) rfl rfl hl.1 rfl (lv_room (Nat.le_of_ble_eq_true rfl)) dX7_send_26 ⟨Nat.zero_le _, Nat.zero_le _⟩) hJ (fun g109 H locs hp hJ => ?_)
          obtain ⟨P111a, f110⟩ := hp
          have P111 : hg_Q (fun a b => (a = 11 ∧ (b = 22 ∨ b = 23)) ∨ a = 21) g g109 := hg_Q.tr iv12 (hg_Q.le P111a (fun a b h9 => by have h9 : a = 11 ∧ b = 22 := h9; show (a = 11 ∧ (b = 22 ∨ b = 23)) ∨ a = 21; omega))
          refine lv_aload_n hx hb dX7_send_29 rfl (lv_at hl 0 rfl) ?_
          refine lv_iload_n hx hb dX7_send_30 rfl (lv_at hl 2 rfl) ?_
          refine hq_bipush hx hb dX7_send_31 (by decide) (fun z112 ez112 => ?_)
          refine hq_ishrU hx hb dX7_send_33 (fun x113 => ?_)
          refine he_callv (va_runV (As := [.int x113]) (rest := []) ⟨hx, hb, hml, hown, hts⟩ (e_X7_put l dC dI dA κ B g109 h0 k0 x113 (by omega)) (cwV 1 hts gX7_send_X7_put rfl rfl rfl (by decide +kernel) ⟨Nat.le_of_ble_eq_true rfl, Nat.le_of_ble_eq_true rfl⟩) (he_preV (q := (RX7, TX7, 24)) [.int x113] hK hN hW hJ k0 rfl rfl) rfl rfl hl.1 rfl (lv_room (Nat.le_of_ble_eq_true rfl)) dX7_send_34 ⟨Nat.zero_le _, Nat.zero_le _⟩) hJ (fun g114 H locs hp hJ => ?_)
          obtain ⟨P116a, f115⟩ := hp
          have P116 : hg_Q (fun a b => (a = 11 ∧ (b = 22 ∨ b = 23)) ∨ a = 21) g g114 := hg_Q.tr P111 (hg_Q.le P116a (fun a b h9 => by have h9 : a = 11 ∧ b = 22 := h9; show (a = 11 ∧ (b = 22 ∨ b = 23)) ∨ a = 21; omega))
          refine lv_aload_n hx hb dX7_send_37 rfl (lv_at hl 0 rfl) ?_
          refine lv_iload_n hx hb dX7_send_38 rfl (lv_at hl 2 rfl) ?_
          refine he_callv (va_runV (As := [.int holds]) (rest := []) ⟨hx, hb, hml, hown, hts⟩ (e_X7_put l dC dI dA κ B g114 h0 k0 holds (by omega)) (cwV 1 hts gX7_send_X7_put rfl rfl rfl (by decide +kernel) ⟨Nat.le_of_ble_eq_true rfl, Nat.le_of_ble_eq_true rfl⟩) (he_preV (q := (RX7, TX7, 24)) [.int holds] hK hN hW hJ k0 rfl rfl) rfl rfl hl.1 rfl (lv_room (Nat.le_of_ble_eq_true rfl)) dX7_send_39 ⟨Nat.zero_le _, Nat.zero_le _⟩) hJ (fun g117 H locs hp hJ => ?_)
          obtain ⟨P119a, f118⟩ := hp
          have P119 : hg_Q (fun a b => (a = 11 ∧ (b = 22 ∨ b = 23)) ∨ a = 21) g g117 := hg_Q.tr P116 (hg_Q.le P119a (fun a b h9 => by have h9 : a = 11 ∧ b = 22 := h9; show (a = 11 ∧ (b = 22 ∨ b = 23)) ∨ a = 21; omega))
          refine lv_iload_n hx hb dX7_send_42 rfl (lv_at hl 3 rfl) ?_
          refine hq_iconst hx hb dX7_send_43 (by decide) (by decide) (fun z120 ez120 => ?_)
          refine hq_icmp_eq (tgt := 128) hx hb dX7_send_44 (by decide) (fun c121 => ?_) (fun c121 => ?_)
          · refine hq_iinc (k := 3) (lv' := fun (z9 : Int32) => [(3, .int z9), (0, .ref h0), (1, .int p1), (2, .int holds)]) hx hb dX7_send_128 hl rfl (by decide) (by decide) (by omega) (by omega) (by decide) (fun _ => rfl) (fun x122 ls ex122 hl => ?_)
            have hl : lv_has ls 5 [(3, .int x122), (0, .ref h0), (1, .int p1), (2, .int holds)] := hl
            refine lv_goto (tgt := 12) hx hb dX7_send_131 (by decide) ?_
            exact ihlp10 x122 g117 _ _ ls P119 (by omega) (by omega) (by omega) (by omega) (by omega) hJ (lv_sub hl [1, 2, 3, 0] rfl)
          · exfalso; omega
  exact lp10 ((10 - z7.toInt).toNat + 1) z7 g4 _ _ ls P5 (by omega) (by omega) (by omega) (by omega) (by omega) hJ (lv_sub hl [1, 2, 3, 0] rfl)
