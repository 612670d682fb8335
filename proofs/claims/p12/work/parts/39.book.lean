theorem iX6_type_X6 : ∀ w ∈ wsX60, w ∈ wsX6_type := fun _ h => List.mem_cons_of_mem _ (List.mem_append_right _ h)
set_option maxRecDepth 100000 in
set_option maxHeartbeats 4000000 in
theorem e_X6_type (l : Launch) (dC : Nat → ClassId) (dI : Nat → Nat → Nat) (dA : Nat → ClassId) (κ : Nat → Nat) (B : Nat) (g : Nat → Nat → Int) (h0 : Nat) (k0 : κ h0 = 1) (w : Int64) (n : Int32) : Met l yX6_type wsX6_type ({ frames := 0, cells := 0, slots := 0, locals := 0 } : Room) (he_Pre dC dI dA κ B g [Value.ref h0, Value.long w, Value.int n]) (he_Qi dC dI dA κ B (fun r u => hg_Q (fun a b => (a = 1 ∧ b = 1) ∨ a = 12) g u)) 0 0 (hp_A B) := by
  refine Met.ofW (cc := cX6_type) (maxL := 5) (ret := (some .int)) (by decide) rfl ?_
  intro p e s m args below meth c s₁ Bd hml hv
  obtain ⟨rfl, hK, hN, hW, hF⟩ := hv
  have hx := Bd.exec
  have hb := Bd.bytes
  have hr := Bd.returns
  have hts := atoms_spec (ws := wsX6_type) Bd.pre
  have hown : s.vm.findClass RX6 = some m.cls := findClass_of_methodNamed Bd.named
  have hlocks := Bd.notSynchronized
  have hJ : he_J dC dI dA κ B g s.heap s.heap [] := ⟨hF, va_S.rf⟩
  have hl := lv_entry ([Value.ref h0, Value.long w, Value.int n]) (n := 5) (Nat.le_of_ble_eq_true rfl)
  rw [lg_entry_eq]
  generalize (lg_sl ([Value.ref h0, Value.long w, Value.int n]) ++ List.replicate (5 - (lg_sl ([Value.ref h0, Value.long w, Value.int n])).length) Slot.unset).toArray = ls at hl ⊢
  have hl : lv_has ls 5 [(0, .ref h0), (1, .long w), (3, .int n)] := hl
  refine lv_iload_n hx hb dX6_type_0 rfl (lv_at hl 2 rfl) ?_
  refine hq_iconst hx hb dX6_type_1 (by decide) (by decide) (fun z1 ez1 => ?_)
  refine hq_icmp_lt (tgt := 23) hx hb dX6_type_2 (by decide) (fun c2 => ?_) (fun c2 => ?_)
  · refine hq_iconst hx hb dX6_type_23 (by decide) (by decide) (fun z3 ez3 => ?_)
    exact he_iret hx hb hK hN hW hlocks hJ hr hg_Q.rf dX6_type_24
  · refine lv_iload_n hx hb dX6_type_5 rfl (lv_at hl 2 rfl) ?_
    refine hq_bipush hx hb dX6_type_6 (by decide) (fun z4 ez4 => ?_)
    refine hq_icmp_gt (tgt := 23) hx hb dX6_type_8 (by decide) (fun c5 => ?_) (fun c5 => ?_)
    · refine hq_iconst hx hb dX6_type_23 (by decide) (by decide) (fun z6 ez6 => ?_)
      exact he_iret hx hb hK hN hW hlocks hJ hr hg_Q.rf dX6_type_24
    · refine lv_aload_n hx hb dX6_type_11 rfl (lv_at hl 0 rfl) ?_
      refine he_geti (C := RX6) (T := TX6) (N := 12) (ci := 6) (kd := 1) hx hb hts iX6_type_X6 hown hK hJ k0 rfl rfl 1 (by decide) (hts (.fieldLink RX6 65 "NeighborBook" "typedCount" "I") (List.mem_of_getElem? (i := 1) rfl)) (fun _ h9 => h9) rfl rfl dX6_type_12 (fun x7 ex7 => ?_)
      have ex7 : x7.toInt = g 1 1 ∧ 0 ≤ x7.toInt ∧ x7.toInt ≤ 700 := ex7
      refine lv_iload_n hx hb dX6_type_15 rfl (lv_at hl 2 rfl) ?_
      refine hq_iadd hx hb dX6_type_16 (by omega) (by omega) (fun x8 ex8 => ?_)
      refine hq_sipush hx hb dX6_type_17 (by decide) (fun z9 ez9 => ?_)
      refine hq_icmp_le (tgt := 25) hx hb dX6_type_20 (by decide) (fun c10 => ?_) (fun c10 => ?_)
      · refine lv_iload_n hx hb dX6_type_25 rfl (lv_at hl 2 rfl) ?_
        refine hq_iconst hx hb dX6_type_26 (by decide) (by decide) (fun z11 ez11 => ?_)
        refine hq_isub hx hb dX6_type_27 (by omega) (by omega) (fun x12 ex12 => ?_)
        refine lv_istore (lv' := [(4, .int x12), (0, .ref h0), (1, .long w), (3, .int n)]) hx hb dX6_type_28 hl (by decide) rfl (fun ls hl => ?_)
        have lp15 : ∀ (nlp15 : Nat) (v13 : Int32) (g14 : Nat → Nat → Int) (H : Heap) (locs : List Loc) (ls : Array Slot), (hg_Q (fun a b => (a = 1 ∧ b = 1) ∨ a = 12) g g14) → (-1 ≤ v13.toInt) → (v13.toInt ≤ 7) → (0 ≤ g14 1 1) → (g14 1 1 + v13.toInt = g 1 1 + n.toInt - 1) → (g 1 1 + n.toInt ≤ 700) → (v13.toInt + 2 < (nlp15 : Int)) → he_J dC dI dA κ B g14 s.heap H locs → lv_has ls 5 [(0, .ref h0), (1, .long w), (3, .int n), (4, .int v13)] → W p l e (headSpec wsX6_type ({ frames := 0, cells := 0, slots := 0, locals := 0 } : Room)).room s m ([Value.ref h0, Value.long w, Value.int n] : List Value).toArray below meth c H locs 0 0 (MQ below (he_Qi dC dI dA κ B (fun r u => hg_Q (fun a b => (a = 1 ∧ b = 1) ∨ a = 12) g u)) ([Value.ref h0, Value.long w, Value.int n] : List Value).toArray s 0 0 (hp_A B)) (F0 m 30 ls []) := by
          intro nlp15
          induction nlp15 with
          | zero => intro v13 g14 H locs ls iv17 iv18 iv19 iv20 iv21 iv22 hm16 hJ hl; exact absurd hm16 (by omega)
          | succ nlp15 ihlp15 =>
            intro v13 g14 H locs ls iv17 iv18 iv19 iv20 iv21 iv22 hm16 hJ hl
            refine lv_iload hx hb dX6_type_30 (lv_at hl 3 rfl) ?_
            refine hq_if_lt (tgt := 69) hx hb dX6_type_32 (by decide) (fun c23 => ?_) (fun c23 => ?_)
            · refine lv_aload_n hx hb dX6_type_69 rfl (lv_at hl 0 rfl) ?_
              refine he_geti (C := RX6) (T := TX6) (N := 12) (ci := 6) (kd := 1) hx hb hts iX6_type_X6 hown hK hJ k0 rfl rfl 1 (by decide) (hts (.fieldLink RX6 65 "NeighborBook" "typedCount" "I") (List.mem_of_getElem? (i := 1) rfl)) (fun _ h9 => h9) rfl rfl dX6_type_70 (fun x24 ex24 => ?_)
              have ex24 : x24.toInt = g14 1 1 ∧ 0 ≤ x24.toInt ∧ x24.toInt ≤ 700 := ex24
              exact he_iret hx hb hK hN hW hlocks hJ hr iv17 dX6_type_73
            · refine lv_aload_n hx hb dX6_type_35 rfl (lv_at hl 0 rfl) ?_
              refine he_getr (C := RX6) (T := TX6) (N := 12) (ci := 6) (kd := 1) hx hb hts iX6_type_X6 hown hK hJ k0 rfl rfl 0 (by decide) (hts (.fieldLink RX6 9 "NeighborBook" "typed" "[B") (List.mem_of_getElem? (i := 2) rfl)) (fun _ h9 => h9) rfl dX6_type_36 (fun b25 kb25 => ?_)
              refine lv_aload_n hx hb dX6_type_39 rfl (lv_at hl 0 rfl) ?_
              refine he_geti (C := RX6) (T := TX6) (N := 12) (ci := 6) (kd := 1) hx hb hts iX6_type_X6 hown hK hJ k0 rfl rfl 1 (by decide) (hts (.fieldLink RX6 65 "NeighborBook" "typedCount" "I") (List.mem_of_getElem? (i := 1) rfl)) (fun _ h9 => h9) rfl rfl dX6_type_40 (fun x26 ex26 => ?_)
              have ex26 : x26.toInt = g14 1 1 ∧ 0 ≤ x26.toInt ∧ x26.toInt ≤ 700 := ex26
              refine lv_lload_n hx hb dX6_type_43 rfl (lv_at hl 1 rfl) ?_
              refine hq_bipush hx hb dX6_type_44 (by decide) (fun z27 ez27 => ?_)
              refine lv_iload hx hb dX6_type_46 (lv_at hl 3 rfl) ?_
              refine hq_imul (w := 8 * v13.toInt) hx hb dX6_type_48 (by rw [ez27]) (by omega) (by omega) (fun x28 ex28 => ?_)
              refine lv_lushr hx hb dX6_type_49 rfl ?_
              refine lv_topl (fun w29 fw29 => ?_)
              refine lv_l2i hx hb dX6_type_50 rfl ?_
              refine lv_topi (fun x30 fx30 => ?_)
              refine hq_i2bb hx hb dX6_type_51 (fun x31 ex31 => ?_)
              refine he_bastx (kd := 12) (n := 700) hx hb hK hJ kb25 rfl (by omega) (by omega) (by decide) hW rfl rfl (by omega) (by omega) dX6_type_52 (fun g32 H locs eg32 ng32 hJ => ?_)
              have eg32 : g32 12 x26.toInt.toNat = x31.toInt := eg32
              have P33 : hg_Q (fun a b => (a = 1 ∧ b = 1) ∨ a = 12) g g32 := hg_Q.put iv17 ng32 (show (12 = 1 ∧ x26.toInt.toNat = 1) ∨ 12 = 12 from by omega)
              have qt34 : g32 1 1 = g14 1 1 := ng32 1 1 (by omega)
              refine lv_aload_n hx hb dX6_type_53 rfl (lv_at hl 0 rfl) ?_
              refine lv_dup hx hb dX6_type_54 rfl ?_
              refine he_geti (C := RX6) (T := TX6) (N := 12) (ci := 6) (kd := 1) hx hb hts iX6_type_X6 hown hK hJ k0 rfl rfl 1 (by decide) (hts (.fieldLink RX6 65 "NeighborBook" "typedCount" "I") (List.mem_of_getElem? (i := 1) rfl)) (fun _ h9 => h9) rfl rfl dX6_type_55 (fun x35 ex35 => ?_)
              have ex35 : x35.toInt = g32 1 1 ∧ 0 ≤ x35.toInt ∧ x35.toInt ≤ 700 := ex35
              refine hq_iconst hx hb dX6_type_58 (by decide) (by decide) (fun z36 ez36 => ?_)
              refine hq_iadd hx hb dX6_type_59 (by omega) (by omega) (fun x37 ex37 => ?_)
              refine he_putx (C := RX6) (T := TX6) (N := 12) (ci := 6) (kd := 1) hx hb hts iX6_type_X6 hown hK hJ k0 rfl rfl 1 (by decide) (hts (.fieldLink RX6 65 "NeighborBook" "typedCount" "I") (List.mem_of_getElem? (i := 1) rfl)) (fun _ h9 => h9) tyX6 tyX6_ok nmX6 (x := x37) rfl rfl (by decide) hW rfl rfl rfl rfl (show x37.toInt = x37.toInt ∧ 0 ≤ x37.toInt ∧ x37.toInt ≤ 700 from ⟨rfl, by omega, by omega⟩) dX6_type_60 (fun g38 H locs eg38 ng38 hJ => ?_)
              have eg38 : g38 1 1 = x37.toInt := eg38
              have P39 : hg_Q (fun a b => (a = 1 ∧ b = 1) ∨ a = 12) g g38 := hg_Q.put P33 ng38 (show (1 = 1 ∧ 1 = 1) ∨ 1 = 12 from by omega)
              refine hq_iinc (k := 3) (lv' := fun (z9 : Int32) => [(4, .int z9), (0, .ref h0), (1, .long w), (3, .int n)]) hx hb dX6_type_63 hl rfl (by decide) (by decide) (by omega) (by omega) (by decide) (fun _ => rfl) (fun x40 ls ex40 hl => ?_)
              have hl : lv_has ls 5 [(4, .int x40), (0, .ref h0), (1, .long w), (3, .int n)] := hl
              refine lv_goto (tgt := 30) hx hb dX6_type_66 (by decide) ?_
              exact ihlp15 x40 g38 _ _ ls P39 (by omega) (by omega) (by omega) (by omega) (by omega) (by omega) hJ (lv_sub hl [1, 2, 3, 0] rfl)
        exact lp15 ((x12.toInt + 2).toNat + 1) x12 g _ _ ls hg_Q.rf (by omega) (by omega) (by omega) (by omega) (by omega) (by omega) hJ (lv_sub hl [1, 2, 3, 0] rfl)
      · refine hq_iconst hx hb dX6_type_23 (by decide) (by decide) (fun z41 ez41 => ?_)
        exact he_iret hx hb hK hN hW hlocks hJ hr hg_Q.rf dX6_type_24
theorem iX6_hurryAll_X6 : ∀ w ∈ wsX60, w ∈ wsX6_hurryAll := fun _ h => List.mem_cons_of_mem _ (List.mem_append_left _ (List.mem_append_right _ h))
theorem iX6_hurryAll_X4 : ∀ w ∈ wsX40, w ∈ wsX6_hurryAll := fun _ h => List.mem_cons_of_mem _ (List.mem_append_right _ h)
set_option maxRecDepth 100000 in
set_option maxHeartbeats 4000000 in
theorem e_X6_hurryAll (l : Launch) (dC : Nat → ClassId) (dI : Nat → Nat → Nat) (dA : Nat → ClassId) (κ : Nat → Nat) (B : Nat) (g : Nat → Nat → Int) (h0 : Nat) (k0 : κ h0 = 1) : Met l yX6_hurryAll wsX6_hurryAll ({ frames := 1, cells := 0, slots := 0, locals := 20 } : Room) (he_Pre dC dI dA κ B g [Value.ref h0]) (he_Qv dC dI dA κ B (fun u => hg_Q (fun a b => (5 ≤ a ∧ a < 9 ∧ b ≠ 0)) g u)) 0 0 (hp_A B) := by
  refine Met.ofW (cc := cX6_hurryAll) (maxL := 2) (ret := none) (by decide) rfl ?_
  intro p e s m args below meth c s₁ Bd hml hv
  obtain ⟨rfl, hK, hN, hW, hF⟩ := hv
  have hx := Bd.exec
  have hb := Bd.bytes
  have hr := Bd.returns
  have hts := atoms_spec (ws := wsX6_hurryAll) Bd.pre
  have hown : s.vm.findClass RX6 = some m.cls := findClass_of_methodNamed Bd.named
  have hlocks := Bd.notSynchronized
  have hJ : he_J dC dI dA κ B g s.heap s.heap [] := ⟨hF, va_S.rf⟩
  have hl := lv_entry ([Value.ref h0]) (n := 2) (Nat.le_of_ble_eq_true rfl)
  rw [lg_entry_eq]
  generalize (lg_sl ([Value.ref h0]) ++ List.replicate (2 - (lg_sl ([Value.ref h0])).length) Slot.unset).toArray = ls at hl ⊢
  have hl : lv_has ls 2 [(0, .ref h0)] := hl
  refine hq_iconst hx hb dX6_hurryAll_0 (by decide) (by decide) (fun z1 ez1 => ?_)
  refine lv_istore_n (lv' := [(1, .int z1), (0, .ref h0)]) hx hb dX6_hurryAll_1 rfl hl (by decide) rfl (fun ls hl => ?_)
  have lp4 : ∀ (nlp4 : Nat) (v2 : Int32) (g3 : Nat → Nat → Int) (H : Heap) (locs : List Loc) (ls : Array Slot), (hg_Q (fun a b => (5 ≤ a ∧ a < 9 ∧ b ≠ 0)) g g3) → (0 ≤ v2.toInt) → (v2.toInt ≤ 4) → (5 - v2.toInt < (nlp4 : Int)) → he_J dC dI dA κ B g3 s.heap H locs → lv_has ls 2 [(0, .ref h0), (1, .int v2)] → W p l e (headSpec wsX6_hurryAll ({ frames := 1, cells := 0, slots := 0, locals := 20 } : Room)).room s m ([Value.ref h0] : List Value).toArray below meth c H locs 0 0 (MQ below (he_Qv dC dI dA κ B (fun u => hg_Q (fun a b => (5 ≤ a ∧ a < 9 ∧ b ≠ 0)) g u)) ([Value.ref h0] : List Value).toArray s 0 0 (hp_A B)) (F0 m 2 ls []) := by
    intro nlp4
    induction nlp4 with
    | zero => intro v2 g3 H locs ls iv6 iv7 iv8 hm5 hJ hl; exact absurd hm5 (by omega)
    | succ nlp4 ihlp4 =>
      intro v2 g3 H locs ls iv6 iv7 iv8 hm5 hJ hl
      refine lv_iload_n hx hb dX6_hurryAll_2 rfl (lv_at hl 1 rfl) ?_
      refine hq_iconst hx hb dX6_hurryAll_3 (by decide) (by decide) (fun z9 ez9 => ?_)
      refine hq_icmp_ge (tgt := 22) hx hb dX6_hurryAll_4 (by decide) (fun c10 => ?_) (fun c10 => ?_)
      · exact he_vret hx hb hK hN hW hlocks hJ hr iv6 dX6_hurryAll_22
      · refine lv_aload_n hx hb dX6_hurryAll_7 rfl (lv_at hl 0 rfl) ?_
        refine he_getr (C := RX6) (T := TX6) (N := 12) (ci := 6) (kd := 1) hx hb hts iX6_hurryAll_X6 hown hK hJ k0 rfl rfl 3 (by decide) (hts (.fieldLink RX6 22 "NeighborBook" "ports" "[LNeighborBook$Port;") (List.mem_of_getElem? (i := 1) rfl)) (fun _ h9 => h9) rfl dX6_hurryAll_8 (fun b11 kb11 => ?_)
        refine lv_iload_n hx hb dX6_hurryAll_11 rfl (lv_at hl 1 rfl) ?_
        refine he_aald3 (kd := 15) (n := 4) hx hb hK hJ kb11 rfl (by omega) (by omega) (he_s15 (by omega)) dX6_hurryAll_12 (fun b12 kb12 => ?_)
        refine he_callv (va_runV (As := []) (rest := []) ⟨hx, hb, hml, hown, hts⟩ (e_X4_hurry l dC dI dA κ B g3 (v2.toInt.toNat) (by omega) b12 kb12) (cwV 0 hts gX6_hurryAll_X4_hurry rfl rfl rfl (by decide +kernel) ⟨Nat.le_of_ble_eq_true rfl, Nat.le_of_ble_eq_true rfl⟩) (he_preV (q := (RX4, TX4, 6)) [] hK hN hW hJ kb12 (hk_t5 (by omega)) rfl) rfl rfl hl.1 rfl (lv_room (Nat.le_of_ble_eq_true rfl)) dX6_hurryAll_13 ⟨Nat.zero_le _, Nat.zero_le _⟩) hJ (fun g13 H locs hp hJ => ?_)
        have P15a := hp
        have P15 : hg_Q (fun a b => (5 ≤ a ∧ a < 9 ∧ b ≠ 0)) g g13 := hg_Q.tr iv6 (hg_Q.le P15a (fun a b h9 => by have h9 : a = 5 + v2.toInt.toNat ∧ b ≠ 0 := h9; show (5 ≤ a ∧ a < 9 ∧ b ≠ 0); omega))
        refine hq_iinc (k := 1) (lv' := fun (z9 : Int32) => [(1, .int z9), (0, .ref h0)]) hx hb dX6_hurryAll_16 hl rfl (by decide) (by decide) (by omega) (by omega) (by decide) (fun _ => rfl) (fun x16 ls ex16 hl => ?_)
        have hl : lv_has ls 2 [(1, .int x16), (0, .ref h0)] := hl
        refine lv_goto (tgt := 2) hx hb dX6_hurryAll_19 (by decide) ?_
        exact ihlp4 x16 g13 _ _ ls P15 (by omega) (by omega) (by omega) hJ (lv_sub hl [1, 0] rfl)
  exact lp4 ((5 - z1.toInt).toNat + 1) z1 g _ _ ls hg_Q.rf (by omega) (by omega) (by omega) hJ (lv_sub hl [1, 0] rfl)
theorem iX6_tellNothing_X6 : ∀ w ∈ wsX60, w ∈ wsX6_tellNothing := fun _ h => List.mem_cons_of_mem _ (List.mem_append_left _ (List.mem_append_left _ (List.mem_append_right _ h)))
theorem iX6_tellNothing_X0 : ∀ w ∈ wsX00, w ∈ wsX6_tellNothing := fun _ h => List.mem_cons_of_mem _ (List.mem_append_left _ (List.mem_append_right _ h))
theorem iX6_tellNothing_X4 : ∀ w ∈ wsX40, w ∈ wsX6_tellNothing := fun _ h => List.mem_cons_of_mem _ (List.mem_append_right _ h)
set_option maxRecDepth 100000 in
set_option maxHeartbeats 4000000 in
theorem e_X6_tellNothing (l : Launch) (dC : Nat → ClassId) (dI : Nat → Nat → Nat) (dA : Nat → ClassId) (κ : Nat → Nat) (B : Nat) (g : Nat → Nat → Int) (h0 : Nat) (k0 : κ h0 = 1) (type : Int32) : Met l yX6_tellNothing wsX6_tellNothing ({ frames := 3, cells := 0, slots := 0, locals := 63 } : Room) (he_Pre dC dI dA κ B g [Value.ref h0, Value.int type]) (he_Qv dC dI dA κ B (fun u => hg_Q (fun a b => (5 ≤ a ∧ a < 9 ∧ b ≠ 0) ∨ a = 353 ∨ a = 373) g u)) 0 0 (hp_A B) := by
  refine Met.ofW (cc := cX6_tellNothing) (maxL := 2) (ret := none) (by decide) rfl ?_
  intro p e s m args below meth c s₁ Bd hml hv
  obtain ⟨rfl, hK, hN, hW, hF⟩ := hv
  have hx := Bd.exec
  have hb := Bd.bytes
  have hr := Bd.returns
  have hts := atoms_spec (ws := wsX6_tellNothing) Bd.pre
  have hown : s.vm.findClass RX6 = some m.cls := findClass_of_methodNamed Bd.named
  have hlocks := Bd.notSynchronized
  have hJ : he_J dC dI dA κ B g s.heap s.heap [] := ⟨hF, va_S.rf⟩
  have hl := lv_entry ([Value.ref h0, Value.int type]) (n := 2) (Nat.le_of_ble_eq_true rfl)
  rw [lg_entry_eq]
  generalize (lg_sl ([Value.ref h0, Value.int type]) ++ List.replicate (2 - (lg_sl ([Value.ref h0, Value.int type])).length) Slot.unset).toArray = ls at hl ⊢
  have hl : lv_has ls 2 [(0, .ref h0), (1, .int type)] := hl
  refine lv_aload_n hx hb dX6_tellNothing_0 rfl (lv_at hl 0 rfl) ?_
  refine he_getr (C := RX6) (T := TX6) (N := 12) (ci := 6) (kd := 1) hx hb hts iX6_tellNothing_X6 hown hK hJ k0 rfl rfl 2 (by decide) (hts (.fieldLink RX6 16 "NeighborBook" "told" "LNeighborBook$Contents;") (List.mem_of_getElem? (i := 1) rfl)) (fun _ h9 => h9) rfl dX6_tellNothing_1 (fun b1 kb1 => ?_)
  refine lv_iload_n hx hb dX6_tellNothing_4 rfl (lv_at hl 1 rfl) ?_
  refine he_calli (va_runV (As := [.int type]) (rest := []) ⟨hx, hb, hml, hown, hts⟩ (e_X0_has l dC dI dA κ B g (13) (by omega) b1 kb1 type) (cwV 1 hts gX6_tellNothing_X0_has rfl rfl rfl (by decide +kernel) ⟨Nat.le_of_ble_eq_true rfl, Nat.le_of_ble_eq_true rfl⟩) (he_preV (q := (RX0, TX0, 2)) [.int type] hK hN hW hJ kb1 rfl rfl) rfl rfl hl.1 rfl (lv_room (Nat.le_of_ble_eq_true rfl)) dX6_tellNothing_5 ⟨Nat.zero_le _, Nat.zero_le _⟩) hJ (fun x3 g2 H locs hp hJ => ?_)
  obtain ⟨rfl, f4⟩ := hp
  refine hq_if_eq (tgt := 23) hx hb dX6_tellNothing_8 (by decide) (fun c5 => ?_) (fun c5 => ?_)
  · exact he_vret hx hb hK hN hW hlocks hJ hr hg_Q.rf dX6_tellNothing_23
  · refine lv_aload_n hx hb dX6_tellNothing_11 rfl (lv_at hl 0 rfl) ?_
    refine he_getr (C := RX6) (T := TX6) (N := 12) (ci := 6) (kd := 1) hx hb hts iX6_tellNothing_X6 hown hK hJ k0 rfl rfl 2 (by decide) (hts (.fieldLink RX6 16 "NeighborBook" "told" "LNeighborBook$Contents;") (List.mem_of_getElem? (i := 1) rfl)) (fun _ h9 => h9) rfl dX6_tellNothing_12 (fun b6 kb6 => ?_)
    refine lv_iload_n hx hb dX6_tellNothing_15 rfl (lv_at hl 1 rfl) ?_
    refine he_callv (va_runV (As := [.int type]) (rest := []) ⟨hx, hb, hml, hown, hts⟩ (e_X0_drop l dC dI dA κ B g (13) (by omega) b6 kb6 type) (cwV 1 hts gX6_tellNothing_X0_drop rfl rfl rfl (by decide +kernel) ⟨Nat.le_of_ble_eq_true rfl, Nat.le_of_ble_eq_true rfl⟩) (he_preV (q := (RX0, TX0, 2)) [.int type] hK hN hW hJ kb6 rfl rfl) rfl rfl hl.1 rfl (lv_room (Nat.le_of_ble_eq_true rfl)) dX6_tellNothing_16 ⟨Nat.zero_le _, Nat.zero_le _⟩) hJ (fun g7 H locs hp hJ => ?_)
    have P9a := hp
    have P9 : hg_Q (fun a b => (5 ≤ a ∧ a < 9 ∧ b ≠ 0) ∨ a = 353 ∨ a = 373) g g7 := (hg_Q.le P9a (fun a b h9 => by have h9 : a = 340 + 13 := h9; show (5 ≤ a ∧ a < 9 ∧ b ≠ 0) ∨ a = 353 ∨ a = 373; omega))
    refine lv_aload_n hx hb dX6_tellNothing_19 rfl (lv_at hl 0 rfl) ?_
    refine he_callv (va_runV (As := []) (rest := []) ⟨hx, hb, hml, hown, hts⟩ (e_X6_hurryAll l dC dI dA κ B g7 h0 k0) (cwV 0 hts gX6_tellNothing_X6_hurryAll rfl rfl rfl (by decide +kernel) ⟨Nat.le_of_ble_eq_true rfl, Nat.le_of_ble_eq_true rfl⟩) (he_preV (q := (RX6, TX6, 12)) [] hK hN hW hJ k0 rfl rfl) rfl rfl hl.1 rfl (lv_room (Nat.le_of_ble_eq_true rfl)) dX6_tellNothing_20 ⟨Nat.zero_le _, Nat.zero_le _⟩) hJ (fun g10 H locs hp hJ => ?_)
    have P12a := hp
    have P12 : hg_Q (fun a b => (5 ≤ a ∧ a < 9 ∧ b ≠ 0) ∨ a = 353 ∨ a = 373) g g10 := hg_Q.tr P9 (hg_Q.le P12a (fun a b h9 => by have h9 : (5 ≤ a ∧ a < 9 ∧ b ≠ 0) := h9; show (5 ≤ a ∧ a < 9 ∧ b ≠ 0) ∨ a = 353 ∨ a = 373; omega))
    exact he_vret hx hb hK hN hW hlocks hJ hr P12 dX6_tellNothing_23
theorem iX6_tellTyped_X6 : ∀ w ∈ wsX60, w ∈ wsX6_tellTyped := fun _ h => List.mem_cons_of_mem _ (List.mem_append_left _ (List.mem_append_left _ (List.mem_append_right _ h)))
theorem iX6_tellTyped_X0 : ∀ w ∈ wsX00, w ∈ wsX6_tellTyped := fun _ h => List.mem_cons_of_mem _ (List.mem_append_left _ (List.mem_append_right _ h))
theorem iX6_tellTyped_X4 : ∀ w ∈ wsX40, w ∈ wsX6_tellTyped := fun _ h => List.mem_cons_of_mem _ (List.mem_append_right _ h)
set_option maxRecDepth 100000 in
set_option maxHeartbeats 4000000 in
theorem e_X6_tellTyped (l : Launch) (dC : Nat → ClassId) (dI : Nat → Nat → Nat) (dA : Nat → ClassId) (κ : Nat → Nat) (B : Nat) (g : Nat → Nat → Int) (h0 : Nat) (k0 : κ h0 = 1) (type : Int32) (ht0 : 1 ≤ type.toInt) (ht8 : type.toInt ≤ 8) (hs0 : 0 ≤ g 1 1) (hs7 : g 1 1 ≤ 700) : Met l yX6_tellTyped wsX6_tellTyped ({ frames := 3, cells := 0, slots := 0, locals := 64 } : Room) (he_Pre dC dI dA κ B g [Value.ref h0, Value.int type]) (he_Qv dC dI dA κ B (fun u => hg_Q (fun a b => (5 ≤ a ∧ a < 9 ∧ b ≠ 0) ∨ a = 353 ∨ a = 373) g u)) 0 0 (hp_A B) := by
  refine Met.ofW (cc := cX6_tellTyped) (maxL := 2) (ret := none) (by decide) rfl ?_
  intro p e s m args below meth c s₁ Bd hml hv
  obtain ⟨rfl, hK, hN, hW, hF⟩ := hv
  have hx := Bd.exec
  have hb := Bd.bytes
  have hr := Bd.returns
  have hts := atoms_spec (ws := wsX6_tellTyped) Bd.pre
  have hown : s.vm.findClass RX6 = some m.cls := findClass_of_methodNamed Bd.named
  have hlocks := Bd.notSynchronized
  have hJ : he_J dC dI dA κ B g s.heap s.heap [] := ⟨hF, va_S.rf⟩
  have hl := lv_entry ([Value.ref h0, Value.int type]) (n := 2) (Nat.le_of_ble_eq_true rfl)
  rw [lg_entry_eq]
  generalize (lg_sl ([Value.ref h0, Value.int type]) ++ List.replicate (2 - (lg_sl ([Value.ref h0, Value.int type])).length) Slot.unset).toArray = ls at hl ⊢
  have hl : lv_has ls 2 [(0, .ref h0), (1, .int type)] := hl
  refine lv_aload_n hx hb dX6_tellTyped_0 rfl (lv_at hl 0 rfl) ?_
  refine he_getr (C := RX6) (T := TX6) (N := 12) (ci := 6) (kd := 1) hx hb hts iX6_tellTyped_X6 hown hK hJ k0 rfl rfl 2 (by decide) (hts (.fieldLink RX6 16 "NeighborBook" "told" "LNeighborBook$Contents;") (List.mem_of_getElem? (i := 1) rfl)) (fun _ h9 => h9) rfl dX6_tellTyped_1 (fun b1 kb1 => ?_)
  refine lv_iload_n hx hb dX6_tellTyped_4 rfl (lv_at hl 1 rfl) ?_
  refine lv_aload_n hx hb dX6_tellTyped_5 rfl (lv_at hl 0 rfl) ?_
  refine he_getr (C := RX6) (T := TX6) (N := 12) (ci := 6) (kd := 1) hx hb hts iX6_tellTyped_X6 hown hK hJ k0 rfl rfl 0 (by decide) (hts (.fieldLink RX6 9 "NeighborBook" "typed" "[B") (List.mem_of_getElem? (i := 2) rfl)) (fun _ h9 => h9) rfl dX6_tellTyped_6 (fun b2 kb2 => ?_)
  refine hq_iconst hx hb dX6_tellTyped_9 (by decide) (by decide) (fun z3 ez3 => ?_)
  refine lv_aload_n hx hb dX6_tellTyped_10 rfl (lv_at hl 0 rfl) ?_
  refine he_geti (C := RX6) (T := TX6) (N := 12) (ci := 6) (kd := 1) hx hb hts iX6_tellTyped_X6 hown hK hJ k0 rfl rfl 1 (by decide) (hts (.fieldLink RX6 65 "NeighborBook" "typedCount" "I") (List.mem_of_getElem? (i := 3) rfl)) (fun _ h9 => h9) rfl rfl dX6_tellTyped_11 (fun x4 ex4 => ?_)
  have ex4 : x4.toInt = g 1 1 ∧ 0 ≤ x4.toInt ∧ x4.toInt ≤ 700 := ex4
  refine he_calli (va_runV (As := [.int type, .ref b2, .int z3, .int x4]) (rest := []) ⟨hx, hb, hml, hown, hts⟩ (e_X0_isSame l dC dI dA κ B g (13) (by omega) b1 kb1 type b2 kb2 z3 x4 rfl (fun _ => rfl) (by decide) (by omega) (by omega) (by omega) (by omega) (by omega)) (cwV 4 hts gX6_tellTyped_X0_isSame rfl rfl rfl (by decide +kernel) ⟨Nat.le_of_ble_eq_true rfl, Nat.le_of_ble_eq_true rfl⟩) (he_preV (q := (RX0, TX0, 2)) [.int type, .ref b2, .int z3, .int x4] hK hN hW hJ kb1 rfl rfl) rfl rfl hl.1 rfl (lv_room (Nat.le_of_ble_eq_true rfl)) dX6_tellTyped_14 ⟨Nat.zero_le _, Nat.zero_le _⟩) hJ (fun x6 g5 H locs hp hJ => ?_)
  obtain ⟨rfl, f7⟩ := hp
  refine hq_if_ne (tgt := 41) hx hb dX6_tellTyped_17 (by decide) (fun c8 => ?_) (fun c8 => ?_)
  · exact he_vret hx hb hK hN hW hlocks hJ hr hg_Q.rf dX6_tellTyped_41
  · refine lv_aload_n hx hb dX6_tellTyped_20 rfl (lv_at hl 0 rfl) ?_
    refine he_getr (C := RX6) (T := TX6) (N := 12) (ci := 6) (kd := 1) hx hb hts iX6_tellTyped_X6 hown hK hJ k0 rfl rfl 2 (by decide) (hts (.fieldLink RX6 16 "NeighborBook" "told" "LNeighborBook$Contents;") (List.mem_of_getElem? (i := 1) rfl)) (fun _ h9 => h9) rfl dX6_tellTyped_21 (fun b9 kb9 => ?_)
    refine lv_iload_n hx hb dX6_tellTyped_24 rfl (lv_at hl 1 rfl) ?_
    refine lv_aload_n hx hb dX6_tellTyped_25 rfl (lv_at hl 0 rfl) ?_
    refine he_getr (C := RX6) (T := TX6) (N := 12) (ci := 6) (kd := 1) hx hb hts iX6_tellTyped_X6 hown hK hJ k0 rfl rfl 0 (by decide) (hts (.fieldLink RX6 9 "NeighborBook" "typed" "[B") (List.mem_of_getElem? (i := 2) rfl)) (fun _ h9 => h9) rfl dX6_tellTyped_26 (fun b10 kb10 => ?_)
    refine hq_iconst hx hb dX6_tellTyped_29 (by decide) (by decide) (fun z11 ez11 => ?_)
    refine lv_aload_n hx hb dX6_tellTyped_30 rfl (lv_at hl 0 rfl) ?_
    refine he_geti (C := RX6) (T := TX6) (N := 12) (ci := 6) (kd := 1) hx hb hts iX6_tellTyped_X6 hown hK hJ k0 rfl rfl 1 (by decide) (hts (.fieldLink RX6 65 "NeighborBook" "typedCount" "I") (List.mem_of_getElem? (i := 3) rfl)) (fun _ h9 => h9) rfl rfl dX6_tellTyped_31 (fun x12 ex12 => ?_)
    have ex12 : x12.toInt = g 1 1 ∧ 0 ≤ x12.toInt ∧ x12.toInt ≤ 700 := ex12
    refine he_callv (va_runV (As := [.int type, .ref b10, .int z11, .int x12]) (rest := []) ⟨hx, hb, hml, hown, hts⟩ (e_X0_keep l dC dI dA κ B g (13) (by omega) b9 kb9 type b10 kb10 z11 x12) (cwV 4 hts gX6_tellTyped_X0_keep rfl rfl rfl (by decide +kernel) ⟨Nat.le_of_ble_eq_true rfl, Nat.le_of_ble_eq_true rfl⟩) (he_preV (q := (RX0, TX0, 2)) [.int type, .ref b10, .int z11, .int x12] hK hN hW hJ kb9 rfl rfl) rfl rfl hl.1 rfl (lv_room (Nat.le_of_ble_eq_true rfl)) dX6_tellTyped_34 ⟨Nat.zero_le _, Nat.zero_le _⟩) hJ (fun g13 H locs hp hJ => ?_)
    obtain ⟨P15a, f14⟩ := hp
    have P15 : hg_Q (fun a b => (5 ≤ a ∧ a < 9 ∧ b ≠ 0) ∨ a = 353 ∨ a = 373) g g13 := (hg_Q.le P15a (fun a b h9 => by have h9 : (a = 340 + 13 ∧ b = type.toInt.toNat) ∨ a = 360 + 13 := h9; show (5 ≤ a ∧ a < 9 ∧ b ≠ 0) ∨ a = 353 ∨ a = 373; omega))
    refine lv_aload_n hx hb dX6_tellTyped_37 rfl (lv_at hl 0 rfl) ?_
    refine he_callv (va_runV (As := []) (rest := []) ⟨hx, hb, hml, hown, hts⟩ (e_X6_hurryAll l dC dI dA κ B g13 h0 k0) (cwV 0 hts gX6_tellTyped_X6_hurryAll rfl rfl rfl (by decide +kernel) ⟨Nat.le_of_ble_eq_true rfl, Nat.le_of_ble_eq_true rfl⟩) (he_preV (q := (RX6, TX6, 12)) [] hK hN hW hJ k0 rfl rfl) rfl rfl hl.1 rfl (lv_room (Nat.le_of_ble_eq_true rfl)) dX6_tellTyped_38 ⟨Nat.zero_le _, Nat.zero_le _⟩) hJ (fun g16 H locs hp hJ => ?_)
    have P18a := hp
    have P18 : hg_Q (fun a b => (5 ≤ a ∧ a < 9 ∧ b ≠ 0) ∨ a = 353 ∨ a = 373) g g16 := hg_Q.tr P15 (hg_Q.le P18a (fun a b h9 => by have h9 : (5 ≤ a ∧ a < 9 ∧ b ≠ 0) := h9; show (5 ≤ a ∧ a < 9 ∧ b ≠ 0) ∨ a = 353 ∨ a = 373; omega))
    exact he_vret hx hb hK hN hW hlocks hJ hr P18 dX6_tellTyped_41
theorem iX6_tell_X6 : ∀ w ∈ wsX60, w ∈ wsX6_tell := fun _ h => List.mem_cons_of_mem _ (List.mem_append_left _ (List.mem_append_left _ (List.mem_append_right _ h)))
theorem iX6_tell_X0 : ∀ w ∈ wsX00, w ∈ wsX6_tell := fun _ h => List.mem_cons_of_mem _ (List.mem_append_left _ (List.mem_append_right _ h))
theorem iX6_tell_X4 : ∀ w ∈ wsX40, w ∈ wsX6_tell := fun _ h => List.mem_cons_of_mem _ (List.mem_append_right _ h)
set_option maxRecDepth 100000 in
set_option maxHeartbeats 4000000 in
theorem e_X6_tell (l : Launch) (dC : Nat → ClassId) (dI : Nat → Nat → Nat) (dA : Nat → ClassId) (κ : Nat → Nat) (B : Nat) (g : Nat → Nat → Int) (h0 : Nat) (k0 : κ h0 = 1) (what : Int32) : Met l yX6_tell wsX6_tell ({ frames := 4, cells := 0, slots := 0, locals := 85 } : Room) (he_Pre dC dI dA κ B g [Value.ref h0, Value.int what]) (he_Qi dC dI dA κ B (fun r u => hg_Q (fun a b => (5 ≤ a ∧ a < 9 ∧ b ≠ 0) ∨ a = 353 ∨ a = 373 ∨ (a = 1 ∧ b = 1)) g u)) 0 0 (hp_A B) := by
  refine Met.ofW (cc := cX6_tell) (maxL := 2) (ret := (some .int)) (by decide) rfl ?_
  intro p e s m args below meth c s₁ Bd hml hv
  obtain ⟨rfl, hK, hN, hW, hF⟩ := hv
  have hx := Bd.exec
  have hb := Bd.bytes
  have hr := Bd.returns
  have hts := atoms_spec (ws := wsX6_tell) Bd.pre
  have hown : s.vm.findClass RX6 = some m.cls := findClass_of_methodNamed Bd.named
  have hlocks := Bd.notSynchronized
  have hJ : he_J dC dI dA κ B g s.heap s.heap [] := ⟨hF, va_S.rf⟩
  have hl := lv_entry ([Value.ref h0, Value.int what]) (n := 2) (Nat.le_of_ble_eq_true rfl)
  rw [lg_entry_eq]
  generalize (lg_sl ([Value.ref h0, Value.int what]) ++ List.replicate (2 - (lg_sl ([Value.ref h0, Value.int what])).length) Slot.unset).toArray = ls at hl ⊢
  have hl : lv_has ls 2 [(0, .ref h0), (1, .int what)] := hl
  refine lv_iload_n hx hb dX6_tell_0 rfl (lv_at hl 1 rfl) ?_
  refine lv_aload_n hx hb dX6_tell_1 rfl (lv_at hl 0 rfl) ?_
  refine he_geti (C := RX6) (T := TX6) (N := 12) (ci := 6) (kd := 1) hx hb hts iX6_tell_X6 hown hK hJ k0 rfl rfl 1 (by decide) (hts (.fieldLink RX6 65 "NeighborBook" "typedCount" "I") (List.mem_of_getElem? (i := 1) rfl)) (fun _ h9 => h9) rfl rfl dX6_tell_2 (fun x1 ex1 => ?_)
  have ex1 : x1.toInt = g 1 1 ∧ 0 ≤ x1.toInt ∧ x1.toInt ≤ 700 := ex1
  refine he_calli (va_runS (As := [.int what, .int x1]) (rest := []) ⟨hx, hb, hml, hown, hts⟩ (e_X6_isTellable l dC dI dA κ B g what x1) (va_cwS 2 hts gX6_tell_X6_isTellable rfl rfl rfl (by decide +kernel) ⟨Nat.le_of_ble_eq_true rfl, Nat.le_of_ble_eq_true rfl⟩) (he_preS [.int what, .int x1] hK hN hW hJ) rfl rfl hl.1 rfl (lv_room (Nat.le_of_ble_eq_true rfl)) dX6_tell_5 ⟨Nat.zero_le _, Nat.zero_le _⟩) hJ (fun x3 g2 H locs hp hJ => ?_)
  obtain ⟨rfl, f4⟩ := hp
  refine hq_if_ne (tgt := 13) hx hb dX6_tell_8 (by decide) (fun c5 => ?_) (fun c5 => ?_)
  · refine lv_aload_n hx hb dX6_tell_13 rfl (lv_at hl 0 rfl) ?_
    refine he_geti (C := RX6) (T := TX6) (N := 12) (ci := 6) (kd := 1) hx hb hts iX6_tell_X6 hown hK hJ k0 rfl rfl 1 (by decide) (hts (.fieldLink RX6 65 "NeighborBook" "typedCount" "I") (List.mem_of_getElem? (i := 1) rfl)) (fun _ h9 => h9) rfl rfl dX6_tell_14 (fun x6 ex6 => ?_)
    have ex6 : x6.toInt = g 1 1 ∧ 0 ≤ x6.toInt ∧ x6.toInt ≤ 700 := ex6
    refine hq_if_ne (tgt := 28) hx hb dX6_tell_17 (by decide) (fun c7 => ?_) (fun c7 => ?_)
    · refine lv_aload_n hx hb dX6_tell_28 rfl (lv_at hl 0 rfl) ?_
      refine lv_iload_n hx hb dX6_tell_29 rfl (lv_at hl 1 rfl) ?_
      refine he_callv (va_runV (As := [.int what]) (rest := []) ⟨hx, hb, hml, hown, hts⟩ (e_X6_tellTyped l dC dI dA κ B g h0 k0 what (by omega) (by omega) (by omega) (by omega)) (cwV 1 hts gX6_tell_X6_tellTyped rfl rfl rfl (by decide +kernel) ⟨Nat.le_of_ble_eq_true rfl, Nat.le_of_ble_eq_true rfl⟩) (he_preV (q := (RX6, TX6, 12)) [.int what] hK hN hW hJ k0 rfl rfl) rfl rfl hl.1 rfl (lv_room (Nat.le_of_ble_eq_true rfl)) dX6_tell_30 ⟨Nat.zero_le _, Nat.zero_le _⟩) hJ (fun g8 H locs hp hJ => ?_)
      have P10a := hp
      have P10 : hg_Q (fun a b => (5 ≤ a ∧ a < 9 ∧ b ≠ 0) ∨ a = 353 ∨ a = 373 ∨ (a = 1 ∧ b = 1)) g g8 := (hg_Q.le P10a (fun a b h9 => by have h9 : (5 ≤ a ∧ a < 9 ∧ b ≠ 0) ∨ a = 353 ∨ a = 373 := h9; show (5 ≤ a ∧ a < 9 ∧ b ≠ 0) ∨ a = 353 ∨ a = 373 ∨ (a = 1 ∧ b = 1); omega))
      have qt11 : g8 1 1 = g 1 1 := P10a 1 1 (show ¬ ((5 ≤ 1 ∧ 1 < 9 ∧ 1 ≠ 0) ∨ 1 = 353 ∨ 1 = 373) from by omega)
      refine lv_aload_n hx hb dX6_tell_33 rfl (lv_at hl 0 rfl) ?_
      refine hq_iconst hx hb dX6_tell_34 (by decide) (by decide) (fun z12 ez12 => ?_)
      refine he_putx (C := RX6) (T := TX6) (N := 12) (ci := 6) (kd := 1) hx hb hts iX6_tell_X6 hown hK hJ k0 rfl rfl 1 (by decide) (hts (.fieldLink RX6 65 "NeighborBook" "typedCount" "I") (List.mem_of_getElem? (i := 1) rfl)) (fun _ h9 => h9) tyX6 tyX6_ok nmX6 (x := z12) rfl rfl (by decide) hW rfl rfl rfl rfl (show z12.toInt = z12.toInt ∧ 0 ≤ z12.toInt ∧ z12.toInt ≤ 700 from ⟨rfl, by omega, by omega⟩) dX6_tell_35 (fun g13 H locs eg13 ng13 hJ => ?_)
      have eg13 : g13 1 1 = z12.toInt := eg13
      have P14 : hg_Q (fun a b => (5 ≤ a ∧ a < 9 ∧ b ≠ 0) ∨ a = 353 ∨ a = 373 ∨ (a = 1 ∧ b = 1)) g g13 := hg_Q.put P10 ng13 (show (5 ≤ 1 ∧ 1 < 9 ∧ 1 ≠ 0) ∨ 1 = 353 ∨ 1 = 373 ∨ (1 = 1 ∧ 1 = 1) from by omega)
      refine hq_iconst hx hb dX6_tell_38 (by decide) (by decide) (fun z15 ez15 => ?_)
      exact he_iret hx hb hK hN hW hlocks hJ hr P14 dX6_tell_39
    · refine lv_aload_n hx hb dX6_tell_20 rfl (lv_at hl 0 rfl) ?_
      refine lv_iload_n hx hb dX6_tell_21 rfl (lv_at hl 1 rfl) ?_
      refine he_callv (va_runV (As := [.int what]) (rest := []) ⟨hx, hb, hml, hown, hts⟩ (e_X6_tellNothing l dC dI dA κ B g h0 k0 what) (cwV 1 hts gX6_tell_X6_tellNothing rfl rfl rfl (by decide +kernel) ⟨Nat.le_of_ble_eq_true rfl, Nat.le_of_ble_eq_true rfl⟩) (he_preV (q := (RX6, TX6, 12)) [.int what] hK hN hW hJ k0 rfl rfl) rfl rfl hl.1 rfl (lv_room (Nat.le_of_ble_eq_true rfl)) dX6_tell_22 ⟨Nat.zero_le _, Nat.zero_le _⟩) hJ (fun g16 H locs hp hJ => ?_)
      have P18a := hp
      have P18 : hg_Q (fun a b => (5 ≤ a ∧ a < 9 ∧ b ≠ 0) ∨ a = 353 ∨ a = 373 ∨ (a = 1 ∧ b = 1)) g g16 := (hg_Q.le P18a (fun a b h9 => by have h9 : (5 ≤ a ∧ a < 9 ∧ b ≠ 0) ∨ a = 353 ∨ a = 373 := h9; show (5 ≤ a ∧ a < 9 ∧ b ≠ 0) ∨ a = 353 ∨ a = 373 ∨ (a = 1 ∧ b = 1); omega))
      have qt19 : g16 1 1 = g 1 1 := P18a 1 1 (show ¬ ((5 ≤ 1 ∧ 1 < 9 ∧ 1 ≠ 0) ∨ 1 = 353 ∨ 1 = 373) from by omega)
      refine lv_goto (tgt := 33) hx hb dX6_tell_25 (by decide) ?_
      refine lv_aload_n hx hb dX6_tell_33 rfl (lv_at hl 0 rfl) ?_
      refine hq_iconst hx hb dX6_tell_34 (by decide) (by decide) (fun z20 ez20 => ?_)
      refine he_putx (C := RX6) (T := TX6) (N := 12) (ci := 6) (kd := 1) hx hb hts iX6_tell_X6 hown hK hJ k0 rfl rfl 1 (by decide) (hts (.fieldLink RX6 65 "NeighborBook" "typedCount" "I") (List.mem_of_getElem? (i := 1) rfl)) (fun _ h9 => h9) tyX6 tyX6_ok nmX6 (x := z20) rfl rfl (by decide) hW rfl rfl rfl rfl (show z20.toInt = z20.toInt ∧ 0 ≤ z20.toInt ∧ z20.toInt ≤ 700 from ⟨rfl, by omega, by omega⟩) dX6_tell_35 (fun g21 H locs eg21 ng21 hJ => ?_)
      have eg21 : g21 1 1 = z20.toInt := eg21
      have P22 : hg_Q (fun a b => (5 ≤ a ∧ a < 9 ∧ b ≠ 0) ∨ a = 353 ∨ a = 373 ∨ (a = 1 ∧ b = 1)) g g21 := hg_Q.put P18 ng21 (show (5 ≤ 1 ∧ 1 < 9 ∧ 1 ≠ 0) ∨ 1 = 353 ∨ 1 = 373 ∨ (1 = 1 ∧ 1 = 1) from by omega)
      refine hq_iconst hx hb dX6_tell_38 (by decide) (by decide) (fun z23 ez23 => ?_)
      exact he_iret hx hb hK hN hW hlocks hJ hr P22 dX6_tell_39
  · refine hq_iconst hx hb dX6_tell_11 (by decide) (by decide) (fun z24 ez24 => ?_)
    exact he_iret hx hb hK hN hW hlocks hJ hr hg_Q.rf dX6_tell_12
theorem iX6_set_X6 : ∀ w ∈ wsX60, w ∈ wsX6_set := fun _ h => List.mem_cons_of_mem _ (List.mem_append_right _ h)
set_option maxRecDepth 100000 in
set_option maxHeartbeats 4000000 in
theorem e_X6_set (l : Launch) (dC : Nat → ClassId) (dI : Nat → Nat → Nat) (dA : Nat → ClassId) (κ : Nat → Nat) (B : Nat) (g : Nat → Nat → Int) (h0 : Nat) (k0 : κ h0 = 1) (what : Int32) (v : Int32) : Met l yX6_set wsX6_set ({ frames := 0, cells := 0, slots := 0, locals := 0 } : Room) (he_Pre dC dI dA κ B g [Value.ref h0, Value.int what, Value.int v]) (he_Qi dC dI dA κ B (fun r u => g = u)) 0 0 (hp_A B) := by
  refine Met.ofW (cc := cX6_set) (maxL := 3) (ret := (some .int)) (by decide) rfl ?_
  intro p e s m args below meth c s₁ Bd hml hv
  obtain ⟨rfl, hK, hN, hW, hF⟩ := hv
  have hx := Bd.exec
  have hb := Bd.bytes
  have hr := Bd.returns
  have hts := atoms_spec (ws := wsX6_set) Bd.pre
  have hown : s.vm.findClass RX6 = some m.cls := findClass_of_methodNamed Bd.named
  have hlocks := Bd.notSynchronized
  have hJ : he_J dC dI dA κ B g s.heap s.heap [] := ⟨hF, va_S.rf⟩
  have hl := lv_entry ([Value.ref h0, Value.int what, Value.int v]) (n := 3) (Nat.le_of_ble_eq_true rfl)
  rw [lg_entry_eq]
  generalize (lg_sl ([Value.ref h0, Value.int what, Value.int v]) ++ List.replicate (3 - (lg_sl ([Value.ref h0, Value.int what, Value.int v])).length) Slot.unset).toArray = ls at hl ⊢
  have hl : lv_has ls 3 [(0, .ref h0), (1, .int what), (2, .int v)] := hl
  refine lv_iload_n hx hb dX6_set_0 rfl (lv_at hl 1 rfl) ?_
  refine hq_if_ne (tgt := 23) hx hb dX6_set_1 (by decide) (fun c1 => ?_) (fun c1 => ?_)
  · refine lv_iload_n hx hb dX6_set_23 rfl (lv_at hl 1 rfl) ?_
    refine hq_iconst hx hb dX6_set_24 (by decide) (by decide) (fun z2 ez2 => ?_)
    refine hq_icmp_ne (tgt := 46) hx hb dX6_set_25 (by decide) (fun c3 => ?_) (fun c3 => ?_)
    · refine lv_iload_n hx hb dX6_set_46 rfl (lv_at hl 1 rfl) ?_
      refine hq_iconst hx hb dX6_set_47 (by decide) (by decide) (fun z4 ez4 => ?_)
      refine hq_icmp_ne (tgt := 69) hx hb dX6_set_48 (by decide) (fun c5 => ?_) (fun c5 => ?_)
      · refine hq_iconst hx hb dX6_set_69 (by decide) (by decide) (fun z6 ez6 => ?_)
        exact he_iret hx hb hK hN hW hlocks hJ hr rfl dX6_set_70
      · refine lv_iload_n hx hb dX6_set_51 rfl (lv_at hl 2 rfl) ?_
        refine hq_iconst hx hb dX6_set_52 (by decide) (by decide) (fun z7 ez7 => ?_)
        refine hq_icmp_lt (tgt := 69) hx hb dX6_set_53 (by decide) (fun c8 => ?_) (fun c8 => ?_)
        · refine hq_iconst hx hb dX6_set_69 (by decide) (by decide) (fun z9 ez9 => ?_)
          exact he_iret hx hb hK hN hW hlocks hJ hr rfl dX6_set_70
        · refine lv_iload_n hx hb dX6_set_56 rfl (lv_at hl 2 rfl) ?_
          refine hq_bipush hx hb dX6_set_57 (by decide) (fun z10 ez10 => ?_)
          refine hq_icmp_gt (tgt := 69) hx hb dX6_set_59 (by decide) (fun c11 => ?_) (fun c11 => ?_)
          · refine hq_iconst hx hb dX6_set_69 (by decide) (by decide) (fun z12 ez12 => ?_)
            exact he_iret hx hb hK hN hW hlocks hJ hr rfl dX6_set_70
          · refine lv_aload_n hx hb dX6_set_62 rfl (lv_at hl 0 rfl) ?_
            refine lv_iload_n hx hb dX6_set_63 rfl (lv_at hl 2 rfl) ?_
            refine he_put (C := RX6) (T := TX6) (N := 12) (ci := 6) (kd := 1) hx hb hts iX6_set_X6 hown hK hJ k0 rfl rfl 9 (by decide) (hts (.fieldLink RX6 54 "NeighborBook" "quick" "I") (List.mem_of_getElem? (i := 3) rfl)) (fun _ h9 => h9) tyX6 tyX6_ok nmX6 (v := .int v) rfl rfl (by decide) hW rfl (he_i_ok rfl trivial) dX6_set_64 (fun H locs hJ => ?_)
            refine hq_iconst hx hb dX6_set_67 (by decide) (by decide) (fun z13 ez13 => ?_)
            exact he_iret hx hb hK hN hW hlocks hJ hr rfl dX6_set_68
    · refine lv_iload_n hx hb dX6_set_28 rfl (lv_at hl 2 rfl) ?_
      refine hq_iconst hx hb dX6_set_29 (by decide) (by decide) (fun z14 ez14 => ?_)
      refine hq_icmp_lt (tgt := 46) hx hb dX6_set_30 (by decide) (fun c15 => ?_) (fun c15 => ?_)
      · refine lv_iload_n hx hb dX6_set_46 rfl (lv_at hl 1 rfl) ?_
        refine hq_iconst hx hb dX6_set_47 (by decide) (by decide) (fun z16 ez16 => ?_)
        refine hq_icmp_ne (tgt := 69) hx hb dX6_set_48 (by decide) (fun c17 => ?_) (fun c17 => ?_)
        · refine hq_iconst hx hb dX6_set_69 (by decide) (by decide) (fun z18 ez18 => ?_)
          exact he_iret hx hb hK hN hW hlocks hJ hr rfl dX6_set_70
        · exfalso; omega
      · refine lv_iload_n hx hb dX6_set_33 rfl (lv_at hl 2 rfl) ?_
        refine hq_bipush hx hb dX6_set_34 (by decide) (fun z19 ez19 => ?_)
        refine hq_icmp_gt (tgt := 46) hx hb dX6_set_36 (by decide) (fun c20 => ?_) (fun c20 => ?_)
        · refine lv_iload_n hx hb dX6_set_46 rfl (lv_at hl 1 rfl) ?_
          refine hq_iconst hx hb dX6_set_47 (by decide) (by decide) (fun z21 ez21 => ?_)
          refine hq_icmp_ne (tgt := 69) hx hb dX6_set_48 (by decide) (fun c22 => ?_) (fun c22 => ?_)
          · refine hq_iconst hx hb dX6_set_69 (by decide) (by decide) (fun z23 ez23 => ?_)
            exact he_iret hx hb hK hN hW hlocks hJ hr rfl dX6_set_70
          · exfalso; omega
        · refine lv_aload_n hx hb dX6_set_39 rfl (lv_at hl 0 rfl) ?_
          refine lv_iload_n hx hb dX6_set_40 rfl (lv_at hl 2 rfl) ?_
          refine he_put (C := RX6) (T := TX6) (N := 12) (ci := 6) (kd := 1) hx hb hts iX6_set_X6 hown hK hJ k0 rfl rfl 8 (by decide) (hts (.fieldLink RX6 51 "NeighborBook" "hold" "I") (List.mem_of_getElem? (i := 2) rfl)) (fun _ h9 => h9) tyX6 tyX6_ok nmX6 (v := .int v) rfl rfl (by decide) hW rfl (he_i_ok rfl trivial) dX6_set_41 (fun H locs hJ => ?_)
          refine hq_iconst hx hb dX6_set_44 (by decide) (by decide) (fun z24 ez24 => ?_)
          exact he_iret hx hb hK hN hW hlocks hJ hr rfl dX6_set_45
  · refine lv_iload_n hx hb dX6_set_4 rfl (lv_at hl 2 rfl) ?_
    refine hq_iconst hx hb dX6_set_5 (by decide) (by decide) (fun z25 ez25 => ?_)
    refine hq_icmp_lt (tgt := 23) hx hb dX6_set_6 (by decide) (fun c26 => ?_) (fun c26 => ?_)
    · refine lv_iload_n hx hb dX6_set_23 rfl (lv_at hl 1 rfl) ?_
      refine hq_iconst hx hb dX6_set_24 (by decide) (by decide) (fun z27 ez27 => ?_)
      refine hq_icmp_ne (tgt := 46) hx hb dX6_set_25 (by decide) (fun c28 => ?_) (fun c28 => ?_)
      · refine lv_iload_n hx hb dX6_set_46 rfl (lv_at hl 1 rfl) ?_
        refine hq_iconst hx hb dX6_set_47 (by decide) (by decide) (fun z29 ez29 => ?_)
        refine hq_icmp_ne (tgt := 69) hx hb dX6_set_48 (by decide) (fun c30 => ?_) (fun c30 => ?_)
        · refine hq_iconst hx hb dX6_set_69 (by decide) (by decide) (fun z31 ez31 => ?_)
          exact he_iret hx hb hK hN hW hlocks hJ hr rfl dX6_set_70
        · exfalso; omega
      · exfalso; omega
    · refine lv_iload_n hx hb dX6_set_9 rfl (lv_at hl 2 rfl) ?_
      refine hq_sipush hx hb dX6_set_10 (by decide) (fun z32 ez32 => ?_)
      refine hq_icmp_gt (tgt := 23) hx hb dX6_set_13 (by decide) (fun c33 => ?_) (fun c33 => ?_)
      · refine lv_iload_n hx hb dX6_set_23 rfl (lv_at hl 1 rfl) ?_
        refine hq_iconst hx hb dX6_set_24 (by decide) (by decide) (fun z34 ez34 => ?_)
        refine hq_icmp_ne (tgt := 46) hx hb dX6_set_25 (by decide) (fun c35 => ?_) (fun c35 => ?_)
        · refine lv_iload_n hx hb dX6_set_46 rfl (lv_at hl 1 rfl) ?_
          refine hq_iconst hx hb dX6_set_47 (by decide) (by decide) (fun z36 ez36 => ?_)
          refine hq_icmp_ne (tgt := 69) hx hb dX6_set_48 (by decide) (fun c37 => ?_) (fun c37 => ?_)
          · refine hq_iconst hx hb dX6_set_69 (by decide) (by decide) (fun z38 ez38 => ?_)
            exact he_iret hx hb hK hN hW hlocks hJ hr rfl dX6_set_70
          · exfalso; omega
        · exfalso; omega
      · refine lv_aload_n hx hb dX6_set_16 rfl (lv_at hl 0 rfl) ?_
        refine lv_iload_n hx hb dX6_set_17 rfl (lv_at hl 2 rfl) ?_
        refine he_put (C := RX6) (T := TX6) (N := 12) (ci := 6) (kd := 1) hx hb hts iX6_set_X6 hown hK hJ k0 rfl rfl 7 (by decide) (hts (.fieldLink RX6 47 "NeighborBook" "interval" "I") (List.mem_of_getElem? (i := 1) rfl)) (fun _ h9 => h9) tyX6 tyX6_ok nmX6 (v := .int v) rfl rfl (by decide) hW rfl (he_i_ok rfl trivial) dX6_set_18 (fun H locs hJ => ?_)
        refine hq_iconst hx hb dX6_set_21 (by decide) (by decide) (fun z39 ez39 => ?_)
        exact he_iret hx hb hK hN hW hlocks hJ hr rfl dX6_set_22
