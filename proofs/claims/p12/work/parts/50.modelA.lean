set_option maxRecDepth 100000 in
set_option maxHeartbeats 4000000 in
theorem e_X7_isMore (l : Launch) (dC : Nat → ClassId) (dI : Nat → Nat → Nat) (dA : Nat → ClassId) (κ : Nat → Nat) (B : Nat) (g : Nat → Nat → Int) (type : Int32) : Met l yX7_isMore wsX7_isMore ({ frames := 0, cells := 0, slots := 0, locals := 0 } : Room) (he_Pre dC dI dA κ B g [Value.int type]) (he_Qi dC dI dA κ B (fun r u => g = u ∧ ((r.toInt = 1 ∧ 4 ≤ type.toInt ∧ type.toInt ≤ 8) ∨ (r.toInt = 0 ∧ (type.toInt < 4 ∨ 8 < type.toInt))))) 0 0 (hp_A B) := by
  refine Met.ofW (cc := cX7_isMore) (maxL := 1) (ret := (some .boolean)) (by decide) rfl ?_
  intro p e s m args below meth c s₁ Bd hml hv
  obtain ⟨rfl, hK, hN, hW, hF⟩ := hv
  have hx := Bd.exec
  have hb := Bd.bytes
  have hr := Bd.returns
  have hts := atoms_spec (ws := wsX7_isMore) Bd.pre
  have hown : s.vm.findClass RX7 = some m.cls := findClass_of_methodNamed Bd.named
  have hlocks := Bd.notSynchronized
  have hJ : he_J dC dI dA κ B g s.heap s.heap [] := ⟨hF, va_S.rf⟩
  have hl := lv_entry ([Value.int type]) (n := 1) (Nat.le_of_ble_eq_true rfl)
  rw [lg_entry_eq]
  generalize (lg_sl ([Value.int type]) ++ List.replicate (1 - (lg_sl ([Value.int type])).length) Slot.unset).toArray = ls at hl ⊢
  have hl : lv_has ls 1 [(0, .int type)] := hl
  refine lv_iload_n hx hb dX7_isMore_0 rfl (lv_at hl 0 rfl) ?_
  refine hq_iconst hx hb dX7_isMore_1 (by decide) (by decide) (fun z1 ez1 => ?_)
  refine hq_icmp_lt (tgt := 15) hx hb dX7_isMore_2 (by decide) (fun c2 => ?_) (fun c2 => ?_)
  · refine hq_iconst hx hb dX7_isMore_15 (by decide) (by decide) (fun z3 ez3 => ?_)
    exact he_zret hx hb hK hN hW hlocks hJ hr (by omega) ⟨rfl, by omega⟩ dX7_isMore_16
  · refine lv_iload_n hx hb dX7_isMore_5 rfl (lv_at hl 0 rfl) ?_
    refine hq_bipush hx hb dX7_isMore_6 (by decide) (fun z4 ez4 => ?_)
    refine hq_icmp_gt (tgt := 15) hx hb dX7_isMore_8 (by decide) (fun c5 => ?_) (fun c5 => ?_)
    · refine hq_iconst hx hb dX7_isMore_15 (by decide) (by decide) (fun z6 ez6 => ?_)
      exact he_zret hx hb hK hN hW hlocks hJ hr (by omega) ⟨rfl, by omega⟩ dX7_isMore_16
    · refine hq_iconst hx hb dX7_isMore_11 (by decide) (by decide) (fun z7 ez7 => ?_)
      refine lv_goto (tgt := 16) hx hb dX7_isMore_12 (by decide) ?_
      exact he_zret hx hb hK hN hW hlocks hJ hr (by omega) ⟨rfl, by omega⟩ dX7_isMore_16
theorem iX7_type_X7 : ∀ w ∈ wsX70, w ∈ wsX7_type := fun _ h => List.mem_cons_of_mem _ (List.mem_append_right _ h)
set_option maxRecDepth 100000 in
set_option maxHeartbeats 4000000 in
theorem e_X7_type (l : Launch) (dC : Nat → ClassId) (dI : Nat → Nat → Nat) (dA : Nat → ClassId) (κ : Nat → Nat) (B : Nat) (g : Nat → Nat → Int) (h0 : Nat) (k0 : κ h0 = 11) (w : Int64) (n : Int32) : Met l yX7_type wsX7_type ({ frames := 0, cells := 0, slots := 0, locals := 0 } : Room) (he_Pre dC dI dA κ B g [Value.ref h0, Value.long w, Value.int n]) (he_Qi dC dI dA κ B (fun r u => hg_Q (fun a b => (a = 11 ∧ b = 1) ∨ a = 38) g u)) 0 0 (hp_A B) := by
  refine Met.ofW (cc := cX7_type) (maxL := 5) (ret := (some .int)) (by decide) rfl ?_
  intro p e s m args below meth c s₁ Bd hml hv
  obtain ⟨rfl, hK, hN, hW, hF⟩ := hv
  have hx := Bd.exec
  have hb := Bd.bytes
  have hr := Bd.returns
  have hts := atoms_spec (ws := wsX7_type) Bd.pre
  have hown : s.vm.findClass RX7 = some m.cls := findClass_of_methodNamed Bd.named
  have hlocks := Bd.notSynchronized
  have hJ : he_J dC dI dA κ B g s.heap s.heap [] := ⟨hF, va_S.rf⟩
  have hl := lv_entry ([Value.ref h0, Value.long w, Value.int n]) (n := 5) (Nat.le_of_ble_eq_true rfl)
  rw [lg_entry_eq]
  generalize (lg_sl ([Value.ref h0, Value.long w, Value.int n]) ++ List.replicate (5 - (lg_sl ([Value.ref h0, Value.long w, Value.int n])).length) Slot.unset).toArray = ls at hl ⊢
  have hl : lv_has ls 5 [(0, .ref h0), (1, .long w), (3, .int n)] := hl
  refine lv_iload_n hx hb dX7_type_0 rfl (lv_at hl 2 rfl) ?_
  refine hq_iconst hx hb dX7_type_1 (by decide) (by decide) (fun z1 ez1 => ?_)
  refine hq_icmp_lt (tgt := 23) hx hb dX7_type_2 (by decide) (fun c2 => ?_) (fun c2 => ?_)
  · refine hq_iconst hx hb dX7_type_23 (by decide) (by decide) (fun z3 ez3 => ?_)
    exact he_iret hx hb hK hN hW hlocks hJ hr hg_Q.rf dX7_type_24
  · refine lv_iload_n hx hb dX7_type_5 rfl (lv_at hl 2 rfl) ?_
    refine hq_bipush hx hb dX7_type_6 (by decide) (fun z4 ez4 => ?_)
    refine hq_icmp_gt (tgt := 23) hx hb dX7_type_8 (by decide) (fun c5 => ?_) (fun c5 => ?_)
    · refine hq_iconst hx hb dX7_type_23 (by decide) (by decide) (fun z6 ez6 => ?_)
      exact he_iret hx hb hK hN hW hlocks hJ hr hg_Q.rf dX7_type_24
    · refine lv_aload_n hx hb dX7_type_11 rfl (lv_at hl 0 rfl) ?_
      refine he_geti (C := RX7) (T := TX7) (N := 24) (ci := 7) (kd := 11) hx hb hts iX7_type_X7 hown hK hJ k0 rfl rfl 1 (by decide) (hts (.fieldLink RX7 70 "NeighborBookModel" "typedSize" "I") (List.mem_of_getElem? (i := 1) rfl)) (fun _ h9 => h9) rfl rfl dX7_type_12 (fun x7 ex7 => ?_)
      have ex7 : x7.toInt = g 11 1 ∧ 0 ≤ x7.toInt ∧ x7.toInt ≤ 700 := ex7
      refine lv_iload_n hx hb dX7_type_15 rfl (lv_at hl 2 rfl) ?_
      refine hq_iadd hx hb dX7_type_16 (by omega) (by omega) (fun x8 ex8 => ?_)
      refine hq_sipush hx hb dX7_type_17 (by decide) (fun z9 ez9 => ?_)
      refine hq_icmp_le (tgt := 25) hx hb dX7_type_20 (by decide) (fun c10 => ?_) (fun c10 => ?_)
      · refine lv_iload_n hx hb dX7_type_25 rfl (lv_at hl 2 rfl) ?_
        refine hq_iconst hx hb dX7_type_26 (by decide) (by decide) (fun z11 ez11 => ?_)
        refine hq_isub hx hb dX7_type_27 (by omega) (by omega) (fun x12 ex12 => ?_)
        refine lv_istore (lv' := [(4, .int x12), (0, .ref h0), (1, .long w), (3, .int n)]) hx hb dX7_type_28 hl (by decide) rfl (fun ls hl => ?_)
        have lp15 : ∀ (nlp15 : Nat) (v13 : Int32) (g14 : Nat → Nat → Int) (H : Heap) (locs : List Loc) (ls : Array Slot), (hg_Q (fun a b => (a = 11 ∧ b = 1) ∨ a = 38) g g14) → (-1 ≤ v13.toInt) → (v13.toInt ≤ 7) → (0 ≤ g14 11 1) → (g14 11 1 + v13.toInt = g 11 1 + n.toInt - 1) → (g 11 1 + n.toInt ≤ 700) → (v13.toInt + 2 < (nlp15 : Int)) → he_J dC dI dA κ B g14 s.heap H locs → lv_has ls 5 [(0, .ref h0), (1, .long w), (3, .int n), (4, .int v13)] → W p l e (headSpec wsX7_type ({ frames := 0, cells := 0, slots := 0, locals := 0 } : Room)).room s m ([Value.ref h0, Value.long w, Value.int n] : List Value).toArray below meth c H locs 0 0 (MQ below (he_Qi dC dI dA κ B (fun r u => hg_Q (fun a b => (a = 11 ∧ b = 1) ∨ a = 38) g u)) ([Value.ref h0, Value.long w, Value.int n] : List Value).toArray s 0 0 (hp_A B)) (F0 m 30 ls []) := by
          intro nlp15
          induction nlp15 with
          | zero => intro v13 g14 H locs ls iv17 iv18 iv19 iv20 iv21 iv22 hm16 hJ hl; exact absurd hm16 (by omega)
          | succ nlp15 ihlp15 =>
            intro v13 g14 H locs ls iv17 iv18 iv19 iv20 iv21 iv22 hm16 hJ hl
            refine lv_iload hx hb dX7_type_30 (lv_at hl 3 rfl) ?_
            refine hq_if_lt (tgt := 69) hx hb dX7_type_32 (by decide) (fun c23 => ?_) (fun c23 => ?_)
            · refine lv_aload_n hx hb dX7_type_69 rfl (lv_at hl 0 rfl) ?_
              refine he_geti (C := RX7) (T := TX7) (N := 24) (ci := 7) (kd := 11) hx hb hts iX7_type_X7 hown hK hJ k0 rfl rfl 1 (by decide) (hts (.fieldLink RX7 70 "NeighborBookModel" "typedSize" "I") (List.mem_of_getElem? (i := 1) rfl)) (fun _ h9 => h9) rfl rfl dX7_type_70 (fun x24 ex24 => ?_)
              have ex24 : x24.toInt = g14 11 1 ∧ 0 ≤ x24.toInt ∧ x24.toInt ≤ 700 := ex24
              exact he_iret hx hb hK hN hW hlocks hJ hr iv17 dX7_type_73
            · refine lv_aload_n hx hb dX7_type_35 rfl (lv_at hl 0 rfl) ?_
              refine he_getr (C := RX7) (T := TX7) (N := 24) (ci := 7) (kd := 11) hx hb hts iX7_type_X7 hown hK hJ k0 rfl rfl 0 (by decide) (hts (.fieldLink RX7 7 "NeighborBookModel" "typed" "[B") (List.mem_of_getElem? (i := 2) rfl)) (fun _ h9 => h9) rfl dX7_type_36 (fun b25 kb25 => ?_)
              refine lv_aload_n hx hb dX7_type_39 rfl (lv_at hl 0 rfl) ?_
              refine he_geti (C := RX7) (T := TX7) (N := 24) (ci := 7) (kd := 11) hx hb hts iX7_type_X7 hown hK hJ k0 rfl rfl 1 (by decide) (hts (.fieldLink RX7 70 "NeighborBookModel" "typedSize" "I") (List.mem_of_getElem? (i := 1) rfl)) (fun _ h9 => h9) rfl rfl dX7_type_40 (fun x26 ex26 => ?_)
              have ex26 : x26.toInt = g14 11 1 ∧ 0 ≤ x26.toInt ∧ x26.toInt ≤ 700 := ex26
              refine lv_lload_n hx hb dX7_type_43 rfl (lv_at hl 1 rfl) ?_
              refine hq_bipush hx hb dX7_type_44 (by decide) (fun z27 ez27 => ?_)
              refine lv_iload hx hb dX7_type_46 (lv_at hl 3 rfl) ?_
              refine hq_imul (w := 8 * v13.toInt) hx hb dX7_type_48 (by rw [ez27]) (by omega) (by omega) (fun x28 ex28 => ?_)
              refine lv_lshr hx hb dX7_type_49 rfl ?_
              refine lv_topl (fun w29 fw29 => ?_)
              refine lv_l2i hx hb dX7_type_50 rfl ?_
              refine lv_topi (fun x30 fx30 => ?_)
              refine hq_i2bb hx hb dX7_type_51 (fun x31 ex31 => ?_)
              refine he_bastx (kd := 38) (n := 700) hx hb hK hJ kb25 rfl (by omega) (by omega) (by decide) hW rfl rfl (by omega) (by omega) dX7_type_52 (fun g32 H locs eg32 ng32 hJ => ?_)
              have eg32 : g32 38 x26.toInt.toNat = x31.toInt := eg32
              have P33 : hg_Q (fun a b => (a = 11 ∧ b = 1) ∨ a = 38) g g32 := hg_Q.put iv17 ng32 (show (38 = 11 ∧ x26.toInt.toNat = 1) ∨ 38 = 38 from by omega)
              have qt34 : g32 11 1 = g14 11 1 := ng32 11 1 (by omega)
              refine lv_aload_n hx hb dX7_type_53 rfl (lv_at hl 0 rfl) ?_
              refine lv_dup hx hb dX7_type_54 rfl ?_
              refine he_geti (C := RX7) (T := TX7) (N := 24) (ci := 7) (kd := 11) hx hb hts iX7_type_X7 hown hK hJ k0 rfl rfl 1 (by decide) (hts (.fieldLink RX7 70 "NeighborBookModel" "typedSize" "I") (List.mem_of_getElem? (i := 1) rfl)) (fun _ h9 => h9) rfl rfl dX7_type_55 (fun x35 ex35 => ?_)
              have ex35 : x35.toInt = g32 11 1 ∧ 0 ≤ x35.toInt ∧ x35.toInt ≤ 700 := ex35
              refine hq_iconst hx hb dX7_type_58 (by decide) (by decide) (fun z36 ez36 => ?_)
              refine hq_iadd hx hb dX7_type_59 (by omega) (by omega) (fun x37 ex37 => ?_)
              refine he_putx (C := RX7) (T := TX7) (N := 24) (ci := 7) (kd := 11) hx hb hts iX7_type_X7 hown hK hJ k0 rfl rfl 1 (by decide) (hts (.fieldLink RX7 70 "NeighborBookModel" "typedSize" "I") (List.mem_of_getElem? (i := 1) rfl)) (fun _ h9 => h9) tyX7 tyX7_ok nmX7 (x := x37) rfl rfl (by decide) hW rfl rfl rfl rfl (show x37.toInt = x37.toInt ∧ 0 ≤ x37.toInt ∧ x37.toInt ≤ 700 from ⟨rfl, by omega, by omega⟩) dX7_type_60 (fun g38 H locs eg38 ng38 hJ => ?_)
              have eg38 : g38 11 1 = x37.toInt := eg38
              have P39 : hg_Q (fun a b => (a = 11 ∧ b = 1) ∨ a = 38) g g38 := hg_Q.put P33 ng38 (show (11 = 11 ∧ 1 = 1) ∨ 11 = 38 from by omega)
              refine hq_iinc (k := 3) (lv' := fun (z9 : Int32) => [(4, .int z9), (0, .ref h0), (1, .long w), (3, .int n)]) hx hb dX7_type_63 hl rfl (by decide) (by decide) (by omega) (by omega) (by decide) (fun _ => rfl) (fun x40 ls ex40 hl => ?_)
              have hl : lv_has ls 5 [(4, .int x40), (0, .ref h0), (1, .long w), (3, .int n)] := hl
              refine lv_goto (tgt := 30) hx hb dX7_type_66 (by decide) ?_
              exact ihlp15 x40 g38 _ _ ls P39 (by omega) (by omega) (by omega) (by omega) (by omega) (by omega) hJ (lv_sub hl [1, 2, 3, 0] rfl)
        exact lp15 ((x12.toInt + 2).toNat + 1) x12 g _ _ ls hg_Q.rf (by omega) (by omega) (by omega) (by omega) (by omega) (by omega) hJ (lv_sub hl [1, 2, 3, 0] rfl)
      · refine hq_iconst hx hb dX7_type_23 (by decide) (by decide) (fun z41 ez41 => ?_)
        exact he_iret hx hb hK hN hW hlocks hJ hr hg_Q.rf dX7_type_24
theorem iX7_tell_X7 : ∀ w ∈ wsX70, w ∈ wsX7_tell := fun _ h => List.mem_cons_of_mem _ (List.mem_append_right _ h)
set_option maxRecDepth 100000 in
set_option maxHeartbeats 4000000 in
theorem e_X7_tell (l : Launch) (dC : Nat → ClassId) (dI : Nat → Nat → Nat) (dA : Nat → ClassId) (κ : Nat → Nat) (B : Nat) (g : Nat → Nat → Int) (h0 : Nat) (k0 : κ h0 = 11) (what : Int32) : Met l yX7_tell wsX7_tell ({ frames := 1, cells := 0, slots := 0, locals := 20 } : Room) (he_Pre dC dI dA κ B g [Value.ref h0, Value.int what]) (he_Qi dC dI dA κ B (fun r u => hg_Q (fun a b => (a = 11 ∧ b = 1) ∨ a = 24) g u)) 0 0 (hp_A B) := by
  refine Met.ofW (cc := cX7_tell) (maxL := 4) (ret := (some .int)) (by decide) rfl ?_
  intro p e s m args below meth c s₁ Bd hml hv
  obtain ⟨rfl, hK, hN, hW, hF⟩ := hv
  have hx := Bd.exec
  have hb := Bd.bytes
  have hr := Bd.returns
  have hts := atoms_spec (ws := wsX7_tell) Bd.pre
  have hown : s.vm.findClass RX7 = some m.cls := findClass_of_methodNamed Bd.named
  have hlocks := Bd.notSynchronized
  have hJ : he_J dC dI dA κ B g s.heap s.heap [] := ⟨hF, va_S.rf⟩
  have hl := lv_entry ([Value.ref h0, Value.int what]) (n := 4) (Nat.le_of_ble_eq_true rfl)
  rw [lg_entry_eq]
  generalize (lg_sl ([Value.ref h0, Value.int what]) ++ List.replicate (4 - (lg_sl ([Value.ref h0, Value.int what])).length) Slot.unset).toArray = ls at hl ⊢
  have hl : lv_has ls 4 [(0, .ref h0), (1, .int what)] := hl
  have ct1 : ∀ (H : Heap) (locs : List Loc) (ls : Array Slot), ((((what.toInt = 1 ∨ what.toInt = 2) ∧ 2 ≤ g 11 1 ∧ g 11 1 ≤ 59) ∨ (4 ≤ what.toInt ∧ what.toInt ≤ 8 ∧ g 11 1 ≤ 60))) → he_J dC dI dA κ B g s.heap H locs → lv_has ls 4 [(0, .ref h0), (1, .int what)] → W p l e (headSpec wsX7_tell ({ frames := 1, cells := 0, slots := 0, locals := 20 } : Room)).room s m ([Value.ref h0, Value.int what] : List Value).toArray below meth c H locs 0 0 (MQ below (he_Qi dC dI dA κ B (fun r u => hg_Q (fun a b => (a = 11 ∧ b = 1) ∨ a = 24) g u)) ([Value.ref h0, Value.int what] : List Value).toArray s 0 0 (hp_A B)) (F0 m 64 ls []) := by
    intro  H locs ls iv2 hJ hl
    refine hq_iconst hx hb dX7_tell_64 (by decide) (by decide) (fun z3 ez3 => ?_)
    refine lv_istore_n (lv' := [(3, .int z3), (0, .ref h0), (1, .int what)]) hx hb dX7_tell_65 rfl hl (by decide) rfl (fun ls hl => ?_)
    have lp5 : ∀ (nlp5 : Nat) (v4 : Int32) (H : Heap) (locs : List Loc) (ls : Array Slot), (0 ≤ v4.toInt) → (v4.toInt ≤ 60) → (61 - v4.toInt < (nlp5 : Int)) → he_J dC dI dA κ B g s.heap H locs → lv_has ls 4 [(0, .ref h0), (1, .int what), (3, .int v4)] → W p l e (headSpec wsX7_tell ({ frames := 1, cells := 0, slots := 0, locals := 20 } : Room)).room s m ([Value.ref h0, Value.int what] : List Value).toArray below meth c H locs 0 0 (MQ below (he_Qi dC dI dA κ B (fun r u => hg_Q (fun a b => (a = 11 ∧ b = 1) ∨ a = 24) g u)) ([Value.ref h0, Value.int what] : List Value).toArray s 0 0 (hp_A B)) (F0 m 66 ls []) := by
      intro nlp5
      induction nlp5 with
      | zero => intro v4 H locs ls iv7 iv8 hm6 hJ hl; exact absurd hm6 (by omega)
      | succ nlp5 ihlp5 =>
        intro v4 H locs ls iv7 iv8 hm6 hJ hl
        refine lv_iload_n hx hb dX7_tell_66 rfl (lv_at hl 2 rfl) ?_
        refine lv_aload_n hx hb dX7_tell_67 rfl (lv_at hl 0 rfl) ?_
        refine he_geti (C := RX7) (T := TX7) (N := 24) (ci := 7) (kd := 11) hx hb hts iX7_tell_X7 hown hK hJ k0 rfl rfl 1 (by decide) (hts (.fieldLink RX7 70 "NeighborBookModel" "typedSize" "I") (List.mem_of_getElem? (i := 1) rfl)) (fun _ h9 => h9) rfl rfl dX7_tell_68 (fun x9 ex9 => ?_)
        have ex9 : x9.toInt = g 11 1 ∧ 0 ≤ x9.toInt ∧ x9.toInt ≤ 700 := ex9
        refine hq_icmp_ge (tgt := 97) hx hb dX7_tell_71 (by decide) (fun c10 => ?_) (fun c10 => ?_)
        · refine lv_aload_n hx hb dX7_tell_97 rfl (lv_at hl 0 rfl) ?_
          refine he_getr (C := RX7) (T := TX7) (N := 24) (ci := 7) (kd := 11) hx hb hts iX7_tell_X7 hown hK hJ k0 rfl rfl 3 (by decide) (hts (.fieldLink RX7 16 "NeighborBookModel" "ownSizes" "[I") (List.mem_of_getElem? (i := 4) rfl)) (fun _ h9 => h9) rfl dX7_tell_98 (fun b11 kb11 => ?_)
          refine lv_iload_n hx hb dX7_tell_101 rfl (lv_at hl 1 rfl) ?_
          refine lv_aload_n hx hb dX7_tell_102 rfl (lv_at hl 0 rfl) ?_
          refine he_geti (C := RX7) (T := TX7) (N := 24) (ci := 7) (kd := 11) hx hb hts iX7_tell_X7 hown hK hJ k0 rfl rfl 1 (by decide) (hts (.fieldLink RX7 70 "NeighborBookModel" "typedSize" "I") (List.mem_of_getElem? (i := 1) rfl)) (fun _ h9 => h9) rfl rfl dX7_tell_103 (fun x12 ex12 => ?_)
          have ex12 : x12.toInt = g 11 1 ∧ 0 ≤ x12.toInt ∧ x12.toInt ≤ 700 := ex12
          refine hq_if_ne (tgt := 113) hx hb dX7_tell_106 (by decide) (fun c13 => ?_) (fun c13 => ?_)
          · refine lv_aload_n hx hb dX7_tell_113 rfl (lv_at hl 0 rfl) ?_
            refine he_geti (C := RX7) (T := TX7) (N := 24) (ci := 7) (kd := 11) hx hb hts iX7_tell_X7 hown hK hJ k0 rfl rfl 1 (by decide) (hts (.fieldLink RX7 70 "NeighborBookModel" "typedSize" "I") (List.mem_of_getElem? (i := 1) rfl)) (fun _ h9 => h9) rfl rfl dX7_tell_114 (fun x14 ex14 => ?_)
            have ex14 : x14.toInt = g 11 1 ∧ 0 ≤ x14.toInt ∧ x14.toInt ≤ 700 := ex14
            refine he_iast (kd := 19) (n := 9) hx hb hK hJ kb11 rfl (by omega) (by omega) (by decide) hW (sp := (3, 60)) rfl rfl (show _ ∧ _ from by constructor <;> omega) dX7_tell_117 (fun H locs hJ => ?_)
            refine lv_aload_n hx hb dX7_tell_118 rfl (lv_at hl 0 rfl) ?_
            refine hq_iconst hx hb dX7_tell_119 (by decide) (by decide) (fun z15 ez15 => ?_)
            refine he_putx (C := RX7) (T := TX7) (N := 24) (ci := 7) (kd := 11) hx hb hts iX7_tell_X7 hown hK hJ k0 rfl rfl 1 (by decide) (hts (.fieldLink RX7 70 "NeighborBookModel" "typedSize" "I") (List.mem_of_getElem? (i := 1) rfl)) (fun _ h9 => h9) tyX7 tyX7_ok nmX7 (x := z15) rfl rfl (by decide) hW rfl rfl rfl rfl (show z15.toInt = z15.toInt ∧ 0 ≤ z15.toInt ∧ z15.toInt ≤ 700 from ⟨rfl, by omega, by omega⟩) dX7_tell_120 (fun g16 H locs eg16 ng16 hJ => ?_)
            have eg16 : g16 11 1 = z15.toInt := eg16
            have P17 : hg_Q (fun a b => (a = 11 ∧ b = 1) ∨ a = 24) g g16 := hg_Q.put hg_Q.rf ng16 (show (11 = 11 ∧ 1 = 1) ∨ 11 = 24 from by omega)
            refine hq_iconst hx hb dX7_tell_123 (by decide) (by decide) (fun z18 ez18 => ?_)
            refine lv_istore_n (lv' := [(3, .int z18), (0, .ref h0), (1, .int what)]) hx hb dX7_tell_124 rfl hl (by decide) rfl (fun ls hl => ?_)
            have lp21 : ∀ (nlp21 : Nat) (v19 : Int32) (g20 : Nat → Nat → Int) (H : Heap) (locs : List Loc) (ls : Array Slot), (hg_Q (fun a b => (a = 11 ∧ b = 1) ∨ a = 24) g g20) → (0 ≤ v19.toInt) → (v19.toInt ≤ 4) → (5 - v19.toInt < (nlp21 : Int)) → he_J dC dI dA κ B g20 s.heap H locs → lv_has ls 4 [(0, .ref h0), (1, .int what), (3, .int v19)] → W p l e (headSpec wsX7_tell ({ frames := 1, cells := 0, slots := 0, locals := 20 } : Room)).room s m ([Value.ref h0, Value.int what] : List Value).toArray below meth c H locs 0 0 (MQ below (he_Qi dC dI dA κ B (fun r u => hg_Q (fun a b => (a = 11 ∧ b = 1) ∨ a = 24) g u)) ([Value.ref h0, Value.int what] : List Value).toArray s 0 0 (hp_A B)) (F0 m 125 ls []) := by
              intro nlp21
              induction nlp21 with
              | zero => intro v19 g20 H locs ls iv23 iv24 iv25 hm22 hJ hl; exact absurd hm22 (by omega)
              | succ nlp21 ihlp21 =>
                intro v19 g20 H locs ls iv23 iv24 iv25 hm22 hJ hl
                refine lv_iload_n hx hb dX7_tell_125 rfl (lv_at hl 2 rfl) ?_
                refine hq_iconst hx hb dX7_tell_126 (by decide) (by decide) (fun z26 ez26 => ?_)
                refine hq_icmp_ge (tgt := 156) hx hb dX7_tell_127 (by decide) (fun c27 => ?_) (fun c27 => ?_)
                · refine hq_iconst hx hb dX7_tell_156 (by decide) (by decide) (fun z28 ez28 => ?_)
                  exact he_iret hx hb hK hN hW hlocks hJ hr iv23 dX7_tell_157
                · refine lv_aload_n hx hb dX7_tell_130 rfl (lv_at hl 0 rfl) ?_
                  refine he_getr (C := RX7) (T := TX7) (N := 24) (ci := 7) (kd := 11) hx hb hts iX7_tell_X7 hown hK hJ k0 rfl rfl 11 (by decide) (hts (.fieldLink RX7 43 "NeighborBookModel" "waits" "[I") (List.mem_of_getElem? (i := 5) rfl)) (fun _ h9 => h9) rfl dX7_tell_131 (fun b29 kb29 => ?_)
                  refine lv_iload_n hx hb dX7_tell_134 rfl (lv_at hl 2 rfl) ?_
                  refine lv_aload_n hx hb dX7_tell_135 rfl (lv_at hl 0 rfl) ?_
                  refine he_getr (C := RX7) (T := TX7) (N := 24) (ci := 7) (kd := 11) hx hb hts iX7_tell_X7 hown hK hJ k0 rfl rfl 7 (by decide) (hts (.fieldLink RX7 30 "NeighborBookModel" "up" "[Z") (List.mem_of_getElem? (i := 6) rfl)) (fun _ h9 => h9) rfl dX7_tell_136 (fun b30 kb30 => ?_)
                  refine lv_iload_n hx hb dX7_tell_139 rfl (lv_at hl 2 rfl) ?_
                  refine he_zald (kd := 20) (n := 4) hx hb hK hJ kb30 rfl (by omega) (by omega) (sp := (9, 1)) rfl rfl dX7_tell_140 (fun x31 ex31 => ?_)
                  have ex31 : x31.toInt = g20 20 v19.toInt.toNat ∧ 0 ≤ x31.toInt ∧ x31.toInt ≤ 1 := ex31
                  refine hq_if_eq (tgt := 148) hx hb dX7_tell_141 (by decide) (fun c32 => ?_) (fun c32 => ?_)
                  · refine hq_iconst hx hb dX7_tell_148 (by decide) (by decide) (fun z33 ez33 => ?_)
                    refine he_iastx (kd := 24) (n := 4) hx hb hK hJ kb29 rfl (by omega) (by omega) (by decide) hW rfl (sp := (0, 0)) rfl rfl rfl dX7_tell_149 (fun g34 H locs eg34 ng34 hJ => ?_)
                    have eg34 : g34 24 v19.toInt.toNat = z33.toInt := eg34
                    have P35 : hg_Q (fun a b => (a = 11 ∧ b = 1) ∨ a = 24) g g34 := hg_Q.put iv23 ng34 (show (24 = 11 ∧ v19.toInt.toNat = 1) ∨ 24 = 24 from by omega)
                    refine hq_iinc (k := 2) (lv' := fun (z9 : Int32) => [(3, .int z9), (0, .ref h0), (1, .int what)]) hx hb dX7_tell_150 hl rfl (by decide) (by decide) (by omega) (by omega) (by decide) (fun _ => rfl) (fun x36 ls ex36 hl => ?_)
                    have hl : lv_has ls 4 [(3, .int x36), (0, .ref h0), (1, .int what)] := hl
                    refine lv_goto (tgt := 125) hx hb dX7_tell_153 (by decide) ?_
                    exact ihlp21 x36 g34 _ _ ls P35 (by omega) (by omega) (by omega) hJ (lv_sub hl [1, 2, 0] rfl)
                  · refine hq_iconst hx hb dX7_tell_144 (by decide) (by decide) (fun z37 ez37 => ?_)
                    refine lv_goto (tgt := 149) hx hb dX7_tell_145 (by decide) ?_
                    refine he_iastx (kd := 24) (n := 4) hx hb hK hJ kb29 rfl (by omega) (by omega) (by decide) hW rfl (sp := (0, 0)) rfl rfl rfl dX7_tell_149 (fun g38 H locs eg38 ng38 hJ => ?_)
                    have eg38 : g38 24 v19.toInt.toNat = z37.toInt := eg38
                    have P39 : hg_Q (fun a b => (a = 11 ∧ b = 1) ∨ a = 24) g g38 := hg_Q.put iv23 ng38 (show (24 = 11 ∧ v19.toInt.toNat = 1) ∨ 24 = 24 from by omega)
                    refine hq_iinc (k := 2) (lv' := fun (z9 : Int32) => [(3, .int z9), (0, .ref h0), (1, .int what)]) hx hb dX7_tell_150 hl rfl (by decide) (by decide) (by omega) (by omega) (by decide) (fun _ => rfl) (fun x40 ls ex40 hl => ?_)
                    have hl : lv_has ls 4 [(3, .int x40), (0, .ref h0), (1, .int what)] := hl
                    refine lv_goto (tgt := 125) hx hb dX7_tell_153 (by decide) ?_
                    exact ihlp21 x40 g38 _ _ ls P39 (by omega) (by omega) (by omega) hJ (lv_sub hl [1, 2, 0] rfl)
            exact lp21 ((5 - z18.toInt).toNat + 1) z18 g16 _ _ ls P17 (by omega) (by omega) (by omega) hJ (lv_sub hl [1, 2, 0] rfl)
          · refine hq_iconst hx hb dX7_tell_109 (by decide) (by decide) (fun z41 ez41 => ?_)
            refine lv_goto (tgt := 117) hx hb dX7_tell_110 (by decide) ?_
            refine he_iast (kd := 19) (n := 9) hx hb hK hJ kb11 rfl (by omega) (by omega) (by decide) hW (sp := (3, 60)) rfl rfl (show _ ∧ _ from by constructor <;> omega) dX7_tell_117 (fun H locs hJ => ?_)
            refine lv_aload_n hx hb dX7_tell_118 rfl (lv_at hl 0 rfl) ?_
            refine hq_iconst hx hb dX7_tell_119 (by decide) (by decide) (fun z42 ez42 => ?_)
            refine he_putx (C := RX7) (T := TX7) (N := 24) (ci := 7) (kd := 11) hx hb hts iX7_tell_X7 hown hK hJ k0 rfl rfl 1 (by decide) (hts (.fieldLink RX7 70 "NeighborBookModel" "typedSize" "I") (List.mem_of_getElem? (i := 1) rfl)) (fun _ h9 => h9) tyX7 tyX7_ok nmX7 (x := z42) rfl rfl (by decide) hW rfl rfl rfl rfl (show z42.toInt = z42.toInt ∧ 0 ≤ z42.toInt ∧ z42.toInt ≤ 700 from ⟨rfl, by omega, by omega⟩) dX7_tell_120 (fun g43 H locs eg43 ng43 hJ => ?_)
            have eg43 : g43 11 1 = z42.toInt := eg43
            have P44 : hg_Q (fun a b => (a = 11 ∧ b = 1) ∨ a = 24) g g43 := hg_Q.put hg_Q.rf ng43 (show (11 = 11 ∧ 1 = 1) ∨ 11 = 24 from by omega)
            refine hq_iconst hx hb dX7_tell_123 (by decide) (by decide) (fun z45 ez45 => ?_)
            refine lv_istore_n (lv' := [(3, .int z45), (0, .ref h0), (1, .int what)]) hx hb dX7_tell_124 rfl hl (by decide) rfl (fun ls hl => ?_)
            have lp48 : ∀ (nlp48 : Nat) (v46 : Int32) (g47 : Nat → Nat → Int) (H : Heap) (locs : List Loc) (ls : Array Slot), (hg_Q (fun a b => (a = 11 ∧ b = 1) ∨ a = 24) g g47) → (0 ≤ v46.toInt) → (v46.toInt ≤ 4) → (5 - v46.toInt < (nlp48 : Int)) → he_J dC dI dA κ B g47 s.heap H locs → lv_has ls 4 [(0, .ref h0), (1, .int what), (3, .int v46)] → W p l e (headSpec wsX7_tell ({ frames := 1, cells := 0, slots := 0, locals := 20 } : Room)).room s m ([Value.ref h0, Value.int what] : List Value).toArray below meth c H locs 0 0 (MQ below (he_Qi dC dI dA κ B (fun r u => hg_Q (fun a b => (a = 11 ∧ b = 1) ∨ a = 24) g u)) ([Value.ref h0, Value.int what] : List Value).toArray s 0 0 (hp_A B)) (F0 m 125 ls []) := by
              intro nlp48
              induction nlp48 with
              | zero => intro v46 g47 H locs ls iv50 iv51 iv52 hm49 hJ hl; exact absurd hm49 (by omega)
              | succ nlp48 ihlp48 =>
                intro v46 g47 H locs ls iv50 iv51 iv52 hm49 hJ hl
                refine lv_iload_n hx hb dX7_tell_125 rfl (lv_at hl 2 rfl) ?_
                refine hq_iconst hx hb dX7_tell_126 (by decide) (by decide) (fun z53 ez53 => ?_)
                refine hq_icmp_ge (tgt := 156) hx hb dX7_tell_127 (by decide) (fun c54 => ?_) (fun c54 => ?_)
                · refine hq_iconst hx hb dX7_tell_156 (by decide) (by decide) (fun z55 ez55 => ?_)
                  exact he_iret hx hb hK hN hW hlocks hJ hr iv50 dX7_tell_157
                · refine lv_aload_n hx hb dX7_tell_130 rfl (lv_at hl 0 rfl) ?_
                  refine he_getr (C := RX7) (T := TX7) (N := 24) (ci := 7) (kd := 11) hx hb hts iX7_tell_X7 hown hK hJ k0 rfl rfl 11 (by decide) (hts (.fieldLink RX7 43 "NeighborBookModel" "waits" "[I") (List.mem_of_getElem? (i := 5) rfl)) (fun _ h9 => h9) rfl dX7_tell_131 (fun b56 kb56 => ?_)
                  refine lv_iload_n hx hb dX7_tell_134 rfl (lv_at hl 2 rfl) ?_
                  refine lv_aload_n hx hb dX7_tell_135 rfl (lv_at hl 0 rfl) ?_
                  refine he_getr (C := RX7) (T := TX7) (N := 24) (ci := 7) (kd := 11) hx hb hts iX7_tell_X7 hown hK hJ k0 rfl rfl 7 (by decide) (hts (.fieldLink RX7 30 "NeighborBookModel" "up" "[Z") (List.mem_of_getElem? (i := 6) rfl)) (fun _ h9 => h9) rfl dX7_tell_136 (fun b57 kb57 => ?_)
                  refine lv_iload_n hx hb dX7_tell_139 rfl (lv_at hl 2 rfl) ?_
                  refine he_zald (kd := 20) (n := 4) hx hb hK hJ kb57 rfl (by omega) (by omega) (sp := (9, 1)) rfl rfl dX7_tell_140 (fun x58 ex58 => ?_)
                  have ex58 : x58.toInt = g47 20 v46.toInt.toNat ∧ 0 ≤ x58.toInt ∧ x58.toInt ≤ 1 := ex58
                  refine hq_if_eq (tgt := 148) hx hb dX7_tell_141 (by decide) (fun c59 => ?_) (fun c59 => ?_)
                  · refine hq_iconst hx hb dX7_tell_148 (by decide) (by decide) (fun z60 ez60 => ?_)
                    refine he_iastx (kd := 24) (n := 4) hx hb hK hJ kb56 rfl (by omega) (by omega) (by decide) hW rfl (sp := (0, 0)) rfl rfl rfl dX7_tell_149 (fun g61 H locs eg61 ng61 hJ => ?_)
                    have eg61 : g61 24 v46.toInt.toNat = z60.toInt := eg61
                    have P62 : hg_Q (fun a b => (a = 11 ∧ b = 1) ∨ a = 24) g g61 := hg_Q.put iv50 ng61 (show (24 = 11 ∧ v46.toInt.toNat = 1) ∨ 24 = 24 from by omega)
                    refine hq_iinc (k := 2) (lv' := fun (z9 : Int32) => [(3, .int z9), (0, .ref h0), (1, .int what)]) hx hb dX7_tell_150 hl rfl (by decide) (by decide) (by omega) (by omega) (by decide) (fun _ => rfl) (fun x63 ls ex63 hl => ?_)
                    have hl : lv_has ls 4 [(3, .int x63), (0, .ref h0), (1, .int what)] := hl
                    refine lv_goto (tgt := 125) hx hb dX7_tell_153 (by decide) ?_
                    exact ihlp48 x63 g61 _ _ ls P62 (by omega) (by omega) (by omega) hJ (lv_sub hl [1, 2, 0] rfl)
                  · refine hq_iconst hx hb dX7_tell_144 (by decide) (by decide) (fun z64 ez64 => ?_)
                    refine lv_goto (tgt := 149) hx hb dX7_tell_145 (by decide) ?_
                    refine he_iastx (kd := 24) (n := 4) hx hb hK hJ kb56 rfl (by omega) (by omega) (by decide) hW rfl (sp := (0, 0)) rfl rfl rfl dX7_tell_149 (fun g65 H locs eg65 ng65 hJ => ?_)
                    have eg65 : g65 24 v46.toInt.toNat = z64.toInt := eg65
                    have P66 : hg_Q (fun a b => (a = 11 ∧ b = 1) ∨ a = 24) g g65 := hg_Q.put iv50 ng65 (show (24 = 11 ∧ v46.toInt.toNat = 1) ∨ 24 = 24 from by omega)
                    refine hq_iinc (k := 2) (lv' := fun (z9 : Int32) => [(3, .int z9), (0, .ref h0), (1, .int what)]) hx hb dX7_tell_150 hl rfl (by decide) (by decide) (by omega) (by omega) (by decide) (fun _ => rfl) (fun x67 ls ex67 hl => ?_)
                    have hl : lv_has ls 4 [(3, .int x67), (0, .ref h0), (1, .int what)] := hl
                    refine lv_goto (tgt := 125) hx hb dX7_tell_153 (by decide) ?_
                    exact ihlp48 x67 g65 _ _ ls P66 (by omega) (by omega) (by omega) hJ (lv_sub hl [1, 2, 0] rfl)
            exact lp48 ((5 - z45.toInt).toNat + 1) z45 g43 _ _ ls P44 (by omega) (by omega) (by omega) hJ (lv_sub hl [1, 2, 0] rfl)
        · refine lv_aload_n hx hb dX7_tell_74 rfl (lv_at hl 0 rfl) ?_
          refine he_getr (C := RX7) (T := TX7) (N := 24) (ci := 7) (kd := 11) hx hb hts iX7_tell_X7 hown hK hJ k0 rfl rfl 2 (by decide) (hts (.fieldLink RX7 13 "NeighborBookModel" "own" "[B") (List.mem_of_getElem? (i := 2) rfl)) (fun _ h9 => h9) rfl dX7_tell_75 (fun b68 kb68 => ?_)
          refine hq_bipush hx hb dX7_tell_78 (by decide) (fun z69 ez69 => ?_)
          refine lv_iload_n hx hb dX7_tell_80 rfl (lv_at hl 1 rfl) ?_
          refine hq_imul (w := 60 * what.toInt) hx hb dX7_tell_81 (by rw [ez69]) (by omega) (by omega) (fun x70 ex70 => ?_)
          refine lv_iload_n hx hb dX7_tell_82 rfl (lv_at hl 2 rfl) ?_
          refine hq_iadd hx hb dX7_tell_83 (by omega) (by omega) (fun x71 ex71 => ?_)
          refine lv_aload_n hx hb dX7_tell_84 rfl (lv_at hl 0 rfl) ?_
          refine he_getr (C := RX7) (T := TX7) (N := 24) (ci := 7) (kd := 11) hx hb hts iX7_tell_X7 hown hK hJ k0 rfl rfl 0 (by decide) (hts (.fieldLink RX7 7 "NeighborBookModel" "typed" "[B") (List.mem_of_getElem? (i := 3) rfl)) (fun _ h9 => h9) rfl dX7_tell_85 (fun b72 kb72 => ?_)
          refine lv_iload_n hx hb dX7_tell_88 rfl (lv_at hl 2 rfl) ?_
          refine he_bald (kd := 38) (n := 700) hx hb hK hJ kb72 rfl (by omega) (by omega) (sp := (11, 0)) rfl rfl dX7_tell_89 (fun x73 ex73 => ?_)
          have ex73 : x73.toInt = g 38 v4.toInt.toNat ∧ -128 ≤ x73.toInt ∧ x73.toInt ≤ 127 := ex73
          refine he_bast (kd := 18) (n := 540) hx hb hK hJ kb68 rfl (by omega) (by omega) (by decide) hW rfl dX7_tell_90 (fun H locs hJ => ?_)
          refine hq_iinc (k := 2) (lv' := fun (z9 : Int32) => [(3, .int z9), (0, .ref h0), (1, .int what)]) hx hb dX7_tell_91 hl rfl (by decide) (by decide) (by omega) (by omega) (by decide) (fun _ => rfl) (fun x74 ls ex74 hl => ?_)
          have hl : lv_has ls 4 [(3, .int x74), (0, .ref h0), (1, .int what)] := hl
          refine lv_goto (tgt := 66) hx hb dX7_tell_94 (by decide) ?_
          exact ihlp5 x74 _ _ ls (by omega) (by omega) (by omega) hJ (lv_sub hl [1, 2, 0] rfl)
    exact lp5 ((61 - z3.toInt).toNat + 1) z3 _ _ ls (by omega) (by omega) (by omega) hJ (lv_sub hl [1, 2, 0] rfl)
  refine lv_iload_n hx hb dX7_tell_0 rfl (lv_at hl 1 rfl) ?_
  refine hq_iconst hx hb dX7_tell_1 (by decide) (by decide) (fun z75 ez75 => ?_)
  refine hq_icmp_eq (tgt := 10) hx hb dX7_tell_2 (by decide) (fun c76 => ?_) (fun c76 => ?_)
  · refine hq_iconst hx hb dX7_tell_10 (by decide) (by decide) (fun z77 ez77 => ?_)
    refine lv_goto (tgt := 15) hx hb dX7_tell_11 (by decide) ?_
    refine lv_istore_n (lv' := [(2, .int z77), (0, .ref h0), (1, .int what)]) hx hb dX7_tell_15 rfl hl (by decide) rfl (fun ls hl => ?_)
    refine lv_iload_n hx hb dX7_tell_16 rfl (lv_at hl 0 rfl) ?_
    refine hq_if_ne (tgt := 29) hx hb dX7_tell_17 (by decide) (fun c78 => ?_) (fun c78 => ?_)
    · refine lv_iload_n hx hb dX7_tell_29 rfl (lv_at hl 0 rfl) ?_
      refine hq_if_eq (tgt := 53) hx hb dX7_tell_30 (by decide) (fun c79 => ?_) (fun c79 => ?_)
      · exfalso; omega
      · refine lv_aload_n hx hb dX7_tell_33 rfl (lv_at hl 1 rfl) ?_
        refine he_geti (C := RX7) (T := TX7) (N := 24) (ci := 7) (kd := 11) hx hb hts iX7_tell_X7 hown hK hJ k0 rfl rfl 1 (by decide) (hts (.fieldLink RX7 70 "NeighborBookModel" "typedSize" "I") (List.mem_of_getElem? (i := 1) rfl)) (fun _ h9 => h9) rfl rfl dX7_tell_34 (fun x80 ex80 => ?_)
        have ex80 : x80.toInt = g 11 1 ∧ 0 ≤ x80.toInt ∧ x80.toInt ≤ 700 := ex80
        refine hq_iconst hx hb dX7_tell_37 (by decide) (by decide) (fun z81 ez81 => ?_)
        refine hq_icmp_lt (tgt := 62) hx hb dX7_tell_38 (by decide) (fun c82 => ?_) (fun c82 => ?_)
        · refine hq_iconst hx hb dX7_tell_62 (by decide) (by decide) (fun z83 ez83 => ?_)
          exact he_iret hx hb hK hN hW hlocks hJ hr hg_Q.rf dX7_tell_63
        · refine lv_aload_n hx hb dX7_tell_41 rfl (lv_at hl 1 rfl) ?_
          refine he_geti (C := RX7) (T := TX7) (N := 24) (ci := 7) (kd := 11) hx hb hts iX7_tell_X7 hown hK hJ k0 rfl rfl 1 (by decide) (hts (.fieldLink RX7 70 "NeighborBookModel" "typedSize" "I") (List.mem_of_getElem? (i := 1) rfl)) (fun _ h9 => h9) rfl rfl dX7_tell_42 (fun x84 ex84 => ?_)
          have ex84 : x84.toInt = g 11 1 ∧ 0 ≤ x84.toInt ∧ x84.toInt ≤ 700 := ex84
          refine hq_bipush hx hb dX7_tell_45 (by decide) (fun z85 ez85 => ?_)
          refine hq_icmp_le (tgt := 64) hx hb dX7_tell_47 (by decide) (fun c86 => ?_) (fun c86 => ?_)
          · exact ct1  _ _ ls (by omega) hJ (lv_sub hl [1, 2] rfl)
          · refine lv_goto (tgt := 62) hx hb dX7_tell_50 (by decide) ?_
            refine hq_iconst hx hb dX7_tell_62 (by decide) (by decide) (fun z87 ez87 => ?_)
            exact he_iret hx hb hK hN hW hlocks hJ hr hg_Q.rf dX7_tell_63
    · exfalso; omega
  · refine lv_iload_n hx hb dX7_tell_5 rfl (lv_at hl 1 rfl) ?_
    refine hq_iconst hx hb dX7_tell_6 (by decide) (by decide) (fun z88 ez88 => ?_)
    refine hq_icmp_ne (tgt := 14) hx hb dX7_tell_7 (by decide) (fun c89 => ?_) (fun c89 => ?_)
    · refine hq_iconst hx hb dX7_tell_14 (by decide) (by decide) (fun z90 ez90 => ?_)
      refine lv_istore_n (lv' := [(2, .int z90), (0, .ref h0), (1, .int what)]) hx hb dX7_tell_15 rfl hl (by decide) rfl (fun ls hl => ?_)
      refine lv_iload_n hx hb dX7_tell_16 rfl (lv_at hl 0 rfl) ?_
      refine hq_if_ne (tgt := 29) hx hb dX7_tell_17 (by decide) (fun c91 => ?_) (fun c91 => ?_)
      · exfalso; omega
      · refine lv_iload_n hx hb dX7_tell_20 rfl (lv_at hl 2 rfl) ?_
        refine he_calli (va_runS (As := [.int what]) (rest := []) ⟨hx, hb, hml, hown, hts⟩ (e_X7_isMore l dC dI dA κ B g what) (va_cwS 1 hts gX7_tell_X7_isMore rfl rfl rfl (by decide +kernel) ⟨Nat.le_of_ble_eq_true rfl, Nat.le_of_ble_eq_true rfl⟩) (he_preS [.int what] hK hN hW hJ) rfl rfl hl.1 rfl (lv_room (Nat.le_of_ble_eq_true rfl)) dX7_tell_21 ⟨Nat.zero_le _, Nat.zero_le _⟩) hJ (fun x93 g92 H locs hp hJ => ?_)
        obtain ⟨rfl, f94⟩ := hp
        refine hq_if_ne (tgt := 29) hx hb dX7_tell_24 (by decide) (fun c95 => ?_) (fun c95 => ?_)
        · refine lv_iload_n hx hb dX7_tell_29 rfl (lv_at hl 0 rfl) ?_
          refine hq_if_eq (tgt := 53) hx hb dX7_tell_30 (by decide) (fun c96 => ?_) (fun c96 => ?_)
          · refine lv_aload_n hx hb dX7_tell_53 rfl (lv_at hl 1 rfl) ?_
            refine he_geti (C := RX7) (T := TX7) (N := 24) (ci := 7) (kd := 11) hx hb hts iX7_tell_X7 hown hK hJ k0 rfl rfl 1 (by decide) (hts (.fieldLink RX7 70 "NeighborBookModel" "typedSize" "I") (List.mem_of_getElem? (i := 1) rfl)) (fun _ h9 => h9) rfl rfl dX7_tell_54 (fun x97 ex97 => ?_)
            have ex97 : x97.toInt = g 11 1 ∧ 0 ≤ x97.toInt ∧ x97.toInt ≤ 700 := ex97
            refine hq_bipush hx hb dX7_tell_57 (by decide) (fun z98 ez98 => ?_)
            refine hq_icmp_le (tgt := 64) hx hb dX7_tell_59 (by decide) (fun c99 => ?_) (fun c99 => ?_)
            · exact ct1  _ _ ls (by omega) hJ (lv_sub hl [1, 2] rfl)
            · refine hq_iconst hx hb dX7_tell_62 (by decide) (by decide) (fun z100 ez100 => ?_)
              exact he_iret hx hb hK hN hW hlocks hJ hr hg_Q.rf dX7_tell_63
          · exfalso; omega
        · refine hq_iconst hx hb dX7_tell_27 (by decide) (by decide) (fun z101 ez101 => ?_)
          exact he_iret hx hb hK hN hW hlocks hJ hr hg_Q.rf dX7_tell_28
    · refine hq_iconst hx hb dX7_tell_10 (by decide) (by decide) (fun z102 ez102 => ?_)
      refine lv_goto (tgt := 15) hx hb dX7_tell_11 (by decide) ?_
      refine lv_istore_n (lv' := [(2, .int z102), (0, .ref h0), (1, .int what)]) hx hb dX7_tell_15 rfl hl (by decide) rfl (fun ls hl => ?_)
      refine lv_iload_n hx hb dX7_tell_16 rfl (lv_at hl 0 rfl) ?_
      refine hq_if_ne (tgt := 29) hx hb dX7_tell_17 (by decide) (fun c103 => ?_) (fun c103 => ?_)
      · refine lv_iload_n hx hb dX7_tell_29 rfl (lv_at hl 0 rfl) ?_
        refine hq_if_eq (tgt := 53) hx hb dX7_tell_30 (by decide) (fun c104 => ?_) (fun c104 => ?_)
        · exfalso; omega
        · refine lv_aload_n hx hb dX7_tell_33 rfl (lv_at hl 1 rfl) ?_
          refine he_geti (C := RX7) (T := TX7) (N := 24) (ci := 7) (kd := 11) hx hb hts iX7_tell_X7 hown hK hJ k0 rfl rfl 1 (by decide) (hts (.fieldLink RX7 70 "NeighborBookModel" "typedSize" "I") (List.mem_of_getElem? (i := 1) rfl)) (fun _ h9 => h9) rfl rfl dX7_tell_34 (fun x105 ex105 => ?_)
          have ex105 : x105.toInt = g 11 1 ∧ 0 ≤ x105.toInt ∧ x105.toInt ≤ 700 := ex105
          refine hq_iconst hx hb dX7_tell_37 (by decide) (by decide) (fun z106 ez106 => ?_)
          refine hq_icmp_lt (tgt := 62) hx hb dX7_tell_38 (by decide) (fun c107 => ?_) (fun c107 => ?_)
          · refine hq_iconst hx hb dX7_tell_62 (by decide) (by decide) (fun z108 ez108 => ?_)
            exact he_iret hx hb hK hN hW hlocks hJ hr hg_Q.rf dX7_tell_63
          · refine lv_aload_n hx hb dX7_tell_41 rfl (lv_at hl 1 rfl) ?_
            refine he_geti (C := RX7) (T := TX7) (N := 24) (ci := 7) (kd := 11) hx hb hts iX7_tell_X7 hown hK hJ k0 rfl rfl 1 (by decide) (hts (.fieldLink RX7 70 "NeighborBookModel" "typedSize" "I") (List.mem_of_getElem? (i := 1) rfl)) (fun _ h9 => h9) rfl rfl dX7_tell_42 (fun x109 ex109 => ?_)
            have ex109 : x109.toInt = g 11 1 ∧ 0 ≤ x109.toInt ∧ x109.toInt ≤ 700 := ex109
            refine hq_bipush hx hb dX7_tell_45 (by decide) (fun z110 ez110 => ?_)
            refine hq_icmp_le (tgt := 64) hx hb dX7_tell_47 (by decide) (fun c111 => ?_) (fun c111 => ?_)
            · exact ct1  _ _ ls (by omega) hJ (lv_sub hl [1, 2] rfl)
            · refine lv_goto (tgt := 62) hx hb dX7_tell_50 (by decide) ?_
              refine hq_iconst hx hb dX7_tell_62 (by decide) (by decide) (fun z112 ez112 => ?_)
              exact he_iret hx hb hK hN hW hlocks hJ hr hg_Q.rf dX7_tell_63
      · exfalso; omega
theorem iX7_set_X7 : ∀ w ∈ wsX70, w ∈ wsX7_set := fun _ h => List.mem_cons_of_mem _ (List.mem_append_right _ h)
set_option maxRecDepth 100000 in
set_option maxHeartbeats 4000000 in
theorem e_X7_set (l : Launch) (dC : Nat → ClassId) (dI : Nat → Nat → Nat) (dA : Nat → ClassId) (κ : Nat → Nat) (B : Nat) (g : Nat → Nat → Int) (h0 : Nat) (k0 : κ h0 = 11) (what : Int32) (v : Int32) : Met l yX7_set wsX7_set ({ frames := 0, cells := 0, slots := 0, locals := 0 } : Room) (he_Pre dC dI dA κ B g [Value.ref h0, Value.int what, Value.int v]) (he_Qi dC dI dA κ B (fun r u => g = u)) 0 0 (hp_A B) := by
  refine Met.ofW (cc := cX7_set) (maxL := 5) (ret := (some .int)) (by decide) rfl ?_
  intro p e s m args below meth c s₁ Bd hml hv
  obtain ⟨rfl, hK, hN, hW, hF⟩ := hv
  have hx := Bd.exec
  have hb := Bd.bytes
  have hr := Bd.returns
  have hts := atoms_spec (ws := wsX7_set) Bd.pre
  have hown : s.vm.findClass RX7 = some m.cls := findClass_of_methodNamed Bd.named
  have hlocks := Bd.notSynchronized
  have hJ : he_J dC dI dA κ B g s.heap s.heap [] := ⟨hF, va_S.rf⟩
  have hl := lv_entry ([Value.ref h0, Value.int what, Value.int v]) (n := 5) (Nat.le_of_ble_eq_true rfl)
  rw [lg_entry_eq]
  generalize (lg_sl ([Value.ref h0, Value.int what, Value.int v]) ++ List.replicate (5 - (lg_sl ([Value.ref h0, Value.int what, Value.int v])).length) Slot.unset).toArray = ls at hl ⊢
  have hl : lv_has ls 5 [(0, .ref h0), (1, .int what), (2, .int v)] := hl
  refine lv_iload_n hx hb dX7_set_0 rfl (lv_at hl 1 rfl) ?_
  refine hq_iconst hx hb dX7_set_1 (by decide) (by decide) (fun z1 ez1 => ?_)
  refine hq_icmp_ne (tgt := 9) hx hb dX7_set_2 (by decide) (fun c2 => ?_) (fun c2 => ?_)
  · refine hq_iconst hx hb dX7_set_9 (by decide) (by decide) (fun z3 ez3 => ?_)
    refine lv_istore_n (lv' := [(3, .int z3), (0, .ref h0), (1, .int what), (2, .int v)]) hx hb dX7_set_10 rfl hl (by decide) rfl (fun ls hl => ?_)
    refine lv_iload_n hx hb dX7_set_11 rfl (lv_at hl 2 rfl) ?_
    refine hq_if_ne (tgt := 21) hx hb dX7_set_12 (by decide) (fun c4 => ?_) (fun c4 => ?_)
    · refine lv_iload_n hx hb dX7_set_21 rfl (lv_at hl 2 rfl) ?_
      refine hq_iconst hx hb dX7_set_22 (by decide) (by decide) (fun z5 ez5 => ?_)
      refine hq_icmp_ne (tgt := 31) hx hb dX7_set_23 (by decide) (fun c6 => ?_) (fun c6 => ?_)
      · refine hq_bipush hx hb dX7_set_31 (by decide) (fun z7 ez7 => ?_)
        refine lv_istore (lv' := [(4, .int z7), (3, .int z3), (0, .ref h0), (1, .int what), (2, .int v)]) hx hb dX7_set_33 hl (by decide) rfl (fun ls hl => ?_)
        refine lv_iload_n hx hb dX7_set_35 rfl (lv_at hl 3 rfl) ?_
        refine hq_if_lt (tgt := 55) hx hb dX7_set_36 (by decide) (fun c8 => ?_) (fun c8 => ?_)
        · refine hq_iconst hx hb dX7_set_55 (by decide) (by decide) (fun z9 ez9 => ?_)
          exact he_iret hx hb hK hN hW hlocks hJ hr rfl dX7_set_56
        · refine lv_iload_n hx hb dX7_set_39 rfl (lv_at hl 3 rfl) ?_
          refine hq_iconst hx hb dX7_set_40 (by decide) (by decide) (fun z10 ez10 => ?_)
          refine hq_icmp_gt (tgt := 55) hx hb dX7_set_41 (by decide) (fun c11 => ?_) (fun c11 => ?_)
          · refine hq_iconst hx hb dX7_set_55 (by decide) (by decide) (fun z12 ez12 => ?_)
            exact he_iret hx hb hK hN hW hlocks hJ hr rfl dX7_set_56
          · refine lv_iload_n hx hb dX7_set_44 rfl (lv_at hl 4 rfl) ?_
            refine lv_iload_n hx hb dX7_set_45 rfl (lv_at hl 1 rfl) ?_
            refine hq_icmp_lt (tgt := 55) hx hb dX7_set_46 (by decide) (fun c13 => ?_) (fun c13 => ?_)
            · refine hq_iconst hx hb dX7_set_55 (by decide) (by decide) (fun z14 ez14 => ?_)
              exact he_iret hx hb hK hN hW hlocks hJ hr rfl dX7_set_56
            · refine lv_iload_n hx hb dX7_set_49 rfl (lv_at hl 4 rfl) ?_
              refine lv_iload hx hb dX7_set_50 (lv_at hl 0 rfl) ?_
              refine hq_icmp_le (tgt := 57) hx hb dX7_set_52 (by decide) (fun c15 => ?_) (fun c15 => ?_)
              · refine lv_iload_n hx hb dX7_set_57 rfl (lv_at hl 3 rfl) ?_
                refine hq_if_ne (tgt := 69) hx hb dX7_set_58 (by decide) (fun c16 => ?_) (fun c16 => ?_)
                · refine lv_iload_n hx hb dX7_set_69 rfl (lv_at hl 3 rfl) ?_
                  refine hq_iconst hx hb dX7_set_70 (by decide) (by decide) (fun z17 ez17 => ?_)
                  refine hq_icmp_ne (tgt := 82) hx hb dX7_set_71 (by decide) (fun c18 => ?_) (fun c18 => ?_)
                  · refine lv_aload_n hx hb dX7_set_82 rfl (lv_at hl 2 rfl) ?_
                    refine lv_iload_n hx hb dX7_set_83 rfl (lv_at hl 4 rfl) ?_
                    refine he_put (C := RX7) (T := TX7) (N := 24) (ci := 7) (kd := 11) hx hb hts iX7_set_X7 hown hK hJ k0 rfl rfl 6 (by decide) (hts (.fieldLink RX7 27 "NeighborBookModel" "quick" "I") (List.mem_of_getElem? (i := 3) rfl)) (fun _ h9 => h9) tyX7 tyX7_ok nmX7 (v := .int v) rfl rfl (by decide) hW rfl (he_i_ok rfl trivial) dX7_set_84 (fun H locs hJ => ?_)
                    refine hq_iconst hx hb dX7_set_87 (by decide) (by decide) (fun z19 ez19 => ?_)
                    exact he_iret hx hb hK hN hW hlocks hJ hr rfl dX7_set_88
                  · exfalso; omega
                · exfalso; omega
              · refine hq_iconst hx hb dX7_set_55 (by decide) (by decide) (fun z20 ez20 => ?_)
                exact he_iret hx hb hK hN hW hlocks hJ hr rfl dX7_set_56
      · exfalso; omega
    · refine hq_sipush hx hb dX7_set_15 (by decide) (fun z21 ez21 => ?_)
      refine lv_goto (tgt := 33) hx hb dX7_set_18 (by decide) ?_
      refine lv_istore (lv' := [(4, .int z21), (3, .int z3), (0, .ref h0), (1, .int what), (2, .int v)]) hx hb dX7_set_33 hl (by decide) rfl (fun ls hl => ?_)
      refine lv_iload_n hx hb dX7_set_35 rfl (lv_at hl 3 rfl) ?_
      refine hq_if_lt (tgt := 55) hx hb dX7_set_36 (by decide) (fun c22 => ?_) (fun c22 => ?_)
      · exfalso; omega
      · refine lv_iload_n hx hb dX7_set_39 rfl (lv_at hl 3 rfl) ?_
        refine hq_iconst hx hb dX7_set_40 (by decide) (by decide) (fun z23 ez23 => ?_)
        refine hq_icmp_gt (tgt := 55) hx hb dX7_set_41 (by decide) (fun c24 => ?_) (fun c24 => ?_)
        · exfalso; omega
        · refine lv_iload_n hx hb dX7_set_44 rfl (lv_at hl 4 rfl) ?_
          refine lv_iload_n hx hb dX7_set_45 rfl (lv_at hl 1 rfl) ?_
          refine hq_icmp_lt (tgt := 55) hx hb dX7_set_46 (by decide) (fun c25 => ?_) (fun c25 => ?_)
          · refine hq_iconst hx hb dX7_set_55 (by decide) (by decide) (fun z26 ez26 => ?_)
            exact he_iret hx hb hK hN hW hlocks hJ hr rfl dX7_set_56
          · refine lv_iload_n hx hb dX7_set_49 rfl (lv_at hl 4 rfl) ?_
            refine lv_iload hx hb dX7_set_50 (lv_at hl 0 rfl) ?_
            refine hq_icmp_le (tgt := 57) hx hb dX7_set_52 (by decide) (fun c27 => ?_) (fun c27 => ?_)
            · refine lv_iload_n hx hb dX7_set_57 rfl (lv_at hl 3 rfl) ?_
              refine hq_if_ne (tgt := 69) hx hb dX7_set_58 (by decide) (fun c28 => ?_) (fun c28 => ?_)
              · exfalso; omega
              · refine lv_aload_n hx hb dX7_set_61 rfl (lv_at hl 2 rfl) ?_
                refine lv_iload_n hx hb dX7_set_62 rfl (lv_at hl 4 rfl) ?_
                refine he_put (C := RX7) (T := TX7) (N := 24) (ci := 7) (kd := 11) hx hb hts iX7_set_X7 hown hK hJ k0 rfl rfl 4 (by decide) (hts (.fieldLink RX7 20 "NeighborBookModel" "interval" "I") (List.mem_of_getElem? (i := 1) rfl)) (fun _ h9 => h9) tyX7 tyX7_ok nmX7 (v := .int v) rfl rfl (by decide) hW rfl (he_i_ok rfl trivial) dX7_set_63 (fun H locs hJ => ?_)
                refine lv_goto (tgt := 87) hx hb dX7_set_66 (by decide) ?_
                refine hq_iconst hx hb dX7_set_87 (by decide) (by decide) (fun z29 ez29 => ?_)
                exact he_iret hx hb hK hN hW hlocks hJ hr rfl dX7_set_88
            · refine hq_iconst hx hb dX7_set_55 (by decide) (by decide) (fun z30 ez30 => ?_)
              exact he_iret hx hb hK hN hW hlocks hJ hr rfl dX7_set_56
  · refine hq_iconst hx hb dX7_set_5 (by decide) (by decide) (fun z31 ez31 => ?_)
    refine lv_goto (tgt := 10) hx hb dX7_set_6 (by decide) ?_
    refine lv_istore_n (lv' := [(3, .int z31), (0, .ref h0), (1, .int what), (2, .int v)]) hx hb dX7_set_10 rfl hl (by decide) rfl (fun ls hl => ?_)
    refine lv_iload_n hx hb dX7_set_11 rfl (lv_at hl 2 rfl) ?_
    refine hq_if_ne (tgt := 21) hx hb dX7_set_12 (by decide) (fun c32 => ?_) (fun c32 => ?_)
    · refine lv_iload_n hx hb dX7_set_21 rfl (lv_at hl 2 rfl) ?_
      refine hq_iconst hx hb dX7_set_22 (by decide) (by decide) (fun z33 ez33 => ?_)
      refine hq_icmp_ne (tgt := 31) hx hb dX7_set_23 (by decide) (fun c34 => ?_) (fun c34 => ?_)
      · exfalso; omega
      · refine hq_bipush hx hb dX7_set_26 (by decide) (fun z35 ez35 => ?_)
        refine lv_goto (tgt := 33) hx hb dX7_set_28 (by decide) ?_
        refine lv_istore (lv' := [(4, .int z35), (3, .int z31), (0, .ref h0), (1, .int what), (2, .int v)]) hx hb dX7_set_33 hl (by decide) rfl (fun ls hl => ?_)
        refine lv_iload_n hx hb dX7_set_35 rfl (lv_at hl 3 rfl) ?_
        refine hq_if_lt (tgt := 55) hx hb dX7_set_36 (by decide) (fun c36 => ?_) (fun c36 => ?_)
        · exfalso; omega
        · refine lv_iload_n hx hb dX7_set_39 rfl (lv_at hl 3 rfl) ?_
          refine hq_iconst hx hb dX7_set_40 (by decide) (by decide) (fun z37 ez37 => ?_)
          refine hq_icmp_gt (tgt := 55) hx hb dX7_set_41 (by decide) (fun c38 => ?_) (fun c38 => ?_)
          · exfalso; omega
          · refine lv_iload_n hx hb dX7_set_44 rfl (lv_at hl 4 rfl) ?_
            refine lv_iload_n hx hb dX7_set_45 rfl (lv_at hl 1 rfl) ?_
            refine hq_icmp_lt (tgt := 55) hx hb dX7_set_46 (by decide) (fun c39 => ?_) (fun c39 => ?_)
            · refine hq_iconst hx hb dX7_set_55 (by decide) (by decide) (fun z40 ez40 => ?_)
              exact he_iret hx hb hK hN hW hlocks hJ hr rfl dX7_set_56
            · refine lv_iload_n hx hb dX7_set_49 rfl (lv_at hl 4 rfl) ?_
              refine lv_iload hx hb dX7_set_50 (lv_at hl 0 rfl) ?_
              refine hq_icmp_le (tgt := 57) hx hb dX7_set_52 (by decide) (fun c41 => ?_) (fun c41 => ?_)
              · refine lv_iload_n hx hb dX7_set_57 rfl (lv_at hl 3 rfl) ?_
                refine hq_if_ne (tgt := 69) hx hb dX7_set_58 (by decide) (fun c42 => ?_) (fun c42 => ?_)
                · refine lv_iload_n hx hb dX7_set_69 rfl (lv_at hl 3 rfl) ?_
                  refine hq_iconst hx hb dX7_set_70 (by decide) (by decide) (fun z43 ez43 => ?_)
                  refine hq_icmp_ne (tgt := 82) hx hb dX7_set_71 (by decide) (fun c44 => ?_) (fun c44 => ?_)
                  · exfalso; omega
                  · refine lv_aload_n hx hb dX7_set_74 rfl (lv_at hl 2 rfl) ?_
                    refine lv_iload_n hx hb dX7_set_75 rfl (lv_at hl 4 rfl) ?_
                    refine he_put (C := RX7) (T := TX7) (N := 24) (ci := 7) (kd := 11) hx hb hts iX7_set_X7 hown hK hJ k0 rfl rfl 5 (by decide) (hts (.fieldLink RX7 24 "NeighborBookModel" "hold" "I") (List.mem_of_getElem? (i := 2) rfl)) (fun _ h9 => h9) tyX7 tyX7_ok nmX7 (v := .int v) rfl rfl (by decide) hW rfl (he_i_ok rfl trivial) dX7_set_76 (fun H locs hJ => ?_)
                    refine lv_goto (tgt := 87) hx hb dX7_set_79 (by decide) ?_
                    refine hq_iconst hx hb dX7_set_87 (by decide) (by decide) (fun z45 ez45 => ?_)
                    exact he_iret hx hb hK hN hW hlocks hJ hr rfl dX7_set_88
                · exfalso; omega
              · refine hq_iconst hx hb dX7_set_55 (by decide) (by decide) (fun z46 ez46 => ?_)
                exact he_iret hx hb hK hN hW hlocks hJ hr rfl dX7_set_56
    · exfalso; omega
