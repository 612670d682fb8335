set_option maxRecDepth 100000 in
set_option maxHeartbeats 4000000 in
theorem e_X6_typeX (l : Launch) (dC : Nat → ClassId) (dI : Nat → Nat → Nat) (dA : Nat → ClassId) (κ : Nat → Nat) (B : Nat) (g : Nat → Nat → Int) (h0 : Nat) (k0 : κ h0 = 1) (w : Int64) (n : Int32) : Met l yX6_type wsX6_type ({ frames := 0, cells := 0, slots := 0, locals := 0 } : Room) (he_Pre dC dI dA κ B g [Value.ref h0, Value.long w, Value.int n]) (he_Qi dC dI dA κ B (fun r u => hg_Q (fun a b => (a = 1 ∧ b = 1) ∨ a = 12) g u ∧ (((1 ≤ n.toInt ∧ n.toInt ≤ 8 ∧ g 1 1 + n.toInt ≤ 700) ∧ u 1 1 = g 1 1 + n.toInt ∧ (∀ k : Nat, (k : Int) < n.toInt → u 12 ((g 1 1).toNat + k) = hb_c w (n.toInt - 1 - k)) ∧ ∀ b : Nat, (b : Int) < g 1 1 → u 12 b = g 12 b) ∨ (¬ (1 ≤ n.toInt ∧ n.toInt ≤ 8 ∧ g 1 1 + n.toInt ≤ 700) ∧ g = u)))) 0 0 (hp_A B) := by
  refine Met.ofW (cc := cX6_type) (maxL := 5) (ret := (some .int)) (by decide) rfl ?_
  intro p e s m args below meth c s₁ Bd hml hv
  obtain ⟨rfl, hK, hN, hW, hF⟩ := hv
  have hx := Bd.exec
  have hb := Bd.bytes
  have hr := Bd.returns
  have hts := atoms_spec (ws := wsX6_type) Bd.pre
  have hown : s.vm.findClass RX6 = some m.cls := findClass_of_methodNamed Bd.named
  have hlocks := Bd.notSynchronized
  have hJ : he_J dC dI dA κ B g s.heap s.heap [] := ⟨hF, va_S.rf⟩
  have hl := lv_entry ([Value.ref h0, Value.long w, Value.int n]) (n := 5) (Nat.le_of_ble_eq_true rfl)
  rw [lg_entry_eq]
  generalize (lg_sl ([Value.ref h0, Value.long w, Value.int n]) ++ List.replicate (5 - (lg_sl ([Value.ref h0, Value.long w, Value.int n])).length) Slot.unset).toArray = ls at hl ⊢
  have hl : lv_has ls 5 [(0, .ref h0), (1, .long w), (3, .int n)] := hl
  refine lv_iload_n hx hb dX6_type_0 rfl (lv_at hl 2 rfl) ?_
  refine hq_iconst hx hb dX6_type_1 (by decide) (by decide) (fun z1 ez1 => ?_)
  refine hq_icmp_lt (tgt := 23) hx hb dX6_type_2 (by decide) (fun c2 => ?_) (fun c2 => ?_)
  · refine hq_iconst hx hb dX6_type_23 (by decide) (by decide) (fun z3 ez3 => ?_)
    exact he_iret hx hb hK hN hW hlocks hJ hr ⟨hg_Q.rf, Or.inr ⟨by omega, rfl⟩⟩ dX6_type_24
  · refine lv_iload_n hx hb dX6_type_5 rfl (lv_at hl 2 rfl) ?_
    refine hq_bipush hx hb dX6_type_6 (by decide) (fun z4 ez4 => ?_)
    refine hq_icmp_gt (tgt := 23) hx hb dX6_type_8 (by decide) (fun c5 => ?_) (fun c5 => ?_)
    · refine hq_iconst hx hb dX6_type_23 (by decide) (by decide) (fun z6 ez6 => ?_)
      exact he_iret hx hb hK hN hW hlocks hJ hr ⟨hg_Q.rf, Or.inr ⟨by omega, rfl⟩⟩ dX6_type_24
    · refine lv_aload_n hx hb dX6_type_11 rfl (lv_at hl 0 rfl) ?_
      refine he_geti (C := RX6) (T := TX6) (N := 12) (ci := 6) (kd := 1) hx hb hts iX6_type_X6 hown hK hJ k0 rfl rfl 1 (by decide) (hts (.fieldLink RX6 65 "NeighborBook" "typedCount" "I") (List.mem_of_getElem? (i := 1) rfl)) (fun _ h9 => h9) rfl rfl dX6_type_12 (fun x7 ex7 => ?_)
      have ex7 : x7.toInt = g 1 1 ∧ 0 ≤ x7.toInt ∧ x7.toInt ≤ 700 := ex7
      refine lv_iload_n hx hb dX6_type_15 rfl (lv_at hl 2 rfl) ?_
      refine hq_iadd hx hb dX6_type_16 (by omega) (by omega) (fun x8 ex8 => ?_)
      refine hq_sipush hx hb dX6_type_17 (by decide) (fun z9 ez9 => ?_)
      refine hq_icmp_le (tgt := 25) hx hb dX6_type_20 (by decide) (fun c10 => ?_) (fun c10 => ?_)
      · refine lv_iload_n hx hb dX6_type_25 rfl (lv_at hl 2 rfl) ?_
        refine hq_iconst hx hb dX6_type_26 (by decide) (by decide) (fun z11 ez11 => ?_)
        refine hq_isub hx hb dX6_type_27 (by omega) (by omega) (fun x12 ex12 => ?_)
        refine lv_istore (lv' := [(4, .int x12), (0, .ref h0), (1, .long w), (3, .int n)]) hx hb dX6_type_28 hl (by decide) rfl (fun ls hl => ?_)
        have lp15 : ∀ (nlp15 : Nat) (v13 : Int32) (g14 : Nat → Nat → Int) (H : Heap) (locs : List Loc) (ls : Array Slot), (hg_Q (fun a b => (a = 1 ∧ b = 1) ∨ a = 12) g g14) → (-1 ≤ v13.toInt) → (v13.toInt ≤ 7) → (0 ≤ g14 1 1) → (g14 1 1 + v13.toInt = g 1 1 + n.toInt - 1) → (g 1 1 + n.toInt ≤ 700 ∧ 0 ≤ g 1 1 ∧ v13.toInt ≤ n.toInt - 1) → (∀ k : Nat, (k : Int) < n.toInt - 1 - v13.toInt → g14 12 ((g 1 1).toNat + k) = hb_c w (n.toInt - 1 - k)) → (∀ b : Nat, (b : Int) < g 1 1 → g14 12 b = g 12 b) → (v13.toInt + 2 < (nlp15 : Int)) → he_J dC dI dA κ B g14 s.heap H locs → lv_has ls 5 [(0, .ref h0), (1, .long w), (3, .int n), (4, .int v13)] → W p l e (headSpec wsX6_type ({ frames := 0, cells := 0, slots := 0, locals := 0 } : Room)).room s m ([Value.ref h0, Value.long w, Value.int n] : List Value).toArray below meth c H locs 0 0 (MQ below (he_Qi dC dI dA κ B (fun r u => hg_Q (fun a b => (a = 1 ∧ b = 1) ∨ a = 12) g u ∧ (((1 ≤ n.toInt ∧ n.toInt ≤ 8 ∧ g 1 1 + n.toInt ≤ 700) ∧ u 1 1 = g 1 1 + n.toInt ∧ (∀ k : Nat, (k : Int) < n.toInt → u 12 ((g 1 1).toNat + k) = hb_c w (n.toInt - 1 - k)) ∧ ∀ b : Nat, (b : Int) < g 1 1 → u 12 b = g 12 b) ∨ (¬ (1 ≤ n.toInt ∧ n.toInt ≤ 8 ∧ g 1 1 + n.toInt ≤ 700) ∧ g = u)))) ([Value.ref h0, Value.long w, Value.int n] : List Value).toArray s 0 0 (hp_A B)) (F0 m 30 ls []) := by
          intro nlp15
          induction nlp15 with
          | zero => intro v13 g14 H locs ls iv17 iv18 iv19 iv20 iv21 iv22 iv23 iv24 hm16 hJ hl; exact absurd hm16 (by omega)
          | succ nlp15 ihlp15 =>
            intro v13 g14 H locs ls iv17 iv18 iv19 iv20 iv21 iv22 iv23 iv24 hm16 hJ hl
            refine lv_iload hx hb dX6_type_30 (lv_at hl 3 rfl) ?_
            refine hq_if_lt (tgt := 69) hx hb dX6_type_32 (by decide) (fun c25 => ?_) (fun c25 => ?_)
            · refine lv_aload_n hx hb dX6_type_69 rfl (lv_at hl 0 rfl) ?_
              refine he_geti (C := RX6) (T := TX6) (N := 12) (ci := 6) (kd := 1) hx hb hts iX6_type_X6 hown hK hJ k0 rfl rfl 1 (by decide) (hts (.fieldLink RX6 65 "NeighborBook" "typedCount" "I") (List.mem_of_getElem? (i := 1) rfl)) (fun _ h9 => h9) rfl rfl dX6_type_70 (fun x26 ex26 => ?_)
              have ex26 : x26.toInt = g14 1 1 ∧ 0 ≤ x26.toInt ∧ x26.toInt ≤ 700 := ex26
              exact he_iret hx hb hK hN hW hlocks hJ hr ⟨iv17, Or.inl ⟨by omega, by omega, fun k hk => iv23 k (by omega), iv24⟩⟩ dX6_type_73
            · refine lv_aload_n hx hb dX6_type_35 rfl (lv_at hl 0 rfl) ?_
              refine he_getr (C := RX6) (T := TX6) (N := 12) (ci := 6) (kd := 1) hx hb hts iX6_type_X6 hown hK hJ k0 rfl rfl 0 (by decide) (hts (.fieldLink RX6 9 "NeighborBook" "typed" "[B") (List.mem_of_getElem? (i := 2) rfl)) (fun _ h9 => h9) rfl dX6_type_36 (fun b27 kb27 => ?_)
              refine lv_aload_n hx hb dX6_type_39 rfl (lv_at hl 0 rfl) ?_
              refine he_geti (C := RX6) (T := TX6) (N := 12) (ci := 6) (kd := 1) hx hb hts iX6_type_X6 hown hK hJ k0 rfl rfl 1 (by decide) (hts (.fieldLink RX6 65 "NeighborBook" "typedCount" "I") (List.mem_of_getElem? (i := 1) rfl)) (fun _ h9 => h9) rfl rfl dX6_type_40 (fun x28 ex28 => ?_)
              have ex28 : x28.toInt = g14 1 1 ∧ 0 ≤ x28.toInt ∧ x28.toInt ≤ 700 := ex28
              refine lv_lload_n hx hb dX6_type_43 rfl (lv_at hl 1 rfl) ?_
              refine hq_bipush hx hb dX6_type_44 (by decide) (fun z29 ez29 => ?_)
              refine lv_iload hx hb dX6_type_46 (lv_at hl 3 rfl) ?_
              refine hq_imul (w := 8 * v13.toInt) hx hb dX6_type_48 (by rw [ez29]) (by omega) (by omega) (fun x30 ex30 => ?_)
              refine lv_lushr hx hb dX6_type_49 rfl ?_
              refine lv_topl (fun w31 fw31 => ?_)
              refine lv_l2i hx hb dX6_type_50 rfl ?_
              refine lv_topi (fun x32 fx32 => ?_)
              refine hq_i2be hx hb dX6_type_51 (fun x33 ex33 rx33 => ?_)
              have hbv : x33.toInt = hb_c w v13.toInt := by
                have hy : x30 = Int32.ofInt (8 * v13.toInt) := hi_eq.mpr (by rw [hi_ofInt (by omega) (by omega)]; omega)
                unfold hb_c
                rw [ex33, fx32, fw31, hy]
              refine he_bastx (kd := 12) (n := 700) hx hb hK hJ kb27 rfl (by omega) (by omega) (by decide) hW rfl rfl (by omega) (by omega) dX6_type_52 (fun g34 H locs eg34 ng34 hJ => ?_)
              have eg34 : g34 12 x28.toInt.toNat = x33.toInt := eg34
              have P35 : hg_Q (fun a b => (a = 1 ∧ b = 1) ∨ a = 12) g g34 := hg_Q.put iv17 ng34 (show (12 = 1 ∧ x28.toInt.toNat = 1) ∨ 12 = 12 from by omega)
              have qt36 : g34 1 1 = g14 1 1 := ng34 1 1 (by omega)
              refine lv_aload_n hx hb dX6_type_53 rfl (lv_at hl 0 rfl) ?_
              refine lv_dup hx hb dX6_type_54 rfl ?_
              refine he_geti (C := RX6) (T := TX6) (N := 12) (ci := 6) (kd := 1) hx hb hts iX6_type_X6 hown hK hJ k0 rfl rfl 1 (by decide) (hts (.fieldLink RX6 65 "NeighborBook" "typedCount" "I") (List.mem_of_getElem? (i := 1) rfl)) (fun _ h9 => h9) rfl rfl dX6_type_55 (fun x37 ex37 => ?_)
              have ex37 : x37.toInt = g34 1 1 ∧ 0 ≤ x37.toInt ∧ x37.toInt ≤ 700 := ex37
              refine hq_iconst hx hb dX6_type_58 (by decide) (by decide) (fun z38 ez38 => ?_)
              refine hq_iadd hx hb dX6_type_59 (by omega) (by omega) (fun x39 ex39 => ?_)
              refine he_putx (C := RX6) (T := TX6) (N := 12) (ci := 6) (kd := 1) hx hb hts iX6_type_X6 hown hK hJ k0 rfl rfl 1 (by decide) (hts (.fieldLink RX6 65 "NeighborBook" "typedCount" "I") (List.mem_of_getElem? (i := 1) rfl)) (fun _ h9 => h9) tyX6 tyX6_ok nmX6 (x := x39) rfl rfl (by decide) hW rfl rfl rfl rfl (show x39.toInt = x39.toInt ∧ 0 ≤ x39.toInt ∧ x39.toInt ≤ 700 from ⟨rfl, by omega, by omega⟩) dX6_type_60 (fun g40 H locs eg40 ng40 hJ => ?_)
              have eg40 : g40 1 1 = x39.toInt := eg40
              have P41 : hg_Q (fun a b => (a = 1 ∧ b = 1) ∨ a = 12) g g40 := hg_Q.put P35 ng40 (show (1 = 1 ∧ 1 = 1) ∨ 1 = 12 from by omega)
              refine hq_iinc (k := 3) (lv' := fun (z9 : Int32) => [(4, .int z9), (0, .ref h0), (1, .long w), (3, .int n)]) hx hb dX6_type_63 hl rfl (by decide) (by decide) (by omega) (by omega) (by decide) (fun _ => rfl) (fun x42 ls ex42 hl => ?_)
              have hl : lv_has ls 5 [(4, .int x42), (0, .ref h0), (1, .long w), (3, .int n)] := hl
              refine lv_goto (tgt := 30) hx hb dX6_type_66 (by decide) ?_
              exact ihlp15 x42 g40 _ _ ls P41 (by omega) (by omega) (by omega) (by omega) (by omega) (fun k hk => by
                rw [ng40 12 ((g 1 1).toNat + k) (by omega)]
                by_cases h9 : k = (n.toInt - 1 - v13.toInt).toNat
                · rw [show (g 1 1).toNat + k = x28.toInt.toNat by omega, eg34, hbv, show n.toInt - 1 - (k : Int) = v13.toInt by omega]
                · rw [ng34 12 ((g 1 1).toNat + k) (by omega)]
                  exact iv23 k (by omega)) (fun b hb => by
                rw [ng40 12 b (by omega), ng34 12 b (by omega)]
                exact iv24 b hb) (by omega) hJ (lv_sub hl [1, 2, 3, 0] rfl)
        exact lp15 ((x12.toInt + 2).toNat + 1) x12 g _ _ ls hg_Q.rf (by omega) (by omega) (by omega) (by omega) (by omega) (fun k hk => absurd hk (by omega)) (fun b hb => rfl) (by omega) hJ (lv_sub hl [1, 2, 3, 0] rfl)
      · refine hq_iconst hx hb dX6_type_23 (by decide) (by decide) (fun z43 ez43 => ?_)
        exact he_iret hx hb hK hN hW hlocks hJ hr ⟨hg_Q.rf, Or.inr ⟨by omega, rfl⟩⟩ dX6_type_24
set_option maxRecDepth 100000 in
set_option maxHeartbeats 4000000 in
theorem e_X7_typeX (l : Launch) (dC : Nat → ClassId) (dI : Nat → Nat → Nat) (dA : Nat → ClassId) (κ : Nat → Nat) (B : Nat) (g : Nat → Nat → Int) (h0 : Nat) (k0 : κ h0 = 11) (w : Int64) (n : Int32) : Met l yX7_type wsX7_type ({ frames := 0, cells := 0, slots := 0, locals := 0 } : Room) (he_Pre dC dI dA κ B g [Value.ref h0, Value.long w, Value.int n]) (he_Qi dC dI dA κ B (fun r u => hg_Q (fun a b => (a = 11 ∧ b = 1) ∨ a = 38) g u ∧ (((1 ≤ n.toInt ∧ n.toInt ≤ 8 ∧ g 11 1 + n.toInt ≤ 700) ∧ u 11 1 = g 11 1 + n.toInt ∧ (∀ k : Nat, (k : Int) < n.toInt → u 38 ((g 11 1).toNat + k) = hb_m w (n.toInt - 1 - k)) ∧ ∀ b : Nat, (b : Int) < g 11 1 → u 38 b = g 38 b) ∨ (¬ (1 ≤ n.toInt ∧ n.toInt ≤ 8 ∧ g 11 1 + n.toInt ≤ 700) ∧ g = u)))) 0 0 (hp_A B) := by
  refine Met.ofW (cc := cX7_type) (maxL := 5) (ret := (some .int)) (by decide) rfl ?_
  intro p e s m args below meth c s₁ Bd hml hv
  obtain ⟨rfl, hK, hN, hW, hF⟩ := hv
  have hx := Bd.exec
  have hb := Bd.bytes
  have hr := Bd.returns
  have hts := atoms_spec (ws := wsX7_type) Bd.pre
  have hown : s.vm.findClass RX7 = some m.cls := findClass_of_methodNamed Bd.named
  have hlocks := Bd.notSynchronized
  have hJ : he_J dC dI dA κ B g s.heap s.heap [] := ⟨hF, va_S.rf⟩
  have hl := lv_entry ([Value.ref h0, Value.long w, Value.int n]) (n := 5) (Nat.le_of_ble_eq_true rfl)
  rw [lg_entry_eq]
  generalize (lg_sl ([Value.ref h0, Value.long w, Value.int n]) ++ List.replicate (5 - (lg_sl ([Value.ref h0, Value.long w, Value.int n])).length) Slot.unset).toArray = ls at hl ⊢
  have hl : lv_has ls 5 [(0, .ref h0), (1, .long w), (3, .int n)] := hl
  refine lv_iload_n hx hb dX7_type_0 rfl (lv_at hl 2 rfl) ?_
  refine hq_iconst hx hb dX7_type_1 (by decide) (by decide) (fun z1 ez1 => ?_)
  refine hq_icmp_lt (tgt := 23) hx hb dX7_type_2 (by decide) (fun c2 => ?_) (fun c2 => ?_)
  · refine hq_iconst hx hb dX7_type_23 (by decide) (by decide) (fun z3 ez3 => ?_)
    exact he_iret hx hb hK hN hW hlocks hJ hr ⟨hg_Q.rf, Or.inr ⟨by omega, rfl⟩⟩ dX7_type_24
  · refine lv_iload_n hx hb dX7_type_5 rfl (lv_at hl 2 rfl) ?_
    refine hq_bipush hx hb dX7_type_6 (by decide) (fun z4 ez4 => ?_)
    refine hq_icmp_gt (tgt := 23) hx hb dX7_type_8 (by decide) (fun c5 => ?_) (fun c5 => ?_)
    · refine hq_iconst hx hb dX7_type_23 (by decide) (by decide) (fun z6 ez6 => ?_)
      exact he_iret hx hb hK hN hW hlocks hJ hr ⟨hg_Q.rf, Or.inr ⟨by omega, rfl⟩⟩ dX7_type_24
    · refine lv_aload_n hx hb dX7_type_11 rfl (lv_at hl 0 rfl) ?_
      refine he_geti (C := RX7) (T := TX7) (N := 24) (ci := 7) (kd := 11) hx hb hts iX7_type_X7 hown hK hJ k0 rfl rfl 1 (by decide) (hts (.fieldLink RX7 70 "NeighborBookModel" "typedSize" "I") (List.mem_of_getElem? (i := 1) rfl)) (fun _ h9 => h9) rfl rfl dX7_type_12 (fun x7 ex7 => ?_)
      have ex7 : x7.toInt = g 11 1 ∧ 0 ≤ x7.toInt ∧ x7.toInt ≤ 700 := ex7
      refine lv_iload_n hx hb dX7_type_15 rfl (lv_at hl 2 rfl) ?_
      refine hq_iadd hx hb dX7_type_16 (by omega) (by omega) (fun x8 ex8 => ?_)
      refine hq_sipush hx hb dX7_type_17 (by decide) (fun z9 ez9 => ?_)
      refine hq_icmp_le (tgt := 25) hx hb dX7_type_20 (by decide) (fun c10 => ?_) (fun c10 => ?_)
      · refine lv_iload_n hx hb dX7_type_25 rfl (lv_at hl 2 rfl) ?_
        refine hq_iconst hx hb dX7_type_26 (by decide) (by decide) (fun z11 ez11 => ?_)
        refine hq_isub hx hb dX7_type_27 (by omega) (by omega) (fun x12 ex12 => ?_)
        refine lv_istore (lv' := [(4, .int x12), (0, .ref h0), (1, .long w), (3, .int n)]) hx hb dX7_type_28 hl (by decide) rfl (fun ls hl => ?_)
        have lp15 : ∀ (nlp15 : Nat) (v13 : Int32) (g14 : Nat → Nat → Int) (H : Heap) (locs : List Loc) (ls : Array Slot), (hg_Q (fun a b => (a = 11 ∧ b = 1) ∨ a = 38) g g14) → (-1 ≤ v13.toInt) → (v13.toInt ≤ 7) → (0 ≤ g14 11 1) → (g14 11 1 + v13.toInt = g 11 1 + n.toInt - 1) → (g 11 1 + n.toInt ≤ 700 ∧ 0 ≤ g 11 1 ∧ v13.toInt ≤ n.toInt - 1) → (∀ k : Nat, (k : Int) < n.toInt - 1 - v13.toInt → g14 38 ((g 11 1).toNat + k) = hb_m w (n.toInt - 1 - k)) → (∀ b : Nat, (b : Int) < g 11 1 → g14 38 b = g 38 b) → (v13.toInt + 2 < (nlp15 : Int)) → he_J dC dI dA κ B g14 s.heap H locs → lv_has ls 5 [(0, .ref h0), (1, .long w), (3, .int n), (4, .int v13)] → W p l e (headSpec wsX7_type ({ frames := 0, cells := 0, slots := 0, locals := 0 } : Room)).room s m ([Value.ref h0, Value.long w, Value.int n] : List Value).toArray below meth c H locs 0 0 (MQ below (he_Qi dC dI dA κ B (fun r u => hg_Q (fun a b => (a = 11 ∧ b = 1) ∨ a = 38) g u ∧ (((1 ≤ n.toInt ∧ n.toInt ≤ 8 ∧ g 11 1 + n.toInt ≤ 700) ∧ u 11 1 = g 11 1 + n.toInt ∧ (∀ k : Nat, (k : Int) < n.toInt → u 38 ((g 11 1).toNat + k) = hb_m w (n.toInt - 1 - k)) ∧ ∀ b : Nat, (b : Int) < g 11 1 → u 38 b = g 38 b) ∨ (¬ (1 ≤ n.toInt ∧ n.toInt ≤ 8 ∧ g 11 1 + n.toInt ≤ 700) ∧ g = u)))) ([Value.ref h0, Value.long w, Value.int n] : List Value).toArray s 0 0 (hp_A B)) (F0 m 30 ls []) := by
          intro nlp15
          induction nlp15 with
          | zero => intro v13 g14 H locs ls iv17 iv18 iv19 iv20 iv21 iv22 iv23 iv24 hm16 hJ hl; exact absurd hm16 (by omega)
          | succ nlp15 ihlp15 =>
            intro v13 g14 H locs ls iv17 iv18 iv19 iv20 iv21 iv22 iv23 iv24 hm16 hJ hl
            refine lv_iload hx hb dX7_type_30 (lv_at hl 3 rfl) ?_
            refine hq_if_lt (tgt := 69) hx hb dX7_type_32 (by decide) (fun c25 => ?_) (fun c25 => ?_)
            · refine lv_aload_n hx hb dX7_type_69 rfl (lv_at hl 0 rfl) ?_
              refine he_geti (C := RX7) (T := TX7) (N := 24) (ci := 7) (kd := 11) hx hb hts iX7_type_X7 hown hK hJ k0 rfl rfl 1 (by decide) (hts (.fieldLink RX7 70 "NeighborBookModel" "typedSize" "I") (List.mem_of_getElem? (i := 1) rfl)) (fun _ h9 => h9) rfl rfl dX7_type_70 (fun x26 ex26 => ?_)
              have ex26 : x26.toInt = g14 11 1 ∧ 0 ≤ x26.toInt ∧ x26.toInt ≤ 700 := ex26
              exact he_iret hx hb hK hN hW hlocks hJ hr ⟨iv17, Or.inl ⟨by omega, by omega, fun k hk => iv23 k (by omega), iv24⟩⟩ dX7_type_73
            · refine lv_aload_n hx hb dX7_type_35 rfl (lv_at hl 0 rfl) ?_
              refine he_getr (C := RX7) (T := TX7) (N := 24) (ci := 7) (kd := 11) hx hb hts iX7_type_X7 hown hK hJ k0 rfl rfl 0 (by decide) (hts (.fieldLink RX7 7 "NeighborBookModel" "typed" "[B") (List.mem_of_getElem? (i := 2) rfl)) (fun _ h9 => h9) rfl dX7_type_36 (fun b27 kb27 => ?_)
              refine lv_aload_n hx hb dX7_type_39 rfl (lv_at hl 0 rfl) ?_
              refine he_geti (C := RX7) (T := TX7) (N := 24) (ci := 7) (kd := 11) hx hb hts iX7_type_X7 hown hK hJ k0 rfl rfl 1 (by decide) (hts (.fieldLink RX7 70 "NeighborBookModel" "typedSize" "I") (List.mem_of_getElem? (i := 1) rfl)) (fun _ h9 => h9) rfl rfl dX7_type_40 (fun x28 ex28 => ?_)
              have ex28 : x28.toInt = g14 11 1 ∧ 0 ≤ x28.toInt ∧ x28.toInt ≤ 700 := ex28
              refine lv_lload_n hx hb dX7_type_43 rfl (lv_at hl 1 rfl) ?_
              refine hq_bipush hx hb dX7_type_44 (by decide) (fun z29 ez29 => ?_)
              refine lv_iload hx hb dX7_type_46 (lv_at hl 3 rfl) ?_
              refine hq_imul (w := 8 * v13.toInt) hx hb dX7_type_48 (by rw [ez29]) (by omega) (by omega) (fun x30 ex30 => ?_)
              refine lv_lshr hx hb dX7_type_49 rfl ?_
              refine lv_topl (fun w31 fw31 => ?_)
              refine lv_l2i hx hb dX7_type_50 rfl ?_
              refine lv_topi (fun x32 fx32 => ?_)
              refine hq_i2be hx hb dX7_type_51 (fun x33 ex33 rx33 => ?_)
              have hbv : x33.toInt = hb_m w v13.toInt := by
                have hy : x30 = Int32.ofInt (8 * v13.toInt) := hi_eq.mpr (by rw [hi_ofInt (by omega) (by omega)]; omega)
                unfold hb_m
                rw [ex33, fx32, fw31, hy]
              refine he_bastx (kd := 38) (n := 700) hx hb hK hJ kb27 rfl (by omega) (by omega) (by decide) hW rfl rfl (by omega) (by omega) dX7_type_52 (fun g34 H locs eg34 ng34 hJ => ?_)
              have eg34 : g34 38 x28.toInt.toNat = x33.toInt := eg34
              have P35 : hg_Q (fun a b => (a = 11 ∧ b = 1) ∨ a = 38) g g34 := hg_Q.put iv17 ng34 (show (38 = 11 ∧ x28.toInt.toNat = 1) ∨ 38 = 38 from by omega)
              have qt36 : g34 11 1 = g14 11 1 := ng34 11 1 (by omega)
              refine lv_aload_n hx hb dX7_type_53 rfl (lv_at hl 0 rfl) ?_
              refine lv_dup hx hb dX7_type_54 rfl ?_
              refine he_geti (C := RX7) (T := TX7) (N := 24) (ci := 7) (kd := 11) hx hb hts iX7_type_X7 hown hK hJ k0 rfl rfl 1 (by decide) (hts (.fieldLink RX7 70 "NeighborBookModel" "typedSize" "I") (List.mem_of_getElem? (i := 1) rfl)) (fun _ h9 => h9) rfl rfl dX7_type_55 (fun x37 ex37 => ?_)
              have ex37 : x37.toInt = g34 11 1 ∧ 0 ≤ x37.toInt ∧ x37.toInt ≤ 700 := ex37
              refine hq_iconst hx hb dX7_type_58 (by decide) (by decide) (fun z38 ez38 => ?_)
              refine hq_iadd hx hb dX7_type_59 (by omega) (by omega) (fun x39 ex39 => ?_)
              refine he_putx (C := RX7) (T := TX7) (N := 24) (ci := 7) (kd := 11) hx hb hts iX7_type_X7 hown hK hJ k0 rfl rfl 1 (by decide) (hts (.fieldLink RX7 70 "NeighborBookModel" "typedSize" "I") (List.mem_of_getElem? (i := 1) rfl)) (fun _ h9 => h9) tyX7 tyX7_ok nmX7 (x := x39) rfl rfl (by decide) hW rfl rfl rfl rfl (show x39.toInt = x39.toInt ∧ 0 ≤ x39.toInt ∧ x39.toInt ≤ 700 from ⟨rfl, by omega, by omega⟩) dX7_type_60 (fun g40 H locs eg40 ng40 hJ => ?_)
              have eg40 : g40 11 1 = x39.toInt := eg40
              have P41 : hg_Q (fun a b => (a = 11 ∧ b = 1) ∨ a = 38) g g40 := hg_Q.put P35 ng40 (show (11 = 11 ∧ 1 = 1) ∨ 11 = 38 from by omega)
              refine hq_iinc (k := 3) (lv' := fun (z9 : Int32) => [(4, .int z9), (0, .ref h0), (1, .long w), (3, .int n)]) hx hb dX7_type_63 hl rfl (by decide) (by decide) (by omega) (by omega) (by decide) (fun _ => rfl) (fun x42 ls ex42 hl => ?_)
              have hl : lv_has ls 5 [(4, .int x42), (0, .ref h0), (1, .long w), (3, .int n)] := hl
              refine lv_goto (tgt := 30) hx hb dX7_type_66 (by decide) ?_
              exact ihlp15 x42 g40 _ _ ls P41 (by omega) (by omega) (by omega) (by omega) (by omega) (fun k hk => by
                rw [ng40 38 ((g 11 1).toNat + k) (by omega)]
                by_cases h9 : k = (n.toInt - 1 - v13.toInt).toNat
                · rw [show (g 11 1).toNat + k = x28.toInt.toNat by omega, eg34, hbv, show n.toInt - 1 - (k : Int) = v13.toInt by omega]
                · rw [ng34 38 ((g 11 1).toNat + k) (by omega)]
                  exact iv23 k (by omega)) (fun b hb => by
                rw [ng40 38 b (by omega), ng34 38 b (by omega)]
                exact iv24 b hb) (by omega) hJ (lv_sub hl [1, 2, 3, 0] rfl)
        exact lp15 ((x12.toInt + 2).toNat + 1) x12 g _ _ ls hg_Q.rf (by omega) (by omega) (by omega) (by omega) (by omega) (fun k hk => absurd hk (by omega)) (fun b hb => rfl) (by omega) hJ (lv_sub hl [1, 2, 3, 0] rfl)
      · refine hq_iconst hx hb dX7_type_23 (by decide) (by decide) (fun z43 ez43 => ?_)
        exact he_iret hx hb hK hN hW hlocks hJ hr ⟨hg_Q.rf, Or.inr ⟨by omega, rfl⟩⟩ dX7_type_24
set_option maxRecDepth 100000 in
set_option maxHeartbeats 4000000 in
theorem e_X6_tellX (l : Launch) (dC : Nat → ClassId) (dI : Nat → Nat → Nat) (dA : Nat → ClassId) (κ : Nat → Nat) (B : Nat) (g : Nat → Nat → Int) (h0 : Nat) (k0 : κ h0 = 1) (what : Int32) : Met l yX6_tell wsX6_tell ({ frames := 4, cells := 0, slots := 0, locals := 85 } : Room) (he_Pre dC dI dA κ B g [Value.ref h0, Value.int what]) (he_Qi dC dI dA κ B (fun r u => hg_Q (fun a b => (5 ≤ a ∧ a < 9 ∧ b ≠ 0) ∨ a = 353 ∨ a = 373 ∨ (a = 1 ∧ b = 1)) g u ∧ (((((what.toInt = 1 ∨ what.toInt = 2) ∧ 2 ≤ g 1 1 ∧ g 1 1 ≤ 59) ∨ (4 ≤ what.toInt ∧ what.toInt ≤ 8 ∧ g 1 1 ≤ 60)) ∧ u 1 1 = 0) ∨ (¬ (((what.toInt = 1 ∨ what.toInt = 2) ∧ 2 ≤ g 1 1 ∧ g 1 1 ≤ 59) ∨ (4 ≤ what.toInt ∧ what.toInt ≤ 8 ∧ g 1 1 ≤ 60)) ∧ g = u)))) 0 0 (hp_A B) := by
  refine Met.ofW (cc := cX6_tell) (maxL := 2) (ret := (some .int)) (by decide) rfl ?_
  intro p e s m args below meth c s₁ Bd hml hv
  obtain ⟨rfl, hK, hN, hW, hF⟩ := hv
  have hx := Bd.exec
  have hb := Bd.bytes
  have hr := Bd.returns
  have hts := atoms_spec (ws := wsX6_tell) Bd.pre
  have hown : s.vm.findClass RX6 = some m.cls := findClass_of_methodNamed Bd.named
  have hlocks := Bd.notSynchronized
  have hJ : he_J dC dI dA κ B g s.heap s.heap [] := ⟨hF, va_S.rf⟩
  have hl := lv_entry ([Value.ref h0, Value.int what]) (n := 2) (Nat.le_of_ble_eq_true rfl)
  rw [lg_entry_eq]
  generalize (lg_sl ([Value.ref h0, Value.int what]) ++ List.replicate (2 - (lg_sl ([Value.ref h0, Value.int what])).length) Slot.unset).toArray = ls at hl ⊢
  have hl : lv_has ls 2 [(0, .ref h0), (1, .int what)] := hl
  refine lv_iload_n hx hb dX6_tell_0 rfl (lv_at hl 1 rfl) ?_
  refine lv_aload_n hx hb dX6_tell_1 rfl (lv_at hl 0 rfl) ?_
  refine he_geti (C := RX6) (T := TX6) (N := 12) (ci := 6) (kd := 1) hx hb hts iX6_tell_X6 hown hK hJ k0 rfl rfl 1 (by decide) (hts (.fieldLink RX6 65 "NeighborBook" "typedCount" "I") (List.mem_of_getElem? (i := 1) rfl)) (fun _ h9 => h9) rfl rfl dX6_tell_2 (fun x1 ex1 => ?_)
  have ex1 : x1.toInt = g 1 1 ∧ 0 ≤ x1.toInt ∧ x1.toInt ≤ 700 := ex1
  refine he_calli (va_runS (As := [.int what, .int x1]) (rest := []) ⟨hx, hb, hml, hown, hts⟩ (e_X6_isTellable l dC dI dA κ B g what x1) (va_cwS 2 hts gX6_tell_X6_isTellable rfl rfl rfl (by decide +kernel) ⟨Nat.le_of_ble_eq_true rfl, Nat.le_of_ble_eq_true rfl⟩) (he_preS [.int what, .int x1] hK hN hW hJ) rfl rfl hl.1 rfl (lv_room (Nat.le_of_ble_eq_true rfl)) dX6_tell_5 ⟨Nat.zero_le _, Nat.zero_le _⟩) hJ (fun x3 g2 H locs hp hJ => ?_)
  obtain ⟨rfl, f4⟩ := hp
  refine hq_if_ne (tgt := 13) hx hb dX6_tell_8 (by decide) (fun c5 => ?_) (fun c5 => ?_)
  · refine lv_aload_n hx hb dX6_tell_13 rfl (lv_at hl 0 rfl) ?_
    refine he_geti (C := RX6) (T := TX6) (N := 12) (ci := 6) (kd := 1) hx hb hts iX6_tell_X6 hown hK hJ k0 rfl rfl 1 (by decide) (hts (.fieldLink RX6 65 "NeighborBook" "typedCount" "I") (List.mem_of_getElem? (i := 1) rfl)) (fun _ h9 => h9) rfl rfl dX6_tell_14 (fun x6 ex6 => ?_)
    have ex6 : x6.toInt = g 1 1 ∧ 0 ≤ x6.toInt ∧ x6.toInt ≤ 700 := ex6
    refine hq_if_ne (tgt := 28) hx hb dX6_tell_17 (by decide) (fun c7 => ?_) (fun c7 => ?_)
    · refine lv_aload_n hx hb dX6_tell_28 rfl (lv_at hl 0 rfl) ?_
      refine lv_iload_n hx hb dX6_tell_29 rfl (lv_at hl 1 rfl) ?_
      refine he_callv (va_runV (As := [.int what]) (rest := []) ⟨hx, hb, hml, hown, hts⟩ (e_X6_tellTyped l dC dI dA κ B g h0 k0 what (by omega) (by omega) (by omega) (by omega)) (cwV 1 hts gX6_tell_X6_tellTyped rfl rfl rfl (by decide +kernel) ⟨Nat.le_of_ble_eq_true rfl, Nat.le_of_ble_eq_true rfl⟩) (he_preV (q := (RX6, TX6, 12)) [.int what] hK hN hW hJ k0 rfl rfl) rfl rfl hl.1 rfl (lv_room (Nat.le_of_ble_eq_true rfl)) dX6_tell_30 ⟨Nat.zero_le _, Nat.zero_le _⟩) hJ (fun g8 H locs hp hJ => ?_)
      have P10a := hp
      have P10 : hg_Q (fun a b => (5 ≤ a ∧ a < 9 ∧ b ≠ 0) ∨ a = 353 ∨ a = 373 ∨ (a = 1 ∧ b = 1)) g g8 := (hg_Q.le P10a (fun a b h9 => by have h9 : (5 ≤ a ∧ a < 9 ∧ b ≠ 0) ∨ a = 353 ∨ a = 373 := h9; show (5 ≤ a ∧ a < 9 ∧ b ≠ 0) ∨ a = 353 ∨ a = 373 ∨ (a = 1 ∧ b = 1); omega))
      have qt11 : g8 1 1 = g 1 1 := P10a 1 1 (show ¬ ((5 ≤ 1 ∧ 1 < 9 ∧ 1 ≠ 0) ∨ 1 = 353 ∨ 1 = 373) from by omega)
      refine lv_aload_n hx hb dX6_tell_33 rfl (lv_at hl 0 rfl) ?_
      refine hq_iconst hx hb dX6_tell_34 (by decide) (by decide) (fun z12 ez12 => ?_)
      refine he_putx (C := RX6) (T := TX6) (N := 12) (ci := 6) (kd := 1) hx hb hts iX6_tell_X6 hown hK hJ k0 rfl rfl 1 (by decide) (hts (.fieldLink RX6 65 "NeighborBook" "typedCount" "I") (List.mem_of_getElem? (i := 1) rfl)) (fun _ h9 => h9) tyX6 tyX6_ok nmX6 (x := z12) rfl rfl (by decide) hW rfl rfl rfl rfl (show z12.toInt = z12.toInt ∧ 0 ≤ z12.toInt ∧ z12.toInt ≤ 700 from ⟨rfl, by omega, by omega⟩) dX6_tell_35 (fun g13 H locs eg13 ng13 hJ => ?_)
      have eg13 : g13 1 1 = z12.toInt := eg13
      have P14 : hg_Q (fun a b => (5 ≤ a ∧ a < 9 ∧ b ≠ 0) ∨ a = 353 ∨ a = 373 ∨ (a = 1 ∧ b = 1)) g g13 := hg_Q.put P10 ng13 (show (5 ≤ 1 ∧ 1 < 9 ∧ 1 ≠ 0) ∨ 1 = 353 ∨ 1 = 373 ∨ (1 = 1 ∧ 1 = 1) from by omega)
      refine hq_iconst hx hb dX6_tell_38 (by decide) (by decide) (fun z15 ez15 => ?_)
      exact he_iret hx hb hK hN hW hlocks hJ hr (by first | exact ⟨P14, Or.inr ⟨by omega, rfl⟩⟩ | exact ⟨P14, Or.inl ⟨by omega, by omega⟩⟩) dX6_tell_39
    · refine lv_aload_n hx hb dX6_tell_20 rfl (lv_at hl 0 rfl) ?_
      refine lv_iload_n hx hb dX6_tell_21 rfl (lv_at hl 1 rfl) ?_
      refine he_callv (va_runV (As := [.int what]) (rest := []) ⟨hx, hb, hml, hown, hts⟩ (e_X6_tellNothing l dC dI dA κ B g h0 k0 what) (cwV 1 hts gX6_tell_X6_tellNothing rfl rfl rfl (by decide +kernel) ⟨Nat.le_of_ble_eq_true rfl, Nat.le_of_ble_eq_true rfl⟩) (he_preV (q := (RX6, TX6, 12)) [.int what] hK hN hW hJ k0 rfl rfl) rfl rfl hl.1 rfl (lv_room (Nat.le_of_ble_eq_true rfl)) dX6_tell_22 ⟨Nat.zero_le _, Nat.zero_le _⟩) hJ (fun g16 H locs hp hJ => ?_)
      have P18a := hp
      have P18 : hg_Q (fun a b => (5 ≤ a ∧ a < 9 ∧ b ≠ 0) ∨ a = 353 ∨ a = 373 ∨ (a = 1 ∧ b = 1)) g g16 := (hg_Q.le P18a (fun a b h9 => by have h9 : (5 ≤ a ∧ a < 9 ∧ b ≠ 0) ∨ a = 353 ∨ a = 373 := h9; show (5 ≤ a ∧ a < 9 ∧ b ≠ 0) ∨ a = 353 ∨ a = 373 ∨ (a = 1 ∧ b = 1); omega))
      have qt19 : g16 1 1 = g 1 1 := P18a 1 1 (show ¬ ((5 ≤ 1 ∧ 1 < 9 ∧ 1 ≠ 0) ∨ 1 = 353 ∨ 1 = 373) from by omega)
      refine lv_goto (tgt := 33) hx hb dX6_tell_25 (by decide) ?_
      refine lv_aload_n hx hb dX6_tell_33 rfl (lv_at hl 0 rfl) ?_
      refine hq_iconst hx hb dX6_tell_34 (by decide) (by decide) (fun z20 ez20 => ?_)
      refine he_putx (C := RX6) (T := TX6) (N := 12) (ci := 6) (kd := 1) hx hb hts iX6_tell_X6 hown hK hJ k0 rfl rfl 1 (by decide) (hts (.fieldLink RX6 65 "NeighborBook" "typedCount" "I") (List.mem_of_getElem? (i := 1) rfl)) (fun _ h9 => h9) tyX6 tyX6_ok nmX6 (x := z20) rfl rfl (by decide) hW rfl rfl rfl rfl (show z20.toInt = z20.toInt ∧ 0 ≤ z20.toInt ∧ z20.toInt ≤ 700 from ⟨rfl, by omega, by omega⟩) dX6_tell_35 (fun g21 H locs eg21 ng21 hJ => ?_)
      have eg21 : g21 1 1 = z20.toInt := eg21
      have P22 : hg_Q (fun a b => (5 ≤ a ∧ a < 9 ∧ b ≠ 0) ∨ a = 353 ∨ a = 373 ∨ (a = 1 ∧ b = 1)) g g21 := hg_Q.put P18 ng21 (show (5 ≤ 1 ∧ 1 < 9 ∧ 1 ≠ 0) ∨ 1 = 353 ∨ 1 = 373 ∨ (1 = 1 ∧ 1 = 1) from by omega)
      refine hq_iconst hx hb dX6_tell_38 (by decide) (by decide) (fun z23 ez23 => ?_)
      exact he_iret hx hb hK hN hW hlocks hJ hr (by first | exact ⟨P22, Or.inr ⟨by omega, rfl⟩⟩ | exact ⟨P22, Or.inl ⟨by omega, by omega⟩⟩) dX6_tell_39
  · refine hq_iconst hx hb dX6_tell_11 (by decide) (by decide) (fun z24 ez24 => ?_)
    exact he_iret hx hb hK hN hW hlocks hJ hr (by first | exact ⟨hg_Q.rf, Or.inr ⟨by omega, rfl⟩⟩ | exact ⟨hg_Q.rf, Or.inl ⟨by omega, by omega⟩⟩) dX6_tell_12
set_option maxRecDepth 100000 in
set_option maxHeartbeats 4000000 in
theorem e_X7_tellX (l : Launch) (dC : Nat → ClassId) (dI : Nat → Nat → Nat) (dA : Nat → ClassId) (κ : Nat → Nat) (B : Nat) (g : Nat → Nat → Int) (h0 : Nat) (k0 : κ h0 = 11) (what : Int32) : Met l yX7_tell wsX7_tell ({ frames := 1, cells := 0, slots := 0, locals := 20 } : Room) (he_Pre dC dI dA κ B g [Value.ref h0, Value.int what]) (he_Qi dC dI dA κ B (fun r u => hg_Q (fun a b => (a = 11 ∧ b = 1) ∨ a = 24) g u ∧ (((((what.toInt = 1 ∨ what.toInt = 2) ∧ 2 ≤ g 11 1 ∧ g 11 1 ≤ 59) ∨ (4 ≤ what.toInt ∧ what.toInt ≤ 8 ∧ g 11 1 ≤ 60)) ∧ u 11 1 = 0) ∨ (¬ (((what.toInt = 1 ∨ what.toInt = 2) ∧ 2 ≤ g 11 1 ∧ g 11 1 ≤ 59) ∨ (4 ≤ what.toInt ∧ what.toInt ≤ 8 ∧ g 11 1 ≤ 60)) ∧ g = u)))) 0 0 (hp_A B) := by
  refine Met.ofW (cc := cX7_tell) (maxL := 4) (ret := (some .int)) (by decide) rfl ?_
  intro p e s m args below meth c s₁ Bd hml hv
  obtain ⟨rfl, hK, hN, hW, hF⟩ := hv
  have hx := Bd.exec
  have hb := Bd.bytes
  have hr := Bd.returns
  have hts := atoms_spec (ws := wsX7_tell) Bd.pre
  have hown : s.vm.findClass RX7 = some m.cls := findClass_of_methodNamed Bd.named
  have hlocks := Bd.notSynchronized
  have hJ : he_J dC dI dA κ B g s.heap s.heap [] := ⟨hF, va_S.rf⟩
  have hl := lv_entry ([Value.ref h0, Value.int what]) (n := 4) (Nat.le_of_ble_eq_true rfl)
  rw [lg_entry_eq]
  generalize (lg_sl ([Value.ref h0, Value.int what]) ++ List.replicate (4 - (lg_sl ([Value.ref h0, Value.int what])).length) Slot.unset).toArray = ls at hl ⊢
  have hl : lv_has ls 4 [(0, .ref h0), (1, .int what)] := hl
  have ct1 : ∀ (H : Heap) (locs : List Loc) (ls : Array Slot), ((((what.toInt = 1 ∨ what.toInt = 2) ∧ 2 ≤ g 11 1 ∧ g 11 1 ≤ 59) ∨ (4 ≤ what.toInt ∧ what.toInt ≤ 8 ∧ g 11 1 ≤ 60))) → he_J dC dI dA κ B g s.heap H locs → lv_has ls 4 [(0, .ref h0), (1, .int what)] → W p l e (headSpec wsX7_tell ({ frames := 1, cells := 0, slots := 0, locals := 20 } : Room)).room s m ([Value.ref h0, Value.int what] : List Value).toArray below meth c H locs 0 0 (MQ below (he_Qi dC dI dA κ B (fun r u => hg_Q (fun a b => (a = 11 ∧ b = 1) ∨ a = 24) g u ∧ (((((what.toInt = 1 ∨ what.toInt = 2) ∧ 2 ≤ g 11 1 ∧ g 11 1 ≤ 59) ∨ (4 ≤ what.toInt ∧ what.toInt ≤ 8 ∧ g 11 1 ≤ 60)) ∧ u 11 1 = 0) ∨ (¬ (((what.toInt = 1 ∨ what.toInt = 2) ∧ 2 ≤ g 11 1 ∧ g 11 1 ≤ 59) ∨ (4 ≤ what.toInt ∧ what.toInt ≤ 8 ∧ g 11 1 ≤ 60)) ∧ g = u)))) ([Value.ref h0, Value.int what] : List Value).toArray s 0 0 (hp_A B)) (F0 m 64 ls []) := by
    intro  H locs ls iv2 hJ hl
    refine hq_iconst hx hb dX7_tell_64 (by decide) (by decide) (fun z3 ez3 => ?_)
    refine lv_istore_n (lv' := [(3, .int z3), (0, .ref h0), (1, .int what)]) hx hb dX7_tell_65 rfl hl (by decide) rfl (fun ls hl => ?_)
    have lp5 : ∀ (nlp5 : Nat) (v4 : Int32) (H : Heap) (locs : List Loc) (ls : Array Slot), (0 ≤ v4.toInt) → (v4.toInt ≤ 60) → (61 - v4.toInt < (nlp5 : Int)) → he_J dC dI dA κ B g s.heap H locs → lv_has ls 4 [(0, .ref h0), (1, .int what), (3, .int v4)] → W p l e (headSpec wsX7_tell ({ frames := 1, cells := 0, slots := 0, locals := 20 } : Room)).room s m ([Value.ref h0, Value.int what] : List Value).toArray below meth c H locs 0 0 (MQ below (he_Qi dC dI dA κ B (fun r u => hg_Q (fun a b => (a = 11 ∧ b = 1) ∨ a = 24) g u ∧ (((((what.toInt = 1 ∨ what.toInt = 2) ∧ 2 ≤ g 11 1 ∧ g 11 1 ≤ 59) ∨ (4 ≤ what.toInt ∧ what.toInt ≤ 8 ∧ g 11 1 ≤ 60)) ∧ u 11 1 = 0) ∨ (¬ (((what.toInt = 1 ∨ what.toInt = 2) ∧ 2 ≤ g 11 1 ∧ g 11 1 ≤ 59) ∨ (4 ≤ what.toInt ∧ what.toInt ≤ 8 ∧ g 11 1 ≤ 60)) ∧ g = u)))) ([Value.ref h0, Value.int what] : List Value).toArray s 0 0 (hp_A B)) (F0 m 66 ls []) := by
      intro nlp5
      induction nlp5 with
      | zero => intro v4 H locs ls iv7 iv8 hm6 hJ hl; exact absurd hm6 (by omega)
      | succ nlp5 ihlp5 =>
        intro v4 H locs ls iv7 iv8 hm6 hJ hl
        refine lv_iload_n hx hb dX7_tell_66 rfl (lv_at hl 2 rfl) ?_
        refine lv_aload_n hx hb dX7_tell_67 rfl (lv_at hl 0 rfl) ?_
        refine he_geti (C := RX7) (T := TX7) (N := 24) (ci := 7) (kd := 11) hx hb hts iX7_tell_X7 hown hK hJ k0 rfl rfl 1 (by decide) (hts (.fieldLink RX7 70 "NeighborBookModel" "typedSize" "I") (List.mem_of_getElem? (i := 1) rfl)) (fun _ h9 => h9) rfl rfl dX7_tell_68 (fun x9 ex9 => ?_)
        have ex9 : x9.toInt = g 11 1 ∧ 0 ≤ x9.toInt ∧ x9.toInt ≤ 700 := ex9
        refine hq_icmp_ge (tgt := 97) hx hb dX7_tell_71 (by decide) (fun c10 => ?_) (fun c10 => ?_)
        · refine lv_aload_n hx hb dX7_tell_97 rfl (lv_at hl 0 rfl) ?_
          refine he_getr (C := RX7) (T := TX7) (N := 24) (ci := 7) (kd := 11) hx hb hts iX7_tell_X7 hown hK hJ k0 rfl rfl 3 (by decide) (hts (.fieldLink RX7 16 "NeighborBookModel" "ownSizes" "[I") (List.mem_of_getElem? (i := 4) rfl)) (fun _ h9 => h9) rfl dX7_tell_98 (fun b11 kb11 => ?_)
          refine lv_iload_n hx hb dX7_tell_101 rfl (lv_at hl 1 rfl) ?_
          refine lv_aload_n hx hb dX7_tell_102 rfl (lv_at hl 0 rfl) ?_
          refine he_geti (C := RX7) (T := TX7) (N := 24) (ci := 7) (kd := 11) hx hb hts iX7_tell_X7 hown hK hJ k0 rfl rfl 1 (by decide) (hts (.fieldLink RX7 70 "NeighborBookModel" "typedSize" "I") (List.mem_of_getElem? (i := 1) rfl)) (fun _ h9 => h9) rfl rfl dX7_tell_103 (fun x12 ex12 => ?_)
          have ex12 : x12.toInt = g 11 1 ∧ 0 ≤ x12.toInt ∧ x12.toInt ≤ 700 := ex12
          refine hq_if_ne (tgt := 113) hx hb dX7_tell_106 (by decide) (fun c13 => ?_) (fun c13 => ?_)
          · refine lv_aload_n hx hb dX7_tell_113 rfl (lv_at hl 0 rfl) ?_
            refine he_geti (C := RX7) (T := TX7) (N := 24) (ci := 7) (kd := 11) hx hb hts iX7_tell_X7 hown hK hJ k0 rfl rfl 1 (by decide) (hts (.fieldLink RX7 70 "NeighborBookModel" "typedSize" "I") (List.mem_of_getElem? (i := 1) rfl)) (fun _ h9 => h9) rfl rfl dX7_tell_114 (fun x14 ex14 => ?_)
            have ex14 : x14.toInt = g 11 1 ∧ 0 ≤ x14.toInt ∧ x14.toInt ≤ 700 := ex14
            refine he_iast (kd := 19) (n := 9) hx hb hK hJ kb11 rfl (by omega) (by omega) (by decide) hW (sp := (3, 60)) rfl rfl (show _ ∧ _ from by constructor <;> omega) dX7_tell_117 (fun H locs hJ => ?_)
            refine lv_aload_n hx hb dX7_tell_118 rfl (lv_at hl 0 rfl) ?_
            refine hq_iconst hx hb dX7_tell_119 (by decide) (by decide) (fun z15 ez15 => ?_)
            refine he_putx (C := RX7) (T := TX7) (N := 24) (ci := 7) (kd := 11) hx hb hts iX7_tell_X7 hown hK hJ k0 rfl rfl 1 (by decide) (hts (.fieldLink RX7 70 "NeighborBookModel" "typedSize" "I") (List.mem_of_getElem? (i := 1) rfl)) (fun _ h9 => h9) tyX7 tyX7_ok nmX7 (x := z15) rfl rfl (by decide) hW rfl rfl rfl rfl (show z15.toInt = z15.toInt ∧ 0 ≤ z15.toInt ∧ z15.toInt ≤ 700 from ⟨rfl, by omega, by omega⟩) dX7_tell_120 (fun g16 H locs eg16 ng16 hJ => ?_)
            have eg16 : g16 11 1 = z15.toInt := eg16
            have P17 : hg_Q (fun a b => (a = 11 ∧ b = 1) ∨ a = 24) g g16 := hg_Q.put hg_Q.rf ng16 (show (11 = 11 ∧ 1 = 1) ∨ 11 = 24 from by omega)
            refine hq_iconst hx hb dX7_tell_123 (by decide) (by decide) (fun z18 ez18 => ?_)
            refine lv_istore_n (lv' := [(3, .int z18), (0, .ref h0), (1, .int what)]) hx hb dX7_tell_124 rfl hl (by decide) rfl (fun ls hl => ?_)
            have lp21 : ∀ (nlp21 : Nat) (v19 : Int32) (g20 : Nat → Nat → Int) (H : Heap) (locs : List Loc) (ls : Array Slot), (hg_Q (fun a b => (a = 11 ∧ b = 1) ∨ a = 24) g g20) → (0 ≤ v19.toInt) → (v19.toInt ≤ 4) → (g20 11 1 = 0) → (5 - v19.toInt < (nlp21 : Int)) → he_J dC dI dA κ B g20 s.heap H locs → lv_has ls 4 [(0, .ref h0), (1, .int what), (3, .int v19)] → W p l e (headSpec wsX7_tell ({ frames := 1, cells := 0, slots := 0, locals := 20 } : Room)).room s m ([Value.ref h0, Value.int what] : List Value).toArray below meth c H locs 0 0 (MQ below (he_Qi dC dI dA κ B (fun r u => hg_Q (fun a b => (a = 11 ∧ b = 1) ∨ a = 24) g u ∧ (((((what.toInt = 1 ∨ what.toInt = 2) ∧ 2 ≤ g 11 1 ∧ g 11 1 ≤ 59) ∨ (4 ≤ what.toInt ∧ what.toInt ≤ 8 ∧ g 11 1 ≤ 60)) ∧ u 11 1 = 0) ∨ (¬ (((what.toInt = 1 ∨ what.toInt = 2) ∧ 2 ≤ g 11 1 ∧ g 11 1 ≤ 59) ∨ (4 ≤ what.toInt ∧ what.toInt ≤ 8 ∧ g 11 1 ≤ 60)) ∧ g = u)))) ([Value.ref h0, Value.int what] : List Value).toArray s 0 0 (hp_A B)) (F0 m 125 ls []) := by
              intro nlp21
              induction nlp21 with
              | zero => intro v19 g20 H locs ls iv23 iv24 iv25 iv26 hm22 hJ hl; exact absurd hm22 (by omega)
              | succ nlp21 ihlp21 =>
                intro v19 g20 H locs ls iv23 iv24 iv25 iv26 hm22 hJ hl
                refine lv_iload_n hx hb dX7_tell_125 rfl (lv_at hl 2 rfl) ?_
                refine hq_iconst hx hb dX7_tell_126 (by decide) (by decide) (fun z27 ez27 => ?_)
                refine hq_icmp_ge (tgt := 156) hx hb dX7_tell_127 (by decide) (fun c28 => ?_) (fun c28 => ?_)
                · refine hq_iconst hx hb dX7_tell_156 (by decide) (by decide) (fun z29 ez29 => ?_)
                  exact he_iret hx hb hK hN hW hlocks hJ hr (by first | exact ⟨iv23, Or.inr ⟨by omega, rfl⟩⟩ | exact ⟨iv23, Or.inl ⟨by omega, by omega⟩⟩) dX7_tell_157
                · refine lv_aload_n hx hb dX7_tell_130 rfl (lv_at hl 0 rfl) ?_
                  refine he_getr (C := RX7) (T := TX7) (N := 24) (ci := 7) (kd := 11) hx hb hts iX7_tell_X7 hown hK hJ k0 rfl rfl 11 (by decide) (hts (.fieldLink RX7 43 "NeighborBookModel" "waits" "[I") (List.mem_of_getElem? (i := 5) rfl)) (fun _ h9 => h9) rfl dX7_tell_131 (fun b30 kb30 => ?_)
                  refine lv_iload_n hx hb dX7_tell_134 rfl (lv_at hl 2 rfl) ?_
                  refine lv_aload_n hx hb dX7_tell_135 rfl (lv_at hl 0 rfl) ?_
                  refine he_getr (C := RX7) (T := TX7) (N := 24) (ci := 7) (kd := 11) hx hb hts iX7_tell_X7 hown hK hJ k0 rfl rfl 7 (by decide) (hts (.fieldLink RX7 30 "NeighborBookModel" "up" "[Z") (List.mem_of_getElem? (i := 6) rfl)) (fun _ h9 => h9) rfl dX7_tell_136 (fun b31 kb31 => ?_)
                  refine lv_iload_n hx hb dX7_tell_139 rfl (lv_at hl 2 rfl) ?_
                  refine he_zald (kd := 20) (n := 4) hx hb hK hJ kb31 rfl (by omega) (by omega) (sp := (9, 1)) rfl rfl dX7_tell_140 (fun x32 ex32 => ?_)
                  have ex32 : x32.toInt = g20 20 v19.toInt.toNat ∧ 0 ≤ x32.toInt ∧ x32.toInt ≤ 1 := ex32
                  refine hq_if_eq (tgt := 148) hx hb dX7_tell_141 (by decide) (fun c33 => ?_) (fun c33 => ?_)
                  · refine hq_iconst hx hb dX7_tell_148 (by decide) (by decide) (fun z34 ez34 => ?_)
                    refine he_iastx (kd := 24) (n := 4) hx hb hK hJ kb30 rfl (by omega) (by omega) (by decide) hW rfl (sp := (0, 0)) rfl rfl rfl dX7_tell_149 (fun g35 H locs eg35 ng35 hJ => ?_)
                    have eg35 : g35 24 v19.toInt.toNat = z34.toInt := eg35
                    have P36 : hg_Q (fun a b => (a = 11 ∧ b = 1) ∨ a = 24) g g35 := hg_Q.put iv23 ng35 (show (24 = 11 ∧ v19.toInt.toNat = 1) ∨ 24 = 24 from by omega)
                    have qt37 : g35 11 1 = g20 11 1 := ng35 11 1 (by omega)
                    refine hq_iinc (k := 2) (lv' := fun (z9 : Int32) => [(3, .int z9), (0, .ref h0), (1, .int what)]) hx hb dX7_tell_150 hl rfl (by decide) (by decide) (by omega) (by omega) (by decide) (fun _ => rfl) (fun x38 ls ex38 hl => ?_)
                    have hl : lv_has ls 4 [(3, .int x38), (0, .ref h0), (1, .int what)] := hl
                    refine lv_goto (tgt := 125) hx hb dX7_tell_153 (by decide) ?_
                    exact ihlp21 x38 g35 _ _ ls P36 (by omega) (by omega) (by omega) (by omega) hJ (lv_sub hl [1, 2, 0] rfl)
                  · refine hq_iconst hx hb dX7_tell_144 (by decide) (by decide) (fun z39 ez39 => ?_)
                    refine lv_goto (tgt := 149) hx hb dX7_tell_145 (by decide) ?_
                    refine he_iastx (kd := 24) (n := 4) hx hb hK hJ kb30 rfl (by omega) (by omega) (by decide) hW rfl (sp := (0, 0)) rfl rfl rfl dX7_tell_149 (fun g40 H locs eg40 ng40 hJ => ?_)
                    have eg40 : g40 24 v19.toInt.toNat = z39.toInt := eg40
                    have P41 : hg_Q (fun a b => (a = 11 ∧ b = 1) ∨ a = 24) g g40 := hg_Q.put iv23 ng40 (show (24 = 11 ∧ v19.toInt.toNat = 1) ∨ 24 = 24 from by omega)
                    have qt42 : g40 11 1 = g20 11 1 := ng40 11 1 (by omega)
                    refine hq_iinc (k := 2) (lv' := fun (z9 : Int32) => [(3, .int z9), (0, .ref h0), (1, .int what)]) hx hb dX7_tell_150 hl rfl (by decide) (by decide) (by omega) (by omega) (by decide) (fun _ => rfl) (fun x43 ls ex43 hl => ?_)
                    have hl : lv_has ls 4 [(3, .int x43), (0, .ref h0), (1, .int what)] := hl
                    refine lv_goto (tgt := 125) hx hb dX7_tell_153 (by decide) ?_
                    exact ihlp21 x43 g40 _ _ ls P41 (by omega) (by omega) (by omega) (by omega) hJ (lv_sub hl [1, 2, 0] rfl)
            exact lp21 ((5 - z18.toInt).toNat + 1) z18 g16 _ _ ls P17 (by omega) (by omega) (by omega) (by omega) hJ (lv_sub hl [1, 2, 0] rfl)
          · refine hq_iconst hx hb dX7_tell_109 (by decide) (by decide) (fun z44 ez44 => ?_)
            refine lv_goto (tgt := 117) hx hb dX7_tell_110 (by decide) ?_
            refine he_iast (kd := 19) (n := 9) hx hb hK hJ kb11 rfl (by omega) (by omega) (by decide) hW (sp := (3, 60)) rfl rfl (show _ ∧ _ from by constructor <;> omega) dX7_tell_117 (fun H locs hJ => ?_)
            refine lv_aload_n hx hb dX7_tell_118 rfl (lv_at hl 0 rfl) ?_
            refine hq_iconst hx hb dX7_tell_119 (by decide) (by decide) (fun z45 ez45 => ?_)
            refine he_putx (C := RX7) (T := TX7) (N := 24) (ci := 7) (kd := 11) hx hb hts iX7_tell_X7 hown hK hJ k0 rfl rfl 1 (by decide) (hts (.fieldLink RX7 70 "NeighborBookModel" "typedSize" "I") (List.mem_of_getElem? (i := 1) rfl)) (fun _ h9 => h9) tyX7 tyX7_ok nmX7 (x := z45) rfl rfl (by decide) hW rfl rfl rfl rfl (show z45.toInt = z45.toInt ∧ 0 ≤ z45.toInt ∧ z45.toInt ≤ 700 from ⟨rfl, by omega, by omega⟩) dX7_tell_120 (fun g46 H locs eg46 ng46 hJ => ?_)
            have eg46 : g46 11 1 = z45.toInt := eg46
            have P47 : hg_Q (fun a b => (a = 11 ∧ b = 1) ∨ a = 24) g g46 := hg_Q.put hg_Q.rf ng46 (show (11 = 11 ∧ 1 = 1) ∨ 11 = 24 from by omega)
            refine hq_iconst hx hb dX7_tell_123 (by decide) (by decide) (fun z48 ez48 => ?_)
            refine lv_istore_n (lv' := [(3, .int z48), (0, .ref h0), (1, .int what)]) hx hb dX7_tell_124 rfl hl (by decide) rfl (fun ls hl => ?_)
            have lp51 : ∀ (nlp51 : Nat) (v49 : Int32) (g50 : Nat → Nat → Int) (H : Heap) (locs : List Loc) (ls : Array Slot), (hg_Q (fun a b => (a = 11 ∧ b = 1) ∨ a = 24) g g50) → (0 ≤ v49.toInt) → (v49.toInt ≤ 4) → (g50 11 1 = 0) → (5 - v49.toInt < (nlp51 : Int)) → he_J dC dI dA κ B g50 s.heap H locs → lv_has ls 4 [(0, .ref h0), (1, .int what), (3, .int v49)] → W p l e (headSpec wsX7_tell ({ frames := 1, cells := 0, slots := 0, locals := 20 } : Room)).room s m ([Value.ref h0, Value.int what] : List Value).toArray below meth c H locs 0 0 (MQ below (he_Qi dC dI dA κ B (fun r u => hg_Q (fun a b => (a = 11 ∧ b = 1) ∨ a = 24) g u ∧ (((((what.toInt = 1 ∨ what.toInt = 2) ∧ 2 ≤ g 11 1 ∧ g 11 1 ≤ 59) ∨ (4 ≤ what.toInt ∧ what.toInt ≤ 8 ∧ g 11 1 ≤ 60)) ∧ u 11 1 = 0) ∨ (¬ (((what.toInt = 1 ∨ what.toInt = 2) ∧ 2 ≤ g 11 1 ∧ g 11 1 ≤ 59) ∨ (4 ≤ what.toInt ∧ what.toInt ≤ 8 ∧ g 11 1 ≤ 60)) ∧ g = u)))) ([Value.ref h0, Value.int what] : List Value).toArray s 0 0 (hp_A B)) (F0 m 125 ls []) := by
              intro nlp51
              induction nlp51 with
              | zero => intro v49 g50 H locs ls iv53 iv54 iv55 iv56 hm52 hJ hl; exact absurd hm52 (by omega)
              | succ nlp51 ihlp51 =>
                intro v49 g50 H locs ls iv53 iv54 iv55 iv56 hm52 hJ hl
                refine lv_iload_n hx hb dX7_tell_125 rfl (lv_at hl 2 rfl) ?_
                refine hq_iconst hx hb dX7_tell_126 (by decide) (by decide) (fun z57 ez57 => ?_)
                refine hq_icmp_ge (tgt := 156) hx hb dX7_tell_127 (by decide) (fun c58 => ?_) (fun c58 => ?_)
                · refine hq_iconst hx hb dX7_tell_156 (by decide) (by decide) (fun z59 ez59 => ?_)
                  exact he_iret hx hb hK hN hW hlocks hJ hr (by first | exact ⟨iv53, Or.inr ⟨by omega, rfl⟩⟩ | exact ⟨iv53, Or.inl ⟨by omega, by omega⟩⟩) dX7_tell_157
                · refine lv_aload_n hx hb dX7_tell_130 rfl (lv_at hl 0 rfl) ?_
                  refine he_getr (C := RX7) (T := TX7) (N := 24) (ci := 7) (kd := 11) hx hb hts iX7_tell_X7 hown hK hJ k0 rfl rfl 11 (by decide) (hts (.fieldLink RX7 43 "NeighborBookModel" "waits" "[I") (List.mem_of_getElem? (i := 5) rfl)) (fun _ h9 => h9) rfl dX7_tell_131 (fun b60 kb60 => ?_)
                  refine lv_iload_n hx hb dX7_tell_134 rfl (lv_at hl 2 rfl) ?_
                  refine lv_aload_n hx hb dX7_tell_135 rfl (lv_at hl 0 rfl) ?_
                  refine he_getr (C := RX7) (T := TX7) (N := 24) (ci := 7) (kd := 11) hx hb hts iX7_tell_X7 hown hK hJ k0 rfl rfl 7 (by decide) (hts (.fieldLink RX7 30 "NeighborBookModel" "up" "[Z") (List.mem_of_getElem? (i := 6) rfl)) (fun _ h9 => h9) rfl dX7_tell_136 (fun b61 kb61 => ?_)
                  refine lv_iload_n hx hb dX7_tell_139 rfl (lv_at hl 2 rfl) ?_
                  refine he_zald (kd := 20) (n := 4) hx hb hK hJ kb61 rfl (by omega) (by omega) (sp := (9, 1)) rfl rfl dX7_tell_140 (fun x62 ex62 => ?_)
                  have ex62 : x62.toInt = g50 20 v49.toInt.toNat ∧ 0 ≤ x62.toInt ∧ x62.toInt ≤ 1 := ex62
                  refine hq_if_eq (tgt := 148) hx hb dX7_tell_141 (by decide) (fun c63 => ?_) (fun c63 => ?_)
                  · refine hq_iconst hx hb dX7_tell_148 (by decide) (by decide) (fun z64 ez64 => ?_)
                    refine he_iastx (kd := 24) (n := 4) hx hb hK hJ kb60 rfl (by omega) (by omega) (by decide) hW rfl (sp := (0, 0)) rfl rfl rfl dX7_tell_149 (fun g65 H locs eg65 ng65 hJ => ?_)
                    have eg65 : g65 24 v49.toInt.toNat = z64.toInt := eg65
                    have P66 : hg_Q (fun a b => (a = 11 ∧ b = 1) ∨ a = 24) g g65 := hg_Q.put iv53 ng65 (show (24 = 11 ∧ v49.toInt.toNat = 1) ∨ 24 = 24 from by omega)
                    have qt67 : g65 11 1 = g50 11 1 := ng65 11 1 (by omega)
                    refine hq_iinc (k := 2) (lv' := fun (z9 : Int32) => [(3, .int z9), (0, .ref h0), (1, .int what)]) hx hb dX7_tell_150 hl rfl (by decide) (by decide) (by omega) (by omega) (by decide) (fun _ => rfl) (fun x68 ls ex68 hl => ?_)
                    have hl : lv_has ls 4 [(3, .int x68), (0, .ref h0), (1, .int what)] := hl
                    refine lv_goto (tgt := 125) hx hb dX7_tell_153 (by decide) ?_
                    exact ihlp51 x68 g65 _ _ ls P66 (by omega) (by omega) (by omega) (by omega) hJ (lv_sub hl [1, 2, 0] rfl)
                  · refine hq_iconst hx hb dX7_tell_144 (by decide) (by decide) (fun z69 ez69 => ?_)
                    refine lv_goto (tgt := 149) hx hb dX7_tell_145 (by decide) ?_
                    refine he_iastx (kd := 24) (n := 4) hx hb hK hJ kb60 rfl (by omega) (by omega) (by decide) hW rfl (sp := (0, 0)) rfl rfl rfl dX7_tell_149 (fun g70 H locs eg70 ng70 hJ => ?_)
                    have eg70 : g70 24 v49.toInt.toNat = z69.toInt := eg70
                    have P71 : hg_Q (fun a b => (a = 11 ∧ b = 1) ∨ a = 24) g g70 := hg_Q.put iv53 ng70 (show (24 = 11 ∧ v49.toInt.toNat = 1) ∨ 24 = 24 from by omega)
                    have qt72 : g70 11 1 = g50 11 1 := ng70 11 1 (by omega)
                    refine hq_iinc (k := 2) (lv' := fun (z9 : Int32) => [(3, .int z9), (0, .ref h0), (1, .int what)]) hx hb dX7_tell_150 hl rfl (by decide) (by decide) (by omega) (by omega) (by decide) (fun _ => rfl) (fun x73 ls ex73 hl => ?_)
                    have hl : lv_has ls 4 [(3, .int x73), (0, .ref h0), (1, .int what)] := hl
                    refine lv_goto (tgt := 125) hx hb dX7_tell_153 (by decide) ?_
                    exact ihlp51 x73 g70 _ _ ls P71 (by omega) (by omega) (by omega) (by omega) hJ (lv_sub hl [1, 2, 0] rfl)
            exact lp51 ((5 - z48.toInt).toNat + 1) z48 g46 _ _ ls P47 (by omega) (by omega) (by omega) (by omega) hJ (lv_sub hl [1, 2, 0] rfl)
        · refine lv_aload_n hx hb dX7_tell_74 rfl (lv_at hl 0 rfl) ?_
          refine he_getr (C := RX7) (T := TX7) (N := 24) (ci := 7) (kd := 11) hx hb hts iX7_tell_X7 hown hK hJ k0 rfl rfl 2 (by decide) (hts (.fieldLink RX7 13 "NeighborBookModel" "own" "[B") (List.mem_of_getElem? (i := 2) rfl)) (fun _ h9 => h9) rfl dX7_tell_75 (fun b74 kb74 => ?_)
          refine hq_bipush hx hb dX7_tell_78 (by decide) (fun z75 ez75 => ?_)
          refine lv_iload_n hx hb dX7_tell_80 rfl (lv_at hl 1 rfl) ?_
          refine hq_imul (w := 60 * what.toInt) hx hb dX7_tell_81 (by rw [ez75]) (by omega) (by omega) (fun x76 ex76 => ?_)
          refine lv_iload_n hx hb dX7_tell_82 rfl (lv_at hl 2 rfl) ?_
          refine hq_iadd hx hb dX7_tell_83 (by omega) (by omega) (fun x77 ex77 => ?_)
          refine lv_aload_n hx hb dX7_tell_84 rfl (lv_at hl 0 rfl) ?_
          refine he_getr (C := RX7) (T := TX7) (N := 24) (ci := 7) (kd := 11) hx hb hts iX7_tell_X7 hown hK hJ k0 rfl rfl 0 (by decide) (hts (.fieldLink RX7 7 "NeighborBookModel" "typed" "[B") (List.mem_of_getElem? (i := 3) rfl)) (fun _ h9 => h9) rfl dX7_tell_85 (fun b78 kb78 => ?_)
          refine lv_iload_n hx hb dX7_tell_88 rfl (lv_at hl 2 rfl) ?_
          refine he_bald (kd := 38) (n := 700) hx hb hK hJ kb78 rfl (by omega) (by omega) (sp := (11, 0)) rfl rfl dX7_tell_89 (fun x79 ex79 => ?_)
          have ex79 : x79.toInt = g 38 v4.toInt.toNat ∧ -128 ≤ x79.toInt ∧ x79.toInt ≤ 127 := ex79
          refine he_bast (kd := 18) (n := 540) hx hb hK hJ kb74 rfl (by omega) (by omega) (by decide) hW rfl dX7_tell_90 (fun H locs hJ => ?_)
          refine hq_iinc (k := 2) (lv' := fun (z9 : Int32) => [(3, .int z9), (0, .ref h0), (1, .int what)]) hx hb dX7_tell_91 hl rfl (by decide) (by decide) (by omega) (by omega) (by decide) (fun _ => rfl) (fun x80 ls ex80 hl => ?_)
          have hl : lv_has ls 4 [(3, .int x80), (0, .ref h0), (1, .int what)] := hl
          refine lv_goto (tgt := 66) hx hb dX7_tell_94 (by decide) ?_
          exact ihlp5 x80 _ _ ls (by omega) (by omega) (by omega) hJ (lv_sub hl [1, 2, 0] rfl)
    exact lp5 ((61 - z3.toInt).toNat + 1) z3 _ _ ls (by omega) (by omega) (by omega) hJ (lv_sub hl [1, 2, 0] rfl)
  refine lv_iload_n hx hb dX7_tell_0 rfl (lv_at hl 1 rfl) ?_
  refine hq_iconst hx hb dX7_tell_1 (by decide) (by decide) (fun z81 ez81 => ?_)
  refine hq_icmp_eq (tgt := 10) hx hb dX7_tell_2 (by decide) (fun c82 => ?_) (fun c82 => ?_)
  · refine hq_iconst hx hb dX7_tell_10 (by decide) (by decide) (fun z83 ez83 => ?_)
    refine lv_goto (tgt := 15) hx hb dX7_tell_11 (by decide) ?_
    refine lv_istore_n (lv' := [(2, .int z83), (0, .ref h0), (1, .int what)]) hx hb dX7_tell_15 rfl hl (by decide) rfl (fun ls hl => ?_)
    refine lv_iload_n hx hb dX7_tell_16 rfl (lv_at hl 0 rfl) ?_
    refine hq_if_ne (tgt := 29) hx hb dX7_tell_17 (by decide) (fun c84 => ?_) (fun c84 => ?_)
    · refine lv_iload_n hx hb dX7_tell_29 rfl (lv_at hl 0 rfl) ?_
      refine hq_if_eq (tgt := 53) hx hb dX7_tell_30 (by decide) (fun c85 => ?_) (fun c85 => ?_)
      · exfalso; omega
      · refine lv_aload_n hx hb dX7_tell_33 rfl (lv_at hl 1 rfl) ?_
        refine he_geti (C := RX7) (T := TX7) (N := 24) (ci := 7) (kd := 11) hx hb hts iX7_tell_X7 hown hK hJ k0 rfl rfl 1 (by decide) (hts (.fieldLink RX7 70 "NeighborBookModel" "typedSize" "I") (List.mem_of_getElem? (i := 1) rfl)) (fun _ h9 => h9) rfl rfl dX7_tell_34 (fun x86 ex86 => ?_)
        have ex86 : x86.toInt = g 11 1 ∧ 0 ≤ x86.toInt ∧ x86.toInt ≤ 700 := ex86
        refine hq_iconst hx hb dX7_tell_37 (by decide) (by decide) (fun z87 ez87 => ?_)
        refine hq_icmp_lt (tgt := 62) hx hb dX7_tell_38 (by decide) (fun c88 => ?_) (fun c88 => ?_)
        · refine hq_iconst hx hb dX7_tell_62 (by decide) (by decide) (fun z89 ez89 => ?_)
          exact he_iret hx hb hK hN hW hlocks hJ hr (by first | exact ⟨hg_Q.rf, Or.inr ⟨by omega, rfl⟩⟩ | exact ⟨hg_Q.rf, Or.inl ⟨by omega, by omega⟩⟩) dX7_tell_63
        · refine lv_aload_n hx hb dX7_tell_41 rfl (lv_at hl 1 rfl) ?_
          refine he_geti (C := RX7) (T := TX7) (N := 24) (ci := 7) (kd := 11) hx hb hts iX7_tell_X7 hown hK hJ k0 rfl rfl 1 (by decide) (hts (.fieldLink RX7 70 "NeighborBookModel" "typedSize" "I") (List.mem_of_getElem? (i := 1) rfl)) (fun _ h9 => h9) rfl rfl dX7_tell_42 (fun x90 ex90 => ?_)
          have ex90 : x90.toInt = g 11 1 ∧ 0 ≤ x90.toInt ∧ x90.toInt ≤ 700 := ex90
          refine hq_bipush hx hb dX7_tell_45 (by decide) (fun z91 ez91 => ?_)
          refine hq_icmp_le (tgt := 64) hx hb dX7_tell_47 (by decide) (fun c92 => ?_) (fun c92 => ?_)
          · exact ct1  _ _ ls (by omega) hJ (lv_sub hl [1, 2] rfl)
          · refine lv_goto (tgt := 62) hx hb dX7_tell_50 (by decide) ?_
            refine hq_iconst hx hb dX7_tell_62 (by decide) (by decide) (fun z93 ez93 => ?_)
            exact he_iret hx hb hK hN hW hlocks hJ hr (by first | exact ⟨hg_Q.rf, Or.inr ⟨by omega, rfl⟩⟩ | exact ⟨hg_Q.rf, Or.inl ⟨by omega, by omega⟩⟩) dX7_tell_63
    · exfalso; omega
  · refine lv_iload_n hx hb dX7_tell_5 rfl (lv_at hl 1 rfl) ?_
    refine hq_iconst hx hb dX7_tell_6 (by decide) (by decide) (fun z94 ez94 => ?_)
    refine hq_icmp_ne (tgt := 14) hx hb dX7_tell_7 (by decide) (fun c95 => ?_) (fun c95 => ?_)
    · refine hq_iconst hx hb dX7_tell_14 (by decide) (by decide) (fun z96 ez96 => ?_)
      refine lv_istore_n (lv' := [(2, .int z96), (0, .ref h0), (1, .int what)]) hx hb dX7_tell_15 rfl hl (by decide) rfl (fun ls hl => ?_)
      refine lv_iload_n hx hb dX7_tell_16 rfl (lv_at hl 0 rfl) ?_
      refine hq_if_ne (tgt := 29) hx hb dX7_tell_17 (by decide) (fun c97 => ?_) (fun c97 => ?_)
      · exfalso; omega
      · refine lv_iload_n hx hb dX7_tell_20 rfl (lv_at hl 2 rfl) ?_
        refine he_calli (va_runS (As := [.int what]) (rest := []) ⟨hx, hb, hml, hown, hts⟩ (e_X7_isMore l dC dI dA κ B g what) (va_cwS 1 hts gX7_tell_X7_isMore rfl rfl rfl (by decide +kernel) ⟨Nat.le_of_ble_eq_true rfl, Nat.le_of_ble_eq_true rfl⟩) (he_preS [.int what] hK hN hW hJ) rfl rfl hl.1 rfl (lv_room (Nat.le_of_ble_eq_true rfl)) dX7_tell_21 ⟨Nat.zero_le _, Nat.zero_le _⟩) hJ (fun x99 g98 H locs hp hJ => ?_)
        obtain ⟨rfl, f100⟩ := hp
        refine hq_if_ne (tgt := 29) hx hb dX7_tell_24 (by decide) (fun c101 => ?_) (fun c101 => ?_)
        · refine lv_iload_n hx hb dX7_tell_29 rfl (lv_at hl 0 rfl) ?_
          refine hq_if_eq (tgt := 53) hx hb dX7_tell_30 (by decide) (fun c102 => ?_) (fun c102 => ?_)
          · refine lv_aload_n hx hb dX7_tell_53 rfl (lv_at hl 1 rfl) ?_
            refine he_geti (C := RX7) (T := TX7) (N := 24) (ci := 7) (kd := 11) hx hb hts iX7_tell_X7 hown hK hJ k0 rfl rfl 1 (by decide) (hts (.fieldLink RX7 70 "NeighborBookModel" "typedSize" "I") (List.mem_of_getElem? (i := 1) rfl)) (fun _ h9 => h9) rfl rfl dX7_tell_54 (fun x103 ex103 => ?_)
            have ex103 : x103.toInt = g 11 1 ∧ 0 ≤ x103.toInt ∧ x103.toInt ≤ 700 := ex103
            refine hq_bipush hx hb dX7_tell_57 (by decide) (fun z104 ez104 => ?_)
            refine hq_icmp_le (tgt := 64) hx hb dX7_tell_59 (by decide) (fun c105 => ?_) (fun c105 => ?_)
            · exact ct1  _ _ ls (by omega) hJ (lv_sub hl [1, 2] rfl)
            · refine hq_iconst hx hb dX7_tell_62 (by decide) (by decide) (fun z106 ez106 => ?_)
              exact he_iret hx hb hK hN hW hlocks hJ hr (by first | exact ⟨hg_Q.rf, Or.inr ⟨by omega, rfl⟩⟩ | exact ⟨hg_Q.rf, Or.inl ⟨by omega, by omega⟩⟩) dX7_tell_63
          · exfalso; omega
        · refine hq_iconst hx hb dX7_tell_27 (by decide) (by decide) (fun z107 ez107 => ?_)
          exact he_iret hx hb hK hN hW hlocks hJ hr (by first | exact ⟨hg_Q.rf, Or.inr ⟨by omega, rfl⟩⟩ | exact ⟨hg_Q.rf, Or.inl ⟨by omega, by omega⟩⟩) dX7_tell_28
    · refine hq_iconst hx hb dX7_tell_10 (by decide) (by decide) (fun z108 ez108 => ?_)
      refine lv_goto (tgt := 15) hx hb dX7_tell_11 (by decide) ?_
      refine lv_istore_n (lv' := [(2, .int z108), (0, .ref h0), (1, .int what)]) hx hb dX7_tell_15 rfl hl (by decide) rfl (fun ls hl => ?_)
      refine lv_iload_n hx hb dX7_tell_16 rfl (lv_at hl 0 rfl) ?_
      refine hq_if_ne (tgt := 29) hx hb dX7_tell_17 (by decide) (fun c109 => ?_) (fun c109 => ?_)
      · refine lv_iload_n hx hb dX7_tell_29 rfl (lv_at hl 0 rfl) ?_
        refine hq_if_eq (tgt := 53) hx hb dX7_tell_30 (by decide) (fun c110 => ?_) (fun c110 => ?_)
        · exfalso; omega
        · refine lv_aload_n hx hb dX7_tell_33 rfl (lv_at hl 1 rfl) ?_
          refine he_geti (C := RX7) (T := TX7) (N := 24) (ci := 7) (kd := 11) hx hb hts iX7_tell_X7 hown hK hJ k0 rfl rfl 1 (by decide) (hts (.fieldLink RX7 70 "NeighborBookModel" "typedSize" "I") (List.mem_of_getElem? (i := 1) rfl)) (fun _ h9 => h9) rfl rfl dX7_tell_34 (fun x111 ex111 => ?_)
          have ex111 : x111.toInt = g 11 1 ∧ 0 ≤ x111.toInt ∧ x111.toInt ≤ 700 := ex111
          refine hq_iconst hx hb dX7_tell_37 (by decide) (by decide) (fun z112 ez112 => ?_)
          refine hq_icmp_lt (tgt := 62) hx hb dX7_tell_38 (by decide) (fun c113 => ?_) (fun c113 => ?_)
          · refine hq_iconst hx hb dX7_tell_62 (by decide) (by decide) (fun z114 ez114 => ?_)
            exact he_iret hx hb hK hN hW hlocks hJ hr (by first | exact ⟨hg_Q.rf, Or.inr ⟨by omega, rfl⟩⟩ | exact ⟨hg_Q.rf, Or.inl ⟨by omega, by omega⟩⟩) dX7_tell_63
          · refine lv_aload_n hx hb dX7_tell_41 rfl (lv_at hl 1 rfl) ?_
            refine he_geti (C := RX7) (T := TX7) (N := 24) (ci := 7) (kd := 11) hx hb hts iX7_tell_X7 hown hK hJ k0 rfl rfl 1 (by decide) (hts (.fieldLink RX7 70 "NeighborBookModel" "typedSize" "I") (List.mem_of_getElem? (i := 1) rfl)) (fun _ h9 => h9) rfl rfl dX7_tell_42 (fun x115 ex115 => ?_)
            have ex115 : x115.toInt = g 11 1 ∧ 0 ≤ x115.toInt ∧ x115.toInt ≤ 700 := ex115
            refine hq_bipush hx hb dX7_tell_45 (by decide) (fun z116 ez116 => ?_)
            refine hq_icmp_le (tgt := 64) hx hb dX7_tell_47 (by decide) (fun c117 => ?_) (fun c117 => ?_)
            · exact ct1  _ _ ls (by omega) hJ (lv_sub hl [1, 2] rfl)
            · refine lv_goto (tgt := 62) hx hb dX7_tell_50 (by decide) ?_
              refine hq_iconst hx hb dX7_tell_62 (by decide) (by decide) (fun z118 ez118 => ?_)
              exact he_iret hx hb hK hN hW hlocks hJ hr (by first | exact ⟨hg_Q.rf, Or.inr ⟨by omega, rfl⟩⟩ | exact ⟨hg_Q.rf, Or.inl ⟨by omega, by omega⟩⟩) dX7_tell_63
      · exfalso; omega
