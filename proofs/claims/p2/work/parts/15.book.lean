theorem iX6_type_X6 : ∀ w ∈ wsX60, w ∈ wsX6_type := fun _ h => List.mem_cons_of_mem _ (List.mem_append_right _ h)
set_option maxRecDepth 100000 in
set_option maxHeartbeats 4000000 in
theorem c_X6_type (l : Launch) (dC : Nat → ClassId) (dI : Nat → Nat → Nat) (dA : Nat → ClassId) (κ : Nat → Nat) (B : Nat) (g : Nat → Nat → Int) (h0 : Nat) (k0 : κ h0 = 1) (w : Int64) (n : Int32) (hG : hg_k g) : Met l yX6_type wsX6_type ({ frames := 0, cells := 0, slots := 0, locals := 0 } : Room) (hp_Pre dC dI dA κ B g [Value.ref h0, Value.long w, Value.int n]) (hp_Qi dC dI dA κ B (fun r u => hg_P hx_d g u ∧ hg_k u ∧ (((1 ≤ n.toInt ∧ n.toInt ≤ 8 ∧ g 1 1 + n.toInt ≤ 700) ∧ u 1 1 = g 1 1 + n.toInt ∧ r.toInt = g 1 1 + n.toInt) ∨ (¬ (1 ≤ n.toInt ∧ n.toInt ≤ 8 ∧ g 1 1 + n.toInt ≤ 700) ∧ u 1 1 = g 1 1 ∧ r.toInt = -1)))) 0 0 (hp_A B) := by
  refine Met.ofW (cc := cX6_type) (maxL := 5) (ret := (some .int)) (by decide) rfl ?_
  intro p e s m args below meth c s₁ Bd hml hv
  obtain ⟨rfl, hK, hN, hW, hF⟩ := hv
  have hx := Bd.exec
  have hb := Bd.bytes
  have hr := Bd.returns
  have hts := atoms_spec (ws := wsX6_type) Bd.pre
  have hown : s.vm.findClass RX6 = some m.cls := findClass_of_methodNamed Bd.named
  have hlocks := Bd.notSynchronized
  have hJ : hp_J dC dI dA κ B g s.heap s.heap [] := ⟨hF, va_S.rf⟩
  have hl := lv_entry ([Value.ref h0, Value.long w, Value.int n]) (n := 5) (Nat.le_of_ble_eq_true rfl)
  rw [lg_entry_eq]
  generalize (lg_sl ([Value.ref h0, Value.long w, Value.int n]) ++ List.replicate (5 - (lg_sl ([Value.ref h0, Value.long w, Value.int n])).length) Slot.unset).toArray = ls at hl ⊢
  have hl : lv_has ls 5 [(0, .ref h0), (1, .long w), (3, .int n)] := hl
  obtain ⟨hG1, hG2, hG3, hG4, hG5, hG6, hG7, hG8⟩ := id hG
  refine lv_iload_n hx hb dX6_type_0 rfl (lv_at hl 2 rfl) ?_
  refine hq_iconst hx hb dX6_type_1 (by decide) (by decide) (fun z1 ez1 => ?_)
  refine hq_icmp_lt (tgt := 23) hx hb dX6_type_2 (by decide) (fun c2 => ?_) (fun c2 => ?_)
  · refine hq_iconst hx hb dX6_type_23 (by decide) (by decide) (fun z3 ez3 => ?_)
    exact hp_iret hx hb hK hN hW hlocks hJ hr ⟨hg_P.rf, hG, by omega⟩ dX6_type_24
  · refine lv_iload_n hx hb dX6_type_5 rfl (lv_at hl 2 rfl) ?_
    refine hq_bipush hx hb dX6_type_6 (by decide) (fun z4 ez4 => ?_)
    refine hq_icmp_gt (tgt := 23) hx hb dX6_type_8 (by decide) (fun c5 => ?_) (fun c5 => ?_)
    · refine hq_iconst hx hb dX6_type_23 (by decide) (by decide) (fun z6 ez6 => ?_)
      exact hp_iret hx hb hK hN hW hlocks hJ hr ⟨hg_P.rf, hG, by omega⟩ dX6_type_24
    · refine lv_aload_n hx hb dX6_type_11 rfl (lv_at hl 0 rfl) ?_
      refine hp_geti (C := RX6) (T := TX6) (N := 12) (ci := 6) (kd := 1) hx hb hts iX6_type_X6 hown hK hJ k0 rfl rfl 1 (by decide) (hts (.fieldLink RX6 65 "NeighborBook" "typedCount" "I") (List.mem_of_getElem? (i := 1) rfl)) (fun _ h9 => h9) rfl rfl dX6_type_12 (fun x7 ex7 => ?_)
      have ex7 : x7.toInt = g 1 1 := ex7
      refine lv_iload_n hx hb dX6_type_15 rfl (lv_at hl 2 rfl) ?_
      refine hq_iadd hx hb dX6_type_16 (by omega) (by omega) (fun x8 ex8 => ?_)
      refine hq_sipush hx hb dX6_type_17 (by decide) (fun z9 ez9 => ?_)
      refine hq_icmp_le (tgt := 25) hx hb dX6_type_20 (by decide) (fun c10 => ?_) (fun c10 => ?_)
      · refine lv_iload_n hx hb dX6_type_25 rfl (lv_at hl 2 rfl) ?_
        refine hq_iconst hx hb dX6_type_26 (by decide) (by decide) (fun z11 ez11 => ?_)
        refine hq_isub hx hb dX6_type_27 (by omega) (by omega) (fun x12 ex12 => ?_)
        refine lv_istore (lv' := [(4, .int x12), (0, .ref h0), (1, .long w), (3, .int n)]) hx hb dX6_type_28 hl (by decide) rfl (fun ls hl => ?_)
        have lp15 : ∀ (nlp15 : Nat) (v13 : Int32) (g14 : Nat → Nat → Int) (H : Heap) (locs : List Loc) (ls : Array Slot), (hg_P hx_d g g14) → (hg_k g14) → (-1 ≤ v13.toInt) → (v13.toInt ≤ 7) → (g14 1 1 + v13.toInt = g 1 1 + n.toInt - 1) → (v13.toInt + 2 < (nlp15 : Int)) → hp_J dC dI dA κ B g14 s.heap H locs → lv_has ls 5 [(0, .ref h0), (1, .long w), (3, .int n), (4, .int v13)] → W p l e (headSpec wsX6_type ({ frames := 0, cells := 0, slots := 0, locals := 0 } : Room)).room s m ([Value.ref h0, Value.long w, Value.int n] : List Value).toArray below meth c H locs 0 0 (MQ below (hp_Qi dC dI dA κ B (fun r u => hg_P hx_d g u ∧ hg_k u ∧ (((1 ≤ n.toInt ∧ n.toInt ≤ 8 ∧ g 1 1 + n.toInt ≤ 700) ∧ u 1 1 = g 1 1 + n.toInt ∧ r.toInt = g 1 1 + n.toInt) ∨ (¬ (1 ≤ n.toInt ∧ n.toInt ≤ 8 ∧ g 1 1 + n.toInt ≤ 700) ∧ u 1 1 = g 1 1 ∧ r.toInt = -1)))) ([Value.ref h0, Value.long w, Value.int n] : List Value).toArray s 0 0 (hp_A B)) (F0 m 30 ls []) := by
          intro nlp15
          induction nlp15 with
          | zero => intro v13 g14 H locs ls iv17 iv18 iv19 iv20 iv21 hm16 hJ hl; exact absurd hm16 (by omega)
          | succ nlp15 ihlp15 =>
            intro v13 g14 H locs ls iv17 iv18 iv19 iv20 iv21 hm16 hJ hl
            obtain ⟨hG1, hG2, hG3, hG4, hG5, hG6, hG7, hG8⟩ := id iv18
            refine lv_iload hx hb dX6_type_30 (lv_at hl 3 rfl) ?_
            refine hq_if_lt (tgt := 69) hx hb dX6_type_32 (by decide) (fun c22 => ?_) (fun c22 => ?_)
            · refine lv_aload_n hx hb dX6_type_69 rfl (lv_at hl 0 rfl) ?_
              refine hp_geti (C := RX6) (T := TX6) (N := 12) (ci := 6) (kd := 1) hx hb hts iX6_type_X6 hown hK hJ k0 rfl rfl 1 (by decide) (hts (.fieldLink RX6 65 "NeighborBook" "typedCount" "I") (List.mem_of_getElem? (i := 1) rfl)) (fun _ h9 => h9) rfl rfl dX6_type_70 (fun x23 ex23 => ?_)
              have ex23 : x23.toInt = g14 1 1 := ex23
              exact hp_iret hx hb hK hN hW hlocks hJ hr ⟨iv17, iv18, by omega⟩ dX6_type_73
            · refine lv_aload_n hx hb dX6_type_35 rfl (lv_at hl 0 rfl) ?_
              refine hp_getr (C := RX6) (T := TX6) (N := 12) (ci := 6) (kd := 1) hx hb hts iX6_type_X6 hown hK hJ k0 rfl rfl 0 (by decide) (hts (.fieldLink RX6 9 "NeighborBook" "typed" "[B") (List.mem_of_getElem? (i := 2) rfl)) (fun _ h9 => h9) rfl dX6_type_36 (fun b24 kb24 => ?_)
              refine lv_aload_n hx hb dX6_type_39 rfl (lv_at hl 0 rfl) ?_
              refine hp_geti (C := RX6) (T := TX6) (N := 12) (ci := 6) (kd := 1) hx hb hts iX6_type_X6 hown hK hJ k0 rfl rfl 1 (by decide) (hts (.fieldLink RX6 65 "NeighborBook" "typedCount" "I") (List.mem_of_getElem? (i := 1) rfl)) (fun _ h9 => h9) rfl rfl dX6_type_40 (fun x25 ex25 => ?_)
              have ex25 : x25.toInt = g14 1 1 := ex25
              refine lv_lload_n hx hb dX6_type_43 rfl (lv_at hl 1 rfl) ?_
              refine hq_bipush hx hb dX6_type_44 (by decide) (fun z26 ez26 => ?_)
              refine lv_iload hx hb dX6_type_46 (lv_at hl 3 rfl) ?_
              refine hq_imul (w := 8 * v13.toInt) hx hb dX6_type_48 (by rw [ez26]) (by omega) (by omega) (fun x27 ex27 => ?_)
              refine lv_lushr hx hb dX6_type_49 rfl ?_
              refine lv_topl (fun w28 _ => ?_)
              refine lv_l2i hx hb dX6_type_50 rfl ?_
              refine lv_topi (fun x29 _ => ?_)
              refine hq_i2b hx hb dX6_type_51 (fun x30 => ?_)
              refine hp_bast (kd := 12) (n := 700) hx hb hK hJ kb24 rfl (by omega) (by omega) (by decide) hW rfl dX6_type_52 (fun H locs hJ => ?_)
              refine lv_aload_n hx hb dX6_type_53 rfl (lv_at hl 0 rfl) ?_
              refine lv_dup hx hb dX6_type_54 rfl ?_
              refine hp_geti (C := RX6) (T := TX6) (N := 12) (ci := 6) (kd := 1) hx hb hts iX6_type_X6 hown hK hJ k0 rfl rfl 1 (by decide) (hts (.fieldLink RX6 65 "NeighborBook" "typedCount" "I") (List.mem_of_getElem? (i := 1) rfl)) (fun _ h9 => h9) rfl rfl dX6_type_55 (fun x31 ex31 => ?_)
              have ex31 : x31.toInt = g14 1 1 := ex31
              refine hq_iconst hx hb dX6_type_58 (by decide) (by decide) (fun z32 ez32 => ?_)
              refine hq_iadd hx hb dX6_type_59 (by omega) (by omega) (fun x33 ex33 => ?_)
              refine hp_putx (C := RX6) (T := TX6) (N := 12) (ci := 6) (kd := 1) hx hb hts iX6_type_X6 hown hK hJ k0 rfl rfl 1 (by decide) (hts (.fieldLink RX6 65 "NeighborBook" "typedCount" "I") (List.mem_of_getElem? (i := 1) rfl)) (fun _ h9 => h9) tyX6 tyX6_ok nmX6 (x := x33) rfl rfl (by decide) hW rfl rfl rfl dX6_type_60 (fun g34 H locs eg34 ng34 hJ => ?_)
              have eg34 : g34 1 1 = x33.toInt := eg34
              have P35 : hg_P hx_d g g34 := hg_P.put iv17 ng34 rfl
              have tt36 : g34 10 1 = g14 10 1 := ng34 10 1 (by decide)
              have tt37 : g34 4 1 = g14 4 1 := ng34 4 1 (by decide)
              refine hq_iinc (k := 3) (lv' := fun (z9 : Int32) => [(4, .int z9), (0, .ref h0), (1, .long w), (3, .int n)]) hx hb dX6_type_63 hl rfl (by decide) (by decide) (by omega) (by omega) (by decide) (fun _ => rfl) (fun x38 ls ex38 hl => ?_)
              have hl : lv_has ls 5 [(4, .int x38), (0, .ref h0), (1, .long w), (3, .int n)] := hl
              refine lv_goto (tgt := 30) hx hb dX6_type_66 (by decide) ?_
              exact ihlp15 x38 g34 _ _ ls P35 (hg_k.ofd hG P35 (by constructor <;> omega) (by constructor <;> omega) (by constructor <;> omega) ) (by omega) (by omega) (by omega) (by omega) hJ (lv_sub hl [1, 2, 3, 0] rfl)
        exact lp15 ((x12.toInt + 2).toNat + 1) x12 g _ _ ls hg_P.rf hG (by omega) (by omega) (by omega) (by omega) hJ (lv_sub hl [1, 2, 3, 0] rfl)
      · refine hq_iconst hx hb dX6_type_23 (by decide) (by decide) (fun z39 ez39 => ?_)
        exact hp_iret hx hb hK hN hW hlocks hJ hr ⟨hg_P.rf, hG, by omega⟩ dX6_type_24
theorem iX6_hurryAll_X6 : ∀ w ∈ wsX60, w ∈ wsX6_hurryAll := fun _ h => List.mem_cons_of_mem _ (List.mem_append_left _ (List.mem_append_right _ h))
theorem iX6_hurryAll_X4 : ∀ w ∈ wsX40, w ∈ wsX6_hurryAll := fun _ h => List.mem_cons_of_mem _ (List.mem_append_right _ h)
set_option maxRecDepth 100000 in
set_option maxHeartbeats 4000000 in
theorem c_X6_hurryAll (l : Launch) (dC : Nat → ClassId) (dI : Nat → Nat → Nat) (dA : Nat → ClassId) (κ : Nat → Nat) (B : Nat) (g : Nat → Nat → Int) (h0 : Nat) (k0 : κ h0 = 1) (hG : hg_k g) : Met l yX6_hurryAll wsX6_hurryAll ({ frames := 1, cells := 0, slots := 0, locals := 20 } : Room) (hp_Pre dC dI dA κ B g [Value.ref h0]) (hp_Qv dC dI dA κ B (fun u => hg_P hx_c g u ∧ hg_k u)) 0 0 (hp_A B) := by
  refine Met.ofW (cc := cX6_hurryAll) (maxL := 2) (ret := none) (by decide) rfl ?_
  intro p e s m args below meth c s₁ Bd hml hv
  obtain ⟨rfl, hK, hN, hW, hF⟩ := hv
  have hx := Bd.exec
  have hb := Bd.bytes
  have hr := Bd.returns
  have hts := atoms_spec (ws := wsX6_hurryAll) Bd.pre
  have hown : s.vm.findClass RX6 = some m.cls := findClass_of_methodNamed Bd.named
  have hlocks := Bd.notSynchronized
  have hJ : hp_J dC dI dA κ B g s.heap s.heap [] := ⟨hF, va_S.rf⟩
  have hl := lv_entry ([Value.ref h0]) (n := 2) (Nat.le_of_ble_eq_true rfl)
  rw [lg_entry_eq]
  generalize (lg_sl ([Value.ref h0]) ++ List.replicate (2 - (lg_sl ([Value.ref h0])).length) Slot.unset).toArray = ls at hl ⊢
  have hl : lv_has ls 2 [(0, .ref h0)] := hl
  obtain ⟨hG1, hG2, hG3, hG4, hG5, hG6, hG7, hG8⟩ := id hG
  refine hq_iconst hx hb dX6_hurryAll_0 (by decide) (by decide) (fun z1 ez1 => ?_)
  refine lv_istore_n (lv' := [(1, .int z1), (0, .ref h0)]) hx hb dX6_hurryAll_1 rfl hl (by decide) rfl (fun ls hl => ?_)
  have lp4 : ∀ (nlp4 : Nat) (v2 : Int32) (g3 : Nat → Nat → Int) (H : Heap) (locs : List Loc) (ls : Array Slot), (hg_P hx_c g g3) → (hg_k g3) → (0 ≤ v2.toInt) → (v2.toInt ≤ 4) → (5 - v2.toInt < (nlp4 : Int)) → hp_J dC dI dA κ B g3 s.heap H locs → lv_has ls 2 [(0, .ref h0), (1, .int v2)] → W p l e (headSpec wsX6_hurryAll ({ frames := 1, cells := 0, slots := 0, locals := 20 } : Room)).room s m ([Value.ref h0] : List Value).toArray below meth c H locs 0 0 (MQ below (hp_Qv dC dI dA κ B (fun u => hg_P hx_c g u ∧ hg_k u)) ([Value.ref h0] : List Value).toArray s 0 0 (hp_A B)) (F0 m 2 ls []) := by
    intro nlp4
    induction nlp4 with
    | zero => intro v2 g3 H locs ls iv6 iv7 iv8 iv9 hm5 hJ hl; exact absurd hm5 (by omega)
    | succ nlp4 ihlp4 =>
      intro v2 g3 H locs ls iv6 iv7 iv8 iv9 hm5 hJ hl
      obtain ⟨hG1, hG2, hG3, hG4, hG5, hG6, hG7, hG8⟩ := id iv7
      refine lv_iload_n hx hb dX6_hurryAll_2 rfl (lv_at hl 1 rfl) ?_
      refine hq_iconst hx hb dX6_hurryAll_3 (by decide) (by decide) (fun z10 ez10 => ?_)
      refine hq_icmp_ge (tgt := 22) hx hb dX6_hurryAll_4 (by decide) (fun c11 => ?_) (fun c11 => ?_)
      · exact hp_vret hx hb hK hN hW hlocks hJ hr ⟨iv6, iv7⟩ dX6_hurryAll_22
      · refine lv_aload_n hx hb dX6_hurryAll_7 rfl (lv_at hl 0 rfl) ?_
        refine hp_getr (C := RX6) (T := TX6) (N := 12) (ci := 6) (kd := 1) hx hb hts iX6_hurryAll_X6 hown hK hJ k0 rfl rfl 3 (by decide) (hts (.fieldLink RX6 22 "NeighborBook" "ports" "[LNeighborBook$Port;") (List.mem_of_getElem? (i := 1) rfl)) (fun _ h9 => h9) rfl dX6_hurryAll_8 (fun b12 kb12 => ?_)
        refine lv_iload_n hx hb dX6_hurryAll_11 rfl (lv_at hl 1 rfl) ?_
        refine hp_aald3 (kd := 15) (n := 4) hx hb hK hJ kb12 rfl (by omega) (by omega) (hk_s15 (by omega)) dX6_hurryAll_12 (fun b13 kb13 => ?_)
        refine hp_callv (va_runV (As := []) (rest := []) ⟨hx, hb, hml, hown, hts⟩ (c_X4_hurry l dC dI dA κ B g3 (v2.toInt.toNat) (by omega : v2.toInt.toNat < 4) b13 kb13 iv7) (cwV 0 hts gX6_hurryAll_X4_hurry rfl rfl rfl (by decide +kernel) ⟨Nat.le_of_ble_eq_true rfl, Nat.le_of_ble_eq_true rfl⟩) (hp_preV (q := (RX4, TX4, 6)) [] hK hN hW hJ kb13 (hk_t5 (by omega : v2.toInt.toNat < 4)) rfl) rfl rfl hl.1 rfl (lv_room (Nat.le_of_ble_eq_true rfl)) dX6_hurryAll_13 ⟨Nat.zero_le _, Nat.zero_le _⟩) hJ (fun g14 H locs hp hJ => ?_)
        obtain ⟨P16a, K17⟩ := hp
        obtain ⟨K171, K172, K173, K174, K175, K176, K177, K178⟩ := id K17
        have P16 : hg_P hx_c g g14 := hg_P.tr iv6 P16a
        have qt18 : g14 1 1 = g3 1 1 := P16a 1 1 rfl
        have qt19 : g14 11 1 = g3 11 1 := P16a 11 1 rfl
        have qt20 : g14 11 13 = g3 11 13 := P16a 11 13 rfl
        have qt21 : g14 11 22 = g3 11 22 := P16a 11 22 rfl
        refine hq_iinc (k := 1) (lv' := fun (z9 : Int32) => [(1, .int z9), (0, .ref h0)]) hx hb dX6_hurryAll_16 hl rfl (by decide) (by decide) (by omega) (by omega) (by decide) (fun _ => rfl) (fun x22 ls ex22 hl => ?_)
        have hl : lv_has ls 2 [(1, .int x22), (0, .ref h0)] := hl
        refine lv_goto (tgt := 2) hx hb dX6_hurryAll_19 (by decide) ?_
        exact ihlp4 x22 g14 _ _ ls P16 K17 (by omega) (by omega) (by omega) hJ (lv_sub hl [1, 0] rfl)
  exact lp4 ((5 - z1.toInt).toNat + 1) z1 g _ _ ls hg_P.rf hG (by omega) (by omega) (by omega) hJ (lv_sub hl [1, 0] rfl)
theorem iX6_tellNothing_X6 : ∀ w ∈ wsX60, w ∈ wsX6_tellNothing := fun _ h => List.mem_cons_of_mem _ (List.mem_append_left _ (List.mem_append_left _ (List.mem_append_right _ h)))
theorem iX6_tellNothing_X0 : ∀ w ∈ wsX00, w ∈ wsX6_tellNothing := fun _ h => List.mem_cons_of_mem _ (List.mem_append_left _ (List.mem_append_right _ h))
theorem iX6_tellNothing_X4 : ∀ w ∈ wsX40, w ∈ wsX6_tellNothing := fun _ h => List.mem_cons_of_mem _ (List.mem_append_right _ h)
set_option maxRecDepth 100000 in
set_option maxHeartbeats 4000000 in
theorem c_X6_tellNothing (l : Launch) (dC : Nat → ClassId) (dI : Nat → Nat → Nat) (dA : Nat → ClassId) (κ : Nat → Nat) (B : Nat) (g : Nat → Nat → Int) (h0 : Nat) (k0 : κ h0 = 1) (type : Int32) (hG : hg_k g) : Met l yX6_tellNothing wsX6_tellNothing ({ frames := 3, cells := 0, slots := 0, locals := 63 } : Room) (hp_Pre dC dI dA κ B g [Value.ref h0, Value.int type]) (hp_Qv dC dI dA κ B (fun u => hg_P hx_c g u ∧ hg_k u)) 0 0 (hp_A B) := by
  refine Met.ofW (cc := cX6_tellNothing) (maxL := 2) (ret := none) (by decide) rfl ?_
  intro p e s m args below meth c s₁ Bd hml hv
  obtain ⟨rfl, hK, hN, hW, hF⟩ := hv
  have hx := Bd.exec
  have hb := Bd.bytes
  have hr := Bd.returns
  have hts := atoms_spec (ws := wsX6_tellNothing) Bd.pre
  have hown : s.vm.findClass RX6 = some m.cls := findClass_of_methodNamed Bd.named
  have hlocks := Bd.notSynchronized
  have hJ : hp_J dC dI dA κ B g s.heap s.heap [] := ⟨hF, va_S.rf⟩
  have hl := lv_entry ([Value.ref h0, Value.int type]) (n := 2) (Nat.le_of_ble_eq_true rfl)
  rw [lg_entry_eq]
  generalize (lg_sl ([Value.ref h0, Value.int type]) ++ List.replicate (2 - (lg_sl ([Value.ref h0, Value.int type])).length) Slot.unset).toArray = ls at hl ⊢
  have hl : lv_has ls 2 [(0, .ref h0), (1, .int type)] := hl
  obtain ⟨hG1, hG2, hG3, hG4, hG5, hG6, hG7, hG8⟩ := id hG
  refine lv_aload_n hx hb dX6_tellNothing_0 rfl (lv_at hl 0 rfl) ?_
  refine hp_getr (C := RX6) (T := TX6) (N := 12) (ci := 6) (kd := 1) hx hb hts iX6_tellNothing_X6 hown hK hJ k0 rfl rfl 2 (by decide) (hts (.fieldLink RX6 16 "NeighborBook" "told" "LNeighborBook$Contents;") (List.mem_of_getElem? (i := 1) rfl)) (fun _ h9 => h9) rfl dX6_tellNothing_1 (fun b1 kb1 => ?_)
  refine lv_iload_n hx hb dX6_tellNothing_4 rfl (lv_at hl 1 rfl) ?_
  refine hp_calli (va_runV (As := [.int type]) (rest := []) ⟨hx, hb, hml, hown, hts⟩ (c_X0_has l dC dI dA κ B g b1 kb1 type) (cwV 1 hts gX6_tellNothing_X0_has rfl rfl rfl (by decide +kernel) ⟨Nat.le_of_ble_eq_true rfl, Nat.le_of_ble_eq_true rfl⟩) (hp_preV (q := (RX0, TX0, 2)) [.int type] hK hN hW hJ kb1 rfl rfl) rfl rfl hl.1 rfl (lv_room (Nat.le_of_ble_eq_true rfl)) dX6_tellNothing_5 ⟨Nat.zero_le _, Nat.zero_le _⟩) hJ (fun x3 g2 H locs hp hJ => ?_)
  obtain ⟨rfl, f4⟩ := hp
  refine hq_if_eq (tgt := 23) hx hb dX6_tellNothing_8 (by decide) (fun c5 => ?_) (fun c5 => ?_)
  · exact hp_vret hx hb hK hN hW hlocks hJ hr ⟨hg_P.rf, hG⟩ dX6_tellNothing_23
  · refine lv_aload_n hx hb dX6_tellNothing_11 rfl (lv_at hl 0 rfl) ?_
    refine hp_getr (C := RX6) (T := TX6) (N := 12) (ci := 6) (kd := 1) hx hb hts iX6_tellNothing_X6 hown hK hJ k0 rfl rfl 2 (by decide) (hts (.fieldLink RX6 16 "NeighborBook" "told" "LNeighborBook$Contents;") (List.mem_of_getElem? (i := 1) rfl)) (fun _ h9 => h9) rfl dX6_tellNothing_12 (fun b6 kb6 => ?_)
    refine lv_iload_n hx hb dX6_tellNothing_15 rfl (lv_at hl 1 rfl) ?_
    refine hp_callv (va_runV (As := [.int type]) (rest := []) ⟨hx, hb, hml, hown, hts⟩ (c_X0_drop l dC dI dA κ B g b6 kb6 type) (cwV 1 hts gX6_tellNothing_X0_drop rfl rfl rfl (by decide +kernel) ⟨Nat.le_of_ble_eq_true rfl, Nat.le_of_ble_eq_true rfl⟩) (hp_preV (q := (RX0, TX0, 2)) [.int type] hK hN hW hJ kb6 rfl rfl) rfl rfl hl.1 rfl (lv_room (Nat.le_of_ble_eq_true rfl)) dX6_tellNothing_16 ⟨Nat.zero_le _, Nat.zero_le _⟩) hJ (fun g7 H locs hp hJ => ?_)
    subst hp
    refine lv_aload_n hx hb dX6_tellNothing_19 rfl (lv_at hl 0 rfl) ?_
    refine hp_callv (va_runV (As := []) (rest := []) ⟨hx, hb, hml, hown, hts⟩ (c_X6_hurryAll l dC dI dA κ B g h0 k0 hG) (cwV 0 hts gX6_tellNothing_X6_hurryAll rfl rfl rfl (by decide +kernel) ⟨Nat.le_of_ble_eq_true rfl, Nat.le_of_ble_eq_true rfl⟩) (hp_preV (q := (RX6, TX6, 12)) [] hK hN hW hJ k0 rfl rfl) rfl rfl hl.1 rfl (lv_room (Nat.le_of_ble_eq_true rfl)) dX6_tellNothing_20 ⟨Nat.zero_le _, Nat.zero_le _⟩) hJ (fun g8 H locs hp hJ => ?_)
    obtain ⟨P10a, K11⟩ := hp
    obtain ⟨K111, K112, K113, K114, K115, K116, K117, K118⟩ := id K11
    have P10 : hg_P hx_c g g8 := P10a
    have qt12 : g8 1 1 = g 1 1 := P10a 1 1 rfl
    have qt13 : g8 11 1 = g 11 1 := P10a 11 1 rfl
    have qt14 : g8 11 13 = g 11 13 := P10a 11 13 rfl
    have qt15 : g8 11 22 = g 11 22 := P10a 11 22 rfl
    exact hp_vret hx hb hK hN hW hlocks hJ hr ⟨P10, K11⟩ dX6_tellNothing_23
theorem iX6_tellTyped_X6 : ∀ w ∈ wsX60, w ∈ wsX6_tellTyped := fun _ h => List.mem_cons_of_mem _ (List.mem_append_left _ (List.mem_append_left _ (List.mem_append_right _ h)))
theorem iX6_tellTyped_X0 : ∀ w ∈ wsX00, w ∈ wsX6_tellTyped := fun _ h => List.mem_cons_of_mem _ (List.mem_append_left _ (List.mem_append_right _ h))
theorem iX6_tellTyped_X4 : ∀ w ∈ wsX40, w ∈ wsX6_tellTyped := fun _ h => List.mem_cons_of_mem _ (List.mem_append_right _ h)
set_option maxRecDepth 100000 in
set_option maxHeartbeats 4000000 in
theorem c_X6_tellTyped (l : Launch) (dC : Nat → ClassId) (dI : Nat → Nat → Nat) (dA : Nat → ClassId) (κ : Nat → Nat) (B : Nat) (g : Nat → Nat → Int) (h0 : Nat) (k0 : κ h0 = 1) (type : Int32) (hG : hg_k g) (ht0 : 0 ≤ type.toInt) (ht8 : type.toInt ≤ 8) : Met l yX6_tellTyped wsX6_tellTyped ({ frames := 3, cells := 0, slots := 0, locals := 64 } : Room) (hp_Pre dC dI dA κ B g [Value.ref h0, Value.int type]) (hp_Qv dC dI dA κ B (fun u => hg_P hx_c g u ∧ hg_k u)) 0 0 (hp_A B) := by
  refine Met.ofW (cc := cX6_tellTyped) (maxL := 2) (ret := none) (by decide) rfl ?_
  intro p e s m args below meth c s₁ Bd hml hv
  obtain ⟨rfl, hK, hN, hW, hF⟩ := hv
  have hx := Bd.exec
  have hb := Bd.bytes
  have hr := Bd.returns
  have hts := atoms_spec (ws := wsX6_tellTyped) Bd.pre
  have hown : s.vm.findClass RX6 = some m.cls := findClass_of_methodNamed Bd.named
  have hlocks := Bd.notSynchronized
  have hJ : hp_J dC dI dA κ B g s.heap s.heap [] := ⟨hF, va_S.rf⟩
  have hl := lv_entry ([Value.ref h0, Value.int type]) (n := 2) (Nat.le_of_ble_eq_true rfl)
  rw [lg_entry_eq]
  generalize (lg_sl ([Value.ref h0, Value.int type]) ++ List.replicate (2 - (lg_sl ([Value.ref h0, Value.int type])).length) Slot.unset).toArray = ls at hl ⊢
  have hl : lv_has ls 2 [(0, .ref h0), (1, .int type)] := hl
  obtain ⟨hG1, hG2, hG3, hG4, hG5, hG6, hG7, hG8⟩ := id hG
  refine lv_aload_n hx hb dX6_tellTyped_0 rfl (lv_at hl 0 rfl) ?_
  refine hp_getr (C := RX6) (T := TX6) (N := 12) (ci := 6) (kd := 1) hx hb hts iX6_tellTyped_X6 hown hK hJ k0 rfl rfl 2 (by decide) (hts (.fieldLink RX6 16 "NeighborBook" "told" "LNeighborBook$Contents;") (List.mem_of_getElem? (i := 1) rfl)) (fun _ h9 => h9) rfl dX6_tellTyped_1 (fun b1 kb1 => ?_)
  refine lv_iload_n hx hb dX6_tellTyped_4 rfl (lv_at hl 1 rfl) ?_
  refine lv_aload_n hx hb dX6_tellTyped_5 rfl (lv_at hl 0 rfl) ?_
  refine hp_getr (C := RX6) (T := TX6) (N := 12) (ci := 6) (kd := 1) hx hb hts iX6_tellTyped_X6 hown hK hJ k0 rfl rfl 0 (by decide) (hts (.fieldLink RX6 9 "NeighborBook" "typed" "[B") (List.mem_of_getElem? (i := 2) rfl)) (fun _ h9 => h9) rfl dX6_tellTyped_6 (fun b2 kb2 => ?_)
  refine hq_iconst hx hb dX6_tellTyped_9 (by decide) (by decide) (fun z3 ez3 => ?_)
  refine lv_aload_n hx hb dX6_tellTyped_10 rfl (lv_at hl 0 rfl) ?_
  refine hp_geti (C := RX6) (T := TX6) (N := 12) (ci := 6) (kd := 1) hx hb hts iX6_tellTyped_X6 hown hK hJ k0 rfl rfl 1 (by decide) (hts (.fieldLink RX6 65 "NeighborBook" "typedCount" "I") (List.mem_of_getElem? (i := 3) rfl)) (fun _ h9 => h9) rfl rfl dX6_tellTyped_11 (fun x4 ex4 => ?_)
  have ex4 : x4.toInt = g 1 1 := ex4
  refine hp_calli (va_runV (As := [.int type, .ref b2, .int z3, .int x4]) (rest := []) ⟨hx, hb, hml, hown, hts⟩ (c_X0_isSame l dC dI dA κ B g b1 kb1 type b2 kb2 z3 x4 rfl (fun _ => rfl) (by decide) (by omega) (by omega)) (cwV 4 hts gX6_tellTyped_X0_isSame rfl rfl rfl (by decide +kernel) ⟨Nat.le_of_ble_eq_true rfl, Nat.le_of_ble_eq_true rfl⟩) (hp_preV (q := (RX0, TX0, 2)) [.int type, .ref b2, .int z3, .int x4] hK hN hW hJ kb1 rfl rfl) rfl rfl hl.1 rfl (lv_room (Nat.le_of_ble_eq_true rfl)) dX6_tellTyped_14 ⟨Nat.zero_le _, Nat.zero_le _⟩) hJ (fun x6 g5 H locs hp hJ => ?_)
  obtain ⟨rfl, f7⟩ := hp
  refine hq_if_ne (tgt := 41) hx hb dX6_tellTyped_17 (by decide) (fun c8 => ?_) (fun c8 => ?_)
  · exact hp_vret hx hb hK hN hW hlocks hJ hr ⟨hg_P.rf, hG⟩ dX6_tellTyped_41
  · refine lv_aload_n hx hb dX6_tellTyped_20 rfl (lv_at hl 0 rfl) ?_
    refine hp_getr (C := RX6) (T := TX6) (N := 12) (ci := 6) (kd := 1) hx hb hts iX6_tellTyped_X6 hown hK hJ k0 rfl rfl 2 (by decide) (hts (.fieldLink RX6 16 "NeighborBook" "told" "LNeighborBook$Contents;") (List.mem_of_getElem? (i := 1) rfl)) (fun _ h9 => h9) rfl dX6_tellTyped_21 (fun b9 kb9 => ?_)
    refine lv_iload_n hx hb dX6_tellTyped_24 rfl (lv_at hl 1 rfl) ?_
    refine lv_aload_n hx hb dX6_tellTyped_25 rfl (lv_at hl 0 rfl) ?_
    refine hp_getr (C := RX6) (T := TX6) (N := 12) (ci := 6) (kd := 1) hx hb hts iX6_tellTyped_X6 hown hK hJ k0 rfl rfl 0 (by decide) (hts (.fieldLink RX6 9 "NeighborBook" "typed" "[B") (List.mem_of_getElem? (i := 2) rfl)) (fun _ h9 => h9) rfl dX6_tellTyped_26 (fun b10 kb10 => ?_)
    refine hq_iconst hx hb dX6_tellTyped_29 (by decide) (by decide) (fun z11 ez11 => ?_)
    refine lv_aload_n hx hb dX6_tellTyped_30 rfl (lv_at hl 0 rfl) ?_
    refine hp_geti (C := RX6) (T := TX6) (N := 12) (ci := 6) (kd := 1) hx hb hts iX6_tellTyped_X6 hown hK hJ k0 rfl rfl 1 (by decide) (hts (.fieldLink RX6 65 "NeighborBook" "typedCount" "I") (List.mem_of_getElem? (i := 3) rfl)) (fun _ h9 => h9) rfl rfl dX6_tellTyped_31 (fun x12 ex12 => ?_)
    have ex12 : x12.toInt = g 1 1 := ex12
    refine hp_callv (va_runV (As := [.int type, .ref b10, .int z11, .int x12]) (rest := []) ⟨hx, hb, hml, hown, hts⟩ (c_X0_keep l dC dI dA κ B g b9 kb9 type b10 kb10 z11 x12) (cwV 4 hts gX6_tellTyped_X0_keep rfl rfl rfl (by decide +kernel) ⟨Nat.le_of_ble_eq_true rfl, Nat.le_of_ble_eq_true rfl⟩) (hp_preV (q := (RX0, TX0, 2)) [.int type, .ref b10, .int z11, .int x12] hK hN hW hJ kb9 rfl rfl) rfl rfl hl.1 rfl (lv_room (Nat.le_of_ble_eq_true rfl)) dX6_tellTyped_34 ⟨Nat.zero_le _, Nat.zero_le _⟩) hJ (fun g13 H locs hp hJ => ?_)
    subst hp
    refine lv_aload_n hx hb dX6_tellTyped_37 rfl (lv_at hl 0 rfl) ?_
    refine hp_callv (va_runV (As := []) (rest := []) ⟨hx, hb, hml, hown, hts⟩ (c_X6_hurryAll l dC dI dA κ B g h0 k0 hG) (cwV 0 hts gX6_tellTyped_X6_hurryAll rfl rfl rfl (by decide +kernel) ⟨Nat.le_of_ble_eq_true rfl, Nat.le_of_ble_eq_true rfl⟩) (hp_preV (q := (RX6, TX6, 12)) [] hK hN hW hJ k0 rfl rfl) rfl rfl hl.1 rfl (lv_room (Nat.le_of_ble_eq_true rfl)) dX6_tellTyped_38 ⟨Nat.zero_le _, Nat.zero_le _⟩) hJ (fun g14 H locs hp hJ => ?_)
    obtain ⟨P16a, K17⟩ := hp
    obtain ⟨K171, K172, K173, K174, K175, K176, K177, K178⟩ := id K17
    have P16 : hg_P hx_c g g14 := P16a
    have qt18 : g14 1 1 = g 1 1 := P16a 1 1 rfl
    have qt19 : g14 11 1 = g 11 1 := P16a 11 1 rfl
    have qt20 : g14 11 13 = g 11 13 := P16a 11 13 rfl
    have qt21 : g14 11 22 = g 11 22 := P16a 11 22 rfl
    exact hp_vret hx hb hK hN hW hlocks hJ hr ⟨P16, K17⟩ dX6_tellTyped_41
theorem iX6_tell_X6 : ∀ w ∈ wsX60, w ∈ wsX6_tell := fun _ h => List.mem_cons_of_mem _ (List.mem_append_left _ (List.mem_append_left _ (List.mem_append_right _ h)))
theorem iX6_tell_X0 : ∀ w ∈ wsX00, w ∈ wsX6_tell := fun _ h => List.mem_cons_of_mem _ (List.mem_append_left _ (List.mem_append_right _ h))
theorem iX6_tell_X4 : ∀ w ∈ wsX40, w ∈ wsX6_tell := fun _ h => List.mem_cons_of_mem _ (List.mem_append_right _ h)
set_option maxRecDepth 100000 in
set_option maxHeartbeats 4000000 in
theorem c_X6_tell (l : Launch) (dC : Nat → ClassId) (dI : Nat → Nat → Nat) (dA : Nat → ClassId) (κ : Nat → Nat) (B : Nat) (g : Nat → Nat → Int) (h0 : Nat) (k0 : κ h0 = 1) (what : Int32) (hG : hg_k g) : Met l yX6_tell wsX6_tell ({ frames := 4, cells := 0, slots := 0, locals := 85 } : Room) (hp_Pre dC dI dA κ B g [Value.ref h0, Value.int what]) (hp_Qi dC dI dA κ B (fun r u => hg_P hx_d g u ∧ hg_k u ∧ (((((what.toInt = 1 ∨ what.toInt = 2) ∧ 2 ≤ g 1 1 ∧ g 1 1 ≤ 59) ∨ (4 ≤ what.toInt ∧ what.toInt ≤ 8 ∧ g 1 1 ≤ 60)) ∧ u 1 1 = 0 ∧ r.toInt = 1) ∨ (¬ (((what.toInt = 1 ∨ what.toInt = 2) ∧ 2 ≤ g 1 1 ∧ g 1 1 ≤ 59) ∨ (4 ≤ what.toInt ∧ what.toInt ≤ 8 ∧ g 1 1 ≤ 60)) ∧ u 1 1 = g 1 1 ∧ r.toInt = 0)))) 0 0 (hp_A B) := by
  refine Met.ofW (cc := cX6_tell) (maxL := 2) (ret := (some .int)) (by decide) rfl ?_
  intro p e s m args below meth c s₁ Bd hml hv
  obtain ⟨rfl, hK, hN, hW, hF⟩ := hv
  have hx := Bd.exec
  have hb := Bd.bytes
  have hr := Bd.returns
  have hts := atoms_spec (ws := wsX6_tell) Bd.pre
  have hown : s.vm.findClass RX6 = some m.cls := findClass_of_methodNamed Bd.named
  have hlocks := Bd.notSynchronized
  have hJ : hp_J dC dI dA κ B g s.heap s.heap [] := ⟨hF, va_S.rf⟩
  have hl := lv_entry ([Value.ref h0, Value.int what]) (n := 2) (Nat.le_of_ble_eq_true rfl)
  rw [lg_entry_eq]
  generalize (lg_sl ([Value.ref h0, Value.int what]) ++ List.replicate (2 - (lg_sl ([Value.ref h0, Value.int what])).length) Slot.unset).toArray = ls at hl ⊢
  have hl : lv_has ls 2 [(0, .ref h0), (1, .int what)] := hl
  obtain ⟨hG1, hG2, hG3, hG4, hG5, hG6, hG7, hG8⟩ := id hG
  refine lv_iload_n hx hb dX6_tell_0 rfl (lv_at hl 1 rfl) ?_
  refine lv_aload_n hx hb dX6_tell_1 rfl (lv_at hl 0 rfl) ?_
  refine hp_geti (C := RX6) (T := TX6) (N := 12) (ci := 6) (kd := 1) hx hb hts iX6_tell_X6 hown hK hJ k0 rfl rfl 1 (by decide) (hts (.fieldLink RX6 65 "NeighborBook" "typedCount" "I") (List.mem_of_getElem? (i := 1) rfl)) (fun _ h9 => h9) rfl rfl dX6_tell_2 (fun x1 ex1 => ?_)
  have ex1 : x1.toInt = g 1 1 := ex1
  refine hp_calli (va_runS (As := [.int what, .int x1]) (rest := []) ⟨hx, hb, hml, hown, hts⟩ (c_X6_isTellable l dC dI dA κ B g what x1) (va_cwS 2 hts gX6_tell_X6_isTellable rfl rfl rfl (by decide +kernel) ⟨Nat.le_of_ble_eq_true rfl, Nat.le_of_ble_eq_true rfl⟩) (hp_preS [.int what, .int x1] hK hN hW hJ) rfl rfl hl.1 rfl (lv_room (Nat.le_of_ble_eq_true rfl)) dX6_tell_5 ⟨Nat.zero_le _, Nat.zero_le _⟩) hJ (fun x3 g2 H locs hp hJ => ?_)
  obtain ⟨rfl, f4⟩ := hp
  refine hq_if_ne (tgt := 13) hx hb dX6_tell_8 (by decide) (fun c5 => ?_) (fun c5 => ?_)
  · refine lv_aload_n hx hb dX6_tell_13 rfl (lv_at hl 0 rfl) ?_
    refine hp_geti (C := RX6) (T := TX6) (N := 12) (ci := 6) (kd := 1) hx hb hts iX6_tell_X6 hown hK hJ k0 rfl rfl 1 (by decide) (hts (.fieldLink RX6 65 "NeighborBook" "typedCount" "I") (List.mem_of_getElem? (i := 1) rfl)) (fun _ h9 => h9) rfl rfl dX6_tell_14 (fun x6 ex6 => ?_)
    have ex6 : x6.toInt = g 1 1 := ex6
    refine hq_if_ne (tgt := 28) hx hb dX6_tell_17 (by decide) (fun c7 => ?_) (fun c7 => ?_)
    · refine lv_aload_n hx hb dX6_tell_28 rfl (lv_at hl 0 rfl) ?_
      refine lv_iload_n hx hb dX6_tell_29 rfl (lv_at hl 1 rfl) ?_
      refine hp_callv (va_runV (As := [.int what]) (rest := []) ⟨hx, hb, hml, hown, hts⟩ (c_X6_tellTyped l dC dI dA κ B g h0 k0 what hG (by omega) (by omega)) (cwV 1 hts gX6_tell_X6_tellTyped rfl rfl rfl (by decide +kernel) ⟨Nat.le_of_ble_eq_true rfl, Nat.le_of_ble_eq_true rfl⟩) (hp_preV (q := (RX6, TX6, 12)) [.int what] hK hN hW hJ k0 rfl rfl) rfl rfl hl.1 rfl (lv_room (Nat.le_of_ble_eq_true rfl)) dX6_tell_30 ⟨Nat.zero_le _, Nat.zero_le _⟩) hJ (fun g8 H locs hp hJ => ?_)
      obtain ⟨P10a, K11⟩ := hp
      obtain ⟨K111, K112, K113, K114, K115, K116, K117, K118⟩ := id K11
      have P10 : hg_P hx_d g g8 := (P10a.le hx_cd)
      have qt12 : g8 1 1 = g 1 1 := P10a 1 1 rfl
      have qt13 : g8 11 1 = g 11 1 := P10a 11 1 rfl
      have qt14 : g8 11 13 = g 11 13 := P10a 11 13 rfl
      have qt15 : g8 11 22 = g 11 22 := P10a 11 22 rfl
      refine lv_aload_n hx hb dX6_tell_33 rfl (lv_at hl 0 rfl) ?_
      refine hq_iconst hx hb dX6_tell_34 (by decide) (by decide) (fun z16 ez16 => ?_)
      refine hp_putx (C := RX6) (T := TX6) (N := 12) (ci := 6) (kd := 1) hx hb hts iX6_tell_X6 hown hK hJ k0 rfl rfl 1 (by decide) (hts (.fieldLink RX6 65 "NeighborBook" "typedCount" "I") (List.mem_of_getElem? (i := 1) rfl)) (fun _ h9 => h9) tyX6 tyX6_ok nmX6 (x := z16) rfl rfl (by decide) hW rfl rfl rfl dX6_tell_35 (fun g17 H locs eg17 ng17 hJ => ?_)
      have eg17 : g17 1 1 = z16.toInt := eg17
      have P18 : hg_P hx_d g g17 := hg_P.put P10 ng17 rfl
      have tt19 : g17 10 1 = g8 10 1 := ng17 10 1 (by decide)
      have tt20 : g17 4 1 = g8 4 1 := ng17 4 1 (by decide)
      refine hq_iconst hx hb dX6_tell_38 (by decide) (by decide) (fun z21 ez21 => ?_)
      exact hp_iret hx hb hK hN hW hlocks hJ hr ⟨P18, (hg_k.ofd hG P18 (by constructor <;> omega) (by constructor <;> omega) (by constructor <;> omega) ), by omega⟩ dX6_tell_39
    · refine lv_aload_n hx hb dX6_tell_20 rfl (lv_at hl 0 rfl) ?_
      refine lv_iload_n hx hb dX6_tell_21 rfl (lv_at hl 1 rfl) ?_
      refine hp_callv (va_runV (As := [.int what]) (rest := []) ⟨hx, hb, hml, hown, hts⟩ (c_X6_tellNothing l dC dI dA κ B g h0 k0 what hG) (cwV 1 hts gX6_tell_X6_tellNothing rfl rfl rfl (by decide +kernel) ⟨Nat.le_of_ble_eq_true rfl, Nat.le_of_ble_eq_true rfl⟩) (hp_preV (q := (RX6, TX6, 12)) [.int what] hK hN hW hJ k0 rfl rfl) rfl rfl hl.1 rfl (lv_room (Nat.le_of_ble_eq_true rfl)) dX6_tell_22 ⟨Nat.zero_le _, Nat.zero_le _⟩) hJ (fun g22 H locs hp hJ => ?_)
      obtain ⟨P24a, K25⟩ := hp
      obtain ⟨K251, K252, K253, K254, K255, K256, K257, K258⟩ := id K25
      have P24 : hg_P hx_d g g22 := (P24a.le hx_cd)
      have qt26 : g22 1 1 = g 1 1 := P24a 1 1 rfl
      have qt27 : g22 11 1 = g 11 1 := P24a 11 1 rfl
      have qt28 : g22 11 13 = g 11 13 := P24a 11 13 rfl
      have qt29 : g22 11 22 = g 11 22 := P24a 11 22 rfl
      refine lv_goto (tgt := 33) hx hb dX6_tell_25 (by decide) ?_
      refine lv_aload_n hx hb dX6_tell_33 rfl (lv_at hl 0 rfl) ?_
      refine hq_iconst hx hb dX6_tell_34 (by decide) (by decide) (fun z30 ez30 => ?_)
      refine hp_putx (C := RX6) (T := TX6) (N := 12) (ci := 6) (kd := 1) hx hb hts iX6_tell_X6 hown hK hJ k0 rfl rfl 1 (by decide) (hts (.fieldLink RX6 65 "NeighborBook" "typedCount" "I") (List.mem_of_getElem? (i := 1) rfl)) (fun _ h9 => h9) tyX6 tyX6_ok nmX6 (x := z30) rfl rfl (by decide) hW rfl rfl rfl dX6_tell_35 (fun g31 H locs eg31 ng31 hJ => ?_)
      have eg31 : g31 1 1 = z30.toInt := eg31
      have P32 : hg_P hx_d g g31 := hg_P.put P24 ng31 rfl
      have tt33 : g31 10 1 = g22 10 1 := ng31 10 1 (by decide)
      have tt34 : g31 4 1 = g22 4 1 := ng31 4 1 (by decide)
      refine hq_iconst hx hb dX6_tell_38 (by decide) (by decide) (fun z35 ez35 => ?_)
      exact hp_iret hx hb hK hN hW hlocks hJ hr ⟨P32, (hg_k.ofd hG P32 (by constructor <;> omega) (by constructor <;> omega) (by constructor <;> omega) ), by omega⟩ dX6_tell_39
  · refine hq_iconst hx hb dX6_tell_11 (by decide) (by decide) (fun z36 ez36 => ?_)
    exact hp_iret hx hb hK hN hW hlocks hJ hr ⟨hg_P.rf, hG, by omega⟩ dX6_tell_12
theorem iX6_set_X6 : ∀ w ∈ wsX60, w ∈ wsX6_set := fun _ h => List.mem_cons_of_mem _ (List.mem_append_right _ h)
set_option maxRecDepth 100000 in
set_option maxHeartbeats 4000000 in
theorem c_X6_set (l : Launch) (dC : Nat → ClassId) (dI : Nat → Nat → Nat) (dA : Nat → ClassId) (κ : Nat → Nat) (B : Nat) (g : Nat → Nat → Int) (h0 : Nat) (k0 : κ h0 = 1) (what : Int32) (v : Int32) : Met l yX6_set wsX6_set ({ frames := 0, cells := 0, slots := 0, locals := 0 } : Room) (hp_Pre dC dI dA κ B g [Value.ref h0, Value.int what, Value.int v]) (hp_Qi dC dI dA κ B (fun r u => g = u ∧ ((((what.toInt = 0 ∧ 1 ≤ v.toInt ∧ v.toInt ≤ 3600) ∨ (what.toInt = 1 ∧ 2 ≤ v.toInt ∧ v.toInt ≤ 10) ∨ (what.toInt = 2 ∧ 1 ≤ v.toInt ∧ v.toInt ≤ 8)) ∧ r.toInt = 1) ∨ (¬ ((what.toInt = 0 ∧ 1 ≤ v.toInt ∧ v.toInt ≤ 3600) ∨ (what.toInt = 1 ∧ 2 ≤ v.toInt ∧ v.toInt ≤ 10) ∨ (what.toInt = 2 ∧ 1 ≤ v.toInt ∧ v.toInt ≤ 8)) ∧ r.toInt = 0)))) 0 0 (hp_A B) := by
  refine Met.ofW (cc := cX6_set) (maxL := 3) (ret := (some .int)) (by decide) rfl ?_
  intro p e s m args below meth c s₁ Bd hml hv
  obtain ⟨rfl, hK, hN, hW, hF⟩ := hv
  have hx := Bd.exec
  have hb := Bd.bytes
  have hr := Bd.returns
  have hts := atoms_spec (ws := wsX6_set) Bd.pre
  have hown : s.vm.findClass RX6 = some m.cls := findClass_of_methodNamed Bd.named
  have hlocks := Bd.notSynchronized
  have hJ : hp_J dC dI dA κ B g s.heap s.heap [] := ⟨hF, va_S.rf⟩
  have hl := lv_entry ([Value.ref h0, Value.int what, Value.int v]) (n := 3) (Nat.le_of_ble_eq_true rfl)
  rw [lg_entry_eq]
  generalize (lg_sl ([Value.ref h0, Value.int what, Value.int v]) ++ List.replicate (3 - (lg_sl ([Value.ref h0, Value.int what, Value.int v])).length) Slot.unset).toArray = ls at hl ⊢
  have hl : lv_has ls 3 [(0, .ref h0), (1, .int what), (2, .int v)] := hl
  refine lv_iload_n hx hb dX6_set_0 rfl (lv_at hl 1 rfl) ?_
  refine hq_if_ne (tgt := 23) hx hb dX6_set_1 (by decide) (fun c1 => ?_) (fun c1 => ?_)
  · refine lv_iload_n hx hb dX6_set_23 rfl (lv_at hl 1 rfl) ?_
    refine hq_iconst hx hb dX6_set_24 (by decide) (by decide) (fun z2 ez2 => ?_)
    refine hq_icmp_ne (tgt := 46) hx hb dX6_set_25 (by decide) (fun c3 => ?_) (fun c3 => ?_)
    · refine lv_iload_n hx hb dX6_set_46 rfl (lv_at hl 1 rfl) ?_
      refine hq_iconst hx hb dX6_set_47 (by decide) (by decide) (fun z4 ez4 => ?_)
      refine hq_icmp_ne (tgt := 69) hx hb dX6_set_48 (by decide) (fun c5 => ?_) (fun c5 => ?_)
      · refine hq_iconst hx hb dX6_set_69 (by decide) (by decide) (fun z6 ez6 => ?_)
        exact hp_iret hx hb hK hN hW hlocks hJ hr ⟨rfl, by omega⟩ dX6_set_70
      · refine lv_iload_n hx hb dX6_set_51 rfl (lv_at hl 2 rfl) ?_
        refine hq_iconst hx hb dX6_set_52 (by decide) (by decide) (fun z7 ez7 => ?_)
        refine hq_icmp_lt (tgt := 69) hx hb dX6_set_53 (by decide) (fun c8 => ?_) (fun c8 => ?_)
        · refine hq_iconst hx hb dX6_set_69 (by decide) (by decide) (fun z9 ez9 => ?_)
          exact hp_iret hx hb hK hN hW hlocks hJ hr ⟨rfl, by omega⟩ dX6_set_70
        · refine lv_iload_n hx hb dX6_set_56 rfl (lv_at hl 2 rfl) ?_
          refine hq_bipush hx hb dX6_set_57 (by decide) (fun z10 ez10 => ?_)
          refine hq_icmp_gt (tgt := 69) hx hb dX6_set_59 (by decide) (fun c11 => ?_) (fun c11 => ?_)
          · refine hq_iconst hx hb dX6_set_69 (by decide) (by decide) (fun z12 ez12 => ?_)
            exact hp_iret hx hb hK hN hW hlocks hJ hr ⟨rfl, by omega⟩ dX6_set_70
          · refine lv_aload_n hx hb dX6_set_62 rfl (lv_at hl 0 rfl) ?_
            refine lv_iload_n hx hb dX6_set_63 rfl (lv_at hl 2 rfl) ?_
            refine hp_put (C := RX6) (T := TX6) (N := 12) (ci := 6) (kd := 1) hx hb hts iX6_set_X6 hown hK hJ k0 rfl rfl 9 (by decide) (hts (.fieldLink RX6 54 "NeighborBook" "quick" "I") (List.mem_of_getElem? (i := 3) rfl)) (fun _ h9 => h9) tyX6 tyX6_ok nmX6 (v := .int v) rfl rfl (by decide) hW rfl (hs_i_ok rfl trivial) dX6_set_64 (fun H locs hJ => ?_)
            refine hq_iconst hx hb dX6_set_67 (by decide) (by decide) (fun z13 ez13 => ?_)
            exact hp_iret hx hb hK hN hW hlocks hJ hr ⟨rfl, by omega⟩ dX6_set_68
    · refine lv_iload_n hx hb dX6_set_28 rfl (lv_at hl 2 rfl) ?_
      refine hq_iconst hx hb dX6_set_29 (by decide) (by decide) (fun z14 ez14 => ?_)
      refine hq_icmp_lt (tgt := 46) hx hb dX6_set_30 (by decide) (fun c15 => ?_) (fun c15 => ?_)
      · refine lv_iload_n hx hb dX6_set_46 rfl (lv_at hl 1 rfl) ?_
        refine hq_iconst hx hb dX6_set_47 (by decide) (by decide) (fun z16 ez16 => ?_)
        refine hq_icmp_ne (tgt := 69) hx hb dX6_set_48 (by decide) (fun c17 => ?_) (fun c17 => ?_)
        · refine hq_iconst hx hb dX6_set_69 (by decide) (by decide) (fun z18 ez18 => ?_)
          exact hp_iret hx hb hK hN hW hlocks hJ hr ⟨rfl, by omega⟩ dX6_set_70
        · exfalso; omega
      · refine lv_iload_n hx hb dX6_set_33 rfl (lv_at hl 2 rfl) ?_
        refine hq_bipush hx hb dX6_set_34 (by decide) (fun z19 ez19 => ?_)
        refine hq_icmp_gt (tgt := 46) hx hb dX6_set_36 (by decide) (fun c20 => ?_) (fun c20 => ?_)
        · refine lv_iload_n hx hb dX6_set_46 rfl (lv_at hl 1 rfl) ?_
          refine hq_iconst hx hb dX6_set_47 (by decide) (by decide) (fun z21 ez21 => ?_)
          refine hq_icmp_ne (tgt := 69) hx hb dX6_set_48 (by decide) (fun c22 => ?_) (fun c22 => ?_)
          · refine hq_iconst hx hb dX6_set_69 (by decide) (by decide) (fun z23 ez23 => ?_)
            exact hp_iret hx hb hK hN hW hlocks hJ hr ⟨rfl, by omega⟩ dX6_set_70
          · exfalso; omega
        · refine lv_aload_n hx hb dX6_set_39 rfl (lv_at hl 0 rfl) ?_
          refine lv_iload_n hx hb dX6_set_40 rfl (lv_at hl 2 rfl) ?_
          refine hp_put (C := RX6) (T := TX6) (N := 12) (ci := 6) (kd := 1) hx hb hts iX6_set_X6 hown hK hJ k0 rfl rfl 8 (by decide) (hts (.fieldLink RX6 51 "NeighborBook" "hold" "I") (List.mem_of_getElem? (i := 2) rfl)) (fun _ h9 => h9) tyX6 tyX6_ok nmX6 (v := .int v) rfl rfl (by decide) hW rfl (hs_i_ok rfl trivial) dX6_set_41 (fun H locs hJ => ?_)
          refine hq_iconst hx hb dX6_set_44 (by decide) (by decide) (fun z24 ez24 => ?_)
          exact hp_iret hx hb hK hN hW hlocks hJ hr ⟨rfl, by omega⟩ dX6_set_45
  · refine lv_iload_n hx hb dX6_set_4 rfl (lv_at hl 2 rfl) ?_
    refine hq_iconst hx hb dX6_set_5 (by decide) (by decide) (fun z25 ez25 => ?_)
    refine hq_icmp_lt (tgt := 23) hx hb dX6_set_6 (by decide) (fun c26 => ?_) (fun c26 => ?_)
    · refine lv_iload_n hx hb dX6_set_23 rfl (lv_at hl 1 rfl) ?_
      refine hq_iconst hx hb dX6_set_24 (by decide) (by decide) (fun z27 ez27 => ?_)
      refine hq_icmp_ne (tgt := 46) hx hb dX6_set_25 (by decide) (fun c28 => ?_) (fun c28 => ?_)
      · refine lv_iload_n hx hb dX6_set_46 rfl (lv_at hl 1 rfl) ?_
        refine hq_iconst hx hb dX6_set_47 (by decide) (by decide) (fun z29 ez29 => ?_)
        refine hq_icmp_ne (tgt := 69) hx hb dX6_set_48 (by decide) (fun c30 => ?_) (fun c30 => ?_)
        · refine hq_iconst hx hb dX6_set_69 (by decide) (by decide) (fun z31 ez31 => ?_)
          exact hp_iret hx hb hK hN hW hlocks hJ hr ⟨rfl, by omega⟩ dX6_set_70
        · exfalso; omega
      · exfalso; omega
    · refine lv_iload_n hx hb dX6_set_9 rfl (lv_at hl 2 rfl) ?_
      refine hq_sipush hx hb dX6_set_10 (by decide) (fun z32 ez32 => ?_)
      refine hq_icmp_gt (tgt := 23) hx hb dX6_set_13 (by decide) (fun c33 => ?_) (fun c33 => ?_)
      · refine lv_iload_n hx hb dX6_set_23 rfl (lv_at hl 1 rfl) ?_
        refine hq_iconst hx hb dX6_set_24 (by decide) (by decide) (fun z34 ez34 => ?_)
        refine hq_icmp_ne (tgt := 46) hx hb dX6_set_25 (by decide) (fun c35 => ?_) (fun c35 => ?_)
        · refine lv_iload_n hx hb dX6_set_46 rfl (lv_at hl 1 rfl) ?_
          refine hq_iconst hx hb dX6_set_47 (by decide) (by decide) (fun z36 ez36 => ?_)
          refine hq_icmp_ne (tgt := 69) hx hb dX6_set_48 (by decide) (fun c37 => ?_) (fun c37 => ?_)
          · refine hq_iconst hx hb dX6_set_69 (by decide) (by decide) (fun z38 ez38 => ?_)
            exact hp_iret hx hb hK hN hW hlocks hJ hr ⟨rfl, by omega⟩ dX6_set_70
          · exfalso; omega
        · exfalso; omega
      · refine lv_aload_n hx hb dX6_set_16 rfl (lv_at hl 0 rfl) ?_
        refine lv_iload_n hx hb dX6_set_17 rfl (lv_at hl 2 rfl) ?_
        refine hp_put (C := RX6) (T := TX6) (N := 12) (ci := 6) (kd := 1) hx hb hts iX6_set_X6 hown hK hJ k0 rfl rfl 7 (by decide) (hts (.fieldLink RX6 47 "NeighborBook" "interval" "I") (List.mem_of_getElem? (i := 1) rfl)) (fun _ h9 => h9) tyX6 tyX6_ok nmX6 (v := .int v) rfl rfl (by decide) hW rfl (hs_i_ok rfl trivial) dX6_set_18 (fun H locs hJ => ?_)
        refine hq_iconst hx hb dX6_set_21 (by decide) (by decide) (fun z39 ez39 => ?_)
        exact hp_iret hx hb hK hN hW hlocks hJ hr ⟨rfl, by omega⟩ dX6_set_22
theorem iX6_learn_X6 : ∀ w ∈ wsX60, w ∈ wsX6_learn := fun _ h => List.mem_cons_of_mem _ (List.mem_append_left _ (List.mem_append_left _ (List.mem_append_left _ (List.mem_append_left _ (List.mem_append_left _ (List.mem_append_right _ h))))))
theorem iX6_learn_X1 : ∀ w ∈ wsX10, w ∈ wsX6_learn := fun _ h => List.mem_cons_of_mem _ (List.mem_append_left _ (List.mem_append_left _ (List.mem_append_left _ (List.mem_append_left _ (List.mem_append_right _ h)))))
theorem iX6_learn_X3 : ∀ w ∈ wsX30, w ∈ wsX6_learn := fun _ h => List.mem_cons_of_mem _ (List.mem_append_left _ (List.mem_append_left _ (List.mem_append_left _ (List.mem_append_right _ h))))
theorem iX6_learn_X2 : ∀ w ∈ wsX20, w ∈ wsX6_learn := fun _ h => List.mem_cons_of_mem _ (List.mem_append_left _ (List.mem_append_left _ (List.mem_append_right _ h)))
theorem iX6_learn_X0 : ∀ w ∈ wsX00, w ∈ wsX6_learn := fun _ h => List.mem_cons_of_mem _ (List.mem_append_left _ (List.mem_append_right _ h))
theorem iX6_learn_X4 : ∀ w ∈ wsX40, w ∈ wsX6_learn := fun _ h => List.mem_cons_of_mem _ (List.mem_append_right _ h)
set_option maxRecDepth 100000 in
set_option maxHeartbeats 4000000 in
theorem c_X6_learn (l : Launch) (dC : Nat → ClassId) (dI : Nat → Nat → Nat) (dA : Nat → ClassId) (κ : Nat → Nat) (B : Nat) (g : Nat → Nat → Int) (h0 : Nat) (k0 : κ h0 = 1) (p1 : Int32) (hG : hg_k g) (hp0 : 0 ≤ p1.toInt) (hp3 : p1.toInt < 4) : Met l yX6_learn wsX6_learn ({ frames := 4, cells := 0, slots := 0, locals := 91 } : Room) (hp_Pre dC dI dA κ B g [Value.ref h0, Value.int p1]) (hp_Qi dC dI dA κ B (fun r u => hg_P hx_c g u ∧ hg_k u)) 0 0 (hp_A B) := by
  refine Met.ofW (cc := cX6_learn) (maxL := 4) (ret := (some .int)) (by decide) rfl ?_
  intro p e s m args below meth c s₁ Bd hml hv
  obtain ⟨rfl, hK, hN, hW, hF⟩ := hv
  have hx := Bd.exec
  have hb := Bd.bytes
  have hr := Bd.returns
  have hts := atoms_spec (ws := wsX6_learn) Bd.pre
  have hown : s.vm.findClass RX6 = some m.cls := findClass_of_methodNamed Bd.named
  have hlocks := Bd.notSynchronized
  have hJ : hp_J dC dI dA κ B g s.heap s.heap [] := ⟨hF, va_S.rf⟩
  have hl := lv_entry ([Value.ref h0, Value.int p1]) (n := 4) (Nat.le_of_ble_eq_true rfl)
  rw [lg_entry_eq]
  generalize (lg_sl ([Value.ref h0, Value.int p1]) ++ List.replicate (4 - (lg_sl ([Value.ref h0, Value.int p1])).length) Slot.unset).toArray = ls at hl ⊢
  have hl : lv_has ls 4 [(0, .ref h0), (1, .int p1)] := hl
  obtain ⟨hG1, hG2, hG3, hG4, hG5, hG6, hG7, hG8⟩ := id hG
  refine lv_aload_n hx hb dX6_learn_0 rfl (lv_at hl 0 rfl) ?_
  refine hp_getr (C := RX6) (T := TX6) (N := 12) (ci := 6) (kd := 1) hx hb hts iX6_learn_X6 hown hK hJ k0 rfl rfl 4 (by decide) (hts (.fieldLink RX6 29 "NeighborBook" "known" "LNeighborBook$Neighbors;") (List.mem_of_getElem? (i := 1) rfl)) (fun _ h9 => h9) rfl dX6_learn_1 (fun b1 kb1 => ?_)
  refine lv_iload_n hx hb dX6_learn_4 rfl (lv_at hl 1 rfl) ?_
  refine lv_aload_n hx hb dX6_learn_5 rfl (lv_at hl 0 rfl) ?_
  refine hp_getr (C := RX6) (T := TX6) (N := 12) (ci := 6) (kd := 1) hx hb hts iX6_learn_X6 hown hK hJ k0 rfl rfl 5 (by decide) (hts (.fieldLink RX6 36 "NeighborBook" "reader" "LNeighborBook$FrameReader;") (List.mem_of_getElem? (i := 2) rfl)) (fun _ h9 => h9) rfl dX6_learn_6 (fun b2 kb2 => ?_)
  refine hp_callr (va_runV (As := []) (rest := [.int p1, .ref b1]) ⟨hx, hb, hml, hown, hts⟩ (c_X1_contents l dC dI dA κ B g b2 kb2) (cwV 0 hts gX6_learn_X1_contents rfl rfl rfl (by decide +kernel) ⟨Nat.le_of_ble_eq_true rfl, Nat.le_of_ble_eq_true rfl⟩) (hp_preV (q := (RX1, TX1, 2)) [] hK hN hW hJ kb2 rfl rfl) rfl rfl hl.1 rfl (lv_room (Nat.le_of_ble_eq_true rfl)) dX6_learn_9 ⟨Nat.zero_le _, Nat.zero_le _⟩) hJ (fun b4 g3 H locs kb4 hp hJ => ?_)
  subst hp
  refine hp_calli (va_runV (As := [.int p1, .ref b4]) (rest := []) ⟨hx, hb, hml, hown, hts⟩ (c_X3_find l dC dI dA κ B g b1 kb1 p1 b4 kb4 hG) (cwV 2 hts gX6_learn_X3_find rfl rfl rfl (by decide +kernel) ⟨Nat.le_of_ble_eq_true rfl, Nat.le_of_ble_eq_true rfl⟩) (hp_preV (q := (RX3, TX3, 2)) [.int p1, .ref b4] hK hN hW hJ kb1 rfl rfl) rfl rfl hl.1 rfl (lv_room (Nat.le_of_ble_eq_true rfl)) dX6_learn_12 ⟨Nat.zero_le _, Nat.zero_le _⟩) hJ (fun x6 g5 H locs hp hJ => ?_)
  obtain ⟨rfl, f7⟩ := hp
  refine lv_istore_n (lv' := [(2, .int x6), (0, .ref h0), (1, .int p1)]) hx hb dX6_learn_15 rfl hl (by decide) rfl (fun ls hl => ?_)
  refine lv_aload_n hx hb dX6_learn_16 rfl (lv_at hl 1 rfl) ?_
  refine hp_getr (C := RX6) (T := TX6) (N := 12) (ci := 6) (kd := 1) hx hb hts iX6_learn_X6 hown hK hJ k0 rfl rfl 5 (by decide) (hts (.fieldLink RX6 36 "NeighborBook" "reader" "LNeighborBook$FrameReader;") (List.mem_of_getElem? (i := 2) rfl)) (fun _ h9 => h9) rfl dX6_learn_17 (fun b8 kb8 => ?_)
  refine hp_calli (va_runV (As := []) (rest := []) ⟨hx, hb, hml, hown, hts⟩ (c_X1_held l dC dI dA κ B g b8 kb8) (cwV 0 hts gX6_learn_X1_held rfl rfl rfl (by decide +kernel) ⟨Nat.le_of_ble_eq_true rfl, Nat.le_of_ble_eq_true rfl⟩) (hp_preV (q := (RX1, TX1, 2)) [] hK hN hW hJ kb8 rfl rfl) rfl rfl hl.1 rfl (lv_room (Nat.le_of_ble_eq_true rfl)) dX6_learn_20 ⟨Nat.zero_le _, Nat.zero_le _⟩) hJ (fun x10 g9 H locs hp hJ => ?_)
  subst hp
  refine hq_if_ne (tgt := 36) hx hb dX6_learn_23 (by decide) (fun c11 => ?_) (fun c11 => ?_)
  · refine lv_iload_n hx hb dX6_learn_36 rfl (lv_at hl 0 rfl) ?_
    refine hq_iconst hx hb dX6_learn_37 (by decide) (by decide) (fun z12 ez12 => ?_)
    refine hq_icmp_ne (tgt := 70) hx hb dX6_learn_38 (by decide) (fun c13 => ?_) (fun c13 => ?_)
    · refine lv_aload_n hx hb dX6_learn_70 rfl (lv_at hl 1 rfl) ?_
      refine hp_getr (C := RX6) (T := TX6) (N := 12) (ci := 6) (kd := 1) hx hb hts iX6_learn_X6 hown hK hJ k0 rfl rfl 4 (by decide) (hts (.fieldLink RX6 29 "NeighborBook" "known" "LNeighborBook$Neighbors;") (List.mem_of_getElem? (i := 1) rfl)) (fun _ h9 => h9) rfl dX6_learn_71 (fun b14 kb14 => ?_)
      refine lv_iload_n hx hb dX6_learn_74 rfl (lv_at hl 0 rfl) ?_
      refine hp_callr (va_runV (As := [.int x6]) (rest := []) ⟨hx, hb, hml, hown, hts⟩ (c_X3_at l dC dI dA κ B g b14 kb14 x6 (by omega) (by omega)) (cwV 1 hts gX6_learn_X3_at rfl rfl rfl (by decide +kernel) ⟨Nat.le_of_ble_eq_true rfl, Nat.le_of_ble_eq_true rfl⟩) (hp_preV (q := (RX3, TX3, 2)) [.int x6] hK hN hW hJ kb14 rfl rfl) rfl rfl hl.1 rfl (lv_room (Nat.le_of_ble_eq_true rfl)) dX6_learn_75 ⟨Nat.zero_le _, Nat.zero_le _⟩) hJ (fun b16 g15 H locs kb16 hp hJ => ?_)
      subst hp
      refine lv_aload_n hx hb dX6_learn_78 rfl (lv_at hl 1 rfl) ?_
      refine hp_getr (C := RX6) (T := TX6) (N := 12) (ci := 6) (kd := 1) hx hb hts iX6_learn_X6 hown hK hJ k0 rfl rfl 5 (by decide) (hts (.fieldLink RX6 36 "NeighborBook" "reader" "LNeighborBook$FrameReader;") (List.mem_of_getElem? (i := 2) rfl)) (fun _ h9 => h9) rfl dX6_learn_79 (fun b17 kb17 => ?_)
      refine hp_callr (va_runV (As := []) (rest := [.ref b16]) ⟨hx, hb, hml, hown, hts⟩ (c_X1_contents l dC dI dA κ B g b17 kb17) (cwV 0 hts gX6_learn_X1_contents rfl rfl rfl (by decide +kernel) ⟨Nat.le_of_ble_eq_true rfl, Nat.le_of_ble_eq_true rfl⟩) (hp_preV (q := (RX1, TX1, 2)) [] hK hN hW hJ kb17 rfl rfl) rfl rfl hl.1 rfl (lv_room (Nat.le_of_ble_eq_true rfl)) dX6_learn_82 ⟨Nat.zero_le _, Nat.zero_le _⟩) hJ (fun b19 g18 H locs kb19 hp hJ => ?_)
      subst hp
      refine lv_aload_n hx hb dX6_learn_85 rfl (lv_at hl 1 rfl) ?_
      refine hp_getr (C := RX6) (T := TX6) (N := 12) (ci := 6) (kd := 1) hx hb hts iX6_learn_X6 hown hK hJ k0 rfl rfl 5 (by decide) (hts (.fieldLink RX6 36 "NeighborBook" "reader" "LNeighborBook$FrameReader;") (List.mem_of_getElem? (i := 2) rfl)) (fun _ h9 => h9) rfl dX6_learn_86 (fun b20 kb20 => ?_)
      refine hp_calli (va_runV (As := []) (rest := [.ref b19, .ref b16]) ⟨hx, hb, hml, hown, hts⟩ (c_X1_held l dC dI dA κ B g b20 kb20) (cwV 0 hts gX6_learn_X1_held rfl rfl rfl (by decide +kernel) ⟨Nat.le_of_ble_eq_true rfl, Nat.le_of_ble_eq_true rfl⟩) (hp_preV (q := (RX1, TX1, 2)) [] hK hN hW hJ kb20 rfl rfl) rfl rfl hl.1 rfl (lv_room (Nat.le_of_ble_eq_true rfl)) dX6_learn_89 ⟨Nat.zero_le _, Nat.zero_le _⟩) hJ (fun x22 g21 H locs hp hJ => ?_)
      subst hp
      refine hp_callr (va_runV (As := [.ref b19, .int x22]) (rest := []) ⟨hx, hb, hml, hown, hts⟩ (c_X2_renew l dC dI dA κ B g b16 kb16 b19 kb19 x22) (cwV 2 hts gX6_learn_X2_renew rfl rfl rfl (by decide +kernel) ⟨Nat.le_of_ble_eq_true rfl, Nat.le_of_ble_eq_true rfl⟩) (hp_preV (q := (RX2, TX2, 4)) [.ref b19, .int x22] hK hN hW hJ kb16 rfl rfl) rfl rfl hl.1 rfl (lv_room (Nat.le_of_ble_eq_true rfl)) dX6_learn_92 ⟨Nat.zero_le _, Nat.zero_le _⟩) hJ (fun b24 g23 H locs kb24 hp hJ => ?_)
      subst hp
      refine lv_astore_n (lv' := [(3, .ref b24), (2, .int x6), (0, .ref h0), (1, .int p1)]) hx hb dX6_learn_95 rfl hl (by decide) rfl (fun ls hl => ?_)
      refine lv_aload_n hx hb dX6_learn_96 rfl (lv_at hl 2 rfl) ?_
      refine hp_getr (C := RX6) (T := TX6) (N := 12) (ci := 6) (kd := 1) hx hb hts iX6_learn_X6 hown hK hJ k0 rfl rfl 5 (by decide) (hts (.fieldLink RX6 36 "NeighborBook" "reader" "LNeighborBook$FrameReader;") (List.mem_of_getElem? (i := 2) rfl)) (fun _ h9 => h9) rfl dX6_learn_97 (fun b25 kb25 => ?_)
      refine lv_aload_n hx hb dX6_learn_100 rfl (lv_at hl 0 rfl) ?_
      refine hp_callv (va_runV (As := [.ref b24]) (rest := []) ⟨hx, hb, hml, hown, hts⟩ (c_X1_useNext l dC dI dA κ B g b25 kb25 b24 kb24) (cwV 1 hts gX6_learn_X1_useNext rfl rfl rfl (by decide +kernel) ⟨Nat.le_of_ble_eq_true rfl, Nat.le_of_ble_eq_true rfl⟩) (hp_preV (q := (RX1, TX1, 2)) [.ref b24] hK hN hW hJ kb25 rfl rfl) rfl rfl hl.1 rfl (lv_room (Nat.le_of_ble_eq_true rfl)) dX6_learn_101 ⟨Nat.zero_le _, Nat.zero_le _⟩) hJ (fun g26 H locs hp hJ => ?_)
      subst hp
      refine hq_iconst hx hb dX6_learn_104 (by decide) (by decide) (fun z27 ez27 => ?_)
      exact hp_iret hx hb hK hN hW hlocks hJ hr ⟨hg_P.rf, hG⟩ dX6_learn_105
    · refine lv_aload_n hx hb dX6_learn_41 rfl (lv_at hl 1 rfl) ?_
      refine hp_getr (C := RX6) (T := TX6) (N := 12) (ci := 6) (kd := 1) hx hb hts iX6_learn_X6 hown hK hJ k0 rfl rfl 4 (by decide) (hts (.fieldLink RX6 29 "NeighborBook" "known" "LNeighborBook$Neighbors;") (List.mem_of_getElem? (i := 1) rfl)) (fun _ h9 => h9) rfl dX6_learn_42 (fun b28 kb28 => ?_)
      refine lv_iload_n hx hb dX6_learn_45 rfl (lv_at hl 2 rfl) ?_
      refine hp_calli (va_runV (As := [.int p1]) (rest := []) ⟨hx, hb, hml, hown, hts⟩ (c_X3_add l dC dI dA κ B g b28 kb28 p1 hG) (cwV 1 hts gX6_learn_X3_add rfl rfl rfl (by decide +kernel) ⟨Nat.le_of_ble_eq_true rfl, Nat.le_of_ble_eq_true rfl⟩) (hp_preV (q := (RX3, TX3, 2)) [.int p1] hK hN hW hJ kb28 rfl rfl) rfl rfl hl.1 rfl (lv_room (Nat.le_of_ble_eq_true rfl)) dX6_learn_46 ⟨Nat.zero_le _, Nat.zero_le _⟩) hJ (fun x30 g29 H locs hp hJ => ?_)
      obtain ⟨P32a, K33, f31⟩ := hp
      obtain ⟨K331, K332, K333, K334, K335, K336, K337, K338⟩ := id K33
      have P32 : hg_P hx_c g g29 := P32a
      have qt34 : g29 1 1 = g 1 1 := P32a 1 1 rfl
      have qt35 : g29 11 1 = g 11 1 := P32a 11 1 rfl
      have qt36 : g29 11 13 = g 11 13 := P32a 11 13 rfl
      have qt37 : g29 11 22 = g 11 22 := P32a 11 22 rfl
      refine lv_istore_n (lv' := [(2, .int x30), (0, .ref h0), (1, .int p1)]) hx hb dX6_learn_49 rfl hl (by decide) rfl (fun ls hl => ?_)
      refine lv_iload_n hx hb dX6_learn_50 rfl (lv_at hl 0 rfl) ?_
      refine hq_iconst hx hb dX6_learn_51 (by decide) (by decide) (fun z38 ez38 => ?_)
      refine hq_icmp_ne (tgt := 57) hx hb dX6_learn_52 (by decide) (fun c39 => ?_) (fun c39 => ?_)
      · refine lv_aload_n hx hb dX6_learn_57 rfl (lv_at hl 1 rfl) ?_
        refine hp_getr (C := RX6) (T := TX6) (N := 12) (ci := 6) (kd := 1) hx hb hts iX6_learn_X6 hown hK hJ k0 rfl rfl 3 (by decide) (hts (.fieldLink RX6 22 "NeighborBook" "ports" "[LNeighborBook$Port;") (List.mem_of_getElem? (i := 3) rfl)) (fun _ h9 => h9) rfl dX6_learn_58 (fun b40 kb40 => ?_)
        refine lv_iload_n hx hb dX6_learn_61 rfl (lv_at hl 2 rfl) ?_
        refine hp_aald3 (kd := 15) (n := 4) hx hb hK hJ kb40 rfl (by omega) (by omega) (hk_s15 (by omega)) dX6_learn_62 (fun b41 kb41 => ?_)
        refine lv_aload_n hx hb dX6_learn_63 rfl (lv_at hl 1 rfl) ?_
        refine hp_geti (C := RX6) (T := TX6) (N := 12) (ci := 6) (kd := 1) hx hb hts iX6_learn_X6 hown hK hJ k0 rfl rfl 9 (by decide) (hts (.fieldLink RX6 54 "NeighborBook" "quick" "I") (List.mem_of_getElem? (i := 4) rfl)) (fun _ h9 => h9) rfl rfl dX6_learn_64 (fun x42 ex42 => ?_)
        refine hp_callv (va_runV (As := [.int x42]) (rest := []) ⟨hx, hb, hml, hown, hts⟩ (c_X4_greet l dC dI dA κ B g29 (p1.toInt.toNat) (by omega : p1.toInt.toNat < 4) b41 kb41 x42 K33) (cwV 1 hts gX6_learn_X4_greet rfl rfl rfl (by decide +kernel) ⟨Nat.le_of_ble_eq_true rfl, Nat.le_of_ble_eq_true rfl⟩) (hp_preV (q := (RX4, TX4, 6)) [.int x42] hK hN hW hJ kb41 (hk_t5 (by omega : p1.toInt.toNat < 4)) rfl) rfl rfl hl.1 rfl (lv_room (Nat.le_of_ble_eq_true rfl)) dX6_learn_67 ⟨Nat.zero_le _, Nat.zero_le _⟩) hJ (fun g43 H locs hp hJ => ?_)
        obtain ⟨P45a, K46⟩ := hp
        obtain ⟨K461, K462, K463, K464, K465, K466, K467, K468⟩ := id K46
        have P45 : hg_P hx_c g g43 := hg_P.tr P32 P45a
        have qt47 : g43 1 1 = g29 1 1 := P45a 1 1 rfl
        have qt48 : g43 11 1 = g29 11 1 := P45a 11 1 rfl
        have qt49 : g43 11 13 = g29 11 13 := P45a 11 13 rfl
        have qt50 : g43 11 22 = g29 11 22 := P45a 11 22 rfl
        refine lv_aload_n hx hb dX6_learn_70 rfl (lv_at hl 1 rfl) ?_
        refine hp_getr (C := RX6) (T := TX6) (N := 12) (ci := 6) (kd := 1) hx hb hts iX6_learn_X6 hown hK hJ k0 rfl rfl 4 (by decide) (hts (.fieldLink RX6 29 "NeighborBook" "known" "LNeighborBook$Neighbors;") (List.mem_of_getElem? (i := 1) rfl)) (fun _ h9 => h9) rfl dX6_learn_71 (fun b51 kb51 => ?_)
        refine lv_iload_n hx hb dX6_learn_74 rfl (lv_at hl 0 rfl) ?_
        refine hp_callr (va_runV (As := [.int x30]) (rest := []) ⟨hx, hb, hml, hown, hts⟩ (c_X3_at l dC dI dA κ B g43 b51 kb51 x30 (by omega) (by omega)) (cwV 1 hts gX6_learn_X3_at rfl rfl rfl (by decide +kernel) ⟨Nat.le_of_ble_eq_true rfl, Nat.le_of_ble_eq_true rfl⟩) (hp_preV (q := (RX3, TX3, 2)) [.int x30] hK hN hW hJ kb51 rfl rfl) rfl rfl hl.1 rfl (lv_room (Nat.le_of_ble_eq_true rfl)) dX6_learn_75 ⟨Nat.zero_le _, Nat.zero_le _⟩) hJ (fun b53 g52 H locs kb53 hp hJ => ?_)
        subst hp
        refine lv_aload_n hx hb dX6_learn_78 rfl (lv_at hl 1 rfl) ?_
        refine hp_getr (C := RX6) (T := TX6) (N := 12) (ci := 6) (kd := 1) hx hb hts iX6_learn_X6 hown hK hJ k0 rfl rfl 5 (by decide) (hts (.fieldLink RX6 36 "NeighborBook" "reader" "LNeighborBook$FrameReader;") (List.mem_of_getElem? (i := 2) rfl)) (fun _ h9 => h9) rfl dX6_learn_79 (fun b54 kb54 => ?_)
        refine hp_callr (va_runV (As := []) (rest := [.ref b53]) ⟨hx, hb, hml, hown, hts⟩ (c_X1_contents l dC dI dA κ B g43 b54 kb54) (cwV 0 hts gX6_learn_X1_contents rfl rfl rfl (by decide +kernel) ⟨Nat.le_of_ble_eq_true rfl, Nat.le_of_ble_eq_true rfl⟩) (hp_preV (q := (RX1, TX1, 2)) [] hK hN hW hJ kb54 rfl rfl) rfl rfl hl.1 rfl (lv_room (Nat.le_of_ble_eq_true rfl)) dX6_learn_82 ⟨Nat.zero_le _, Nat.zero_le _⟩) hJ (fun b56 g55 H locs kb56 hp hJ => ?_)
        subst hp
        refine lv_aload_n hx hb dX6_learn_85 rfl (lv_at hl 1 rfl) ?_
        refine hp_getr (C := RX6) (T := TX6) (N := 12) (ci := 6) (kd := 1) hx hb hts iX6_learn_X6 hown hK hJ k0 rfl rfl 5 (by decide) (hts (.fieldLink RX6 36 "NeighborBook" "reader" "LNeighborBook$FrameReader;") (List.mem_of_getElem? (i := 2) rfl)) (fun _ h9 => h9) rfl dX6_learn_86 (fun b57 kb57 => ?_)
        refine hp_calli (va_runV (As := []) (rest := [.ref b56, .ref b53]) ⟨hx, hb, hml, hown, hts⟩ (c_X1_held l dC dI dA κ B g43 b57 kb57) (cwV 0 hts gX6_learn_X1_held rfl rfl rfl (by decide +kernel) ⟨Nat.le_of_ble_eq_true rfl, Nat.le_of_ble_eq_true rfl⟩) (hp_preV (q := (RX1, TX1, 2)) [] hK hN hW hJ kb57 rfl rfl) rfl rfl hl.1 rfl (lv_room (Nat.le_of_ble_eq_true rfl)) dX6_learn_89 ⟨Nat.zero_le _, Nat.zero_le _⟩) hJ (fun x59 g58 H locs hp hJ => ?_)
        subst hp
        refine hp_callr (va_runV (As := [.ref b56, .int x59]) (rest := []) ⟨hx, hb, hml, hown, hts⟩ (c_X2_renew l dC dI dA κ B g43 b53 kb53 b56 kb56 x59) (cwV 2 hts gX6_learn_X2_renew rfl rfl rfl (by decide +kernel) ⟨Nat.le_of_ble_eq_true rfl, Nat.le_of_ble_eq_true rfl⟩) (hp_preV (q := (RX2, TX2, 4)) [.ref b56, .int x59] hK hN hW hJ kb53 rfl rfl) rfl rfl hl.1 rfl (lv_room (Nat.le_of_ble_eq_true rfl)) dX6_learn_92 ⟨Nat.zero_le _, Nat.zero_le _⟩) hJ (fun b61 g60 H locs kb61 hp hJ => ?_)
        subst hp
        refine lv_astore_n (lv' := [(3, .ref b61), (2, .int x30), (0, .ref h0), (1, .int p1)]) hx hb dX6_learn_95 rfl hl (by decide) rfl (fun ls hl => ?_)
        refine lv_aload_n hx hb dX6_learn_96 rfl (lv_at hl 2 rfl) ?_
        refine hp_getr (C := RX6) (T := TX6) (N := 12) (ci := 6) (kd := 1) hx hb hts iX6_learn_X6 hown hK hJ k0 rfl rfl 5 (by decide) (hts (.fieldLink RX6 36 "NeighborBook" "reader" "LNeighborBook$FrameReader;") (List.mem_of_getElem? (i := 2) rfl)) (fun _ h9 => h9) rfl dX6_learn_97 (fun b62 kb62 => ?_)
        refine lv_aload_n hx hb dX6_learn_100 rfl (lv_at hl 0 rfl) ?_
        refine hp_callv (va_runV (As := [.ref b61]) (rest := []) ⟨hx, hb, hml, hown, hts⟩ (c_X1_useNext l dC dI dA κ B g43 b62 kb62 b61 kb61) (cwV 1 hts gX6_learn_X1_useNext rfl rfl rfl (by decide +kernel) ⟨Nat.le_of_ble_eq_true rfl, Nat.le_of_ble_eq_true rfl⟩) (hp_preV (q := (RX1, TX1, 2)) [.ref b61] hK hN hW hJ kb62 rfl rfl) rfl rfl hl.1 rfl (lv_room (Nat.le_of_ble_eq_true rfl)) dX6_learn_101 ⟨Nat.zero_le _, Nat.zero_le _⟩) hJ (fun g63 H locs hp hJ => ?_)
        subst hp
        refine hq_iconst hx hb dX6_learn_104 (by decide) (by decide) (fun z64 ez64 => ?_)
        exact hp_iret hx hb hK hN hW hlocks hJ hr ⟨P45, K46⟩ dX6_learn_105
      · refine hq_iconst hx hb dX6_learn_55 (by decide) (by decide) (fun z65 ez65 => ?_)
        exact hp_iret hx hb hK hN hW hlocks hJ hr ⟨P32, K33⟩ dX6_learn_56
  · refine lv_aload_n hx hb dX6_learn_26 rfl (lv_at hl 1 rfl) ?_
    refine hp_getr (C := RX6) (T := TX6) (N := 12) (ci := 6) (kd := 1) hx hb hts iX6_learn_X6 hown hK hJ k0 rfl rfl 4 (by decide) (hts (.fieldLink RX6 29 "NeighborBook" "known" "LNeighborBook$Neighbors;") (List.mem_of_getElem? (i := 1) rfl)) (fun _ h9 => h9) rfl dX6_learn_27 (fun b66 kb66 => ?_)
    refine lv_iload_n hx hb dX6_learn_30 rfl (lv_at hl 0 rfl) ?_
    refine hp_callv (va_runV (As := [.int x6]) (rest := []) ⟨hx, hb, hml, hown, hts⟩ (c_X3_forget l dC dI dA κ B g b66 kb66 x6 hG) (cwV 1 hts gX6_learn_X3_forget rfl rfl rfl (by decide +kernel) ⟨Nat.le_of_ble_eq_true rfl, Nat.le_of_ble_eq_true rfl⟩) (hp_preV (q := (RX3, TX3, 2)) [.int x6] hK hN hW hJ kb66 rfl rfl) rfl rfl hl.1 rfl (lv_room (Nat.le_of_ble_eq_true rfl)) dX6_learn_31 ⟨Nat.zero_le _, Nat.zero_le _⟩) hJ (fun g67 H locs hp hJ => ?_)
    obtain ⟨P69a, K70⟩ := hp
    obtain ⟨K701, K702, K703, K704, K705, K706, K707, K708⟩ := id K70
    have P69 : hg_P hx_c g g67 := P69a
    have qt71 : g67 1 1 = g 1 1 := P69a 1 1 rfl
    have qt72 : g67 11 1 = g 11 1 := P69a 11 1 rfl
    have qt73 : g67 11 13 = g 11 13 := P69a 11 13 rfl
    have qt74 : g67 11 22 = g 11 22 := P69a 11 22 rfl
    refine hq_iconst hx hb dX6_learn_34 (by decide) (by decide) (fun z75 ez75 => ?_)
    exact hp_iret hx hb hK hN hW hlocks hJ hr ⟨P69, K70⟩ dX6_learn_35
