theorem iX7_heard_X7 : ∀ w ∈ wsX70, w ∈ wsX7_heard := fun _ h => List.mem_cons_of_mem _ (List.mem_append_right _ h)
set_option maxRecDepth 100000 in
set_option maxHeartbeats 4000000 in
theorem c_X7_heard (l : Launch) (dC : Nat → ClassId) (dI : Nat → Nat → Nat) (dA : Nat → ClassId) (κ : Nat → Nat) (B : Nat) (g : Nat → Nat → Int) (h0 : Nat) (k0 : κ h0 = 11) (p1 : Int32) (hG : hg_k g) (hp0 : 0 ≤ p1.toInt) (hp3 : p1.toInt < 4) : Met l yX7_heard wsX7_heard ({ frames := 2, cells := 0, slots := 0, locals := 46 } : Room) (hp_Pre dC dI dA κ B g [Value.ref h0, Value.int p1]) (hp_Qi dC dI dA κ B (fun r u => hg_P hx_m g u ∧ hg_k u)) 0 0 (hp_A B) := by
  refine Met.ofW (cc := cX7_heard) (maxL := 5) (ret := (some .int)) (by decide) rfl ?_
  intro p e s m args below meth c s₁ Bd hml hv
  obtain ⟨rfl, hK, hN, hW, hF⟩ := hv
  have hx := Bd.exec
  have hb := Bd.bytes
  have hr := Bd.returns
  have hts := atoms_spec (ws := wsX7_heard) Bd.pre
  have hown : s.vm.findClass RX7 = some m.cls := findClass_of_methodNamed Bd.named
  have hlocks := Bd.notSynchronized
  have hJ : hp_J dC dI dA κ B g s.heap s.heap [] := ⟨hF, va_S.rf⟩
  have hl := lv_entry ([Value.ref h0, Value.int p1]) (n := 5) (Nat.le_of_ble_eq_true rfl)
  rw [lg_entry_eq]
  generalize (lg_sl ([Value.ref h0, Value.int p1]) ++ List.replicate (5 - (lg_sl ([Value.ref h0, Value.int p1])).length) Slot.unset).toArray = ls at hl ⊢
  have hl : lv_has ls 5 [(0, .ref h0), (1, .int p1)] := hl
  obtain ⟨hG1, hG2, hG3, hG4, hG5, hG6, hG7, hG8⟩ := id hG
  refine lv_aload_n hx hb dX7_heard_0 rfl (lv_at hl 0 rfl) ?_
  refine hp_calli (va_runV (As := []) (rest := []) ⟨hx, hb, hml, hown, hts⟩ (c_X7_parse l dC dI dA κ B g h0 k0 hG) (cwV 0 hts gX7_heard_X7_parse rfl rfl rfl (by decide +kernel) ⟨Nat.le_of_ble_eq_true rfl, Nat.le_of_ble_eq_true rfl⟩) (hp_preV (q := (RX7, TX7, 24)) [] hK hN hW hJ k0 rfl rfl) rfl rfl hl.1 rfl (lv_room (Nat.le_of_ble_eq_true rfl)) dX7_heard_1 ⟨Nat.zero_le _, Nat.zero_le _⟩) hJ (fun x2 g1 H locs hp hJ => ?_)
  subst hp
  refine lv_istore_n (lv' := [(2, .int x2), (0, .ref h0), (1, .int p1)]) hx hb dX7_heard_4 rfl hl (by decide) rfl (fun ls hl => ?_)
  refine lv_iload_n hx hb dX7_heard_5 rfl (lv_at hl 0 rfl) ?_
  refine hq_if_le (tgt := 11) hx hb dX7_heard_6 (by decide) (fun c3 => ?_) (fun c3 => ?_)
  · refine lv_aload_n hx hb dX7_heard_11 rfl (lv_at hl 1 rfl) ?_
    refine hp_getr (C := RX7) (T := TX7) (N := 24) (ci := 7) (kd := 11) hx hb hts iX7_heard_X7 hown hK hJ k0 rfl rfl 14 (by decide) (hts (.fieldLink RX7 49 "NeighborBookModel" "ports" "[I") (List.mem_of_getElem? (i := 1) rfl)) (fun _ h9 => h9) rfl dX7_heard_12 (fun b4 kb4 => ?_)
    refine hq_bipush hx hb dX7_heard_15 (by decide) (fun z5 ez5 => ?_)
    refine lv_iload_n hx hb dX7_heard_17 rfl (lv_at hl 2 rfl) ?_
    refine hp_iast (kd := 26) (n := 13) hx hb hK hJ kb4 rfl (by omega) (by omega) (by decide) hW (sp := (2, 3)) rfl rfl (show _ ∧ _ from by constructor <;> omega) dX7_heard_18 (fun H locs hJ => ?_)
    refine hq_iconst hx hb dX7_heard_19 (by decide) (by decide) (fun z6 ez6 => ?_)
    refine lv_istore_n (lv' := [(3, .int z6), (2, .int x2), (0, .ref h0), (1, .int p1)]) hx hb dX7_heard_20 rfl hl (by decide) rfl (fun ls hl => ?_)
    refine hq_iconst hx hb dX7_heard_21 (by decide) (by decide) (fun z7 ez7 => ?_)
    refine lv_istore (lv' := [(4, .int z7), (3, .int z6), (2, .int x2), (0, .ref h0), (1, .int p1)]) hx hb dX7_heard_22 hl (by decide) rfl (fun ls hl => ?_)
    have lp10 : ∀ (nlp10 : Nat) (v8 : Int32) (v9 : Int32) (H : Heap) (locs : List Loc) (ls : Array Slot), (-1 ≤ v8.toInt) → (v8.toInt < g 11 13) → (0 ≤ v9.toInt) → (v9.toInt ≤ 12) → (13 - v9.toInt < (nlp10 : Int)) → hp_J dC dI dA κ B g s.heap H locs → lv_has ls 5 [(0, .ref h0), (1, .int p1), (3, .int v8), (4, .int v9)] → W p l e (headSpec wsX7_heard ({ frames := 2, cells := 0, slots := 0, locals := 46 } : Room)).room s m ([Value.ref h0, Value.int p1] : List Value).toArray below meth c H locs 0 0 (MQ below (hp_Qi dC dI dA κ B (fun r u => hg_P hx_m g u ∧ hg_k u)) ([Value.ref h0, Value.int p1] : List Value).toArray s 0 0 (hp_A B)) (F0 m 24 ls []) := by
      intro nlp10
      induction nlp10 with
      | zero => intro v8 v9 H locs ls iv12 iv13 iv14 iv15 hm11 hJ hl; exact absurd hm11 (by omega)
      | succ nlp10 ihlp10 =>
        intro v8 v9 H locs ls iv12 iv13 iv14 iv15 hm11 hJ hl
        refine lv_iload hx hb dX7_heard_24 (lv_at hl 3 rfl) ?_
        refine lv_aload_n hx hb dX7_heard_26 rfl (lv_at hl 0 rfl) ?_
        refine hp_geti (C := RX7) (T := TX7) (N := 24) (ci := 7) (kd := 11) hx hb hts iX7_heard_X7 hown hK hJ k0 rfl rfl 13 (by decide) (hts (.fieldLink RX7 91 "NeighborBookModel" "known" "I") (List.mem_of_getElem? (i := 2) rfl)) (fun _ h9 => h9) rfl rfl dX7_heard_27 (fun x16 ex16 => ?_)
        have ex16 : x16.toInt = g 11 13 := ex16
        refine hq_icmp_ge (tgt := 53) hx hb dX7_heard_30 (by decide) (fun c17 => ?_) (fun c17 => ?_)
        · refine lv_aload_n hx hb dX7_heard_53 rfl (lv_at hl 0 rfl) ?_
          refine hp_getr (C := RX7) (T := TX7) (N := 24) (ci := 7) (kd := 11) hx hb hts iX7_heard_X7 hown hK hJ k0 rfl rfl 15 (by decide) (hts (.fieldLink RX7 52 "NeighborBookModel" "left" "[I") (List.mem_of_getElem? (i := 3) rfl)) (fun _ h9 => h9) rfl dX7_heard_54 (fun b18 kb18 => ?_)
          refine hq_bipush hx hb dX7_heard_57 (by decide) (fun z19 ez19 => ?_)
          refine hp_iald (kd := 27) (n := 13) hx hb hK hJ kb18 rfl (by omega) (by omega) (sp := (1, 0)) rfl rfl dX7_heard_59 (fun x20 ex20 => ?_)
          refine hq_if_ne (tgt := 75) hx hb dX7_heard_60 (by decide) (fun c21 => ?_) (fun c21 => ?_)
          · refine lv_iload_n hx hb dX7_heard_75 rfl (lv_at hl 2 rfl) ?_
            refine hq_iconst hx hb dX7_heard_76 (by decide) (by decide) (fun z22 ez22 => ?_)
            refine hq_icmp_ne (tgt := 161) hx hb dX7_heard_77 (by decide) (fun c23 => ?_) (fun c23 => ?_)
            · refine lv_aload_n hx hb dX7_heard_161 rfl (lv_at hl 0 rfl) ?_
              refine hp_getr (C := RX7) (T := TX7) (N := 24) (ci := 7) (kd := 11) hx hb hts iX7_heard_X7 hown hK hJ k0 rfl rfl 16 (by decide) (hts (.fieldLink RX7 55 "NeighborBookModel" "frames" "[I") (List.mem_of_getElem? (i := 4) rfl)) (fun _ h9 => h9) rfl dX7_heard_162 (fun b24 kb24 => ?_)
              refine hq_bipush hx hb dX7_heard_165 (by decide) (fun z25 ez25 => ?_)
              refine lv_aload_n hx hb dX7_heard_167 rfl (lv_at hl 0 rfl) ?_
              refine hp_getr (C := RX7) (T := TX7) (N := 24) (ci := 7) (kd := 11) hx hb hts iX7_heard_X7 hown hK hJ k0 rfl rfl 16 (by decide) (hts (.fieldLink RX7 55 "NeighborBookModel" "frames" "[I") (List.mem_of_getElem? (i := 4) rfl)) (fun _ h9 => h9) rfl dX7_heard_168 (fun b26 kb26 => ?_)
              refine lv_iload_n hx hb dX7_heard_171 rfl (lv_at hl 2 rfl) ?_
              refine hp_iald (kd := 27) (n := 13) hx hb hK hJ kb26 rfl (by omega) (by omega) (sp := (1, 0)) rfl rfl dX7_heard_172 (fun x27 ex27 => ?_)
              refine hq_iconst hx hb dX7_heard_173 (by decide) (by decide) (fun z28 ez28 => ?_)
              refine hq_iaddU hx hb dX7_heard_174 (fun x29 => ?_)
              refine hp_iast (kd := 27) (n := 13) hx hb hK hJ kb24 rfl (by omega) (by omega) (by decide) hW (sp := (1, 0)) rfl rfl trivial dX7_heard_175 (fun H locs hJ => ?_)
              refine lv_aload_n hx hb dX7_heard_176 rfl (lv_at hl 0 rfl) ?_
              refine hq_bipush hx hb dX7_heard_177 (by decide) (fun z30 ez30 => ?_)
              refine lv_iload_n hx hb dX7_heard_179 rfl (lv_at hl 2 rfl) ?_
              refine hp_callv (va_runV (As := [.int z30, .int v8]) (rest := []) ⟨hx, hb, hml, hown, hts⟩ (c_X7_move l dC dI dA κ B g h0 k0 z30 v8 (by omega) (by omega) (by omega) (by omega)) (cwV 2 hts gX7_heard_X7_move rfl rfl rfl (by decide +kernel) ⟨Nat.le_of_ble_eq_true rfl, Nat.le_of_ble_eq_true rfl⟩) (hp_preV (q := (RX7, TX7, 24)) [.int z30, .int v8] hK hN hW hJ k0 rfl rfl) rfl rfl hl.1 rfl (lv_room (Nat.le_of_ble_eq_true rfl)) dX7_heard_180 ⟨Nat.zero_le _, Nat.zero_le _⟩) hJ (fun g31 H locs hp hJ => ?_)
              subst hp
              refine hq_iconst hx hb dX7_heard_183 (by decide) (by decide) (fun z32 ez32 => ?_)
              exact hp_iret hx hb hK hN hW hlocks hJ hr ⟨hg_P.rf, hG⟩ dX7_heard_184
            · refine lv_aload_n hx hb dX7_heard_80 rfl (lv_at hl 0 rfl) ?_
              refine hp_geti (C := RX7) (T := TX7) (N := 24) (ci := 7) (kd := 11) hx hb hts iX7_heard_X7 hown hK hJ k0 rfl rfl 13 (by decide) (hts (.fieldLink RX7 91 "NeighborBookModel" "known" "I") (List.mem_of_getElem? (i := 2) rfl)) (fun _ h9 => h9) rfl rfl dX7_heard_81 (fun x33 ex33 => ?_)
              have ex33 : x33.toInt = g 11 13 := ex33
              refine hq_bipush hx hb dX7_heard_84 (by decide) (fun z34 ez34 => ?_)
              refine hq_icmp_ne (tgt := 91) hx hb dX7_heard_86 (by decide) (fun c35 => ?_) (fun c35 => ?_)
              · refine lv_aload_n hx hb dX7_heard_91 rfl (lv_at hl 0 rfl) ?_
                refine hp_getr (C := RX7) (T := TX7) (N := 24) (ci := 7) (kd := 11) hx hb hts iX7_heard_X7 hown hK hJ k0 rfl rfl 16 (by decide) (hts (.fieldLink RX7 55 "NeighborBookModel" "frames" "[I") (List.mem_of_getElem? (i := 4) rfl)) (fun _ h9 => h9) rfl dX7_heard_92 (fun b36 kb36 => ?_)
                refine hq_bipush hx hb dX7_heard_95 (by decide) (fun z37 ez37 => ?_)
                refine hq_iconst hx hb dX7_heard_97 (by decide) (by decide) (fun z38 ez38 => ?_)
                refine hp_iast (kd := 27) (n := 13) hx hb hK hJ kb36 rfl (by omega) (by omega) (by decide) hW (sp := (1, 0)) rfl rfl trivial dX7_heard_98 (fun H locs hJ => ?_)
                refine lv_aload_n hx hb dX7_heard_99 rfl (lv_at hl 0 rfl) ?_
                refine hq_bipush hx hb dX7_heard_100 (by decide) (fun z39 ez39 => ?_)
                refine lv_aload_n hx hb dX7_heard_102 rfl (lv_at hl 0 rfl) ?_
                refine hp_geti (C := RX7) (T := TX7) (N := 24) (ci := 7) (kd := 11) hx hb hts iX7_heard_X7 hown hK hJ k0 rfl rfl 13 (by decide) (hts (.fieldLink RX7 91 "NeighborBookModel" "known" "I") (List.mem_of_getElem? (i := 2) rfl)) (fun _ h9 => h9) rfl rfl dX7_heard_103 (fun x40 ex40 => ?_)
                have ex40 : x40.toInt = g 11 13 := ex40
                refine hp_callv (va_runV (As := [.int z39, .int x40]) (rest := []) ⟨hx, hb, hml, hown, hts⟩ (c_X7_move l dC dI dA κ B g h0 k0 z39 x40 (by omega) (by omega) (by omega) (by omega)) (cwV 2 hts gX7_heard_X7_move rfl rfl rfl (by decide +kernel) ⟨Nat.le_of_ble_eq_true rfl, Nat.le_of_ble_eq_true rfl⟩) (hp_preV (q := (RX7, TX7, 24)) [.int z39, .int x40] hK hN hW hJ k0 rfl rfl) rfl rfl hl.1 rfl (lv_room (Nat.le_of_ble_eq_true rfl)) dX7_heard_106 ⟨Nat.zero_le _, Nat.zero_le _⟩) hJ (fun g41 H locs hp hJ => ?_)
                subst hp
                refine lv_aload_n hx hb dX7_heard_109 rfl (lv_at hl 0 rfl) ?_
                refine lv_dup hx hb dX7_heard_110 rfl ?_
                refine hp_geti (C := RX7) (T := TX7) (N := 24) (ci := 7) (kd := 11) hx hb hts iX7_heard_X7 hown hK hJ k0 rfl rfl 13 (by decide) (hts (.fieldLink RX7 91 "NeighborBookModel" "known" "I") (List.mem_of_getElem? (i := 2) rfl)) (fun _ h9 => h9) rfl rfl dX7_heard_111 (fun x42 ex42 => ?_)
                have ex42 : x42.toInt = g 11 13 := ex42
                refine hq_iconst hx hb dX7_heard_114 (by decide) (by decide) (fun z43 ez43 => ?_)
                refine hq_iadd hx hb dX7_heard_115 (by omega) (by omega) (fun x44 ex44 => ?_)
                refine hp_putx (C := RX7) (T := TX7) (N := 24) (ci := 7) (kd := 11) hx hb hts iX7_heard_X7 hown hK hJ k0 rfl rfl 13 (by decide) (hts (.fieldLink RX7 91 "NeighborBookModel" "known" "I") (List.mem_of_getElem? (i := 2) rfl)) (fun _ h9 => h9) tyX7 tyX7_ok nmX7 (x := x44) rfl rfl (by decide) hW rfl rfl rfl dX7_heard_116 (fun g45 H locs eg45 ng45 hJ => ?_)
                have eg45 : g45 11 13 = x44.toInt := eg45
                have P46 : hg_P hx_m g g45 := hg_P.put hg_P.rf ng45 rfl
                have tt47 : g45 11 1 = g 11 1 := ng45 11 1 (by decide)
                have tt48 : g45 11 22 = g 11 22 := ng45 11 22 (by decide)
                refine lv_aload_n hx hb dX7_heard_119 rfl (lv_at hl 0 rfl) ?_
                refine hp_getr (C := RX7) (T := TX7) (N := 24) (ci := 7) (kd := 11) hx hb hts iX7_heard_X7 hown hK hJ k0 rfl rfl 12 (by decide) (hts (.fieldLink RX7 46 "NeighborBookModel" "quicks" "[I") (List.mem_of_getElem? (i := 5) rfl)) (fun _ h9 => h9) rfl dX7_heard_120 (fun b49 kb49 => ?_)
                refine lv_iload_n hx hb dX7_heard_123 rfl (lv_at hl 1 rfl) ?_
                refine lv_aload_n hx hb dX7_heard_124 rfl (lv_at hl 0 rfl) ?_
                refine hp_geti (C := RX7) (T := TX7) (N := 24) (ci := 7) (kd := 11) hx hb hts iX7_heard_X7 hown hK hJ k0 rfl rfl 6 (by decide) (hts (.fieldLink RX7 27 "NeighborBookModel" "quick" "I") (List.mem_of_getElem? (i := 6) rfl)) (fun _ h9 => h9) rfl rfl dX7_heard_125 (fun x50 ex50 => ?_)
                refine lv_aload_n hx hb dX7_heard_128 rfl (lv_at hl 0 rfl) ?_
                refine hp_getr (C := RX7) (T := TX7) (N := 24) (ci := 7) (kd := 11) hx hb hts iX7_heard_X7 hown hK hJ k0 rfl rfl 12 (by decide) (hts (.fieldLink RX7 46 "NeighborBookModel" "quicks" "[I") (List.mem_of_getElem? (i := 5) rfl)) (fun _ h9 => h9) rfl dX7_heard_129 (fun b51 kb51 => ?_)
                refine lv_iload_n hx hb dX7_heard_132 rfl (lv_at hl 1 rfl) ?_
                refine hp_iald (kd := 25) (n := 4) hx hb hK hJ kb51 rfl (by omega) (by omega) (sp := (0, 0)) rfl rfl dX7_heard_133 (fun x52 ex52 => ?_)
                have ex52 : x52.toInt = g45 25 p1.toInt.toNat := ex52
                refine hq_icmp_le (tgt := 144) hx hb dX7_heard_134 (by decide) (fun c53 => ?_) (fun c53 => ?_)
                · refine lv_aload_n hx hb dX7_heard_144 rfl (lv_at hl 0 rfl) ?_
                  refine hp_getr (C := RX7) (T := TX7) (N := 24) (ci := 7) (kd := 11) hx hb hts iX7_heard_X7 hown hK hJ k0 rfl rfl 12 (by decide) (hts (.fieldLink RX7 46 "NeighborBookModel" "quicks" "[I") (List.mem_of_getElem? (i := 5) rfl)) (fun _ h9 => h9) rfl dX7_heard_145 (fun b54 kb54 => ?_)
                  refine lv_iload_n hx hb dX7_heard_148 rfl (lv_at hl 1 rfl) ?_
                  refine hp_iald (kd := 25) (n := 4) hx hb hK hJ kb54 rfl (by omega) (by omega) (sp := (0, 0)) rfl rfl dX7_heard_149 (fun x55 ex55 => ?_)
                  have ex55 : x55.toInt = g45 25 p1.toInt.toNat := ex55
                  refine hp_iastx (kd := 25) (n := 4) hx hb hK hJ kb49 rfl (by omega) (by omega) (by decide) hW rfl rfl dX7_heard_150 (fun g56 H locs eg56 ng56 hJ => ?_)
                  have P57 : hg_P hx_m g g56 := hg_P.put P46 ng56 rfl
                  have tt58 : g56 11 1 = g45 11 1 := ng56 11 1 (by omega)
                  have tt59 : g56 11 13 = g45 11 13 := ng56 11 13 (by omega)
                  have tt60 : g56 11 22 = g45 11 22 := ng56 11 22 (by omega)
                  refine lv_aload_n hx hb dX7_heard_151 rfl (lv_at hl 0 rfl) ?_
                  refine hp_getr (C := RX7) (T := TX7) (N := 24) (ci := 7) (kd := 11) hx hb hts iX7_heard_X7 hown hK hJ k0 rfl rfl 11 (by decide) (hts (.fieldLink RX7 43 "NeighborBookModel" "waits" "[I") (List.mem_of_getElem? (i := 7) rfl)) (fun _ h9 => h9) rfl dX7_heard_152 (fun b61 kb61 => ?_)
                  refine lv_iload_n hx hb dX7_heard_155 rfl (lv_at hl 1 rfl) ?_
                  refine hq_iconst hx hb dX7_heard_156 (by decide) (by decide) (fun z62 ez62 => ?_)
                  refine hp_iastx (kd := 24) (n := 4) hx hb hK hJ kb61 rfl (by omega) (by omega) (by decide) hW rfl rfl dX7_heard_157 (fun g63 H locs eg63 ng63 hJ => ?_)
                  have P64 : hg_P hx_m g g63 := hg_P.put P57 ng63 rfl
                  have tt65 : g63 11 1 = g56 11 1 := ng63 11 1 (by omega)
                  have tt66 : g63 11 13 = g56 11 13 := ng63 11 13 (by omega)
                  have tt67 : g63 11 22 = g56 11 22 := ng63 11 22 (by omega)
                  refine lv_goto (tgt := 183) hx hb dX7_heard_158 (by decide) ?_
                  refine hq_iconst hx hb dX7_heard_183 (by decide) (by decide) (fun z68 ez68 => ?_)
                  exact hp_iret hx hb hK hN hW hlocks hJ hr ⟨P64, (hg_k.ofm hG P64 (by constructor <;> omega) (by constructor <;> omega) )⟩ dX7_heard_184
                · refine lv_aload_n hx hb dX7_heard_137 rfl (lv_at hl 0 rfl) ?_
                  refine hp_geti (C := RX7) (T := TX7) (N := 24) (ci := 7) (kd := 11) hx hb hts iX7_heard_X7 hown hK hJ k0 rfl rfl 6 (by decide) (hts (.fieldLink RX7 27 "NeighborBookModel" "quick" "I") (List.mem_of_getElem? (i := 6) rfl)) (fun _ h9 => h9) rfl rfl dX7_heard_138 (fun x69 ex69 => ?_)
                  refine lv_goto (tgt := 150) hx hb dX7_heard_141 (by decide) ?_
                  refine hp_iastx (kd := 25) (n := 4) hx hb hK hJ kb49 rfl (by omega) (by omega) (by decide) hW rfl rfl dX7_heard_150 (fun g70 H locs eg70 ng70 hJ => ?_)
                  have P71 : hg_P hx_m g g70 := hg_P.put P46 ng70 rfl
                  have tt72 : g70 11 1 = g45 11 1 := ng70 11 1 (by omega)
                  have tt73 : g70 11 13 = g45 11 13 := ng70 11 13 (by omega)
                  have tt74 : g70 11 22 = g45 11 22 := ng70 11 22 (by omega)
                  refine lv_aload_n hx hb dX7_heard_151 rfl (lv_at hl 0 rfl) ?_
                  refine hp_getr (C := RX7) (T := TX7) (N := 24) (ci := 7) (kd := 11) hx hb hts iX7_heard_X7 hown hK hJ k0 rfl rfl 11 (by decide) (hts (.fieldLink RX7 43 "NeighborBookModel" "waits" "[I") (List.mem_of_getElem? (i := 7) rfl)) (fun _ h9 => h9) rfl dX7_heard_152 (fun b75 kb75 => ?_)
                  refine lv_iload_n hx hb dX7_heard_155 rfl (lv_at hl 1 rfl) ?_
                  refine hq_iconst hx hb dX7_heard_156 (by decide) (by decide) (fun z76 ez76 => ?_)
                  refine hp_iastx (kd := 24) (n := 4) hx hb hK hJ kb75 rfl (by omega) (by omega) (by decide) hW rfl rfl dX7_heard_157 (fun g77 H locs eg77 ng77 hJ => ?_)
                  have P78 : hg_P hx_m g g77 := hg_P.put P71 ng77 rfl
                  have tt79 : g77 11 1 = g70 11 1 := ng77 11 1 (by omega)
                  have tt80 : g77 11 13 = g70 11 13 := ng77 11 13 (by omega)
                  have tt81 : g77 11 22 = g70 11 22 := ng77 11 22 (by omega)
                  refine lv_goto (tgt := 183) hx hb dX7_heard_158 (by decide) ?_
                  refine hq_iconst hx hb dX7_heard_183 (by decide) (by decide) (fun z82 ez82 => ?_)
                  exact hp_iret hx hb hK hN hW hlocks hJ hr ⟨P78, (hg_k.ofm hG P78 (by constructor <;> omega) (by constructor <;> omega) )⟩ dX7_heard_184
              · refine hq_iconst hx hb dX7_heard_89 (by decide) (by decide) (fun z83 ez83 => ?_)
                exact hp_iret hx hb hK hN hW hlocks hJ hr ⟨hg_P.rf, hG⟩ dX7_heard_90
          · refine lv_iload_n hx hb dX7_heard_63 rfl (lv_at hl 2 rfl) ?_
            refine hq_iconst hx hb dX7_heard_64 (by decide) (by decide) (fun z84 ez84 => ?_)
            refine hq_icmp_eq (tgt := 73) hx hb dX7_heard_65 (by decide) (fun c85 => ?_) (fun c85 => ?_)
            · refine hq_iconst hx hb dX7_heard_73 (by decide) (by decide) (fun z86 ez86 => ?_)
              exact hp_iret hx hb hK hN hW hlocks hJ hr ⟨hg_P.rf, hG⟩ dX7_heard_74
            · refine lv_aload_n hx hb dX7_heard_68 rfl (lv_at hl 0 rfl) ?_
              refine lv_iload_n hx hb dX7_heard_69 rfl (lv_at hl 2 rfl) ?_
              refine hp_callv (va_runV (As := [.int v8]) (rest := []) ⟨hx, hb, hml, hown, hts⟩ (c_X7_forget l dC dI dA κ B g h0 k0 v8 hG (by omega) (by omega)) (cwV 1 hts gX7_heard_X7_forget rfl rfl rfl (by decide +kernel) ⟨Nat.le_of_ble_eq_true rfl, Nat.le_of_ble_eq_true rfl⟩) (hp_preV (q := (RX7, TX7, 24)) [.int v8] hK hN hW hJ k0 rfl rfl) rfl rfl hl.1 rfl (lv_room (Nat.le_of_ble_eq_true rfl)) dX7_heard_70 ⟨Nat.zero_le _, Nat.zero_le _⟩) hJ (fun g87 H locs hp hJ => ?_)
              obtain ⟨P89a, K90, f88⟩ := hp
              obtain ⟨K901, K902, K903, K904, K905, K906, K907, K908⟩ := id K90
              have P89 : hg_P hx_m g g87 := P89a
              have qt91 : g87 1 1 = g 1 1 := P89a 1 1 rfl
              have qt92 : g87 11 1 = g 11 1 := P89a 11 1 rfl
              have qt93 : g87 10 1 = g 10 1 := P89a 10 1 rfl
              have qt94 : g87 4 1 = g 4 1 := P89a 4 1 rfl
              refine hq_iconst hx hb dX7_heard_73 (by decide) (by decide) (fun z95 ez95 => ?_)
              exact hp_iret hx hb hK hN hW hlocks hJ hr ⟨P89, K90⟩ dX7_heard_74
        · refine lv_aload_n hx hb dX7_heard_33 rfl (lv_at hl 0 rfl) ?_
          refine lv_iload hx hb dX7_heard_34 (lv_at hl 3 rfl) ?_
          refine hq_bipush hx hb dX7_heard_36 (by decide) (fun z96 ez96 => ?_)
          refine hp_calli (va_runV (As := [.int v9, .int z96]) (rest := []) ⟨hx, hb, hml, hown, hts⟩ (c_X7_isAlike l dC dI dA κ B g h0 k0 v9 z96 (by omega) (by omega) (by omega) (by omega)) (cwV 2 hts gX7_heard_X7_isAlike rfl rfl rfl (by decide +kernel) ⟨Nat.le_of_ble_eq_true rfl, Nat.le_of_ble_eq_true rfl⟩) (hp_preV (q := (RX7, TX7, 24)) [.int v9, .int z96] hK hN hW hJ k0 rfl rfl) rfl rfl hl.1 rfl (lv_room (Nat.le_of_ble_eq_true rfl)) dX7_heard_38 ⟨Nat.zero_le _, Nat.zero_le _⟩) hJ (fun x98 g97 H locs hp hJ => ?_)
          obtain ⟨rfl, f99⟩ := hp
          refine hq_if_eq (tgt := 47) hx hb dX7_heard_41 (by decide) (fun c100 => ?_) (fun c100 => ?_)
          · refine hq_iinc (k := 3) (lv' := fun (z9 : Int32) => [(4, .int z9), (0, .ref h0), (1, .int p1), (3, .int v8)]) hx hb dX7_heard_47 hl rfl (by decide) (by decide) (by omega) (by omega) (by decide) (fun _ => rfl) (fun x101 ls ex101 hl => ?_)
            have hl : lv_has ls 5 [(4, .int x101), (0, .ref h0), (1, .int p1), (3, .int v8)] := hl
            refine lv_goto (tgt := 24) hx hb dX7_heard_50 (by decide) ?_
            exact ihlp10 v8 x101 _ _ ls (by omega) (by omega) (by omega) (by omega) (by omega) hJ (lv_sub hl [1, 2, 3, 0] rfl)
          · refine lv_iload hx hb dX7_heard_44 (lv_at hl 3 rfl) ?_
            refine lv_istore_n (lv' := [(3, .int v9), (0, .ref h0), (1, .int p1), (4, .int v9)]) hx hb dX7_heard_46 rfl hl (by decide) rfl (fun ls hl => ?_)
            refine hq_iinc (k := 3) (lv' := fun (z9 : Int32) => [(4, .int z9), (3, .int v9), (0, .ref h0), (1, .int p1)]) hx hb dX7_heard_47 hl rfl (by decide) (by decide) (by omega) (by omega) (by decide) (fun _ => rfl) (fun x102 ls ex102 hl => ?_)
            have hl : lv_has ls 5 [(4, .int x102), (3, .int v9), (0, .ref h0), (1, .int p1)] := hl
            refine lv_goto (tgt := 24) hx hb dX7_heard_50 (by decide) ?_
            exact ihlp10 v9 x102 _ _ ls (by omega) (by omega) (by omega) (by omega) (by omega) hJ (lv_sub hl [2, 3, 1, 0] rfl)
    exact lp10 ((13 - z7.toInt).toNat + 1) z6 z7 _ _ ls (by omega) (by omega) (by omega) (by omega) (by omega) hJ (lv_sub hl [3, 4, 1, 0] rfl)
  · refine lv_iload_n hx hb dX7_heard_9 rfl (lv_at hl 0 rfl) ?_
    exact hp_iret hx hb hK hN hW hlocks hJ hr ⟨hg_P.rf, hG⟩ dX7_heard_10
theorem iX7_hear_X7 : ∀ w ∈ wsX70, w ∈ wsX7_hear := fun _ h => List.mem_cons_of_mem _ (List.mem_append_right _ h)
set_option maxRecDepth 100000 in
set_option maxHeartbeats 4000000 in
theorem c_X7_hear (l : Launch) (dC : Nat → ClassId) (dI : Nat → Nat → Nat) (dA : Nat → ClassId) (κ : Nat → Nat) (B : Nat) (g : Nat → Nat → Int) (h0 : Nat) (k0 : κ h0 = 11) (p1 : Int32) (hG : hg_k g) : Met l yX7_hear wsX7_hear ({ frames := 3, cells := 0, slots := 0, locals := 70 } : Room) (hp_Pre dC dI dA κ B g [Value.ref h0, Value.int p1]) (hp_Qi dC dI dA κ B (fun r u => hg_P hx_e g u ∧ hg_k u ∧ (((0 ≤ p1.toInt ∧ p1.toInt < 4 ∧ g 20 p1.toInt.toNat = 1) ∧ u 11 1 = 0) ∨ (¬ (0 ≤ p1.toInt ∧ p1.toInt < 4 ∧ g 20 p1.toInt.toNat = 1) ∧ u 11 1 = g 11 1 ∧ r.toInt = -1)))) 0 0 (hp_A B) := by
  refine Met.ofW (cc := cX7_hear) (maxL := 2) (ret := (some .int)) (by decide) rfl ?_
  intro p e s m args below meth c s₁ Bd hml hv
  obtain ⟨rfl, hK, hN, hW, hF⟩ := hv
  have hx := Bd.exec
  have hb := Bd.bytes
  have hr := Bd.returns
  have hts := atoms_spec (ws := wsX7_hear) Bd.pre
  have hown : s.vm.findClass RX7 = some m.cls := findClass_of_methodNamed Bd.named
  have hlocks := Bd.notSynchronized
  have hJ : hp_J dC dI dA κ B g s.heap s.heap [] := ⟨hF, va_S.rf⟩
  have hl := lv_entry ([Value.ref h0, Value.int p1]) (n := 2) (Nat.le_of_ble_eq_true rfl)
  rw [lg_entry_eq]
  generalize (lg_sl ([Value.ref h0, Value.int p1]) ++ List.replicate (2 - (lg_sl ([Value.ref h0, Value.int p1])).length) Slot.unset).toArray = ls at hl ⊢
  have hl : lv_has ls 2 [(0, .ref h0), (1, .int p1)] := hl
  obtain ⟨hG1, hG2, hG3, hG4, hG5, hG6, hG7, hG8⟩ := id hG
  refine lv_iload_n hx hb dX7_hear_0 rfl (lv_at hl 1 rfl) ?_
  refine hq_if_lt (tgt := 18) hx hb dX7_hear_1 (by decide) (fun c1 => ?_) (fun c1 => ?_)
  · refine hq_iconst hx hb dX7_hear_18 (by decide) (by decide) (fun z2 ez2 => ?_)
    exact hp_iret hx hb hK hN hW hlocks hJ hr ⟨hg_P.rf, hG, by omega⟩ dX7_hear_19
  · refine lv_iload_n hx hb dX7_hear_4 rfl (lv_at hl 1 rfl) ?_
    refine hq_iconst hx hb dX7_hear_5 (by decide) (by decide) (fun z3 ez3 => ?_)
    refine hq_icmp_ge (tgt := 18) hx hb dX7_hear_6 (by decide) (fun c4 => ?_) (fun c4 => ?_)
    · refine hq_iconst hx hb dX7_hear_18 (by decide) (by decide) (fun z5 ez5 => ?_)
      exact hp_iret hx hb hK hN hW hlocks hJ hr ⟨hg_P.rf, hG, by omega⟩ dX7_hear_19
    · refine lv_aload_n hx hb dX7_hear_9 rfl (lv_at hl 0 rfl) ?_
      refine hp_getr (C := RX7) (T := TX7) (N := 24) (ci := 7) (kd := 11) hx hb hts iX7_hear_X7 hown hK hJ k0 rfl rfl 7 (by decide) (hts (.fieldLink RX7 30 "NeighborBookModel" "up" "[Z") (List.mem_of_getElem? (i := 1) rfl)) (fun _ h9 => h9) rfl dX7_hear_10 (fun b6 kb6 => ?_)
      refine lv_iload_n hx hb dX7_hear_13 rfl (lv_at hl 1 rfl) ?_
      refine hp_zald (kd := 20) (n := 4) hx hb hK hJ kb6 rfl (by omega) (by omega) (sp := (0, 0)) rfl rfl dX7_hear_14 (fun x7 ex7 => ?_)
      have ex7 : x7.toInt = g 20 p1.toInt.toNat := ex7
      refine hq_if_ne (tgt := 20) hx hb dX7_hear_15 (by decide) (fun c8 => ?_) (fun c8 => ?_)
      · have hGq := hG8 p1.toInt.toNat (by omega)
        refine lv_aload_n hx hb dX7_hear_20 rfl (lv_at hl 0 rfl) ?_
        refine lv_aload_n hx hb dX7_hear_21 rfl (lv_at hl 0 rfl) ?_
        refine lv_iload_n hx hb dX7_hear_22 rfl (lv_at hl 1 rfl) ?_
        refine hp_calli (va_runV (As := [.int p1]) (rest := [.ref h0]) ⟨hx, hb, hml, hown, hts⟩ (c_X7_heard l dC dI dA κ B g h0 k0 p1 hG (by omega) (by omega)) (cwV 1 hts gX7_hear_X7_heard rfl rfl rfl (by decide +kernel) ⟨Nat.le_of_ble_eq_true rfl, Nat.le_of_ble_eq_true rfl⟩) (hp_preV (q := (RX7, TX7, 24)) [.int p1] hK hN hW hJ k0 rfl rfl) rfl rfl hl.1 rfl (lv_room (Nat.le_of_ble_eq_true rfl)) dX7_hear_23 ⟨Nat.zero_le _, Nat.zero_le _⟩) hJ (fun x10 g9 H locs hp hJ => ?_)
        obtain ⟨P12a, K13⟩ := hp
        obtain ⟨K131, K132, K133, K134, K135, K136, K137, K138⟩ := id K13
        have P12 : hg_P hx_e g g9 := (P12a.le hx_me)
        have qt14 : g9 1 1 = g 1 1 := P12a 1 1 rfl
        have qt15 : g9 11 1 = g 11 1 := P12a 11 1 rfl
        have qt16 : g9 10 1 = g 10 1 := P12a 10 1 rfl
        have qt17 : g9 4 1 = g 4 1 := P12a 4 1 rfl
        refine hp_putx (C := RX7) (T := TX7) (N := 24) (ci := 7) (kd := 11) hx hb hts iX7_hear_X7 hown hK hJ k0 rfl rfl 20 (by decide) (hts (.fieldLink RX7 112 "NeighborBookModel" "fault" "I") (List.mem_of_getElem? (i := 2) rfl)) (fun _ h9 => h9) tyX7 tyX7_ok nmX7 (x := x10) rfl rfl (by decide) hW rfl rfl rfl dX7_hear_26 (fun g18 H locs eg18 ng18 hJ => ?_)
        have eg18 : g18 11 20 = x10.toInt := eg18
        have P19 : hg_P hx_e g g18 := hg_P.put P12 ng18 rfl
        have tt20 : g18 11 1 = g9 11 1 := ng18 11 1 (by decide)
        have tt21 : g18 11 13 = g9 11 13 := ng18 11 13 (by decide)
        have tt22 : g18 11 22 = g9 11 22 := ng18 11 22 (by decide)
        refine lv_aload_n hx hb dX7_hear_29 rfl (lv_at hl 0 rfl) ?_
        refine hq_iconst hx hb dX7_hear_30 (by decide) (by decide) (fun z23 ez23 => ?_)
        refine hp_putx (C := RX7) (T := TX7) (N := 24) (ci := 7) (kd := 11) hx hb hts iX7_hear_X7 hown hK hJ k0 rfl rfl 1 (by decide) (hts (.fieldLink RX7 70 "NeighborBookModel" "typedSize" "I") (List.mem_of_getElem? (i := 3) rfl)) (fun _ h9 => h9) tyX7 tyX7_ok nmX7 (x := z23) rfl rfl (by decide) hW rfl rfl rfl dX7_hear_31 (fun g24 H locs eg24 ng24 hJ => ?_)
        have eg24 : g24 11 1 = z23.toInt := eg24
        have P25 : hg_P hx_e g g24 := hg_P.put P19 ng24 rfl
        have tt26 : g24 11 13 = g18 11 13 := ng24 11 13 (by decide)
        have tt27 : g24 11 22 = g18 11 22 := ng24 11 22 (by decide)
        refine lv_aload_n hx hb dX7_hear_34 rfl (lv_at hl 0 rfl) ?_
        refine hp_geti (C := RX7) (T := TX7) (N := 24) (ci := 7) (kd := 11) hx hb hts iX7_hear_X7 hown hK hJ k0 rfl rfl 20 (by decide) (hts (.fieldLink RX7 112 "NeighborBookModel" "fault" "I") (List.mem_of_getElem? (i := 2) rfl)) (fun _ h9 => h9) rfl rfl dX7_hear_35 (fun x28 ex28 => ?_)
        have ex28 : x28.toInt = g24 11 20 := ex28
        refine hq_if_ne (tgt := 54) hx hb dX7_hear_38 (by decide) (fun c29 => ?_) (fun c29 => ?_)
        · refine lv_aload_n hx hb dX7_hear_54 rfl (lv_at hl 0 rfl) ?_
          refine hp_getr (C := RX7) (T := TX7) (N := 24) (ci := 7) (kd := 11) hx hb hts iX7_hear_X7 hown hK hJ k0 rfl rfl 10 (by decide) (hts (.fieldLink RX7 40 "NeighborBookModel" "bad" "[I") (List.mem_of_getElem? (i := 5) rfl)) (fun _ h9 => h9) rfl dX7_hear_55 (fun b30 kb30 => ?_)
          refine lv_iload_n hx hb dX7_hear_58 rfl (lv_at hl 1 rfl) ?_
          refine lv_dup2_11 hx hb dX7_hear_59 rfl rfl ?_
          refine hp_iald (kd := 23) (n := 4) hx hb hK hJ kb30 rfl (by omega) (by omega) (sp := (0, 0)) rfl rfl dX7_hear_60 (fun x31 ex31 => ?_)
          have ex31 : x31.toInt = g24 23 p1.toInt.toNat := ex31
          refine hq_iconst hx hb dX7_hear_61 (by decide) (by decide) (fun z32 ez32 => ?_)
          refine hq_iaddU hx hb dX7_hear_62 (fun x33 => ?_)
          refine hp_iastx (kd := 23) (n := 4) hx hb hK hJ kb30 rfl (by omega) (by omega) (by decide) hW rfl rfl dX7_hear_63 (fun g34 H locs eg34 ng34 hJ => ?_)
          have P35 : hg_P hx_e g g34 := hg_P.put P25 ng34 rfl
          have tt36 : g34 11 1 = g24 11 1 := ng34 11 1 (by omega)
          have tt37 : g34 11 13 = g24 11 13 := ng34 11 13 (by omega)
          have tt38 : g34 11 22 = g24 11 22 := ng34 11 22 (by omega)
          refine lv_aload_n hx hb dX7_hear_64 rfl (lv_at hl 0 rfl) ?_
          refine hp_geti (C := RX7) (T := TX7) (N := 24) (ci := 7) (kd := 11) hx hb hts iX7_hear_X7 hown hK hJ k0 rfl rfl 20 (by decide) (hts (.fieldLink RX7 112 "NeighborBookModel" "fault" "I") (List.mem_of_getElem? (i := 2) rfl)) (fun _ h9 => h9) rfl rfl dX7_hear_65 (fun x39 ex39 => ?_)
          have ex39 : x39.toInt = g34 11 20 := ex39
          exact hp_iret hx hb hK hN hW hlocks hJ hr ⟨P35, (hg_k.ofe hG P35 (by constructor <;> omega) (by constructor <;> omega) (by constructor <;> omega) ), by omega⟩ dX7_hear_68
        · refine lv_aload_n hx hb dX7_hear_41 rfl (lv_at hl 0 rfl) ?_
          refine hp_getr (C := RX7) (T := TX7) (N := 24) (ci := 7) (kd := 11) hx hb hts iX7_hear_X7 hown hK hJ k0 rfl rfl 9 (by decide) (hts (.fieldLink RX7 37 "NeighborBookModel" "good" "[I") (List.mem_of_getElem? (i := 4) rfl)) (fun _ h9 => h9) rfl dX7_hear_42 (fun b40 kb40 => ?_)
          refine lv_iload_n hx hb dX7_hear_45 rfl (lv_at hl 1 rfl) ?_
          refine lv_dup2_11 hx hb dX7_hear_46 rfl rfl ?_
          refine hp_iald (kd := 22) (n := 4) hx hb hK hJ kb40 rfl (by omega) (by omega) (sp := (0, 0)) rfl rfl dX7_hear_47 (fun x41 ex41 => ?_)
          have ex41 : x41.toInt = g24 22 p1.toInt.toNat := ex41
          refine hq_iconst hx hb dX7_hear_48 (by decide) (by decide) (fun z42 ez42 => ?_)
          refine hq_iaddU hx hb dX7_hear_49 (fun x43 => ?_)
          refine hp_iastx (kd := 22) (n := 4) hx hb hK hJ kb40 rfl (by omega) (by omega) (by decide) hW rfl rfl dX7_hear_50 (fun g44 H locs eg44 ng44 hJ => ?_)
          have P45 : hg_P hx_e g g44 := hg_P.put P25 ng44 rfl
          have tt46 : g44 11 1 = g24 11 1 := ng44 11 1 (by omega)
          have tt47 : g44 11 13 = g24 11 13 := ng44 11 13 (by omega)
          have tt48 : g44 11 22 = g24 11 22 := ng44 11 22 (by omega)
          refine lv_goto (tgt := 64) hx hb dX7_hear_51 (by decide) ?_
          refine lv_aload_n hx hb dX7_hear_64 rfl (lv_at hl 0 rfl) ?_
          refine hp_geti (C := RX7) (T := TX7) (N := 24) (ci := 7) (kd := 11) hx hb hts iX7_hear_X7 hown hK hJ k0 rfl rfl 20 (by decide) (hts (.fieldLink RX7 112 "NeighborBookModel" "fault" "I") (List.mem_of_getElem? (i := 2) rfl)) (fun _ h9 => h9) rfl rfl dX7_hear_65 (fun x49 ex49 => ?_)
          have ex49 : x49.toInt = g44 11 20 := ex49
          exact hp_iret hx hb hK hN hW hlocks hJ hr ⟨P45, (hg_k.ofe hG P45 (by constructor <;> omega) (by constructor <;> omega) (by constructor <;> omega) ), by omega⟩ dX7_hear_68
      · refine hq_iconst hx hb dX7_hear_18 (by decide) (by decide) (fun z50 ez50 => ?_)
        exact hp_iret hx hb hK hN hW hlocks hJ hr ⟨hg_P.rf, hG, by omega⟩ dX7_hear_19
