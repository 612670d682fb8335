theorem iX7_tick_X7 : ∀ w ∈ wsX70, w ∈ wsX7_tick := fun _ h => List.mem_cons_of_mem _ (List.mem_append_right _ h)
set_option maxRecDepth 100000 in
set_option maxHeartbeats 4000000 in
theorem c_X7_tick (l : Launch) (dC : Nat → ClassId) (dI : Nat → Nat → Nat) (dA : Nat → ClassId) (κ : Nat → Nat) (B : Nat) (g : Nat → Nat → Int) (h0 : Nat) (k0 : κ h0 = 11) (n : Int32) (hG : hg_k g) : Met l yX7_tick wsX7_tick ({ frames := 3, cells := 0, slots := 0, locals := 67 } : Room) (hp_Pre dC dI dA κ B g [Value.ref h0, Value.int n]) (hp_Qi dC dI dA κ B (fun r u => hg_P hx_m g u ∧ hg_k u ∧ (((1 ≤ n.toInt ∧ n.toInt ≤ 5000) ∧ ((∀ j : Nat, j < 4 → g 20 j = 0) → r.toInt = 0)) ∨ (¬ (1 ≤ n.toInt ∧ n.toInt ≤ 5000) ∧ r.toInt = -1)))) 0 0 (hp_A B) := by
  refine Met.ofW (cc := cX7_tick) (maxL := 6) (ret := (some .int)) (by decide) rfl ?_
  intro p e s m args below meth c s₁ Bd hml hv
  obtain ⟨rfl, hK, hN, hW, hF⟩ := hv
  have hx := Bd.exec
  have hb := Bd.bytes
  have hr := Bd.returns
  have hts := atoms_spec (ws := wsX7_tick) Bd.pre
  have hown : s.vm.findClass RX7 = some m.cls := findClass_of_methodNamed Bd.named
  have hlocks := Bd.notSynchronized
  have hJ : hp_J dC dI dA κ B g s.heap s.heap [] := ⟨hF, va_S.rf⟩
  have hl := lv_entry ([Value.ref h0, Value.int n]) (n := 6) (Nat.le_of_ble_eq_true rfl)
  rw [lg_entry_eq]
  generalize (lg_sl ([Value.ref h0, Value.int n]) ++ List.replicate (6 - (lg_sl ([Value.ref h0, Value.int n])).length) Slot.unset).toArray = ls at hl ⊢
  have hl : lv_has ls 6 [(0, .ref h0), (1, .int n)] := hl
  obtain ⟨hG1, hG2, hG3, hG4, hG5, hG6, hG7, hG8⟩ := id hG
  obtain ⟨dn, hdn⟩ : ∃ dn : Int, ((∀ j : Nat, j < 4 → g 20 j = 0) → dn = 0) ∧ (dn = 0 → ∀ j : Nat, j < 4 → g 20 j = 0) := by
    rcases Classical.em (∀ j : Nat, j < 4 → g 20 j = 0) with h | h
    · exact ⟨0, fun _ => rfl, fun _ => h⟩
    · exact ⟨1, fun h2 => absurd h2 h, fun h2 => absurd h2 (by decide)⟩
  refine lv_iload_n hx hb dX7_tick_0 rfl (lv_at hl 1 rfl) ?_
  refine hq_iconst hx hb dX7_tick_1 (by decide) (by decide) (fun z1 ez1 => ?_)
  refine hq_icmp_lt (tgt := 12) hx hb dX7_tick_2 (by decide) (fun c2 => ?_) (fun c2 => ?_)
  · refine hq_iconst hx hb dX7_tick_12 (by decide) (by decide) (fun z3 ez3 => ?_)
    exact hp_iret hx hb hK hN hW hlocks hJ hr ⟨hg_P.rf, hG, by first | exact Or.inl ⟨by omega, fun h9 => by have := hdn.1 h9; omega⟩ | exact Or.inr ⟨by omega, by omega⟩⟩ dX7_tick_13
  · refine lv_iload_n hx hb dX7_tick_5 rfl (lv_at hl 1 rfl) ?_
    refine hq_sipush hx hb dX7_tick_6 (by decide) (fun z4 ez4 => ?_)
    refine hq_icmp_le (tgt := 14) hx hb dX7_tick_9 (by decide) (fun c5 => ?_) (fun c5 => ?_)
    · refine hq_iconst hx hb dX7_tick_14 (by decide) (by decide) (fun z6 ez6 => ?_)
      refine lv_istore_n (lv' := [(2, .int z6), (0, .ref h0), (1, .int n)]) hx hb dX7_tick_15 rfl hl (by decide) rfl (fun ls hl => ?_)
      refine hq_iconst hx hb dX7_tick_16 (by decide) (by decide) (fun z7 ez7 => ?_)
      refine lv_istore_n (lv' := [(3, .int z7), (2, .int z6), (0, .ref h0), (1, .int n)]) hx hb dX7_tick_17 rfl hl (by decide) rfl (fun ls hl => ?_)
      have lp11 : ∀ (nlp11 : Nat) (v8 : Int32) (v9 : Int32) (g10 : Nat → Nat → Int) (H : Heap) (locs : List Loc) (ls : Array Slot), (hg_P hx_m g g10) → (hg_k g10) → (0 ≤ v9.toInt) → (v9.toInt ≤ n.toInt) → (dn = 0 → v8.toInt = 0) → (5001 - v9.toInt < (nlp11 : Int)) → hp_J dC dI dA κ B g10 s.heap H locs → lv_has ls 6 [(0, .ref h0), (1, .int n), (2, .int v8), (3, .int v9)] → W p l e (headSpec wsX7_tick ({ frames := 3, cells := 0, slots := 0, locals := 67 } : Room)).room s m ([Value.ref h0, Value.int n] : List Value).toArray below meth c H locs 0 0 (MQ below (hp_Qi dC dI dA κ B (fun r u => hg_P hx_m g u ∧ hg_k u ∧ (((1 ≤ n.toInt ∧ n.toInt ≤ 5000) ∧ ((∀ j : Nat, j < 4 → g 20 j = 0) → r.toInt = 0)) ∨ (¬ (1 ≤ n.toInt ∧ n.toInt ≤ 5000) ∧ r.toInt = -1)))) ([Value.ref h0, Value.int n] : List Value).toArray s 0 0 (hp_A B)) (F0 m 18 ls []) := by
        intro nlp11
        induction nlp11 with
        | zero => intro v8 v9 g10 H locs ls iv13 iv14 iv15 iv16 iv17 hm12 hJ hl; exact absurd hm12 (by omega)
        | succ nlp11 ihlp11 =>
          intro v8 v9 g10 H locs ls iv13 iv14 iv15 iv16 iv17 hm12 hJ hl
          obtain ⟨hG1, hG2, hG3, hG4, hG5, hG6, hG7, hG8⟩ := id iv14
          refine lv_iload_n hx hb dX7_tick_18 rfl (lv_at hl 3 rfl) ?_
          refine lv_iload_n hx hb dX7_tick_19 rfl (lv_at hl 1 rfl) ?_
          refine hq_icmp_ge (tgt := 222) hx hb dX7_tick_20 (by decide) (fun c18 => ?_) (fun c18 => ?_)
          · refine lv_iload_n hx hb dX7_tick_222 rfl (lv_at hl 2 rfl) ?_
            exact hp_iret hx hb hK hN hW hlocks hJ hr ⟨iv13, iv14, by first | exact Or.inl ⟨by omega, fun h9 => by have := hdn.1 h9; omega⟩ | exact Or.inr ⟨by omega, by omega⟩⟩ dX7_tick_223
          · refine lv_aload_n hx hb dX7_tick_23 rfl (lv_at hl 0 rfl) ?_
            refine lv_aload_n hx hb dX7_tick_24 rfl (lv_at hl 0 rfl) ?_
            refine hp_geti (C := RX7) (T := TX7) (N := 24) (ci := 7) (kd := 11) hx hb hts iX7_tick_X7 hown hK hJ k0 rfl rfl 19 (by decide) (hts (.fieldLink RX7 115 "NeighborBookModel" "ticks" "I") (List.mem_of_getElem? (i := 1) rfl)) (fun _ h9 => h9) rfl rfl dX7_tick_25 (fun x19 ex19 => ?_)
            have ex19 : x19.toInt = g10 11 19 := ex19
            refine hq_iconst hx hb dX7_tick_28 (by decide) (by decide) (fun z20 ez20 => ?_)
            refine hq_iaddU hx hb dX7_tick_29 (fun x21 => ?_)
            refine lv_ldc hx hb hown (hts (.constant RX7 118 (2147483647)) (List.mem_of_getElem? (i := 2) rfl)) dX7_tick_30 ?_
            refine lv_topi (fun z22 fz22 => ?_)
            have ez22 : z22.toInt = 2147483647 := by rw [fz22]; rfl
            refine hq_iandU hx hb dX7_tick_32 (fun x23 => ?_)
            refine hp_putx (C := RX7) (T := TX7) (N := 24) (ci := 7) (kd := 11) hx hb hts iX7_tick_X7 hown hK hJ k0 rfl rfl 19 (by decide) (hts (.fieldLink RX7 115 "NeighborBookModel" "ticks" "I") (List.mem_of_getElem? (i := 1) rfl)) (fun _ h9 => h9) tyX7 tyX7_ok nmX7 (x := x23) rfl rfl (by decide) hW rfl rfl rfl dX7_tick_33 (fun g24 H locs eg24 ng24 hJ => ?_)
            have eg24 : g24 11 19 = x23.toInt := eg24
            have P25 : hg_P hx_m g g24 := hg_P.put iv13 ng24 rfl
            have tt26 : g24 11 1 = g10 11 1 := ng24 11 1 (by decide)
            have tt27 : g24 11 13 = g10 11 13 := ng24 11 13 (by decide)
            have tt28 : g24 11 22 = g10 11 22 := ng24 11 22 (by decide)
            refine lv_aload_n hx hb dX7_tick_36 rfl (lv_at hl 0 rfl) ?_
            refine hp_geti (C := RX7) (T := TX7) (N := 24) (ci := 7) (kd := 11) hx hb hts iX7_tick_X7 hown hK hJ k0 rfl rfl 13 (by decide) (hts (.fieldLink RX7 91 "NeighborBookModel" "known" "I") (List.mem_of_getElem? (i := 3) rfl)) (fun _ h9 => h9) rfl rfl dX7_tick_37 (fun x29 ex29 => ?_)
            have ex29 : x29.toInt = g24 11 13 := ex29
            refine hq_iconst hx hb dX7_tick_40 (by decide) (by decide) (fun z30 ez30 => ?_)
            refine hq_isub hx hb dX7_tick_41 (by omega) (by omega) (fun x31 ex31 => ?_)
            refine lv_istore (lv' := [(4, .int x31), (0, .ref h0), (1, .int n), (2, .int v8), (3, .int v9)]) hx hb dX7_tick_42 hl (by decide) rfl (fun ls hl => ?_)
            have lp34 : ∀ (nlp34 : Nat) (v32 : Int32) (g33 : Nat → Nat → Int) (H : Heap) (locs : List Loc) (ls : Array Slot), (hg_P hx_m g g33) → (hg_k g33) → (-1 ≤ v32.toInt) → (v32.toInt < g33 11 13) → (v32.toInt + 2 < (nlp34 : Int)) → hp_J dC dI dA κ B g33 s.heap H locs → lv_has ls 6 [(0, .ref h0), (1, .int n), (2, .int v8), (3, .int v9), (4, .int v32)] → W p l e (headSpec wsX7_tick ({ frames := 3, cells := 0, slots := 0, locals := 67 } : Room)).room s m ([Value.ref h0, Value.int n] : List Value).toArray below meth c H locs 0 0 (MQ below (hp_Qi dC dI dA κ B (fun r u => hg_P hx_m g u ∧ hg_k u ∧ (((1 ≤ n.toInt ∧ n.toInt ≤ 5000) ∧ ((∀ j : Nat, j < 4 → g 20 j = 0) → r.toInt = 0)) ∨ (¬ (1 ≤ n.toInt ∧ n.toInt ≤ 5000) ∧ r.toInt = -1)))) ([Value.ref h0, Value.int n] : List Value).toArray s 0 0 (hp_A B)) (F0 m 44 ls []) := by
              intro nlp34
              induction nlp34 with
              | zero => intro v32 g33 H locs ls iv36 iv37 iv38 iv39 hm35 hJ hl; exact absurd hm35 (by omega)
              | succ nlp34 ihlp34 =>
                intro v32 g33 H locs ls iv36 iv37 iv38 iv39 hm35 hJ hl
                obtain ⟨hG1, hG2, hG3, hG4, hG5, hG6, hG7, hG8⟩ := id iv37
                refine lv_iload hx hb dX7_tick_44 (lv_at hl 4 rfl) ?_
                refine hq_if_lt (tgt := 82) hx hb dX7_tick_46 (by decide) (fun c40 => ?_) (fun c40 => ?_)
                · refine hq_iconst hx hb dX7_tick_82 (by decide) (by decide) (fun z41 ez41 => ?_)
                  refine lv_istore (lv' := [(4, .int z41), (0, .ref h0), (1, .int n), (2, .int v8), (3, .int v9)]) hx hb dX7_tick_83 hl (by decide) rfl (fun ls hl => ?_)
                  have lp45 : ∀ (nlp45 : Nat) (v42 : Int32) (v43 : Int32) (g44 : Nat → Nat → Int) (H : Heap) (locs : List Loc) (ls : Array Slot), (hg_P hx_m g g44) → (hg_k g44) → (0 ≤ v43.toInt) → (v43.toInt ≤ 4) → (dn = 0 → v42.toInt = 0) → (5 - v43.toInt < (nlp45 : Int)) → hp_J dC dI dA κ B g44 s.heap H locs → lv_has ls 6 [(0, .ref h0), (1, .int n), (2, .int v42), (3, .int v9), (4, .int v43)] → W p l e (headSpec wsX7_tick ({ frames := 3, cells := 0, slots := 0, locals := 67 } : Room)).room s m ([Value.ref h0, Value.int n] : List Value).toArray below meth c H locs 0 0 (MQ below (hp_Qi dC dI dA κ B (fun r u => hg_P hx_m g u ∧ hg_k u ∧ (((1 ≤ n.toInt ∧ n.toInt ≤ 5000) ∧ ((∀ j : Nat, j < 4 → g 20 j = 0) → r.toInt = 0)) ∨ (¬ (1 ≤ n.toInt ∧ n.toInt ≤ 5000) ∧ r.toInt = -1)))) ([Value.ref h0, Value.int n] : List Value).toArray s 0 0 (hp_A B)) (F0 m 85 ls []) := by
                    intro nlp45
                    induction nlp45 with
                    | zero => intro v42 v43 g44 H locs ls iv47 iv48 iv49 iv50 iv51 hm46 hJ hl; exact absurd hm46 (by omega)
                    | succ nlp45 ihlp45 =>
                      intro v42 v43 g44 H locs ls iv47 iv48 iv49 iv50 iv51 hm46 hJ hl
                      obtain ⟨hG1, hG2, hG3, hG4, hG5, hG6, hG7, hG8⟩ := id iv48
                      refine lv_iload hx hb dX7_tick_85 (lv_at hl 4 rfl) ?_
                      refine hq_iconst hx hb dX7_tick_87 (by decide) (by decide) (fun z52 ez52 => ?_)
                      refine hq_icmp_ge (tgt := 216) hx hb dX7_tick_88 (by decide) (fun c53 => ?_) (fun c53 => ?_)
                      · refine hq_iinc (k := 3) (lv' := fun (z9 : Int32) => [(3, .int z9), (0, .ref h0), (1, .int n), (2, .int v42), (4, .int v43)]) hx hb dX7_tick_216 hl rfl (by decide) (by decide) (by omega) (by omega) (by decide) (fun _ => rfl) (fun x54 ls ex54 hl => ?_)
                        have hl : lv_has ls 6 [(3, .int x54), (0, .ref h0), (1, .int n), (2, .int v42), (4, .int v43)] := hl
                        refine lv_goto (tgt := 18) hx hb dX7_tick_219 (by decide) ?_
                        exact ihlp11 v42 x54 g44 _ _ ls iv47 iv48 (by omega) (by omega) (by omega) (by omega) hJ (lv_sub hl [1, 2, 3, 0] rfl)
                      · refine lv_aload_n hx hb dX7_tick_91 rfl (lv_at hl 0 rfl) ?_
                        refine hp_getr (C := RX7) (T := TX7) (N := 24) (ci := 7) (kd := 11) hx hb hts iX7_tick_X7 hown hK hJ k0 rfl rfl 7 (by decide) (hts (.fieldLink RX7 30 "NeighborBookModel" "up" "[Z") (List.mem_of_getElem? (i := 5) rfl)) (fun _ h9 => h9) rfl dX7_tick_92 (fun b55 kb55 => ?_)
                        refine lv_iload hx hb dX7_tick_95 (lv_at hl 4 rfl) ?_
                        refine hp_zald (kd := 20) (n := 4) hx hb hK hJ kb55 rfl (by omega) (by omega) (sp := (0, 0)) rfl rfl dX7_tick_97 (fun x56 ex56 => ?_)
                        have ex56 : x56.toInt = g44 20 v43.toInt.toNat := ex56
                        have hd1 : dn = 0 → x56.toInt = 0 := fun h9 => by
                          have h8 : g44 20 v43.toInt.toNat = g 20 v43.toInt.toNat := iv47 20 _ rfl
                          have h7 := hdn.2 h9 v43.toInt.toNat (by omega)
                          omega
                        refine hq_if_ne (tgt := 104) hx hb dX7_tick_98 (by decide) (fun c57 => ?_) (fun c57 => ?_)
                        · refine lv_aload_n hx hb dX7_tick_104 rfl (lv_at hl 0 rfl) ?_
                          refine hp_getr (C := RX7) (T := TX7) (N := 24) (ci := 7) (kd := 11) hx hb hts iX7_tick_X7 hown hK hJ k0 rfl rfl 11 (by decide) (hts (.fieldLink RX7 43 "NeighborBookModel" "waits" "[I") (List.mem_of_getElem? (i := 6) rfl)) (fun _ h9 => h9) rfl dX7_tick_105 (fun b58 kb58 => ?_)
                          refine lv_iload hx hb dX7_tick_108 (lv_at hl 4 rfl) ?_
                          refine lv_dup2_11 hx hb dX7_tick_110 rfl rfl ?_
                          refine hp_iald (kd := 24) (n := 4) hx hb hK hJ kb58 rfl (by omega) (by omega) (sp := (0, 0)) rfl rfl dX7_tick_111 (fun x59 ex59 => ?_)
                          have ex59 : x59.toInt = g44 24 v43.toInt.toNat := ex59
                          refine hq_iconst hx hb dX7_tick_112 (by decide) (by decide) (fun z60 ez60 => ?_)
                          refine hq_isubU hx hb dX7_tick_113 (fun x61 => ?_)
                          refine hp_iastx (kd := 24) (n := 4) hx hb hK hJ kb58 rfl (by omega) (by omega) (by decide) hW rfl rfl dX7_tick_114 (fun g62 H locs eg62 ng62 hJ => ?_)
                          have P63 : hg_P hx_m g g62 := hg_P.put iv47 ng62 rfl
                          have tt64 : g62 11 1 = g44 11 1 := ng62 11 1 (by omega)
                          have tt65 : g62 11 13 = g44 11 13 := ng62 11 13 (by omega)
                          have tt66 : g62 11 22 = g44 11 22 := ng62 11 22 (by omega)
                          refine lv_aload_n hx hb dX7_tick_115 rfl (lv_at hl 0 rfl) ?_
                          refine hp_getr (C := RX7) (T := TX7) (N := 24) (ci := 7) (kd := 11) hx hb hts iX7_tick_X7 hown hK hJ k0 rfl rfl 11 (by decide) (hts (.fieldLink RX7 43 "NeighborBookModel" "waits" "[I") (List.mem_of_getElem? (i := 6) rfl)) (fun _ h9 => h9) rfl dX7_tick_116 (fun b67 kb67 => ?_)
                          refine lv_iload hx hb dX7_tick_119 (lv_at hl 4 rfl) ?_
                          refine hp_iald (kd := 24) (n := 4) hx hb hK hJ kb67 rfl (by omega) (by omega) (sp := (0, 0)) rfl rfl dX7_tick_121 (fun x68 ex68 => ?_)
                          have ex68 : x68.toInt = g62 24 v43.toInt.toNat := ex68
                          refine hq_if_le (tgt := 128) hx hb dX7_tick_122 (by decide) (fun c69 => ?_) (fun c69 => ?_)
                          · refine lv_aload_n hx hb dX7_tick_128 rfl (lv_at hl 0 rfl) ?_
                            refine hp_geti (C := RX7) (T := TX7) (N := 24) (ci := 7) (kd := 11) hx hb hts iX7_tick_X7 hown hK hJ k0 rfl rfl 4 (by decide) (hts (.fieldLink RX7 20 "NeighborBookModel" "interval" "I") (List.mem_of_getElem? (i := 7) rfl)) (fun _ h9 => h9) rfl rfl dX7_tick_129 (fun x70 ex70 => ?_)
                            refine lv_aload_n hx hb dX7_tick_132 rfl (lv_at hl 0 rfl) ?_
                            refine hp_geti (C := RX7) (T := TX7) (N := 24) (ci := 7) (kd := 11) hx hb hts iX7_tick_X7 hown hK hJ k0 rfl rfl 5 (by decide) (hts (.fieldLink RX7 24 "NeighborBookModel" "hold" "I") (List.mem_of_getElem? (i := 8) rfl)) (fun _ h9 => h9) rfl rfl dX7_tick_133 (fun x71 ex71 => ?_)
                            refine hq_imulU hx hb dX7_tick_136 (fun x72 => ?_)
                            refine hq_iconst hx hb dX7_tick_137 (by decide) (by decide) (fun z73 ez73 => ?_)
                            refine hq_iaddU hx hb dX7_tick_138 (fun x74 => ?_)
                            refine lv_istore (lv' := [(5, .int x74), (0, .ref h0), (1, .int n), (2, .int v42), (3, .int v9), (4, .int v43)]) hx hb dX7_tick_139 hl (by decide) rfl (fun ls hl => ?_)
                            refine lv_aload_n hx hb dX7_tick_141 rfl (lv_at hl 1 rfl) ?_
                            refine lv_iload hx hb dX7_tick_142 (lv_at hl 5 rfl) ?_
                            refine lv_iload hx hb dX7_tick_144 (lv_at hl 0 rfl) ?_
                            refine lv_ldc hx hb hown (hts (.constant RX7 119 (65535)) (List.mem_of_getElem? (i := 9) rfl)) dX7_tick_146 ?_
                            refine lv_topi (fun z75 fz75 => ?_)
                            have ez75 : z75.toInt = 65535 := by rw [fz75]; rfl
                            refine hq_icmp_le (tgt := 156) hx hb dX7_tick_148 (by decide) (fun c76 => ?_) (fun c76 => ?_)
                            · refine lv_iload hx hb dX7_tick_156 (lv_at hl 0 rfl) ?_
                              refine hp_callv (va_runV (As := [.int v43, .int x74]) (rest := []) ⟨hx, hb, hml, hown, hts⟩ (c_X7_send l dC dI dA κ B g62 h0 k0 v43 x74 (hg_k.ofm hG P63 (by constructor <;> omega) (by constructor <;> omega) ) (by omega) (by omega)) (cwV 2 hts gX7_tick_X7_send rfl rfl rfl (by decide +kernel) ⟨Nat.le_of_ble_eq_true rfl, Nat.le_of_ble_eq_true rfl⟩) (hp_preV (q := (RX7, TX7, 24)) [.int v43, .int x74] hK hN hW hJ k0 rfl rfl) rfl rfl hl.1 rfl (lv_room (Nat.le_of_ble_eq_true rfl)) dX7_tick_158 ⟨Nat.zero_le _, Nat.zero_le _⟩) hJ (fun g77 H locs hp hJ => ?_)
                              obtain ⟨P79a, K80, f78⟩ := hp
                              obtain ⟨K801, K802, K803, K804, K805, K806, K807, K808⟩ := id K80
                              have P79 : hg_P hx_m g g77 := hg_P.tr P63 P79a
                              have qt81 : g77 1 1 = g62 1 1 := P79a 1 1 rfl
                              have qt82 : g77 11 1 = g62 11 1 := P79a 11 1 rfl
                              have qt83 : g77 10 1 = g62 10 1 := P79a 10 1 rfl
                              have qt84 : g77 4 1 = g62 4 1 := P79a 4 1 rfl
                              refine hq_iincU (k := 3) (lv' := fun (z9 : Int32) => [(2, .int z9), (5, .int x74), (0, .ref h0), (1, .int n), (3, .int v9), (4, .int v43)]) hx hb dX7_tick_161 hl rfl (by decide) (fun _ => rfl) (fun x85 ls hl => ?_)
                              have hl : lv_has ls 6 [(2, .int x85), (5, .int x74), (0, .ref h0), (1, .int n), (3, .int v9), (4, .int v43)] := hl
                              refine lv_aload_n hx hb dX7_tick_164 rfl (lv_at hl 2 rfl) ?_
                              refine hp_getr (C := RX7) (T := TX7) (N := 24) (ci := 7) (kd := 11) hx hb hts iX7_tick_X7 hown hK hJ k0 rfl rfl 12 (by decide) (hts (.fieldLink RX7 46 "NeighborBookModel" "quicks" "[I") (List.mem_of_getElem? (i := 10) rfl)) (fun _ h9 => h9) rfl dX7_tick_165 (fun b86 kb86 => ?_)
                              refine lv_iload hx hb dX7_tick_168 (lv_at hl 5 rfl) ?_
                              refine hp_iald (kd := 25) (n := 4) hx hb hK hJ kb86 rfl (by omega) (by omega) (sp := (0, 0)) rfl rfl dX7_tick_170 (fun x87 ex87 => ?_)
                              have ex87 : x87.toInt = g77 25 v43.toInt.toNat := ex87
                              refine hq_if_le (tgt := 185) hx hb dX7_tick_171 (by decide) (fun c88 => ?_) (fun c88 => ?_)
                              · have hd3 : ¬ dn = 0 := fun h9 => by have := hd1 h9; omega
                                refine lv_aload_n hx hb dX7_tick_185 rfl (lv_at hl 2 rfl) ?_
                                refine hp_getr (C := RX7) (T := TX7) (N := 24) (ci := 7) (kd := 11) hx hb hts iX7_tick_X7 hown hK hJ k0 rfl rfl 11 (by decide) (hts (.fieldLink RX7 43 "NeighborBookModel" "waits" "[I") (List.mem_of_getElem? (i := 6) rfl)) (fun _ h9 => h9) rfl dX7_tick_186 (fun b89 kb89 => ?_)
                                refine lv_iload hx hb dX7_tick_189 (lv_at hl 5 rfl) ?_
                                refine lv_aload_n hx hb dX7_tick_191 rfl (lv_at hl 2 rfl) ?_
                                refine hp_getr (C := RX7) (T := TX7) (N := 24) (ci := 7) (kd := 11) hx hb hts iX7_tick_X7 hown hK hJ k0 rfl rfl 12 (by decide) (hts (.fieldLink RX7 46 "NeighborBookModel" "quicks" "[I") (List.mem_of_getElem? (i := 10) rfl)) (fun _ h9 => h9) rfl dX7_tick_192 (fun b90 kb90 => ?_)
                                refine lv_iload hx hb dX7_tick_195 (lv_at hl 5 rfl) ?_
                                refine hp_iald (kd := 25) (n := 4) hx hb hK hJ kb90 rfl (by omega) (by omega) (sp := (0, 0)) rfl rfl dX7_tick_197 (fun x91 ex91 => ?_)
                                have ex91 : x91.toInt = g77 25 v43.toInt.toNat := ex91
                                refine hq_if_le (tgt := 205) hx hb dX7_tick_198 (by decide) (fun c92 => ?_) (fun c92 => ?_)
                                · refine lv_aload_n hx hb dX7_tick_205 rfl (lv_at hl 2 rfl) ?_
                                  refine hp_geti (C := RX7) (T := TX7) (N := 24) (ci := 7) (kd := 11) hx hb hts iX7_tick_X7 hown hK hJ k0 rfl rfl 4 (by decide) (hts (.fieldLink RX7 20 "NeighborBookModel" "interval" "I") (List.mem_of_getElem? (i := 7) rfl)) (fun _ h9 => h9) rfl rfl dX7_tick_206 (fun x93 ex93 => ?_)
                                  refine hp_iastx (kd := 24) (n := 4) hx hb hK hJ kb89 rfl (by omega) (by omega) (by decide) hW rfl rfl dX7_tick_209 (fun g94 H locs eg94 ng94 hJ => ?_)
                                  have P95 : hg_P hx_m g g94 := hg_P.put P79 ng94 rfl
                                  have tt96 : g94 11 1 = g77 11 1 := ng94 11 1 (by omega)
                                  have tt97 : g94 11 13 = g77 11 13 := ng94 11 13 (by omega)
                                  have tt98 : g94 11 22 = g77 11 22 := ng94 11 22 (by omega)
                                  refine hq_iinc (k := 5) (lv' := fun (z9 : Int32) => [(4, .int z9), (2, .int x85), (5, .int x74), (0, .ref h0), (1, .int n), (3, .int v9)]) hx hb dX7_tick_210 hl rfl (by decide) (by decide) (by omega) (by omega) (by decide) (fun _ => rfl) (fun x99 ls ex99 hl => ?_)
                                  have hl : lv_has ls 6 [(4, .int x99), (2, .int x85), (5, .int x74), (0, .ref h0), (1, .int n), (3, .int v9)] := hl
                                  refine lv_goto (tgt := 85) hx hb dX7_tick_213 (by decide) ?_
                                  exact ihlp45 x85 x99 g94 _ _ ls P95 (hg_k.ofm hG P95 (by constructor <;> omega) (by constructor <;> omega) ) (by omega) (by omega) (by omega) (by omega) hJ (lv_sub hl [3, 4, 1, 5, 0] rfl)
                                · refine hq_iconst hx hb dX7_tick_201 (by decide) (by decide) (fun z100 ez100 => ?_)
                                  refine lv_goto (tgt := 209) hx hb dX7_tick_202 (by decide) ?_
                                  refine hp_iastx (kd := 24) (n := 4) hx hb hK hJ kb89 rfl (by omega) (by omega) (by decide) hW rfl rfl dX7_tick_209 (fun g101 H locs eg101 ng101 hJ => ?_)
                                  have P102 : hg_P hx_m g g101 := hg_P.put P79 ng101 rfl
                                  have tt103 : g101 11 1 = g77 11 1 := ng101 11 1 (by omega)
                                  have tt104 : g101 11 13 = g77 11 13 := ng101 11 13 (by omega)
                                  have tt105 : g101 11 22 = g77 11 22 := ng101 11 22 (by omega)
                                  refine hq_iinc (k := 5) (lv' := fun (z9 : Int32) => [(4, .int z9), (2, .int x85), (5, .int x74), (0, .ref h0), (1, .int n), (3, .int v9)]) hx hb dX7_tick_210 hl rfl (by decide) (by decide) (by omega) (by omega) (by decide) (fun _ => rfl) (fun x106 ls ex106 hl => ?_)
                                  have hl : lv_has ls 6 [(4, .int x106), (2, .int x85), (5, .int x74), (0, .ref h0), (1, .int n), (3, .int v9)] := hl
                                  refine lv_goto (tgt := 85) hx hb dX7_tick_213 (by decide) ?_
                                  exact ihlp45 x85 x106 g101 _ _ ls P102 (hg_k.ofm hG P102 (by constructor <;> omega) (by constructor <;> omega) ) (by omega) (by omega) (by omega) (by omega) hJ (lv_sub hl [3, 4, 1, 5, 0] rfl)
                              · refine lv_aload_n hx hb dX7_tick_174 rfl (lv_at hl 2 rfl) ?_
                                refine hp_getr (C := RX7) (T := TX7) (N := 24) (ci := 7) (kd := 11) hx hb hts iX7_tick_X7 hown hK hJ k0 rfl rfl 12 (by decide) (hts (.fieldLink RX7 46 "NeighborBookModel" "quicks" "[I") (List.mem_of_getElem? (i := 10) rfl)) (fun _ h9 => h9) rfl dX7_tick_175 (fun b107 kb107 => ?_)
                                refine lv_iload hx hb dX7_tick_178 (lv_at hl 5 rfl) ?_
                                refine lv_dup2_11 hx hb dX7_tick_180 rfl rfl ?_
                                refine hp_iald (kd := 25) (n := 4) hx hb hK hJ kb107 rfl (by omega) (by omega) (sp := (0, 0)) rfl rfl dX7_tick_181 (fun x108 ex108 => ?_)
                                have ex108 : x108.toInt = g77 25 v43.toInt.toNat := ex108
                                refine hq_iconst hx hb dX7_tick_182 (by decide) (by decide) (fun z109 ez109 => ?_)
                                refine hq_isubU hx hb dX7_tick_183 (fun x110 => ?_)
                                refine hp_iastx (kd := 25) (n := 4) hx hb hK hJ kb107 rfl (by omega) (by omega) (by decide) hW rfl rfl dX7_tick_184 (fun g111 H locs eg111 ng111 hJ => ?_)
                                have P112 : hg_P hx_m g g111 := hg_P.put P79 ng111 rfl
                                have tt113 : g111 11 1 = g77 11 1 := ng111 11 1 (by omega)
                                have tt114 : g111 11 13 = g77 11 13 := ng111 11 13 (by omega)
                                have tt115 : g111 11 22 = g77 11 22 := ng111 11 22 (by omega)
                                have hd3 : ¬ dn = 0 := fun h9 => by have := hd1 h9; omega
                                refine lv_aload_n hx hb dX7_tick_185 rfl (lv_at hl 2 rfl) ?_
                                refine hp_getr (C := RX7) (T := TX7) (N := 24) (ci := 7) (kd := 11) hx hb hts iX7_tick_X7 hown hK hJ k0 rfl rfl 11 (by decide) (hts (.fieldLink RX7 43 "NeighborBookModel" "waits" "[I") (List.mem_of_getElem? (i := 6) rfl)) (fun _ h9 => h9) rfl dX7_tick_186 (fun b116 kb116 => ?_)
                                refine lv_iload hx hb dX7_tick_189 (lv_at hl 5 rfl) ?_
                                refine lv_aload_n hx hb dX7_tick_191 rfl (lv_at hl 2 rfl) ?_
                                refine hp_getr (C := RX7) (T := TX7) (N := 24) (ci := 7) (kd := 11) hx hb hts iX7_tick_X7 hown hK hJ k0 rfl rfl 12 (by decide) (hts (.fieldLink RX7 46 "NeighborBookModel" "quicks" "[I") (List.mem_of_getElem? (i := 10) rfl)) (fun _ h9 => h9) rfl dX7_tick_192 (fun b117 kb117 => ?_)
                                refine lv_iload hx hb dX7_tick_195 (lv_at hl 5 rfl) ?_
                                refine hp_iald (kd := 25) (n := 4) hx hb hK hJ kb117 rfl (by omega) (by omega) (sp := (0, 0)) rfl rfl dX7_tick_197 (fun x118 ex118 => ?_)
                                have ex118 : x118.toInt = g111 25 v43.toInt.toNat := ex118
                                refine hq_if_le (tgt := 205) hx hb dX7_tick_198 (by decide) (fun c119 => ?_) (fun c119 => ?_)
                                · refine lv_aload_n hx hb dX7_tick_205 rfl (lv_at hl 2 rfl) ?_
                                  refine hp_geti (C := RX7) (T := TX7) (N := 24) (ci := 7) (kd := 11) hx hb hts iX7_tick_X7 hown hK hJ k0 rfl rfl 4 (by decide) (hts (.fieldLink RX7 20 "NeighborBookModel" "interval" "I") (List.mem_of_getElem? (i := 7) rfl)) (fun _ h9 => h9) rfl rfl dX7_tick_206 (fun x120 ex120 => ?_)
                                  refine hp_iastx (kd := 24) (n := 4) hx hb hK hJ kb116 rfl (by omega) (by omega) (by decide) hW rfl rfl dX7_tick_209 (fun g121 H locs eg121 ng121 hJ => ?_)
                                  have P122 : hg_P hx_m g g121 := hg_P.put P112 ng121 rfl
                                  have tt123 : g121 11 1 = g111 11 1 := ng121 11 1 (by omega)
                                  have tt124 : g121 11 13 = g111 11 13 := ng121 11 13 (by omega)
                                  have tt125 : g121 11 22 = g111 11 22 := ng121 11 22 (by omega)
                                  refine hq_iinc (k := 5) (lv' := fun (z9 : Int32) => [(4, .int z9), (2, .int x85), (5, .int x74), (0, .ref h0), (1, .int n), (3, .int v9)]) hx hb dX7_tick_210 hl rfl (by decide) (by decide) (by omega) (by omega) (by decide) (fun _ => rfl) (fun x126 ls ex126 hl => ?_)
                                  have hl : lv_has ls 6 [(4, .int x126), (2, .int x85), (5, .int x74), (0, .ref h0), (1, .int n), (3, .int v9)] := hl
                                  refine lv_goto (tgt := 85) hx hb dX7_tick_213 (by decide) ?_
                                  exact ihlp45 x85 x126 g121 _ _ ls P122 (hg_k.ofm hG P122 (by constructor <;> omega) (by constructor <;> omega) ) (by omega) (by omega) (by omega) (by omega) hJ (lv_sub hl [3, 4, 1, 5, 0] rfl)
                                · refine hq_iconst hx hb dX7_tick_201 (by decide) (by decide) (fun z127 ez127 => ?_)
                                  refine lv_goto (tgt := 209) hx hb dX7_tick_202 (by decide) ?_
                                  refine hp_iastx (kd := 24) (n := 4) hx hb hK hJ kb116 rfl (by omega) (by omega) (by decide) hW rfl rfl dX7_tick_209 (fun g128 H locs eg128 ng128 hJ => ?_)
                                  have P129 : hg_P hx_m g g128 := hg_P.put P112 ng128 rfl
                                  have tt130 : g128 11 1 = g111 11 1 := ng128 11 1 (by omega)
                                  have tt131 : g128 11 13 = g111 11 13 := ng128 11 13 (by omega)
                                  have tt132 : g128 11 22 = g111 11 22 := ng128 11 22 (by omega)
                                  refine hq_iinc (k := 5) (lv' := fun (z9 : Int32) => [(4, .int z9), (2, .int x85), (5, .int x74), (0, .ref h0), (1, .int n), (3, .int v9)]) hx hb dX7_tick_210 hl rfl (by decide) (by decide) (by omega) (by omega) (by decide) (fun _ => rfl) (fun x133 ls ex133 hl => ?_)
                                  have hl : lv_has ls 6 [(4, .int x133), (2, .int x85), (5, .int x74), (0, .ref h0), (1, .int n), (3, .int v9)] := hl
                                  refine lv_goto (tgt := 85) hx hb dX7_tick_213 (by decide) ?_
                                  exact ihlp45 x85 x133 g128 _ _ ls P129 (hg_k.ofm hG P129 (by constructor <;> omega) (by constructor <;> omega) ) (by omega) (by omega) (by omega) (by omega) hJ (lv_sub hl [3, 4, 1, 5, 0] rfl)
                            · refine lv_ldc hx hb hown (hts (.constant RX7 119 (65535)) (List.mem_of_getElem? (i := 9) rfl)) dX7_tick_151 ?_
                              refine lv_topi (fun z134 fz134 => ?_)
                              have ez134 : z134.toInt = 65535 := by rw [fz134]; rfl
                              refine lv_goto (tgt := 158) hx hb dX7_tick_153 (by decide) ?_
                              refine hp_callv (va_runV (As := [.int v43, .int z134]) (rest := []) ⟨hx, hb, hml, hown, hts⟩ (c_X7_send l dC dI dA κ B g62 h0 k0 v43 z134 (hg_k.ofm hG P63 (by constructor <;> omega) (by constructor <;> omega) ) (by omega) (by omega)) (cwV 2 hts gX7_tick_X7_send rfl rfl rfl (by decide +kernel) ⟨Nat.le_of_ble_eq_true rfl, Nat.le_of_ble_eq_true rfl⟩) (hp_preV (q := (RX7, TX7, 24)) [.int v43, .int z134] hK hN hW hJ k0 rfl rfl) rfl rfl hl.1 rfl (lv_room (Nat.le_of_ble_eq_true rfl)) dX7_tick_158 ⟨Nat.zero_le _, Nat.zero_le _⟩) hJ (fun g135 H locs hp hJ => ?_)
                              obtain ⟨P137a, K138, f136⟩ := hp
                              obtain ⟨K1381, K1382, K1383, K1384, K1385, K1386, K1387, K1388⟩ := id K138
                              have P137 : hg_P hx_m g g135 := hg_P.tr P63 P137a
                              have qt139 : g135 1 1 = g62 1 1 := P137a 1 1 rfl
                              have qt140 : g135 11 1 = g62 11 1 := P137a 11 1 rfl
                              have qt141 : g135 10 1 = g62 10 1 := P137a 10 1 rfl
                              have qt142 : g135 4 1 = g62 4 1 := P137a 4 1 rfl
                              refine hq_iincU (k := 3) (lv' := fun (z9 : Int32) => [(2, .int z9), (5, .int x74), (0, .ref h0), (1, .int n), (3, .int v9), (4, .int v43)]) hx hb dX7_tick_161 hl rfl (by decide) (fun _ => rfl) (fun x143 ls hl => ?_)
                              have hl : lv_has ls 6 [(2, .int x143), (5, .int x74), (0, .ref h0), (1, .int n), (3, .int v9), (4, .int v43)] := hl
                              refine lv_aload_n hx hb dX7_tick_164 rfl (lv_at hl 2 rfl) ?_
                              refine hp_getr (C := RX7) (T := TX7) (N := 24) (ci := 7) (kd := 11) hx hb hts iX7_tick_X7 hown hK hJ k0 rfl rfl 12 (by decide) (hts (.fieldLink RX7 46 "NeighborBookModel" "quicks" "[I") (List.mem_of_getElem? (i := 10) rfl)) (fun _ h9 => h9) rfl dX7_tick_165 (fun b144 kb144 => ?_)
                              refine lv_iload hx hb dX7_tick_168 (lv_at hl 5 rfl) ?_
                              refine hp_iald (kd := 25) (n := 4) hx hb hK hJ kb144 rfl (by omega) (by omega) (sp := (0, 0)) rfl rfl dX7_tick_170 (fun x145 ex145 => ?_)
                              have ex145 : x145.toInt = g135 25 v43.toInt.toNat := ex145
                              refine hq_if_le (tgt := 185) hx hb dX7_tick_171 (by decide) (fun c146 => ?_) (fun c146 => ?_)
                              · have hd3 : ¬ dn = 0 := fun h9 => by have := hd1 h9; omega
                                refine lv_aload_n hx hb dX7_tick_185 rfl (lv_at hl 2 rfl) ?_
                                refine hp_getr (C := RX7) (T := TX7) (N := 24) (ci := 7) (kd := 11) hx hb hts iX7_tick_X7 hown hK hJ k0 rfl rfl 11 (by decide) (hts (.fieldLink RX7 43 "NeighborBookModel" "waits" "[I") (List.mem_of_getElem? (i := 6) rfl)) (fun _ h9 => h9) rfl dX7_tick_186 (fun b147 kb147 => ?_)
                                refine lv_iload hx hb dX7_tick_189 (lv_at hl 5 rfl) ?_
                                refine lv_aload_n hx hb dX7_tick_191 rfl (lv_at hl 2 rfl) ?_
                                refine hp_getr (C := RX7) (T := TX7) (N := 24) (ci := 7) (kd := 11) hx hb hts iX7_tick_X7 hown hK hJ k0 rfl rfl 12 (by decide) (hts (.fieldLink RX7 46 "NeighborBookModel" "quicks" "[I") (List.mem_of_getElem? (i := 10) rfl)) (fun _ h9 => h9) rfl dX7_tick_192 (fun b148 kb148 => ?_)
                                refine lv_iload hx hb dX7_tick_195 (lv_at hl 5 rfl) ?_
                                refine hp_iald (kd := 25) (n := 4) hx hb hK hJ kb148 rfl (by omega) (by omega) (sp := (0, 0)) rfl rfl dX7_tick_197 (fun x149 ex149 => ?_)
                                have ex149 : x149.toInt = g135 25 v43.toInt.toNat := ex149
                                refine hq_if_le (tgt := 205) hx hb dX7_tick_198 (by decide) (fun c150 => ?_) (fun c150 => ?_)
                                · refine lv_aload_n hx hb dX7_tick_205 rfl (lv_at hl 2 rfl) ?_
                                  refine hp_geti (C := RX7) (T := TX7) (N := 24) (ci := 7) (kd := 11) hx hb hts iX7_tick_X7 hown hK hJ k0 rfl rfl 4 (by decide) (hts (.fieldLink RX7 20 "NeighborBookModel" "interval" "I") (List.mem_of_getElem? (i := 7) rfl)) (fun _ h9 => h9) rfl rfl dX7_tick_206 (fun x151 ex151 => ?_)
                                  refine hp_iastx (kd := 24) (n := 4) hx hb hK hJ kb147 rfl (by omega) (by omega) (by decide) hW rfl rfl dX7_tick_209 (fun g152 H locs eg152 ng152 hJ => ?_)
                                  have P153 : hg_P hx_m g g152 := hg_P.put P137 ng152 rfl
                                  have tt154 : g152 11 1 = g135 11 1 := ng152 11 1 (by omega)
                                  have tt155 : g152 11 13 = g135 11 13 := ng152 11 13 (by omega)
                                  have tt156 : g152 11 22 = g135 11 22 := ng152 11 22 (by omega)
                                  refine hq_iinc (k := 5) (lv' := fun (z9 : Int32) => [(4, .int z9), (2, .int x143), (5, .int x74), (0, .ref h0), (1, .int n), (3, .int v9)]) hx hb dX7_tick_210 hl rfl (by decide) (by decide) (by omega) (by omega) (by decide) (fun _ => rfl) (fun x157 ls ex157 hl => ?_)
                                  have hl : lv_has ls 6 [(4, .int x157), (2, .int x143), (5, .int x74), (0, .ref h0), (1, .int n), (3, .int v9)] := hl
                                  refine lv_goto (tgt := 85) hx hb dX7_tick_213 (by decide) ?_
                                  exact ihlp45 x143 x157 g152 _ _ ls P153 (hg_k.ofm hG P153 (by constructor <;> omega) (by constructor <;> omega) ) (by omega) (by omega) (by omega) (by omega) hJ (lv_sub hl [3, 4, 1, 5, 0] rfl)
                                · refine hq_iconst hx hb dX7_tick_201 (by decide) (by decide) (fun z158 ez158 => ?_)
                                  refine lv_goto (tgt := 209) hx hb dX7_tick_202 (by decide) ?_
                                  refine hp_iastx (kd := 24) (n := 4) hx hb hK hJ kb147 rfl (by omega) (by omega) (by decide) hW rfl rfl dX7_tick_209 (fun g159 H locs eg159 ng159 hJ => ?_)
                                  have P160 : hg_P hx_m g g159 := hg_P.put P137 ng159 rfl
                                  have tt161 : g159 11 1 = g135 11 1 := ng159 11 1 (by omega)
                                  have tt162 : g159 11 13 = g135 11 13 := ng159 11 13 (by omega)
                                  have tt163 : g159 11 22 = g135 11 22 := ng159 11 22 (by omega)
                                  refine hq_iinc (k := 5) (lv' := fun (z9 : Int32) => [(4, .int z9), (2, .int x143), (5, .int x74), (0, .ref h0), (1, .int n), (3, .int v9)]) hx hb dX7_tick_210 hl rfl (by decide) (by decide) (by omega) (by omega) (by decide) (fun _ => rfl) (fun x164 ls ex164 hl => ?_)
                                  have hl : lv_has ls 6 [(4, .int x164), (2, .int x143), (5, .int x74), (0, .ref h0), (1, .int n), (3, .int v9)] := hl
                                  refine lv_goto (tgt := 85) hx hb dX7_tick_213 (by decide) ?_
                                  exact ihlp45 x143 x164 g159 _ _ ls P160 (hg_k.ofm hG P160 (by constructor <;> omega) (by constructor <;> omega) ) (by omega) (by omega) (by omega) (by omega) hJ (lv_sub hl [3, 4, 1, 5, 0] rfl)
                              · refine lv_aload_n hx hb dX7_tick_174 rfl (lv_at hl 2 rfl) ?_
                                refine hp_getr (C := RX7) (T := TX7) (N := 24) (ci := 7) (kd := 11) hx hb hts iX7_tick_X7 hown hK hJ k0 rfl rfl 12 (by decide) (hts (.fieldLink RX7 46 "NeighborBookModel" "quicks" "[I") (List.mem_of_getElem? (i := 10) rfl)) (fun _ h9 => h9) rfl dX7_tick_175 (fun b165 kb165 => ?_)
                                refine lv_iload hx hb dX7_tick_178 (lv_at hl 5 rfl) ?_
                                refine lv_dup2_11 hx hb dX7_tick_180 rfl rfl ?_
                                refine hp_iald (kd := 25) (n := 4) hx hb hK hJ kb165 rfl (by omega) (by omega) (sp := (0, 0)) rfl rfl dX7_tick_181 (fun x166 ex166 => ?_)
                                have ex166 : x166.toInt = g135 25 v43.toInt.toNat := ex166
                                refine hq_iconst hx hb dX7_tick_182 (by decide) (by decide) (fun z167 ez167 => ?_)
                                refine hq_isubU hx hb dX7_tick_183 (fun x168 => ?_)
                                refine hp_iastx (kd := 25) (n := 4) hx hb hK hJ kb165 rfl (by omega) (by omega) (by decide) hW rfl rfl dX7_tick_184 (fun g169 H locs eg169 ng169 hJ => ?_)
                                have P170 : hg_P hx_m g g169 := hg_P.put P137 ng169 rfl
                                have tt171 : g169 11 1 = g135 11 1 := ng169 11 1 (by omega)
                                have tt172 : g169 11 13 = g135 11 13 := ng169 11 13 (by omega)
                                have tt173 : g169 11 22 = g135 11 22 := ng169 11 22 (by omega)
                                have hd3 : ¬ dn = 0 := fun h9 => by have := hd1 h9; omega
                                refine lv_aload_n hx hb dX7_tick_185 rfl (lv_at hl 2 rfl) ?_
                                refine hp_getr (C := RX7) (T := TX7) (N := 24) (ci := 7) (kd := 11) hx hb hts iX7_tick_X7 hown hK hJ k0 rfl rfl 11 (by decide) (hts (.fieldLink RX7 43 "NeighborBookModel" "waits" "[I") (List.mem_of_getElem? (i := 6) rfl)) (fun _ h9 => h9) rfl dX7_tick_186 (fun b174 kb174 => ?_)
                                refine lv_iload hx hb dX7_tick_189 (lv_at hl 5 rfl) ?_
                                refine lv_aload_n hx hb dX7_tick_191 rfl (lv_at hl 2 rfl) ?_
                                refine hp_getr (C := RX7) (T := TX7) (N := 24) (ci := 7) (kd := 11) hx hb hts iX7_tick_X7 hown hK hJ k0 rfl rfl 12 (by decide) (hts (.fieldLink RX7 46 "NeighborBookModel" "quicks" "[I") (List.mem_of_getElem? (i := 10) rfl)) (fun _ h9 => h9) rfl dX7_tick_192 (fun b175 kb175 => ?_)
                                refine lv_iload hx hb dX7_tick_195 (lv_at hl 5 rfl) ?_
                                refine hp_iald (kd := 25) (n := 4) hx hb hK hJ kb175 rfl (by omega) (by omega) (sp := (0, 0)) rfl rfl dX7_tick_197 (fun x176 ex176 => ?_)
                                have ex176 : x176.toInt = g169 25 v43.toInt.toNat := ex176
                                refine hq_if_le (tgt := 205) hx hb dX7_tick_198 (by decide) (fun c177 => ?_) (fun c177 => ?_)
                                · refine lv_aload_n hx hb dX7_tick_205 rfl (lv_at hl 2 rfl) ?_
                                  refine hp_geti (C := RX7) (T := TX7) (N := 24) (ci := 7) (kd := 11) hx hb hts iX7_tick_X7 hown hK hJ k0 rfl rfl 4 (by decide) (hts (.fieldLink RX7 20 "NeighborBookModel" "interval" "I") (List.mem_of_getElem? (i := 7) rfl)) (fun _ h9 => h9) rfl rfl dX7_tick_206 (fun x178 ex178 => ?_)
                                  refine hp_iastx (kd := 24) (n := 4) hx hb hK hJ kb174 rfl (by omega) (by omega) (by decide) hW rfl rfl dX7_tick_209 (fun g179 H locs eg179 ng179 hJ => ?_)
                                  have P180 : hg_P hx_m g g179 := hg_P.put P170 ng179 rfl
                                  have tt181 : g179 11 1 = g169 11 1 := ng179 11 1 (by omega)
                                  have tt182 : g179 11 13 = g169 11 13 := ng179 11 13 (by omega)
                                  have tt183 : g179 11 22 = g169 11 22 := ng179 11 22 (by omega)
                                  refine hq_iinc (k := 5) (lv' := fun (z9 : Int32) => [(4, .int z9), (2, .int x143), (5, .int x74), (0, .ref h0), (1, .int n), (3, .int v9)]) hx hb dX7_tick_210 hl rfl (by decide) (by decide) (by omega) (by omega) (by decide) (fun _ => rfl) (fun x184 ls ex184 hl => ?_)
                                  have hl : lv_has ls 6 [(4, .int x184), (2, .int x143), (5, .int x74), (0, .ref h0), (1, .int n), (3, .int v9)] := hl
                                  refine lv_goto (tgt := 85) hx hb dX7_tick_213 (by decide) ?_
                                  exact ihlp45 x143 x184 g179 _ _ ls P180 (hg_k.ofm hG P180 (by constructor <;> omega) (by constructor <;> omega) ) (by omega) (by omega) (by omega) (by omega) hJ (lv_sub hl [3, 4, 1, 5, 0] rfl)
                                · refine hq_iconst hx hb dX7_tick_201 (by decide) (by decide) (fun z185 ez185 => ?_)
                                  refine lv_goto (tgt := 209) hx hb dX7_tick_202 (by decide) ?_
                                  refine hp_iastx (kd := 24) (n := 4) hx hb hK hJ kb174 rfl (by omega) (by omega) (by decide) hW rfl rfl dX7_tick_209 (fun g186 H locs eg186 ng186 hJ => ?_)
                                  have P187 : hg_P hx_m g g186 := hg_P.put P170 ng186 rfl
                                  have tt188 : g186 11 1 = g169 11 1 := ng186 11 1 (by omega)
                                  have tt189 : g186 11 13 = g169 11 13 := ng186 11 13 (by omega)
                                  have tt190 : g186 11 22 = g169 11 22 := ng186 11 22 (by omega)
                                  refine hq_iinc (k := 5) (lv' := fun (z9 : Int32) => [(4, .int z9), (2, .int x143), (5, .int x74), (0, .ref h0), (1, .int n), (3, .int v9)]) hx hb dX7_tick_210 hl rfl (by decide) (by decide) (by omega) (by omega) (by decide) (fun _ => rfl) (fun x191 ls ex191 hl => ?_)
                                  have hl : lv_has ls 6 [(4, .int x191), (2, .int x143), (5, .int x74), (0, .ref h0), (1, .int n), (3, .int v9)] := hl
                                  refine lv_goto (tgt := 85) hx hb dX7_tick_213 (by decide) ?_
                                  exact ihlp45 x143 x191 g186 _ _ ls P187 (hg_k.ofm hG P187 (by constructor <;> omega) (by constructor <;> omega) ) (by omega) (by omega) (by omega) (by omega) hJ (lv_sub hl [3, 4, 1, 5, 0] rfl)
                          · refine lv_goto (tgt := 210) hx hb dX7_tick_125 (by decide) ?_
                            refine hq_iinc (k := 4) (lv' := fun (z9 : Int32) => [(4, .int z9), (0, .ref h0), (1, .int n), (2, .int v42), (3, .int v9)]) hx hb dX7_tick_210 hl rfl (by decide) (by decide) (by omega) (by omega) (by decide) (fun _ => rfl) (fun x192 ls ex192 hl => ?_)
                            have hl : lv_has ls 6 [(4, .int x192), (0, .ref h0), (1, .int n), (2, .int v42), (3, .int v9)] := hl
                            refine lv_goto (tgt := 85) hx hb dX7_tick_213 (by decide) ?_
                            exact ihlp45 v42 x192 g62 _ _ ls P63 (hg_k.ofm hG P63 (by constructor <;> omega) (by constructor <;> omega) ) (by omega) (by omega) (by omega) (by omega) hJ (lv_sub hl [1, 2, 3, 4, 0] rfl)
                        · refine lv_goto (tgt := 210) hx hb dX7_tick_101 (by decide) ?_
                          refine hq_iinc (k := 4) (lv' := fun (z9 : Int32) => [(4, .int z9), (0, .ref h0), (1, .int n), (2, .int v42), (3, .int v9)]) hx hb dX7_tick_210 hl rfl (by decide) (by decide) (by omega) (by omega) (by decide) (fun _ => rfl) (fun x193 ls ex193 hl => ?_)
                          have hl : lv_has ls 6 [(4, .int x193), (0, .ref h0), (1, .int n), (2, .int v42), (3, .int v9)] := hl
                          refine lv_goto (tgt := 85) hx hb dX7_tick_213 (by decide) ?_
                          exact ihlp45 v42 x193 g44 _ _ ls iv47 iv48 (by omega) (by omega) (by omega) (by omega) hJ (lv_sub hl [1, 2, 3, 4, 0] rfl)
                  exact lp45 ((5 - z41.toInt).toNat + 1) v8 z41 g33 _ _ ls iv36 iv37 (by omega) (by omega) (by omega) (by omega) hJ (lv_sub hl [1, 2, 3, 4, 0] rfl)
                · refine lv_aload_n hx hb dX7_tick_49 rfl (lv_at hl 0 rfl) ?_
                  refine hp_getr (C := RX7) (T := TX7) (N := 24) (ci := 7) (kd := 11) hx hb hts iX7_tick_X7 hown hK hJ k0 rfl rfl 15 (by decide) (hts (.fieldLink RX7 52 "NeighborBookModel" "left" "[I") (List.mem_of_getElem? (i := 4) rfl)) (fun _ h9 => h9) rfl dX7_tick_50 (fun b194 kb194 => ?_)
                  refine lv_iload hx hb dX7_tick_53 (lv_at hl 4 rfl) ?_
                  refine lv_dup2_11 hx hb dX7_tick_55 rfl rfl ?_
                  refine hp_iald (kd := 27) (n := 13) hx hb hK hJ kb194 rfl (by omega) (by omega) (sp := (1, 0)) rfl rfl dX7_tick_56 (fun x195 ex195 => ?_)
                  refine hq_iconst hx hb dX7_tick_57 (by decide) (by decide) (fun z196 ez196 => ?_)
                  refine hq_isubU hx hb dX7_tick_58 (fun x197 => ?_)
                  refine hp_iast (kd := 27) (n := 13) hx hb hK hJ kb194 rfl (by omega) (by omega) (by decide) hW (sp := (1, 0)) rfl rfl trivial dX7_tick_59 (fun H locs hJ => ?_)
                  refine lv_aload_n hx hb dX7_tick_60 rfl (lv_at hl 0 rfl) ?_
                  refine hp_getr (C := RX7) (T := TX7) (N := 24) (ci := 7) (kd := 11) hx hb hts iX7_tick_X7 hown hK hJ k0 rfl rfl 15 (by decide) (hts (.fieldLink RX7 52 "NeighborBookModel" "left" "[I") (List.mem_of_getElem? (i := 4) rfl)) (fun _ h9 => h9) rfl dX7_tick_61 (fun b198 kb198 => ?_)
                  refine lv_iload hx hb dX7_tick_64 (lv_at hl 4 rfl) ?_
                  refine hp_iald (kd := 27) (n := 13) hx hb hK hJ kb198 rfl (by omega) (by omega) (sp := (1, 0)) rfl rfl dX7_tick_66 (fun x199 ex199 => ?_)
                  refine hq_if_ne (tgt := 76) hx hb dX7_tick_67 (by decide) (fun c200 => ?_) (fun c200 => ?_)
                  · refine hq_iinc (k := 4) (lv' := fun (z9 : Int32) => [(4, .int z9), (0, .ref h0), (1, .int n), (2, .int v8), (3, .int v9)]) hx hb dX7_tick_76 hl rfl (by decide) (by decide) (by omega) (by omega) (by decide) (fun _ => rfl) (fun x201 ls ex201 hl => ?_)
                    have hl : lv_has ls 6 [(4, .int x201), (0, .ref h0), (1, .int n), (2, .int v8), (3, .int v9)] := hl
                    refine lv_goto (tgt := 44) hx hb dX7_tick_79 (by decide) ?_
                    exact ihlp34 x201 g33 _ _ ls iv36 iv37 (by omega) (by omega) (by omega) hJ (lv_sub hl [1, 2, 3, 4, 0] rfl)
                  · refine lv_aload_n hx hb dX7_tick_70 rfl (lv_at hl 0 rfl) ?_
                    refine lv_iload hx hb dX7_tick_71 (lv_at hl 4 rfl) ?_
                    refine hp_callv (va_runV (As := [.int v32]) (rest := []) ⟨hx, hb, hml, hown, hts⟩ (c_X7_forget l dC dI dA κ B g33 h0 k0 v32 iv37 (by omega) (by omega)) (cwV 1 hts gX7_tick_X7_forget rfl rfl rfl (by decide +kernel) ⟨Nat.le_of_ble_eq_true rfl, Nat.le_of_ble_eq_true rfl⟩) (hp_preV (q := (RX7, TX7, 24)) [.int v32] hK hN hW hJ k0 rfl rfl) rfl rfl hl.1 rfl (lv_room (Nat.le_of_ble_eq_true rfl)) dX7_tick_73 ⟨Nat.zero_le _, Nat.zero_le _⟩) hJ (fun g202 H locs hp hJ => ?_)
                    obtain ⟨P204a, K205, f203⟩ := hp
                    obtain ⟨K2051, K2052, K2053, K2054, K2055, K2056, K2057, K2058⟩ := id K205
                    have P204 : hg_P hx_m g g202 := hg_P.tr iv36 P204a
                    have qt206 : g202 1 1 = g33 1 1 := P204a 1 1 rfl
                    have qt207 : g202 11 1 = g33 11 1 := P204a 11 1 rfl
                    have qt208 : g202 10 1 = g33 10 1 := P204a 10 1 rfl
                    have qt209 : g202 4 1 = g33 4 1 := P204a 4 1 rfl
                    refine hq_iinc (k := 4) (lv' := fun (z9 : Int32) => [(4, .int z9), (0, .ref h0), (1, .int n), (2, .int v8), (3, .int v9)]) hx hb dX7_tick_76 hl rfl (by decide) (by decide) (by omega) (by omega) (by decide) (fun _ => rfl) (fun x210 ls ex210 hl => ?_)
                    have hl : lv_has ls 6 [(4, .int x210), (0, .ref h0), (1, .int n), (2, .int v8), (3, .int v9)] := hl
                    refine lv_goto (tgt := 44) hx hb dX7_tick_79 (by decide) ?_
                    exact ihlp34 x210 g202 _ _ ls P204 K205 (by omega) (by omega) (by omega) hJ (lv_sub hl [1, 2, 3, 4, 0] rfl)
            exact lp34 ((x31.toInt + 2).toNat + 1) x31 g24 _ _ ls P25 (hg_k.ofm hG P25 (by constructor <;> omega) (by constructor <;> omega) ) (by omega) (by omega) (by omega) hJ (lv_sub hl [1, 2, 3, 4, 0] rfl)
      exact lp11 ((5001 - z7.toInt).toNat + 1) z6 z7 g _ _ ls hg_P.rf hG (by omega) (by omega) (by omega) (by omega) hJ (lv_sub hl [2, 3, 1, 0] rfl)
    · refine hq_iconst hx hb dX7_tick_12 (by decide) (by decide) (fun z211 ez211 => ?_)
      exact hp_iret hx hb hK hN hW hlocks hJ hr ⟨hg_P.rf, hG, by first | exact Or.inl ⟨by omega, fun h9 => by have := hdn.1 h9; omega⟩ | exact Or.inr ⟨by omega, by omega⟩⟩ dX7_tick_13
