theorem iX7_about_X7 : ∀ w ∈ wsX70, w ∈ wsX7_about := fun _ h => List.mem_cons_of_mem _ (List.mem_append_right _ h)
set_option maxRecDepth 100000 in
set_option maxHeartbeats 4000000 in
theorem e_X7_about (l : Launch) (dC : Nat → ClassId) (dI : Nat → Nat → Nat) (dA : Nat → ClassId) (κ : Nat → Nat) (B : Nat) (g : Nat → Nat → Int) (h0 : Nat) (k0 : κ h0 = 11) (p1 : Int32) (what : Int32) : Met l yX7_about wsX7_about ({ frames := 0, cells := 0, slots := 0, locals := 0 } : Room) (he_Pre dC dI dA κ B g [Value.ref h0, Value.int p1, Value.int what]) (he_Qi dC dI dA κ B (fun r u => g = u)) 0 0 (hp_A B) := by
  refine Met.ofW (cc := cX7_about) (maxL := 5) (ret := (some .int)) (by decide) rfl ?_
  intro p e s m args below meth c s₁ Bd hml hv
  obtain ⟨rfl, hK, hN, hW, hF⟩ := hv
  have hx := Bd.exec
  have hb := Bd.bytes
  have hr := Bd.returns
  have hts := atoms_spec (ws := wsX7_about) Bd.pre
  have hown : s.vm.findClass RX7 = some m.cls := findClass_of_methodNamed Bd.named
  have hlocks := Bd.notSynchronized
  have hJ : he_J dC dI dA κ B g s.heap s.heap [] := ⟨hF, va_S.rf⟩
  have hl := lv_entry ([Value.ref h0, Value.int p1, Value.int what]) (n := 5) (Nat.le_of_ble_eq_true rfl)
  rw [lg_entry_eq]
  generalize (lg_sl ([Value.ref h0, Value.int p1, Value.int what]) ++ List.replicate (5 - (lg_sl ([Value.ref h0, Value.int p1, Value.int what])).length) Slot.unset).toArray = ls at hl ⊢
  have hl : lv_has ls 5 [(0, .ref h0), (1, .int p1), (2, .int what)] := hl
  have hsz := he_msz hJ k0
  have hkn := he_m13 hJ k0
  refine lv_iload_n hx hb dX7_about_0 rfl (lv_at hl 1 rfl) ?_
  refine hq_if_lt (tgt := 9) hx hb dX7_about_1 (by decide) (fun c1 => ?_) (fun c1 => ?_)
  · refine hq_iconst hx hb dX7_about_9 (by decide) (by decide) (fun z2 ez2 => ?_)
    exact he_iret hx hb hK hN hW hlocks hJ hr rfl dX7_about_10
  · refine lv_iload_n hx hb dX7_about_4 rfl (lv_at hl 1 rfl) ?_
    refine hq_iconst hx hb dX7_about_5 (by decide) (by decide) (fun z3 ez3 => ?_)
    refine hq_icmp_lt (tgt := 11) hx hb dX7_about_6 (by decide) (fun c4 => ?_) (fun c4 => ?_)
    · refine hq_iconst hx hb dX7_about_11 (by decide) (by decide) (fun z5 ez5 => ?_)
      refine lv_istore_n (lv' := [(3, .int z5), (0, .ref h0), (1, .int p1), (2, .int what)]) hx hb dX7_about_12 rfl hl (by decide) rfl (fun ls hl => ?_)
      refine hq_iconst hx hb dX7_about_13 (by decide) (by decide) (fun z6 ez6 => ?_)
      refine lv_istore (lv' := [(4, .int z6), (3, .int z5), (0, .ref h0), (1, .int p1), (2, .int what)]) hx hb dX7_about_14 hl (by decide) rfl (fun ls hl => ?_)
      have lp9 : ∀ (nlp9 : Nat) (v7 : Int32) (v8 : Int32) (H : Heap) (locs : List Loc) (ls : Array Slot), (0 ≤ v8.toInt) → (v8.toInt ≤ g 11 13) → (0 ≤ v7.toInt) → (v7.toInt ≤ v8.toInt) → (13 - v8.toInt < (nlp9 : Int)) → he_J dC dI dA κ B g s.heap H locs → lv_has ls 5 [(0, .ref h0), (1, .int p1), (2, .int what), (3, .int v7), (4, .int v8)] → W p l e (headSpec wsX7_about ({ frames := 0, cells := 0, slots := 0, locals := 0 } : Room)).room s m ([Value.ref h0, Value.int p1, Value.int what] : List Value).toArray below meth c H locs 0 0 (MQ below (he_Qi dC dI dA κ B (fun r u => g = u)) ([Value.ref h0, Value.int p1, Value.int what] : List Value).toArray s 0 0 (hp_A B)) (F0 m 16 ls []) := by
        intro nlp9
        induction nlp9 with
        | zero => intro v7 v8 H locs ls iv11 iv12 iv13 iv14 hm10 hJ hl; exact absurd hm10 (by omega)
        | succ nlp9 ihlp9 =>
          intro v7 v8 H locs ls iv11 iv12 iv13 iv14 hm10 hJ hl
          refine lv_iload hx hb dX7_about_16 (lv_at hl 4 rfl) ?_
          refine lv_aload_n hx hb dX7_about_18 rfl (lv_at hl 0 rfl) ?_
          refine he_geti (C := RX7) (T := TX7) (N := 24) (ci := 7) (kd := 11) hx hb hts iX7_about_X7 hown hK hJ k0 rfl rfl 13 (by decide) (hts (.fieldLink RX7 91 "NeighborBookModel" "known" "I") (List.mem_of_getElem? (i := 1) rfl)) (fun _ h9 => h9) rfl rfl dX7_about_19 (fun x15 ex15 => ?_)
          have ex15 : x15.toInt = g 11 13 ∧ 0 ≤ x15.toInt ∧ x15.toInt ≤ 12 := ex15
          refine hq_icmp_ge (tgt := 50) hx hb dX7_about_22 (by decide) (fun c16 => ?_) (fun c16 => ?_)
          · refine lv_iload_n hx hb dX7_about_50 rfl (lv_at hl 2 rfl) ?_
            have h17 : (what.toInt < 0 ∨ 6 < what.toInt) ∨ what.toInt = 0 ∨ what.toInt = 1 ∨ what.toInt = 2 ∨ what.toInt = 3 ∨ what.toInt = 4 ∨ what.toInt = 5 ∨ what.toInt = 6 := by omega
            rcases h17 with h17 | h17 | h17 | h17 | h17 | h17 | h17 | h17
            · refine lv_tableOut (tgt := 144) hx hb dX7_about_51 h17 (by decide) ?_
              refine hq_iconst hx hb dX7_about_144 (by decide) (by decide) (fun z18 ez18 => ?_)
              exact he_iret hx hb hK hN hW hlocks hJ hr rfl dX7_about_145
            · refine lv_tableIn (off := 41) (tgt := 92) hx hb dX7_about_51 (by omega) (by omega) (by rw [h17]; rfl) (by decide) ?_
              refine lv_aload_n hx hb dX7_about_92 rfl (lv_at hl 0 rfl) ?_
              refine he_getr (C := RX7) (T := TX7) (N := 24) (ci := 7) (kd := 11) hx hb hts iX7_about_X7 hown hK hJ k0 rfl rfl 7 (by decide) (hts (.fieldLink RX7 30 "NeighborBookModel" "up" "[Z") (List.mem_of_getElem? (i := 3) rfl)) (fun _ h9 => h9) rfl dX7_about_93 (fun b19 kb19 => ?_)
              refine lv_iload_n hx hb dX7_about_96 rfl (lv_at hl 1 rfl) ?_
              refine he_zald (kd := 20) (n := 4) hx hb hK hJ kb19 rfl (by omega) (by omega) (sp := (9, 1)) rfl rfl dX7_about_97 (fun x20 ex20 => ?_)
              have ex20 : x20.toInt = g 20 p1.toInt.toNat ∧ 0 ≤ x20.toInt ∧ x20.toInt ≤ 1 := ex20
              refine hq_if_eq (tgt := 105) hx hb dX7_about_98 (by decide) (fun c21 => ?_) (fun c21 => ?_)
              · refine hq_iconst hx hb dX7_about_105 (by decide) (by decide) (fun z22 ez22 => ?_)
                exact he_iret hx hb hK hN hW hlocks hJ hr rfl dX7_about_106
              · refine hq_iconst hx hb dX7_about_101 (by decide) (by decide) (fun z23 ez23 => ?_)
                refine lv_goto (tgt := 106) hx hb dX7_about_102 (by decide) ?_
                exact he_iret hx hb hK hN hW hlocks hJ hr rfl dX7_about_106
            · refine lv_tableIn (off := 56) (tgt := 107) hx hb dX7_about_51 (by omega) (by omega) (by rw [h17]; rfl) (by decide) ?_
              refine lv_aload_n hx hb dX7_about_107 rfl (lv_at hl 0 rfl) ?_
              refine he_getr (C := RX7) (T := TX7) (N := 24) (ci := 7) (kd := 11) hx hb hts iX7_about_X7 hown hK hJ k0 rfl rfl 8 (by decide) (hts (.fieldLink RX7 34 "NeighborBookModel" "sentFrames" "[I") (List.mem_of_getElem? (i := 4) rfl)) (fun _ h9 => h9) rfl dX7_about_108 (fun b24 kb24 => ?_)
              refine lv_iload_n hx hb dX7_about_111 rfl (lv_at hl 1 rfl) ?_
              refine he_iald (kd := 21) (n := 4) hx hb hK hJ kb24 rfl (by omega) (by omega) (sp := (0, 0)) rfl rfl dX7_about_112 (fun x25 ex25 => ?_)
              have ex25 : x25.toInt = g 21 p1.toInt.toNat := ex25
              exact he_iret hx hb hK hN hW hlocks hJ hr rfl dX7_about_113
            · refine lv_tableIn (off := 63) (tgt := 114) hx hb dX7_about_51 (by omega) (by omega) (by rw [h17]; rfl) (by decide) ?_
              refine lv_aload_n hx hb dX7_about_114 rfl (lv_at hl 0 rfl) ?_
              refine he_getr (C := RX7) (T := TX7) (N := 24) (ci := 7) (kd := 11) hx hb hts iX7_about_X7 hown hK hJ k0 rfl rfl 9 (by decide) (hts (.fieldLink RX7 37 "NeighborBookModel" "good" "[I") (List.mem_of_getElem? (i := 5) rfl)) (fun _ h9 => h9) rfl dX7_about_115 (fun b26 kb26 => ?_)
              refine lv_iload_n hx hb dX7_about_118 rfl (lv_at hl 1 rfl) ?_
              refine he_iald (kd := 22) (n := 4) hx hb hK hJ kb26 rfl (by omega) (by omega) (sp := (0, 0)) rfl rfl dX7_about_119 (fun x27 ex27 => ?_)
              have ex27 : x27.toInt = g 22 p1.toInt.toNat := ex27
              exact he_iret hx hb hK hN hW hlocks hJ hr rfl dX7_about_120
            · refine lv_tableIn (off := 70) (tgt := 121) hx hb dX7_about_51 (by omega) (by omega) (by rw [h17]; rfl) (by decide) ?_
              refine lv_aload_n hx hb dX7_about_121 rfl (lv_at hl 0 rfl) ?_
              refine he_getr (C := RX7) (T := TX7) (N := 24) (ci := 7) (kd := 11) hx hb hts iX7_about_X7 hown hK hJ k0 rfl rfl 10 (by decide) (hts (.fieldLink RX7 40 "NeighborBookModel" "bad" "[I") (List.mem_of_getElem? (i := 6) rfl)) (fun _ h9 => h9) rfl dX7_about_122 (fun b28 kb28 => ?_)
              refine lv_iload_n hx hb dX7_about_125 rfl (lv_at hl 1 rfl) ?_
              refine he_iald (kd := 23) (n := 4) hx hb hK hJ kb28 rfl (by omega) (by omega) (sp := (0, 0)) rfl rfl dX7_about_126 (fun x29 ex29 => ?_)
              have ex29 : x29.toInt = g 23 p1.toInt.toNat := ex29
              exact he_iret hx hb hK hN hW hlocks hJ hr rfl dX7_about_127
            · refine lv_tableIn (off := 77) (tgt := 128) hx hb dX7_about_51 (by omega) (by omega) (by rw [h17]; rfl) (by decide) ?_
              refine lv_iload_n hx hb dX7_about_128 rfl (lv_at hl 3 rfl) ?_
              exact he_iret hx hb hK hN hW hlocks hJ hr rfl dX7_about_129
            · refine lv_tableIn (off := 79) (tgt := 130) hx hb dX7_about_51 (by omega) (by omega) (by rw [h17]; rfl) (by decide) ?_
              refine lv_aload_n hx hb dX7_about_130 rfl (lv_at hl 0 rfl) ?_
              refine he_getr (C := RX7) (T := TX7) (N := 24) (ci := 7) (kd := 11) hx hb hts iX7_about_X7 hown hK hJ k0 rfl rfl 11 (by decide) (hts (.fieldLink RX7 43 "NeighborBookModel" "waits" "[I") (List.mem_of_getElem? (i := 7) rfl)) (fun _ h9 => h9) rfl dX7_about_131 (fun b30 kb30 => ?_)
              refine lv_iload_n hx hb dX7_about_134 rfl (lv_at hl 1 rfl) ?_
              refine he_iald (kd := 24) (n := 4) hx hb hK hJ kb30 rfl (by omega) (by omega) (sp := (0, 0)) rfl rfl dX7_about_135 (fun x31 ex31 => ?_)
              have ex31 : x31.toInt = g 24 p1.toInt.toNat := ex31
              exact he_iret hx hb hK hN hW hlocks hJ hr rfl dX7_about_136
            · refine lv_tableIn (off := 86) (tgt := 137) hx hb dX7_about_51 (by omega) (by omega) (by rw [h17]; rfl) (by decide) ?_
              refine lv_aload_n hx hb dX7_about_137 rfl (lv_at hl 0 rfl) ?_
              refine he_getr (C := RX7) (T := TX7) (N := 24) (ci := 7) (kd := 11) hx hb hts iX7_about_X7 hown hK hJ k0 rfl rfl 12 (by decide) (hts (.fieldLink RX7 46 "NeighborBookModel" "quicks" "[I") (List.mem_of_getElem? (i := 8) rfl)) (fun _ h9 => h9) rfl dX7_about_138 (fun b32 kb32 => ?_)
              refine lv_iload_n hx hb dX7_about_141 rfl (lv_at hl 1 rfl) ?_
              refine he_iald (kd := 25) (n := 4) hx hb hK hJ kb32 rfl (by omega) (by omega) (sp := (0, 0)) rfl rfl dX7_about_142 (fun x33 ex33 => ?_)
              have ex33 : x33.toInt = g 25 p1.toInt.toNat := ex33
              exact he_iret hx hb hK hN hW hlocks hJ hr rfl dX7_about_143
          · refine lv_iload_n hx hb dX7_about_25 rfl (lv_at hl 3 rfl) ?_
            refine lv_aload_n hx hb dX7_about_26 rfl (lv_at hl 0 rfl) ?_
            refine he_getr (C := RX7) (T := TX7) (N := 24) (ci := 7) (kd := 11) hx hb hts iX7_about_X7 hown hK hJ k0 rfl rfl 14 (by decide) (hts (.fieldLink RX7 49 "NeighborBookModel" "ports" "[I") (List.mem_of_getElem? (i := 2) rfl)) (fun _ h9 => h9) rfl dX7_about_27 (fun b34 kb34 => ?_)
            refine lv_iload hx hb dX7_about_30 (lv_at hl 4 rfl) ?_
            refine he_iald (kd := 26) (n := 13) hx hb hK hJ kb34 rfl (by omega) (by omega) (sp := (9, 3)) rfl rfl dX7_about_32 (fun x35 ex35 => ?_)
            have ex35 : x35.toInt = g 26 v8.toInt.toNat ∧ 0 ≤ x35.toInt ∧ x35.toInt ≤ 3 := ex35
            refine lv_iload_n hx hb dX7_about_33 rfl (lv_at hl 1 rfl) ?_
            refine hq_icmp_ne (tgt := 41) hx hb dX7_about_34 (by decide) (fun c36 => ?_) (fun c36 => ?_)
            · refine hq_iconst hx hb dX7_about_41 (by decide) (by decide) (fun z37 ez37 => ?_)
              refine hq_iadd hx hb dX7_about_42 (by omega) (by omega) (fun x38 ex38 => ?_)
              refine lv_istore_n (lv' := [(3, .int x38), (0, .ref h0), (1, .int p1), (2, .int what), (4, .int v8)]) hx hb dX7_about_43 rfl hl (by decide) rfl (fun ls hl => ?_)
              refine hq_iinc (k := 4) (lv' := fun (z9 : Int32) => [(4, .int z9), (3, .int x38), (0, .ref h0), (1, .int p1), (2, .int what)]) hx hb dX7_about_44 hl rfl (by decide) (by decide) (by omega) (by omega) (by decide) (fun _ => rfl) (fun x39 ls ex39 hl => ?_)
              have hl : lv_has ls 5 [(4, .int x39), (3, .int x38), (0, .ref h0), (1, .int p1), (2, .int what)] := hl
              refine lv_goto (tgt := 16) hx hb dX7_about_47 (by decide) ?_
              exact ihlp9 x38 x39 _ _ ls (by omega) (by omega) (by omega) (by omega) (by omega) hJ (lv_sub hl [2, 3, 4, 1, 0] rfl)
            · refine hq_iconst hx hb dX7_about_37 (by decide) (by decide) (fun z40 ez40 => ?_)
              refine lv_goto (tgt := 42) hx hb dX7_about_38 (by decide) ?_
              refine hq_iadd hx hb dX7_about_42 (by omega) (by omega) (fun x41 ex41 => ?_)
              refine lv_istore_n (lv' := [(3, .int x41), (0, .ref h0), (1, .int p1), (2, .int what), (4, .int v8)]) hx hb dX7_about_43 rfl hl (by decide) rfl (fun ls hl => ?_)
              refine hq_iinc (k := 4) (lv' := fun (z9 : Int32) => [(4, .int z9), (3, .int x41), (0, .ref h0), (1, .int p1), (2, .int what)]) hx hb dX7_about_44 hl rfl (by decide) (by decide) (by omega) (by omega) (by decide) (fun _ => rfl) (fun x42 ls ex42 hl => ?_)
              have hl : lv_has ls 5 [(4, .int x42), (3, .int x41), (0, .ref h0), (1, .int p1), (2, .int what)] := hl
              refine lv_goto (tgt := 16) hx hb dX7_about_47 (by decide) ?_
              exact ihlp9 x41 x42 _ _ ls (by omega) (by omega) (by omega) (by omega) (by omega) hJ (lv_sub hl [2, 3, 4, 1, 0] rfl)
      exact lp9 ((13 - z6.toInt).toNat + 1) z5 z6 _ _ ls (by omega) (by omega) (by omega) (by omega) (by omega) hJ (lv_sub hl [2, 3, 4, 1, 0] rfl)
    · refine hq_iconst hx hb dX7_about_9 (by decide) (by decide) (fun z43 ez43 => ?_)
      exact he_iret hx hb hK hN hW hlocks hJ hr rfl dX7_about_10
theorem iX7_count_X7 : ∀ w ∈ wsX70, w ∈ wsX7_count := fun _ h => List.mem_cons_of_mem _ (List.mem_append_right _ h)
set_option maxRecDepth 100000 in
set_option maxHeartbeats 4000000 in
theorem e_X7_count (l : Launch) (dC : Nat → ClassId) (dI : Nat → Nat → Nat) (dA : Nat → ClassId) (κ : Nat → Nat) (B : Nat) (g : Nat → Nat → Int) (h0 : Nat) (k0 : κ h0 = 11) (what : Int32) : Met l yX7_count wsX7_count ({ frames := 0, cells := 0, slots := 0, locals := 0 } : Room) (he_Pre dC dI dA κ B g [Value.ref h0, Value.int what]) (he_Qi dC dI dA κ B (fun r u => g = u)) 0 0 (hp_A B) := by
  refine Met.ofW (cc := cX7_count) (maxL := 2) (ret := (some .int)) (by decide) rfl ?_
  intro p e s m args below meth c s₁ Bd hml hv
  obtain ⟨rfl, hK, hN, hW, hF⟩ := hv
  have hx := Bd.exec
  have hb := Bd.bytes
  have hr := Bd.returns
  have hts := atoms_spec (ws := wsX7_count) Bd.pre
  have hown : s.vm.findClass RX7 = some m.cls := findClass_of_methodNamed Bd.named
  have hlocks := Bd.notSynchronized
  have hJ : he_J dC dI dA κ B g s.heap s.heap [] := ⟨hF, va_S.rf⟩
  have hl := lv_entry ([Value.ref h0, Value.int what]) (n := 2) (Nat.le_of_ble_eq_true rfl)
  rw [lg_entry_eq]
  generalize (lg_sl ([Value.ref h0, Value.int what]) ++ List.replicate (2 - (lg_sl ([Value.ref h0, Value.int what])).length) Slot.unset).toArray = ls at hl ⊢
  have hl : lv_has ls 2 [(0, .ref h0), (1, .int what)] := hl
  refine lv_iload_n hx hb dX7_count_0 rfl (lv_at hl 1 rfl) ?_
  have h1 : (what.toInt < 0 ∨ 5 < what.toInt) ∨ what.toInt = 0 ∨ what.toInt = 1 ∨ what.toInt = 2 ∨ what.toInt = 3 ∨ what.toInt = 4 ∨ what.toInt = 5 := by omega
  rcases h1 with h1 | h1 | h1 | h1 | h1 | h1 | h1
  · refine lv_tableOut (tgt := 70) hx hb dX7_count_1 h1 (by decide) ?_
    refine hq_iconst hx hb dX7_count_70 (by decide) (by decide) (fun z2 ez2 => ?_)
    exact he_iret hx hb hK hN hW hlocks hJ hr rfl dX7_count_71
  · refine lv_tableIn (off := 39) (tgt := 40) hx hb dX7_count_1 (by omega) (by omega) (by rw [h1]; rfl) (by decide) ?_
    refine lv_aload_n hx hb dX7_count_40 rfl (lv_at hl 0 rfl) ?_
    refine he_geti (C := RX7) (T := TX7) (N := 24) (ci := 7) (kd := 11) hx hb hts iX7_count_X7 hown hK hJ k0 rfl rfl 13 (by decide) (hts (.fieldLink RX7 91 "NeighborBookModel" "known" "I") (List.mem_of_getElem? (i := 1) rfl)) (fun _ h9 => h9) rfl rfl dX7_count_41 (fun x3 ex3 => ?_)
    have ex3 : x3.toInt = g 11 13 ∧ 0 ≤ x3.toInt ∧ x3.toInt ≤ 12 := ex3
    exact he_iret hx hb hK hN hW hlocks hJ hr rfl dX7_count_44
  · refine lv_tableIn (off := 44) (tgt := 45) hx hb dX7_count_1 (by omega) (by omega) (by rw [h1]; rfl) (by decide) ?_
    refine lv_aload_n hx hb dX7_count_45 rfl (lv_at hl 0 rfl) ?_
    refine he_geti (C := RX7) (T := TX7) (N := 24) (ci := 7) (kd := 11) hx hb hts iX7_count_X7 hown hK hJ k0 rfl rfl 19 (by decide) (hts (.fieldLink RX7 115 "NeighborBookModel" "ticks" "I") (List.mem_of_getElem? (i := 2) rfl)) (fun _ h9 => h9) rfl rfl dX7_count_46 (fun x4 ex4 => ?_)
    have ex4 : x4.toInt = g 11 19 := ex4
    exact he_iret hx hb hK hN hW hlocks hJ hr rfl dX7_count_49
  · refine lv_tableIn (off := 49) (tgt := 50) hx hb dX7_count_1 (by omega) (by omega) (by rw [h1]; rfl) (by decide) ?_
    refine lv_aload_n hx hb dX7_count_50 rfl (lv_at hl 0 rfl) ?_
    refine he_geti (C := RX7) (T := TX7) (N := 24) (ci := 7) (kd := 11) hx hb hts iX7_count_X7 hown hK hJ k0 rfl rfl 20 (by decide) (hts (.fieldLink RX7 112 "NeighborBookModel" "fault" "I") (List.mem_of_getElem? (i := 3) rfl)) (fun _ h9 => h9) rfl rfl dX7_count_51 (fun x5 ex5 => ?_)
    have ex5 : x5.toInt = g 11 20 := ex5
    exact he_iret hx hb hK hN hW hlocks hJ hr rfl dX7_count_54
  · refine lv_tableIn (off := 54) (tgt := 55) hx hb dX7_count_1 (by omega) (by omega) (by rw [h1]; rfl) (by decide) ?_
    refine lv_aload_n hx hb dX7_count_55 rfl (lv_at hl 0 rfl) ?_
    refine he_geti (C := RX7) (T := TX7) (N := 24) (ci := 7) (kd := 11) hx hb hts iX7_count_X7 hown hK hJ k0 rfl rfl 1 (by decide) (hts (.fieldLink RX7 70 "NeighborBookModel" "typedSize" "I") (List.mem_of_getElem? (i := 4) rfl)) (fun _ h9 => h9) rfl rfl dX7_count_56 (fun x6 ex6 => ?_)
    have ex6 : x6.toInt = g 11 1 ∧ 0 ≤ x6.toInt ∧ x6.toInt ≤ 700 := ex6
    exact he_iret hx hb hK hN hW hlocks hJ hr rfl dX7_count_59
  · refine lv_tableIn (off := 59) (tgt := 60) hx hb dX7_count_1 (by omega) (by omega) (by rw [h1]; rfl) (by decide) ?_
    refine lv_aload_n hx hb dX7_count_60 rfl (lv_at hl 0 rfl) ?_
    refine he_geti (C := RX7) (T := TX7) (N := 24) (ci := 7) (kd := 11) hx hb hts iX7_count_X7 hown hK hJ k0 rfl rfl 23 (by decide) (hts (.fieldLink RX7 67 "NeighborBookModel" "pagePort" "I") (List.mem_of_getElem? (i := 5) rfl)) (fun _ h9 => h9) rfl rfl dX7_count_61 (fun x7 ex7 => ?_)
    have ex7 : x7.toInt = g 11 23 := ex7
    exact he_iret hx hb hK hN hW hlocks hJ hr rfl dX7_count_64
  · refine lv_tableIn (off := 64) (tgt := 65) hx hb dX7_count_1 (by omega) (by omega) (by rw [h1]; rfl) (by decide) ?_
    refine lv_aload_n hx hb dX7_count_65 rfl (lv_at hl 0 rfl) ?_
    refine he_geti (C := RX7) (T := TX7) (N := 24) (ci := 7) (kd := 11) hx hb hts iX7_count_X7 hown hK hJ k0 rfl rfl 22 (by decide) (hts (.fieldLink RX7 77 "NeighborBookModel" "pageSize" "I") (List.mem_of_getElem? (i := 6) rfl)) (fun _ h9 => h9) rfl rfl dX7_count_66 (fun x8 ex8 => ?_)
    have ex8 : x8.toInt = g 11 22 ∧ 0 ≤ x8.toInt ∧ x8.toInt ≤ 700 := ex8
    exact he_iret hx hb hK hN hW hlocks hJ hr rfl dX7_count_69
theorem iX7_sent_X7 : ∀ w ∈ wsX70, w ∈ wsX7_sent := fun _ h => List.mem_cons_of_mem _ (List.mem_append_right _ h)
set_option maxRecDepth 100000 in
set_option maxHeartbeats 4000000 in
theorem e_X7_sent (l : Launch) (dC : Nat → ClassId) (dI : Nat → Nat → Nat) (dA : Nat → ClassId) (κ : Nat → Nat) (B : Nat) (g : Nat → Nat → Int) (h0 : Nat) (k0 : κ h0 = 11) (k : Int32) : Met l yX7_sent wsX7_sent ({ frames := 0, cells := 0, slots := 0, locals := 0 } : Room) (he_Pre dC dI dA κ B g [Value.ref h0, Value.int k]) (he_Qi dC dI dA κ B (fun r u => g = u)) 0 0 (hp_A B) := by
  refine Met.ofW (cc := cX7_sent) (maxL := 2) (ret := (some .int)) (by decide) rfl ?_
  intro p e s m args below meth c s₁ Bd hml hv
  obtain ⟨rfl, hK, hN, hW, hF⟩ := hv
  have hx := Bd.exec
  have hb := Bd.bytes
  have hr := Bd.returns
  have hts := atoms_spec (ws := wsX7_sent) Bd.pre
  have hown : s.vm.findClass RX7 = some m.cls := findClass_of_methodNamed Bd.named
  have hlocks := Bd.notSynchronized
  have hJ : he_J dC dI dA κ B g s.heap s.heap [] := ⟨hF, va_S.rf⟩
  have hl := lv_entry ([Value.ref h0, Value.int k]) (n := 2) (Nat.le_of_ble_eq_true rfl)
  rw [lg_entry_eq]
  generalize (lg_sl ([Value.ref h0, Value.int k]) ++ List.replicate (2 - (lg_sl ([Value.ref h0, Value.int k])).length) Slot.unset).toArray = ls at hl ⊢
  have hl : lv_has ls 2 [(0, .ref h0), (1, .int k)] := hl
  refine lv_iload_n hx hb dX7_sent_0 rfl (lv_at hl 1 rfl) ?_
  refine hq_if_lt (tgt := 25) hx hb dX7_sent_1 (by decide) (fun c1 => ?_) (fun c1 => ?_)
  · refine hq_iconst hx hb dX7_sent_25 (by decide) (by decide) (fun z2 ez2 => ?_)
    exact he_iret hx hb hK hN hW hlocks hJ hr rfl dX7_sent_26
  · refine lv_iload_n hx hb dX7_sent_4 rfl (lv_at hl 1 rfl) ?_
    refine lv_aload_n hx hb dX7_sent_5 rfl (lv_at hl 0 rfl) ?_
    refine he_geti (C := RX7) (T := TX7) (N := 24) (ci := 7) (kd := 11) hx hb hts iX7_sent_X7 hown hK hJ k0 rfl rfl 22 (by decide) (hts (.fieldLink RX7 77 "NeighborBookModel" "pageSize" "I") (List.mem_of_getElem? (i := 1) rfl)) (fun _ h9 => h9) rfl rfl dX7_sent_6 (fun x3 ex3 => ?_)
    have ex3 : x3.toInt = g 11 22 ∧ 0 ≤ x3.toInt ∧ x3.toInt ≤ 700 := ex3
    refine hq_icmp_ge (tgt := 25) hx hb dX7_sent_9 (by decide) (fun c4 => ?_) (fun c4 => ?_)
    · refine hq_iconst hx hb dX7_sent_25 (by decide) (by decide) (fun z5 ez5 => ?_)
      exact he_iret hx hb hK hN hW hlocks hJ hr rfl dX7_sent_26
    · refine lv_aload_n hx hb dX7_sent_12 rfl (lv_at hl 0 rfl) ?_
      refine he_getr (C := RX7) (T := TX7) (N := 24) (ci := 7) (kd := 11) hx hb hts iX7_sent_X7 hown hK hJ k0 rfl rfl 21 (by decide) (hts (.fieldLink RX7 64 "NeighborBookModel" "page" "[B") (List.mem_of_getElem? (i := 2) rfl)) (fun _ h9 => h9) rfl dX7_sent_13 (fun b6 kb6 => ?_)
      refine lv_iload_n hx hb dX7_sent_16 rfl (lv_at hl 1 rfl) ?_
      refine he_bald (kd := 39) (n := 700) hx hb hK hJ kb6 rfl (by omega) (by omega) (sp := (5, 0)) rfl rfl dX7_sent_17 (fun x7 ex7 => ?_)
      have ex7 : -128 ≤ x7.toInt ∧ x7.toInt ≤ 127 := ex7
      refine hq_sipush hx hb dX7_sent_18 (by decide) (fun z8 ez8 => ?_)
      refine hq_iandm (k := 8) hx hb dX7_sent_21 ez8 (by decide) (fun x9 ex9 => ?_)
      refine lv_goto (tgt := 26) hx hb dX7_sent_22 (by decide) ?_
      exact he_iret hx hb hK hN hW hlocks hJ hr rfl dX7_sent_26
theorem iX7_neighbor_X7 : ∀ w ∈ wsX70, w ∈ wsX7_neighbor := fun _ h => List.mem_cons_of_mem _ (List.mem_append_right _ h)
set_option maxRecDepth 100000 in
set_option maxHeartbeats 4000000 in
theorem e_X7_neighbor (l : Launch) (dC : Nat → ClassId) (dI : Nat → Nat → Nat) (dA : Nat → ClassId) (κ : Nat → Nat) (B : Nat) (g : Nat → Nat → Int) (h0 : Nat) (k0 : κ h0 = 11) (i : Int32) (what : Int32) : Met l yX7_neighbor wsX7_neighbor ({ frames := 0, cells := 0, slots := 0, locals := 0 } : Room) (he_Pre dC dI dA κ B g [Value.ref h0, Value.int i, Value.int what]) (he_Qi dC dI dA κ B (fun r u => g = u)) 0 0 (hp_A B) := by
  refine Met.ofW (cc := cX7_neighbor) (maxL := 5) (ret := (some .int)) (by decide) rfl ?_
  intro p e s m args below meth c s₁ Bd hml hv
  obtain ⟨rfl, hK, hN, hW, hF⟩ := hv
  have hx := Bd.exec
  have hb := Bd.bytes
  have hr := Bd.returns
  have hts := atoms_spec (ws := wsX7_neighbor) Bd.pre
  have hown : s.vm.findClass RX7 = some m.cls := findClass_of_methodNamed Bd.named
  have hlocks := Bd.notSynchronized
  have hJ : he_J dC dI dA κ B g s.heap s.heap [] := ⟨hF, va_S.rf⟩
  have hl := lv_entry ([Value.ref h0, Value.int i, Value.int what]) (n := 5) (Nat.le_of_ble_eq_true rfl)
  rw [lg_entry_eq]
  generalize (lg_sl ([Value.ref h0, Value.int i, Value.int what]) ++ List.replicate (5 - (lg_sl ([Value.ref h0, Value.int i, Value.int what])).length) Slot.unset).toArray = ls at hl ⊢
  have hl : lv_has ls 5 [(0, .ref h0), (1, .int i), (2, .int what)] := hl
  refine lv_iload_n hx hb dX7_neighbor_0 rfl (lv_at hl 1 rfl) ?_
  refine hq_if_lt (tgt := 21) hx hb dX7_neighbor_1 (by decide) (fun c1 => ?_) (fun c1 => ?_)
  · refine hq_iconst hx hb dX7_neighbor_21 (by decide) (by decide) (fun z2 ez2 => ?_)
    exact he_iret hx hb hK hN hW hlocks hJ hr rfl dX7_neighbor_22
  · refine lv_iload_n hx hb dX7_neighbor_4 rfl (lv_at hl 1 rfl) ?_
    refine lv_aload_n hx hb dX7_neighbor_5 rfl (lv_at hl 0 rfl) ?_
    refine he_geti (C := RX7) (T := TX7) (N := 24) (ci := 7) (kd := 11) hx hb hts iX7_neighbor_X7 hown hK hJ k0 rfl rfl 13 (by decide) (hts (.fieldLink RX7 91 "NeighborBookModel" "known" "I") (List.mem_of_getElem? (i := 1) rfl)) (fun _ h9 => h9) rfl rfl dX7_neighbor_6 (fun x3 ex3 => ?_)
    have ex3 : x3.toInt = g 11 13 ∧ 0 ≤ x3.toInt ∧ x3.toInt ≤ 12 := ex3
    refine hq_icmp_ge (tgt := 21) hx hb dX7_neighbor_9 (by decide) (fun c4 => ?_) (fun c4 => ?_)
    · refine hq_iconst hx hb dX7_neighbor_21 (by decide) (by decide) (fun z5 ez5 => ?_)
      exact he_iret hx hb hK hN hW hlocks hJ hr rfl dX7_neighbor_22
    · refine lv_iload_n hx hb dX7_neighbor_12 rfl (lv_at hl 2 rfl) ?_
      refine hq_if_lt (tgt := 21) hx hb dX7_neighbor_13 (by decide) (fun c6 => ?_) (fun c6 => ?_)
      · refine hq_iconst hx hb dX7_neighbor_21 (by decide) (by decide) (fun z7 ez7 => ?_)
        exact he_iret hx hb hK hN hW hlocks hJ hr rfl dX7_neighbor_22
      · refine lv_iload_n hx hb dX7_neighbor_16 rfl (lv_at hl 2 rfl) ?_
        refine hq_iconst hx hb dX7_neighbor_17 (by decide) (by decide) (fun z8 ez8 => ?_)
        refine hq_icmp_le (tgt := 23) hx hb dX7_neighbor_18 (by decide) (fun c9 => ?_) (fun c9 => ?_)
        · refine lv_iload_n hx hb dX7_neighbor_23 rfl (lv_at hl 2 rfl) ?_
          refine hq_if_ne (tgt := 34) hx hb dX7_neighbor_24 (by decide) (fun c10 => ?_) (fun c10 => ?_)
          · refine lv_iload_n hx hb dX7_neighbor_34 rfl (lv_at hl 2 rfl) ?_
            refine hq_iconst hx hb dX7_neighbor_35 (by decide) (by decide) (fun z11 ez11 => ?_)
            refine hq_icmp_ne (tgt := 46) hx hb dX7_neighbor_36 (by decide) (fun c12 => ?_) (fun c12 => ?_)
            · refine lv_iload_n hx hb dX7_neighbor_46 rfl (lv_at hl 2 rfl) ?_
              refine hq_iconst hx hb dX7_neighbor_47 (by decide) (by decide) (fun z13 ez13 => ?_)
              refine hq_icmp_ne (tgt := 58) hx hb dX7_neighbor_48 (by decide) (fun c14 => ?_) (fun c14 => ?_)
              · refine hq_iconst hx hb dX7_neighbor_58 (by decide) (by decide) (fun z15 ez15 => ?_)
                refine lv_istore_n (lv' := [(3, .int z15), (0, .ref h0), (1, .int i), (2, .int what)]) hx hb dX7_neighbor_59 rfl hl (by decide) rfl (fun ls hl => ?_)
                refine hq_iconst hx hb dX7_neighbor_60 (by decide) (by decide) (fun z16 ez16 => ?_)
                refine lv_istore (lv' := [(4, .int z16), (3, .int z15), (0, .ref h0), (1, .int i), (2, .int what)]) hx hb dX7_neighbor_61 hl (by decide) rfl (fun ls hl => ?_)
                have lp19 : ∀ (nlp19 : Nat) (v17 : Int32) (v18 : Int32) (H : Heap) (locs : List Loc) (ls : Array Slot), (1 ≤ v18.toInt) → (v18.toInt ≤ 9) → (10 - v18.toInt < (nlp19 : Int)) → he_J dC dI dA κ B g s.heap H locs → lv_has ls 5 [(0, .ref h0), (1, .int i), (2, .int what), (3, .int v17), (4, .int v18)] → W p l e (headSpec wsX7_neighbor ({ frames := 0, cells := 0, slots := 0, locals := 0 } : Room)).room s m ([Value.ref h0, Value.int i, Value.int what] : List Value).toArray below meth c H locs 0 0 (MQ below (he_Qi dC dI dA κ B (fun r u => g = u)) ([Value.ref h0, Value.int i, Value.int what] : List Value).toArray s 0 0 (hp_A B)) (F0 m 63 ls []) := by
                  intro nlp19
                  induction nlp19 with
                  | zero => intro v17 v18 H locs ls iv21 iv22 hm20 hJ hl; exact absurd hm20 (by omega)
                  | succ nlp19 ihlp19 =>
                    intro v17 v18 H locs ls iv21 iv22 hm20 hJ hl
                    refine lv_iload hx hb dX7_neighbor_63 (lv_at hl 4 rfl) ?_
                    refine hq_bipush hx hb dX7_neighbor_65 (by decide) (fun z23 ez23 => ?_)
                    refine hq_icmp_ge (tgt := 109) hx hb dX7_neighbor_67 (by decide) (fun c24 => ?_) (fun c24 => ?_)
                    · refine lv_iload_n hx hb dX7_neighbor_109 rfl (lv_at hl 3 rfl) ?_
                      exact he_iret hx hb hK hN hW hlocks hJ hr rfl dX7_neighbor_110
                    · refine lv_iload_n hx hb dX7_neighbor_70 rfl (lv_at hl 3 rfl) ?_
                      refine lv_iload hx hb dX7_neighbor_71 (lv_at hl 4 rfl) ?_
                      refine hq_iconst hx hb dX7_neighbor_73 (by decide) (by decide) (fun z25 ez25 => ?_)
                      refine hq_icmp_eq (tgt := 100) hx hb dX7_neighbor_74 (by decide) (fun c26 => ?_) (fun c26 => ?_)
                      · refine hq_iconst hx hb dX7_neighbor_100 (by decide) (by decide) (fun z27 ez27 => ?_)
                        refine hq_iorU hx hb dX7_neighbor_101 (fun x28 => ?_)
                        refine lv_istore_n (lv' := [(3, .int x28), (0, .ref h0), (1, .int i), (2, .int what), (4, .int v18)]) hx hb dX7_neighbor_102 rfl hl (by decide) rfl (fun ls hl => ?_)
                        refine hq_iinc (k := 4) (lv' := fun (z9 : Int32) => [(4, .int z9), (3, .int x28), (0, .ref h0), (1, .int i), (2, .int what)]) hx hb dX7_neighbor_103 hl rfl (by decide) (by decide) (by omega) (by omega) (by decide) (fun _ => rfl) (fun x29 ls ex29 hl => ?_)
                        have hl : lv_has ls 5 [(4, .int x29), (3, .int x28), (0, .ref h0), (1, .int i), (2, .int what)] := hl
                        refine lv_goto (tgt := 63) hx hb dX7_neighbor_106 (by decide) ?_
                        exact ihlp19 x28 x29 _ _ ls (by omega) (by omega) (by omega) hJ (lv_sub hl [2, 3, 4, 1, 0] rfl)
                      · refine lv_aload_n hx hb dX7_neighbor_77 rfl (lv_at hl 0 rfl) ?_
                        refine he_getr (C := RX7) (T := TX7) (N := 24) (ci := 7) (kd := 11) hx hb hts iX7_neighbor_X7 hown hK hJ k0 rfl rfl 18 (by decide) (hts (.fieldLink RX7 61 "NeighborBookModel" "sizes" "[I") (List.mem_of_getElem? (i := 5) rfl)) (fun _ h9 => h9) rfl dX7_neighbor_78 (fun b30 kb30 => ?_)
                        refine hq_bipush hx hb dX7_neighbor_81 (by decide) (fun z31 ez31 => ?_)
                        refine lv_iload_n hx hb dX7_neighbor_83 rfl (lv_at hl 1 rfl) ?_
                        refine hq_imul (w := 9 * i.toInt) hx hb dX7_neighbor_84 (by rw [ez31]) (by omega) (by omega) (fun x32 ex32 => ?_)
                        refine lv_iload hx hb dX7_neighbor_85 (lv_at hl 4 rfl) ?_
                        refine hq_iadd hx hb dX7_neighbor_87 (by omega) (by omega) (fun x33 ex33 => ?_)
                        refine he_iald (kd := 30) (n := 117) hx hb hK hJ kb30 rfl (by omega) (by omega) (sp := (10, 60)) rfl rfl dX7_neighbor_88 (fun x34 ex34 => ?_)
                        have ex34 : x34.toInt = g 30 x33.toInt.toNat ∧ -1 ≤ x34.toInt ∧ x34.toInt ≤ 60 := ex34
                        refine hq_iconst hx hb dX7_neighbor_89 (by decide) (by decide) (fun z35 ez35 => ?_)
                        refine hq_icmp_eq (tgt := 100) hx hb dX7_neighbor_90 (by decide) (fun c36 => ?_) (fun c36 => ?_)
                        · refine hq_iconst hx hb dX7_neighbor_100 (by decide) (by decide) (fun z37 ez37 => ?_)
                          refine hq_iorU hx hb dX7_neighbor_101 (fun x38 => ?_)
                          refine lv_istore_n (lv' := [(3, .int x38), (0, .ref h0), (1, .int i), (2, .int what), (4, .int v18)]) hx hb dX7_neighbor_102 rfl hl (by decide) rfl (fun ls hl => ?_)
                          refine hq_iinc (k := 4) (lv' := fun (z9 : Int32) => [(4, .int z9), (3, .int x38), (0, .ref h0), (1, .int i), (2, .int what)]) hx hb dX7_neighbor_103 hl rfl (by decide) (by decide) (by omega) (by omega) (by decide) (fun _ => rfl) (fun x39 ls ex39 hl => ?_)
                          have hl : lv_has ls 5 [(4, .int x39), (3, .int x38), (0, .ref h0), (1, .int i), (2, .int what)] := hl
                          refine lv_goto (tgt := 63) hx hb dX7_neighbor_106 (by decide) ?_
                          exact ihlp19 x38 x39 _ _ ls (by omega) (by omega) (by omega) hJ (lv_sub hl [2, 3, 4, 1, 0] rfl)
                        · refine hq_iconst hx hb dX7_neighbor_93 (by decide) (by decide) (fun z40 ez40 => ?_)
                          refine lv_iload hx hb dX7_neighbor_94 (lv_at hl 4 rfl) ?_
                          refine hq_ishlU hx hb dX7_neighbor_96 (fun x41 => ?_)
                          refine lv_goto (tgt := 101) hx hb dX7_neighbor_97 (by decide) ?_
                          refine hq_iorU hx hb dX7_neighbor_101 (fun x42 => ?_)
                          refine lv_istore_n (lv' := [(3, .int x42), (0, .ref h0), (1, .int i), (2, .int what), (4, .int v18)]) hx hb dX7_neighbor_102 rfl hl (by decide) rfl (fun ls hl => ?_)
                          refine hq_iinc (k := 4) (lv' := fun (z9 : Int32) => [(4, .int z9), (3, .int x42), (0, .ref h0), (1, .int i), (2, .int what)]) hx hb dX7_neighbor_103 hl rfl (by decide) (by decide) (by omega) (by omega) (by decide) (fun _ => rfl) (fun x43 ls ex43 hl => ?_)
                          have hl : lv_has ls 5 [(4, .int x43), (3, .int x42), (0, .ref h0), (1, .int i), (2, .int what)] := hl
                          refine lv_goto (tgt := 63) hx hb dX7_neighbor_106 (by decide) ?_
                          exact ihlp19 x42 x43 _ _ ls (by omega) (by omega) (by omega) hJ (lv_sub hl [2, 3, 4, 1, 0] rfl)
                exact lp19 ((10 - z16.toInt).toNat + 1) z15 z16 _ _ ls (by omega) (by omega) (by omega) hJ (lv_sub hl [2, 3, 4, 1, 0] rfl)
              · refine lv_aload_n hx hb dX7_neighbor_51 rfl (lv_at hl 0 rfl) ?_
                refine he_getr (C := RX7) (T := TX7) (N := 24) (ci := 7) (kd := 11) hx hb hts iX7_neighbor_X7 hown hK hJ k0 rfl rfl 16 (by decide) (hts (.fieldLink RX7 55 "NeighborBookModel" "frames" "[I") (List.mem_of_getElem? (i := 4) rfl)) (fun _ h9 => h9) rfl dX7_neighbor_52 (fun b44 kb44 => ?_)
                refine lv_iload_n hx hb dX7_neighbor_55 rfl (lv_at hl 1 rfl) ?_
                refine he_iald (kd := 28) (n := 13) hx hb hK hJ kb44 rfl (by omega) (by omega) (sp := (0, 0)) rfl rfl dX7_neighbor_56 (fun x45 ex45 => ?_)
                have ex45 : x45.toInt = g 28 i.toInt.toNat := ex45
                exact he_iret hx hb hK hN hW hlocks hJ hr rfl dX7_neighbor_57
            · refine lv_aload_n hx hb dX7_neighbor_39 rfl (lv_at hl 0 rfl) ?_
              refine he_getr (C := RX7) (T := TX7) (N := 24) (ci := 7) (kd := 11) hx hb hts iX7_neighbor_X7 hown hK hJ k0 rfl rfl 15 (by decide) (hts (.fieldLink RX7 52 "NeighborBookModel" "left" "[I") (List.mem_of_getElem? (i := 3) rfl)) (fun _ h9 => h9) rfl dX7_neighbor_40 (fun b46 kb46 => ?_)
              refine lv_iload_n hx hb dX7_neighbor_43 rfl (lv_at hl 1 rfl) ?_
              refine he_iald (kd := 27) (n := 13) hx hb hK hJ kb46 rfl (by omega) (by omega) (sp := (0, 0)) rfl rfl dX7_neighbor_44 (fun x47 ex47 => ?_)
              have ex47 : x47.toInt = g 27 i.toInt.toNat := ex47
              exact he_iret hx hb hK hN hW hlocks hJ hr rfl dX7_neighbor_45
          · refine lv_aload_n hx hb dX7_neighbor_27 rfl (lv_at hl 0 rfl) ?_
            refine he_getr (C := RX7) (T := TX7) (N := 24) (ci := 7) (kd := 11) hx hb hts iX7_neighbor_X7 hown hK hJ k0 rfl rfl 14 (by decide) (hts (.fieldLink RX7 49 "NeighborBookModel" "ports" "[I") (List.mem_of_getElem? (i := 2) rfl)) (fun _ h9 => h9) rfl dX7_neighbor_28 (fun b48 kb48 => ?_)
            refine lv_iload_n hx hb dX7_neighbor_31 rfl (lv_at hl 1 rfl) ?_
            refine he_iald (kd := 26) (n := 13) hx hb hK hJ kb48 rfl (by omega) (by omega) (sp := (9, 3)) rfl rfl dX7_neighbor_32 (fun x49 ex49 => ?_)
            have ex49 : x49.toInt = g 26 i.toInt.toNat ∧ 0 ≤ x49.toInt ∧ x49.toInt ≤ 3 := ex49
            exact he_iret hx hb hK hN hW hlocks hJ hr rfl dX7_neighbor_33
        · refine hq_iconst hx hb dX7_neighbor_21 (by decide) (by decide) (fun z50 ez50 => ?_)
          exact he_iret hx hb hK hN hW hlocks hJ hr rfl dX7_neighbor_22
theorem iX7_content_X7 : ∀ w ∈ wsX70, w ∈ wsX7_content := fun _ h => List.mem_cons_of_mem _ (List.mem_append_right _ h)
set_option maxRecDepth 100000 in
set_option maxHeartbeats 4000000 in
theorem e_X7_content (l : Launch) (dC : Nat → ClassId) (dI : Nat → Nat → Nat) (dA : Nat → ClassId) (κ : Nat → Nat) (B : Nat) (g : Nat → Nat → Int) (h0 : Nat) (k0 : κ h0 = 11) (i : Int32) (type : Int32) (k : Int32) : Met l yX7_content wsX7_content ({ frames := 0, cells := 0, slots := 0, locals := 0 } : Room) (he_Pre dC dI dA κ B g [Value.ref h0, Value.int i, Value.int type, Value.int k]) (he_Qi dC dI dA κ B (fun r u => g = u)) 0 0 (hp_A B) := by
  refine Met.ofW (cc := cX7_content) (maxL := 5) (ret := (some .int)) (by decide) rfl ?_
  intro p e s m args below meth c s₁ Bd hml hv
  obtain ⟨rfl, hK, hN, hW, hF⟩ := hv
  have hx := Bd.exec
  have hb := Bd.bytes
  have hr := Bd.returns
  have hts := atoms_spec (ws := wsX7_content) Bd.pre
  have hown : s.vm.findClass RX7 = some m.cls := findClass_of_methodNamed Bd.named
  have hlocks := Bd.notSynchronized
  have hJ : he_J dC dI dA κ B g s.heap s.heap [] := ⟨hF, va_S.rf⟩
  have hl := lv_entry ([Value.ref h0, Value.int i, Value.int type, Value.int k]) (n := 5) (Nat.le_of_ble_eq_true rfl)
  rw [lg_entry_eq]
  generalize (lg_sl ([Value.ref h0, Value.int i, Value.int type, Value.int k]) ++ List.replicate (5 - (lg_sl ([Value.ref h0, Value.int i, Value.int type, Value.int k])).length) Slot.unset).toArray = ls at hl ⊢
  have hl : lv_has ls 5 [(0, .ref h0), (1, .int i), (2, .int type), (3, .int k)] := hl
  refine lv_iload_n hx hb dX7_content_0 rfl (lv_at hl 1 rfl) ?_
  refine hq_if_lt (tgt := 28) hx hb dX7_content_1 (by decide) (fun c1 => ?_) (fun c1 => ?_)
  · refine hq_iconst hx hb dX7_content_28 (by decide) (by decide) (fun z2 ez2 => ?_)
    exact he_iret hx hb hK hN hW hlocks hJ hr rfl dX7_content_29
  · refine lv_iload_n hx hb dX7_content_4 rfl (lv_at hl 1 rfl) ?_
    refine lv_aload_n hx hb dX7_content_5 rfl (lv_at hl 0 rfl) ?_
    refine he_geti (C := RX7) (T := TX7) (N := 24) (ci := 7) (kd := 11) hx hb hts iX7_content_X7 hown hK hJ k0 rfl rfl 13 (by decide) (hts (.fieldLink RX7 91 "NeighborBookModel" "known" "I") (List.mem_of_getElem? (i := 1) rfl)) (fun _ h9 => h9) rfl rfl dX7_content_6 (fun x3 ex3 => ?_)
    have ex3 : x3.toInt = g 11 13 ∧ 0 ≤ x3.toInt ∧ x3.toInt ≤ 12 := ex3
    refine hq_icmp_ge (tgt := 28) hx hb dX7_content_9 (by decide) (fun c4 => ?_) (fun c4 => ?_)
    · refine hq_iconst hx hb dX7_content_28 (by decide) (by decide) (fun z5 ez5 => ?_)
      exact he_iret hx hb hK hN hW hlocks hJ hr rfl dX7_content_29
    · refine lv_iload_n hx hb dX7_content_12 rfl (lv_at hl 2 rfl) ?_
      refine hq_iconst hx hb dX7_content_13 (by decide) (by decide) (fun z6 ez6 => ?_)
      refine hq_icmp_lt (tgt := 28) hx hb dX7_content_14 (by decide) (fun c7 => ?_) (fun c7 => ?_)
      · refine hq_iconst hx hb dX7_content_28 (by decide) (by decide) (fun z8 ez8 => ?_)
        exact he_iret hx hb hK hN hW hlocks hJ hr rfl dX7_content_29
      · refine lv_iload_n hx hb dX7_content_17 rfl (lv_at hl 2 rfl) ?_
        refine hq_bipush hx hb dX7_content_18 (by decide) (fun z9 ez9 => ?_)
        refine hq_icmp_ge (tgt := 28) hx hb dX7_content_20 (by decide) (fun c10 => ?_) (fun c10 => ?_)
        · refine hq_iconst hx hb dX7_content_28 (by decide) (by decide) (fun z11 ez11 => ?_)
          exact he_iret hx hb hK hN hW hlocks hJ hr rfl dX7_content_29
        · refine lv_iload_n hx hb dX7_content_23 rfl (lv_at hl 2 rfl) ?_
          refine hq_iconst hx hb dX7_content_24 (by decide) (by decide) (fun z12 ez12 => ?_)
          refine hq_icmp_ne (tgt := 30) hx hb dX7_content_25 (by decide) (fun c13 => ?_) (fun c13 => ?_)
          · refine lv_aload_n hx hb dX7_content_30 rfl (lv_at hl 0 rfl) ?_
            refine he_getr (C := RX7) (T := TX7) (N := 24) (ci := 7) (kd := 11) hx hb hts iX7_content_X7 hown hK hJ k0 rfl rfl 18 (by decide) (hts (.fieldLink RX7 61 "NeighborBookModel" "sizes" "[I") (List.mem_of_getElem? (i := 2) rfl)) (fun _ h9 => h9) rfl dX7_content_31 (fun b14 kb14 => ?_)
            refine hq_bipush hx hb dX7_content_34 (by decide) (fun z15 ez15 => ?_)
            refine lv_iload_n hx hb dX7_content_36 rfl (lv_at hl 1 rfl) ?_
            refine hq_imul (w := 9 * i.toInt) hx hb dX7_content_37 (by rw [ez15]) (by omega) (by omega) (fun x16 ex16 => ?_)
            refine lv_iload_n hx hb dX7_content_38 rfl (lv_at hl 2 rfl) ?_
            refine hq_iadd hx hb dX7_content_39 (by omega) (by omega) (fun x17 ex17 => ?_)
            refine he_iald (kd := 30) (n := 117) hx hb hK hJ kb14 rfl (by omega) (by omega) (sp := (10, 60)) rfl rfl dX7_content_40 (fun x18 ex18 => ?_)
            have ex18 : x18.toInt = g 30 x17.toInt.toNat ∧ -1 ≤ x18.toInt ∧ x18.toInt ≤ 60 := ex18
            refine lv_istore (lv' := [(4, .int x18), (0, .ref h0), (1, .int i), (2, .int type), (3, .int k)]) hx hb dX7_content_41 hl (by decide) rfl (fun ls hl => ?_)
            refine lv_iload_n hx hb dX7_content_43 rfl (lv_at hl 4 rfl) ?_
            refine hq_iconst hx hb dX7_content_44 (by decide) (by decide) (fun z19 ez19 => ?_)
            refine hq_icmp_eq (tgt := 54) hx hb dX7_content_45 (by decide) (fun c20 => ?_) (fun c20 => ?_)
            · refine lv_iload hx hb dX7_content_54 (lv_at hl 0 rfl) ?_
              exact he_iret hx hb hK hN hW hlocks hJ hr rfl dX7_content_56
            · refine lv_iload hx hb dX7_content_48 (lv_at hl 0 rfl) ?_
              refine hq_iconst hx hb dX7_content_50 (by decide) (by decide) (fun z21 ez21 => ?_)
              refine hq_icmp_ne (tgt := 57) hx hb dX7_content_51 (by decide) (fun c22 => ?_) (fun c22 => ?_)
              · refine lv_iload_n hx hb dX7_content_57 rfl (lv_at hl 4 rfl) ?_
                refine hq_if_lt (tgt := 90) hx hb dX7_content_58 (by decide) (fun c23 => ?_) (fun c23 => ?_)
                · refine hq_iconst hx hb dX7_content_90 (by decide) (by decide) (fun z24 ez24 => ?_)
                  exact he_iret hx hb hK hN hW hlocks hJ hr rfl dX7_content_91
                · refine lv_iload_n hx hb dX7_content_61 rfl (lv_at hl 4 rfl) ?_
                  refine lv_iload hx hb dX7_content_62 (lv_at hl 0 rfl) ?_
                  refine hq_icmp_ge (tgt := 90) hx hb dX7_content_64 (by decide) (fun c25 => ?_) (fun c25 => ?_)
                  · refine hq_iconst hx hb dX7_content_90 (by decide) (by decide) (fun z26 ez26 => ?_)
                    exact he_iret hx hb hK hN hW hlocks hJ hr rfl dX7_content_91
                  · refine lv_aload_n hx hb dX7_content_67 rfl (lv_at hl 1 rfl) ?_
                    refine he_getr (C := RX7) (T := TX7) (N := 24) (ci := 7) (kd := 11) hx hb hts iX7_content_X7 hown hK hJ k0 rfl rfl 17 (by decide) (hts (.fieldLink RX7 58 "NeighborBookModel" "bytes" "[B") (List.mem_of_getElem? (i := 3) rfl)) (fun _ h9 => h9) rfl dX7_content_68 (fun b27 kb27 => ?_)
                    refine hq_bipush hx hb dX7_content_71 (by decide) (fun z28 ez28 => ?_)
                    refine lv_iload_n hx hb dX7_content_73 rfl (lv_at hl 2 rfl) ?_
                    refine hq_imul (w := 9 * i.toInt) hx hb dX7_content_74 (by rw [ez28]) (by omega) (by omega) (fun x29 ex29 => ?_)
                    refine lv_iload_n hx hb dX7_content_75 rfl (lv_at hl 3 rfl) ?_
                    refine hq_iadd hx hb dX7_content_76 (by omega) (by omega) (fun x30 ex30 => ?_)
                    refine hq_bipush hx hb dX7_content_77 (by decide) (fun z31 ez31 => ?_)
                    refine hq_imul (w := x30.toInt * 60) hx hb dX7_content_79 (by rw [ez31]) (by omega) (by omega) (fun x32 ex32 => ?_)
                    refine lv_iload_n hx hb dX7_content_80 rfl (lv_at hl 4 rfl) ?_
                    refine hq_iadd hx hb dX7_content_81 (by omega) (by omega) (fun x33 ex33 => ?_)
                    refine he_bald (kd := 29) (n := 7020) hx hb hK hJ kb27 rfl (by omega) (by omega) (sp := (11, 0)) rfl rfl dX7_content_82 (fun x34 ex34 => ?_)
                    have ex34 : x34.toInt = g 29 x33.toInt.toNat ∧ -128 ≤ x34.toInt ∧ x34.toInt ≤ 127 := ex34
                    refine hq_sipush hx hb dX7_content_83 (by decide) (fun z35 ez35 => ?_)
                    refine hq_iandm (k := 8) hx hb dX7_content_86 ez35 (by decide) (fun x36 ex36 => ?_)
                    refine lv_goto (tgt := 91) hx hb dX7_content_87 (by decide) ?_
                    exact he_iret hx hb hK hN hW hlocks hJ hr rfl dX7_content_91
              · refine lv_iload hx hb dX7_content_54 (lv_at hl 0 rfl) ?_
                exact he_iret hx hb hK hN hW hlocks hJ hr rfl dX7_content_56
          · refine hq_iconst hx hb dX7_content_28 (by decide) (by decide) (fun z37 ez37 => ?_)
            exact he_iret hx hb hK hN hW hlocks hJ hr rfl dX7_content_29
