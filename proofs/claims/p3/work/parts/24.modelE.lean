theorem iX7_about_X7 : ∀ w ∈ wsX70, w ∈ wsX7_about := fun _ h => List.mem_cons_of_mem _ (List.mem_append_right _ h)
set_option maxRecDepth 100000 in
set_option maxHeartbeats 4000000 in
theorem c_X7_about (l : Launch) (dC : Nat → ClassId) (dI : Nat → Nat → Nat) (dA : Nat → ClassId) (κ : Nat → Nat) (B : Nat) (g : Nat → Nat → Int) (h0 : Nat) (k0 : κ h0 = 11) (p1 : Int32) (what : Int32) (hG : hg_k g) : Met l yX7_about wsX7_about ({ frames := 0, cells := 0, slots := 0, locals := 0 } : Room) (hp_Pre dC dI dA κ B g [Value.ref h0, Value.int p1, Value.int what]) (hp_Qi dC dI dA κ B (fun r u => g = u)) 0 0 (hp_A B) := by
  refine Met.ofW (cc := cX7_about) (maxL := 5) (ret := (some .int)) (by decide) rfl ?_
  intro p e s m args below meth c s₁ Bd hml hv
  obtain ⟨rfl, hK, hN, hW, hF⟩ := hv
  have hx := Bd.exec
  have hb := Bd.bytes
  have hr := Bd.returns
  have hts := atoms_spec (ws := wsX7_about) Bd.pre
  have hown : s.vm.findClass RX7 = some m.cls := findClass_of_methodNamed Bd.named
  have hlocks := Bd.notSynchronized
  have hJ : hp_J dC dI dA κ B g s.heap s.heap [] := ⟨hF, va_S.rf⟩
  have hl := lv_entry ([Value.ref h0, Value.int p1, Value.int what]) (n := 5) (Nat.le_of_ble_eq_true rfl)
  rw [lg_entry_eq]
  generalize (lg_sl ([Value.ref h0, Value.int p1, Value.int what]) ++ List.replicate (5 - (lg_sl ([Value.ref h0, Value.int p1, Value.int what])).length) Slot.unset).toArray = ls at hl ⊢
  have hl : lv_has ls 5 [(0, .ref h0), (1, .int p1), (2, .int what)] := hl
  obtain ⟨hG1, hG2, hG3, hG4, hG5, hG6, hG7, hG8⟩ := id hG
  refine lv_iload_n hx hb dX7_about_0 rfl (lv_at hl 1 rfl) ?_
  refine hq_if_lt (tgt := 9) hx hb dX7_about_1 (by decide) (fun c1 => ?_) (fun c1 => ?_)
  · refine hq_iconst hx hb dX7_about_9 (by decide) (by decide) (fun z2 ez2 => ?_)
    exact hp_iret hx hb hK hN hW hlocks hJ hr rfl dX7_about_10
  · refine lv_iload_n hx hb dX7_about_4 rfl (lv_at hl 1 rfl) ?_
    refine hq_iconst hx hb dX7_about_5 (by decide) (by decide) (fun z3 ez3 => ?_)
    refine hq_icmp_lt (tgt := 11) hx hb dX7_about_6 (by decide) (fun c4 => ?_) (fun c4 => ?_)
    · refine hq_iconst hx hb dX7_about_11 (by decide) (by decide) (fun z5 ez5 => ?_)
      refine lv_istore_n (lv' := [(3, .int z5), (0, .ref h0), (1, .int p1), (2, .int what)]) hx hb dX7_about_12 rfl hl (by decide) rfl (fun ls hl => ?_)
      refine hq_iconst hx hb dX7_about_13 (by decide) (by decide) (fun z6 ez6 => ?_)
      refine lv_istore (lv' := [(4, .int z6), (3, .int z5), (0, .ref h0), (1, .int p1), (2, .int what)]) hx hb dX7_about_14 hl (by decide) rfl (fun ls hl => ?_)
      have lp9 : ∀ (nlp9 : Nat) (v7 : Int32) (v8 : Int32) (H : Heap) (locs : List Loc) (ls : Array Slot), (0 ≤ v8.toInt) → (v8.toInt ≤ g 11 13) → (0 ≤ v7.toInt) → (v7.toInt ≤ v8.toInt) → (13 - v8.toInt < (nlp9 : Int)) → hp_J dC dI dA κ B g s.heap H locs → lv_has ls 5 [(0, .ref h0), (1, .int p1), (2, .int what), (3, .int v7), (4, .int v8)] → W p l e (headSpec wsX7_about ({ frames := 0, cells := 0, slots := 0, locals := 0 } : Room)).room s m ([Value.ref h0, Value.int p1, Value.int what] : List Value).toArray below meth c H locs 0 0 (MQ below (hp_Qi dC dI dA κ B (fun r u => g = u)) ([Value.ref h0, Value.int p1, Value.int what] : List Value).toArray s 0 0 (hp_A B)) (F0 m 16 ls []) := by
        intro nlp9
        induction nlp9 with
        | zero => intro v7 v8 H locs ls iv11 iv12 iv13 iv14 hm10 hJ hl; exact absurd hm10 (by omega)
        | succ nlp9 ihlp9 =>
          intro v7 v8 H locs ls iv11 iv12 iv13 iv14 hm10 hJ hl
          refine lv_iload hx hb dX7_about_16 (lv_at hl 4 rfl) ?_
          refine lv_aload_n hx hb dX7_about_18 rfl (lv_at hl 0 rfl) ?_
          refine hp_geti (C := RX7) (T := TX7) (N := 24) (ci := 7) (kd := 11) hx hb hts iX7_about_X7 hown hK hJ k0 rfl rfl 13 (by decide) (hts (.fieldLink RX7 91 "NeighborBookModel" "known" "I") (List.mem_of_getElem? (i := 1) rfl)) (fun _ h9 => h9) rfl rfl dX7_about_19 (fun x15 ex15 => ?_)
          have ex15 : x15.toInt = g 11 13 := ex15
          refine hq_icmp_ge (tgt := 50) hx hb dX7_about_22 (by decide) (fun c16 => ?_) (fun c16 => ?_)
          · refine lv_iload_n hx hb dX7_about_50 rfl (lv_at hl 2 rfl) ?_
            have h17 : (what.toInt < 0 ∨ 6 < what.toInt) ∨ what.toInt = 0 ∨ what.toInt = 1 ∨ what.toInt = 2 ∨ what.toInt = 3 ∨ what.toInt = 4 ∨ what.toInt = 5 ∨ what.toInt = 6 := by omega
            rcases h17 with h17 | h17 | h17 | h17 | h17 | h17 | h17 | h17
            · refine lv_tableOut (tgt := 144) hx hb dX7_about_51 h17 (by decide) ?_
              refine hq_iconst hx hb dX7_about_144 (by decide) (by decide) (fun z18 ez18 => ?_)
              exact hp_iret hx hb hK hN hW hlocks hJ hr rfl dX7_about_145
            · refine lv_tableIn (off := 41) (tgt := 92) hx hb dX7_about_51 (by omega) (by omega) (by rw [h17]; rfl) (by decide) ?_
              have hGq := hG8 p1.toInt.toNat (by omega)
              refine lv_aload_n hx hb dX7_about_92 rfl (lv_at hl 0 rfl) ?_
              refine hp_getr (C := RX7) (T := TX7) (N := 24) (ci := 7) (kd := 11) hx hb hts iX7_about_X7 hown hK hJ k0 rfl rfl 7 (by decide) (hts (.fieldLink RX7 30 "NeighborBookModel" "up" "[Z") (List.mem_of_getElem? (i := 3) rfl)) (fun _ h9 => h9) rfl dX7_about_93 (fun b19 kb19 => ?_)
              refine lv_iload_n hx hb dX7_about_96 rfl (lv_at hl 1 rfl) ?_
              refine hp_zald (kd := 20) (n := 4) hx hb hK hJ kb19 rfl (by omega) (by omega) (sp := (0, 0)) rfl rfl dX7_about_97 (fun x20 ex20 => ?_)
              have ex20 : x20.toInt = g 20 p1.toInt.toNat := ex20
              refine hq_if_eq (tgt := 105) hx hb dX7_about_98 (by decide) (fun c21 => ?_) (fun c21 => ?_)
              · refine hq_iconst hx hb dX7_about_105 (by decide) (by decide) (fun z22 ez22 => ?_)
                exact hp_iret hx hb hK hN hW hlocks hJ hr rfl dX7_about_106
              · refine hq_iconst hx hb dX7_about_101 (by decide) (by decide) (fun z23 ez23 => ?_)
                refine lv_goto (tgt := 106) hx hb dX7_about_102 (by decide) ?_
                exact hp_iret hx hb hK hN hW hlocks hJ hr rfl dX7_about_106
            · refine lv_tableIn (off := 56) (tgt := 107) hx hb dX7_about_51 (by omega) (by omega) (by rw [h17]; rfl) (by decide) ?_
              refine lv_aload_n hx hb dX7_about_107 rfl (lv_at hl 0 rfl) ?_
              refine hp_getr (C := RX7) (T := TX7) (N := 24) (ci := 7) (kd := 11) hx hb hts iX7_about_X7 hown hK hJ k0 rfl rfl 8 (by decide) (hts (.fieldLink RX7 34 "NeighborBookModel" "sentFrames" "[I") (List.mem_of_getElem? (i := 4) rfl)) (fun _ h9 => h9) rfl dX7_about_108 (fun b24 kb24 => ?_)
              refine lv_iload_n hx hb dX7_about_111 rfl (lv_at hl 1 rfl) ?_
              refine hp_iald (kd := 21) (n := 4) hx hb hK hJ kb24 rfl (by omega) (by omega) (sp := (0, 0)) rfl rfl dX7_about_112 (fun x25 ex25 => ?_)
              have ex25 : x25.toInt = g 21 p1.toInt.toNat := ex25
              exact hp_iret hx hb hK hN hW hlocks hJ hr rfl dX7_about_113
            · refine lv_tableIn (off := 63) (tgt := 114) hx hb dX7_about_51 (by omega) (by omega) (by rw [h17]; rfl) (by decide) ?_
              refine lv_aload_n hx hb dX7_about_114 rfl (lv_at hl 0 rfl) ?_
              refine hp_getr (C := RX7) (T := TX7) (N := 24) (ci := 7) (kd := 11) hx hb hts iX7_about_X7 hown hK hJ k0 rfl rfl 9 (by decide) (hts (.fieldLink RX7 37 "NeighborBookModel" "good" "[I") (List.mem_of_getElem? (i := 5) rfl)) (fun _ h9 => h9) rfl dX7_about_115 (fun b26 kb26 => ?_)
              refine lv_iload_n hx hb dX7_about_118 rfl (lv_at hl 1 rfl) ?_
              refine hp_iald (kd := 22) (n := 4) hx hb hK hJ kb26 rfl (by omega) (by omega) (sp := (0, 0)) rfl rfl dX7_about_119 (fun x27 ex27 => ?_)
              have ex27 : x27.toInt = g 22 p1.toInt.toNat := ex27
              exact hp_iret hx hb hK hN hW hlocks hJ hr rfl dX7_about_120
            · refine lv_tableIn (off := 70) (tgt := 121) hx hb dX7_about_51 (by omega) (by omega) (by rw [h17]; rfl) (by decide) ?_
              refine lv_aload_n hx hb dX7_about_121 rfl (lv_at hl 0 rfl) ?_
              refine hp_getr (C := RX7) (T := TX7) (N := 24) (ci := 7) (kd := 11) hx hb hts iX7_about_X7 hown hK hJ k0 rfl rfl 10 (by decide) (hts (.fieldLink RX7 40 "NeighborBookModel" "bad" "[I") (List.mem_of_getElem? (i := 6) rfl)) (fun _ h9 => h9) rfl dX7_about_122 (fun b28 kb28 => ?_)
              refine lv_iload_n hx hb dX7_about_125 rfl (lv_at hl 1 rfl) ?_
              refine hp_iald (kd := 23) (n := 4) hx hb hK hJ kb28 rfl (by omega) (by omega) (sp := (0, 0)) rfl rfl dX7_about_126 (fun x29 ex29 => ?_)
              have ex29 : x29.toInt = g 23 p1.toInt.toNat := ex29
              exact hp_iret hx hb hK hN hW hlocks hJ hr rfl dX7_about_127
            · refine lv_tableIn (off := 77) (tgt := 128) hx hb dX7_about_51 (by omega) (by omega) (by rw [h17]; rfl) (by decide) ?_
              refine lv_iload_n hx hb dX7_about_128 rfl (lv_at hl 3 rfl) ?_
              exact hp_iret hx hb hK hN hW hlocks hJ hr rfl dX7_about_129
            · refine lv_tableIn (off := 79) (tgt := 130) hx hb dX7_about_51 (by omega) (by omega) (by rw [h17]; rfl) (by decide) ?_
              refine lv_aload_n hx hb dX7_about_130 rfl (lv_at hl 0 rfl) ?_
              refine hp_getr (C := RX7) (T := TX7) (N := 24) (ci := 7) (kd := 11) hx hb hts iX7_about_X7 hown hK hJ k0 rfl rfl 11 (by decide) (hts (.fieldLink RX7 43 "NeighborBookModel" "waits" "[I") (List.mem_of_getElem? (i := 7) rfl)) (fun _ h9 => h9) rfl dX7_about_131 (fun b30 kb30 => ?_)
              refine lv_iload_n hx hb dX7_about_134 rfl (lv_at hl 1 rfl) ?_
              refine hp_iald (kd := 24) (n := 4) hx hb hK hJ kb30 rfl (by omega) (by omega) (sp := (0, 0)) rfl rfl dX7_about_135 (fun x31 ex31 => ?_)
              have ex31 : x31.toInt = g 24 p1.toInt.toNat := ex31
              exact hp_iret hx hb hK hN hW hlocks hJ hr rfl dX7_about_136
            · refine lv_tableIn (off := 86) (tgt := 137) hx hb dX7_about_51 (by omega) (by omega) (by rw [h17]; rfl) (by decide) ?_
              refine lv_aload_n hx hb dX7_about_137 rfl (lv_at hl 0 rfl) ?_
              refine hp_getr (C := RX7) (T := TX7) (N := 24) (ci := 7) (kd := 11) hx hb hts iX7_about_X7 hown hK hJ k0 rfl rfl 12 (by decide) (hts (.fieldLink RX7 46 "NeighborBookModel" "quicks" "[I") (List.mem_of_getElem? (i := 8) rfl)) (fun _ h9 => h9) rfl dX7_about_138 (fun b32 kb32 => ?_)
              refine lv_iload_n hx hb dX7_about_141 rfl (lv_at hl 1 rfl) ?_
              refine hp_iald (kd := 25) (n := 4) hx hb hK hJ kb32 rfl (by omega) (by omega) (sp := (0, 0)) rfl rfl dX7_about_142 (fun x33 ex33 => ?_)
              have ex33 : x33.toInt = g 25 p1.toInt.toNat := ex33
              exact hp_iret hx hb hK hN hW hlocks hJ hr rfl dX7_about_143
          · refine lv_iload_n hx hb dX7_about_25 rfl (lv_at hl 3 rfl) ?_
            refine lv_aload_n hx hb dX7_about_26 rfl (lv_at hl 0 rfl) ?_
            refine hp_getr (C := RX7) (T := TX7) (N := 24) (ci := 7) (kd := 11) hx hb hts iX7_about_X7 hown hK hJ k0 rfl rfl 14 (by decide) (hts (.fieldLink RX7 49 "NeighborBookModel" "ports" "[I") (List.mem_of_getElem? (i := 2) rfl)) (fun _ h9 => h9) rfl dX7_about_27 (fun b34 kb34 => ?_)
            refine lv_iload hx hb dX7_about_30 (lv_at hl 4 rfl) ?_
            refine hp_iald (kd := 26) (n := 13) hx hb hK hJ kb34 rfl (by omega) (by omega) (sp := (2, 3)) rfl rfl dX7_about_32 (fun x35 ex35 => ?_)
            have ex35 : 0 ≤ x35.toInt ∧ x35.toInt ≤ 3 := ex35
            refine lv_iload_n hx hb dX7_about_33 rfl (lv_at hl 1 rfl) ?_
            refine hq_icmp_ne (tgt := 41) hx hb dX7_about_34 (by decide) (fun c36 => ?_) (fun c36 => ?_)
            · refine hq_iconst hx hb dX7_about_41 (by decide) (by decide) (fun z37 ez37 => ?_)
              refine hq_iadd hx hb dX7_about_42 (by omega) (by omega) (fun x38 ex38 => ?_)
              refine lv_istore_n (lv' := [(3, .int x38), (0, .ref h0), (1, .int p1), (2, .int what), (4, .int v8)]) hx hb dX7_about_43 rfl hl (by decide) rfl (fun ls hl => ?_)
              refine hq_iinc (k := 4) (lv' := fun (z9 : Int32) => [(4, .int z9), (3, .int x38), (0, .ref h0), (1, .int p1), (2, .int what)]) hx hb dX7_about_44 hl rfl (by decide) (by decide) (by omega) (by omega) (by decide) (fun _ => rfl) (fun x39 ls ex39 hl => ?_)
              have hl : lv_has ls 5 [(4, .int x39), (3, .int x38), (0, .ref h0), (1, .int p1), (2, .int what)] := hl
              refine lv_goto (tgt := 16) hx hb dX7_about_47 (by decide) ?_
              exact ihlp9 x38 x39 _ _ ls (by omega) (by omega) (by omega) (by omega) (by omega) hJ (lv_sub hl [2, 3, 4, 1, 0] rfl)
            · refine hq_iconst hx hb dX7_about_37 (by decide) (by decide) (fun z40 ez40 => ?_)
              refine lv_goto (tgt := 42) hx hb dX7_about_38 (by decide) ?_
              refine hq_iadd hx hb dX7_about_42 (by omega) (by omega) (fun x41 ex41 => ?_)
              refine lv_istore_n (lv' := [(3, .int x41), (0, .ref h0), (1, .int p1), (2, .int what), (4, .int v8)]) hx hb dX7_about_43 rfl hl (by decide) rfl (fun ls hl => ?_)
              refine hq_iinc (k := 4) (lv' := fun (z9 : Int32) => [(4, .int z9), (3, .int x41), (0, .ref h0), (1, .int p1), (2, .int what)]) hx hb dX7_about_44 hl rfl (by decide) (by decide) (by omega) (by omega) (by decide) (fun _ => rfl) (fun x42 ls ex42 hl => ?_)
              have hl : lv_has ls 5 [(4, .int x42), (3, .int x41), (0, .ref h0), (1, .int p1), (2, .int what)] := hl
              refine lv_goto (tgt := 16) hx hb dX7_about_47 (by decide) ?_
              exact ihlp9 x41 x42 _ _ ls (by omega) (by omega) (by omega) (by omega) (by omega) hJ (lv_sub hl [2, 3, 4, 1, 0] rfl)
      exact lp9 ((13 - z6.toInt).toNat + 1) z5 z6 _ _ ls (by omega) (by omega) (by omega) (by omega) (by omega) hJ (lv_sub hl [2, 3, 4, 1, 0] rfl)
    · refine hq_iconst hx hb dX7_about_9 (by decide) (by decide) (fun z43 ez43 => ?_)
      exact hp_iret hx hb hK hN hW hlocks hJ hr rfl dX7_about_10
theorem iX7_count_X7 : ∀ w ∈ wsX70, w ∈ wsX7_count := fun _ h => List.mem_cons_of_mem _ (List.mem_append_right _ h)
set_option maxRecDepth 100000 in
set_option maxHeartbeats 4000000 in
theorem c_X7_count (l : Launch) (dC : Nat → ClassId) (dI : Nat → Nat → Nat) (dA : Nat → ClassId) (κ : Nat → Nat) (B : Nat) (g : Nat → Nat → Int) (h0 : Nat) (k0 : κ h0 = 11) (what : Int32) (hG : hg_k g) : Met l yX7_count wsX7_count ({ frames := 0, cells := 0, slots := 0, locals := 0 } : Room) (hp_Pre dC dI dA κ B g [Value.ref h0, Value.int what]) (hp_Qi dC dI dA κ B (fun r u => g = u)) 0 0 (hp_A B) := by
  refine Met.ofW (cc := cX7_count) (maxL := 2) (ret := (some .int)) (by decide) rfl ?_
  intro p e s m args below meth c s₁ Bd hml hv
  obtain ⟨rfl, hK, hN, hW, hF⟩ := hv
  have hx := Bd.exec
  have hb := Bd.bytes
  have hr := Bd.returns
  have hts := atoms_spec (ws := wsX7_count) Bd.pre
  have hown : s.vm.findClass RX7 = some m.cls := findClass_of_methodNamed Bd.named
  have hlocks := Bd.notSynchronized
  have hJ : hp_J dC dI dA κ B g s.heap s.heap [] := ⟨hF, va_S.rf⟩
  have hl := lv_entry ([Value.ref h0, Value.int what]) (n := 2) (Nat.le_of_ble_eq_true rfl)
  rw [lg_entry_eq]
  generalize (lg_sl ([Value.ref h0, Value.int what]) ++ List.replicate (2 - (lg_sl ([Value.ref h0, Value.int what])).length) Slot.unset).toArray = ls at hl ⊢
  have hl : lv_has ls 2 [(0, .ref h0), (1, .int what)] := hl
  obtain ⟨hG1, hG2, hG3, hG4, hG5, hG6, hG7, hG8⟩ := id hG
  refine lv_iload_n hx hb dX7_count_0 rfl (lv_at hl 1 rfl) ?_
  have h1 : (what.toInt < 0 ∨ 5 < what.toInt) ∨ what.toInt = 0 ∨ what.toInt = 1 ∨ what.toInt = 2 ∨ what.toInt = 3 ∨ what.toInt = 4 ∨ what.toInt = 5 := by omega
  rcases h1 with h1 | h1 | h1 | h1 | h1 | h1 | h1
  · refine lv_tableOut (tgt := 70) hx hb dX7_count_1 h1 (by decide) ?_
    refine hq_iconst hx hb dX7_count_70 (by decide) (by decide) (fun z2 ez2 => ?_)
    exact hp_iret hx hb hK hN hW hlocks hJ hr rfl dX7_count_71
  · refine lv_tableIn (off := 39) (tgt := 40) hx hb dX7_count_1 (by omega) (by omega) (by rw [h1]; rfl) (by decide) ?_
    refine lv_aload_n hx hb dX7_count_40 rfl (lv_at hl 0 rfl) ?_
    refine hp_geti (C := RX7) (T := TX7) (N := 24) (ci := 7) (kd := 11) hx hb hts iX7_count_X7 hown hK hJ k0 rfl rfl 13 (by decide) (hts (.fieldLink RX7 91 "NeighborBookModel" "known" "I") (List.mem_of_getElem? (i := 1) rfl)) (fun _ h9 => h9) rfl rfl dX7_count_41 (fun x3 ex3 => ?_)
    have ex3 : x3.toInt = g 11 13 := ex3
    exact hp_iret hx hb hK hN hW hlocks hJ hr rfl dX7_count_44
  · refine lv_tableIn (off := 44) (tgt := 45) hx hb dX7_count_1 (by omega) (by omega) (by rw [h1]; rfl) (by decide) ?_
    refine lv_aload_n hx hb dX7_count_45 rfl (lv_at hl 0 rfl) ?_
    refine hp_geti (C := RX7) (T := TX7) (N := 24) (ci := 7) (kd := 11) hx hb hts iX7_count_X7 hown hK hJ k0 rfl rfl 19 (by decide) (hts (.fieldLink RX7 115 "NeighborBookModel" "ticks" "I") (List.mem_of_getElem? (i := 2) rfl)) (fun _ h9 => h9) rfl rfl dX7_count_46 (fun x4 ex4 => ?_)
    have ex4 : x4.toInt = g 11 19 := ex4
    exact hp_iret hx hb hK hN hW hlocks hJ hr rfl dX7_count_49
  · refine lv_tableIn (off := 49) (tgt := 50) hx hb dX7_count_1 (by omega) (by omega) (by rw [h1]; rfl) (by decide) ?_
    refine lv_aload_n hx hb dX7_count_50 rfl (lv_at hl 0 rfl) ?_
    refine hp_geti (C := RX7) (T := TX7) (N := 24) (ci := 7) (kd := 11) hx hb hts iX7_count_X7 hown hK hJ k0 rfl rfl 20 (by decide) (hts (.fieldLink RX7 112 "NeighborBookModel" "fault" "I") (List.mem_of_getElem? (i := 3) rfl)) (fun _ h9 => h9) rfl rfl dX7_count_51 (fun x5 ex5 => ?_)
    have ex5 : x5.toInt = g 11 20 := ex5
    exact hp_iret hx hb hK hN hW hlocks hJ hr rfl dX7_count_54
  · refine lv_tableIn (off := 54) (tgt := 55) hx hb dX7_count_1 (by omega) (by omega) (by rw [h1]; rfl) (by decide) ?_
    refine lv_aload_n hx hb dX7_count_55 rfl (lv_at hl 0 rfl) ?_
    refine hp_geti (C := RX7) (T := TX7) (N := 24) (ci := 7) (kd := 11) hx hb hts iX7_count_X7 hown hK hJ k0 rfl rfl 1 (by decide) (hts (.fieldLink RX7 70 "NeighborBookModel" "typedSize" "I") (List.mem_of_getElem? (i := 4) rfl)) (fun _ h9 => h9) rfl rfl dX7_count_56 (fun x6 ex6 => ?_)
    have ex6 : x6.toInt = g 11 1 := ex6
    exact hp_iret hx hb hK hN hW hlocks hJ hr rfl dX7_count_59
  · refine lv_tableIn (off := 59) (tgt := 60) hx hb dX7_count_1 (by omega) (by omega) (by rw [h1]; rfl) (by decide) ?_
    refine lv_aload_n hx hb dX7_count_60 rfl (lv_at hl 0 rfl) ?_
    refine hp_geti (C := RX7) (T := TX7) (N := 24) (ci := 7) (kd := 11) hx hb hts iX7_count_X7 hown hK hJ k0 rfl rfl 23 (by decide) (hts (.fieldLink RX7 67 "NeighborBookModel" "pagePort" "I") (List.mem_of_getElem? (i := 5) rfl)) (fun _ h9 => h9) rfl rfl dX7_count_61 (fun x7 ex7 => ?_)
    have ex7 : x7.toInt = g 11 23 := ex7
    exact hp_iret hx hb hK hN hW hlocks hJ hr rfl dX7_count_64
  · refine lv_tableIn (off := 64) (tgt := 65) hx hb dX7_count_1 (by omega) (by omega) (by rw [h1]; rfl) (by decide) ?_
    refine lv_aload_n hx hb dX7_count_65 rfl (lv_at hl 0 rfl) ?_
    refine hp_geti (C := RX7) (T := TX7) (N := 24) (ci := 7) (kd := 11) hx hb hts iX7_count_X7 hown hK hJ k0 rfl rfl 22 (by decide) (hts (.fieldLink RX7 77 "NeighborBookModel" "pageSize" "I") (List.mem_of_getElem? (i := 6) rfl)) (fun _ h9 => h9) rfl rfl dX7_count_66 (fun x8 ex8 => ?_)
    have ex8 : x8.toInt = g 11 22 := ex8
    exact hp_iret hx hb hK hN hW hlocks hJ hr rfl dX7_count_69
theorem iX7_sent_X7 : ∀ w ∈ wsX70, w ∈ wsX7_sent := fun _ h => List.mem_cons_of_mem _ (List.mem_append_right _ h)
set_option maxRecDepth 100000 in
set_option maxHeartbeats 4000000 in
theorem c_X7_sent (l : Launch) (dC : Nat → ClassId) (dI : Nat → Nat → Nat) (dA : Nat → ClassId) (κ : Nat → Nat) (B : Nat) (g : Nat → Nat → Int) (h0 : Nat) (k0 : κ h0 = 11) (k : Int32) (hG : hg_k g) : Met l yX7_sent wsX7_sent ({ frames := 0, cells := 0, slots := 0, locals := 0 } : Room) (hp_Pre dC dI dA κ B g [Value.ref h0, Value.int k]) (hp_Qi dC dI dA κ B (fun r u => g = u ∧ (g 11 22 = 0 → r.toInt = -1))) 0 0 (hp_A B) := by
  refine Met.ofW (cc := cX7_sent) (maxL := 2) (ret := (some .int)) (by decide) rfl ?_
  intro p e s m args below meth c s₁ Bd hml hv
  obtain ⟨rfl, hK, hN, hW, hF⟩ := hv
  have hx := Bd.exec
  have hb := Bd.bytes
  have hr := Bd.returns
  have hts := atoms_spec (ws := wsX7_sent) Bd.pre
  have hown : s.vm.findClass RX7 = some m.cls := findClass_of_methodNamed Bd.named
  have hlocks := Bd.notSynchronized
  have hJ : hp_J dC dI dA κ B g s.heap s.heap [] := ⟨hF, va_S.rf⟩
  have hl := lv_entry ([Value.ref h0, Value.int k]) (n := 2) (Nat.le_of_ble_eq_true rfl)
  rw [lg_entry_eq]
  generalize (lg_sl ([Value.ref h0, Value.int k]) ++ List.replicate (2 - (lg_sl ([Value.ref h0, Value.int k])).length) Slot.unset).toArray = ls at hl ⊢
  have hl : lv_has ls 2 [(0, .ref h0), (1, .int k)] := hl
  obtain ⟨hG1, hG2, hG3, hG4, hG5, hG6, hG7, hG8⟩ := id hG
  refine lv_iload_n hx hb dX7_sent_0 rfl (lv_at hl 1 rfl) ?_
  refine hq_if_lt (tgt := 25) hx hb dX7_sent_1 (by decide) (fun c1 => ?_) (fun c1 => ?_)
  · refine hq_iconst hx hb dX7_sent_25 (by decide) (by decide) (fun z2 ez2 => ?_)
    exact hp_iret hx hb hK hN hW hlocks hJ hr ⟨rfl, by omega⟩ dX7_sent_26
  · refine lv_iload_n hx hb dX7_sent_4 rfl (lv_at hl 1 rfl) ?_
    refine lv_aload_n hx hb dX7_sent_5 rfl (lv_at hl 0 rfl) ?_
    refine hp_geti (C := RX7) (T := TX7) (N := 24) (ci := 7) (kd := 11) hx hb hts iX7_sent_X7 hown hK hJ k0 rfl rfl 22 (by decide) (hts (.fieldLink RX7 77 "NeighborBookModel" "pageSize" "I") (List.mem_of_getElem? (i := 1) rfl)) (fun _ h9 => h9) rfl rfl dX7_sent_6 (fun x3 ex3 => ?_)
    have ex3 : x3.toInt = g 11 22 := ex3
    refine hq_icmp_ge (tgt := 25) hx hb dX7_sent_9 (by decide) (fun c4 => ?_) (fun c4 => ?_)
    · refine hq_iconst hx hb dX7_sent_25 (by decide) (by decide) (fun z5 ez5 => ?_)
      exact hp_iret hx hb hK hN hW hlocks hJ hr ⟨rfl, by omega⟩ dX7_sent_26
    · refine lv_aload_n hx hb dX7_sent_12 rfl (lv_at hl 0 rfl) ?_
      refine hp_getr (C := RX7) (T := TX7) (N := 24) (ci := 7) (kd := 11) hx hb hts iX7_sent_X7 hown hK hJ k0 rfl rfl 21 (by decide) (hts (.fieldLink RX7 64 "NeighborBookModel" "page" "[B") (List.mem_of_getElem? (i := 2) rfl)) (fun _ h9 => h9) rfl dX7_sent_13 (fun b6 kb6 => ?_)
      refine lv_iload_n hx hb dX7_sent_16 rfl (lv_at hl 1 rfl) ?_
      refine hp_bald (kd := 12) (n := 700) hx hb hK hJ kb6 rfl (by omega) (by omega) (sp := (5, 0)) rfl rfl dX7_sent_17 (fun x7 ex7 => ?_)
      have ex7 : -128 ≤ x7.toInt ∧ x7.toInt ≤ 127 := ex7
      refine hq_sipush hx hb dX7_sent_18 (by decide) (fun z8 ez8 => ?_)
      refine hq_iandm (k := 8) hx hb dX7_sent_21 ez8 (by decide) (fun x9 ex9 => ?_)
      refine lv_goto (tgt := 26) hx hb dX7_sent_22 (by decide) ?_
      exact hp_iret hx hb hK hN hW hlocks hJ hr ⟨rfl, by omega⟩ dX7_sent_26
theorem iX7_neighbor_X7 : ∀ w ∈ wsX70, w ∈ wsX7_neighbor := fun _ h => List.mem_cons_of_mem _ (List.mem_append_right _ h)
set_option maxRecDepth 100000 in
set_option maxHeartbeats 4000000 in
theorem c_X7_neighbor (l : Launch) (dC : Nat → ClassId) (dI : Nat → Nat → Nat) (dA : Nat → ClassId) (κ : Nat → Nat) (B : Nat) (g : Nat → Nat → Int) (h0 : Nat) (k0 : κ h0 = 11) (i : Int32) (what : Int32) (hG : hg_k g) : Met l yX7_neighbor wsX7_neighbor ({ frames := 0, cells := 0, slots := 0, locals := 0 } : Room) (hp_Pre dC dI dA κ B g [Value.ref h0, Value.int i, Value.int what]) (hp_Qi dC dI dA κ B (fun r u => g = u ∧ (g 11 13 = 0 → r.toInt = -1))) 0 0 (hp_A B) := by
  refine Met.ofW (cc := cX7_neighbor) (maxL := 5) (ret := (some .int)) (by decide) rfl ?_
  intro p e s m args below meth c s₁ Bd hml hv
  obtain ⟨rfl, hK, hN, hW, hF⟩ := hv
  have hx := Bd.exec
  have hb := Bd.bytes
  have hr := Bd.returns
  have hts := atoms_spec (ws := wsX7_neighbor) Bd.pre
  have hown : s.vm.findClass RX7 = some m.cls := findClass_of_methodNamed Bd.named
  have hlocks := Bd.notSynchronized
  have hJ : hp_J dC dI dA κ B g s.heap s.heap [] := ⟨hF, va_S.rf⟩
  have hl := lv_entry ([Value.ref h0, Value.int i, Value.int what]) (n := 5) (Nat.le_of_ble_eq_true rfl)
  rw [lg_entry_eq]
  generalize (lg_sl ([Value.ref h0, Value.int i, Value.int what]) ++ List.replicate (5 - (lg_sl ([Value.ref h0, Value.int i, Value.int what])).length) Slot.unset).toArray = ls at hl ⊢
  have hl : lv_has ls 5 [(0, .ref h0), (1, .int i), (2, .int what)] := hl
  obtain ⟨hG1, hG2, hG3, hG4, hG5, hG6, hG7, hG8⟩ := id hG
  refine lv_iload_n hx hb dX7_neighbor_0 rfl (lv_at hl 1 rfl) ?_
  refine hq_if_lt (tgt := 21) hx hb dX7_neighbor_1 (by decide) (fun c1 => ?_) (fun c1 => ?_)
  · refine hq_iconst hx hb dX7_neighbor_21 (by decide) (by decide) (fun z2 ez2 => ?_)
    exact hp_iret hx hb hK hN hW hlocks hJ hr ⟨rfl, by omega⟩ dX7_neighbor_22
  · refine lv_iload_n hx hb dX7_neighbor_4 rfl (lv_at hl 1 rfl) ?_
    refine lv_aload_n hx hb dX7_neighbor_5 rfl (lv_at hl 0 rfl) ?_
    refine hp_geti (C := RX7) (T := TX7) (N := 24) (ci := 7) (kd := 11) hx hb hts iX7_neighbor_X7 hown hK hJ k0 rfl rfl 13 (by decide) (hts (.fieldLink RX7 91 "NeighborBookModel" "known" "I") (List.mem_of_getElem? (i := 1) rfl)) (fun _ h9 => h9) rfl rfl dX7_neighbor_6 (fun x3 ex3 => ?_)
    have ex3 : x3.toInt = g 11 13 := ex3
    refine hq_icmp_ge (tgt := 21) hx hb dX7_neighbor_9 (by decide) (fun c4 => ?_) (fun c4 => ?_)
    · refine hq_iconst hx hb dX7_neighbor_21 (by decide) (by decide) (fun z5 ez5 => ?_)
      exact hp_iret hx hb hK hN hW hlocks hJ hr ⟨rfl, by omega⟩ dX7_neighbor_22
    · refine lv_iload_n hx hb dX7_neighbor_12 rfl (lv_at hl 2 rfl) ?_
      refine hq_if_lt (tgt := 21) hx hb dX7_neighbor_13 (by decide) (fun c6 => ?_) (fun c6 => ?_)
      · refine hq_iconst hx hb dX7_neighbor_21 (by decide) (by decide) (fun z7 ez7 => ?_)
        exact hp_iret hx hb hK hN hW hlocks hJ hr ⟨rfl, by omega⟩ dX7_neighbor_22
      · refine lv_iload_n hx hb dX7_neighbor_16 rfl (lv_at hl 2 rfl) ?_
        refine hq_iconst hx hb dX7_neighbor_17 (by decide) (by decide) (fun z8 ez8 => ?_)
        refine hq_icmp_le (tgt := 23) hx hb dX7_neighbor_18 (by decide) (fun c9 => ?_) (fun c9 => ?_)
        · refine lv_iload_n hx hb dX7_neighbor_23 rfl (lv_at hl 2 rfl) ?_
          refine hq_if_ne (tgt := 34) hx hb dX7_neighbor_24 (by decide) (fun c10 => ?_) (fun c10 => ?_)
          · refine lv_iload_n hx hb dX7_neighbor_34 rfl (lv_at hl 2 rfl) ?_
            refine hq_iconst hx hb dX7_neighbor_35 (by decide) (by decide) (fun z11 ez11 => ?_)
            refine hq_icmp_ne (tgt := 46) hx hb dX7_neighbor_36 (by decide) (fun c12 => ?_) (fun c12 => ?_)
            · refine lv_iload_n hx hb dX7_neighbor_46 rfl (lv_at hl 2 rfl) ?_
              refine hq_iconst hx hb dX7_neighbor_47 (by decide) (by decide) (fun z13 ez13 => ?_)
              refine hq_icmp_ne (tgt := 58) hx hb dX7_neighbor_48 (by decide) (fun c14 => ?_) (fun c14 => ?_)
              · refine hq_iconst hx hb dX7_neighbor_58 (by decide) (by decide) (fun z15 ez15 => ?_)
                refine lv_istore_n (lv' := [(3, .int z15), (0, .ref h0), (1, .int i), (2, .int what)]) hx hb dX7_neighbor_59 rfl hl (by decide) rfl (fun ls hl => ?_)
                refine hq_iconst hx hb dX7_neighbor_60 (by decide) (by decide) (fun z16 ez16 => ?_)
                refine lv_istore (lv' := [(4, .int z16), (3, .int z15), (0, .ref h0), (1, .int i), (2, .int what)]) hx hb dX7_neighbor_61 hl (by decide) rfl (fun ls hl => ?_)
                have lp19 : ∀ (nlp19 : Nat) (v17 : Int32) (v18 : Int32) (H : Heap) (locs : List Loc) (ls : Array Slot), (1 ≤ v18.toInt) → (v18.toInt ≤ 9) → (10 - v18.toInt < (nlp19 : Int)) → hp_J dC dI dA κ B g s.heap H locs → lv_has ls 5 [(0, .ref h0), (1, .int i), (2, .int what), (3, .int v17), (4, .int v18)] → W p l e (headSpec wsX7_neighbor ({ frames := 0, cells := 0, slots := 0, locals := 0 } : Room)).room s m ([Value.ref h0, Value.int i, Value.int what] : List Value).toArray below meth c H locs 0 0 (MQ below (hp_Qi dC dI dA κ B (fun r u => g = u ∧ (g 11 13 = 0 → r.toInt = -1))) ([Value.ref h0, Value.int i, Value.int what] : List Value).toArray s 0 0 (hp_A B)) (F0 m 63 ls []) := by
                  intro nlp19
                  induction nlp19 with
                  | zero => intro v17 v18 H locs ls iv21 iv22 hm20 hJ hl; exact absurd hm20 (by omega)
                  | succ nlp19 ihlp19 =>
                    intro v17 v18 H locs ls iv21 iv22 hm20 hJ hl
                    refine lv_iload hx hb dX7_neighbor_63 (lv_at hl 4 rfl) ?_
                    refine hq_bipush hx hb dX7_neighbor_65 (by decide) (fun z23 ez23 => ?_)
                    refine hq_icmp_ge (tgt := 109) hx hb dX7_neighbor_67 (by decide) (fun c24 => ?_) (fun c24 => ?_)
                    · refine lv_iload_n hx hb dX7_neighbor_109 rfl (lv_at hl 3 rfl) ?_
                      exact hp_iret hx hb hK hN hW hlocks hJ hr ⟨rfl, by omega⟩ dX7_neighbor_110
                    · refine lv_iload_n hx hb dX7_neighbor_70 rfl (lv_at hl 3 rfl) ?_
                      refine lv_iload hx hb dX7_neighbor_71 (lv_at hl 4 rfl) ?_
                      refine hq_iconst hx hb dX7_neighbor_73 (by decide) (by decide) (fun z25 ez25 => ?_)
                      refine hq_icmp_eq (tgt := 100) hx hb dX7_neighbor_74 (by decide) (fun c26 => ?_) (fun c26 => ?_)
                      · refine hq_iconst hx hb dX7_neighbor_100 (by decide) (by decide) (fun z27 ez27 => ?_)
                        refine hq_iorU hx hb dX7_neighbor_101 (fun x28 => ?_)
                        refine lv_istore_n (lv' := [(3, .int x28), (0, .ref h0), (1, .int i), (2, .int what), (4, .int v18)]) hx hb dX7_neighbor_102 rfl hl (by decide) rfl (fun ls hl => ?_)
                        refine hq_iinc (k := 4) (lv' := fun (z9 : Int32) => [(4, .int z9), (3, .int x28), (0, .ref h0), (1, .int i), (2, .int what)]) hx hb dX7_neighbor_103 hl rfl (by decide) (by decide) (by omega) (by omega) (by decide) (fun _ => rfl) (fun x29 ls ex29 hl => ?_)
                        have hl : lv_has ls 5 [(4, .int x29), (3, .int x28), (0, .ref h0), (1, .int i), (2, .int what)] := hl
                        refine lv_goto (tgt := 63) hx hb dX7_neighbor_106 (by decide) ?_
                        exact ihlp19 x28 x29 _ _ ls (by omega) (by omega) (by omega) hJ (lv_sub hl [2, 3, 4, 1, 0] rfl)
                      · refine lv_aload_n hx hb dX7_neighbor_77 rfl (lv_at hl 0 rfl) ?_
                        refine hp_getr (C := RX7) (T := TX7) (N := 24) (ci := 7) (kd := 11) hx hb hts iX7_neighbor_X7 hown hK hJ k0 rfl rfl 18 (by decide) (hts (.fieldLink RX7 61 "NeighborBookModel" "sizes" "[I") (List.mem_of_getElem? (i := 5) rfl)) (fun _ h9 => h9) rfl dX7_neighbor_78 (fun b30 kb30 => ?_)
                        refine hq_bipush hx hb dX7_neighbor_81 (by decide) (fun z31 ez31 => ?_)
                        refine lv_iload_n hx hb dX7_neighbor_83 rfl (lv_at hl 1 rfl) ?_
                        refine hq_imul (w := 9 * i.toInt) hx hb dX7_neighbor_84 (by rw [ez31]) (by omega) (by omega) (fun x32 ex32 => ?_)
                        refine lv_iload hx hb dX7_neighbor_85 (lv_at hl 4 rfl) ?_
                        refine hq_iadd hx hb dX7_neighbor_87 (by omega) (by omega) (fun x33 ex33 => ?_)
                        refine hp_iald (kd := 29) (n := 117) hx hb hK hJ kb30 rfl (by omega) (by omega) (sp := (3, 60)) rfl rfl dX7_neighbor_88 (fun x34 ex34 => ?_)
                        have ex34 : -1 ≤ x34.toInt ∧ x34.toInt ≤ 60 := ex34
                        refine hq_iconst hx hb dX7_neighbor_89 (by decide) (by decide) (fun z35 ez35 => ?_)
                        refine hq_icmp_eq (tgt := 100) hx hb dX7_neighbor_90 (by decide) (fun c36 => ?_) (fun c36 => ?_)
                        · refine hq_iconst hx hb dX7_neighbor_100 (by decide) (by decide) (fun z37 ez37 => ?_)
                          refine hq_iorU hx hb dX7_neighbor_101 (fun x38 => ?_)
                          refine lv_istore_n (lv' := [(3, .int x38), (0, .ref h0), (1, .int i), (2, .int what), (4, .int v18)]) hx hb dX7_neighbor_102 rfl hl (by decide) rfl (fun ls hl => ?_)
                          refine hq_iinc (k := 4) (lv' := fun (z9 : Int32) => [(4, .int z9), (3, .int x38), (0, .ref h0), (1, .int i), (2, .int what)]) hx hb dX7_neighbor_103 hl rfl (by decide) (by decide) (by omega) (by omega) (by decide) (fun _ => rfl) (fun x39 ls ex39 hl => ?_)
                          have hl : lv_has ls 5 [(4, .int x39), (3, .int x38), (0, .ref h0), (1, .int i), (2, .int what)] := hl
                          refine lv_goto (tgt := 63) hx hb dX7_neighbor_106 (by decide) ?_
                          exact ihlp19 x38 x39 _ _ ls (by omega) (by omega) (by omega) hJ (lv_sub hl [2, 3, 4, 1, 0] rfl)
                        · refine hq_iconst hx hb dX7_neighbor_93 (by decide) (by decide) (fun z40 ez40 => ?_)
                          refine lv_iload hx hb dX7_neighbor_94 (lv_at hl 4 rfl) ?_
                          refine hq_ishlU hx hb dX7_neighbor_96 (fun x41 => ?_)
                          refine lv_goto (tgt := 101) hx hb dX7_neighbor_97 (by decide) ?_
                          refine hq_iorU hx hb dX7_neighbor_101 (fun x42 => ?_)
                          refine lv_istore_n (lv' := [(3, .int x42), (0, .ref h0), (1, .int i), (2, .int what), (4, .int v18)]) hx hb dX7_neighbor_102 rfl hl (by decide) rfl (fun ls hl => ?_)
                          refine hq_iinc (k := 4) (lv' := fun (z9 : Int32) => [(4, .int z9), (3, .int x42), (0, .ref h0), (1, .int i), (2, .int what)]) hx hb dX7_neighbor_103 hl rfl (by decide) (by decide) (by omega) (by omega) (by decide) (fun _ => rfl) (fun x43 ls ex43 hl => ?_)
                          have hl : lv_has ls 5 [(4, .int x43), (3, .int x42), (0, .ref h0), (1, .int i), (2, .int what)] := hl
                          refine lv_goto (tgt := 63) hx hb dX7_neighbor_106 (by decide) ?_
                          exact ihlp19 x42 x43 _ _ ls (by omega) (by omega) (by omega) hJ (lv_sub hl [2, 3, 4, 1, 0] rfl)
                exact lp19 ((10 - z16.toInt).toNat + 1) z15 z16 _ _ ls (by omega) (by omega) (by omega) hJ (lv_sub hl [2, 3, 4, 1, 0] rfl)
              · refine lv_aload_n hx hb dX7_neighbor_51 rfl (lv_at hl 0 rfl) ?_
                refine hp_getr (C := RX7) (T := TX7) (N := 24) (ci := 7) (kd := 11) hx hb hts iX7_neighbor_X7 hown hK hJ k0 rfl rfl 16 (by decide) (hts (.fieldLink RX7 55 "NeighborBookModel" "frames" "[I") (List.mem_of_getElem? (i := 4) rfl)) (fun _ h9 => h9) rfl dX7_neighbor_52 (fun b44 kb44 => ?_)
                refine lv_iload_n hx hb dX7_neighbor_55 rfl (lv_at hl 1 rfl) ?_
                refine hp_iald (kd := 27) (n := 13) hx hb hK hJ kb44 rfl (by omega) (by omega) (sp := (1, 0)) rfl rfl dX7_neighbor_56 (fun x45 ex45 => ?_)
                exact hp_iret hx hb hK hN hW hlocks hJ hr ⟨rfl, by omega⟩ dX7_neighbor_57
            · refine lv_aload_n hx hb dX7_neighbor_39 rfl (lv_at hl 0 rfl) ?_
              refine hp_getr (C := RX7) (T := TX7) (N := 24) (ci := 7) (kd := 11) hx hb hts iX7_neighbor_X7 hown hK hJ k0 rfl rfl 15 (by decide) (hts (.fieldLink RX7 52 "NeighborBookModel" "left" "[I") (List.mem_of_getElem? (i := 3) rfl)) (fun _ h9 => h9) rfl dX7_neighbor_40 (fun b46 kb46 => ?_)
              refine lv_iload_n hx hb dX7_neighbor_43 rfl (lv_at hl 1 rfl) ?_
              refine hp_iald (kd := 27) (n := 13) hx hb hK hJ kb46 rfl (by omega) (by omega) (sp := (1, 0)) rfl rfl dX7_neighbor_44 (fun x47 ex47 => ?_)
              exact hp_iret hx hb hK hN hW hlocks hJ hr ⟨rfl, by omega⟩ dX7_neighbor_45
          · refine lv_aload_n hx hb dX7_neighbor_27 rfl (lv_at hl 0 rfl) ?_
            refine hp_getr (C := RX7) (T := TX7) (N := 24) (ci := 7) (kd := 11) hx hb hts iX7_neighbor_X7 hown hK hJ k0 rfl rfl 14 (by decide) (hts (.fieldLink RX7 49 "NeighborBookModel" "ports" "[I") (List.mem_of_getElem? (i := 2) rfl)) (fun _ h9 => h9) rfl dX7_neighbor_28 (fun b48 kb48 => ?_)
            refine lv_iload_n hx hb dX7_neighbor_31 rfl (lv_at hl 1 rfl) ?_
            refine hp_iald (kd := 26) (n := 13) hx hb hK hJ kb48 rfl (by omega) (by omega) (sp := (2, 3)) rfl rfl dX7_neighbor_32 (fun x49 ex49 => ?_)
            have ex49 : 0 ≤ x49.toInt ∧ x49.toInt ≤ 3 := ex49
            exact hp_iret hx hb hK hN hW hlocks hJ hr ⟨rfl, by omega⟩ dX7_neighbor_33
        · refine hq_iconst hx hb dX7_neighbor_21 (by decide) (by decide) (fun z50 ez50 => ?_)
          exact hp_iret hx hb hK hN hW hlocks hJ hr ⟨rfl, by omega⟩ dX7_neighbor_22
theorem iX7_content_X7 : ∀ w ∈ wsX70, w ∈ wsX7_content := fun _ h => List.mem_cons_of_mem _ (List.mem_append_right _ h)
set_option maxRecDepth 100000 in
set_option maxHeartbeats 4000000 in
theorem c_X7_content (l : Launch) (dC : Nat → ClassId) (dI : Nat → Nat → Nat) (dA : Nat → ClassId) (κ : Nat → Nat) (B : Nat) (g : Nat → Nat → Int) (h0 : Nat) (k0 : κ h0 = 11) (i : Int32) (type : Int32) (k : Int32) (hG : hg_k g) : Met l yX7_content wsX7_content ({ frames := 0, cells := 0, slots := 0, locals := 0 } : Room) (hp_Pre dC dI dA κ B g [Value.ref h0, Value.int i, Value.int type, Value.int k]) (hp_Qi dC dI dA κ B (fun r u => g = u ∧ (g 11 13 = 0 → r.toInt = -1))) 0 0 (hp_A B) := by
  refine Met.ofW (cc := cX7_content) (maxL := 5) (ret := (some .int)) (by decide) rfl ?_
  intro p e s m args below meth c s₁ Bd hml hv
  obtain ⟨rfl, hK, hN, hW, hF⟩ := hv
  have hx := Bd.exec
  have hb := Bd.bytes
  have hr := Bd.returns
  have hts := atoms_spec (ws := wsX7_content) Bd.pre
  have hown : s.vm.findClass RX7 = some m.cls := findClass_of_methodNamed Bd.named
  have hlocks := Bd.notSynchronized
  have hJ : hp_J dC dI dA κ B g s.heap s.heap [] := ⟨hF, va_S.rf⟩
  have hl := lv_entry ([Value.ref h0, Value.int i, Value.int type, Value.int k]) (n := 5) (Nat.le_of_ble_eq_true rfl)
  rw [lg_entry_eq]
  generalize (lg_sl ([Value.ref h0, Value.int i, Value.int type, Value.int k]) ++ List.replicate (5 - (lg_sl ([Value.ref h0, Value.int i, Value.int type, Value.int k])).length) Slot.unset).toArray = ls at hl ⊢
  have hl : lv_has ls 5 [(0, .ref h0), (1, .int i), (2, .int type), (3, .int k)] := hl
  obtain ⟨hG1, hG2, hG3, hG4, hG5, hG6, hG7, hG8⟩ := id hG
  refine lv_iload_n hx hb dX7_content_0 rfl (lv_at hl 1 rfl) ?_
  refine hq_if_lt (tgt := 28) hx hb dX7_content_1 (by decide) (fun c1 => ?_) (fun c1 => ?_)
  · refine hq_iconst hx hb dX7_content_28 (by decide) (by decide) (fun z2 ez2 => ?_)
    exact hp_iret hx hb hK hN hW hlocks hJ hr ⟨rfl, by omega⟩ dX7_content_29
  · refine lv_iload_n hx hb dX7_content_4 rfl (lv_at hl 1 rfl) ?_
    refine lv_aload_n hx hb dX7_content_5 rfl (lv_at hl 0 rfl) ?_
    refine hp_geti (C := RX7) (T := TX7) (N := 24) (ci := 7) (kd := 11) hx hb hts iX7_content_X7 hown hK hJ k0 rfl rfl 13 (by decide) (hts (.fieldLink RX7 91 "NeighborBookModel" "known" "I") (List.mem_of_getElem? (i := 1) rfl)) (fun _ h9 => h9) rfl rfl dX7_content_6 (fun x3 ex3 => ?_)
    have ex3 : x3.toInt = g 11 13 := ex3
    refine hq_icmp_ge (tgt := 28) hx hb dX7_content_9 (by decide) (fun c4 => ?_) (fun c4 => ?_)
    · refine hq_iconst hx hb dX7_content_28 (by decide) (by decide) (fun z5 ez5 => ?_)
      exact hp_iret hx hb hK hN hW hlocks hJ hr ⟨rfl, by omega⟩ dX7_content_29
    · refine lv_iload_n hx hb dX7_content_12 rfl (lv_at hl 2 rfl) ?_
      refine hq_iconst hx hb dX7_content_13 (by decide) (by decide) (fun z6 ez6 => ?_)
      refine hq_icmp_lt (tgt := 28) hx hb dX7_content_14 (by decide) (fun c7 => ?_) (fun c7 => ?_)
      · refine hq_iconst hx hb dX7_content_28 (by decide) (by decide) (fun z8 ez8 => ?_)
        exact hp_iret hx hb hK hN hW hlocks hJ hr ⟨rfl, by omega⟩ dX7_content_29
      · refine lv_iload_n hx hb dX7_content_17 rfl (lv_at hl 2 rfl) ?_
        refine hq_bipush hx hb dX7_content_18 (by decide) (fun z9 ez9 => ?_)
        refine hq_icmp_ge (tgt := 28) hx hb dX7_content_20 (by decide) (fun c10 => ?_) (fun c10 => ?_)
        · refine hq_iconst hx hb dX7_content_28 (by decide) (by decide) (fun z11 ez11 => ?_)
          exact hp_iret hx hb hK hN hW hlocks hJ hr ⟨rfl, by omega⟩ dX7_content_29
        · refine lv_iload_n hx hb dX7_content_23 rfl (lv_at hl 2 rfl) ?_
          refine hq_iconst hx hb dX7_content_24 (by decide) (by decide) (fun z12 ez12 => ?_)
          refine hq_icmp_ne (tgt := 30) hx hb dX7_content_25 (by decide) (fun c13 => ?_) (fun c13 => ?_)
          · refine lv_aload_n hx hb dX7_content_30 rfl (lv_at hl 0 rfl) ?_
            refine hp_getr (C := RX7) (T := TX7) (N := 24) (ci := 7) (kd := 11) hx hb hts iX7_content_X7 hown hK hJ k0 rfl rfl 18 (by decide) (hts (.fieldLink RX7 61 "NeighborBookModel" "sizes" "[I") (List.mem_of_getElem? (i := 2) rfl)) (fun _ h9 => h9) rfl dX7_content_31 (fun b14 kb14 => ?_)
            refine hq_bipush hx hb dX7_content_34 (by decide) (fun z15 ez15 => ?_)
            refine lv_iload_n hx hb dX7_content_36 rfl (lv_at hl 1 rfl) ?_
            refine hq_imul (w := 9 * i.toInt) hx hb dX7_content_37 (by rw [ez15]) (by omega) (by omega) (fun x16 ex16 => ?_)
            refine lv_iload_n hx hb dX7_content_38 rfl (lv_at hl 2 rfl) ?_
            refine hq_iadd hx hb dX7_content_39 (by omega) (by omega) (fun x17 ex17 => ?_)
            refine hp_iald (kd := 29) (n := 117) hx hb hK hJ kb14 rfl (by omega) (by omega) (sp := (3, 60)) rfl rfl dX7_content_40 (fun x18 ex18 => ?_)
            have ex18 : -1 ≤ x18.toInt ∧ x18.toInt ≤ 60 := ex18
            refine lv_istore (lv' := [(4, .int x18), (0, .ref h0), (1, .int i), (2, .int type), (3, .int k)]) hx hb dX7_content_41 hl (by decide) rfl (fun ls hl => ?_)
            refine lv_iload_n hx hb dX7_content_43 rfl (lv_at hl 4 rfl) ?_
            refine hq_iconst hx hb dX7_content_44 (by decide) (by decide) (fun z19 ez19 => ?_)
            refine hq_icmp_eq (tgt := 54) hx hb dX7_content_45 (by decide) (fun c20 => ?_) (fun c20 => ?_)
            · refine lv_iload hx hb dX7_content_54 (lv_at hl 0 rfl) ?_
              exact hp_iret hx hb hK hN hW hlocks hJ hr ⟨rfl, by omega⟩ dX7_content_56
            · refine lv_iload hx hb dX7_content_48 (lv_at hl 0 rfl) ?_
              refine hq_iconst hx hb dX7_content_50 (by decide) (by decide) (fun z21 ez21 => ?_)
              refine hq_icmp_ne (tgt := 57) hx hb dX7_content_51 (by decide) (fun c22 => ?_) (fun c22 => ?_)
              · refine lv_iload_n hx hb dX7_content_57 rfl (lv_at hl 4 rfl) ?_
                refine hq_if_lt (tgt := 90) hx hb dX7_content_58 (by decide) (fun c23 => ?_) (fun c23 => ?_)
                · refine hq_iconst hx hb dX7_content_90 (by decide) (by decide) (fun z24 ez24 => ?_)
                  exact hp_iret hx hb hK hN hW hlocks hJ hr ⟨rfl, by omega⟩ dX7_content_91
                · refine lv_iload_n hx hb dX7_content_61 rfl (lv_at hl 4 rfl) ?_
                  refine lv_iload hx hb dX7_content_62 (lv_at hl 0 rfl) ?_
                  refine hq_icmp_ge (tgt := 90) hx hb dX7_content_64 (by decide) (fun c25 => ?_) (fun c25 => ?_)
                  · refine hq_iconst hx hb dX7_content_90 (by decide) (by decide) (fun z26 ez26 => ?_)
                    exact hp_iret hx hb hK hN hW hlocks hJ hr ⟨rfl, by omega⟩ dX7_content_91
                  · refine lv_aload_n hx hb dX7_content_67 rfl (lv_at hl 1 rfl) ?_
                    refine hp_getr (C := RX7) (T := TX7) (N := 24) (ci := 7) (kd := 11) hx hb hts iX7_content_X7 hown hK hJ k0 rfl rfl 17 (by decide) (hts (.fieldLink RX7 58 "NeighborBookModel" "bytes" "[B") (List.mem_of_getElem? (i := 3) rfl)) (fun _ h9 => h9) rfl dX7_content_68 (fun b27 kb27 => ?_)
                    refine hq_bipush hx hb dX7_content_71 (by decide) (fun z28 ez28 => ?_)
                    refine lv_iload_n hx hb dX7_content_73 rfl (lv_at hl 2 rfl) ?_
                    refine hq_imul (w := 9 * i.toInt) hx hb dX7_content_74 (by rw [ez28]) (by omega) (by omega) (fun x29 ex29 => ?_)
                    refine lv_iload_n hx hb dX7_content_75 rfl (lv_at hl 3 rfl) ?_
                    refine hq_iadd hx hb dX7_content_76 (by omega) (by omega) (fun x30 ex30 => ?_)
                    refine hq_bipush hx hb dX7_content_77 (by decide) (fun z31 ez31 => ?_)
                    refine hq_imul (w := x30.toInt * 60) hx hb dX7_content_79 (by rw [ez31]) (by omega) (by omega) (fun x32 ex32 => ?_)
                    refine lv_iload_n hx hb dX7_content_80 rfl (lv_at hl 4 rfl) ?_
                    refine hq_iadd hx hb dX7_content_81 (by omega) (by omega) (fun x33 ex33 => ?_)
                    refine hp_bald (kd := 28) (n := 7020) hx hb hK hJ kb27 rfl (by omega) (by omega) (sp := (5, 0)) rfl rfl dX7_content_82 (fun x34 ex34 => ?_)
                    have ex34 : -128 ≤ x34.toInt ∧ x34.toInt ≤ 127 := ex34
                    refine hq_sipush hx hb dX7_content_83 (by decide) (fun z35 ez35 => ?_)
                    refine hq_iandm (k := 8) hx hb dX7_content_86 ez35 (by decide) (fun x36 ex36 => ?_)
                    refine lv_goto (tgt := 91) hx hb dX7_content_87 (by decide) ?_
                    exact hp_iret hx hb hK hN hW hlocks hJ hr ⟨rfl, by omega⟩ dX7_content_91
              · refine lv_iload hx hb dX7_content_54 (lv_at hl 0 rfl) ?_
                exact hp_iret hx hb hK hN hW hlocks hJ hr ⟨rfl, by omega⟩ dX7_content_56
          · refine hq_iconst hx hb dX7_content_28 (by decide) (by decide) (fun z37 ez37 => ?_)
            exact hp_iret hx hb hK hN hW hlocks hJ hr ⟨rfl, by omega⟩ dX7_content_29
theorem iX7_check_X7 : ∀ w ∈ wsX70, w ∈ wsX7_check := fun _ h => List.mem_cons_of_mem _ (List.mem_append_right _ h)
set_option maxRecDepth 100000 in
set_option maxHeartbeats 4000000 in
theorem c_X7_check (l : Launch) (dC : Nat → ClassId) (dI : Nat → Nat → Nat) (dA : Nat → ClassId) (κ : Nat → Nat) (B : Nat) (g : Nat → Nat → Int) (h0 : Nat) (k0 : κ h0 = 11) (hG : hg_k g) : Met l yX7_check wsX7_check ({ frames := 1, cells := 0, slots := 0, locals := 25 } : Room) (hp_Pre dC dI dA κ B g [Value.ref h0]) (hp_Qi dC dI dA κ B (fun r u => g = u ∧ (g 11 13 = 0 → r.toInt = 1))) 0 0 (hp_A B) := by
  refine Met.ofW (cc := cX7_check) (maxL := 4) (ret := (some .int)) (by decide) rfl ?_
  intro p e s m args below meth c s₁ Bd hml hv
  obtain ⟨rfl, hK, hN, hW, hF⟩ := hv
  have hx := Bd.exec
  have hb := Bd.bytes
  have hr := Bd.returns
  have hts := atoms_spec (ws := wsX7_check) Bd.pre
  have hown : s.vm.findClass RX7 = some m.cls := findClass_of_methodNamed Bd.named
  have hlocks := Bd.notSynchronized
  have hJ : hp_J dC dI dA κ B g s.heap s.heap [] := ⟨hF, va_S.rf⟩
  have hl := lv_entry ([Value.ref h0]) (n := 4) (Nat.le_of_ble_eq_true rfl)
  rw [lg_entry_eq]
  generalize (lg_sl ([Value.ref h0]) ++ List.replicate (4 - (lg_sl ([Value.ref h0])).length) Slot.unset).toArray = ls at hl ⊢
  have hl : lv_has ls 4 [(0, .ref h0)] := hl
  obtain ⟨hG1, hG2, hG3, hG4, hG5, hG6, hG7, hG8⟩ := id hG
  refine hq_iconst hx hb dX7_check_0 (by decide) (by decide) (fun z1 ez1 => ?_)
  refine lv_istore_n (lv' := [(1, .int z1), (0, .ref h0)]) hx hb dX7_check_1 rfl hl (by decide) rfl (fun ls hl => ?_)
  refine hq_iconst hx hb dX7_check_2 (by decide) (by decide) (fun z2 ez2 => ?_)
  refine lv_istore_n (lv' := [(2, .int z2), (1, .int z1), (0, .ref h0)]) hx hb dX7_check_3 rfl hl (by decide) rfl (fun ls hl => ?_)
  have lp5 : ∀ (nlp5 : Nat) (v3 : Int32) (v4 : Int32) (H : Heap) (locs : List Loc) (ls : Array Slot), (0 ≤ v4.toInt) → (v4.toInt ≤ 12) → (v3.toInt = 0 ∨ v3.toInt = 1) → (v4.toInt ≤ g 11 13) → (g 11 13 = 0 → v3.toInt = 1) → (13 - v4.toInt < (nlp5 : Int)) → hp_J dC dI dA κ B g s.heap H locs → lv_has ls 4 [(0, .ref h0), (1, .int v3), (2, .int v4)] → W p l e (headSpec wsX7_check ({ frames := 1, cells := 0, slots := 0, locals := 25 } : Room)).room s m ([Value.ref h0] : List Value).toArray below meth c H locs 0 0 (MQ below (hp_Qi dC dI dA κ B (fun r u => g = u ∧ (g 11 13 = 0 → r.toInt = 1))) ([Value.ref h0] : List Value).toArray s 0 0 (hp_A B)) (F0 m 4 ls []) := by
    intro nlp5
    induction nlp5 with
    | zero => intro v3 v4 H locs ls iv7 iv8 iv9 iv10 iv11 hm6 hJ hl; exact absurd hm6 (by omega)
    | succ nlp5 ihlp5 =>
      intro v3 v4 H locs ls iv7 iv8 iv9 iv10 iv11 hm6 hJ hl
      refine lv_iload_n hx hb dX7_check_4 rfl (lv_at hl 2 rfl) ?_
      refine lv_aload_n hx hb dX7_check_5 rfl (lv_at hl 0 rfl) ?_
      refine hp_geti (C := RX7) (T := TX7) (N := 24) (ci := 7) (kd := 11) hx hb hts iX7_check_X7 hown hK hJ k0 rfl rfl 13 (by decide) (hts (.fieldLink RX7 91 "NeighborBookModel" "known" "I") (List.mem_of_getElem? (i := 1) rfl)) (fun _ h9 => h9) rfl rfl dX7_check_6 (fun x12 ex12 => ?_)
      have ex12 : x12.toInt = g 11 13 := ex12
      refine hq_icmp_ge (tgt := 74) hx hb dX7_check_9 (by decide) (fun c13 => ?_) (fun c13 => ?_)
      · refine lv_iload_n hx hb dX7_check_74 rfl (lv_at hl 1 rfl) ?_
        refine hq_if_eq (tgt := 82) hx hb dX7_check_75 (by decide) (fun c14 => ?_) (fun c14 => ?_)
        · refine hq_iconst hx hb dX7_check_82 (by decide) (by decide) (fun z15 ez15 => ?_)
          exact hp_iret hx hb hK hN hW hlocks hJ hr ⟨rfl, by omega⟩ dX7_check_83
        · refine hq_iconst hx hb dX7_check_78 (by decide) (by decide) (fun z16 ez16 => ?_)
          refine lv_goto (tgt := 83) hx hb dX7_check_79 (by decide) ?_
          exact hp_iret hx hb hK hN hW hlocks hJ hr ⟨rfl, by omega⟩ dX7_check_83
      · refine lv_iload_n hx hb dX7_check_12 rfl (lv_at hl 1 rfl) ?_
        refine hq_if_eq (tgt := 34) hx hb dX7_check_13 (by decide) (fun c17 => ?_) (fun c17 => ?_)
        · refine hq_iconst hx hb dX7_check_34 (by decide) (by decide) (fun z18 ez18 => ?_)
          refine lv_istore_n (lv' := [(1, .int z18), (0, .ref h0), (2, .int v4)]) hx hb dX7_check_35 rfl hl (by decide) rfl (fun ls hl => ?_)
          refine hq_iconst hx hb dX7_check_36 (by decide) (by decide) (fun z19 ez19 => ?_)
          refine lv_istore_n (lv' := [(3, .int z19), (1, .int z18), (0, .ref h0), (2, .int v4)]) hx hb dX7_check_37 rfl hl (by decide) rfl (fun ls hl => ?_)
          have lp22 : ∀ (nlp22 : Nat) (v20 : Int32) (v21 : Int32) (H : Heap) (locs : List Loc) (ls : Array Slot), (0 ≤ v21.toInt) → (v21.toInt ≤ 12) → (v20.toInt = 0 ∨ v20.toInt = 1) → (13 - v21.toInt < (nlp22 : Int)) → hp_J dC dI dA κ B g s.heap H locs → lv_has ls 4 [(0, .ref h0), (1, .int v20), (2, .int v4), (3, .int v21)] → W p l e (headSpec wsX7_check ({ frames := 1, cells := 0, slots := 0, locals := 25 } : Room)).room s m ([Value.ref h0] : List Value).toArray below meth c H locs 0 0 (MQ below (hp_Qi dC dI dA κ B (fun r u => g = u ∧ (g 11 13 = 0 → r.toInt = 1))) ([Value.ref h0] : List Value).toArray s 0 0 (hp_A B)) (F0 m 38 ls []) := by
            intro nlp22
            induction nlp22 with
            | zero => intro v20 v21 H locs ls iv24 iv25 iv26 hm23 hJ hl; exact absurd hm23 (by omega)
            | succ nlp22 ihlp22 =>
              intro v20 v21 H locs ls iv24 iv25 iv26 hm23 hJ hl
              refine lv_iload_n hx hb dX7_check_38 rfl (lv_at hl 3 rfl) ?_
              refine lv_iload_n hx hb dX7_check_39 rfl (lv_at hl 2 rfl) ?_
              refine hq_icmp_ge (tgt := 68) hx hb dX7_check_40 (by decide) (fun c27 => ?_) (fun c27 => ?_)
              · refine hq_iinc (k := 2) (lv' := fun (z9 : Int32) => [(2, .int z9), (0, .ref h0), (1, .int v20), (3, .int v21)]) hx hb dX7_check_68 hl rfl (by decide) (by decide) (by omega) (by omega) (by decide) (fun _ => rfl) (fun x28 ls ex28 hl => ?_)
                have hl : lv_has ls 4 [(2, .int x28), (0, .ref h0), (1, .int v20), (3, .int v21)] := hl
                refine lv_goto (tgt := 4) hx hb dX7_check_71 (by decide) ?_
                exact ihlp5 v20 x28 _ _ ls (by omega) (by omega) (by omega) (by omega) (by omega) (by omega) hJ (lv_sub hl [1, 2, 0] rfl)
              · refine lv_iload_n hx hb dX7_check_43 rfl (lv_at hl 1 rfl) ?_
                refine hq_if_eq (tgt := 60) hx hb dX7_check_44 (by decide) (fun c29 => ?_) (fun c29 => ?_)
                · refine hq_iconst hx hb dX7_check_60 (by decide) (by decide) (fun z30 ez30 => ?_)
                  refine lv_istore_n (lv' := [(1, .int z30), (0, .ref h0), (2, .int v4), (3, .int v21)]) hx hb dX7_check_61 rfl hl (by decide) rfl (fun ls hl => ?_)
                  refine hq_iinc (k := 3) (lv' := fun (z9 : Int32) => [(3, .int z9), (1, .int z30), (0, .ref h0), (2, .int v4)]) hx hb dX7_check_62 hl rfl (by decide) (by decide) (by omega) (by omega) (by decide) (fun _ => rfl) (fun x31 ls ex31 hl => ?_)
                  have hl : lv_has ls 4 [(3, .int x31), (1, .int z30), (0, .ref h0), (2, .int v4)] := hl
                  refine lv_goto (tgt := 38) hx hb dX7_check_65 (by decide) ?_
                  exact ihlp22 z30 x31 _ _ ls (by omega) (by omega) (by omega) (by omega) hJ (lv_sub hl [2, 1, 3, 0] rfl)
                · refine lv_aload_n hx hb dX7_check_47 rfl (lv_at hl 0 rfl) ?_
                  refine lv_iload_n hx hb dX7_check_48 rfl (lv_at hl 2 rfl) ?_
                  refine lv_iload_n hx hb dX7_check_49 rfl (lv_at hl 3 rfl) ?_
                  refine hp_calli (va_runV (As := [.int v4, .int v21]) (rest := []) ⟨hx, hb, hml, hown, hts⟩ (c_X7_isAlike l dC dI dA κ B g h0 k0 v4 v21 (by omega) (by omega) (by omega) (by omega)) (cwV 2 hts gX7_check_X7_isAlike rfl rfl rfl (by decide +kernel) ⟨Nat.le_of_ble_eq_true rfl, Nat.le_of_ble_eq_true rfl⟩) (hp_preV (q := (RX7, TX7, 24)) [.int v4, .int v21] hK hN hW hJ k0 rfl rfl) rfl rfl hl.1 rfl (lv_room (Nat.le_of_ble_eq_true rfl)) dX7_check_50 ⟨Nat.zero_le _, Nat.zero_le _⟩) hJ (fun x33 g32 H locs hp hJ => ?_)
                  obtain ⟨rfl, f34⟩ := hp
                  refine hq_if_ne (tgt := 60) hx hb dX7_check_53 (by decide) (fun c35 => ?_) (fun c35 => ?_)
                  · refine hq_iconst hx hb dX7_check_60 (by decide) (by decide) (fun z36 ez36 => ?_)
                    refine lv_istore_n (lv' := [(1, .int z36), (0, .ref h0), (2, .int v4), (3, .int v21)]) hx hb dX7_check_61 rfl hl (by decide) rfl (fun ls hl => ?_)
                    refine hq_iinc (k := 3) (lv' := fun (z9 : Int32) => [(3, .int z9), (1, .int z36), (0, .ref h0), (2, .int v4)]) hx hb dX7_check_62 hl rfl (by decide) (by decide) (by omega) (by omega) (by decide) (fun _ => rfl) (fun x37 ls ex37 hl => ?_)
                    have hl : lv_has ls 4 [(3, .int x37), (1, .int z36), (0, .ref h0), (2, .int v4)] := hl
                    refine lv_goto (tgt := 38) hx hb dX7_check_65 (by decide) ?_
                    exact ihlp22 z36 x37 _ _ ls (by omega) (by omega) (by omega) (by omega) hJ (lv_sub hl [2, 1, 3, 0] rfl)
                  · refine hq_iconst hx hb dX7_check_56 (by decide) (by decide) (fun z38 ez38 => ?_)
                    refine lv_goto (tgt := 61) hx hb dX7_check_57 (by decide) ?_
                    refine lv_istore_n (lv' := [(1, .int z38), (0, .ref h0), (2, .int v4), (3, .int v21)]) hx hb dX7_check_61 rfl hl (by decide) rfl (fun ls hl => ?_)
                    refine hq_iinc (k := 3) (lv' := fun (z9 : Int32) => [(3, .int z9), (1, .int z38), (0, .ref h0), (2, .int v4)]) hx hb dX7_check_62 hl rfl (by decide) (by decide) (by omega) (by omega) (by decide) (fun _ => rfl) (fun x39 ls ex39 hl => ?_)
                    have hl : lv_has ls 4 [(3, .int x39), (1, .int z38), (0, .ref h0), (2, .int v4)] := hl
                    refine lv_goto (tgt := 38) hx hb dX7_check_65 (by decide) ?_
                    exact ihlp22 z38 x39 _ _ ls (by omega) (by omega) (by omega) (by omega) hJ (lv_sub hl [2, 1, 3, 0] rfl)
          exact lp22 ((13 - z19.toInt).toNat + 1) z18 z19 _ _ ls (by omega) (by omega) (by omega) (by omega) hJ (lv_sub hl [2, 1, 3, 0] rfl)
        · refine lv_aload_n hx hb dX7_check_16 rfl (lv_at hl 0 rfl) ?_
          refine hp_getr (C := RX7) (T := TX7) (N := 24) (ci := 7) (kd := 11) hx hb hts iX7_check_X7 hown hK hJ k0 rfl rfl 7 (by decide) (hts (.fieldLink RX7 30 "NeighborBookModel" "up" "[Z") (List.mem_of_getElem? (i := 2) rfl)) (fun _ h9 => h9) rfl dX7_check_17 (fun b40 kb40 => ?_)
          refine lv_aload_n hx hb dX7_check_20 rfl (lv_at hl 0 rfl) ?_
          refine hp_getr (C := RX7) (T := TX7) (N := 24) (ci := 7) (kd := 11) hx hb hts iX7_check_X7 hown hK hJ k0 rfl rfl 14 (by decide) (hts (.fieldLink RX7 49 "NeighborBookModel" "ports" "[I") (List.mem_of_getElem? (i := 3) rfl)) (fun _ h9 => h9) rfl dX7_check_21 (fun b41 kb41 => ?_)
          refine lv_iload_n hx hb dX7_check_24 rfl (lv_at hl 2 rfl) ?_
          refine hp_iald (kd := 26) (n := 13) hx hb hK hJ kb41 rfl (by omega) (by omega) (sp := (2, 3)) rfl rfl dX7_check_25 (fun x42 ex42 => ?_)
          have ex42 : 0 ≤ x42.toInt ∧ x42.toInt ≤ 3 := ex42
          refine hp_zald (kd := 20) (n := 4) hx hb hK hJ kb40 rfl (by omega) (by omega) (sp := (0, 0)) rfl rfl dX7_check_26 (fun x43 ex43 => ?_)
          have ex43 : x43.toInt = g 20 x42.toInt.toNat := ex43
          refine hq_if_eq (tgt := 34) hx hb dX7_check_27 (by decide) (fun c44 => ?_) (fun c44 => ?_)
          · refine hq_iconst hx hb dX7_check_34 (by decide) (by decide) (fun z45 ez45 => ?_)
            refine lv_istore_n (lv' := [(1, .int z45), (0, .ref h0), (2, .int v4)]) hx hb dX7_check_35 rfl hl (by decide) rfl (fun ls hl => ?_)
            refine hq_iconst hx hb dX7_check_36 (by decide) (by decide) (fun z46 ez46 => ?_)
            refine lv_istore_n (lv' := [(3, .int z46), (1, .int z45), (0, .ref h0), (2, .int v4)]) hx hb dX7_check_37 rfl hl (by decide) rfl (fun ls hl => ?_)
            have lp49 : ∀ (nlp49 : Nat) (v47 : Int32) (v48 : Int32) (H : Heap) (locs : List Loc) (ls : Array Slot), (0 ≤ v48.toInt) → (v48.toInt ≤ 12) → (v47.toInt = 0 ∨ v47.toInt = 1) → (13 - v48.toInt < (nlp49 : Int)) → hp_J dC dI dA κ B g s.heap H locs → lv_has ls 4 [(0, .ref h0), (1, .int v47), (2, .int v4), (3, .int v48)] → W p l e (headSpec wsX7_check ({ frames := 1, cells := 0, slots := 0, locals := 25 } : Room)).room s m ([Value.ref h0] : List Value).toArray below meth c H locs 0 0 (MQ below (hp_Qi dC dI dA κ B (fun r u => g = u ∧ (g 11 13 = 0 → r.toInt = 1))) ([Value.ref h0] : List Value).toArray s 0 0 (hp_A B)) (F0 m 38 ls []) := by
              intro nlp49
              induction nlp49 with
              | zero => intro v47 v48 H locs ls iv51 iv52 iv53 hm50 hJ hl; exact absurd hm50 (by omega)
              | succ nlp49 ihlp49 =>
                intro v47 v48 H locs ls iv51 iv52 iv53 hm50 hJ hl
                refine lv_iload_n hx hb dX7_check_38 rfl (lv_at hl 3 rfl) ?_
                refine lv_iload_n hx hb dX7_check_39 rfl (lv_at hl 2 rfl) ?_
                refine hq_icmp_ge (tgt := 68) hx hb dX7_check_40 (by decide) (fun c54 => ?_) (fun c54 => ?_)
                · refine hq_iinc (k := 2) (lv' := fun (z9 : Int32) => [(2, .int z9), (0, .ref h0), (1, .int v47), (3, .int v48)]) hx hb dX7_check_68 hl rfl (by decide) (by decide) (by omega) (by omega) (by decide) (fun _ => rfl) (fun x55 ls ex55 hl => ?_)
                  have hl : lv_has ls 4 [(2, .int x55), (0, .ref h0), (1, .int v47), (3, .int v48)] := hl
                  refine lv_goto (tgt := 4) hx hb dX7_check_71 (by decide) ?_
                  exact ihlp5 v47 x55 _ _ ls (by omega) (by omega) (by omega) (by omega) (by omega) (by omega) hJ (lv_sub hl [1, 2, 0] rfl)
                · refine lv_iload_n hx hb dX7_check_43 rfl (lv_at hl 1 rfl) ?_
                  refine hq_if_eq (tgt := 60) hx hb dX7_check_44 (by decide) (fun c56 => ?_) (fun c56 => ?_)
                  · refine hq_iconst hx hb dX7_check_60 (by decide) (by decide) (fun z57 ez57 => ?_)
                    refine lv_istore_n (lv' := [(1, .int z57), (0, .ref h0), (2, .int v4), (3, .int v48)]) hx hb dX7_check_61 rfl hl (by decide) rfl (fun ls hl => ?_)
                    refine hq_iinc (k := 3) (lv' := fun (z9 : Int32) => [(3, .int z9), (1, .int z57), (0, .ref h0), (2, .int v4)]) hx hb dX7_check_62 hl rfl (by decide) (by decide) (by omega) (by omega) (by decide) (fun _ => rfl) (fun x58 ls ex58 hl => ?_)
                    have hl : lv_has ls 4 [(3, .int x58), (1, .int z57), (0, .ref h0), (2, .int v4)] := hl
                    refine lv_goto (tgt := 38) hx hb dX7_check_65 (by decide) ?_
                    exact ihlp49 z57 x58 _ _ ls (by omega) (by omega) (by omega) (by omega) hJ (lv_sub hl [2, 1, 3, 0] rfl)
                  · refine lv_aload_n hx hb dX7_check_47 rfl (lv_at hl 0 rfl) ?_
                    refine lv_iload_n hx hb dX7_check_48 rfl (lv_at hl 2 rfl) ?_
                    refine lv_iload_n hx hb dX7_check_49 rfl (lv_at hl 3 rfl) ?_
                    refine hp_calli (va_runV (As := [.int v4, .int v48]) (rest := []) ⟨hx, hb, hml, hown, hts⟩ (c_X7_isAlike l dC dI dA κ B g h0 k0 v4 v48 (by omega) (by omega) (by omega) (by omega)) (cwV 2 hts gX7_check_X7_isAlike rfl rfl rfl (by decide +kernel) ⟨Nat.le_of_ble_eq_true rfl, Nat.le_of_ble_eq_true rfl⟩) (hp_preV (q := (RX7, TX7, 24)) [.int v4, .int v48] hK hN hW hJ k0 rfl rfl) rfl rfl hl.1 rfl (lv_room (Nat.le_of_ble_eq_true rfl)) dX7_check_50 ⟨Nat.zero_le _, Nat.zero_le _⟩) hJ (fun x60 g59 H locs hp hJ => ?_)
                    obtain ⟨rfl, f61⟩ := hp
                    refine hq_if_ne (tgt := 60) hx hb dX7_check_53 (by decide) (fun c62 => ?_) (fun c62 => ?_)
                    · refine hq_iconst hx hb dX7_check_60 (by decide) (by decide) (fun z63 ez63 => ?_)
                      refine lv_istore_n (lv' := [(1, .int z63), (0, .ref h0), (2, .int v4), (3, .int v48)]) hx hb dX7_check_61 rfl hl (by decide) rfl (fun ls hl => ?_)
                      refine hq_iinc (k := 3) (lv' := fun (z9 : Int32) => [(3, .int z9), (1, .int z63), (0, .ref h0), (2, .int v4)]) hx hb dX7_check_62 hl rfl (by decide) (by decide) (by omega) (by omega) (by decide) (fun _ => rfl) (fun x64 ls ex64 hl => ?_)
                      have hl : lv_has ls 4 [(3, .int x64), (1, .int z63), (0, .ref h0), (2, .int v4)] := hl
                      refine lv_goto (tgt := 38) hx hb dX7_check_65 (by decide) ?_
                      exact ihlp49 z63 x64 _ _ ls (by omega) (by omega) (by omega) (by omega) hJ (lv_sub hl [2, 1, 3, 0] rfl)
                    · refine hq_iconst hx hb dX7_check_56 (by decide) (by decide) (fun z65 ez65 => ?_)
                      refine lv_goto (tgt := 61) hx hb dX7_check_57 (by decide) ?_
                      refine lv_istore_n (lv' := [(1, .int z65), (0, .ref h0), (2, .int v4), (3, .int v48)]) hx hb dX7_check_61 rfl hl (by decide) rfl (fun ls hl => ?_)
                      refine hq_iinc (k := 3) (lv' := fun (z9 : Int32) => [(3, .int z9), (1, .int z65), (0, .ref h0), (2, .int v4)]) hx hb dX7_check_62 hl rfl (by decide) (by decide) (by omega) (by omega) (by decide) (fun _ => rfl) (fun x66 ls ex66 hl => ?_)
                      have hl : lv_has ls 4 [(3, .int x66), (1, .int z65), (0, .ref h0), (2, .int v4)] := hl
                      refine lv_goto (tgt := 38) hx hb dX7_check_65 (by decide) ?_
                      exact ihlp49 z65 x66 _ _ ls (by omega) (by omega) (by omega) (by omega) hJ (lv_sub hl [2, 1, 3, 0] rfl)
            exact lp49 ((13 - z46.toInt).toNat + 1) z45 z46 _ _ ls (by omega) (by omega) (by omega) (by omega) hJ (lv_sub hl [2, 1, 3, 0] rfl)
          · refine hq_iconst hx hb dX7_check_30 (by decide) (by decide) (fun z67 ez67 => ?_)
            refine lv_goto (tgt := 35) hx hb dX7_check_31 (by decide) ?_
            refine lv_istore_n (lv' := [(1, .int z67), (0, .ref h0), (2, .int v4)]) hx hb dX7_check_35 rfl hl (by decide) rfl (fun ls hl => ?_)
            refine hq_iconst hx hb dX7_check_36 (by decide) (by decide) (fun z68 ez68 => ?_)
            refine lv_istore_n (lv' := [(3, .int z68), (1, .int z67), (0, .ref h0), (2, .int v4)]) hx hb dX7_check_37 rfl hl (by decide) rfl (fun ls hl => ?_)
            have lp71 : ∀ (nlp71 : Nat) (v69 : Int32) (v70 : Int32) (H : Heap) (locs : List Loc) (ls : Array Slot), (0 ≤ v70.toInt) → (v70.toInt ≤ 12) → (v69.toInt = 0 ∨ v69.toInt = 1) → (13 - v70.toInt < (nlp71 : Int)) → hp_J dC dI dA κ B g s.heap H locs → lv_has ls 4 [(0, .ref h0), (1, .int v69), (2, .int v4), (3, .int v70)] → W p l e (headSpec wsX7_check ({ frames := 1, cells := 0, slots := 0, locals := 25 } : Room)).room s m ([Value.ref h0] : List Value).toArray below meth c H locs 0 0 (MQ below (hp_Qi dC dI dA κ B (fun r u => g = u ∧ (g 11 13 = 0 → r.toInt = 1))) ([Value.ref h0] : List Value).toArray s 0 0 (hp_A B)) (F0 m 38 ls []) := by
              intro nlp71
              induction nlp71 with
              | zero => intro v69 v70 H locs ls iv73 iv74 iv75 hm72 hJ hl; exact absurd hm72 (by omega)
              | succ nlp71 ihlp71 =>
                intro v69 v70 H locs ls iv73 iv74 iv75 hm72 hJ hl
                refine lv_iload_n hx hb dX7_check_38 rfl (lv_at hl 3 rfl) ?_
                refine lv_iload_n hx hb dX7_check_39 rfl (lv_at hl 2 rfl) ?_
                refine hq_icmp_ge (tgt := 68) hx hb dX7_check_40 (by decide) (fun c76 => ?_) (fun c76 => ?_)
                · refine hq_iinc (k := 2) (lv' := fun (z9 : Int32) => [(2, .int z9), (0, .ref h0), (1, .int v69), (3, .int v70)]) hx hb dX7_check_68 hl rfl (by decide) (by decide) (by omega) (by omega) (by decide) (fun _ => rfl) (fun x77 ls ex77 hl => ?_)
                  have hl : lv_has ls 4 [(2, .int x77), (0, .ref h0), (1, .int v69), (3, .int v70)] := hl
                  refine lv_goto (tgt := 4) hx hb dX7_check_71 (by decide) ?_
                  exact ihlp5 v69 x77 _ _ ls (by omega) (by omega) (by omega) (by omega) (by omega) (by omega) hJ (lv_sub hl [1, 2, 0] rfl)
                · refine lv_iload_n hx hb dX7_check_43 rfl (lv_at hl 1 rfl) ?_
                  refine hq_if_eq (tgt := 60) hx hb dX7_check_44 (by decide) (fun c78 => ?_) (fun c78 => ?_)
                  · refine hq_iconst hx hb dX7_check_60 (by decide) (by decide) (fun z79 ez79 => ?_)
                    refine lv_istore_n (lv' := [(1, .int z79), (0, .ref h0), (2, .int v4), (3, .int v70)]) hx hb dX7_check_61 rfl hl (by decide) rfl (fun ls hl => ?_)
                    refine hq_iinc (k := 3) (lv' := fun (z9 : Int32) => [(3, .int z9), (1, .int z79), (0, .ref h0), (2, .int v4)]) hx hb dX7_check_62 hl rfl (by decide) (by decide) (by omega) (by omega) (by decide) (fun _ => rfl) (fun x80 ls ex80 hl => ?_)
                    have hl : lv_has ls 4 [(3, .int x80), (1, .int z79), (0, .ref h0), (2, .int v4)] := hl
                    refine lv_goto (tgt := 38) hx hb dX7_check_65 (by decide) ?_
                    exact ihlp71 z79 x80 _ _ ls (by omega) (by omega) (by omega) (by omega) hJ (lv_sub hl [2, 1, 3, 0] rfl)
                  · refine lv_aload_n hx hb dX7_check_47 rfl (lv_at hl 0 rfl) ?_
                    refine lv_iload_n hx hb dX7_check_48 rfl (lv_at hl 2 rfl) ?_
                    refine lv_iload_n hx hb dX7_check_49 rfl (lv_at hl 3 rfl) ?_
                    refine hp_calli (va_runV (As := [.int v4, .int v70]) (rest := []) ⟨hx, hb, hml, hown, hts⟩ (c_X7_isAlike l dC dI dA κ B g h0 k0 v4 v70 (by omega) (by omega) (by omega) (by omega)) (cwV 2 hts gX7_check_X7_isAlike rfl rfl rfl (by decide +kernel) ⟨Nat.le_of_ble_eq_true rfl, Nat.le_of_ble_eq_true rfl⟩) (hp_preV (q := (RX7, TX7, 24)) [.int v4, .int v70] hK hN hW hJ k0 rfl rfl) rfl rfl hl.1 rfl (lv_room (Nat.le_of_ble_eq_true rfl)) dX7_check_50 ⟨Nat.zero_le _, Nat.zero_le _⟩) hJ (fun x82 g81 H locs hp hJ => ?_)
                    obtain ⟨rfl, f83⟩ := hp
                    refine hq_if_ne (tgt := 60) hx hb dX7_check_53 (by decide) (fun c84 => ?_) (fun c84 => ?_)
                    · refine hq_iconst hx hb dX7_check_60 (by decide) (by decide) (fun z85 ez85 => ?_)
                      refine lv_istore_n (lv' := [(1, .int z85), (0, .ref h0), (2, .int v4), (3, .int v70)]) hx hb dX7_check_61 rfl hl (by decide) rfl (fun ls hl => ?_)
                      refine hq_iinc (k := 3) (lv' := fun (z9 : Int32) => [(3, .int z9), (1, .int z85), (0, .ref h0), (2, .int v4)]) hx hb dX7_check_62 hl rfl (by decide) (by decide) (by omega) (by omega) (by decide) (fun _ => rfl) (fun x86 ls ex86 hl => ?_)
                      have hl : lv_has ls 4 [(3, .int x86), (1, .int z85), (0, .ref h0), (2, .int v4)] := hl
                      refine lv_goto (tgt := 38) hx hb dX7_check_65 (by decide) ?_
                      exact ihlp71 z85 x86 _ _ ls (by omega) (by omega) (by omega) (by omega) hJ (lv_sub hl [2, 1, 3, 0] rfl)
                    · refine hq_iconst hx hb dX7_check_56 (by decide) (by decide) (fun z87 ez87 => ?_)
                      refine lv_goto (tgt := 61) hx hb dX7_check_57 (by decide) ?_
                      refine lv_istore_n (lv' := [(1, .int z87), (0, .ref h0), (2, .int v4), (3, .int v70)]) hx hb dX7_check_61 rfl hl (by decide) rfl (fun ls hl => ?_)
                      refine hq_iinc (k := 3) (lv' := fun (z9 : Int32) => [(3, .int z9), (1, .int z87), (0, .ref h0), (2, .int v4)]) hx hb dX7_check_62 hl rfl (by decide) (by decide) (by omega) (by omega) (by decide) (fun _ => rfl) (fun x88 ls ex88 hl => ?_)
                      have hl : lv_has ls 4 [(3, .int x88), (1, .int z87), (0, .ref h0), (2, .int v4)] := hl
                      refine lv_goto (tgt := 38) hx hb dX7_check_65 (by decide) ?_
                      exact ihlp71 z87 x88 _ _ ls (by omega) (by omega) (by omega) (by omega) hJ (lv_sub hl [2, 1, 3, 0] rfl)
            exact lp71 ((13 - z68.toInt).toNat + 1) z67 z68 _ _ ls (by omega) (by omega) (by omega) (by omega) hJ (lv_sub hl [2, 1, 3, 0] rfl)
  exact lp5 ((13 - z2.toInt).toNat + 1) z1 z2 _ _ ls (by omega) (by omega) (by omega) (by omega) (by omega) (by omega) hJ (lv_sub hl [2, 1, 0] rfl)
