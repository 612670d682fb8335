theorem iX7_tick_X7 : ∀ w ∈ wsX70, w ∈ wsX7_tick := fun _ h => List.mem_cons_of_mem _ (List.mem_append_right _ h)
set_option maxRecDepth 100000 in
set_option maxHeartbeats 4000000 in
theorem e_X7_tick (l : Launch) (dC : Nat → ClassId) (dI : Nat → Nat → Nat) (dA : Nat → ClassId) (κ : Nat → Nat) (B : Nat) (g : Nat → Nat → Int) (h0 : Nat) (k0 : κ h0 = 11) (n : Int32) {up : Nat → Int} (hI : hr_inv (hm_tab g) up) : Met l yX7_tick wsX7_tick ({ frames := 3, cells := 0, slots := 0, locals := 67 } : Room) (he_Pre dC dI dA κ B g [Value.ref h0, Value.int n]) (he_Qi dC dI dA κ B (fun r u => hg_Q (fun a b => (a = 11 ∧ (b = 13 ∨ b = 19 ∨ b = 22 ∨ b = 23)) ∨ (21 ≤ a ∧ a ≤ 30)) g u ∧ ((((1 ≤ n.toInt ∧ n.toInt ≤ 5000) ∧ hm_tab u = hr_tks n.toInt.toNat (hm_tab g)) ∨ (¬ (1 ≤ n.toInt ∧ n.toInt ≤ 5000) ∧ g = u)) ∧ u 27 12 = g 27 12))) 0 0 (hp_A B) := by
  refine Met.ofW (cc := cX7_tick) (maxL := 6) (ret := (some .int)) (by decide) rfl ?_
  intro p e s m args below meth c s₁ Bd hml hv
  obtain ⟨rfl, hK, hN, hW, hF⟩ := hv
  have hx := Bd.exec
  have hb := Bd.bytes
  have hr := Bd.returns
  have hts := atoms_spec (ws := wsX7_tick) Bd.pre
  have hown : s.vm.findClass RX7 = some m.cls := findClass_of_methodNamed Bd.named
  have hlocks := Bd.notSynchronized
  have hJ : he_J dC dI dA κ B g s.heap s.heap [] := ⟨hF, va_S.rf⟩
  have hl := lv_entry ([Value.ref h0, Value.int n]) (n := 6) (Nat.le_of_ble_eq_true rfl)
  rw [lg_entry_eq]
  generalize (lg_sl ([Value.ref h0, Value.int n]) ++ List.replicate (6 - (lg_sl ([Value.ref h0, Value.int n])).length) Slot.unset).toArray = ls at hl ⊢
  have hl : lv_has ls 6 [(0, .ref h0), (1, .int n)] := hl
  have hsz := he_msz hJ k0
  have hkn := he_m13 hJ k0
  refine lv_iload_n hx hb dX7_tick_0 rfl (lv_at hl 1 rfl) ?_
  refine hq_iconst hx hb dX7_tick_1 (by decide) (by decide) (fun z1 ez1 => ?_)
  refine hq_icmp_lt (tgt := 12) hx hb dX7_tick_2 (by decide) (fun c2 => ?_) (fun c2 => ?_)
  · refine hq_iconst hx hb dX7_tick_12 (by decide) (by decide) (fun z3 ez3 => ?_)
    exact he_iret hx hb hK hN hW hlocks hJ hr ⟨hg_Q.rf, Or.inr ⟨by omega, rfl⟩, rfl⟩ dX7_tick_13
  · refine lv_iload_n hx hb dX7_tick_5 rfl (lv_at hl 1 rfl) ?_
    refine hq_sipush hx hb dX7_tick_6 (by decide) (fun z4 ez4 => ?_)
    refine hq_icmp_le (tgt := 14) hx hb dX7_tick_9 (by decide) (fun c5 => ?_) (fun c5 => ?_)
    · refine hq_iconst hx hb dX7_tick_14 (by decide) (by decide) (fun z6 ez6 => ?_)
      refine lv_istore_n (lv' := [(2, .int z6), (0, .ref h0), (1, .int n)]) hx hb dX7_tick_15 rfl hl (by decide) rfl (fun ls hl => ?_)
      refine hq_iconst hx hb dX7_tick_16 (by decide) (by decide) (fun z7 ez7 => ?_)
      refine lv_istore_n (lv' := [(3, .int z7), (2, .int z6), (0, .ref h0), (1, .int n)]) hx hb dX7_tick_17 rfl hl (by decide) rfl (fun ls hl => ?_)
      have lp11 : ∀ (nlp11 : Nat) (v8 : Int32) (v9 : Int32) (g10 : Nat → Nat → Int) (H : Heap) (locs : List Loc) (ls : Array Slot), (hg_Q (fun a b => (a = 11 ∧ (b = 13 ∨ b = 19 ∨ b = 22 ∨ b = 23)) ∨ (21 ≤ a ∧ a ≤ 30)) g g10) → (0 ≤ v9.toInt) → (v9.toInt ≤ n.toInt) → (g10 27 12 = g 27 12) → (0 ≤ g10 11 13 ∧ g10 11 13 ≤ 12) → (hm_tab g10 = hr_tks v9.toInt.toNat (hm_tab g)) → (5001 - v9.toInt < (nlp11 : Int)) → he_J dC dI dA κ B g10 s.heap H locs → lv_has ls 6 [(0, .ref h0), (1, .int n), (2, .int v8), (3, .int v9)] → W p l e (headSpec wsX7_tick ({ frames := 3, cells := 0, slots := 0, locals := 67 } : Room)).room s m ([Value.ref h0, Value.int n] : List Value).toArray below meth c H locs 0 0 (MQ below (he_Qi dC dI dA κ B (fun r u => hg_Q (fun a b => (a = 11 ∧ (b = 13 ∨ b = 19 ∨ b = 22 ∨ b = 23)) ∨ (21 ≤ a ∧ a ≤ 30)) g u ∧ ((((1 ≤ n.toInt ∧ n.toInt ≤ 5000) ∧ hm_tab u = hr_tks n.toInt.toNat (hm_tab g)) ∨ (¬ (1 ≤ n.toInt ∧ n.toInt ≤ 5000) ∧ g = u)) ∧ u 27 12 = g 27 12))) ([Value.ref h0, Value.int n] : List Value).toArray s 0 0 (hp_A B)) (F0 m 18 ls []) := by
        intro nlp11
        induction nlp11 with
        | zero => intro v8 v9 g10 H locs ls iv13 iv14 iv15 iv16 iv17 iv18 hm12 hJ hl; exact absurd hm12 (by omega)
        | succ nlp11 ihlp11 =>
          intro v8 v9 g10 H locs ls iv13 iv14 iv15 iv16 iv17 iv18 hm12 hJ hl
          have szA := he_msz hJ k0
          refine lv_iload_n hx hb dX7_tick_18 rfl (lv_at hl 3 rfl) ?_
          refine lv_iload_n hx hb dX7_tick_19 rfl (lv_at hl 1 rfl) ?_
          refine hq_icmp_ge (tgt := 222) hx hb dX7_tick_20 (by decide) (fun c19 => ?_) (fun c19 => ?_)
          · refine lv_iload_n hx hb dX7_tick_222 rfl (lv_at hl 2 rfl) ?_
            exact he_iret hx hb hK hN hW hlocks hJ hr ⟨iv13, Or.inl ⟨by omega, by rw [iv18, show v9.toInt.toNat = n.toInt.toNat by omega]⟩, by omega⟩ dX7_tick_223
          · refine lv_aload_n hx hb dX7_tick_23 rfl (lv_at hl 0 rfl) ?_
            refine lv_aload_n hx hb dX7_tick_24 rfl (lv_at hl 0 rfl) ?_
            refine he_geti (C := RX7) (T := TX7) (N := 24) (ci := 7) (kd := 11) hx hb hts iX7_tick_X7 hown hK hJ k0 rfl rfl 19 (by decide) (hts (.fieldLink RX7 115 "NeighborBookModel" "ticks" "I") (List.mem_of_getElem? (i := 1) rfl)) (fun _ h9 => h9) rfl rfl dX7_tick_25 (fun x20 ex20 => ?_)
            have ex20 : x20.toInt = g10 11 19 := ex20
            refine hq_iconst hx hb dX7_tick_28 (by decide) (by decide) (fun z21 ez21 => ?_)
            refine hq_iaddU hx hb dX7_tick_29 (fun x22 => ?_)
            refine lv_ldc hx hb hown (hts (.constant RX7 118 (2147483647)) (List.mem_of_getElem? (i := 2) rfl)) dX7_tick_30 ?_
            refine lv_topi (fun z23 fz23 => ?_)
            have ez23 : z23.toInt = 2147483647 := by rw [fz23]; rfl
            refine hq_iandU hx hb dX7_tick_32 (fun x24 => ?_)
            refine he_putx (C := RX7) (T := TX7) (N := 24) (ci := 7) (kd := 11) hx hb hts iX7_tick_X7 hown hK hJ k0 rfl rfl 19 (by decide) (hts (.fieldLink RX7 115 "NeighborBookModel" "ticks" "I") (List.mem_of_getElem? (i := 1) rfl)) (fun _ h9 => h9) tyX7 tyX7_ok nmX7 (x := x24) rfl rfl (by decide) hW rfl rfl rfl rfl rfl dX7_tick_33 (fun g25 H locs eg25 ng25 hJ => ?_)
            have eg25 : g25 11 19 = x24.toInt := eg25
            have P26 : hg_Q (fun a b => (a = 11 ∧ (b = 13 ∨ b = 19 ∨ b = 22 ∨ b = 23)) ∨ (21 ≤ a ∧ a ≤ 30)) g g25 := hg_Q.put iv13 ng25 (show (11 = 11 ∧ (19 = 13 ∨ 19 = 19 ∨ 19 = 22 ∨ 19 = 23)) ∨ (21 ≤ 11 ∧ 11 ≤ 30) from by omega)
            have qt27 : g25 11 13 = g10 11 13 := ng25 11 13 (by omega)
            have qt28 : g25 27 12 = g10 27 12 := ng25 27 12 (by omega)
            have hT0s : hm_tab g25 = hr_tks v9.toInt.toNat (hm_tab g) := (hm_tab_same szA (by omega) (by omega) (fun a b h9 => ng25 a b (by omega))).trans iv18
            refine lv_aload_n hx hb dX7_tick_36 rfl (lv_at hl 0 rfl) ?_
            refine he_geti (C := RX7) (T := TX7) (N := 24) (ci := 7) (kd := 11) hx hb hts iX7_tick_X7 hown hK hJ k0 rfl rfl 13 (by decide) (hts (.fieldLink RX7 91 "NeighborBookModel" "known" "I") (List.mem_of_getElem? (i := 3) rfl)) (fun _ h9 => h9) rfl rfl dX7_tick_37 (fun x29 ex29 => ?_)
            have ex29 : x29.toInt = g25 11 13 ∧ 0 ≤ x29.toInt ∧ x29.toInt ≤ 12 := ex29
            refine hq_iconst hx hb dX7_tick_40 (by decide) (by decide) (fun z30 ez30 => ?_)
            refine hq_isub hx hb dX7_tick_41 (by omega) (by omega) (fun x31 ex31 => ?_)
            refine lv_istore (lv' := [(4, .int x31), (0, .ref h0), (1, .int n), (2, .int v8), (3, .int v9)]) hx hb dX7_tick_42 hl (by decide) rfl (fun ls hl => ?_)
            have lp34 : ∀ (nlp34 : Nat) (v32 : Int32) (g33 : Nat → Nat → Int) (H : Heap) (locs : List Loc) (ls : Array Slot), (hg_Q (fun a b => (a = 11 ∧ (b = 13 ∨ b = 19 ∨ b = 22 ∨ b = 23)) ∨ (21 ≤ a ∧ a ≤ 30)) g g33) → (-1 ≤ v32.toInt) → (v32.toInt < g33 11 13) → (g33 11 13 ≤ 12 ∧ v32.toInt < g25 11 13) → (g33 27 12 = g 27 12) → (hm_tab g33 = (hm_tab g25).take (v32.toInt + 1).toNat ++ hr_tk ((hm_tab g25).drop (v32.toInt + 1).toNat)) → (v32.toInt + 2 < (nlp34 : Int)) → he_J dC dI dA κ B g33 s.heap H locs → lv_has ls 6 [(0, .ref h0), (1, .int n), (2, .int v8), (3, .int v9), (4, .int v32)] → W p l e (headSpec wsX7_tick ({ frames := 3, cells := 0, slots := 0, locals := 67 } : Room)).room s m ([Value.ref h0, Value.int n] : List Value).toArray below meth c H locs 0 0 (MQ below (he_Qi dC dI dA κ B (fun r u => hg_Q (fun a b => (a = 11 ∧ (b = 13 ∨ b = 19 ∨ b = 22 ∨ b = 23)) ∨ (21 ≤ a ∧ a ≤ 30)) g u ∧ ((((1 ≤ n.toInt ∧ n.toInt ≤ 5000) ∧ hm_tab u = hr_tks n.toInt.toNat (hm_tab g)) ∨ (¬ (1 ≤ n.toInt ∧ n.toInt ≤ 5000) ∧ g = u)) ∧ u 27 12 = g 27 12))) ([Value.ref h0, Value.int n] : List Value).toArray s 0 0 (hp_A B)) (F0 m 44 ls []) := by
              intro nlp34
              induction nlp34 with
              | zero => intro v32 g33 H locs ls iv36 iv37 iv38 iv39 iv40 iv41 hm35 hJ hl; exact absurd hm35 (by omega)
              | succ nlp34 ihlp34 =>
                intro v32 g33 H locs ls iv36 iv37 iv38 iv39 iv40 iv41 hm35 hJ hl
                have szl := he_msz hJ k0
                refine lv_iload hx hb dX7_tick_44 (lv_at hl 4 rfl) ?_
                refine hq_if_lt (tgt := 82) hx hb dX7_tick_46 (by decide) (fun c42 => ?_) (fun c42 => ?_)
                · have hTn2 : hm_tab g33 = hr_tks (v9.toInt.toNat + 1) (hm_tab g) := by
                    rw [iv41, show (v32.toInt + 1).toNat = 0 by omega]
                    show hr_tk (hm_tab g25) = hr_tk (hr_tks v9.toInt.toNat (hm_tab g))
                    rw [hT0s]
                  refine hq_iconst hx hb dX7_tick_82 (by decide) (by decide) (fun z43 ez43 => ?_)
                  refine lv_istore (lv' := [(4, .int z43), (0, .ref h0), (1, .int n), (2, .int v8), (3, .int v9)]) hx hb dX7_tick_83 hl (by decide) rfl (fun ls hl => ?_)
                  have lp47 : ∀ (nlp47 : Nat) (v44 : Int32) (v45 : Int32) (g46 : Nat → Nat → Int) (H : Heap) (locs : List Loc) (ls : Array Slot), (hg_Q (fun a b => (a = 11 ∧ (b = 13 ∨ b = 19 ∨ b = 22 ∨ b = 23)) ∨ (21 ≤ a ∧ a ≤ 30)) g g46) → (0 ≤ v45.toInt) → (v45.toInt ≤ 4) → (g46 27 12 = g 27 12) → (0 ≤ g46 11 13 ∧ g46 11 13 ≤ 12) → (hm_tab g46 = hr_tks (v9.toInt.toNat + 1) (hm_tab g)) → (5 - v45.toInt < (nlp47 : Int)) → he_J dC dI dA κ B g46 s.heap H locs → lv_has ls 6 [(0, .ref h0), (1, .int n), (2, .int v44), (3, .int v9), (4, .int v45)] → W p l e (headSpec wsX7_tick ({ frames := 3, cells := 0, slots := 0, locals := 67 } : Room)).room s m ([Value.ref h0, Value.int n] : List Value).toArray below meth c H locs 0 0 (MQ below (he_Qi dC dI dA κ B (fun r u => hg_Q (fun a b => (a = 11 ∧ (b = 13 ∨ b = 19 ∨ b = 22 ∨ b = 23)) ∨ (21 ≤ a ∧ a ≤ 30)) g u ∧ ((((1 ≤ n.toInt ∧ n.toInt ≤ 5000) ∧ hm_tab u = hr_tks n.toInt.toNat (hm_tab g)) ∨ (¬ (1 ≤ n.toInt ∧ n.toInt ≤ 5000) ∧ g = u)) ∧ u 27 12 = g 27 12))) ([Value.ref h0, Value.int n] : List Value).toArray s 0 0 (hp_A B)) (F0 m 85 ls []) := by
                    intro nlp47
                    induction nlp47 with
                    | zero => intro v44 v45 g46 H locs ls iv49 iv50 iv51 iv52 iv53 iv54 hm48 hJ hl; exact absurd hm48 (by omega)
                    | succ nlp47 ihlp47 =>
                      intro v44 v45 g46 H locs ls iv49 iv50 iv51 iv52 iv53 iv54 hm48 hJ hl
                      have szl := he_msz hJ k0
                      refine lv_iload hx hb dX7_tick_85 (lv_at hl 4 rfl) ?_
                      refine hq_iconst hx hb dX7_tick_87 (by decide) (by decide) (fun z55 ez55 => ?_)
                      refine hq_icmp_ge (tgt := 216) hx hb dX7_tick_88 (by decide) (fun c56 => ?_) (fun c56 => ?_)
                      · have hTn := iv54
                        refine hq_iinc (k := 3) (lv' := fun (z9 : Int32) => [(3, .int z9), (0, .ref h0), (1, .int n), (2, .int v44), (4, .int v45)]) hx hb dX7_tick_216 hl rfl (by decide) (by decide) (by omega) (by omega) (by decide) (fun _ => rfl) (fun x57 ls ex57 hl => ?_)
                        have hl : lv_has ls 6 [(3, .int x57), (0, .ref h0), (1, .int n), (2, .int v44), (4, .int v45)] := hl
                        refine lv_goto (tgt := 18) hx hb dX7_tick_219 (by decide) ?_
                        exact ihlp11 v44 x57 g46 _ _ ls iv49 (by omega) (by omega) (by omega) (by omega) (by rw [show x57.toInt.toNat = v9.toInt.toNat + 1 by omega]; exact hTn) (by omega) hJ (lv_sub hl [1, 2, 3, 0] rfl)
                      · refine lv_aload_n hx hb dX7_tick_91 rfl (lv_at hl 0 rfl) ?_
                        refine he_getr (C := RX7) (T := TX7) (N := 24) (ci := 7) (kd := 11) hx hb hts iX7_tick_X7 hown hK hJ k0 rfl rfl 7 (by decide) (hts (.fieldLink RX7 30 "NeighborBookModel" "up" "[Z") (List.mem_of_getElem? (i := 5) rfl)) (fun _ h9 => h9) rfl dX7_tick_92 (fun b58 kb58 => ?_)
                        refine lv_iload hx hb dX7_tick_95 (lv_at hl 4 rfl) ?_
                        refine he_zald (kd := 20) (n := 4) hx hb hK hJ kb58 rfl (by omega) (by omega) (sp := (9, 1)) rfl rfl dX7_tick_97 (fun x59 ex59 => ?_)
                        have ex59 : x59.toInt = g46 20 v45.toInt.toNat ∧ 0 ≤ x59.toInt ∧ x59.toInt ≤ 1 := ex59
                        refine hq_if_ne (tgt := 104) hx hb dX7_tick_98 (by decide) (fun c60 => ?_) (fun c60 => ?_)
                        · refine lv_aload_n hx hb dX7_tick_104 rfl (lv_at hl 0 rfl) ?_
                          refine he_getr (C := RX7) (T := TX7) (N := 24) (ci := 7) (kd := 11) hx hb hts iX7_tick_X7 hown hK hJ k0 rfl rfl 11 (by decide) (hts (.fieldLink RX7 43 "NeighborBookModel" "waits" "[I") (List.mem_of_getElem? (i := 6) rfl)) (fun _ h9 => h9) rfl dX7_tick_105 (fun b61 kb61 => ?_)
                          refine lv_iload hx hb dX7_tick_108 (lv_at hl 4 rfl) ?_
                          refine lv_dup2_11 hx hb dX7_tick_110 rfl rfl ?_
                          refine he_iald (kd := 24) (n := 4) hx hb hK hJ kb61 rfl (by omega) (by omega) (sp := (0, 0)) rfl rfl dX7_tick_111 (fun x62 ex62 => ?_)
                          have ex62 : x62.toInt = g46 24 v45.toInt.toNat := ex62
                          refine hq_iconst hx hb dX7_tick_112 (by decide) (by decide) (fun z63 ez63 => ?_)
                          refine hq_isubU hx hb dX7_tick_113 (fun x64 => ?_)
                          refine he_iastx (kd := 24) (n := 4) hx hb hK hJ kb61 rfl (by omega) (by omega) (by decide) hW rfl (sp := (0, 0)) rfl rfl rfl dX7_tick_114 (fun g65 H locs eg65 ng65 hJ => ?_)
                          have eg65 : g65 24 v45.toInt.toNat = x64.toInt := eg65
                          have P66 : hg_Q (fun a b => (a = 11 ∧ (b = 13 ∨ b = 19 ∨ b = 22 ∨ b = 23)) ∨ (21 ≤ a ∧ a ≤ 30)) g g65 := hg_Q.put iv49 ng65 (show (24 = 11 ∧ (v45.toInt.toNat = 13 ∨ v45.toInt.toNat = 19 ∨ v45.toInt.toNat = 22 ∨ v45.toInt.toNat = 23)) ∨ (21 ≤ 24 ∧ 24 ≤ 30) from by omega)
                          have qt67 : g65 11 13 = g46 11 13 := ng65 11 13 (by omega)
                          have qt68 : g65 27 12 = g46 27 12 := ng65 27 12 (by omega)
                          refine lv_aload_n hx hb dX7_tick_115 rfl (lv_at hl 0 rfl) ?_
                          refine he_getr (C := RX7) (T := TX7) (N := 24) (ci := 7) (kd := 11) hx hb hts iX7_tick_X7 hown hK hJ k0 rfl rfl 11 (by decide) (hts (.fieldLink RX7 43 "NeighborBookModel" "waits" "[I") (List.mem_of_getElem? (i := 6) rfl)) (fun _ h9 => h9) rfl dX7_tick_116 (fun b69 kb69 => ?_)
                          refine lv_iload hx hb dX7_tick_119 (lv_at hl 4 rfl) ?_
                          refine he_iald (kd := 24) (n := 4) hx hb hK hJ kb69 rfl (by omega) (by omega) (sp := (0, 0)) rfl rfl dX7_tick_121 (fun x70 ex70 => ?_)
                          have ex70 : x70.toInt = g65 24 v45.toInt.toNat := ex70
                          refine hq_if_le (tgt := 128) hx hb dX7_tick_122 (by decide) (fun c71 => ?_) (fun c71 => ?_)
                          · refine lv_aload_n hx hb dX7_tick_128 rfl (lv_at hl 0 rfl) ?_
                            refine he_geti (C := RX7) (T := TX7) (N := 24) (ci := 7) (kd := 11) hx hb hts iX7_tick_X7 hown hK hJ k0 rfl rfl 4 (by decide) (hts (.fieldLink RX7 20 "NeighborBookModel" "interval" "I") (List.mem_of_getElem? (i := 7) rfl)) (fun _ h9 => h9) rfl rfl dX7_tick_129 (fun x72 ex72 => ?_)
                            refine lv_aload_n hx hb dX7_tick_132 rfl (lv_at hl 0 rfl) ?_
                            refine he_geti (C := RX7) (T := TX7) (N := 24) (ci := 7) (kd := 11) hx hb hts iX7_tick_X7 hown hK hJ k0 rfl rfl 5 (by decide) (hts (.fieldLink RX7 24 "NeighborBookModel" "hold" "I") (List.mem_of_getElem? (i := 8) rfl)) (fun _ h9 => h9) rfl rfl dX7_tick_133 (fun x73 ex73 => ?_)
                            refine hq_imulU hx hb dX7_tick_136 (fun x74 => ?_)
                            refine hq_iconst hx hb dX7_tick_137 (by decide) (by decide) (fun z75 ez75 => ?_)
                            refine hq_iaddU hx hb dX7_tick_138 (fun x76 => ?_)
                            refine lv_istore (lv' := [(5, .int x76), (0, .ref h0), (1, .int n), (2, .int v44), (3, .int v9), (4, .int v45)]) hx hb dX7_tick_139 hl (by decide) rfl (fun ls hl => ?_)
                            refine lv_aload_n hx hb dX7_tick_141 rfl (lv_at hl 1 rfl) ?_
                            refine lv_iload hx hb dX7_tick_142 (lv_at hl 5 rfl) ?_
                            refine lv_iload hx hb dX7_tick_144 (lv_at hl 0 rfl) ?_
                            refine lv_ldc hx hb hown (hts (.constant RX7 119 (65535)) (List.mem_of_getElem? (i := 9) rfl)) dX7_tick_146 ?_
                            refine lv_topi (fun z77 fz77 => ?_)
                            have ez77 : z77.toInt = 65535 := by rw [fz77]; rfl
                            refine hq_icmp_le (tgt := 156) hx hb dX7_tick_148 (by decide) (fun c78 => ?_) (fun c78 => ?_)
                            · refine lv_iload hx hb dX7_tick_156 (lv_at hl 0 rfl) ?_
                              refine he_callv (va_runV (As := [.int v45, .int x76]) (rest := []) ⟨hx, hb, hml, hown, hts⟩ (e_X7_send l dC dI dA κ B g65 h0 k0 v45 x76 (by omega) (by omega)) (cwV 2 hts gX7_tick_X7_send rfl rfl rfl (by decide +kernel) ⟨Nat.le_of_ble_eq_true rfl, Nat.le_of_ble_eq_true rfl⟩) (he_preV (q := (RX7, TX7, 24)) [.int v45, .int x76] hK hN hW hJ k0 rfl rfl) rfl rfl hl.1 rfl (lv_room (Nat.le_of_ble_eq_true rfl)) dX7_tick_158 ⟨Nat.zero_le _, Nat.zero_le _⟩) hJ (fun g79 H locs hp hJ => ?_)
                              have P81a := hp
                              have P81 : hg_Q (fun a b => (a = 11 ∧ (b = 13 ∨ b = 19 ∨ b = 22 ∨ b = 23)) ∨ (21 ≤ a ∧ a ≤ 30)) g g79 := hg_Q.tr P66 (hg_Q.le P81a (fun a b h9 => by have h9 : (a = 11 ∧ (b = 22 ∨ b = 23)) ∨ a = 21 := h9; show (a = 11 ∧ (b = 13 ∨ b = 19 ∨ b = 22 ∨ b = 23)) ∨ (21 ≤ a ∧ a ≤ 30); omega))
                              have qt82 : g79 11 13 = g65 11 13 := P81a 11 13 (show ¬ ((11 = 11 ∧ (13 = 22 ∨ 13 = 23)) ∨ 11 = 21) from by omega)
                              have qt83 : g79 27 12 = g65 27 12 := P81a 27 12 (show ¬ ((27 = 11 ∧ (12 = 22 ∨ 12 = 23)) ∨ 27 = 21) from by omega)
                              refine hq_iincU (k := 3) (lv' := fun (z9 : Int32) => [(2, .int z9), (5, .int x76), (0, .ref h0), (1, .int n), (3, .int v9), (4, .int v45)]) hx hb dX7_tick_161 hl rfl (by decide) (fun _ => rfl) (fun x84 ls hl => ?_)
                              have hl : lv_has ls 6 [(2, .int x84), (5, .int x76), (0, .ref h0), (1, .int n), (3, .int v9), (4, .int v45)] := hl
                              refine lv_aload_n hx hb dX7_tick_164 rfl (lv_at hl 2 rfl) ?_
                              refine he_getr (C := RX7) (T := TX7) (N := 24) (ci := 7) (kd := 11) hx hb hts iX7_tick_X7 hown hK hJ k0 rfl rfl 12 (by decide) (hts (.fieldLink RX7 46 "NeighborBookModel" "quicks" "[I") (List.mem_of_getElem? (i := 10) rfl)) (fun _ h9 => h9) rfl dX7_tick_165 (fun b85 kb85 => ?_)
                              refine lv_iload hx hb dX7_tick_168 (lv_at hl 5 rfl) ?_
                              refine he_iald (kd := 25) (n := 4) hx hb hK hJ kb85 rfl (by omega) (by omega) (sp := (0, 0)) rfl rfl dX7_tick_170 (fun x86 ex86 => ?_)
                              have ex86 : x86.toInt = g79 25 v45.toInt.toNat := ex86
                              refine hq_if_le (tgt := 185) hx hb dX7_tick_171 (by decide) (fun c87 => ?_) (fun c87 => ?_)
                              · refine lv_aload_n hx hb dX7_tick_185 rfl (lv_at hl 2 rfl) ?_
                                refine he_getr (C := RX7) (T := TX7) (N := 24) (ci := 7) (kd := 11) hx hb hts iX7_tick_X7 hown hK hJ k0 rfl rfl 11 (by decide) (hts (.fieldLink RX7 43 "NeighborBookModel" "waits" "[I") (List.mem_of_getElem? (i := 6) rfl)) (fun _ h9 => h9) rfl dX7_tick_186 (fun b88 kb88 => ?_)
                                refine lv_iload hx hb dX7_tick_189 (lv_at hl 5 rfl) ?_
                                refine lv_aload_n hx hb dX7_tick_191 rfl (lv_at hl 2 rfl) ?_
                                refine he_getr (C := RX7) (T := TX7) (N := 24) (ci := 7) (kd := 11) hx hb hts iX7_tick_X7 hown hK hJ k0 rfl rfl 12 (by decide) (hts (.fieldLink RX7 46 "NeighborBookModel" "quicks" "[I") (List.mem_of_getElem? (i := 10) rfl)) (fun _ h9 => h9) rfl dX7_tick_192 (fun b89 kb89 => ?_)
                                refine lv_iload hx hb dX7_tick_195 (lv_at hl 5 rfl) ?_
                                refine he_iald (kd := 25) (n := 4) hx hb hK hJ kb89 rfl (by omega) (by omega) (sp := (0, 0)) rfl rfl dX7_tick_197 (fun x90 ex90 => ?_)
                                have ex90 : x90.toInt = g79 25 v45.toInt.toNat := ex90
                                refine hq_if_le (tgt := 205) hx hb dX7_tick_198 (by decide) (fun c91 => ?_) (fun c91 => ?_)
                                · refine lv_aload_n hx hb dX7_tick_205 rfl (lv_at hl 2 rfl) ?_
                                  refine he_geti (C := RX7) (T := TX7) (N := 24) (ci := 7) (kd := 11) hx hb hts iX7_tick_X7 hown hK hJ k0 rfl rfl 4 (by decide) (hts (.fieldLink RX7 20 "NeighborBookModel" "interval" "I") (List.mem_of_getElem? (i := 7) rfl)) (fun _ h9 => h9) rfl rfl dX7_tick_206 (fun x92 ex92 => ?_)
                                  refine he_iastx (kd := 24) (n := 4) hx hb hK hJ kb88 rfl (by omega) (by omega) (by decide) hW rfl (sp := (0, 0)) rfl rfl rfl dX7_tick_209 (fun g93 H locs eg93 ng93 hJ => ?_)
                                  have eg93 : g93 24 v45.toInt.toNat = x92.toInt := eg93
                                  have P94 : hg_Q (fun a b => (a = 11 ∧ (b = 13 ∨ b = 19 ∨ b = 22 ∨ b = 23)) ∨ (21 ≤ a ∧ a ≤ 30)) g g93 := hg_Q.put P81 ng93 (show (24 = 11 ∧ (v45.toInt.toNat = 13 ∨ v45.toInt.toNat = 19 ∨ v45.toInt.toNat = 22 ∨ v45.toInt.toNat = 23)) ∨ (21 ≤ 24 ∧ 24 ≤ 30) from by omega)
                                  have qt95 : g93 11 13 = g79 11 13 := ng93 11 13 (by omega)
                                  have qt96 : g93 27 12 = g79 27 12 := ng93 27 12 (by omega)
                                  have hT3 : hm_tab g93 = hr_tks (v9.toInt.toNat + 1) (hm_tab g) := (hm_tab_same szl (by omega) (by omega) (fun a b h9 => by rw [ng93 a b (by omega), P81a a b (show ¬ ((a = 11 ∧ (b = 22 ∨ b = 23)) ∨ a = 21) from by omega), ng65 a b (by omega)])).trans iv54
                                  refine hq_iinc (k := 5) (lv' := fun (z9 : Int32) => [(4, .int z9), (2, .int x84), (5, .int x76), (0, .ref h0), (1, .int n), (3, .int v9)]) hx hb dX7_tick_210 hl rfl (by decide) (by decide) (by omega) (by omega) (by decide) (fun _ => rfl) (fun x97 ls ex97 hl => ?_)
                                  have hl : lv_has ls 6 [(4, .int x97), (2, .int x84), (5, .int x76), (0, .ref h0), (1, .int n), (3, .int v9)] := hl
                                  refine lv_goto (tgt := 85) hx hb dX7_tick_213 (by decide) ?_
                                  exact ihlp47 x84 x97 g93 _ _ ls P94 (by omega) (by omega) (by omega) (by omega) hT3 (by omega) hJ (lv_sub hl [3, 4, 1, 5, 0] rfl)
                                · refine hq_iconst hx hb dX7_tick_201 (by decide) (by decide) (fun z98 ez98 => ?_)
                                  refine lv_goto (tgt := 209) hx hb dX7_tick_202 (by decide) ?_
                                  refine he_iastx (kd := 24) (n := 4) hx hb hK hJ kb88 rfl (by omega) (by omega) (by decide) hW rfl (sp := (0, 0)) rfl rfl rfl dX7_tick_209 (fun g99 H locs eg99 ng99 hJ => ?_)
                                  have eg99 : g99 24 v45.toInt.toNat = z98.toInt := eg99
                                  have P100 : hg_Q (fun a b => (a = 11 ∧ (b = 13 ∨ b = 19 ∨ b = 22 ∨ b = 23)) ∨ (21 ≤ a ∧ a ≤ 30)) g g99 := hg_Q.put P81 ng99 (show (24 = 11 ∧ (v45.toInt.toNat = 13 ∨ v45.toInt.toNat = 19 ∨ v45.toInt.toNat = 22 ∨ v45.toInt.toNat = 23)) ∨ (21 ≤ 24 ∧ 24 ≤ 30) from by omega)
                                  have qt101 : g99 11 13 = g79 11 13 := ng99 11 13 (by omega)
                                  have qt102 : g99 27 12 = g79 27 12 := ng99 27 12 (by omega)
                                  have hT3 : hm_tab g99 = hr_tks (v9.toInt.toNat + 1) (hm_tab g) := (hm_tab_same szl (by omega) (by omega) (fun a b h9 => by rw [ng99 a b (by omega), P81a a b (show ¬ ((a = 11 ∧ (b = 22 ∨ b = 23)) ∨ a = 21) from by omega), ng65 a b (by omega)])).trans iv54
                                  refine hq_iinc (k := 5) (lv' := fun (z9 : Int32) => [(4, .int z9), (2, .int x84), (5, .int x76), (0, .ref h0), (1, .int n), (3, .int v9)]) hx hb dX7_tick_210 hl rfl (by decide) (by decide) (by omega) (by omega) (by decide) (fun _ => rfl) (fun x103 ls ex103 hl => ?_)
                                  have hl : lv_has ls 6 [(4, .int x103), (2, .int x84), (5, .int x76), (0, .ref h0), (1, .int n), (3, .int v9)] := hl
                                  refine lv_goto (tgt := 85) hx hb dX7_tick_213 (by decide) ?_
                                  exact ihlp47 x84 x103 g99 _ _ ls P100 (by omega) (by omega) (by omega) (by omega) hT3 (by omega) hJ (lv_sub hl [3, 4, 1, 5, 0] rfl)
                              · refine lv_aload_n hx hb dX7_tick_174 rfl (lv_at hl 2 rfl) ?_
                                refine he_getr (C := RX7) (T := TX7) (N := 24) (ci := 7) (kd := 11) hx hb hts iX7_tick_X7 hown hK hJ k0 rfl rfl 12 (by decide) (hts (.fieldLink RX7 46 "NeighborBookModel" "quicks" "[I") (List.mem_of_getElem? (i := 10) rfl)) (fun _ h9 => h9) rfl dX7_tick_175 (fun b104 kb104 => ?_)
                                refine lv_iload hx hb dX7_tick_178 (lv_at hl 5 rfl) ?_
                                refine lv_dup2_11 hx hb dX7_tick_180 rfl rfl ?_
                                refine he_iald (kd := 25) (n := 4) hx hb hK hJ kb104 rfl (by omega) (by omega) (sp := (0, 0)) rfl rfl dX7_tick_181 (fun x105 ex105 => ?_)
                                have ex105 : x105.toInt = g79 25 v45.toInt.toNat := ex105
                                refine hq_iconst hx hb dX7_tick_182 (by decide) (by decide) (fun z106 ez106 => ?_)
                                refine hq_isubU hx hb dX7_tick_183 (fun x107 => ?_)
                                refine he_iastx (kd := 25) (n := 4) hx hb hK hJ kb104 rfl (by omega) (by omega) (by decide) hW rfl (sp := (0, 0)) rfl rfl rfl dX7_tick_184 (fun g108 H locs eg108 ng108 hJ => ?_)
                                have eg108 : g108 25 v45.toInt.toNat = x107.toInt := eg108
                                have P109 : hg_Q (fun a b => (a = 11 ∧ (b = 13 ∨ b = 19 ∨ b = 22 ∨ b = 23)) ∨ (21 ≤ a ∧ a ≤ 30)) g g108 := hg_Q.put P81 ng108 (show (25 = 11 ∧ (v45.toInt.toNat = 13 ∨ v45.toInt.toNat = 19 ∨ v45.toInt.toNat = 22 ∨ v45.toInt.toNat = 23)) ∨ (21 ≤ 25 ∧ 25 ≤ 30) from by omega)
                                have qt110 : g108 11 13 = g79 11 13 := ng108 11 13 (by omega)
                                have qt111 : g108 27 12 = g79 27 12 := ng108 27 12 (by omega)
                                refine lv_aload_n hx hb dX7_tick_185 rfl (lv_at hl 2 rfl) ?_
                                refine he_getr (C := RX7) (T := TX7) (N := 24) (ci := 7) (kd := 11) hx hb hts iX7_tick_X7 hown hK hJ k0 rfl rfl 11 (by decide) (hts (.fieldLink RX7 43 "NeighborBookModel" "waits" "[I") (List.mem_of_getElem? (i := 6) rfl)) (fun _ h9 => h9) rfl dX7_tick_186 (fun b112 kb112 => ?_)
                                refine lv_iload hx hb dX7_tick_189 (lv_at hl 5 rfl) ?_
                                refine lv_aload_n hx hb dX7_tick_191 rfl (lv_at hl 2 rfl) ?_
                                refine he_getr (C := RX7) (T := TX7) (N := 24) (ci := 7) (kd := 11) hx hb hts iX7_tick_X7 hown hK hJ k0 rfl rfl 12 (by decide) (hts (.fieldLink RX7 46 "NeighborBookModel" "quicks" "[I") (List.mem_of_getElem? (i := 10) rfl)) (fun _ h9 => h9) rfl dX7_tick_192 (fun b113 kb113 => ?_)
                                refine lv_iload hx hb dX7_tick_195 (lv_at hl 5 rfl) ?_
                                refine he_iald (kd := 25) (n := 4) hx hb hK hJ kb113 rfl (by omega) (by omega) (sp := (0, 0)) rfl rfl dX7_tick_197 (fun x114 ex114 => ?_)
                                have ex114 : x114.toInt = g108 25 v45.toInt.toNat := ex114
                                refine hq_if_le (tgt := 205) hx hb dX7_tick_198 (by decide) (fun c115 => ?_) (fun c115 => ?_)
                                · refine lv_aload_n hx hb dX7_tick_205 rfl (lv_at hl 2 rfl) ?_
                                  refine he_geti (C := RX7) (T := TX7) (N := 24) (ci := 7) (kd := 11) hx hb hts iX7_tick_X7 hown hK hJ k0 rfl rfl 4 (by decide) (hts (.fieldLink RX7 20 "NeighborBookModel" "interval" "I") (List.mem_of_getElem? (i := 7) rfl)) (fun _ h9 => h9) rfl rfl dX7_tick_206 (fun x116 ex116 => ?_)
                                  refine he_iastx (kd := 24) (n := 4) hx hb hK hJ kb112 rfl (by omega) (by omega) (by decide) hW rfl (sp := (0, 0)) rfl rfl rfl dX7_tick_209 (fun g117 H locs eg117 ng117 hJ => ?_)
                                  have eg117 : g117 24 v45.toInt.toNat = x116.toInt := eg117
                                  have P118 : hg_Q (fun a b => (a = 11 ∧ (b = 13 ∨ b = 19 ∨ b = 22 ∨ b = 23)) ∨ (21 ≤ a ∧ a ≤ 30)) g g117 := hg_Q.put P109 ng117 (show (24 = 11 ∧ (v45.toInt.toNat = 13 ∨ v45.toInt.toNat = 19 ∨ v45.toInt.toNat = 22 ∨ v45.toInt.toNat = 23)) ∨ (21 ≤ 24 ∧ 24 ≤ 30) from by omega)
                                  have qt119 : g117 11 13 = g108 11 13 := ng117 11 13 (by omega)
                                  have qt120 : g117 27 12 = g108 27 12 := ng117 27 12 (by omega)
                                  have hT3 : hm_tab g117 = hr_tks (v9.toInt.toNat + 1) (hm_tab g) := (hm_tab_same szl (by omega) (by omega) (fun a b h9 => by rw [ng117 a b (by omega), ng108 a b (by omega), P81a a b (show ¬ ((a = 11 ∧ (b = 22 ∨ b = 23)) ∨ a = 21) from by omega), ng65 a b (by omega)])).trans iv54
                                  refine hq_iinc (k := 5) (lv' := fun (z9 : Int32) => [(4, .int z9), (2, .int x84), (5, .int x76), (0, .ref h0), (1, .int n), (3, .int v9)]) hx hb dX7_tick_210 hl rfl (by decide) (by decide) (by omega) (by omega) (by decide) (fun _ => rfl) (fun x121 ls ex121 hl => ?_)
                                  have hl : lv_has ls 6 [(4, .int x121), (2, .int x84), (5, .int x76), (0, .ref h0), (1, .int n), (3, .int v9)] := hl
                                  refine lv_goto (tgt := 85) hx hb dX7_tick_213 (by decide) ?_
                                  exact ihlp47 x84 x121 g117 _ _ ls P118 (by omega) (by omega) (by omega) (by omega) hT3 (by omega) hJ (lv_sub hl [3, 4, 1, 5, 0] rfl)
                                · refine hq_iconst hx hb dX7_tick_201 (by decide) (by decide) (fun z122 ez122 => ?_)
                                  refine lv_goto (tgt := 209) hx hb dX7_tick_202 (by decide) ?_
                                  refine he_iastx (kd := 24) (n := 4) hx hb hK hJ kb112 rfl (by omega) (by omega) (by decide) hW rfl (sp := (0, 0)) rfl rfl rfl dX7_tick_209 (fun g123 H locs eg123 ng123 hJ => ?_)
                                  have eg123 : g123 24 v45.toInt.toNat = z122.toInt := eg123
                                  have P124 : hg_Q (fun a b => (a = 11 ∧ (b = 13 ∨ b = 19 ∨ b = 22 ∨ b = 23)) ∨ (21 ≤ a ∧ a ≤ 30)) g g123 := hg_Q.put P109 ng123 (show (24 = 11 ∧ (v45.toInt.toNat = 13 ∨ v45.toInt.toNat = 19 ∨ v45.toInt.toNat = 22 ∨ v45.toInt.toNat = 23)) ∨ (21 ≤ 24 ∧ 24 ≤ 30) from by omega)
                                  have qt125 : g123 11 13 = g108 11 13 := ng123 11 13 (by omega)
                                  have qt126 : g123 27 12 = g108 27 12 := ng123 27 12 (by omega)
                                  have hT3 : hm_tab g123 = hr_tks (v9.toInt.toNat + 1) (hm_tab g) := (hm_tab_same szl (by omega) (by omega) (fun a b h9 => by rw [ng123 a b (by omega), ng108 a b (by omega), P81a a b (show ¬ ((a = 11 ∧ (b = 22 ∨ b = 23)) ∨ a = 21) from by omega), ng65 a b (by omega)])).trans iv54
                                  refine hq_iinc (k := 5) (lv' := fun (z9 : Int32) => [(4, .int z9), (2, .int x84), (5, .int x76), (0, .ref h0), (1, .int n), (3, .int v9)]) hx hb dX7_tick_210 hl rfl (by decide) (by decide) (by omega) (by omega) (by decide) (fun _ => rfl) (fun x127 ls ex127 hl => ?_)
                                  have hl : lv_has ls 6 [(4, .int x127), (2, .int x84), (5, .int x76), (0, .ref h0), (1, .int n), (3, .int v9)] := hl
                                  refine lv_goto (tgt := 85) hx hb dX7_tick_213 (by decide) ?_
                                  exact ihlp47 x84 x127 g123 _ _ ls P124 (by omega) (by omega) (by omega) (by omega) hT3 (by omega) hJ (lv_sub hl [3, 4, 1, 5, 0] rfl)
                            · refine lv_ldc hx hb hown (hts (.constant RX7 119 (65535)) (List.mem_of_getElem? (i := 9) rfl)) dX7_tick_151 ?_
                              refine lv_topi (fun z128 fz128 => ?_)
                              have ez128 : z128.toInt = 65535 := by rw [fz128]; rfl
                              refine lv_goto (tgt := 158) hx hb dX7_tick_153 (by decide) ?_
                              refine he_callv (va_runV (As := [.int v45, .int z128]) (rest := []) ⟨hx, hb, hml, hown, hts⟩ (e_X7_send l dC dI dA κ B g65 h0 k0 v45 z128 (by omega) (by omega)) (cwV 2 hts gX7_tick_X7_send rfl rfl rfl (by decide +kernel) ⟨Nat.le_of_ble_eq_true rfl, Nat.le_of_ble_eq_true rfl⟩) (he_preV (q := (RX7, TX7, 24)) [.int v45, .int z128] hK hN hW hJ k0 rfl rfl) rfl rfl hl.1 rfl (lv_room (Nat.le_of_ble_eq_true rfl)) dX7_tick_158 ⟨Nat.zero_le _, Nat.zero_le _⟩) hJ (fun g129 H locs hp hJ => ?_)
                              have P131a := hp
                              have P131 : hg_Q (fun a b => (a = 11 ∧ (b = 13 ∨ b = 19 ∨ b = 22 ∨ b = 23)) ∨ (21 ≤ a ∧ a ≤ 30)) g g129 := hg_Q.tr P66 (hg_Q.le P131a (fun a b h9 => by have h9 : (a = 11 ∧ (b = 22 ∨ b = 23)) ∨ a = 21 := h9; show (a = 11 ∧ (b = 13 ∨ b = 19 ∨ b = 22 ∨ b = 23)) ∨ (21 ≤ a ∧ a ≤ 30); omega))
                              have qt132 : g129 11 13 = g65 11 13 := P131a 11 13 (show ¬ ((11 = 11 ∧ (13 = 22 ∨ 13 = 23)) ∨ 11 = 21) from by omega)
                              have qt133 : g129 27 12 = g65 27 12 := P131a 27 12 (show ¬ ((27 = 11 ∧ (12 = 22 ∨ 12 = 23)) ∨ 27 = 21) from by omega)
                              refine hq_iincU (k := 3) (lv' := fun (z9 : Int32) => [(2, .int z9), (5, .int x76), (0, .ref h0), (1, .int n), (3, .int v9), (4, .int v45)]) hx hb dX7_tick_161 hl rfl (by decide) (fun _ => rfl) (fun x134 ls hl => ?_)
                              have hl : lv_has ls 6 [(2, .int x134), (5, .int x76), (0, .ref h0), (1, .int n), (3, .int v9), (4, .int v45)] := hl
                              refine lv_aload_n hx hb dX7_tick_164 rfl (lv_at hl 2 rfl) ?_
                              refine he_getr (C := RX7) (T := TX7) (N := 24) (ci := 7) (kd := 11) hx hb hts iX7_tick_X7 hown hK hJ k0 rfl rfl 12 (by decide) (hts (.fieldLink RX7 46 "NeighborBookModel" "quicks" "[I") (List.mem_of_getElem? (i := 10) rfl)) (fun _ h9 => h9) rfl dX7_tick_165 (fun b135 kb135 => ?_)
                              refine lv_iload hx hb dX7_tick_168 (lv_at hl 5 rfl) ?_
                              refine he_iald (kd := 25) (n := 4) hx hb hK hJ kb135 rfl (by omega) (by omega) (sp := (0, 0)) rfl rfl dX7_tick_170 (fun x136 ex136 => ?_)
                              have ex136 : x136.toInt = g129 25 v45.toInt.toNat := ex136
                              refine hq_if_le (tgt := 185) hx hb dX7_tick_171 (by decide) (fun c137 => ?_) (fun c137 => ?_)
                              · refine lv_aload_n hx hb dX7_tick_185 rfl (lv_at hl 2 rfl) ?_
                                refine he_getr (C := RX7) (T := TX7) (N := 24) (ci := 7) (kd := 11) hx hb hts iX7_tick_X7 hown hK hJ k0 rfl rfl 11 (by decide) (hts (.fieldLink RX7 43 "NeighborBookModel" "waits" "[I") (List.mem_of_getElem? (i := 6) rfl)) (fun _ h9 => h9) rfl dX7_tick_186 (fun b138 kb138 => ?_)
                                refine lv_iload hx hb dX7_tick_189 (lv_at hl 5 rfl) ?_
                                refine lv_aload_n hx hb dX7_tick_191 rfl (lv_at hl 2 rfl) ?_
                                refine he_getr (C := RX7) (T := TX7) (N := 24) (ci := 7) (kd := 11) hx hb hts iX7_tick_X7 hown hK hJ k0 rfl rfl 12 (by decide) (hts (.fieldLink RX7 46 "NeighborBookModel" "quicks" "[I") (List.mem_of_getElem? (i := 10) rfl)) (fun _ h9 => h9) rfl dX7_tick_192 (fun b139 kb139 => ?_)
                                refine lv_iload hx hb dX7_tick_195 (lv_at hl 5 rfl) ?_
                                refine he_iald (kd := 25) (n := 4) hx hb hK hJ kb139 rfl (by omega) (by omega) (sp := (0, 0)) rfl rfl dX7_tick_197 (fun x140 ex140 => ?_)
                                have ex140 : x140.toInt = g129 25 v45.toInt.toNat := ex140
                                refine hq_if_le (tgt := 205) hx hb dX7_tick_198 (by decide) (fun c141 => ?_) (fun c141 => ?_)
                                · refine lv_aload_n hx hb dX7_tick_205 rfl (lv_at hl 2 rfl) ?_
                                  refine he_geti (C := RX7) (T := TX7) (N := 24) (ci := 7) (kd := 11) hx hb hts iX7_tick_X7 hown hK hJ k0 rfl rfl 4 (by decide) (hts (.fieldLink RX7 20 "NeighborBookModel" "interval" "I") (List.mem_of_getElem? (i := 7) rfl)) (fun _ h9 => h9) rfl rfl dX7_tick_206 (fun x142 ex142 => ?_)
                                  refine he_iastx (kd := 24) (n := 4) hx hb hK hJ kb138 rfl (by omega) (by omega) (by decide) hW rfl (sp := (0, 0)) rfl rfl rfl dX7_tick_209 (fun g143 H locs eg143 ng143 hJ => ?_)
                                  have eg143 : g143 24 v45.toInt.toNat = x142.toInt := eg143
                                  have P144 : hg_Q (fun a b => (a = 11 ∧ (b = 13 ∨ b = 19 ∨ b = 22 ∨ b = 23)) ∨ (21 ≤ a ∧ a ≤ 30)) g g143 := hg_Q.put P131 ng143 (show (24 = 11 ∧ (v45.toInt.toNat = 13 ∨ v45.toInt.toNat = 19 ∨ v45.toInt.toNat = 22 ∨ v45.toInt.toNat = 23)) ∨ (21 ≤ 24 ∧ 24 ≤ 30) from by omega)
                                  have qt145 : g143 11 13 = g129 11 13 := ng143 11 13 (by omega)
                                  have qt146 : g143 27 12 = g129 27 12 := ng143 27 12 (by omega)
                                  have hT3 : hm_tab g143 = hr_tks (v9.toInt.toNat + 1) (hm_tab g) := (hm_tab_same szl (by omega) (by omega) (fun a b h9 => by rw [ng143 a b (by omega), P131a a b (show ¬ ((a = 11 ∧ (b = 22 ∨ b = 23)) ∨ a = 21) from by omega), ng65 a b (by omega)])).trans iv54
                                  refine hq_iinc (k := 5) (lv' := fun (z9 : Int32) => [(4, .int z9), (2, .int x134), (5, .int x76), (0, .ref h0), (1, .int n), (3, .int v9)]) hx hb dX7_tick_210 hl rfl (by decide) (by decide) (by omega) (by omega) (by decide) (fun _ => rfl) (fun x147 ls ex147 hl => ?_)
                                  have hl : lv_has ls 6 [(4, .int x147), (2, .int x134), (5, .int x76), (0, .ref h0), (1, .int n), (3, .int v9)] := hl
                                  refine lv_goto (tgt := 85) hx hb dX7_tick_213 (by decide) ?_
                                  exact ihlp47 x134 x147 g143 _ _ ls P144 (by omega) (by omega) (by omega) (by omega) hT3 (by omega) hJ (lv_sub hl [3, 4, 1, 5, 0] rfl)
                                · refine hq_iconst hx hb dX7_tick_201 (by decide) (by decide) (fun z148 ez148 => ?_)
                                  refine lv_goto (tgt := 209) hx hb dX7_tick_202 (by decide) ?_
                                  refine he_iastx (kd := 24) (n := 4) hx hb hK hJ kb138 rfl (by omega) (by omega) (by decide) hW rfl (sp := (0, 0)) rfl rfl rfl dX7_tick_209 (fun g149 H locs eg149 ng149 hJ => ?_)
                                  have eg149 : g149 24 v45.toInt.toNat = z148.toInt := eg149
                                  have P150 : hg_Q (fun a b => (a = 11 ∧ (b = 13 ∨ b = 19 ∨ b = 22 ∨ b = 23)) ∨ (21 ≤ a ∧ a ≤ 30)) g g149 := hg_Q.put P131 ng149 (show (24 = 11 ∧ (v45.toInt.toNat = 13 ∨ v45.toInt.toNat = 19 ∨ v45.toInt.toNat = 22 ∨ v45.toInt.toNat = 23)) ∨ (21 ≤ 24 ∧ 24 ≤ 30) from by omega)
                                  have qt151 : g149 11 13 = g129 11 13 := ng149 11 13 (by omega)
                                  have qt152 : g149 27 12 = g129 27 12 := ng149 27 12 (by omega)
                                  have hT3 : hm_tab g149 = hr_tks (v9.toInt.toNat + 1) (hm_tab g) := (hm_tab_same szl (by omega) (by omega) (fun a b h9 => by rw [ng149 a b (by omega), P131a a b (show ¬ ((a = 11 ∧ (b = 22 ∨ b = 23)) ∨ a = 21) from by omega), ng65 a b (by omega)])).trans iv54
                                  refine hq_iinc (k := 5) (lv' := fun (z9 : Int32) => [(4, .int z9), (2, .int x134), (5, .int x76), (0, .ref h0), (1, .int n), (3, .int v9)]) hx hb dX7_tick_210 hl rfl (by decide) (by decide) (by omega) (by omega) (by decide) (fun _ => rfl) (fun x153 ls ex153 hl => ?_)
                                  have hl : lv_has ls 6 [(4, .int x153), (2, .int x134), (5, .int x76), (0, .ref h0), (1, .int n), (3, .int v9)] := hl
                                  refine lv_goto (tgt := 85) hx hb dX7_tick_213 (by decide) ?_
                                  exact ihlp47 x134 x153 g149 _ _ ls P150 (by omega) (by omega) (by omega) (by omega) hT3 (by omega) hJ (lv_sub hl [3, 4, 1, 5, 0] rfl)
                              · refine lv_aload_n hx hb dX7_tick_174 rfl (lv_at hl 2 rfl) ?_
                                refine he_getr (C := RX7) (T := TX7) (N := 24) (ci := 7) (kd := 11) hx hb hts iX7_tick_X7 hown hK hJ k0 rfl rfl 12 (by decide) (hts (.fieldLink RX7 46 "NeighborBookModel" "quicks" "[I") (List.mem_of_getElem? (i := 10) rfl)) (fun _ h9 => h9) rfl dX7_tick_175 (fun b154 kb154 => ?_)
                                refine lv_iload hx hb dX7_tick_178 (lv_at hl 5 rfl) ?_
                                refine lv_dup2_11 hx hb dX7_tick_180 rfl rfl ?_
                                refine he_iald (kd := 25) (n := 4) hx hb hK hJ kb154 rfl (by omega) (by omega) (sp := (0, 0)) rfl rfl dX7_tick_181 (fun x155 ex155 => ?_)
                                have ex155 : x155.toInt = g129 25 v45.toInt.toNat := ex155
                                refine hq_iconst hx hb dX7_tick_182 (by decide) (by decide) (fun z156 ez156 => ?_)
                                refine hq_isubU hx hb dX7_tick_183 (fun x157 => ?_)
                                refine he_iastx (kd := 25) (n := 4) hx hb hK hJ kb154 rfl (by omega) (by omega) (by decide) hW rfl (sp := (0, 0)) rfl rfl rfl dX7_tick_184 (fun g158 H locs eg158 ng158 hJ => ?_)
                                have eg158 : g158 25 v45.toInt.toNat = x157.toInt := eg158
                                have P159 : hg_Q (fun a b => (a = 11 ∧ (b = 13 ∨ b = 19 ∨ b = 22 ∨ b = 23)) ∨ (21 ≤ a ∧ a ≤ 30)) g g158 := hg_Q.put P131 ng158 (show (25 = 11 ∧ (v45.toInt.toNat = 13 ∨ v45.toInt.toNat = 19 ∨ v45.toInt.toNat = 22 ∨ v45.toInt.toNat = 23)) ∨ (21 ≤ 25 ∧ 25 ≤ 30) from by omega)
                                have qt160 : g158 11 13 = g129 11 13 := ng158 11 13 (by omega)
                                have qt161 : g158 27 12 = g129 27 12 := ng158 27 12 (by omega)
                                refine lv_aload_n hx hb dX7_tick_185 rfl (lv_at hl 2 rfl) ?_
                                refine he_getr (C := RX7) (T := TX7) (N := 24) (ci := 7) (kd := 11) hx hb hts iX7_tick_X7 hown hK hJ k0 rfl rfl 11 (by decide) (hts (.fieldLink RX7 43 "NeighborBookModel" "waits" "[I") (List.mem_of_getElem? (i := 6) rfl)) (fun _ h9 => h9) rfl dX7_tick_186 (fun b162 kb162 => ?_)
                                refine lv_iload hx hb dX7_tick_189 (lv_at hl 5 rfl) ?_
                                refine lv_aload_n hx hb dX7_tick_191 rfl (lv_at hl 2 rfl) ?_
                                refine he_getr (C := RX7) (T := TX7) (N := 24) (ci := 7) (kd := 11) hx hb hts iX7_tick_X7 hown hK hJ k0 rfl rfl 12 (by decide) (hts (.fieldLink RX7 46 "NeighborBookModel" "quicks" "[I") (List.mem_of_getElem? (i := 10) rfl)) (fun _ h9 => h9) rfl dX7_tick_192 (fun b163 kb163 => ?_)
                                refine lv_iload hx hb dX7_tick_195 (lv_at hl 5 rfl) ?_
                                refine he_iald (kd := 25) (n := 4) hx hb hK hJ kb163 rfl (by omega) (by omega) (sp := (0, 0)) rfl rfl dX7_tick_197 (fun x164 ex164 => ?_)
                                have ex164 : x164.toInt = g158 25 v45.toInt.toNat := ex164
                                refine hq_if_le (tgt := 205) hx hb dX7_tick_198 (by decide) (fun c165 => ?_) (fun c165 => ?_)
                                · refine lv_aload_n hx hb dX7_tick_205 rfl (lv_at hl 2 rfl) ?_
                                  refine he_geti (C := RX7) (T := TX7) (N := 24) (ci := 7) (kd := 11) hx hb hts iX7_tick_X7 hown hK hJ k0 rfl rfl 4 (by decide) (hts (.fieldLink RX7 20 "NeighborBookModel" "interval" "I") (List.mem_of_getElem? (i := 7) rfl)) (fun _ h9 => h9) rfl rfl dX7_tick_206 (fun x166 ex166 => ?_)
                                  refine he_iastx (kd := 24) (n := 4) hx hb hK hJ kb162 rfl (by omega) (by omega) (by decide) hW rfl (sp := (0, 0)) rfl rfl rfl dX7_tick_209 (fun g167 H locs eg167 ng167 hJ => ?_)
                                  have eg167 : g167 24 v45.toInt.toNat = x166.toInt := eg167
                                  have P168 : hg_Q (fun a b => (a = 11 ∧ (b = 13 ∨ b = 19 ∨ b = 22 ∨ b = 23)) ∨ (21 ≤ a ∧ a ≤ 30)) g g167 := hg_Q.put P159 ng167 (show (24 = 11 ∧ (v45.toInt.toNat = 13 ∨ v45.toInt.toNat = 19 ∨ v45.toInt.toNat = 22 ∨ v45.toInt.toNat = 23)) ∨ (21 ≤ 24 ∧ 24 ≤ 30) from by omega)
                                  have qt169 : g167 11 13 = g158 11 13 := ng167 11 13 (by omega)
                                  have qt170 : g167 27 12 = g158 27 12 := ng167 27 12 (by omega)
                                  have hT3 : hm_tab g167 = hr_tks (v9.toInt.toNat + 1) (hm_tab g) := (hm_tab_same szl (by omega) (by omega) (fun a b h9 => by rw [ng167 a b (by omega), ng158 a b (by omega), P131a a b (show ¬ ((a = 11 ∧ (b = 22 ∨ b = 23)) ∨ a = 21) from by omega), ng65 a b (by omega)])).trans iv54
                                  refine hq_iinc (k := 5) (lv' := fun (z9 : Int32) => [(4, .int z9), (2, .int x134), (5, .int x76), (0, .ref h0), (1, .int n), (3, .int v9)]) hx hb dX7_tick_210 hl rfl (by decide) (by decide) (by omega) (by omega) (by decide) (fun _ => rfl) (fun x171 ls ex171 hl => ?_)
                                  have hl : lv_has ls 6 [(4, .int x171), (2, .int x134), (5, .int x76), (0, .ref h0), (1, .int n), (3, .int v9)] := hl
                                  refine lv_goto (tgt := 85) hx hb dX7_tick_213 (by decide) ?_
                                  exact ihlp47 x134 x171 g167 _ _ ls P168 (by omega) (by omega) (by omega) (by omega) hT3 (by omega) hJ (lv_sub hl [3, 4, 1, 5, 0] rfl)
                                · refine hq_iconst hx hb dX7_tick_201 (by decide) (by decide) (fun z172 ez172 => ?_)
                                  refine lv_goto (tgt := 209) hx hb dX7_tick_202 (by decide) ?_
                                  refine he_iastx (kd := 24) (n := 4) hx hb hK hJ kb162 rfl (by omega) (by omega) (by decide) hW rfl (sp := (0, 0)) rfl rfl rfl dX7_tick_209 (fun g173 H locs eg173 ng173 hJ => ?_)
                                  have eg173 : g173 24 v45.toInt.toNat = z172.toInt := eg173
                                  have P174 : hg_Q (fun a b => (a = 11 ∧ (b = 13 ∨ b = 19 ∨ b = 22 ∨ b = 23)) ∨ (21 ≤ a ∧ a ≤ 30)) g g173 := hg_Q.put P159 ng173 (show (24 = 11 ∧ (v45.toInt.toNat = 13 ∨ v45.toInt.toNat = 19 ∨ v45.toInt.toNat = 22 ∨ v45.toInt.toNat = 23)) ∨ (21 ≤ 24 ∧ 24 ≤ 30) from by omega)
                                  have qt175 : g173 11 13 = g158 11 13 := ng173 11 13 (by omega)
                                  have qt176 : g173 27 12 = g158 27 12 := ng173 27 12 (by omega)
                                  have hT3 : hm_tab g173 = hr_tks (v9.toInt.toNat + 1) (hm_tab g) := (hm_tab_same szl (by omega) (by omega) (fun a b h9 => by rw [ng173 a b (by omega), ng158 a b (by omega), P131a a b (show ¬ ((a = 11 ∧ (b = 22 ∨ b = 23)) ∨ a = 21) from by omega), ng65 a b (by omega)])).trans iv54
                                  refine hq_iinc (k := 5) (lv' := fun (z9 : Int32) => [(4, .int z9), (2, .int x134), (5, .int x76), (0, .ref h0), (1, .int n), (3, .int v9)]) hx hb dX7_tick_210 hl rfl (by decide) (by decide) (by omega) (by omega) (by decide) (fun _ => rfl) (fun x177 ls ex177 hl => ?_)
                                  have hl : lv_has ls 6 [(4, .int x177), (2, .int x134), (5, .int x76), (0, .ref h0), (1, .int n), (3, .int v9)] := hl
                                  refine lv_goto (tgt := 85) hx hb dX7_tick_213 (by decide) ?_
                                  exact ihlp47 x134 x177 g173 _ _ ls P174 (by omega) (by omega) (by omega) (by omega) hT3 (by omega) hJ (lv_sub hl [3, 4, 1, 5, 0] rfl)
                          · refine lv_goto (tgt := 210) hx hb dX7_tick_125 (by decide) ?_
                            have hT3 : hm_tab g65 = hr_tks (v9.toInt.toNat + 1) (hm_tab g) := (hm_tab_same szl (by omega) (by omega) (fun a b h9 => by rw [ng65 a b (by omega)])).trans iv54
                            refine hq_iinc (k := 4) (lv' := fun (z9 : Int32) => [(4, .int z9), (0, .ref h0), (1, .int n), (2, .int v44), (3, .int v9)]) hx hb dX7_tick_210 hl rfl (by decide) (by decide) (by omega) (by omega) (by decide) (fun _ => rfl) (fun x178 ls ex178 hl => ?_)
                            have hl : lv_has ls 6 [(4, .int x178), (0, .ref h0), (1, .int n), (2, .int v44), (3, .int v9)] := hl
                            refine lv_goto (tgt := 85) hx hb dX7_tick_213 (by decide) ?_
                            exact ihlp47 v44 x178 g65 _ _ ls P66 (by omega) (by omega) (by omega) (by omega) hT3 (by omega) hJ (lv_sub hl [1, 2, 3, 4, 0] rfl)
                        · refine lv_goto (tgt := 210) hx hb dX7_tick_101 (by decide) ?_
                          have hT3 := iv54
                          refine hq_iinc (k := 4) (lv' := fun (z9 : Int32) => [(4, .int z9), (0, .ref h0), (1, .int n), (2, .int v44), (3, .int v9)]) hx hb dX7_tick_210 hl rfl (by decide) (by decide) (by omega) (by omega) (by decide) (fun _ => rfl) (fun x179 ls ex179 hl => ?_)
                          have hl : lv_has ls 6 [(4, .int x179), (0, .ref h0), (1, .int n), (2, .int v44), (3, .int v9)] := hl
                          refine lv_goto (tgt := 85) hx hb dX7_tick_213 (by decide) ?_
                          exact ihlp47 v44 x179 g46 _ _ ls iv49 (by omega) (by omega) (by omega) (by omega) hT3 (by omega) hJ (lv_sub hl [1, 2, 3, 4, 0] rfl)
                  exact lp47 ((5 - z43.toInt).toNat + 1) v8 z43 g33 _ _ ls iv36 (by omega) (by omega) (by omega) (by omega) hTn2 (by omega) hJ (lv_sub hl [1, 2, 3, 4, 0] rfl)
                · refine lv_aload_n hx hb dX7_tick_49 rfl (lv_at hl 0 rfl) ?_
                  refine he_getr (C := RX7) (T := TX7) (N := 24) (ci := 7) (kd := 11) hx hb hts iX7_tick_X7 hown hK hJ k0 rfl rfl 15 (by decide) (hts (.fieldLink RX7 52 "NeighborBookModel" "left" "[I") (List.mem_of_getElem? (i := 4) rfl)) (fun _ h9 => h9) rfl dX7_tick_50 (fun b180 kb180 => ?_)
                  refine lv_iload hx hb dX7_tick_53 (lv_at hl 4 rfl) ?_
                  refine lv_dup2_11 hx hb dX7_tick_55 rfl rfl ?_
                  refine he_iald (kd := 27) (n := 13) hx hb hK hJ kb180 rfl (by omega) (by omega) (sp := (0, 0)) rfl rfl dX7_tick_56 (fun x181 ex181 => ?_)
                  have ex181 : x181.toInt = g33 27 v32.toInt.toNat := ex181
                  have hvl : v32.toInt.toNat < (hm_tab g25).length := by rw [hm_tab_len]; omega
                  have hTv := iv41
                  rw [show (v32.toInt + 1).toNat = v32.toInt.toNat + 1 by omega] at hTv
                  have hlk := hm_look hTv (by omega) hvl
                  have hlj : 1 ≤ g33 27 v32.toInt.toNat ∧ g33 27 v32.toInt.toNat ≤ 65535 := by
                    have h9 := ((hI.tks v9.toInt.toNat).1 _ (by rw [← hT0s]; exact List.getElem_mem hvl)).2.2.2
                    rw [hlk] at h9
                    exact h9
                  refine hq_iconst hx hb dX7_tick_57 (by decide) (by decide) (fun z182 ez182 => ?_)
                  refine hq_isub hx hb dX7_tick_58 (by omega) (by omega) (fun x183 ex183 => ?_)
                  refine he_iastx (kd := 27) (n := 13) hx hb hK hJ kb180 rfl (by omega) (by omega) (by decide) hW rfl (sp := (0, 0)) rfl rfl rfl dX7_tick_59 (fun g184 H locs eg184 ng184 hJ => ?_)
                  have eg184 : g184 27 v32.toInt.toNat = x183.toInt := eg184
                  have P185 : hg_Q (fun a b => (a = 11 ∧ (b = 13 ∨ b = 19 ∨ b = 22 ∨ b = 23)) ∨ (21 ≤ a ∧ a ≤ 30)) g g184 := hg_Q.put iv36 ng184 (show (27 = 11 ∧ (v32.toInt.toNat = 13 ∨ v32.toInt.toNat = 19 ∨ v32.toInt.toNat = 22 ∨ v32.toInt.toNat = 23)) ∨ (21 ≤ 27 ∧ 27 ≤ 30) from by omega)
                  have qt186 : g184 11 13 = g33 11 13 := ng184 11 13 (by omega)
                  have qt187 : g184 27 12 = g33 27 12 := ng184 27 12 (by omega)
                  have htk := hm_tick szl hTv hvl (by omega) (by omega) ng184 (by rw [eg184]; omega)
                  refine lv_aload_n hx hb dX7_tick_60 rfl (lv_at hl 0 rfl) ?_
                  refine he_getr (C := RX7) (T := TX7) (N := 24) (ci := 7) (kd := 11) hx hb hts iX7_tick_X7 hown hK hJ k0 rfl rfl 15 (by decide) (hts (.fieldLink RX7 52 "NeighborBookModel" "left" "[I") (List.mem_of_getElem? (i := 4) rfl)) (fun _ h9 => h9) rfl dX7_tick_61 (fun b188 kb188 => ?_)
                  refine lv_iload hx hb dX7_tick_64 (lv_at hl 4 rfl) ?_
                  refine he_iald (kd := 27) (n := 13) hx hb hK hJ kb188 rfl (by omega) (by omega) (sp := (0, 0)) rfl rfl dX7_tick_66 (fun x189 ex189 => ?_)
                  have ex189 : x189.toInt = g184 27 v32.toInt.toNat := ex189
                  refine hq_if_ne (tgt := 76) hx hb dX7_tick_67 (by decide) (fun c190 => ?_) (fun c190 => ?_)
                  · have hT := htk.2 (by omega)
                    refine hq_iinc (k := 4) (lv' := fun (z9 : Int32) => [(4, .int z9), (0, .ref h0), (1, .int n), (2, .int v8), (3, .int v9)]) hx hb dX7_tick_76 hl rfl (by decide) (by decide) (by omega) (by omega) (by decide) (fun _ => rfl) (fun x191 ls ex191 hl => ?_)
                    have hl : lv_has ls 6 [(4, .int x191), (0, .ref h0), (1, .int n), (2, .int v8), (3, .int v9)] := hl
                    refine lv_goto (tgt := 44) hx hb dX7_tick_79 (by decide) ?_
                    exact ihlp34 x191 g184 _ _ ls P185 (by omega) (by omega) (by omega) (by omega) (by rw [show (x191.toInt + 1).toNat = v32.toInt.toNat by omega]; exact hT) (by omega) hJ (lv_sub hl [1, 2, 3, 4, 0] rfl)
                  · refine lv_aload_n hx hb dX7_tick_70 rfl (lv_at hl 0 rfl) ?_
                    refine lv_iload hx hb dX7_tick_71 (lv_at hl 4 rfl) ?_
                    refine he_callv (va_runV (As := [.int v32]) (rest := []) ⟨hx, hb, hml, hown, hts⟩ (e_X7_forget l dC dI dA κ B g184 h0 k0 v32 (by omega) (by omega)) (cwV 1 hts gX7_tick_X7_forget rfl rfl rfl (by decide +kernel) ⟨Nat.le_of_ble_eq_true rfl, Nat.le_of_ble_eq_true rfl⟩) (he_preV (q := (RX7, TX7, 24)) [.int v32] hK hN hW hJ k0 rfl rfl) rfl rfl hl.1 rfl (lv_room (Nat.le_of_ble_eq_true rfl)) dX7_tick_73 ⟨Nat.zero_le _, Nat.zero_le _⟩) hJ (fun g192 H locs hp hJ => ?_)
                    obtain ⟨P194a, f193⟩ := hp
                    have P194 : hg_Q (fun a b => (a = 11 ∧ (b = 13 ∨ b = 19 ∨ b = 22 ∨ b = 23)) ∨ (21 ≤ a ∧ a ≤ 30)) g g192 := hg_Q.tr P185 (hg_Q.le P194a (fun a b h9 => by have h9 : (a = 11 ∧ b = 13) ∨ (26 ≤ a ∧ a ≤ 28 ∧ b < 12) ∨ (a = 30 ∧ b < 108) ∨ (a = 29 ∧ b < 6480) := h9; show (a = 11 ∧ (b = 13 ∨ b = 19 ∨ b = 22 ∨ b = 23)) ∨ (21 ≤ a ∧ a ≤ 30); omega))
                    have qt195 : g192 27 12 = g184 27 12 := P194a 27 12 (show ¬ ((27 = 11 ∧ 12 = 13) ∨ (26 ≤ 27 ∧ 27 ≤ 28 ∧ 12 < 12) ∨ (27 = 30 ∧ 12 < 108) ∨ (27 = 29 ∧ 12 < 6480)) from by omega)
                    have hT : hm_tab g192 = (hm_tab g25).take v32.toInt.toNat ++ hr_tk ((hm_tab g25).drop v32.toInt.toNat) := by
                      rw [f193.2, htk.1, hl_es, hTv]
                      exact hr_tk_e hvl (by rw [hlk]; show g33 27 v32.toInt.toNat ≤ 1; omega)
                    refine hq_iinc (k := 4) (lv' := fun (z9 : Int32) => [(4, .int z9), (0, .ref h0), (1, .int n), (2, .int v8), (3, .int v9)]) hx hb dX7_tick_76 hl rfl (by decide) (by decide) (by omega) (by omega) (by decide) (fun _ => rfl) (fun x196 ls ex196 hl => ?_)
                    have hl : lv_has ls 6 [(4, .int x196), (0, .ref h0), (1, .int n), (2, .int v8), (3, .int v9)] := hl
                    refine lv_goto (tgt := 44) hx hb dX7_tick_79 (by decide) ?_
                    exact ihlp34 x196 g192 _ _ ls P194 (by omega) (by omega) (by omega) (by omega) (by rw [show (x196.toInt + 1).toNat = v32.toInt.toNat by omega]; exact hT) (by omega) hJ (lv_sub hl [1, 2, 3, 4, 0] rfl)
            exact lp34 ((x31.toInt + 2).toNat + 1) x31 g25 _ _ ls P26 (by omega) (by omega) (by omega) (by omega) (by rw [show (x31.toInt + 1).toNat = (hm_tab g25).length by rw [hm_tab_len]; omega, List.take_length, List.drop_length]; exact (List.append_nil _).symm) (by omega) hJ (lv_sub hl [1, 2, 3, 4, 0] rfl)
      exact lp11 ((5001 - z7.toInt).toNat + 1) z6 z7 g _ _ ls hg_Q.rf (by omega) (by omega) (by omega) (by omega) (by rw [show z7.toInt.toNat = 0 by omega]; rfl) (by omega) hJ (lv_sub hl [2, 3, 1, 0] rfl)
    · refine hq_iconst hx hb dX7_tick_12 (by decide) (by decide) (fun z197 ez197 => ?_)
      exact he_iret hx hb hK hN hW hlocks hJ hr ⟨hg_Q.rf, Or.inr ⟨by omega, rfl⟩, rfl⟩ dX7_tick_13
