theorem iX7_port_X7 : ∀ w ∈ wsX70, w ∈ wsX7_port := fun _ h => List.mem_cons_of_mem _ (List.mem_append_right _ h)
set_option maxRecDepth 100000 in
set_option maxHeartbeats 4000000 in
theorem c_X7_port (l : Launch) (dC : Nat → ClassId) (dI : Nat → Nat → Nat) (dA : Nat → ClassId) (κ : Nat → Nat) (B : Nat) (g : Nat → Nat → Int) (h0 : Nat) (k0 : κ h0 = 11) (p1 : Int32) (up : Int32) (hG : hg_k g) : Met l yX7_port wsX7_port ({ frames := 3, cells := 0, slots := 0, locals := 67 } : Room) (hp_Pre dC dI dA κ B g [Value.ref h0, Value.int p1, Value.int up]) (hp_Qi dC dI dA κ B (fun r u => hg_P hx_M g u ∧ hg_k u ∧ u 11 1 = g 11 1 ∧ (((0 ≤ p1.toInt ∧ p1.toInt < 4 ∧ 0 ≤ up.toInt ∧ up.toInt ≤ 1 ∧ g 20 p1.toInt.toNat ≠ up.toInt) ∧ r.toInt = 1 ∧ ∀ j : Nat, j < 4 → u 20 j = if j = p1.toInt.toNat then up.toInt else g 20 j) ∨ (¬ (0 ≤ p1.toInt ∧ p1.toInt < 4 ∧ 0 ≤ up.toInt ∧ up.toInt ≤ 1 ∧ g 20 p1.toInt.toNat ≠ up.toInt) ∧ r.toInt = 0 ∧ g = u)))) 0 0 (hp_A B) := by
  refine Met.ofW (cc := cX7_port) (maxL := 4) (ret := (some .int)) (by decide) rfl ?_
  intro p e s m args below meth c s₁ Bd hml hv
  obtain ⟨rfl, hK, hN, hW, hF⟩ := hv
  have hx := Bd.exec
  have hb := Bd.bytes
  have hr := Bd.returns
  have hts := atoms_spec (ws := wsX7_port) Bd.pre
  have hown : s.vm.findClass RX7 = some m.cls := findClass_of_methodNamed Bd.named
  have hlocks := Bd.notSynchronized
  have hJ : hp_J dC dI dA κ B g s.heap s.heap [] := ⟨hF, va_S.rf⟩
  have hl := lv_entry ([Value.ref h0, Value.int p1, Value.int up]) (n := 4) (Nat.le_of_ble_eq_true rfl)
  rw [lg_entry_eq]
  generalize (lg_sl ([Value.ref h0, Value.int p1, Value.int up]) ++ List.replicate (4 - (lg_sl ([Value.ref h0, Value.int p1, Value.int up])).length) Slot.unset).toArray = ls at hl ⊢
  have hl : lv_has ls 4 [(0, .ref h0), (1, .int p1), (2, .int up)] := hl
  obtain ⟨hG1, hG2, hG3, hG4, hG5, hG6, hG7, hG8⟩ := id hG
  refine lv_iload_n hx hb dX7_port_0 rfl (lv_at hl 1 rfl) ?_
  refine hq_if_lt (tgt := 37) hx hb dX7_port_1 (by decide) (fun c1 => ?_) (fun c1 => ?_)
  · refine hq_iconst hx hb dX7_port_37 (by decide) (by decide) (fun z2 ez2 => ?_)
    exact hp_iret hx hb hK hN hW hlocks hJ hr (by first | exact ⟨hg_P.rf, hG, by omega, Or.inr ⟨by omega, by omega, rfl⟩⟩ | exact ⟨hg_P.rf, hG, by omega, Or.inl ⟨by omega, by omega, (fun _ _ => rfl)⟩⟩) dX7_port_38
  · refine lv_iload_n hx hb dX7_port_4 rfl (lv_at hl 1 rfl) ?_
    refine hq_iconst hx hb dX7_port_5 (by decide) (by decide) (fun z3 ez3 => ?_)
    refine hq_icmp_ge (tgt := 37) hx hb dX7_port_6 (by decide) (fun c4 => ?_) (fun c4 => ?_)
    · refine hq_iconst hx hb dX7_port_37 (by decide) (by decide) (fun z5 ez5 => ?_)
      exact hp_iret hx hb hK hN hW hlocks hJ hr (by first | exact ⟨hg_P.rf, hG, by omega, Or.inr ⟨by omega, by omega, rfl⟩⟩ | exact ⟨hg_P.rf, hG, by omega, Or.inl ⟨by omega, by omega, (fun _ _ => rfl)⟩⟩) dX7_port_38
    · refine lv_iload_n hx hb dX7_port_9 rfl (lv_at hl 2 rfl) ?_
      refine hq_if_lt (tgt := 37) hx hb dX7_port_10 (by decide) (fun c6 => ?_) (fun c6 => ?_)
      · refine hq_iconst hx hb dX7_port_37 (by decide) (by decide) (fun z7 ez7 => ?_)
        exact hp_iret hx hb hK hN hW hlocks hJ hr (by first | exact ⟨hg_P.rf, hG, by omega, Or.inr ⟨by omega, by omega, rfl⟩⟩ | exact ⟨hg_P.rf, hG, by omega, Or.inl ⟨by omega, by omega, (fun _ _ => rfl)⟩⟩) dX7_port_38
      · refine lv_iload_n hx hb dX7_port_13 rfl (lv_at hl 2 rfl) ?_
        refine hq_iconst hx hb dX7_port_14 (by decide) (by decide) (fun z8 ez8 => ?_)
        refine hq_icmp_gt (tgt := 37) hx hb dX7_port_15 (by decide) (fun c9 => ?_) (fun c9 => ?_)
        · refine hq_iconst hx hb dX7_port_37 (by decide) (by decide) (fun z10 ez10 => ?_)
          exact hp_iret hx hb hK hN hW hlocks hJ hr (by first | exact ⟨hg_P.rf, hG, by omega, Or.inr ⟨by omega, by omega, rfl⟩⟩ | exact ⟨hg_P.rf, hG, by omega, Or.inl ⟨by omega, by omega, (fun _ _ => rfl)⟩⟩) dX7_port_38
        · refine lv_aload_n hx hb dX7_port_18 rfl (lv_at hl 0 rfl) ?_
          refine hp_getr (C := RX7) (T := TX7) (N := 24) (ci := 7) (kd := 11) hx hb hts iX7_port_X7 hown hK hJ k0 rfl rfl 7 (by decide) (hts (.fieldLink RX7 30 "NeighborBookModel" "up" "[Z") (List.mem_of_getElem? (i := 1) rfl)) (fun _ h9 => h9) rfl dX7_port_19 (fun b11 kb11 => ?_)
          refine lv_iload_n hx hb dX7_port_22 rfl (lv_at hl 1 rfl) ?_
          refine hp_zald (kd := 20) (n := 4) hx hb hK hJ kb11 rfl (by omega) (by omega) (sp := (0, 0)) rfl rfl dX7_port_23 (fun x12 ex12 => ?_)
          have ex12 : x12.toInt = g 20 p1.toInt.toNat := ex12
          refine lv_iload_n hx hb dX7_port_24 rfl (lv_at hl 2 rfl) ?_
          refine hq_iconst hx hb dX7_port_25 (by decide) (by decide) (fun z13 ez13 => ?_)
          refine hq_icmp_ne (tgt := 33) hx hb dX7_port_26 (by decide) (fun c14 => ?_) (fun c14 => ?_)
          · refine hq_iconst hx hb dX7_port_33 (by decide) (by decide) (fun z15 ez15 => ?_)
            refine hq_icmp_ne (tgt := 39) hx hb dX7_port_34 (by decide) (fun c16 => ?_) (fun c16 => ?_)
            · refine lv_aload_n hx hb dX7_port_39 rfl (lv_at hl 0 rfl) ?_
              refine hp_getr (C := RX7) (T := TX7) (N := 24) (ci := 7) (kd := 11) hx hb hts iX7_port_X7 hown hK hJ k0 rfl rfl 7 (by decide) (hts (.fieldLink RX7 30 "NeighborBookModel" "up" "[Z") (List.mem_of_getElem? (i := 1) rfl)) (fun _ h9 => h9) rfl dX7_port_40 (fun b17 kb17 => ?_)
              refine lv_iload_n hx hb dX7_port_43 rfl (lv_at hl 1 rfl) ?_
              refine lv_iload_n hx hb dX7_port_44 rfl (lv_at hl 2 rfl) ?_
              refine hq_iconst hx hb dX7_port_45 (by decide) (by decide) (fun z18 ez18 => ?_)
              refine hq_icmp_ne (tgt := 53) hx hb dX7_port_46 (by decide) (fun c19 => ?_) (fun c19 => ?_)
              · refine hq_iconst hx hb dX7_port_53 (by decide) (by decide) (fun z20 ez20 => ?_)
                refine hp_zastx (kd := 20) (n := 4) hx hb hK hJ kb17 rfl (by omega) (by omega) (by decide) hW rfl (hi_bool (by omega)) rfl dX7_port_54 (fun g21 H locs eg21 ng21 hJ => ?_)
                have P22 : hg_P hx_M g g21 := hg_P.put hg_P.rf ng21 rfl
                have tt23 : g21 11 1 = g 11 1 := ng21 11 1 (by omega)
                have tt24 : g21 11 13 = g 11 13 := ng21 11 13 (by omega)
                have tt25 : g21 11 22 = g 11 22 := ng21 11 22 (by omega)
                have up26 : ∀ j : Nat, j < 4 → g21 20 j = if j = p1.toInt.toNat then up.toInt else g 20 j := by
                  intro j hj
                  by_cases h9 : j = p1.toInt.toNat
                  · rw [if_pos h9, h9, eg21]; omega
                  · rw [if_neg h9, ng21 20 j (by omega)]
                refine lv_aload_n hx hb dX7_port_55 rfl (lv_at hl 0 rfl) ?_
                refine hp_getr (C := RX7) (T := TX7) (N := 24) (ci := 7) (kd := 11) hx hb hts iX7_port_X7 hown hK hJ k0 rfl rfl 11 (by decide) (hts (.fieldLink RX7 43 "NeighborBookModel" "waits" "[I") (List.mem_of_getElem? (i := 2) rfl)) (fun _ h9 => h9) rfl dX7_port_56 (fun b27 kb27 => ?_)
                refine lv_iload_n hx hb dX7_port_59 rfl (lv_at hl 1 rfl) ?_
                refine lv_iload_n hx hb dX7_port_60 rfl (lv_at hl 2 rfl) ?_
                refine hp_iastx (kd := 24) (n := 4) hx hb hK hJ kb27 rfl (by omega) (by omega) (by decide) hW rfl rfl dX7_port_61 (fun g28 H locs eg28 ng28 hJ => ?_)
                have P29 : hg_P hx_M g g28 := hg_P.put P22 ng28 rfl
                have tt30 : g28 11 1 = g21 11 1 := ng28 11 1 (by omega)
                have tt31 : g28 11 13 = g21 11 13 := ng28 11 13 (by omega)
                have tt32 : g28 11 22 = g21 11 22 := ng28 11 22 (by omega)
                have up33 : ∀ j : Nat, j < 4 → g28 20 j = if j = p1.toInt.toNat then up.toInt else g 20 j := fun j hj => (ng28 20 j (by omega)).trans (up26 j hj)
                refine lv_aload_n hx hb dX7_port_62 rfl (lv_at hl 0 rfl) ?_
                refine hp_getr (C := RX7) (T := TX7) (N := 24) (ci := 7) (kd := 11) hx hb hts iX7_port_X7 hown hK hJ k0 rfl rfl 12 (by decide) (hts (.fieldLink RX7 46 "NeighborBookModel" "quicks" "[I") (List.mem_of_getElem? (i := 3) rfl)) (fun _ h9 => h9) rfl dX7_port_63 (fun b34 kb34 => ?_)
                refine lv_iload_n hx hb dX7_port_66 rfl (lv_at hl 1 rfl) ?_
                refine lv_iload_n hx hb dX7_port_67 rfl (lv_at hl 2 rfl) ?_
                refine hq_iconst hx hb dX7_port_68 (by decide) (by decide) (fun z35 ez35 => ?_)
                refine hq_icmp_ne (tgt := 79) hx hb dX7_port_69 (by decide) (fun c36 => ?_) (fun c36 => ?_)
                · refine hq_iconst hx hb dX7_port_79 (by decide) (by decide) (fun z37 ez37 => ?_)
                  refine hp_iastx (kd := 25) (n := 4) hx hb hK hJ kb34 rfl (by omega) (by omega) (by decide) hW rfl rfl dX7_port_80 (fun g38 H locs eg38 ng38 hJ => ?_)
                  have P39 : hg_P hx_M g g38 := hg_P.put P29 ng38 rfl
                  have tt40 : g38 11 1 = g28 11 1 := ng38 11 1 (by omega)
                  have tt41 : g38 11 13 = g28 11 13 := ng38 11 13 (by omega)
                  have tt42 : g38 11 22 = g28 11 22 := ng38 11 22 (by omega)
                  have up43 : ∀ j : Nat, j < 4 → g38 20 j = if j = p1.toInt.toNat then up.toInt else g 20 j := fun j hj => (ng38 20 j (by omega)).trans (up33 j hj)
                  refine lv_iload_n hx hb dX7_port_81 rfl (lv_at hl 2 rfl) ?_
                  refine hq_if_ne (tgt := 123) hx hb dX7_port_82 (by decide) (fun c44 => ?_) (fun c44 => ?_)
                  · exfalso; omega
                  · refine lv_aload_n hx hb dX7_port_85 rfl (lv_at hl 0 rfl) ?_
                    refine lv_iload_n hx hb dX7_port_86 rfl (lv_at hl 1 rfl) ?_
                    refine hq_iconst hx hb dX7_port_87 (by decide) (by decide) (fun z45 ez45 => ?_)
                    refine hp_callv (va_runV (As := [.int p1, .int z45]) (rest := []) ⟨hx, hb, hml, hown, hts⟩ (c_X7_send l dC dI dA κ B g38 h0 k0 p1 z45 (hg_k.ofq hG P39 (by omega) (by constructor <;> omega) (by constructor <;> omega) (fun j hj => by rw [up43 j hj]; split <;> first | omega | exact hG8 j hj)) (by omega) (by omega)) (cwV 2 hts gX7_port_X7_send rfl rfl rfl (by decide +kernel) ⟨Nat.le_of_ble_eq_true rfl, Nat.le_of_ble_eq_true rfl⟩) (hp_preV (q := (RX7, TX7, 24)) [.int p1, .int z45] hK hN hW hJ k0 rfl rfl) rfl rfl hl.1 rfl (lv_room (Nat.le_of_ble_eq_true rfl)) dX7_port_88 ⟨Nat.zero_le _, Nat.zero_le _⟩) hJ (fun g46 H locs hp hJ => ?_)
                    obtain ⟨P48a, K49, f47⟩ := hp
                    obtain ⟨K491, K492, K493, K494, K495, K496, K497, K498⟩ := id K49
                    have P48 : hg_P hx_M g g46 := hg_P.tr P39 (P48a.le hx_mM)
                    have qt50 : g46 1 1 = g38 1 1 := P48a 1 1 rfl
                    have qt51 : g46 11 1 = g38 11 1 := P48a 11 1 rfl
                    have qt52 : g46 10 1 = g38 10 1 := P48a 10 1 rfl
                    have qt53 : g46 4 1 = g38 4 1 := P48a 4 1 rfl
                    have up54 : ∀ j : Nat, j < 4 → g46 20 j = if j = p1.toInt.toNat then up.toInt else g 20 j := fun j hj => (P48a 20 j rfl).trans (up43 j hj)
                    refine lv_aload_n hx hb dX7_port_91 rfl (lv_at hl 0 rfl) ?_
                    refine hp_geti (C := RX7) (T := TX7) (N := 24) (ci := 7) (kd := 11) hx hb hts iX7_port_X7 hown hK hJ k0 rfl rfl 13 (by decide) (hts (.fieldLink RX7 91 "NeighborBookModel" "known" "I") (List.mem_of_getElem? (i := 5) rfl)) (fun _ h9 => h9) rfl rfl dX7_port_92 (fun x55 ex55 => ?_)
                    have ex55 : x55.toInt = g46 11 13 := ex55
                    refine hq_iconst hx hb dX7_port_95 (by decide) (by decide) (fun z56 ez56 => ?_)
                    refine hq_isub hx hb dX7_port_96 (by omega) (by omega) (fun x57 ex57 => ?_)
                    refine lv_istore_n (lv' := [(3, .int x57), (0, .ref h0), (1, .int p1), (2, .int up)]) hx hb dX7_port_97 rfl hl (by decide) rfl (fun ls hl => ?_)
                    have lp60 : ∀ (nlp60 : Nat) (v58 : Int32) (g59 : Nat → Nat → Int) (H : Heap) (locs : List Loc) (ls : Array Slot), (hg_P hx_M g g59) → (hg_k g59) → (∀ j : Nat, j < 4 → g59 20 j = if j = p1.toInt.toNat then up.toInt else g 20 j) → (-1 ≤ v58.toInt) → (v58.toInt < g59 11 13) → (g59 11 1 = g 11 1) → (v58.toInt + 2 < (nlp60 : Int)) → hp_J dC dI dA κ B g59 s.heap H locs → lv_has ls 4 [(0, .ref h0), (1, .int p1), (2, .int up), (3, .int v58)] → W p l e (headSpec wsX7_port ({ frames := 3, cells := 0, slots := 0, locals := 67 } : Room)).room s m ([Value.ref h0, Value.int p1, Value.int up] : List Value).toArray below meth c H locs 0 0 (MQ below (hp_Qi dC dI dA κ B (fun r u => hg_P hx_M g u ∧ hg_k u ∧ u 11 1 = g 11 1 ∧ (((0 ≤ p1.toInt ∧ p1.toInt < 4 ∧ 0 ≤ up.toInt ∧ up.toInt ≤ 1 ∧ g 20 p1.toInt.toNat ≠ up.toInt) ∧ r.toInt = 1 ∧ ∀ j : Nat, j < 4 → u 20 j = if j = p1.toInt.toNat then up.toInt else g 20 j) ∨ (¬ (0 ≤ p1.toInt ∧ p1.toInt < 4 ∧ 0 ≤ up.toInt ∧ up.toInt ≤ 1 ∧ g 20 p1.toInt.toNat ≠ up.toInt) ∧ r.toInt = 0 ∧ g = u)))) ([Value.ref h0, Value.int p1, Value.int up] : List Value).toArray s 0 0 (hp_A B)) (F0 m 98 ls []) := by
                      intro nlp60
                      induction nlp60 with
                      | zero => intro v58 g59 H locs ls iv62 iv63 iv64 iv65 iv66 iv67 hm61 hJ hl; exact absurd hm61 (by omega)
                      | succ nlp60 ihlp60 =>
                        intro v58 g59 H locs ls iv62 iv63 iv64 iv65 iv66 iv67 hm61 hJ hl
                        obtain ⟨hG1, hG2, hG3, hG4, hG5, hG6, hG7, hG8⟩ := id iv63
                        refine lv_iload_n hx hb dX7_port_98 rfl (lv_at hl 3 rfl) ?_
                        refine hq_if_lt (tgt := 123) hx hb dX7_port_99 (by decide) (fun c68 => ?_) (fun c68 => ?_)
                        · refine hq_iconst hx hb dX7_port_123 (by decide) (by decide) (fun z69 ez69 => ?_)
                          exact hp_iret hx hb hK hN hW hlocks hJ hr (by first | exact ⟨iv62, iv63, by omega, Or.inr ⟨by omega, by omega, rfl⟩⟩ | exact ⟨iv62, iv63, by omega, Or.inl ⟨by omega, by omega, iv64⟩⟩) dX7_port_124
                        · refine lv_aload_n hx hb dX7_port_102 rfl (lv_at hl 0 rfl) ?_
                          refine hp_getr (C := RX7) (T := TX7) (N := 24) (ci := 7) (kd := 11) hx hb hts iX7_port_X7 hown hK hJ k0 rfl rfl 14 (by decide) (hts (.fieldLink RX7 49 "NeighborBookModel" "ports" "[I") (List.mem_of_getElem? (i := 6) rfl)) (fun _ h9 => h9) rfl dX7_port_103 (fun b70 kb70 => ?_)
                          refine lv_iload_n hx hb dX7_port_106 rfl (lv_at hl 3 rfl) ?_
                          refine hp_iald (kd := 26) (n := 13) hx hb hK hJ kb70 rfl (by omega) (by omega) (sp := (2, 3)) rfl rfl dX7_port_107 (fun x71 ex71 => ?_)
                          have ex71 : 0 ≤ x71.toInt ∧ x71.toInt ≤ 3 := ex71
                          refine lv_iload_n hx hb dX7_port_108 rfl (lv_at hl 1 rfl) ?_
                          refine hq_icmp_ne (tgt := 117) hx hb dX7_port_109 (by decide) (fun c72 => ?_) (fun c72 => ?_)
                          · refine hq_iinc (k := 3) (lv' := fun (z9 : Int32) => [(3, .int z9), (0, .ref h0), (1, .int p1), (2, .int up)]) hx hb dX7_port_117 hl rfl (by decide) (by decide) (by omega) (by omega) (by decide) (fun _ => rfl) (fun x73 ls ex73 hl => ?_)
                            have hl : lv_has ls 4 [(3, .int x73), (0, .ref h0), (1, .int p1), (2, .int up)] := hl
                            refine lv_goto (tgt := 98) hx hb dX7_port_120 (by decide) ?_
                            exact ihlp60 x73 g59 _ _ ls iv62 iv63 iv64 (by omega) (by omega) (by omega) (by omega) hJ (lv_sub hl [1, 2, 3, 0] rfl)
                          · refine lv_aload_n hx hb dX7_port_112 rfl (lv_at hl 0 rfl) ?_
                            refine lv_iload_n hx hb dX7_port_113 rfl (lv_at hl 3 rfl) ?_
                            refine hp_callv (va_runV (As := [.int v58]) (rest := []) ⟨hx, hb, hml, hown, hts⟩ (c_X7_forget l dC dI dA κ B g59 h0 k0 v58 iv63 (by omega) (by omega)) (cwV 1 hts gX7_port_X7_forget rfl rfl rfl (by decide +kernel) ⟨Nat.le_of_ble_eq_true rfl, Nat.le_of_ble_eq_true rfl⟩) (hp_preV (q := (RX7, TX7, 24)) [.int v58] hK hN hW hJ k0 rfl rfl) rfl rfl hl.1 rfl (lv_room (Nat.le_of_ble_eq_true rfl)) dX7_port_114 ⟨Nat.zero_le _, Nat.zero_le _⟩) hJ (fun g74 H locs hp hJ => ?_)
                            obtain ⟨P76a, K77, f75⟩ := hp
                            obtain ⟨K771, K772, K773, K774, K775, K776, K777, K778⟩ := id K77
                            have P76 : hg_P hx_M g g74 := hg_P.tr iv62 (P76a.le hx_mM)
                            have qt78 : g74 1 1 = g59 1 1 := P76a 1 1 rfl
                            have qt79 : g74 11 1 = g59 11 1 := P76a 11 1 rfl
                            have qt80 : g74 10 1 = g59 10 1 := P76a 10 1 rfl
                            have qt81 : g74 4 1 = g59 4 1 := P76a 4 1 rfl
                            have up82 : ∀ j : Nat, j < 4 → g74 20 j = if j = p1.toInt.toNat then up.toInt else g 20 j := fun j hj => (P76a 20 j rfl).trans (iv64 j hj)
                            refine hq_iinc (k := 3) (lv' := fun (z9 : Int32) => [(3, .int z9), (0, .ref h0), (1, .int p1), (2, .int up)]) hx hb dX7_port_117 hl rfl (by decide) (by decide) (by omega) (by omega) (by decide) (fun _ => rfl) (fun x83 ls ex83 hl => ?_)
                            have hl : lv_has ls 4 [(3, .int x83), (0, .ref h0), (1, .int p1), (2, .int up)] := hl
                            refine lv_goto (tgt := 98) hx hb dX7_port_120 (by decide) ?_
                            exact ihlp60 x83 g74 _ _ ls P76 K77 up82 (by omega) (by omega) (by omega) (by omega) hJ (lv_sub hl [1, 2, 3, 0] rfl)
                    exact lp60 ((x57.toInt + 2).toNat + 1) x57 g46 _ _ ls P48 K49 up54 (by omega) (by omega) (by omega) (by omega) hJ (lv_sub hl [1, 2, 3, 0] rfl)
                · exfalso; omega
              · exfalso; omega
            · refine hq_iconst hx hb dX7_port_37 (by decide) (by decide) (fun z84 ez84 => ?_)
              exact hp_iret hx hb hK hN hW hlocks hJ hr (by first | exact ⟨hg_P.rf, hG, by omega, Or.inr ⟨by omega, by omega, rfl⟩⟩ | exact ⟨hg_P.rf, hG, by omega, Or.inl ⟨by omega, by omega, (fun _ _ => rfl)⟩⟩) dX7_port_38
          · refine hq_iconst hx hb dX7_port_29 (by decide) (by decide) (fun z85 ez85 => ?_)
            refine lv_goto (tgt := 34) hx hb dX7_port_30 (by decide) ?_
            refine hq_icmp_ne (tgt := 39) hx hb dX7_port_34 (by decide) (fun c86 => ?_) (fun c86 => ?_)
            · refine lv_aload_n hx hb dX7_port_39 rfl (lv_at hl 0 rfl) ?_
              refine hp_getr (C := RX7) (T := TX7) (N := 24) (ci := 7) (kd := 11) hx hb hts iX7_port_X7 hown hK hJ k0 rfl rfl 7 (by decide) (hts (.fieldLink RX7 30 "NeighborBookModel" "up" "[Z") (List.mem_of_getElem? (i := 1) rfl)) (fun _ h9 => h9) rfl dX7_port_40 (fun b87 kb87 => ?_)
              refine lv_iload_n hx hb dX7_port_43 rfl (lv_at hl 1 rfl) ?_
              refine lv_iload_n hx hb dX7_port_44 rfl (lv_at hl 2 rfl) ?_
              refine hq_iconst hx hb dX7_port_45 (by decide) (by decide) (fun z88 ez88 => ?_)
              refine hq_icmp_ne (tgt := 53) hx hb dX7_port_46 (by decide) (fun c89 => ?_) (fun c89 => ?_)
              · exfalso; omega
              · refine hq_iconst hx hb dX7_port_49 (by decide) (by decide) (fun z90 ez90 => ?_)
                refine lv_goto (tgt := 54) hx hb dX7_port_50 (by decide) ?_
                refine hp_zastx (kd := 20) (n := 4) hx hb hK hJ kb87 rfl (by omega) (by omega) (by decide) hW rfl (hi_bool (by omega)) rfl dX7_port_54 (fun g91 H locs eg91 ng91 hJ => ?_)
                have P92 : hg_P hx_M g g91 := hg_P.put hg_P.rf ng91 rfl
                have tt93 : g91 11 1 = g 11 1 := ng91 11 1 (by omega)
                have tt94 : g91 11 13 = g 11 13 := ng91 11 13 (by omega)
                have tt95 : g91 11 22 = g 11 22 := ng91 11 22 (by omega)
                have up96 : ∀ j : Nat, j < 4 → g91 20 j = if j = p1.toInt.toNat then up.toInt else g 20 j := by
                  intro j hj
                  by_cases h9 : j = p1.toInt.toNat
                  · rw [if_pos h9, h9, eg91]; omega
                  · rw [if_neg h9, ng91 20 j (by omega)]
                refine lv_aload_n hx hb dX7_port_55 rfl (lv_at hl 0 rfl) ?_
                refine hp_getr (C := RX7) (T := TX7) (N := 24) (ci := 7) (kd := 11) hx hb hts iX7_port_X7 hown hK hJ k0 rfl rfl 11 (by decide) (hts (.fieldLink RX7 43 "NeighborBookModel" "waits" "[I") (List.mem_of_getElem? (i := 2) rfl)) (fun _ h9 => h9) rfl dX7_port_56 (fun b97 kb97 => ?_)
                refine lv_iload_n hx hb dX7_port_59 rfl (lv_at hl 1 rfl) ?_
                refine lv_iload_n hx hb dX7_port_60 rfl (lv_at hl 2 rfl) ?_
                refine hp_iastx (kd := 24) (n := 4) hx hb hK hJ kb97 rfl (by omega) (by omega) (by decide) hW rfl rfl dX7_port_61 (fun g98 H locs eg98 ng98 hJ => ?_)
                have P99 : hg_P hx_M g g98 := hg_P.put P92 ng98 rfl
                have tt100 : g98 11 1 = g91 11 1 := ng98 11 1 (by omega)
                have tt101 : g98 11 13 = g91 11 13 := ng98 11 13 (by omega)
                have tt102 : g98 11 22 = g91 11 22 := ng98 11 22 (by omega)
                have up103 : ∀ j : Nat, j < 4 → g98 20 j = if j = p1.toInt.toNat then up.toInt else g 20 j := fun j hj => (ng98 20 j (by omega)).trans (up96 j hj)
                refine lv_aload_n hx hb dX7_port_62 rfl (lv_at hl 0 rfl) ?_
                refine hp_getr (C := RX7) (T := TX7) (N := 24) (ci := 7) (kd := 11) hx hb hts iX7_port_X7 hown hK hJ k0 rfl rfl 12 (by decide) (hts (.fieldLink RX7 46 "NeighborBookModel" "quicks" "[I") (List.mem_of_getElem? (i := 3) rfl)) (fun _ h9 => h9) rfl dX7_port_63 (fun b104 kb104 => ?_)
                refine lv_iload_n hx hb dX7_port_66 rfl (lv_at hl 1 rfl) ?_
                refine lv_iload_n hx hb dX7_port_67 rfl (lv_at hl 2 rfl) ?_
                refine hq_iconst hx hb dX7_port_68 (by decide) (by decide) (fun z105 ez105 => ?_)
                refine hq_icmp_ne (tgt := 79) hx hb dX7_port_69 (by decide) (fun c106 => ?_) (fun c106 => ?_)
                · exfalso; omega
                · refine lv_aload_n hx hb dX7_port_72 rfl (lv_at hl 0 rfl) ?_
                  refine hp_geti (C := RX7) (T := TX7) (N := 24) (ci := 7) (kd := 11) hx hb hts iX7_port_X7 hown hK hJ k0 rfl rfl 6 (by decide) (hts (.fieldLink RX7 27 "NeighborBookModel" "quick" "I") (List.mem_of_getElem? (i := 4) rfl)) (fun _ h9 => h9) rfl rfl dX7_port_73 (fun x107 ex107 => ?_)
                  refine lv_goto (tgt := 80) hx hb dX7_port_76 (by decide) ?_
                  refine hp_iastx (kd := 25) (n := 4) hx hb hK hJ kb104 rfl (by omega) (by omega) (by decide) hW rfl rfl dX7_port_80 (fun g108 H locs eg108 ng108 hJ => ?_)
                  have P109 : hg_P hx_M g g108 := hg_P.put P99 ng108 rfl
                  have tt110 : g108 11 1 = g98 11 1 := ng108 11 1 (by omega)
                  have tt111 : g108 11 13 = g98 11 13 := ng108 11 13 (by omega)
                  have tt112 : g108 11 22 = g98 11 22 := ng108 11 22 (by omega)
                  have up113 : ∀ j : Nat, j < 4 → g108 20 j = if j = p1.toInt.toNat then up.toInt else g 20 j := fun j hj => (ng108 20 j (by omega)).trans (up103 j hj)
                  refine lv_iload_n hx hb dX7_port_81 rfl (lv_at hl 2 rfl) ?_
                  refine hq_if_ne (tgt := 123) hx hb dX7_port_82 (by decide) (fun c114 => ?_) (fun c114 => ?_)
                  · refine hq_iconst hx hb dX7_port_123 (by decide) (by decide) (fun z115 ez115 => ?_)
                    exact hp_iret hx hb hK hN hW hlocks hJ hr (by first | exact ⟨P109, (hg_k.ofq hG P109 (by omega) (by constructor <;> omega) (by constructor <;> omega) (fun j hj => by rw [up113 j hj]; split <;> first | omega | exact hG8 j hj)), by omega, Or.inr ⟨by omega, by omega, rfl⟩⟩ | exact ⟨P109, (hg_k.ofq hG P109 (by omega) (by constructor <;> omega) (by constructor <;> omega) (fun j hj => by rw [up113 j hj]; split <;> first | omega | exact hG8 j hj)), by omega, Or.inl ⟨by omega, by omega, up113⟩⟩) dX7_port_124
                  · exfalso; omega
            · refine hq_iconst hx hb dX7_port_37 (by decide) (by decide) (fun z116 ez116 => ?_)
              exact hp_iret hx hb hK hN hW hlocks hJ hr (by first | exact ⟨hg_P.rf, hG, by omega, Or.inr ⟨by omega, by omega, rfl⟩⟩ | exact ⟨hg_P.rf, hG, by omega, Or.inl ⟨by omega, by omega, (fun _ _ => rfl)⟩⟩) dX7_port_38
