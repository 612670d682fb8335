set_option maxRecDepth 100000 in
set_option maxHeartbeats 4000000 in
theorem e_X7_heardX (l : Launch) (dC : Nat → ClassId) (dI : Nat → Nat → Nat) (dA : Nat → ClassId) (κ : Nat → Nat) (B : Nat) (g : Nat → Nat → Int) (h0 : Nat) (k0 : κ h0 = 11) (p1 : Int32) (hp0 : 0 ≤ p1.toInt) (hp3 : p1.toInt < 4) (hl12 : 0 ≤ g 27 12 ∧ g 27 12 ≤ 65535) : Met l yX7_heard wsX7_heard ({ frames := 2, cells := 0, slots := 0, locals := 46 } : Room) (he_Pre dC dI dA κ B g [Value.ref h0, Value.int p1]) (he_Qi dC dI dA κ B (fun r u => hg_Q (fun a b => (a = 11 ∧ b = 13) ∨ (24 ≤ a ∧ a ≤ 30)) g u ∧ (((hq_P (g 38) (g 11 1) 351 0 0 hc_e (g 27 12)).1 = true ∧ hr_LN (hm_tab g) (hm_tab u) p1.toInt (hq_P (g 38) (g 11 1) 351 0 0 hc_e (g 27 12)).2.1 (hq_P (g 38) (g 11 1) 351 0 0 hc_e (g 27 12)).2.2) ∨ ((hq_P (g 38) (g 11 1) 351 0 0 hc_e (g 27 12)).1 = false ∧ hm_tab u = hm_tab g)) ∧ u 27 12 = (hq_P (g 38) (g 11 1) 351 0 0 hc_e (g 27 12)).2.2 ∧ 0 ≤ u 27 12 ∧ u 27 12 ≤ 65535)) 0 0 (hp_A B) := by
  refine Met.ofW (cc := cX7_heard) (maxL := 5) (ret := (some .int)) (by decide) rfl ?_
  intro p e s m args below meth c s₁ Bd hml hv
  obtain ⟨rfl, hK, hN, hW, hF⟩ := hv
  have hx := Bd.exec
  have hb := Bd.bytes
  have hr := Bd.returns
  have hts := atoms_spec (ws := wsX7_heard) Bd.pre
  have hown : s.vm.findClass RX7 = some m.cls := findClass_of_methodNamed Bd.named
  have hlocks := Bd.notSynchronized
  have hJ : he_J dC dI dA κ B g s.heap s.heap [] := ⟨hF, va_S.rf⟩
  have hl := lv_entry ([Value.ref h0, Value.int p1]) (n := 5) (Nat.le_of_ble_eq_true rfl)
  rw [lg_entry_eq]
  generalize (lg_sl ([Value.ref h0, Value.int p1]) ++ List.replicate (5 - (lg_sl ([Value.ref h0, Value.int p1])).length) Slot.unset).toArray = ls at hl ⊢
  have hl : lv_has ls 5 [(0, .ref h0), (1, .int p1)] := hl
  have hsz := he_msz hJ k0
  have hkn := he_m13 hJ k0
  refine lv_aload_n hx hb dX7_heard_0 rfl (lv_at hl 0 rfl) ?_
  refine he_calli (va_runV (As := []) (rest := []) ⟨hx, hb, hml, hown, hts⟩ (e_X7_parseX l dC dI dA κ B g h0 k0 hl12) (cwV 0 hts gX7_heard_X7_parse rfl rfl rfl (by decide +kernel) ⟨Nat.le_of_ble_eq_true rfl, Nat.le_of_ble_eq_true rfl⟩) (he_preV (q := (RX7, TX7, 24)) [] hK hN hW hJ k0 rfl rfl) rfl rfl hl.1 rfl (lv_room (Nat.le_of_ble_eq_true rfl)) dX7_heard_1 ⟨Nat.zero_le _, Nat.zero_le _⟩) hJ (fun x2 g1 H locs hp hJ => ?_)
  obtain ⟨P4a, f3⟩ := hp
  have P4 : hg_Q (fun a b => (a = 11 ∧ b = 13) ∨ (24 ≤ a ∧ a ≤ 30)) g g1 := (hg_Q.le P4a (fun a b h9 => by have h9 : (a = 27 ∧ b = 12) ∨ (a = 30 ∧ 108 ≤ b ∧ b < 117) ∨ (a = 29 ∧ 6480 ≤ b ∧ b < 7020) := h9; show (a = 11 ∧ b = 13) ∨ (24 ≤ a ∧ a ≤ 30); omega))
  have qt5 : g1 11 13 = g 11 13 := P4a 11 13 (show ¬ ((11 = 27 ∧ 13 = 12) ∨ (11 = 30 ∧ 108 ≤ 13 ∧ 13 < 117) ∨ (11 = 29 ∧ 6480 ≤ 13 ∧ 13 < 7020)) from by omega)
  refine lv_istore_n (lv' := [(2, .int x2), (0, .ref h0), (1, .int p1)]) hx hb dX7_heard_4 rfl hl (by decide) rfl (fun ls hl => ?_)
  refine lv_iload_n hx hb dX7_heard_5 rfl (lv_at hl 0 rfl) ?_
  refine hq_if_le (tgt := 11) hx hb dX7_heard_6 (by decide) (fun c6 => ?_) (fun c6 => ?_)
  · refine lv_aload_n hx hb dX7_heard_11 rfl (lv_at hl 1 rfl) ?_
    refine he_getr (C := RX7) (T := TX7) (N := 24) (ci := 7) (kd := 11) hx hb hts iX7_heard_X7 hown hK hJ k0 rfl rfl 14 (by decide) (hts (.fieldLink RX7 49 "NeighborBookModel" "ports" "[I") (List.mem_of_getElem? (i := 1) rfl)) (fun _ h9 => h9) rfl dX7_heard_12 (fun b7 kb7 => ?_)
    refine hq_bipush hx hb dX7_heard_15 (by decide) (fun z8 ez8 => ?_)
    refine lv_iload_n hx hb dX7_heard_17 rfl (lv_at hl 2 rfl) ?_
    refine he_iastx (kd := 26) (n := 13) hx hb hK hJ kb7 rfl (by omega) (by omega) (by decide) hW rfl (sp := (9, 3)) rfl rfl (show p1.toInt = p1.toInt ∧ 0 ≤ p1.toInt ∧ p1.toInt ≤ 3 from ⟨rfl, by omega, by omega⟩) dX7_heard_18 (fun g9 H locs eg9 ng9 hJ => ?_)
    have eg9 : g9 26 z8.toInt.toNat = p1.toInt := eg9
    have P10 : hg_Q (fun a b => (a = 11 ∧ b = 13) ∨ (24 ≤ a ∧ a ≤ 30)) g g9 := hg_Q.put P4 ng9 (show (26 = 11 ∧ z8.toInt.toNat = 13) ∨ (24 ≤ 26 ∧ 26 ≤ 30) from by omega)
    have qt11 : g9 27 12 = g1 27 12 := ng9 27 12 (by omega)
    have qt12 : g9 11 13 = g1 11 13 := ng9 11 13 (by omega)
    have hT1 : hm_tab g9 = hm_tab g := hm_tab_same hsz (by omega) (by omega) (fun a b h9 => by rw [ng9 a b (by omega)]; exact P4a a b (show ¬ ((a = 27 ∧ b = 12) ∨ (a = 30 ∧ 108 ≤ b ∧ b < 117) ∨ (a = 29 ∧ 6480 ≤ b ∧ b < 7020)) from by omega))
    have hp12 : g9 26 12 = p1.toInt := by rw [show (12 : Nat) = z8.toInt.toNat by omega]; exact eg9
    have hsz2 := he_msz hJ k0
    have hPt : (hq_P (g 38) (g 11 1) 351 0 0 hc_e (g 27 12)).1 = true := f3.1.mp (by omega)
    have hconT : hm_con g9 12 = (hq_P (g 38) (g 11 1) 351 0 0 hc_e (g 27 12)).2.1 := by
      rw [← f3.2.2.1]
      exact hm_con_eq (fun t _ => ng9 30 _ (by omega)) (fun k _ => ng9 29 _ (by omega)) (fun t ht => hsz2 _ (by omega))
    have hheldT : g9 27 12 = (hq_P (g 38) (g 11 1) 351 0 0 hc_e (g 27 12)).2.2 := by rw [← f3.2.2.2.1]; omega
    refine hq_iconst hx hb dX7_heard_19 (by decide) (by decide) (fun z13 ez13 => ?_)
    refine lv_istore_n (lv' := [(3, .int z13), (2, .int x2), (0, .ref h0), (1, .int p1)]) hx hb dX7_heard_20 rfl hl (by decide) rfl (fun ls hl => ?_)
    refine hq_iconst hx hb dX7_heard_21 (by decide) (by decide) (fun z14 ez14 => ?_)
    refine lv_istore (lv' := [(4, .int z14), (3, .int z13), (2, .int x2), (0, .ref h0), (1, .int p1)]) hx hb dX7_heard_22 hl (by decide) rfl (fun ls hl => ?_)
    have lp17 : ∀ (nlp17 : Nat) (v15 : Int32) (v16 : Int32) (H : Heap) (locs : List Loc) (ls : Array Slot), (-1 ≤ v15.toInt) → (v15.toInt < g9 11 13 ∧ v15.toInt < 12) → (0 ≤ v16.toInt ∧ v16.toInt ≤ 12) → (0 ≤ v15.toInt → hm_al g9 v15.toInt.toNat 12) → (v15.toInt = -1 → ∀ k : Nat, (k : Int) < v16.toInt → ¬ hm_al g9 k 12) → (13 - v16.toInt < (nlp17 : Int)) → he_J dC dI dA κ B g9 s.heap H locs → lv_has ls 5 [(0, .ref h0), (1, .int p1), (3, .int v15), (4, .int v16)] → W p l e (headSpec wsX7_heard ({ frames := 2, cells := 0, slots := 0, locals := 46 } : Room)).room s m ([Value.ref h0, Value.int p1] : List Value).toArray below meth c H locs 0 0 (MQ below (he_Qi dC dI dA κ B (fun r u => hg_Q (fun a b => (a = 11 ∧ b = 13) ∨ (24 ≤ a ∧ a ≤ 30)) g u ∧ (((hq_P (g 38) (g 11 1) 351 0 0 hc_e (g 27 12)).1 = true ∧ hr_LN (hm_tab g) (hm_tab u) p1.toInt (hq_P (g 38) (g 11 1) 351 0 0 hc_e (g 27 12)).2.1 (hq_P (g 38) (g 11 1) 351 0 0 hc_e (g 27 12)).2.2) ∨ ((hq_P (g 38) (g 11 1) 351 0 0 hc_e (g 27 12)).1 = false ∧ hm_tab u = hm_tab g)) ∧ u 27 12 = (hq_P (g 38) (g 11 1) 351 0 0 hc_e (g 27 12)).2.2 ∧ 0 ≤ u 27 12 ∧ u 27 12 ≤ 65535)) ([Value.ref h0, Value.int p1] : List Value).toArray s 0 0 (hp_A B)) (F0 m 24 ls []) := by
      intro nlp17
      induction nlp17 with
      | zero => intro v15 v16 H locs ls iv19 iv20 iv21 iv22 iv23 hm18 hJ hl; exact absurd hm18 (by omega)
      | succ nlp17 ihlp17 =>
        intro v15 v16 H locs ls iv19 iv20 iv21 iv22 iv23 hm18 hJ hl
        refine lv_iload hx hb dX7_heard_24 (lv_at hl 3 rfl) ?_
        refine lv_aload_n hx hb dX7_heard_26 rfl (lv_at hl 0 rfl) ?_
        refine he_geti (C := RX7) (T := TX7) (N := 24) (ci := 7) (kd := 11) hx hb hts iX7_heard_X7 hown hK hJ k0 rfl rfl 13 (by decide) (hts (.fieldLink RX7 91 "NeighborBookModel" "known" "I") (List.mem_of_getElem? (i := 2) rfl)) (fun _ h9 => h9) rfl rfl dX7_heard_27 (fun x24 ex24 => ?_)
        have ex24 : x24.toInt = g9 11 13 ∧ 0 ≤ x24.toInt ∧ x24.toInt ≤ 12 := ex24
        refine hq_icmp_ge (tgt := 53) hx hb dX7_heard_30 (by decide) (fun c25 => ?_) (fun c25 => ?_)
        · have hal := iv22
          have hno := iv23
          have hlen : ∀ k : Nat, (k : Int) < g9 11 13 → k < (hm_tab g9).length := fun k hk => by rw [hm_tab_len]; omega
          refine lv_aload_n hx hb dX7_heard_53 rfl (lv_at hl 0 rfl) ?_
          refine he_getr (C := RX7) (T := TX7) (N := 24) (ci := 7) (kd := 11) hx hb hts iX7_heard_X7 hown hK hJ k0 rfl rfl 15 (by decide) (hts (.fieldLink RX7 52 "NeighborBookModel" "left" "[I") (List.mem_of_getElem? (i := 3) rfl)) (fun _ h9 => h9) rfl dX7_heard_54 (fun b26 kb26 => ?_)
          refine hq_bipush hx hb dX7_heard_57 (by decide) (fun z27 ez27 => ?_)
          refine he_iald (kd := 27) (n := 13) hx hb hK hJ kb26 rfl (by omega) (by omega) (sp := (0, 0)) rfl rfl dX7_heard_59 (fun x28 ex28 => ?_)
          have ex28 : x28.toInt = g9 27 z27.toInt.toNat := ex28
          have hl9 : x28.toInt = g9 27 12 := by
            have h9 := ex28
            rw [show z27.toInt.toNat = 12 by omega] at h9
            exact h9
          refine hq_if_ne (tgt := 75) hx hb dX7_heard_60 (by decide) (fun c29 => ?_) (fun c29 => ?_)
          · refine lv_iload_n hx hb dX7_heard_75 rfl (lv_at hl 2 rfl) ?_
            refine hq_iconst hx hb dX7_heard_76 (by decide) (by decide) (fun z30 ez30 => ?_)
            refine hq_icmp_ne (tgt := 161) hx hb dX7_heard_77 (by decide) (fun c31 => ?_) (fun c31 => ?_)
            · refine lv_aload_n hx hb dX7_heard_161 rfl (lv_at hl 0 rfl) ?_
              refine he_getr (C := RX7) (T := TX7) (N := 24) (ci := 7) (kd := 11) hx hb hts iX7_heard_X7 hown hK hJ k0 rfl rfl 16 (by decide) (hts (.fieldLink RX7 55 "NeighborBookModel" "frames" "[I") (List.mem_of_getElem? (i := 4) rfl)) (fun _ h9 => h9) rfl dX7_heard_162 (fun b32 kb32 => ?_)
              refine hq_bipush hx hb dX7_heard_165 (by decide) (fun z33 ez33 => ?_)
              refine lv_aload_n hx hb dX7_heard_167 rfl (lv_at hl 0 rfl) ?_
              refine he_getr (C := RX7) (T := TX7) (N := 24) (ci := 7) (kd := 11) hx hb hts iX7_heard_X7 hown hK hJ k0 rfl rfl 16 (by decide) (hts (.fieldLink RX7 55 "NeighborBookModel" "frames" "[I") (List.mem_of_getElem? (i := 4) rfl)) (fun _ h9 => h9) rfl dX7_heard_168 (fun b34 kb34 => ?_)
              refine lv_iload_n hx hb dX7_heard_171 rfl (lv_at hl 2 rfl) ?_
              refine he_iald (kd := 28) (n := 13) hx hb hK hJ kb34 rfl (by omega) (by omega) (sp := (0, 0)) rfl rfl dX7_heard_172 (fun x35 ex35 => ?_)
              have ex35 : x35.toInt = g9 28 v15.toInt.toNat := ex35
              refine hq_iconst hx hb dX7_heard_173 (by decide) (by decide) (fun z36 ez36 => ?_)
              refine hq_iaddW hx hb dX7_heard_174 (fun x37 ex37 => ?_)
              refine he_iastx (kd := 28) (n := 13) hx hb hK hJ kb32 rfl (by omega) (by omega) (by decide) hW rfl (sp := (0, 0)) rfl rfl rfl dX7_heard_175 (fun g38 H locs eg38 ng38 hJ => ?_)
              have eg38 : g38 28 z33.toInt.toNat = x37.toInt := eg38
              have P39 : hg_Q (fun a b => (a = 11 ∧ b = 13) ∨ (24 ≤ a ∧ a ≤ 30)) g g38 := hg_Q.put P10 ng38 (show (28 = 11 ∧ z33.toInt.toNat = 13) ∨ (24 ≤ 28 ∧ 28 ≤ 30) from by omega)
              have qt40 : g38 27 12 = g9 27 12 := ng38 27 12 (by omega)
              have qt41 : g38 11 13 = g9 11 13 := ng38 11 13 (by omega)
              refine lv_aload_n hx hb dX7_heard_176 rfl (lv_at hl 0 rfl) ?_
              refine hq_bipush hx hb dX7_heard_177 (by decide) (fun z42 ez42 => ?_)
              refine lv_iload_n hx hb dX7_heard_179 rfl (lv_at hl 2 rfl) ?_
              refine he_callv (va_runV (As := [.int z42, .int v15]) (rest := []) ⟨hx, hb, hml, hown, hts⟩ (e_X7_move l dC dI dA κ B g38 h0 k0 z42 v15 (by omega) (by omega) (by omega) (by omega) (by omega)) (cwV 2 hts gX7_heard_X7_move rfl rfl rfl (by decide +kernel) ⟨Nat.le_of_ble_eq_true rfl, Nat.le_of_ble_eq_true rfl⟩) (he_preV (q := (RX7, TX7, 24)) [.int z42, .int v15] hK hN hW hJ k0 rfl rfl) rfl rfl hl.1 rfl (lv_room (Nat.le_of_ble_eq_true rfl)) dX7_heard_180 ⟨Nat.zero_le _, Nat.zero_le _⟩) hJ (fun g43 H locs hp hJ => ?_)
              obtain ⟨P45a, f44⟩ := hp
              have P45 : hg_Q (fun a b => (a = 11 ∧ b = 13) ∨ (24 ≤ a ∧ a ≤ 30)) g g43 := hg_Q.tr P39 (hg_Q.le P45a (fun a b h9 => by have h9 : (26 ≤ a ∧ a ≤ 28 ∧ b = v15.toInt.toNat) ∨ (a = 30 ∧ 9 * v15.toInt.toNat ≤ b ∧ b < 9 * v15.toInt.toNat + 9) ∨ (a = 29 ∧ 540 * v15.toInt.toNat ≤ b ∧ b < 540 * v15.toInt.toNat + 540) := h9; show (a = 11 ∧ b = 13) ∨ (24 ≤ a ∧ a ≤ 30); omega))
              have qt46 : g43 11 13 = g38 11 13 := P45a 11 13 (show ¬ ((26 ≤ 11 ∧ 11 ≤ 28 ∧ 13 = v15.toInt.toNat) ∨ (11 = 30 ∧ 9 * v15.toInt.toNat ≤ 13 ∧ 13 < 9 * v15.toInt.toNat + 9) ∨ (11 = 29 ∧ 540 * v15.toInt.toNat ≤ 13 ∧ 13 < 540 * v15.toInt.toNat + 540)) from by omega)
              have q12 : g43 27 12 = g38 27 12 := P45a 27 12 (show ¬ ((26 ≤ 27 ∧ 27 ≤ 28 ∧ 12 = v15.toInt.toNat) ∨ (27 = 30 ∧ 9 * v15.toInt.toNat ≤ 12 ∧ 12 < 9 * v15.toInt.toNat + 9) ∨ (27 = 29 ∧ 540 * v15.toInt.toNat ≤ 12 ∧ 12 < 540 * v15.toInt.toNat + 540)) from by omega)
              have hLN := hm_ln1 (p := p1.toInt) (n := v15.toInt.toNat) (u := g43) hT1 hsz2 hp12 (by omega) (by omega) (hal (by omega)) (by rw [show (12 : Nat) = z33.toInt.toNat by omega, eg38, ex37, ex35, ez36]) (fun a b h9 => ng38 a b (by omega)) (by have h9 := f44; rw [show z42.toInt.toNat = 12 by omega] at h9; exact h9) (fun a b h9 => P45a a b h9) (by omega)
              refine hq_iconst hx hb dX7_heard_183 (by decide) (by decide) (fun z47 ez47 => ?_)
              exact he_iret hx hb hK hN hW hlocks hJ hr ⟨P45, Or.inl ⟨hPt, by rw [← hconT, ← hheldT]; exact (hLN : hr_LN (hm_tab g) (hm_tab g43) p1.toInt (hm_con g9 12) (g9 27 12))⟩, by rw [← hheldT] <;> omega, by omega, by omega⟩ dX7_heard_184
            · refine lv_aload_n hx hb dX7_heard_80 rfl (lv_at hl 0 rfl) ?_
              refine he_geti (C := RX7) (T := TX7) (N := 24) (ci := 7) (kd := 11) hx hb hts iX7_heard_X7 hown hK hJ k0 rfl rfl 13 (by decide) (hts (.fieldLink RX7 91 "NeighborBookModel" "known" "I") (List.mem_of_getElem? (i := 2) rfl)) (fun _ h9 => h9) rfl rfl dX7_heard_81 (fun x48 ex48 => ?_)
              have ex48 : x48.toInt = g9 11 13 ∧ 0 ≤ x48.toInt ∧ x48.toInt ≤ 12 := ex48
              refine hq_bipush hx hb dX7_heard_84 (by decide) (fun z49 ez49 => ?_)
              refine hq_icmp_ne (tgt := 91) hx hb dX7_heard_86 (by decide) (fun c50 => ?_) (fun c50 => ?_)
              · refine lv_aload_n hx hb dX7_heard_91 rfl (lv_at hl 0 rfl) ?_
                refine he_getr (C := RX7) (T := TX7) (N := 24) (ci := 7) (kd := 11) hx hb hts iX7_heard_X7 hown hK hJ k0 rfl rfl 16 (by decide) (hts (.fieldLink RX7 55 "NeighborBookModel" "frames" "[I") (List.mem_of_getElem? (i := 4) rfl)) (fun _ h9 => h9) rfl dX7_heard_92 (fun b51 kb51 => ?_)
                refine hq_bipush hx hb dX7_heard_95 (by decide) (fun z52 ez52 => ?_)
                refine hq_iconst hx hb dX7_heard_97 (by decide) (by decide) (fun z53 ez53 => ?_)
                refine he_iastx (kd := 28) (n := 13) hx hb hK hJ kb51 rfl (by omega) (by omega) (by decide) hW rfl (sp := (0, 0)) rfl rfl rfl dX7_heard_98 (fun g54 H locs eg54 ng54 hJ => ?_)
                have eg54 : g54 28 z52.toInt.toNat = z53.toInt := eg54
                have P55 : hg_Q (fun a b => (a = 11 ∧ b = 13) ∨ (24 ≤ a ∧ a ≤ 30)) g g54 := hg_Q.put P10 ng54 (show (28 = 11 ∧ z52.toInt.toNat = 13) ∨ (24 ≤ 28 ∧ 28 ≤ 30) from by omega)
                have qt56 : g54 27 12 = g9 27 12 := ng54 27 12 (by omega)
                have qt57 : g54 11 13 = g9 11 13 := ng54 11 13 (by omega)
                refine lv_aload_n hx hb dX7_heard_99 rfl (lv_at hl 0 rfl) ?_
                refine hq_bipush hx hb dX7_heard_100 (by decide) (fun z58 ez58 => ?_)
                refine lv_aload_n hx hb dX7_heard_102 rfl (lv_at hl 0 rfl) ?_
                refine he_geti (C := RX7) (T := TX7) (N := 24) (ci := 7) (kd := 11) hx hb hts iX7_heard_X7 hown hK hJ k0 rfl rfl 13 (by decide) (hts (.fieldLink RX7 91 "NeighborBookModel" "known" "I") (List.mem_of_getElem? (i := 2) rfl)) (fun _ h9 => h9) rfl rfl dX7_heard_103 (fun x59 ex59 => ?_)
                have ex59 : x59.toInt = g54 11 13 ∧ 0 ≤ x59.toInt ∧ x59.toInt ≤ 12 := ex59
                refine he_callv (va_runV (As := [.int z58, .int x59]) (rest := []) ⟨hx, hb, hml, hown, hts⟩ (e_X7_move l dC dI dA κ B g54 h0 k0 z58 x59 (by omega) (by omega) (by omega) (by omega) (by omega)) (cwV 2 hts gX7_heard_X7_move rfl rfl rfl (by decide +kernel) ⟨Nat.le_of_ble_eq_true rfl, Nat.le_of_ble_eq_true rfl⟩) (he_preV (q := (RX7, TX7, 24)) [.int z58, .int x59] hK hN hW hJ k0 rfl rfl) rfl rfl hl.1 rfl (lv_room (Nat.le_of_ble_eq_true rfl)) dX7_heard_106 ⟨Nat.zero_le _, Nat.zero_le _⟩) hJ (fun g60 H locs hp hJ => ?_)
                obtain ⟨P62a, f61⟩ := hp
                have P62 : hg_Q (fun a b => (a = 11 ∧ b = 13) ∨ (24 ≤ a ∧ a ≤ 30)) g g60 := hg_Q.tr P55 (hg_Q.le P62a (fun a b h9 => by have h9 : (26 ≤ a ∧ a ≤ 28 ∧ b = x59.toInt.toNat) ∨ (a = 30 ∧ 9 * x59.toInt.toNat ≤ b ∧ b < 9 * x59.toInt.toNat + 9) ∨ (a = 29 ∧ 540 * x59.toInt.toNat ≤ b ∧ b < 540 * x59.toInt.toNat + 540) := h9; show (a = 11 ∧ b = 13) ∨ (24 ≤ a ∧ a ≤ 30); omega))
                have qt63 : g60 11 13 = g54 11 13 := P62a 11 13 (show ¬ ((26 ≤ 11 ∧ 11 ≤ 28 ∧ 13 = x59.toInt.toNat) ∨ (11 = 30 ∧ 9 * x59.toInt.toNat ≤ 13 ∧ 13 < 9 * x59.toInt.toNat + 9) ∨ (11 = 29 ∧ 540 * x59.toInt.toNat ≤ 13 ∧ 13 < 540 * x59.toInt.toNat + 540)) from by omega)
                have q12 : g60 27 12 = g54 27 12 := P62a 27 12 (show ¬ ((26 ≤ 27 ∧ 27 ≤ 28 ∧ 12 = x59.toInt.toNat) ∨ (27 = 30 ∧ 9 * x59.toInt.toNat ≤ 12 ∧ 12 < 9 * x59.toInt.toNat + 9) ∨ (27 = 29 ∧ 540 * x59.toInt.toNat ≤ 12 ∧ 12 < 540 * x59.toInt.toNat + 540)) from by omega)
                refine lv_aload_n hx hb dX7_heard_109 rfl (lv_at hl 0 rfl) ?_
                refine lv_dup hx hb dX7_heard_110 rfl ?_
                refine he_geti (C := RX7) (T := TX7) (N := 24) (ci := 7) (kd := 11) hx hb hts iX7_heard_X7 hown hK hJ k0 rfl rfl 13 (by decide) (hts (.fieldLink RX7 91 "NeighborBookModel" "known" "I") (List.mem_of_getElem? (i := 2) rfl)) (fun _ h9 => h9) rfl rfl dX7_heard_111 (fun x64 ex64 => ?_)
                have ex64 : x64.toInt = g60 11 13 ∧ 0 ≤ x64.toInt ∧ x64.toInt ≤ 12 := ex64
                refine hq_iconst hx hb dX7_heard_114 (by decide) (by decide) (fun z65 ez65 => ?_)
                refine hq_iadd hx hb dX7_heard_115 (by omega) (by omega) (fun x66 ex66 => ?_)
                refine he_putx (C := RX7) (T := TX7) (N := 24) (ci := 7) (kd := 11) hx hb hts iX7_heard_X7 hown hK hJ k0 rfl rfl 13 (by decide) (hts (.fieldLink RX7 91 "NeighborBookModel" "known" "I") (List.mem_of_getElem? (i := 2) rfl)) (fun _ h9 => h9) tyX7 tyX7_ok nmX7 (x := x66) rfl rfl (by decide) hW rfl rfl rfl rfl (show x66.toInt = x66.toInt ∧ 0 ≤ x66.toInt ∧ x66.toInt ≤ 12 from ⟨rfl, by omega, by omega⟩) dX7_heard_116 (fun g67 H locs eg67 ng67 hJ => ?_)
                have eg67 : g67 11 13 = x66.toInt := eg67
                have P68 : hg_Q (fun a b => (a = 11 ∧ b = 13) ∨ (24 ≤ a ∧ a ≤ 30)) g g67 := hg_Q.put P62 ng67 (show (11 = 11 ∧ 13 = 13) ∨ (24 ≤ 11 ∧ 11 ≤ 30) from by omega)
                have qt69 : g67 27 12 = g60 27 12 := ng67 27 12 (by omega)
                refine lv_aload_n hx hb dX7_heard_119 rfl (lv_at hl 0 rfl) ?_
                refine he_getr (C := RX7) (T := TX7) (N := 24) (ci := 7) (kd := 11) hx hb hts iX7_heard_X7 hown hK hJ k0 rfl rfl 12 (by decide) (hts (.fieldLink RX7 46 "NeighborBookModel" "quicks" "[I") (List.mem_of_getElem? (i := 5) rfl)) (fun _ h9 => h9) rfl dX7_heard_120 (fun b70 kb70 => ?_)
                refine lv_iload_n hx hb dX7_heard_123 rfl (lv_at hl 1 rfl) ?_
                refine lv_aload_n hx hb dX7_heard_124 rfl (lv_at hl 0 rfl) ?_
                refine he_geti (C := RX7) (T := TX7) (N := 24) (ci := 7) (kd := 11) hx hb hts iX7_heard_X7 hown hK hJ k0 rfl rfl 6 (by decide) (hts (.fieldLink RX7 27 "NeighborBookModel" "quick" "I") (List.mem_of_getElem? (i := 6) rfl)) (fun _ h9 => h9) rfl rfl dX7_heard_125 (fun x71 ex71 => ?_)
                refine lv_aload_n hx hb dX7_heard_128 rfl (lv_at hl 0 rfl) ?_
                refine he_getr (C := RX7) (T := TX7) (N := 24) (ci := 7) (kd := 11) hx hb hts iX7_heard_X7 hown hK hJ k0 rfl rfl 12 (by decide) (hts (.fieldLink RX7 46 "NeighborBookModel" "quicks" "[I") (List.mem_of_getElem? (i := 5) rfl)) (fun _ h9 => h9) rfl dX7_heard_129 (fun b72 kb72 => ?_)
                refine lv_iload_n hx hb dX7_heard_132 rfl (lv_at hl 1 rfl) ?_
                refine he_iald (kd := 25) (n := 4) hx hb hK hJ kb72 rfl (by omega) (by omega) (sp := (0, 0)) rfl rfl dX7_heard_133 (fun x73 ex73 => ?_)
                have ex73 : x73.toInt = g67 25 p1.toInt.toNat := ex73
                refine hq_icmp_le (tgt := 144) hx hb dX7_heard_134 (by decide) (fun c74 => ?_) (fun c74 => ?_)
                · refine lv_aload_n hx hb dX7_heard_144 rfl (lv_at hl 0 rfl) ?_
                  refine he_getr (C := RX7) (T := TX7) (N := 24) (ci := 7) (kd := 11) hx hb hts iX7_heard_X7 hown hK hJ k0 rfl rfl 12 (by decide) (hts (.fieldLink RX7 46 "NeighborBookModel" "quicks" "[I") (List.mem_of_getElem? (i := 5) rfl)) (fun _ h9 => h9) rfl dX7_heard_145 (fun b75 kb75 => ?_)
                  refine lv_iload_n hx hb dX7_heard_148 rfl (lv_at hl 1 rfl) ?_
                  refine he_iald (kd := 25) (n := 4) hx hb hK hJ kb75 rfl (by omega) (by omega) (sp := (0, 0)) rfl rfl dX7_heard_149 (fun x76 ex76 => ?_)
                  have ex76 : x76.toInt = g67 25 p1.toInt.toNat := ex76
                  refine he_iastx (kd := 25) (n := 4) hx hb hK hJ kb70 rfl (by omega) (by omega) (by decide) hW rfl (sp := (0, 0)) rfl rfl rfl dX7_heard_150 (fun g77 H locs eg77 ng77 hJ => ?_)
                  have eg77 : g77 25 p1.toInt.toNat = x76.toInt := eg77
                  have P78 : hg_Q (fun a b => (a = 11 ∧ b = 13) ∨ (24 ≤ a ∧ a ≤ 30)) g g77 := hg_Q.put P68 ng77 (show (25 = 11 ∧ p1.toInt.toNat = 13) ∨ (24 ≤ 25 ∧ 25 ≤ 30) from by omega)
                  have qt79 : g77 27 12 = g67 27 12 := ng77 27 12 (by omega)
                  have qt80 : g77 11 13 = g67 11 13 := ng77 11 13 (by omega)
                  refine lv_aload_n hx hb dX7_heard_151 rfl (lv_at hl 0 rfl) ?_
                  refine he_getr (C := RX7) (T := TX7) (N := 24) (ci := 7) (kd := 11) hx hb hts iX7_heard_X7 hown hK hJ k0 rfl rfl 11 (by decide) (hts (.fieldLink RX7 43 "NeighborBookModel" "waits" "[I") (List.mem_of_getElem? (i := 7) rfl)) (fun _ h9 => h9) rfl dX7_heard_152 (fun b81 kb81 => ?_)
                  refine lv_iload_n hx hb dX7_heard_155 rfl (lv_at hl 1 rfl) ?_
                  refine hq_iconst hx hb dX7_heard_156 (by decide) (by decide) (fun z82 ez82 => ?_)
                  refine he_iastx (kd := 24) (n := 4) hx hb hK hJ kb81 rfl (by omega) (by omega) (by decide) hW rfl (sp := (0, 0)) rfl rfl rfl dX7_heard_157 (fun g83 H locs eg83 ng83 hJ => ?_)
                  have eg83 : g83 24 p1.toInt.toNat = z82.toInt := eg83
                  have P84 : hg_Q (fun a b => (a = 11 ∧ b = 13) ∨ (24 ≤ a ∧ a ≤ 30)) g g83 := hg_Q.put P78 ng83 (show (24 = 11 ∧ p1.toInt.toNat = 13) ∨ (24 ≤ 24 ∧ 24 ≤ 30) from by omega)
                  have qt85 : g83 27 12 = g77 27 12 := ng83 27 12 (by omega)
                  have qt86 : g83 11 13 = g77 11 13 := ng83 11 13 (by omega)
                  refine lv_goto (tgt := 183) hx hb dX7_heard_158 (by decide) ?_
                  have hLN := hm_ln2 (p := p1.toInt) (n := x59.toInt.toNat) (u := g83) hT1 hsz2 hp12 (by omega) (by omega) (by rw [show (12 : Nat) = z52.toInt.toNat by omega, eg54]; omega) (fun a b h9 => ng54 a b (by omega)) (by have h9 := f61; rw [show z58.toInt.toNat = 12 by omega] at h9; exact h9) (fun a b h9 => P62a a b h9) (by omega) (fun a b q1 q2 => by rw [ng83 a b (by omega), ng77 a b (by omega), ng67 a b (by omega)]) (fun r hr => by
                    obtain ⟨k, hk, rfl⟩ := List.mem_iff_getElem.mp hr
                    have hk2 := hk
                    rw [hm_tab_len] at hk2
                    exact fun h9 => hno (by omega) k (by omega) ((hm_al_m hp12 hk).mp h9)) (by omega)
                  refine hq_iconst hx hb dX7_heard_183 (by decide) (by decide) (fun z87 ez87 => ?_)
                  exact he_iret hx hb hK hN hW hlocks hJ hr ⟨P84, Or.inl ⟨hPt, by rw [← hconT, ← hheldT]; exact (hLN : hr_LN (hm_tab g) (hm_tab g83) p1.toInt (hm_con g9 12) (g9 27 12))⟩, by rw [← hheldT] <;> omega, by omega, by omega⟩ dX7_heard_184
                · refine lv_aload_n hx hb dX7_heard_137 rfl (lv_at hl 0 rfl) ?_
                  refine he_geti (C := RX7) (T := TX7) (N := 24) (ci := 7) (kd := 11) hx hb hts iX7_heard_X7 hown hK hJ k0 rfl rfl 6 (by decide) (hts (.fieldLink RX7 27 "NeighborBookModel" "quick" "I") (List.mem_of_getElem? (i := 6) rfl)) (fun _ h9 => h9) rfl rfl dX7_heard_138 (fun x88 ex88 => ?_)
                  refine lv_goto (tgt := 150) hx hb dX7_heard_141 (by decide) ?_
                  refine he_iastx (kd := 25) (n := 4) hx hb hK hJ kb70 rfl (by omega) (by omega) (by decide) hW rfl (sp := (0, 0)) rfl rfl rfl dX7_heard_150 (fun g89 H locs eg89 ng89 hJ => ?_)
                  have eg89 : g89 25 p1.toInt.toNat = x88.toInt := eg89
                  have P90 : hg_Q (fun a b => (a = 11 ∧ b = 13) ∨ (24 ≤ a ∧ a ≤ 30)) g g89 := hg_Q.put P68 ng89 (show (25 = 11 ∧ p1.toInt.toNat = 13) ∨ (24 ≤ 25 ∧ 25 ≤ 30) from by omega)
                  have qt91 : g89 27 12 = g67 27 12 := ng89 27 12 (by omega)
                  have qt92 : g89 11 13 = g67 11 13 := ng89 11 13 (by omega)
                  refine lv_aload_n hx hb dX7_heard_151 rfl (lv_at hl 0 rfl) ?_
                  refine he_getr (C := RX7) (T := TX7) (N := 24) (ci := 7) (kd := 11) hx hb hts iX7_heard_X7 hown hK hJ k0 rfl rfl 11 (by decide) (hts (.fieldLink RX7 43 "NeighborBookModel" "waits" "[I") (List.mem_of_getElem? (i := 7) rfl)) (fun _ h9 => h9) rfl dX7_heard_152 (fun b93 kb93 => ?_)
                  refine lv_iload_n hx hb dX7_heard_155 rfl (lv_at hl 1 rfl) ?_
                  refine hq_iconst hx hb dX7_heard_156 (by decide) (by decide) (fun z94 ez94 => ?_)
                  refine he_iastx (kd := 24) (n := 4) hx hb hK hJ kb93 rfl (by omega) (by omega) (by decide) hW rfl (sp := (0, 0)) rfl rfl rfl dX7_heard_157 (fun g95 H locs eg95 ng95 hJ => ?_)
                  have eg95 : g95 24 p1.toInt.toNat = z94.toInt := eg95
                  have P96 : hg_Q (fun a b => (a = 11 ∧ b = 13) ∨ (24 ≤ a ∧ a ≤ 30)) g g95 := hg_Q.put P90 ng95 (show (24 = 11 ∧ p1.toInt.toNat = 13) ∨ (24 ≤ 24 ∧ 24 ≤ 30) from by omega)
                  have qt97 : g95 27 12 = g89 27 12 := ng95 27 12 (by omega)
                  have qt98 : g95 11 13 = g89 11 13 := ng95 11 13 (by omega)
                  refine lv_goto (tgt := 183) hx hb dX7_heard_158 (by decide) ?_
                  have hLN := hm_ln2 (p := p1.toInt) (n := x59.toInt.toNat) (u := g95) hT1 hsz2 hp12 (by omega) (by omega) (by rw [show (12 : Nat) = z52.toInt.toNat by omega, eg54]; omega) (fun a b h9 => ng54 a b (by omega)) (by have h9 := f61; rw [show z58.toInt.toNat = 12 by omega] at h9; exact h9) (fun a b h9 => P62a a b h9) (by omega) (fun a b q1 q2 => by rw [ng95 a b (by omega), ng89 a b (by omega), ng67 a b (by omega)]) (fun r hr => by
                    obtain ⟨k, hk, rfl⟩ := List.mem_iff_getElem.mp hr
                    have hk2 := hk
                    rw [hm_tab_len] at hk2
                    exact fun h9 => hno (by omega) k (by omega) ((hm_al_m hp12 hk).mp h9)) (by omega)
                  refine hq_iconst hx hb dX7_heard_183 (by decide) (by decide) (fun z99 ez99 => ?_)
                  exact he_iret hx hb hK hN hW hlocks hJ hr ⟨P96, Or.inl ⟨hPt, by rw [← hconT, ← hheldT]; exact (hLN : hr_LN (hm_tab g) (hm_tab g95) p1.toInt (hm_con g9 12) (g9 27 12))⟩, by rw [← hheldT] <;> omega, by omega, by omega⟩ dX7_heard_184
              · refine hq_iconst hx hb dX7_heard_89 (by decide) (by decide) (fun z100 ez100 => ?_)
                exact he_iret hx hb hK hN hW hlocks hJ hr ⟨P10, Or.inl ⟨hPt, by rw [← hconT, ← hheldT]; exact (by rw [← hT1]; exact Or.inr ⟨by omega, Or.inr ⟨(fun r hr => by
                  obtain ⟨k, hk, rfl⟩ := List.mem_iff_getElem.mp hr
                  have hk2 := hk
                  rw [hm_tab_len] at hk2
                  exact fun h9 => hno (by omega) k (by omega) ((hm_al_m hp12 hk).mp h9)), Or.inl ⟨by rw [hm_tab_len]; omega, rfl⟩⟩⟩ : hr_LN (hm_tab g) (hm_tab g9) p1.toInt (hm_con g9 12) (g9 27 12))⟩, by rw [← hheldT] <;> omega, by omega, by omega⟩ dX7_heard_90
          · refine lv_iload_n hx hb dX7_heard_63 rfl (lv_at hl 2 rfl) ?_
            refine hq_iconst hx hb dX7_heard_64 (by decide) (by decide) (fun z101 ez101 => ?_)
            refine hq_icmp_eq (tgt := 73) hx hb dX7_heard_65 (by decide) (fun c102 => ?_) (fun c102 => ?_)
            · refine hq_iconst hx hb dX7_heard_73 (by decide) (by decide) (fun z103 ez103 => ?_)
              exact he_iret hx hb hK hN hW hlocks hJ hr ⟨P10, Or.inl ⟨hPt, by rw [← hconT, ← hheldT]; exact (by rw [← hT1]; exact Or.inl ⟨by omega, Or.inl ⟨(fun r hr => by
                obtain ⟨k, hk, rfl⟩ := List.mem_iff_getElem.mp hr
                have hk2 := hk
                rw [hm_tab_len] at hk2
                exact fun h9 => hno (by omega) k (by omega) ((hm_al_m hp12 hk).mp h9)), rfl⟩⟩ : hr_LN (hm_tab g) (hm_tab g9) p1.toInt (hm_con g9 12) (g9 27 12))⟩, by rw [← hheldT] <;> omega, by omega, by omega⟩ dX7_heard_74
            · refine lv_aload_n hx hb dX7_heard_68 rfl (lv_at hl 0 rfl) ?_
              refine lv_iload_n hx hb dX7_heard_69 rfl (lv_at hl 2 rfl) ?_
              refine he_callv (va_runV (As := [.int v15]) (rest := []) ⟨hx, hb, hml, hown, hts⟩ (e_X7_forget l dC dI dA κ B g9 h0 k0 v15 (by omega) (by omega)) (cwV 1 hts gX7_heard_X7_forget rfl rfl rfl (by decide +kernel) ⟨Nat.le_of_ble_eq_true rfl, Nat.le_of_ble_eq_true rfl⟩) (he_preV (q := (RX7, TX7, 24)) [.int v15] hK hN hW hJ k0 rfl rfl) rfl rfl hl.1 rfl (lv_room (Nat.le_of_ble_eq_true rfl)) dX7_heard_70 ⟨Nat.zero_le _, Nat.zero_le _⟩) hJ (fun g104 H locs hp hJ => ?_)
              obtain ⟨P106a, f105⟩ := hp
              have P106 : hg_Q (fun a b => (a = 11 ∧ b = 13) ∨ (24 ≤ a ∧ a ≤ 30)) g g104 := hg_Q.tr P10 (hg_Q.le P106a (fun a b h9 => by have h9 : (a = 11 ∧ b = 13) ∨ (26 ≤ a ∧ a ≤ 28 ∧ b < 12) ∨ (a = 30 ∧ b < 108) ∨ (a = 29 ∧ b < 6480) := h9; show (a = 11 ∧ b = 13) ∨ (24 ≤ a ∧ a ≤ 30); omega))
              have qt107 : g104 27 12 = g9 27 12 := P106a 27 12 (show ¬ ((27 = 11 ∧ 12 = 13) ∨ (26 ≤ 27 ∧ 27 ≤ 28 ∧ 12 < 12) ∨ (27 = 30 ∧ 12 < 108) ∨ (27 = 29 ∧ 12 < 6480)) from by omega)
              refine hq_iconst hx hb dX7_heard_73 (by decide) (by decide) (fun z108 ez108 => ?_)
              exact he_iret hx hb hK hN hW hlocks hJ hr ⟨P106, Or.inl ⟨hPt, by rw [← hconT, ← hheldT]; exact (by rw [← hT1]; exact Or.inl ⟨by omega, Or.inr ⟨v15.toInt.toNat, hlen _ (by omega), (hm_al_m hp12 (hlen _ (by omega))).mpr (hal (by omega)), f105.2⟩⟩ : hr_LN (hm_tab g) (hm_tab g104) p1.toInt (hm_con g9 12) (g9 27 12))⟩, by rw [← hheldT] <;> omega, by omega, by omega⟩ dX7_heard_74
        · refine lv_aload_n hx hb dX7_heard_33 rfl (lv_at hl 0 rfl) ?_
          refine lv_iload hx hb dX7_heard_34 (lv_at hl 3 rfl) ?_
          refine hq_bipush hx hb dX7_heard_36 (by decide) (fun z109 ez109 => ?_)
          refine he_calli (va_runV (As := [.int v16, .int z109]) (rest := []) ⟨hx, hb, hml, hown, hts⟩ (e_X7_isAlike l dC dI dA κ B g9 h0 k0 v16 z109 (by omega) (by omega) (by omega) (by omega)) (cwV 2 hts gX7_heard_X7_isAlike rfl rfl rfl (by decide +kernel) ⟨Nat.le_of_ble_eq_true rfl, Nat.le_of_ble_eq_true rfl⟩) (he_preV (q := (RX7, TX7, 24)) [.int v16, .int z109] hK hN hW hJ k0 rfl rfl) rfl rfl hl.1 rfl (lv_room (Nat.le_of_ble_eq_true rfl)) dX7_heard_38 ⟨Nat.zero_le _, Nat.zero_le _⟩) hJ (fun x111 g110 H locs hp hJ => ?_)
          obtain ⟨rfl, f112⟩ := hp
          have hx8 := f112.2
          rw [show z109.toInt.toNat = 12 by omega] at hx8
          refine hq_if_eq (tgt := 47) hx hb dX7_heard_41 (by decide) (fun c113 => ?_) (fun c113 => ?_)
          · have b1 := iv22
            have b2 : v15.toInt = -1 → ∀ k : Nat, (k : Int) < v16.toInt + 1 → ¬ hm_al g9 k 12 := fun h9 k hk => by
              by_cases h8 : k = v16.toInt.toNat
              · rw [h8]; exact fun h7 => absurd (hx8.mpr h7) (by omega)
              · exact iv23 h9 k (by omega)
            refine hq_iinc (k := 3) (lv' := fun (z9 : Int32) => [(4, .int z9), (0, .ref h0), (1, .int p1), (3, .int v15)]) hx hb dX7_heard_47 hl rfl (by decide) (by decide) (by omega) (by omega) (by decide) (fun _ => rfl) (fun x114 ls ex114 hl => ?_)
            have hl : lv_has ls 5 [(4, .int x114), (0, .ref h0), (1, .int p1), (3, .int v15)] := hl
            refine lv_goto (tgt := 24) hx hb dX7_heard_50 (by decide) ?_
            exact ihlp17 v15 x114 _ _ ls (by omega) (by omega) (by omega) b1 (fun h9 k hk => b2 h9 k (by omega)) (by omega) hJ (lv_sub hl [1, 2, 3, 0] rfl)
          · have b1 : 0 ≤ v16.toInt → hm_al g9 v16.toInt.toNat 12 := fun _ => hx8.mp (by omega)
            have b2 : v16.toInt = -1 → ∀ k : Nat, (k : Int) < v16.toInt + 1 → ¬ hm_al g9 k 12 := fun h9 => absurd h9 (by omega)
            refine lv_iload hx hb dX7_heard_44 (lv_at hl 3 rfl) ?_
            refine lv_istore_n (lv' := [(3, .int v16), (0, .ref h0), (1, .int p1), (4, .int v16)]) hx hb dX7_heard_46 rfl hl (by decide) rfl (fun ls hl => ?_)
            refine hq_iinc (k := 3) (lv' := fun (z9 : Int32) => [(4, .int z9), (3, .int v16), (0, .ref h0), (1, .int p1)]) hx hb dX7_heard_47 hl rfl (by decide) (by decide) (by omega) (by omega) (by decide) (fun _ => rfl) (fun x115 ls ex115 hl => ?_)
            have hl : lv_has ls 5 [(4, .int x115), (3, .int v16), (0, .ref h0), (1, .int p1)] := hl
            refine lv_goto (tgt := 24) hx hb dX7_heard_50 (by decide) ?_
            exact ihlp17 v16 x115 _ _ ls (by omega) (by omega) (by omega) b1 (fun h9 k hk => b2 h9 k (by omega)) (by omega) hJ (lv_sub hl [2, 3, 1, 0] rfl)
    exact lp17 ((13 - z14.toInt).toNat + 1) z13 z14 _ _ ls (by omega) (by omega) (by omega) (fun h9 => absurd h9 (by omega)) (fun _ k hk => absurd hk (by omega)) (by omega) hJ (lv_sub hl [3, 4, 1, 0] rfl)
  · have hPf : (hq_P (g 38) (g 11 1) 351 0 0 hc_e (g 27 12)).1 = false := by
      cases hb9 : (hq_P (g 38) (g 11 1) 351 0 0 hc_e (g 27 12)).1 with
      | false => rfl
      | true => exact absurd (f3.1.mpr hb9) (by omega)
    refine lv_iload_n hx hb dX7_heard_9 rfl (lv_at hl 0 rfl) ?_
    exact he_iret hx hb hK hN hW hlocks hJ hr ⟨P4, Or.inr ⟨hPf, hm_tab_same hsz (by omega) (by omega) (fun a b h9 => P4a a b (show ¬ ((a = 27 ∧ b = 12) ∨ (a = 30 ∧ 108 ≤ b ∧ b < 117) ∨ (a = 29 ∧ 6480 ≤ b ∧ b < 7020)) from by omega))⟩, f3.2.2.2.1, by omega, by omega⟩ dX7_heard_10
set_option maxRecDepth 100000 in
set_option maxHeartbeats 4000000 in
theorem e_X7_hearX (l : Launch) (dC : Nat → ClassId) (dI : Nat → Nat → Nat) (dA : Nat → ClassId) (κ : Nat → Nat) (B : Nat) (g : Nat → Nat → Int) (h0 : Nat) (k0 : κ h0 = 11) (p1 : Int32) (hl12 : 0 ≤ g 27 12 ∧ g 27 12 ≤ 65535) : Met l yX7_hear wsX7_hear ({ frames := 3, cells := 0, slots := 0, locals := 70 } : Room) (he_Pre dC dI dA κ B g [Value.ref h0, Value.int p1]) (he_Qi dC dI dA κ B (fun r u => hg_Q (fun a b => (a = 11 ∧ (b = 1 ∨ b = 13 ∨ b = 20)) ∨ (22 ≤ a ∧ a ≤ 30)) g u ∧ (((0 ≤ p1.toInt ∧ p1.toInt < 4 ∧ g 20 p1.toInt.toNat = 1) ∧ u 11 1 = 0 ∧ u 27 12 = (hq_P (g 38) (g 11 1) 351 0 0 hc_e (g 27 12)).2.2 ∧ (((hq_P (g 38) (g 11 1) 351 0 0 hc_e (g 27 12)).1 = true ∧ hr_LN (hm_tab g) (hm_tab u) p1.toInt (hq_P (g 38) (g 11 1) 351 0 0 hc_e (g 27 12)).2.1 (hq_P (g 38) (g 11 1) 351 0 0 hc_e (g 27 12)).2.2) ∨ ((hq_P (g 38) (g 11 1) 351 0 0 hc_e (g 27 12)).1 = false ∧ hm_tab u = hm_tab g))) ∨ (¬ (0 ≤ p1.toInt ∧ p1.toInt < 4 ∧ g 20 p1.toInt.toNat = 1) ∧ g = u)) ∧ 0 ≤ u 27 12 ∧ u 27 12 ≤ 65535)) 0 0 (hp_A B) := by
  refine Met.ofW (cc := cX7_hear) (maxL := 2) (ret := (some .int)) (by decide) rfl ?_
  intro p e s m args below meth c s₁ Bd hml hv
  obtain ⟨rfl, hK, hN, hW, hF⟩ := hv
  have hx := Bd.exec
  have hb := Bd.bytes
  have hr := Bd.returns
  have hts := atoms_spec (ws := wsX7_hear) Bd.pre
  have hown : s.vm.findClass RX7 = some m.cls := findClass_of_methodNamed Bd.named
  have hlocks := Bd.notSynchronized
  have hJ : he_J dC dI dA κ B g s.heap s.heap [] := ⟨hF, va_S.rf⟩
  have hl := lv_entry ([Value.ref h0, Value.int p1]) (n := 2) (Nat.le_of_ble_eq_true rfl)
  rw [lg_entry_eq]
  generalize (lg_sl ([Value.ref h0, Value.int p1]) ++ List.replicate (2 - (lg_sl ([Value.ref h0, Value.int p1])).length) Slot.unset).toArray = ls at hl ⊢
  have hl : lv_has ls 2 [(0, .ref h0), (1, .int p1)] := hl
  refine lv_iload_n hx hb dX7_hear_0 rfl (lv_at hl 1 rfl) ?_
  refine hq_if_lt (tgt := 18) hx hb dX7_hear_1 (by decide) (fun c1 => ?_) (fun c1 => ?_)
  · refine hq_iconst hx hb dX7_hear_18 (by decide) (by decide) (fun z2 ez2 => ?_)
    exact he_iret hx hb hK hN hW hlocks hJ hr ⟨hg_Q.rf, Or.inr ⟨by omega, rfl⟩, by omega, by omega⟩ dX7_hear_19
  · refine lv_iload_n hx hb dX7_hear_4 rfl (lv_at hl 1 rfl) ?_
    refine hq_iconst hx hb dX7_hear_5 (by decide) (by decide) (fun z3 ez3 => ?_)
    refine hq_icmp_ge (tgt := 18) hx hb dX7_hear_6 (by decide) (fun c4 => ?_) (fun c4 => ?_)
    · refine hq_iconst hx hb dX7_hear_18 (by decide) (by decide) (fun z5 ez5 => ?_)
      exact he_iret hx hb hK hN hW hlocks hJ hr ⟨hg_Q.rf, Or.inr ⟨by omega, rfl⟩, by omega, by omega⟩ dX7_hear_19
    · refine lv_aload_n hx hb dX7_hear_9 rfl (lv_at hl 0 rfl) ?_
      refine he_getr (C := RX7) (T := TX7) (N := 24) (ci := 7) (kd := 11) hx hb hts iX7_hear_X7 hown hK hJ k0 rfl rfl 7 (by decide) (hts (.fieldLink RX7 30 "NeighborBookModel" "up" "[Z") (List.mem_of_getElem? (i := 1) rfl)) (fun _ h9 => h9) rfl dX7_hear_10 (fun b6 kb6 => ?_)
      refine lv_iload_n hx hb dX7_hear_13 rfl (lv_at hl 1 rfl) ?_
      refine he_zald (kd := 20) (n := 4) hx hb hK hJ kb6 rfl (by omega) (by omega) (sp := (9, 1)) rfl rfl dX7_hear_14 (fun x7 ex7 => ?_)
      have ex7 : x7.toInt = g 20 p1.toInt.toNat ∧ 0 ≤ x7.toInt ∧ x7.toInt ≤ 1 := ex7
      refine hq_if_ne (tgt := 20) hx hb dX7_hear_15 (by decide) (fun c8 => ?_) (fun c8 => ?_)
      · refine lv_aload_n hx hb dX7_hear_20 rfl (lv_at hl 0 rfl) ?_
        refine lv_aload_n hx hb dX7_hear_21 rfl (lv_at hl 0 rfl) ?_
        refine lv_iload_n hx hb dX7_hear_22 rfl (lv_at hl 1 rfl) ?_
        refine he_calli (va_runV (As := [.int p1]) (rest := [.ref h0]) ⟨hx, hb, hml, hown, hts⟩ (e_X7_heardX l dC dI dA κ B g h0 k0 p1 (by omega) (by omega) hl12) (cwV 1 hts gX7_hear_X7_heard rfl rfl rfl (by decide +kernel) ⟨Nat.le_of_ble_eq_true rfl, Nat.le_of_ble_eq_true rfl⟩) (he_preV (q := (RX7, TX7, 24)) [.int p1] hK hN hW hJ k0 rfl rfl) rfl rfl hl.1 rfl (lv_room (Nat.le_of_ble_eq_true rfl)) dX7_hear_23 ⟨Nat.zero_le _, Nat.zero_le _⟩) hJ (fun x10 g9 H locs hp hJ => ?_)
        obtain ⟨P12a, f11⟩ := hp
        have P12 : hg_Q (fun a b => (a = 11 ∧ (b = 1 ∨ b = 13 ∨ b = 20)) ∨ (22 ≤ a ∧ a ≤ 30)) g g9 := (hg_Q.le P12a (fun a b h9 => by have h9 : (a = 11 ∧ b = 13) ∨ (24 ≤ a ∧ a ≤ 30) := h9; show (a = 11 ∧ (b = 1 ∨ b = 13 ∨ b = 20)) ∨ (22 ≤ a ∧ a ≤ 30); omega))
        have qt13 : g9 11 1 = g 11 1 := P12a 11 1 (show ¬ ((11 = 11 ∧ 1 = 13) ∨ (24 ≤ 11 ∧ 11 ≤ 30)) from by omega)
        have hJ23 := hJ
        refine he_putx (C := RX7) (T := TX7) (N := 24) (ci := 7) (kd := 11) hx hb hts iX7_hear_X7 hown hK hJ k0 rfl rfl 20 (by decide) (hts (.fieldLink RX7 112 "NeighborBookModel" "fault" "I") (List.mem_of_getElem? (i := 2) rfl)) (fun _ h9 => h9) tyX7 tyX7_ok nmX7 (x := x10) rfl rfl (by decide) hW rfl rfl rfl rfl rfl dX7_hear_26 (fun g14 H locs eg14 ng14 hJ => ?_)
        have eg14 : g14 11 20 = x10.toInt := eg14
        have P15 : hg_Q (fun a b => (a = 11 ∧ (b = 1 ∨ b = 13 ∨ b = 20)) ∨ (22 ≤ a ∧ a ≤ 30)) g g14 := hg_Q.put P12 ng14 (show (11 = 11 ∧ (20 = 1 ∨ 20 = 13 ∨ 20 = 20)) ∨ (22 ≤ 11 ∧ 11 ≤ 30) from by omega)
        have qt16 : g14 27 12 = g9 27 12 := ng14 27 12 (by omega)
        have qt17 : g14 11 13 = g9 11 13 := ng14 11 13 (by omega)
        have qt18 : g14 11 1 = g9 11 1 := ng14 11 1 (by omega)
        refine lv_aload_n hx hb dX7_hear_29 rfl (lv_at hl 0 rfl) ?_
        refine hq_iconst hx hb dX7_hear_30 (by decide) (by decide) (fun z19 ez19 => ?_)
        refine he_putx (C := RX7) (T := TX7) (N := 24) (ci := 7) (kd := 11) hx hb hts iX7_hear_X7 hown hK hJ k0 rfl rfl 1 (by decide) (hts (.fieldLink RX7 70 "NeighborBookModel" "typedSize" "I") (List.mem_of_getElem? (i := 3) rfl)) (fun _ h9 => h9) tyX7 tyX7_ok nmX7 (x := z19) rfl rfl (by decide) hW rfl rfl rfl rfl (show z19.toInt = z19.toInt ∧ 0 ≤ z19.toInt ∧ z19.toInt ≤ 700 from ⟨rfl, by omega, by omega⟩) dX7_hear_31 (fun g20 H locs eg20 ng20 hJ => ?_)
        have eg20 : g20 11 1 = z19.toInt := eg20
        have P21 : hg_Q (fun a b => (a = 11 ∧ (b = 1 ∨ b = 13 ∨ b = 20)) ∨ (22 ≤ a ∧ a ≤ 30)) g g20 := hg_Q.put P15 ng20 (show (11 = 11 ∧ (1 = 1 ∨ 1 = 13 ∨ 1 = 20)) ∨ (22 ≤ 11 ∧ 11 ≤ 30) from by omega)
        have qt22 : g20 27 12 = g14 27 12 := ng20 27 12 (by omega)
        have qt23 : g20 11 13 = g14 11 13 := ng20 11 13 (by omega)
        refine lv_aload_n hx hb dX7_hear_34 rfl (lv_at hl 0 rfl) ?_
        refine he_geti (C := RX7) (T := TX7) (N := 24) (ci := 7) (kd := 11) hx hb hts iX7_hear_X7 hown hK hJ k0 rfl rfl 20 (by decide) (hts (.fieldLink RX7 112 "NeighborBookModel" "fault" "I") (List.mem_of_getElem? (i := 2) rfl)) (fun _ h9 => h9) rfl rfl dX7_hear_35 (fun x24 ex24 => ?_)
        have ex24 : x24.toInt = g20 11 20 := ex24
        refine hq_if_ne (tgt := 54) hx hb dX7_hear_38 (by decide) (fun c25 => ?_) (fun c25 => ?_)
        · refine lv_aload_n hx hb dX7_hear_54 rfl (lv_at hl 0 rfl) ?_
          refine he_getr (C := RX7) (T := TX7) (N := 24) (ci := 7) (kd := 11) hx hb hts iX7_hear_X7 hown hK hJ k0 rfl rfl 10 (by decide) (hts (.fieldLink RX7 40 "NeighborBookModel" "bad" "[I") (List.mem_of_getElem? (i := 5) rfl)) (fun _ h9 => h9) rfl dX7_hear_55 (fun b26 kb26 => ?_)
          refine lv_iload_n hx hb dX7_hear_58 rfl (lv_at hl 1 rfl) ?_
          refine lv_dup2_11 hx hb dX7_hear_59 rfl rfl ?_
          refine he_iald (kd := 23) (n := 4) hx hb hK hJ kb26 rfl (by omega) (by omega) (sp := (0, 0)) rfl rfl dX7_hear_60 (fun x27 ex27 => ?_)
          have ex27 : x27.toInt = g20 23 p1.toInt.toNat := ex27
          refine hq_iconst hx hb dX7_hear_61 (by decide) (by decide) (fun z28 ez28 => ?_)
          refine hq_iaddU hx hb dX7_hear_62 (fun x29 => ?_)
          refine he_iastx (kd := 23) (n := 4) hx hb hK hJ kb26 rfl (by omega) (by omega) (by decide) hW rfl (sp := (0, 0)) rfl rfl rfl dX7_hear_63 (fun g30 H locs eg30 ng30 hJ => ?_)
          have eg30 : g30 23 p1.toInt.toNat = x29.toInt := eg30
          have P31 : hg_Q (fun a b => (a = 11 ∧ (b = 1 ∨ b = 13 ∨ b = 20)) ∨ (22 ≤ a ∧ a ≤ 30)) g g30 := hg_Q.put P21 ng30 (show (23 = 11 ∧ (p1.toInt.toNat = 1 ∨ p1.toInt.toNat = 13 ∨ p1.toInt.toNat = 20)) ∨ (22 ≤ 23 ∧ 23 ≤ 30) from by omega)
          have qt32 : g30 27 12 = g20 27 12 := ng30 27 12 (by omega)
          have qt33 : g30 11 13 = g20 11 13 := ng30 11 13 (by omega)
          have qt34 : g30 11 1 = g20 11 1 := ng30 11 1 (by omega)
          have hT9 : hm_tab g30 = hm_tab g9 := hm_tab_same (he_msz hJ23 k0) (by have := he_m13 hJ23 k0; omega) (by omega) (fun a b h9 => by rw [ng30 a b (by omega), ng20 a b (by omega), ng14 a b (by omega)])
          refine lv_aload_n hx hb dX7_hear_64 rfl (lv_at hl 0 rfl) ?_
          refine he_geti (C := RX7) (T := TX7) (N := 24) (ci := 7) (kd := 11) hx hb hts iX7_hear_X7 hown hK hJ k0 rfl rfl 20 (by decide) (hts (.fieldLink RX7 112 "NeighborBookModel" "fault" "I") (List.mem_of_getElem? (i := 2) rfl)) (fun _ h9 => h9) rfl rfl dX7_hear_65 (fun x35 ex35 => ?_)
          have ex35 : x35.toInt = g30 11 20 := ex35
          exact he_iret hx hb hK hN hW hlocks hJ hr ⟨P31, Or.inl ⟨by omega, by omega, by rw [← f11.2.1]; omega, by rw [hT9]; exact f11.1⟩, by omega, by omega⟩ dX7_hear_68
        · refine lv_aload_n hx hb dX7_hear_41 rfl (lv_at hl 0 rfl) ?_
          refine he_getr (C := RX7) (T := TX7) (N := 24) (ci := 7) (kd := 11) hx hb hts iX7_hear_X7 hown hK hJ k0 rfl rfl 9 (by decide) (hts (.fieldLink RX7 37 "NeighborBookModel" "good" "[I") (List.mem_of_getElem? (i := 4) rfl)) (fun _ h9 => h9) rfl dX7_hear_42 (fun b36 kb36 => ?_)
          refine lv_iload_n hx hb dX7_hear_45 rfl (lv_at hl 1 rfl) ?_
          refine lv_dup2_11 hx hb dX7_hear_46 rfl rfl ?_
          refine he_iald (kd := 22) (n := 4) hx hb hK hJ kb36 rfl (by omega) (by omega) (sp := (0, 0)) rfl rfl dX7_hear_47 (fun x37 ex37 => ?_)
          have ex37 : x37.toInt = g20 22 p1.toInt.toNat := ex37
          refine hq_iconst hx hb dX7_hear_48 (by decide) (by decide) (fun z38 ez38 => ?_)
          refine hq_iaddU hx hb dX7_hear_49 (fun x39 => ?_)
          refine he_iastx (kd := 22) (n := 4) hx hb hK hJ kb36 rfl (by omega) (by omega) (by decide) hW rfl (sp := (0, 0)) rfl rfl rfl dX7_hear_50 (fun g40 H locs eg40 ng40 hJ => ?_)
          have eg40 : g40 22 p1.toInt.toNat = x39.toInt := eg40
          have P41 : hg_Q (fun a b => (a = 11 ∧ (b = 1 ∨ b = 13 ∨ b = 20)) ∨ (22 ≤ a ∧ a ≤ 30)) g g40 := hg_Q.put P21 ng40 (show (22 = 11 ∧ (p1.toInt.toNat = 1 ∨ p1.toInt.toNat = 13 ∨ p1.toInt.toNat = 20)) ∨ (22 ≤ 22 ∧ 22 ≤ 30) from by omega)
          have qt42 : g40 27 12 = g20 27 12 := ng40 27 12 (by omega)
          have qt43 : g40 11 13 = g20 11 13 := ng40 11 13 (by omega)
          have qt44 : g40 11 1 = g20 11 1 := ng40 11 1 (by omega)
          refine lv_goto (tgt := 64) hx hb dX7_hear_51 (by decide) ?_
          have hT9 : hm_tab g40 = hm_tab g9 := hm_tab_same (he_msz hJ23 k0) (by have := he_m13 hJ23 k0; omega) (by omega) (fun a b h9 => by rw [ng40 a b (by omega), ng20 a b (by omega), ng14 a b (by omega)])
          refine lv_aload_n hx hb dX7_hear_64 rfl (lv_at hl 0 rfl) ?_
          refine he_geti (C := RX7) (T := TX7) (N := 24) (ci := 7) (kd := 11) hx hb hts iX7_hear_X7 hown hK hJ k0 rfl rfl 20 (by decide) (hts (.fieldLink RX7 112 "NeighborBookModel" "fault" "I") (List.mem_of_getElem? (i := 2) rfl)) (fun _ h9 => h9) rfl rfl dX7_hear_65 (fun x45 ex45 => ?_)
          have ex45 : x45.toInt = g40 11 20 := ex45
          exact he_iret hx hb hK hN hW hlocks hJ hr ⟨P41, Or.inl ⟨by omega, by omega, by rw [← f11.2.1]; omega, by rw [hT9]; exact f11.1⟩, by omega, by omega⟩ dX7_hear_68
      · refine hq_iconst hx hb dX7_hear_18 (by decide) (by decide) (fun z46 ez46 => ?_)
        exact he_iret hx hb hK hN hW hlocks hJ hr ⟨hg_Q.rf, Or.inr ⟨by omega, rfl⟩, by omega, by omega⟩ dX7_hear_19
