set_option maxRecDepth 100000 in
set_option maxHeartbeats 4000000 in
theorem e_X6_hearX (l : Launch) (dC : Nat → ClassId) (dI : Nat → Nat → Nat) (dA : Nat → ClassId) (κ : Nat → Nat) (B : Nat) (g : Nat → Nat → Int) (h0 : Nat) (k0 : κ h0 = 1) (p1 : Int32) (hw : hc_wf g) : Met l yX6_hear wsX6_hear ({ frames := 5, cells := 0, slots := 0, locals := 117 } : Room) (he_Pre dC dI dA κ B g [Value.ref h0, Value.int p1]) (he_Qi dC dI dA κ B (fun r u => hg_Q (fun a b => (a = 1 ∧ (b = 1 ∨ b = 11)) ∨ (a = 10 ∧ b = 1) ∨ a = 16 ∨ (300 ≤ a ∧ a < 312) ∨ (a = 3 ∧ b = 0) ∨ (a = 3 ∧ b = 1) ∨ (340 ≤ a ∧ a < 353) ∨ (360 ≤ a ∧ a < 373) ∨ (5 ≤ a ∧ a < 9 ∧ b ≠ 0)) g u ∧ (((0 ≤ p1.toInt ∧ p1.toInt < 4 ∧ g (5 + p1.toInt.toNat) 0 = 1) ∧ u 1 1 = 0 ∧ hc_wf u ∧ u 3 1 = (hq_P (g 12) (g 1 1) 351 0 0 hc_e (g 3 1)).2.2 ∧ (((hq_P (g 12) (g 1 1) 351 0 0 hc_e (g 3 1)).1 = true ∧ 0 ≤ (hq_P (g 12) (g 1 1) 351 0 0 hc_e (g 3 1)).2.2 ∧ (hq_P (g 12) (g 1 1) 351 0 0 hc_e (g 3 1)).2.2 ≤ 65535 ∧ hr_LN (hc_tab g) (hc_tab u) p1.toInt (hq_P (g 12) (g 1 1) 351 0 0 hc_e (g 3 1)).2.1 (hq_P (g 12) (g 1 1) 351 0 0 hc_e (g 3 1)).2.2) ∨ ((hq_P (g 12) (g 1 1) 351 0 0 hc_e (g 3 1)).1 = false ∧ hc_tab u = hc_tab g))) ∨ (¬ (0 ≤ p1.toInt ∧ p1.toInt < 4 ∧ g (5 + p1.toInt.toNat) 0 = 1) ∧ g = u)))) 0 0 (hp_A B) := by
  refine Met.ofW (cc := cX6_hear) (maxL := 3) (ret := (some .int)) (by decide) rfl ?_
  intro p e s m args below meth c s₁ Bd hml hv
  obtain ⟨rfl, hK, hN, hW, hF⟩ := hv
  have hx := Bd.exec
  have hb := Bd.bytes
  have hr := Bd.returns
  have hts := atoms_spec (ws := wsX6_hear) Bd.pre
  have hown : s.vm.findClass RX6 = some m.cls := findClass_of_methodNamed Bd.named
  have hlocks := Bd.notSynchronized
  have hJ : he_J dC dI dA κ B g s.heap s.heap [] := ⟨hF, va_S.rf⟩
  have hl := lv_entry ([Value.ref h0, Value.int p1]) (n := 3) (Nat.le_of_ble_eq_true rfl)
  rw [lg_entry_eq]
  generalize (lg_sl ([Value.ref h0, Value.int p1]) ++ List.replicate (3 - (lg_sl ([Value.ref h0, Value.int p1])).length) Slot.unset).toArray = ls at hl ⊢
  have hl : lv_has ls 3 [(0, .ref h0), (1, .int p1)] := hl
  obtain ⟨cq, hcq, hcr⟩ : ∃ cq : Nat, cq < 13 ∧ g 3 0 = 320 + (cq : Int) := ⟨(g 3 0 - 320).toNat, by have := hw.2.2.2.2.2; omega, by have := hw.2.2.2.2.2; omega⟩
  refine lv_iload_n hx hb dX6_hear_0 rfl (lv_at hl 1 rfl) ?_
  refine he_calli (va_runS (As := [.int p1]) (rest := []) ⟨hx, hb, hml, hown, hts⟩ (e_X6_isPort l dC dI dA κ B g p1) (va_cwS 1 hts gX6_hear_X6_isPort rfl rfl rfl (by decide +kernel) ⟨Nat.le_of_ble_eq_true rfl, Nat.le_of_ble_eq_true rfl⟩) (he_preS [.int p1] hK hN hW hJ) rfl rfl hl.1 rfl (lv_room (Nat.le_of_ble_eq_true rfl)) dX6_hear_1 ⟨Nat.zero_le _, Nat.zero_le _⟩) hJ (fun x2 g1 H locs hp hJ => ?_)
  obtain ⟨rfl, f3⟩ := hp
  refine hq_if_eq (tgt := 19) hx hb dX6_hear_4 (by decide) (fun c4 => ?_) (fun c4 => ?_)
  · refine hq_iconst hx hb dX6_hear_19 (by decide) (by decide) (fun z5 ez5 => ?_)
    exact he_iret hx hb hK hN hW hlocks hJ hr ⟨hg_Q.rf, Or.inr ⟨by omega, rfl⟩⟩ dX6_hear_20
  · refine lv_aload_n hx hb dX6_hear_7 rfl (lv_at hl 0 rfl) ?_
    refine he_getr (C := RX6) (T := TX6) (N := 12) (ci := 6) (kd := 1) hx hb hts iX6_hear_X6 hown hK hJ k0 rfl rfl 3 (by decide) (hts (.fieldLink RX6 22 "NeighborBook" "ports" "[LNeighborBook$Port;") (List.mem_of_getElem? (i := 1) rfl)) (fun _ h9 => h9) rfl dX6_hear_8 (fun b6 kb6 => ?_)
    refine lv_iload_n hx hb dX6_hear_11 rfl (lv_at hl 1 rfl) ?_
    refine he_aald3 (kd := 15) (n := 4) hx hb hK hJ kb6 rfl (by omega) (by omega) (he_s15 (by omega)) dX6_hear_12 (fun b7 kb7 => ?_)
    refine he_calli (va_runV (As := []) (rest := []) ⟨hx, hb, hml, hown, hts⟩ (e_X4_isUp l dC dI dA κ B g (p1.toInt.toNat) (by omega) b7 kb7) (cwV 0 hts gX6_hear_X4_isUp rfl rfl rfl (by decide +kernel) ⟨Nat.le_of_ble_eq_true rfl, Nat.le_of_ble_eq_true rfl⟩) (he_preV (q := (RX4, TX4, 6)) [] hK hN hW hJ kb7 (hk_t5 (by omega)) rfl) rfl rfl hl.1 rfl (lv_room (Nat.le_of_ble_eq_true rfl)) dX6_hear_13 ⟨Nat.zero_le _, Nat.zero_le _⟩) hJ (fun x9 g8 H locs hp hJ => ?_)
    obtain ⟨rfl, f10⟩ := hp
    refine hq_if_ne (tgt := 21) hx hb dX6_hear_16 (by decide) (fun c11 => ?_) (fun c11 => ?_)
    · refine lv_aload_n hx hb dX6_hear_21 rfl (lv_at hl 0 rfl) ?_
      refine he_getr (C := RX6) (T := TX6) (N := 12) (ci := 6) (kd := 1) hx hb hts iX6_hear_X6 hown hK hJ k0 rfl rfl 5 (by decide) (hts (.fieldLink RX6 36 "NeighborBook" "reader" "LNeighborBook$FrameReader;") (List.mem_of_getElem? (i := 2) rfl)) (fun _ h9 => h9) rfl dX6_hear_22 (fun b12 kb12 => ?_)
      refine lv_aload_n hx hb dX6_hear_25 rfl (lv_at hl 0 rfl) ?_
      refine he_getr (C := RX6) (T := TX6) (N := 12) (ci := 6) (kd := 1) hx hb hts iX6_hear_X6 hown hK hJ k0 rfl rfl 0 (by decide) (hts (.fieldLink RX6 9 "NeighborBook" "typed" "[B") (List.mem_of_getElem? (i := 3) rfl)) (fun _ h9 => h9) rfl dX6_hear_26 (fun b13 kb13 => ?_)
      refine lv_aload_n hx hb dX6_hear_29 rfl (lv_at hl 0 rfl) ?_
      refine he_geti (C := RX6) (T := TX6) (N := 12) (ci := 6) (kd := 1) hx hb hts iX6_hear_X6 hown hK hJ k0 rfl rfl 1 (by decide) (hts (.fieldLink RX6 65 "NeighborBook" "typedCount" "I") (List.mem_of_getElem? (i := 4) rfl)) (fun _ h9 => h9) rfl rfl dX6_hear_30 (fun x14 ex14 => ?_)
      have ex14 : x14.toInt = g 1 1 ∧ 0 ≤ x14.toInt ∧ x14.toInt ≤ 700 := ex14
      refine he_calli (va_runV (As := [.ref b13, .int x14]) (rest := []) ⟨hx, hb, hml, hown, hts⟩ (e_X1_readX l dC dI dA κ B g (cq) (by omega) b12 kb12 b13 kb13 x14 (by omega) (by omega) hcr) (cwV 2 hts gX6_hear_X1_read rfl rfl rfl (by decide +kernel) ⟨Nat.le_of_ble_eq_true rfl, Nat.le_of_ble_eq_true rfl⟩) (he_preV (q := (RX1, TX1, 2)) [.ref b13, .int x14] hK hN hW hJ kb12 rfl rfl) rfl rfl hl.1 rfl (lv_room (Nat.le_of_ble_eq_true rfl)) dX6_hear_33 ⟨Nat.zero_le _, Nat.zero_le _⟩) hJ (fun x16 g15 H locs hp hJ => ?_)
      obtain ⟨P18a, f17⟩ := hp
      have P18 : hg_Q (fun a b => (a = 1 ∧ (b = 1 ∨ b = 11)) ∨ (a = 10 ∧ b = 1) ∨ a = 16 ∨ (300 ≤ a ∧ a < 312) ∨ (a = 3 ∧ b = 0) ∨ (a = 3 ∧ b = 1) ∨ (340 ≤ a ∧ a < 353) ∨ (360 ≤ a ∧ a < 373) ∨ (5 ≤ a ∧ a < 9 ∧ b ≠ 0)) g g15 := (hg_Q.le P18a (fun a b h9 => by have h9 : ((a = 3 ∧ b = 1) ∨ a = 340 + cq ∨ a = 360 + cq) := h9; show (a = 1 ∧ (b = 1 ∨ b = 11)) ∨ (a = 10 ∧ b = 1) ∨ a = 16 ∨ (300 ≤ a ∧ a < 312) ∨ (a = 3 ∧ b = 0) ∨ (a = 3 ∧ b = 1) ∨ (340 ≤ a ∧ a < 353) ∨ (360 ≤ a ∧ a < 373) ∨ (5 ≤ a ∧ a < 9 ∧ b ≠ 0); omega))
      have qt19 : g15 3 0 = g 3 0 := P18a 3 0 (show ¬ (((3 = 3 ∧ 0 = 1) ∨ 3 = 340 + cq ∨ 3 = 360 + cq)) from by omega)
      have qt20 : g15 1 1 = g 1 1 := P18a 1 1 (show ¬ (((1 = 3 ∧ 1 = 1) ∨ 1 = 340 + cq ∨ 1 = 360 + cq)) from by omega)
      obtain ⟨hT1, hW1⟩ := hc_read hw hcr (fun a b h9 => P18a a b h9) hcq
      obtain ⟨hf1, hf2, hf3⟩ := f17
      rw [show x14.toInt = g 1 1 by omega] at hf1 hf2 hf3
      refine lv_istore_n (lv' := [(2, .int x16), (0, .ref h0), (1, .int p1)]) hx hb dX6_hear_36 rfl hl (by decide) rfl (fun ls hl => ?_)
      refine lv_aload_n hx hb dX6_hear_37 rfl (lv_at hl 1 rfl) ?_
      refine hq_iconst hx hb dX6_hear_38 (by decide) (by decide) (fun z21 ez21 => ?_)
      refine he_putx (C := RX6) (T := TX6) (N := 12) (ci := 6) (kd := 1) hx hb hts iX6_hear_X6 hown hK hJ k0 rfl rfl 1 (by decide) (hts (.fieldLink RX6 65 "NeighborBook" "typedCount" "I") (List.mem_of_getElem? (i := 4) rfl)) (fun _ h9 => h9) tyX6 tyX6_ok nmX6 (x := z21) rfl rfl (by decide) hW rfl rfl rfl rfl (show z21.toInt = z21.toInt ∧ 0 ≤ z21.toInt ∧ z21.toInt ≤ 700 from ⟨rfl, by omega, by omega⟩) dX6_hear_39 (fun g22 H locs eg22 ng22 hJ => ?_)
      have eg22 : g22 1 1 = z21.toInt := eg22
      have P23 : hg_Q (fun a b => (a = 1 ∧ (b = 1 ∨ b = 11)) ∨ (a = 10 ∧ b = 1) ∨ a = 16 ∨ (300 ≤ a ∧ a < 312) ∨ (a = 3 ∧ b = 0) ∨ (a = 3 ∧ b = 1) ∨ (340 ≤ a ∧ a < 353) ∨ (360 ≤ a ∧ a < 373) ∨ (5 ≤ a ∧ a < 9 ∧ b ≠ 0)) g g22 := hg_Q.put P18 ng22 (show (1 = 1 ∧ (1 = 1 ∨ 1 = 11)) ∨ (1 = 10 ∧ 1 = 1) ∨ 1 = 16 ∨ (300 ≤ 1 ∧ 1 < 312) ∨ (1 = 3 ∧ 1 = 0) ∨ (1 = 3 ∧ 1 = 1) ∨ (340 ≤ 1 ∧ 1 < 353) ∨ (360 ≤ 1 ∧ 1 < 373) ∨ (5 ≤ 1 ∧ 1 < 9 ∧ 1 ≠ 0) from by omega)
      have qt24 : g22 3 0 = g15 3 0 := ng22 3 0 (by omega)
      have qt25 : g22 3 1 = g15 3 1 := ng22 3 1 (by omega)
      obtain ⟨hT2, hW2⟩ := hc_tab_same hW1 (fun a b h9 => ng22 a b (by unfold hc_f at h9; omega))
      rw [hT1] at hT2
      refine lv_iload_n hx hb dX6_hear_42 rfl (lv_at hl 0 rfl) ?_
      refine hq_if_ne (tgt := 52) hx hb dX6_hear_43 (by decide) (fun c26 => ?_) (fun c26 => ?_)
      · refine lv_aload_n hx hb dX6_hear_52 rfl (lv_at hl 1 rfl) ?_
        refine he_getr (C := RX6) (T := TX6) (N := 12) (ci := 6) (kd := 1) hx hb hts iX6_hear_X6 hown hK hJ k0 rfl rfl 3 (by decide) (hts (.fieldLink RX6 22 "NeighborBook" "ports" "[LNeighborBook$Port;") (List.mem_of_getElem? (i := 1) rfl)) (fun _ h9 => h9) rfl dX6_hear_53 (fun b27 kb27 => ?_)
        refine lv_iload_n hx hb dX6_hear_56 rfl (lv_at hl 2 rfl) ?_
        refine he_aald3 (kd := 15) (n := 4) hx hb hK hJ kb27 rfl (by omega) (by omega) (he_s15 (by omega)) dX6_hear_57 (fun b28 kb28 => ?_)
        refine lv_iload_n hx hb dX6_hear_58 rfl (lv_at hl 0 rfl) ?_
        refine hq_if_ne (tgt := 66) hx hb dX6_hear_59 (by decide) (fun c29 => ?_) (fun c29 => ?_)
        · refine hq_iconst hx hb dX6_hear_66 (by decide) (by decide) (fun z30 ez30 => ?_)
          refine he_callv (va_runV (As := [.int z30]) (rest := []) ⟨hx, hb, hml, hown, hts⟩ (e_X4_noteHeard l dC dI dA κ B g22 (p1.toInt.toNat) (by omega) b28 kb28 z30) (cwV 1 hts gX6_hear_X4_noteHeard rfl rfl rfl (by decide +kernel) ⟨Nat.le_of_ble_eq_true rfl, Nat.le_of_ble_eq_true rfl⟩) (he_preV (q := (RX4, TX4, 6)) [.int z30] hK hN hW hJ kb28 (hk_t5 (by omega)) rfl) rfl rfl hl.1 rfl (lv_room (Nat.le_of_ble_eq_true rfl)) dX6_hear_67 ⟨Nat.zero_le _, Nat.zero_le _⟩) hJ (fun g31 H locs hp hJ => ?_)
          have P33a := hp
          have P33 : hg_Q (fun a b => (a = 1 ∧ (b = 1 ∨ b = 11)) ∨ (a = 10 ∧ b = 1) ∨ a = 16 ∨ (300 ≤ a ∧ a < 312) ∨ (a = 3 ∧ b = 0) ∨ (a = 3 ∧ b = 1) ∨ (340 ≤ a ∧ a < 353) ∨ (360 ≤ a ∧ a < 373) ∨ (5 ≤ a ∧ a < 9 ∧ b ≠ 0)) g g31 := hg_Q.tr P23 (hg_Q.le P33a (fun a b h9 => by have h9 : a = 5 + p1.toInt.toNat ∧ b ≠ 0 := h9; show (a = 1 ∧ (b = 1 ∨ b = 11)) ∨ (a = 10 ∧ b = 1) ∨ a = 16 ∨ (300 ≤ a ∧ a < 312) ∨ (a = 3 ∧ b = 0) ∨ (a = 3 ∧ b = 1) ∨ (340 ≤ a ∧ a < 353) ∨ (360 ≤ a ∧ a < 373) ∨ (5 ≤ a ∧ a < 9 ∧ b ≠ 0); omega))
          have qt34 : g31 3 0 = g22 3 0 := P33a 3 0 (show ¬ (3 = 5 + p1.toInt.toNat ∧ 0 ≠ 0) from by omega)
          have qt35 : g31 3 1 = g22 3 1 := P33a 3 1 (show ¬ (3 = 5 + p1.toInt.toNat ∧ 1 ≠ 0) from by omega)
          have qt36 : g31 1 1 = g22 1 1 := P33a 1 1 (show ¬ (1 = 5 + p1.toInt.toNat ∧ 1 ≠ 0) from by omega)
          refine lv_aload_n hx hb dX6_hear_70 rfl (lv_at hl 1 rfl) ?_
          refine lv_iload_n hx hb dX6_hear_71 rfl (lv_at hl 0 rfl) ?_
          refine he_putx (C := RX6) (T := TX6) (N := 12) (ci := 6) (kd := 1) hx hb hts iX6_hear_X6 hown hK hJ k0 rfl rfl 11 (by decide) (hts (.fieldLink RX6 112 "NeighborBook" "latestFault" "I") (List.mem_of_getElem? (i := 5) rfl)) (fun _ h9 => h9) tyX6 tyX6_ok nmX6 (x := x16) rfl rfl (by decide) hW rfl rfl rfl rfl rfl dX6_hear_72 (fun g37 H locs eg37 ng37 hJ => ?_)
          have eg37 : g37 1 11 = x16.toInt := eg37
          have P38 : hg_Q (fun a b => (a = 1 ∧ (b = 1 ∨ b = 11)) ∨ (a = 10 ∧ b = 1) ∨ a = 16 ∨ (300 ≤ a ∧ a < 312) ∨ (a = 3 ∧ b = 0) ∨ (a = 3 ∧ b = 1) ∨ (340 ≤ a ∧ a < 353) ∨ (360 ≤ a ∧ a < 373) ∨ (5 ≤ a ∧ a < 9 ∧ b ≠ 0)) g g37 := hg_Q.put P33 ng37 (show (1 = 1 ∧ (11 = 1 ∨ 11 = 11)) ∨ (1 = 10 ∧ 11 = 1) ∨ 1 = 16 ∨ (300 ≤ 1 ∧ 1 < 312) ∨ (1 = 3 ∧ 11 = 0) ∨ (1 = 3 ∧ 11 = 1) ∨ (340 ≤ 1 ∧ 1 < 353) ∨ (360 ≤ 1 ∧ 1 < 373) ∨ (5 ≤ 1 ∧ 1 < 9 ∧ 11 ≠ 0) from by omega)
          have qt39 : g37 3 0 = g31 3 0 := ng37 3 0 (by omega)
          have qt40 : g37 3 1 = g31 3 1 := ng37 3 1 (by omega)
          have qt41 : g37 1 1 = g31 1 1 := ng37 1 1 (by omega)
          obtain ⟨hT3, hB⟩ := hc_tab_same (u := g37) hW2 (fun a b h9 => (ng37 a b (by unfold hc_f at h9; omega)).trans (P33a a b (fun h8 => by have h8 : a = 5 + p1.toInt.toNat ∧ b ≠ 0 := h8; unfold hc_f at h9; omega)))
          have hA := hT3.trans hT2
          have hPf : (hq_P (g 12) (g 1 1) 351 0 0 hc_e (g 3 1)).1 = false := by
            cases hb9 : (hq_P (g 12) (g 1 1) 351 0 0 hc_e (g 3 1)).1 with
            | false => rfl
            | true => exact absurd (hf1.mpr hb9) (by omega)
          refine lv_iload_n hx hb dX6_hear_75 rfl (lv_at hl 0 rfl) ?_
          exact he_iret hx hb hK hN hW hlocks hJ hr ⟨P38, Or.inl ⟨by omega, by omega, hB, by rw [← hf3]; omega, Or.inr ⟨hPf, hA⟩⟩⟩ dX6_hear_76
        · exfalso; omega
      · refine lv_aload_n hx hb dX6_hear_46 rfl (lv_at hl 1 rfl) ?_
        refine lv_iload_n hx hb dX6_hear_47 rfl (lv_at hl 2 rfl) ?_
        refine he_calli (va_runV (As := [.int p1]) (rest := []) ⟨hx, hb, hml, hown, hts⟩ (e_X6_learn l dC dI dA κ B g22 (cq) (by omega) h0 k0 p1 hW2 (by omega) (by omega) (by omega)) (cwV 1 hts gX6_hear_X6_learn rfl rfl rfl (by decide +kernel) ⟨Nat.le_of_ble_eq_true rfl, Nat.le_of_ble_eq_true rfl⟩) (he_preV (q := (RX6, TX6, 12)) [.int p1] hK hN hW hJ k0 rfl rfl) rfl rfl hl.1 rfl (lv_room (Nat.le_of_ble_eq_true rfl)) dX6_hear_48 ⟨Nat.zero_le _, Nat.zero_le _⟩) hJ (fun x43 g42 H locs hp hJ => ?_)
        obtain ⟨P45a, f44⟩ := hp
        have P45 : hg_Q (fun a b => (a = 1 ∧ (b = 1 ∨ b = 11)) ∨ (a = 10 ∧ b = 1) ∨ a = 16 ∨ (300 ≤ a ∧ a < 312) ∨ (a = 3 ∧ b = 0) ∨ (a = 3 ∧ b = 1) ∨ (340 ≤ a ∧ a < 353) ∨ (360 ≤ a ∧ a < 373) ∨ (5 ≤ a ∧ a < 9 ∧ b ≠ 0)) g g42 := hg_Q.tr P23 (hg_Q.le P45a (fun a b h9 => by have h9 : (a = 10 ∧ b = 1) ∨ a = 16 ∨ (300 ≤ a ∧ a < 312) ∨ (a = 3 ∧ b = 0) ∨ (5 ≤ a ∧ a < 9 ∧ b ≠ 0) := h9; show (a = 1 ∧ (b = 1 ∨ b = 11)) ∨ (a = 10 ∧ b = 1) ∨ a = 16 ∨ (300 ≤ a ∧ a < 312) ∨ (a = 3 ∧ b = 0) ∨ (a = 3 ∧ b = 1) ∨ (340 ≤ a ∧ a < 353) ∨ (360 ≤ a ∧ a < 373) ∨ (5 ≤ a ∧ a < 9 ∧ b ≠ 0); omega))
        have qt46 : g42 3 1 = g22 3 1 := P45a 3 1 (show ¬ ((3 = 10 ∧ 1 = 1) ∨ 3 = 16 ∨ (300 ≤ 3 ∧ 3 < 312) ∨ (3 = 3 ∧ 1 = 0) ∨ (5 ≤ 3 ∧ 3 < 9 ∧ 1 ≠ 0)) from by omega)
        have qt47 : g42 1 1 = g22 1 1 := P45a 1 1 (show ¬ ((1 = 10 ∧ 1 = 1) ∨ 1 = 16 ∨ (300 ≤ 1 ∧ 1 < 312) ∨ (1 = 3 ∧ 1 = 0) ∨ (5 ≤ 1 ∧ 1 < 9 ∧ 1 ≠ 0)) from by omega)
        refine lv_istore_n (lv' := [(2, .int x43), (0, .ref h0), (1, .int p1)]) hx hb dX6_hear_51 rfl hl (by decide) rfl (fun ls hl => ?_)
        refine lv_aload_n hx hb dX6_hear_52 rfl (lv_at hl 1 rfl) ?_
        refine he_getr (C := RX6) (T := TX6) (N := 12) (ci := 6) (kd := 1) hx hb hts iX6_hear_X6 hown hK hJ k0 rfl rfl 3 (by decide) (hts (.fieldLink RX6 22 "NeighborBook" "ports" "[LNeighborBook$Port;") (List.mem_of_getElem? (i := 1) rfl)) (fun _ h9 => h9) rfl dX6_hear_53 (fun b48 kb48 => ?_)
        refine lv_iload_n hx hb dX6_hear_56 rfl (lv_at hl 2 rfl) ?_
        refine he_aald3 (kd := 15) (n := 4) hx hb hK hJ kb48 rfl (by omega) (by omega) (he_s15 (by omega)) dX6_hear_57 (fun b49 kb49 => ?_)
        refine lv_iload_n hx hb dX6_hear_58 rfl (lv_at hl 0 rfl) ?_
        refine hq_if_ne (tgt := 66) hx hb dX6_hear_59 (by decide) (fun c50 => ?_) (fun c50 => ?_)
        · refine hq_iconst hx hb dX6_hear_66 (by decide) (by decide) (fun z51 ez51 => ?_)
          refine he_callv (va_runV (As := [.int z51]) (rest := []) ⟨hx, hb, hml, hown, hts⟩ (e_X4_noteHeard l dC dI dA κ B g42 (p1.toInt.toNat) (by omega) b49 kb49 z51) (cwV 1 hts gX6_hear_X4_noteHeard rfl rfl rfl (by decide +kernel) ⟨Nat.le_of_ble_eq_true rfl, Nat.le_of_ble_eq_true rfl⟩) (he_preV (q := (RX4, TX4, 6)) [.int z51] hK hN hW hJ kb49 (hk_t5 (by omega)) rfl) rfl rfl hl.1 rfl (lv_room (Nat.le_of_ble_eq_true rfl)) dX6_hear_67 ⟨Nat.zero_le _, Nat.zero_le _⟩) hJ (fun g52 H locs hp hJ => ?_)
          have P54a := hp
          have P54 : hg_Q (fun a b => (a = 1 ∧ (b = 1 ∨ b = 11)) ∨ (a = 10 ∧ b = 1) ∨ a = 16 ∨ (300 ≤ a ∧ a < 312) ∨ (a = 3 ∧ b = 0) ∨ (a = 3 ∧ b = 1) ∨ (340 ≤ a ∧ a < 353) ∨ (360 ≤ a ∧ a < 373) ∨ (5 ≤ a ∧ a < 9 ∧ b ≠ 0)) g g52 := hg_Q.tr P45 (hg_Q.le P54a (fun a b h9 => by have h9 : a = 5 + p1.toInt.toNat ∧ b ≠ 0 := h9; show (a = 1 ∧ (b = 1 ∨ b = 11)) ∨ (a = 10 ∧ b = 1) ∨ a = 16 ∨ (300 ≤ a ∧ a < 312) ∨ (a = 3 ∧ b = 0) ∨ (a = 3 ∧ b = 1) ∨ (340 ≤ a ∧ a < 353) ∨ (360 ≤ a ∧ a < 373) ∨ (5 ≤ a ∧ a < 9 ∧ b ≠ 0); omega))
          have qt55 : g52 3 0 = g42 3 0 := P54a 3 0 (show ¬ (3 = 5 + p1.toInt.toNat ∧ 0 ≠ 0) from by omega)
          have qt56 : g52 3 1 = g42 3 1 := P54a 3 1 (show ¬ (3 = 5 + p1.toInt.toNat ∧ 1 ≠ 0) from by omega)
          have qt57 : g52 1 1 = g42 1 1 := P54a 1 1 (show ¬ (1 = 5 + p1.toInt.toNat ∧ 1 ≠ 0) from by omega)
          refine lv_aload_n hx hb dX6_hear_70 rfl (lv_at hl 1 rfl) ?_
          refine lv_iload_n hx hb dX6_hear_71 rfl (lv_at hl 0 rfl) ?_
          refine he_putx (C := RX6) (T := TX6) (N := 12) (ci := 6) (kd := 1) hx hb hts iX6_hear_X6 hown hK hJ k0 rfl rfl 11 (by decide) (hts (.fieldLink RX6 112 "NeighborBook" "latestFault" "I") (List.mem_of_getElem? (i := 5) rfl)) (fun _ h9 => h9) tyX6 tyX6_ok nmX6 (x := x43) rfl rfl (by decide) hW rfl rfl rfl rfl rfl dX6_hear_72 (fun g58 H locs eg58 ng58 hJ => ?_)
          have eg58 : g58 1 11 = x43.toInt := eg58
          have P59 : hg_Q (fun a b => (a = 1 ∧ (b = 1 ∨ b = 11)) ∨ (a = 10 ∧ b = 1) ∨ a = 16 ∨ (300 ≤ a ∧ a < 312) ∨ (a = 3 ∧ b = 0) ∨ (a = 3 ∧ b = 1) ∨ (340 ≤ a ∧ a < 353) ∨ (360 ≤ a ∧ a < 373) ∨ (5 ≤ a ∧ a < 9 ∧ b ≠ 0)) g g58 := hg_Q.put P54 ng58 (show (1 = 1 ∧ (11 = 1 ∨ 11 = 11)) ∨ (1 = 10 ∧ 11 = 1) ∨ 1 = 16 ∨ (300 ≤ 1 ∧ 1 < 312) ∨ (1 = 3 ∧ 11 = 0) ∨ (1 = 3 ∧ 11 = 1) ∨ (340 ≤ 1 ∧ 1 < 353) ∨ (360 ≤ 1 ∧ 1 < 373) ∨ (5 ≤ 1 ∧ 1 < 9 ∧ 11 ≠ 0) from by omega)
          have qt60 : g58 3 0 = g52 3 0 := ng58 3 0 (by omega)
          have qt61 : g58 3 1 = g52 3 1 := ng58 3 1 (by omega)
          have qt62 : g58 1 1 = g52 1 1 := ng58 1 1 (by omega)
          obtain ⟨hT3, hB⟩ := hc_tab_same (u := g58) f44.1 (fun a b h9 => (ng58 a b (by unfold hc_f at h9; omega)).trans (P54a a b (fun h8 => by have h8 : a = 5 + p1.toInt.toNat ∧ b ≠ 0 := h8; unfold hc_f at h9; omega)))
          have hh := f44.2.2
          have hA := f44.2.1
          rw [hT2, ← hT3] at hA
          have hPt : (hq_P (g 12) (g 1 1) 351 0 0 hc_e (g 3 1)).1 = true := hf1.mp (by omega)
          have hcon : hc_con g22 cq = (hq_P (g 12) (g 1 1) 351 0 0 hc_e (g 3 1)).2.1 := by
            rw [← hf2]
            exact hc_con_eq (fun t => ng22 _ t (by omega)) (fun k => ng22 _ k (by omega))
          have hA2 := hA
          rw [hcon, show g22 3 1 = (hq_P (g 12) (g 1 1) 351 0 0 hc_e (g 3 1)).2.2 by rw [← hf3]; omega] at hA2
          refine lv_iload_n hx hb dX6_hear_75 rfl (lv_at hl 0 rfl) ?_
          exact he_iret hx hb hK hN hW hlocks hJ hr ⟨P59, Or.inl ⟨by omega, by omega, hB, by rw [← hf3]; omega, Or.inl ⟨hPt, by rw [← hf3]; omega, by rw [← hf3]; omega, hA2⟩⟩⟩ dX6_hear_76
        · refine hq_iconst hx hb dX6_hear_62 (by decide) (by decide) (fun z63 ez63 => ?_)
          refine lv_goto (tgt := 67) hx hb dX6_hear_63 (by decide) ?_
          refine he_callv (va_runV (As := [.int z63]) (rest := []) ⟨hx, hb, hml, hown, hts⟩ (e_X4_noteHeard l dC dI dA κ B g42 (p1.toInt.toNat) (by omega) b49 kb49 z63) (cwV 1 hts gX6_hear_X4_noteHeard rfl rfl rfl (by decide +kernel) ⟨Nat.le_of_ble_eq_true rfl, Nat.le_of_ble_eq_true rfl⟩) (he_preV (q := (RX4, TX4, 6)) [.int z63] hK hN hW hJ kb49 (hk_t5 (by omega)) rfl) rfl rfl hl.1 rfl (lv_room (Nat.le_of_ble_eq_true rfl)) dX6_hear_67 ⟨Nat.zero_le _, Nat.zero_le _⟩) hJ (fun g64 H locs hp hJ => ?_)
          have P66a := hp
          have P66 : hg_Q (fun a b => (a = 1 ∧ (b = 1 ∨ b = 11)) ∨ (a = 10 ∧ b = 1) ∨ a = 16 ∨ (300 ≤ a ∧ a < 312) ∨ (a = 3 ∧ b = 0) ∨ (a = 3 ∧ b = 1) ∨ (340 ≤ a ∧ a < 353) ∨ (360 ≤ a ∧ a < 373) ∨ (5 ≤ a ∧ a < 9 ∧ b ≠ 0)) g g64 := hg_Q.tr P45 (hg_Q.le P66a (fun a b h9 => by have h9 : a = 5 + p1.toInt.toNat ∧ b ≠ 0 := h9; show (a = 1 ∧ (b = 1 ∨ b = 11)) ∨ (a = 10 ∧ b = 1) ∨ a = 16 ∨ (300 ≤ a ∧ a < 312) ∨ (a = 3 ∧ b = 0) ∨ (a = 3 ∧ b = 1) ∨ (340 ≤ a ∧ a < 353) ∨ (360 ≤ a ∧ a < 373) ∨ (5 ≤ a ∧ a < 9 ∧ b ≠ 0); omega))
          have qt67 : g64 3 0 = g42 3 0 := P66a 3 0 (show ¬ (3 = 5 + p1.toInt.toNat ∧ 0 ≠ 0) from by omega)
          have qt68 : g64 3 1 = g42 3 1 := P66a 3 1 (show ¬ (3 = 5 + p1.toInt.toNat ∧ 1 ≠ 0) from by omega)
          have qt69 : g64 1 1 = g42 1 1 := P66a 1 1 (show ¬ (1 = 5 + p1.toInt.toNat ∧ 1 ≠ 0) from by omega)
          refine lv_aload_n hx hb dX6_hear_70 rfl (lv_at hl 1 rfl) ?_
          refine lv_iload_n hx hb dX6_hear_71 rfl (lv_at hl 0 rfl) ?_
          refine he_putx (C := RX6) (T := TX6) (N := 12) (ci := 6) (kd := 1) hx hb hts iX6_hear_X6 hown hK hJ k0 rfl rfl 11 (by decide) (hts (.fieldLink RX6 112 "NeighborBook" "latestFault" "I") (List.mem_of_getElem? (i := 5) rfl)) (fun _ h9 => h9) tyX6 tyX6_ok nmX6 (x := x43) rfl rfl (by decide) hW rfl rfl rfl rfl rfl dX6_hear_72 (fun g70 H locs eg70 ng70 hJ => ?_)
          have eg70 : g70 1 11 = x43.toInt := eg70
          have P71 : hg_Q (fun a b => (a = 1 ∧ (b = 1 ∨ b = 11)) ∨ (a = 10 ∧ b = 1) ∨ a = 16 ∨ (300 ≤ a ∧ a < 312) ∨ (a = 3 ∧ b = 0) ∨ (a = 3 ∧ b = 1) ∨ (340 ≤ a ∧ a < 353) ∨ (360 ≤ a ∧ a < 373) ∨ (5 ≤ a ∧ a < 9 ∧ b ≠ 0)) g g70 := hg_Q.put P66 ng70 (show (1 = 1 ∧ (11 = 1 ∨ 11 = 11)) ∨ (1 = 10 ∧ 11 = 1) ∨ 1 = 16 ∨ (300 ≤ 1 ∧ 1 < 312) ∨ (1 = 3 ∧ 11 = 0) ∨ (1 = 3 ∧ 11 = 1) ∨ (340 ≤ 1 ∧ 1 < 353) ∨ (360 ≤ 1 ∧ 1 < 373) ∨ (5 ≤ 1 ∧ 1 < 9 ∧ 11 ≠ 0) from by omega)
          have qt72 : g70 3 0 = g64 3 0 := ng70 3 0 (by omega)
          have qt73 : g70 3 1 = g64 3 1 := ng70 3 1 (by omega)
          have qt74 : g70 1 1 = g64 1 1 := ng70 1 1 (by omega)
          obtain ⟨hT3, hB⟩ := hc_tab_same (u := g70) f44.1 (fun a b h9 => (ng70 a b (by unfold hc_f at h9; omega)).trans (P66a a b (fun h8 => by have h8 : a = 5 + p1.toInt.toNat ∧ b ≠ 0 := h8; unfold hc_f at h9; omega)))
          have hh := f44.2.2
          have hA := f44.2.1
          rw [hT2, ← hT3] at hA
          have hPt : (hq_P (g 12) (g 1 1) 351 0 0 hc_e (g 3 1)).1 = true := hf1.mp (by omega)
          have hcon : hc_con g22 cq = (hq_P (g 12) (g 1 1) 351 0 0 hc_e (g 3 1)).2.1 := by
            rw [← hf2]
            exact hc_con_eq (fun t => ng22 _ t (by omega)) (fun k => ng22 _ k (by omega))
          have hA2 := hA
          rw [hcon, show g22 3 1 = (hq_P (g 12) (g 1 1) 351 0 0 hc_e (g 3 1)).2.2 by rw [← hf3]; omega] at hA2
          refine lv_iload_n hx hb dX6_hear_75 rfl (lv_at hl 0 rfl) ?_
          exact he_iret hx hb hK hN hW hlocks hJ hr ⟨P71, Or.inl ⟨by omega, by omega, hB, by rw [← hf3]; omega, Or.inl ⟨hPt, by rw [← hf3]; omega, by rw [← hf3]; omega, hA2⟩⟩⟩ dX6_hear_76
    · refine hq_iconst hx hb dX6_hear_19 (by decide) (by decide) (fun z75 ez75 => ?_)
      exact he_iret hx hb hK hN hW hlocks hJ hr ⟨hg_Q.rf, Or.inr ⟨by omega, rfl⟩⟩ dX6_hear_20
