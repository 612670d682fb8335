theorem iX6_hear_X6 : ∀ w ∈ wsX60, w ∈ wsX6_hear := fun _ h => List.mem_cons_of_mem _ (List.mem_append_left _ (List.mem_append_left _ (List.mem_append_left _ (List.mem_append_left _ (List.mem_append_left _ (List.mem_append_right _ h))))))
theorem iX6_hear_X4 : ∀ w ∈ wsX40, w ∈ wsX6_hear := fun _ h => List.mem_cons_of_mem _ (List.mem_append_left _ (List.mem_append_left _ (List.mem_append_left _ (List.mem_append_left _ (List.mem_append_right _ h)))))
theorem iX6_hear_X1 : ∀ w ∈ wsX10, w ∈ wsX6_hear := fun _ h => List.mem_cons_of_mem _ (List.mem_append_left _ (List.mem_append_left _ (List.mem_append_left _ (List.mem_append_right _ h))))
theorem iX6_hear_X0 : ∀ w ∈ wsX00, w ∈ wsX6_hear := fun _ h => List.mem_cons_of_mem _ (List.mem_append_left _ (List.mem_append_left _ (List.mem_append_right _ h)))
theorem iX6_hear_X3 : ∀ w ∈ wsX30, w ∈ wsX6_hear := fun _ h => List.mem_cons_of_mem _ (List.mem_append_left _ (List.mem_append_right _ h))
theorem iX6_hear_X2 : ∀ w ∈ wsX20, w ∈ wsX6_hear := fun _ h => List.mem_cons_of_mem _ (List.mem_append_right _ h)
set_option maxRecDepth 100000 in
set_option maxHeartbeats 4000000 in
theorem e_X6_hear (l : Launch) (dC : Nat → ClassId) (dI : Nat → Nat → Nat) (dA : Nat → ClassId) (κ : Nat → Nat) (B : Nat) (g : Nat → Nat → Int) (h0 : Nat) (k0 : κ h0 = 1) (p1 : Int32) (hw : hc_wf g) : Met l yX6_hear wsX6_hear ({ frames := 5, cells := 0, slots := 0, locals := 117 } : Room) (he_Pre dC dI dA κ B g [Value.ref h0, Value.int p1]) (he_Qi dC dI dA κ B (fun r u => hg_Q (fun a b => (a = 1 ∧ (b = 1 ∨ b = 11)) ∨ (a = 10 ∧ b = 1) ∨ a = 16 ∨ (300 ≤ a ∧ a < 312) ∨ (a = 3 ∧ b = 0) ∨ (a = 3 ∧ b = 1) ∨ (340 ≤ a ∧ a < 353) ∨ (360 ≤ a ∧ a < 373) ∨ (5 ≤ a ∧ a < 9 ∧ b ≠ 0)) g u ∧ hc_wf u ∧ (hc_tab u = hc_tab g ∨ ((0 ≤ p1.toInt ∧ p1.toInt < 4 ∧ g (5 + p1.toInt.toNat) 0 = 1) ∧ ∃ (con : hC) (held : Int), 0 ≤ held ∧ held ≤ 65535 ∧ hr_LN (hc_tab g) (hc_tab u) p1.toInt con held)))) 0 0 (hp_A B) := by
  refine Met.ofW (cc := cX6_hear) (maxL := 3) (ret := (some .int)) (by decide) rfl ?_
  intro p e s m args below meth c s₁ Bd hml hv
  obtain ⟨rfl, hK, hN, hW, hF⟩ := hv
  have hx := Bd.exec
  have hb := Bd.bytes
  have hr := Bd.returns
  have hts := atoms_spec (ws := wsX6_hear) Bd.pre
  have hown : s.vm.findClass RX6 = some m.cls := findClass_of_methodNamed Bd.named
  have hlocks := Bd.notSynchronized
  have hJ : he_J dC dI dA κ B g s.heap s.heap [] := ⟨hF, va_S.rf⟩
  have hl := lv_entry ([Value.ref h0, Value.int p1]) (n := 3) (Nat.le_of_ble_eq_true rfl)
  rw [lg_entry_eq]
  generalize (lg_sl ([Value.ref h0, Value.int p1]) ++ List.replicate (3 - (lg_sl ([Value.ref h0, Value.int p1])).length) Slot.unset).toArray = ls at hl ⊢
  have hl : lv_has ls 3 [(0, .ref h0), (1, .int p1)] := hl
  obtain ⟨cq, hcq, hcr⟩ : ∃ cq : Nat, cq < 13 ∧ g 3 0 = 320 + (cq : Int) := ⟨(g 3 0 - 320).toNat, by have := hw.2.2.2.2.2; omega, by have := hw.2.2.2.2.2; omega⟩
  refine lv_iload_n hx hb dX6_hear_0 rfl (lv_at hl 1 rfl) ?_
  refine he_calli (va_runS (As := [.int p1]) (rest := []) ⟨hx, hb, hml, hown, hts⟩ (e_X6_isPort l dC dI dA κ B g p1) (va_cwS 1 hts gX6_hear_X6_isPort rfl rfl rfl (by decide +kernel) ⟨Nat.le_of_ble_eq_true rfl, Nat.le_of_ble_eq_true rfl⟩) (he_preS [.int p1] hK hN hW hJ) rfl rfl hl.1 rfl (lv_room (Nat.le_of_ble_eq_true rfl)) dX6_hear_1 ⟨Nat.zero_le _, Nat.zero_le _⟩) hJ (fun x2 g1 H locs hp hJ => ?_)
  obtain ⟨rfl, f3⟩ := hp
  refine hq_if_eq (tgt := 19) hx hb dX6_hear_4 (by decide) (fun c4 => ?_) (fun c4 => ?_)
  · refine hq_iconst hx hb dX6_hear_19 (by decide) (by decide) (fun z5 ez5 => ?_)
    exact he_iret hx hb hK hN hW hlocks hJ hr ⟨hg_Q.rf, hw, Or.inl rfl⟩ dX6_hear_20
  · refine lv_aload_n hx hb dX6_hear_7 rfl (lv_at hl 0 rfl) ?_
    refine he_getr (C := RX6) (T := TX6) (N := 12) (ci := 6) (kd := 1) hx hb hts iX6_hear_X6 hown hK hJ k0 rfl rfl 3 (by decide) (hts (.fieldLink RX6 22 "NeighborBook" "ports" "[LNeighborBook$Port;") (List.mem_of_getElem? (i := 1) rfl)) (fun _ h9 => h9) rfl dX6_hear_8 (fun b6 kb6 => ?_)
    refine lv_iload_n hx hb dX6_hear_11 rfl (lv_at hl 1 rfl) ?_
    refine he_aald3 (kd := 15) (n := 4) hx hb hK hJ kb6 rfl (by omega) (by omega) (he_s15 (by omega)) dX6_hear_12 (fun b7 kb7 => ?_)
    refine he_calli (va_runV (As := []) (rest := []) ⟨hx, hb, hml, hown, hts⟩ (e_X4_isUp l dC dI dA κ B g (p1.toInt.toNat) (by omega) b7 kb7) (cwV 0 hts gX6_hear_X4_isUp rfl rfl rfl (by decide +kernel) ⟨Nat.le_of_ble_eq_true rfl, Nat.le_of_ble_eq_true rfl⟩) (he_preV (q := (RX4, TX4, 6)) [] hK hN hW hJ kb7 (hk_t5 (by omega)) rfl) rfl rfl hl.1 rfl (lv_room (Nat.le_of_ble_eq_true rfl)) dX6_hear_13 ⟨Nat.zero_le _, Nat.zero_le _⟩) hJ (fun x9 g8 H locs hp hJ => ?_)
    obtain ⟨rfl, f10⟩ := hp
    refine hq_if_ne (tgt := 21) hx hb dX6_hear_16 (by decide) (fun c11 => ?_) (fun c11 => ?_)
    · refine lv_aload_n hx hb dX6_hear_21 rfl (lv_at hl 0 rfl) ?_
      refine he_getr (C := RX6) (T := TX6) (N := 12) (ci := 6) (kd := 1) hx hb hts iX6_hear_X6 hown hK hJ k0 rfl rfl 5 (by decide) (hts (.fieldLink RX6 36 "NeighborBook" "reader" "LNeighborBook$FrameReader;") (List.mem_of_getElem? (i := 2) rfl)) (fun _ h9 => h9) rfl dX6_hear_22 (fun b12 kb12 => ?_)
      refine lv_aload_n hx hb dX6_hear_25 rfl (lv_at hl 0 rfl) ?_
      refine he_getr (C := RX6) (T := TX6) (N := 12) (ci := 6) (kd := 1) hx hb hts iX6_hear_X6 hown hK hJ k0 rfl rfl 0 (by decide) (hts (.fieldLink RX6 9 "NeighborBook" "typed" "[B") (List.mem_of_getElem? (i := 3) rfl)) (fun _ h9 => h9) rfl dX6_hear_26 (fun b13 kb13 => ?_)
      refine lv_aload_n hx hb dX6_hear_29 rfl (lv_at hl 0 rfl) ?_
      refine he_geti (C := RX6) (T := TX6) (N := 12) (ci := 6) (kd := 1) hx hb hts iX6_hear_X6 hown hK hJ k0 rfl rfl 1 (by decide) (hts (.fieldLink RX6 65 "NeighborBook" "typedCount" "I") (List.mem_of_getElem? (i := 4) rfl)) (fun _ h9 => h9) rfl rfl dX6_hear_30 (fun x14 ex14 => ?_)
      have ex14 : x14.toInt = g 1 1 ∧ 0 ≤ x14.toInt ∧ x14.toInt ≤ 700 := ex14
      refine he_calli (va_runV (As := [.ref b13, .int x14]) (rest := []) ⟨hx, hb, hml, hown, hts⟩ (e_X1_read l dC dI dA κ B g (cq) (by omega) b12 kb12 b13 kb13 x14 (by omega) (by omega) hcr) (cwV 2 hts gX6_hear_X1_read rfl rfl rfl (by decide +kernel) ⟨Nat.le_of_ble_eq_true rfl, Nat.le_of_ble_eq_true rfl⟩) (he_preV (q := (RX1, TX1, 2)) [.ref b13, .int x14] hK hN hW hJ kb12 rfl rfl) rfl rfl hl.1 rfl (lv_room (Nat.le_of_ble_eq_true rfl)) dX6_hear_33 ⟨Nat.zero_le _, Nat.zero_le _⟩) hJ (fun x16 g15 H locs hp hJ => ?_)
      have P18a := hp
      have P18 : hg_Q (fun a b => (a = 1 ∧ (b = 1 ∨ b = 11)) ∨ (a = 10 ∧ b = 1) ∨ a = 16 ∨ (300 ≤ a ∧ a < 312) ∨ (a = 3 ∧ b = 0) ∨ (a = 3 ∧ b = 1) ∨ (340 ≤ a ∧ a < 353) ∨ (360 ≤ a ∧ a < 373) ∨ (5 ≤ a ∧ a < 9 ∧ b ≠ 0)) g g15 := (hg_Q.le P18a (fun a b h9 => by have h9 : ((a = 3 ∧ b = 1) ∨ a = 340 + cq ∨ a = 360 + cq) := h9; show (a = 1 ∧ (b = 1 ∨ b = 11)) ∨ (a = 10 ∧ b = 1) ∨ a = 16 ∨ (300 ≤ a ∧ a < 312) ∨ (a = 3 ∧ b = 0) ∨ (a = 3 ∧ b = 1) ∨ (340 ≤ a ∧ a < 353) ∨ (360 ≤ a ∧ a < 373) ∨ (5 ≤ a ∧ a < 9 ∧ b ≠ 0); omega))
      have qt19 : g15 3 0 = g 3 0 := P18a 3 0 (show ¬ (((3 = 3 ∧ 0 = 1) ∨ 3 = 340 + cq ∨ 3 = 360 + cq)) from by omega)
      obtain ⟨hT1, hW1⟩ := hc_read hw hcr (fun a b h9 => P18a a b h9) hcq
      refine lv_istore_n (lv' := [(2, .int x16), (0, .ref h0), (1, .int p1)]) hx hb dX6_hear_36 rfl hl (by decide) rfl (fun ls hl => ?_)
      refine lv_aload_n hx hb dX6_hear_37 rfl (lv_at hl 1 rfl) ?_
      refine hq_iconst hx hb dX6_hear_38 (by decide) (by decide) (fun z20 ez20 => ?_)
      refine he_putx (C := RX6) (T := TX6) (N := 12) (ci := 6) (kd := 1) hx hb hts iX6_hear_X6 hown hK hJ k0 rfl rfl 1 (by decide) (hts (.fieldLink RX6 65 "NeighborBook" "typedCount" "I") (List.mem_of_getElem? (i := 4) rfl)) (fun _ h9 => h9) tyX6 tyX6_ok nmX6 (x := z20) rfl rfl (by decide) hW rfl rfl rfl rfl (show z20.toInt = z20.toInt ∧ 0 ≤ z20.toInt ∧ z20.toInt ≤ 700 from ⟨rfl, by omega, by omega⟩) dX6_hear_39 (fun g21 H locs eg21 ng21 hJ => ?_)
      have eg21 : g21 1 1 = z20.toInt := eg21
      have P22 : hg_Q (fun a b => (a = 1 ∧ (b = 1 ∨ b = 11)) ∨ (a = 10 ∧ b = 1) ∨ a = 16 ∨ (300 ≤ a ∧ a < 312) ∨ (a = 3 ∧ b = 0) ∨ (a = 3 ∧ b = 1) ∨ (340 ≤ a ∧ a < 353) ∨ (360 ≤ a ∧ a < 373) ∨ (5 ≤ a ∧ a < 9 ∧ b ≠ 0)) g g21 := hg_Q.put P18 ng21 (show (1 = 1 ∧ (1 = 1 ∨ 1 = 11)) ∨ (1 = 10 ∧ 1 = 1) ∨ 1 = 16 ∨ (300 ≤ 1 ∧ 1 < 312) ∨ (1 = 3 ∧ 1 = 0) ∨ (1 = 3 ∧ 1 = 1) ∨ (340 ≤ 1 ∧ 1 < 353) ∨ (360 ≤ 1 ∧ 1 < 373) ∨ (5 ≤ 1 ∧ 1 < 9 ∧ 1 ≠ 0) from by omega)
      have qt23 : g21 3 0 = g15 3 0 := ng21 3 0 (by omega)
      have qt24 : g21 3 1 = g15 3 1 := ng21 3 1 (by omega)
      obtain ⟨hT2, hW2⟩ := hc_tab_same hW1 (fun a b h9 => ng21 a b (by unfold hc_f at h9; omega))
      rw [hT1] at hT2
      refine lv_iload_n hx hb dX6_hear_42 rfl (lv_at hl 0 rfl) ?_
      refine hq_if_ne (tgt := 52) hx hb dX6_hear_43 (by decide) (fun c25 => ?_) (fun c25 => ?_)
      · refine lv_aload_n hx hb dX6_hear_52 rfl (lv_at hl 1 rfl) ?_
        refine he_getr (C := RX6) (T := TX6) (N := 12) (ci := 6) (kd := 1) hx hb hts iX6_hear_X6 hown hK hJ k0 rfl rfl 3 (by decide) (hts (.fieldLink RX6 22 "NeighborBook" "ports" "[LNeighborBook$Port;") (List.mem_of_getElem? (i := 1) rfl)) (fun _ h9 => h9) rfl dX6_hear_53 (fun b26 kb26 => ?_)
        refine lv_iload_n hx hb dX6_hear_56 rfl (lv_at hl 2 rfl) ?_
        refine he_aald3 (kd := 15) (n := 4) hx hb hK hJ kb26 rfl (by omega) (by omega) (he_s15 (by omega)) dX6_hear_57 (fun b27 kb27 => ?_)
        refine lv_iload_n hx hb dX6_hear_58 rfl (lv_at hl 0 rfl) ?_
        refine hq_if_ne (tgt := 66) hx hb dX6_hear_59 (by decide) (fun c28 => ?_) (fun c28 => ?_)
        · refine hq_iconst hx hb dX6_hear_66 (by decide) (by decide) (fun z29 ez29 => ?_)
          refine he_callv (va_runV (As := [.int z29]) (rest := []) ⟨hx, hb, hml, hown, hts⟩ (e_X4_noteHeard l dC dI dA κ B g21 (p1.toInt.toNat) (by omega) b27 kb27 z29) (cwV 1 hts gX6_hear_X4_noteHeard rfl rfl rfl (by decide +kernel) ⟨Nat.le_of_ble_eq_true rfl, Nat.le_of_ble_eq_true rfl⟩) (he_preV (q := (RX4, TX4, 6)) [.int z29] hK hN hW hJ kb27 (hk_t5 (by omega)) rfl) rfl rfl hl.1 rfl (lv_room (Nat.le_of_ble_eq_true rfl)) dX6_hear_67 ⟨Nat.zero_le _, Nat.zero_le _⟩) hJ (fun g30 H locs hp hJ => ?_)
          have P32a := hp
          have P32 : hg_Q (fun a b => (a = 1 ∧ (b = 1 ∨ b = 11)) ∨ (a = 10 ∧ b = 1) ∨ a = 16 ∨ (300 ≤ a ∧ a < 312) ∨ (a = 3 ∧ b = 0) ∨ (a = 3 ∧ b = 1) ∨ (340 ≤ a ∧ a < 353) ∨ (360 ≤ a ∧ a < 373) ∨ (5 ≤ a ∧ a < 9 ∧ b ≠ 0)) g g30 := hg_Q.tr P22 (hg_Q.le P32a (fun a b h9 => by have h9 : a = 5 + p1.toInt.toNat ∧ b ≠ 0 := h9; show (a = 1 ∧ (b = 1 ∨ b = 11)) ∨ (a = 10 ∧ b = 1) ∨ a = 16 ∨ (300 ≤ a ∧ a < 312) ∨ (a = 3 ∧ b = 0) ∨ (a = 3 ∧ b = 1) ∨ (340 ≤ a ∧ a < 353) ∨ (360 ≤ a ∧ a < 373) ∨ (5 ≤ a ∧ a < 9 ∧ b ≠ 0); omega))
          have qt33 : g30 3 0 = g21 3 0 := P32a 3 0 (show ¬ (3 = 5 + p1.toInt.toNat ∧ 0 ≠ 0) from by omega)
          have qt34 : g30 3 1 = g21 3 1 := P32a 3 1 (show ¬ (3 = 5 + p1.toInt.toNat ∧ 1 ≠ 0) from by omega)
          refine lv_aload_n hx hb dX6_hear_70 rfl (lv_at hl 1 rfl) ?_
          refine lv_iload_n hx hb dX6_hear_71 rfl (lv_at hl 0 rfl) ?_
          refine he_putx (C := RX6) (T := TX6) (N := 12) (ci := 6) (kd := 1) hx hb hts iX6_hear_X6 hown hK hJ k0 rfl rfl 11 (by decide) (hts (.fieldLink RX6 112 "NeighborBook" "latestFault" "I") (List.mem_of_getElem? (i := 5) rfl)) (fun _ h9 => h9) tyX6 tyX6_ok nmX6 (x := x16) rfl rfl (by decide) hW rfl rfl rfl rfl rfl dX6_hear_72 (fun g35 H locs eg35 ng35 hJ => ?_)
          have eg35 : g35 1 11 = x16.toInt := eg35
          have P36 : hg_Q (fun a b => (a = 1 ∧ (b = 1 ∨ b = 11)) ∨ (a = 10 ∧ b = 1) ∨ a = 16 ∨ (300 ≤ a ∧ a < 312) ∨ (a = 3 ∧ b = 0) ∨ (a = 3 ∧ b = 1) ∨ (340 ≤ a ∧ a < 353) ∨ (360 ≤ a ∧ a < 373) ∨ (5 ≤ a ∧ a < 9 ∧ b ≠ 0)) g g35 := hg_Q.put P32 ng35 (show (1 = 1 ∧ (11 = 1 ∨ 11 = 11)) ∨ (1 = 10 ∧ 11 = 1) ∨ 1 = 16 ∨ (300 ≤ 1 ∧ 1 < 312) ∨ (1 = 3 ∧ 11 = 0) ∨ (1 = 3 ∧ 11 = 1) ∨ (340 ≤ 1 ∧ 1 < 353) ∨ (360 ≤ 1 ∧ 1 < 373) ∨ (5 ≤ 1 ∧ 1 < 9 ∧ 11 ≠ 0) from by omega)
          have qt37 : g35 3 0 = g30 3 0 := ng35 3 0 (by omega)
          have qt38 : g35 3 1 = g30 3 1 := ng35 3 1 (by omega)
          obtain ⟨hT3, hB⟩ := hc_tab_same (u := g35) hW2 (fun a b h9 => (ng35 a b (by unfold hc_f at h9; omega)).trans (P32a a b (fun h8 => by have h8 : a = 5 + p1.toInt.toNat ∧ b ≠ 0 := h8; unfold hc_f at h9; omega)))
          have hA := hT3.trans hT2
          refine lv_iload_n hx hb dX6_hear_75 rfl (lv_at hl 0 rfl) ?_
          exact he_iret hx hb hK hN hW hlocks hJ hr ⟨P36, hB, Or.inl hA⟩ dX6_hear_76
        · exfalso; omega
      · refine lv_aload_n hx hb dX6_hear_46 rfl (lv_at hl 1 rfl) ?_
        refine lv_iload_n hx hb dX6_hear_47 rfl (lv_at hl 2 rfl) ?_
        refine he_calli (va_runV (As := [.int p1]) (rest := []) ⟨hx, hb, hml, hown, hts⟩ (e_X6_learn l dC dI dA κ B g21 (cq) (by omega) h0 k0 p1 hW2 (by omega) (by omega) (by omega)) (cwV 1 hts gX6_hear_X6_learn rfl rfl rfl (by decide +kernel) ⟨Nat.le_of_ble_eq_true rfl, Nat.le_of_ble_eq_true rfl⟩) (he_preV (q := (RX6, TX6, 12)) [.int p1] hK hN hW hJ k0 rfl rfl) rfl rfl hl.1 rfl (lv_room (Nat.le_of_ble_eq_true rfl)) dX6_hear_48 ⟨Nat.zero_le _, Nat.zero_le _⟩) hJ (fun x40 g39 H locs hp hJ => ?_)
        obtain ⟨P42a, f41⟩ := hp
        have P42 : hg_Q (fun a b => (a = 1 ∧ (b = 1 ∨ b = 11)) ∨ (a = 10 ∧ b = 1) ∨ a = 16 ∨ (300 ≤ a ∧ a < 312) ∨ (a = 3 ∧ b = 0) ∨ (a = 3 ∧ b = 1) ∨ (340 ≤ a ∧ a < 353) ∨ (360 ≤ a ∧ a < 373) ∨ (5 ≤ a ∧ a < 9 ∧ b ≠ 0)) g g39 := hg_Q.tr P22 (hg_Q.le P42a (fun a b h9 => by have h9 : (a = 10 ∧ b = 1) ∨ a = 16 ∨ (300 ≤ a ∧ a < 312) ∨ (a = 3 ∧ b = 0) ∨ (5 ≤ a ∧ a < 9 ∧ b ≠ 0) := h9; show (a = 1 ∧ (b = 1 ∨ b = 11)) ∨ (a = 10 ∧ b = 1) ∨ a = 16 ∨ (300 ≤ a ∧ a < 312) ∨ (a = 3 ∧ b = 0) ∨ (a = 3 ∧ b = 1) ∨ (340 ≤ a ∧ a < 353) ∨ (360 ≤ a ∧ a < 373) ∨ (5 ≤ a ∧ a < 9 ∧ b ≠ 0); omega))
        have qt43 : g39 3 1 = g21 3 1 := P42a 3 1 (show ¬ ((3 = 10 ∧ 1 = 1) ∨ 3 = 16 ∨ (300 ≤ 3 ∧ 3 < 312) ∨ (3 = 3 ∧ 1 = 0) ∨ (5 ≤ 3 ∧ 3 < 9 ∧ 1 ≠ 0)) from by omega)
        refine lv_istore_n (lv' := [(2, .int x40), (0, .ref h0), (1, .int p1)]) hx hb dX6_hear_51 rfl hl (by decide) rfl (fun ls hl => ?_)
        refine lv_aload_n hx hb dX6_hear_52 rfl (lv_at hl 1 rfl) ?_
        refine he_getr (C := RX6) (T := TX6) (N := 12) (ci := 6) (kd := 1) hx hb hts iX6_hear_X6 hown hK hJ k0 rfl rfl 3 (by decide) (hts (.fieldLink RX6 22 "NeighborBook" "ports" "[LNeighborBook$Port;") (List.mem_of_getElem? (i := 1) rfl)) (fun _ h9 => h9) rfl dX6_hear_53 (fun b44 kb44 => ?_)
        refine lv_iload_n hx hb dX6_hear_56 rfl (lv_at hl 2 rfl) ?_
        refine he_aald3 (kd := 15) (n := 4) hx hb hK hJ kb44 rfl (by omega) (by omega) (he_s15 (by omega)) dX6_hear_57 (fun b45 kb45 => ?_)
        refine lv_iload_n hx hb dX6_hear_58 rfl (lv_at hl 0 rfl) ?_
        refine hq_if_ne (tgt := 66) hx hb dX6_hear_59 (by decide) (fun c46 => ?_) (fun c46 => ?_)
        · refine hq_iconst hx hb dX6_hear_66 (by decide) (by decide) (fun z47 ez47 => ?_)
          refine he_callv (va_runV (As := [.int z47]) (rest := []) ⟨hx, hb, hml, hown, hts⟩ (e_X4_noteHeard l dC dI dA κ B g39 (p1.toInt.toNat) (by omega) b45 kb45 z47) (cwV 1 hts gX6_hear_X4_noteHeard rfl rfl rfl (by decide +kernel) ⟨Nat.le_of_ble_eq_true rfl, Nat.le_of_ble_eq_true rfl⟩) (he_preV (q := (RX4, TX4, 6)) [.int z47] hK hN hW hJ kb45 (hk_t5 (by omega)) rfl) rfl rfl hl.1 rfl (lv_room (Nat.le_of_ble_eq_true rfl)) dX6_hear_67 ⟨Nat.zero_le _, Nat.zero_le _⟩) hJ (fun g48 H locs hp hJ => ?_)
          have P50a := hp
          have P50 : hg_Q (fun a b => (a = 1 ∧ (b = 1 ∨ b = 11)) ∨ (a = 10 ∧ b = 1) ∨ a = 16 ∨ (300 ≤ a ∧ a < 312) ∨ (a = 3 ∧ b = 0) ∨ (a = 3 ∧ b = 1) ∨ (340 ≤ a ∧ a < 353) ∨ (360 ≤ a ∧ a < 373) ∨ (5 ≤ a ∧ a < 9 ∧ b ≠ 0)) g g48 := hg_Q.tr P42 (hg_Q.le P50a (fun a b h9 => by have h9 : a = 5 + p1.toInt.toNat ∧ b ≠ 0 := h9; show (a = 1 ∧ (b = 1 ∨ b = 11)) ∨ (a = 10 ∧ b = 1) ∨ a = 16 ∨ (300 ≤ a ∧ a < 312) ∨ (a = 3 ∧ b = 0) ∨ (a = 3 ∧ b = 1) ∨ (340 ≤ a ∧ a < 353) ∨ (360 ≤ a ∧ a < 373) ∨ (5 ≤ a ∧ a < 9 ∧ b ≠ 0); omega))
          have qt51 : g48 3 0 = g39 3 0 := P50a 3 0 (show ¬ (3 = 5 + p1.toInt.toNat ∧ 0 ≠ 0) from by omega)
          have qt52 : g48 3 1 = g39 3 1 := P50a 3 1 (show ¬ (3 = 5 + p1.toInt.toNat ∧ 1 ≠ 0) from by omega)
          refine lv_aload_n hx hb dX6_hear_70 rfl (lv_at hl 1 rfl) ?_
          refine lv_iload_n hx hb dX6_hear_71 rfl (lv_at hl 0 rfl) ?_
          refine he_putx (C := RX6) (T := TX6) (N := 12) (ci := 6) (kd := 1) hx hb hts iX6_hear_X6 hown hK hJ k0 rfl rfl 11 (by decide) (hts (.fieldLink RX6 112 "NeighborBook" "latestFault" "I") (List.mem_of_getElem? (i := 5) rfl)) (fun _ h9 => h9) tyX6 tyX6_ok nmX6 (x := x40) rfl rfl (by decide) hW rfl rfl rfl rfl rfl dX6_hear_72 (fun g53 H locs eg53 ng53 hJ => ?_)
          have eg53 : g53 1 11 = x40.toInt := eg53
          have P54 : hg_Q (fun a b => (a = 1 ∧ (b = 1 ∨ b = 11)) ∨ (a = 10 ∧ b = 1) ∨ a = 16 ∨ (300 ≤ a ∧ a < 312) ∨ (a = 3 ∧ b = 0) ∨ (a = 3 ∧ b = 1) ∨ (340 ≤ a ∧ a < 353) ∨ (360 ≤ a ∧ a < 373) ∨ (5 ≤ a ∧ a < 9 ∧ b ≠ 0)) g g53 := hg_Q.put P50 ng53 (show (1 = 1 ∧ (11 = 1 ∨ 11 = 11)) ∨ (1 = 10 ∧ 11 = 1) ∨ 1 = 16 ∨ (300 ≤ 1 ∧ 1 < 312) ∨ (1 = 3 ∧ 11 = 0) ∨ (1 = 3 ∧ 11 = 1) ∨ (340 ≤ 1 ∧ 1 < 353) ∨ (360 ≤ 1 ∧ 1 < 373) ∨ (5 ≤ 1 ∧ 1 < 9 ∧ 11 ≠ 0) from by omega)
          have qt55 : g53 3 0 = g48 3 0 := ng53 3 0 (by omega)
          have qt56 : g53 3 1 = g48 3 1 := ng53 3 1 (by omega)
          obtain ⟨hT3, hB⟩ := hc_tab_same (u := g53) f41.1 (fun a b h9 => (ng53 a b (by unfold hc_f at h9; omega)).trans (P50a a b (fun h8 => by have h8 : a = 5 + p1.toInt.toNat ∧ b ≠ 0 := h8; unfold hc_f at h9; omega)))
          have hh := f41.2.2
          have hA := f41.2.1
          rw [hT2, ← hT3] at hA
          refine lv_iload_n hx hb dX6_hear_75 rfl (lv_at hl 0 rfl) ?_
          exact he_iret hx hb hK hN hW hlocks hJ hr ⟨P54, hB, Or.inr ⟨by omega, _, _, hh.1, hh.2, hA⟩⟩ dX6_hear_76
        · refine hq_iconst hx hb dX6_hear_62 (by decide) (by decide) (fun z57 ez57 => ?_)
          refine lv_goto (tgt := 67) hx hb dX6_hear_63 (by decide) ?_
          refine he_callv (va_runV (As := [.int z57]) (rest := []) ⟨hx, hb, hml, hown, hts⟩ (e_X4_noteHeard l dC dI dA κ B g39 (p1.toInt.toNat) (by omega) b45 kb45 z57) (cwV 1 hts gX6_hear_X4_noteHeard rfl rfl rfl (by decide +kernel) ⟨Nat.le_of_ble_eq_true rfl, Nat.le_of_ble_eq_true rfl⟩) (he_preV (q := (RX4, TX4, 6)) [.int z57] hK hN hW hJ kb45 (hk_t5 (by omega)) rfl) rfl rfl hl.1 rfl (lv_room (Nat.le_of_ble_eq_true rfl)) dX6_hear_67 ⟨Nat.zero_le _, Nat.zero_le _⟩) hJ (fun g58 H locs hp hJ => ?_)
          have P60a := hp
          have P60 : hg_Q (fun a b => (a = 1 ∧ (b = 1 ∨ b = 11)) ∨ (a = 10 ∧ b = 1) ∨ a = 16 ∨ (300 ≤ a ∧ a < 312) ∨ (a = 3 ∧ b = 0) ∨ (a = 3 ∧ b = 1) ∨ (340 ≤ a ∧ a < 353) ∨ (360 ≤ a ∧ a < 373) ∨ (5 ≤ a ∧ a < 9 ∧ b ≠ 0)) g g58 := hg_Q.tr P42 (hg_Q.le P60a (fun a b h9 => by have h9 : a = 5 + p1.toInt.toNat ∧ b ≠ 0 := h9; show (a = 1 ∧ (b = 1 ∨ b = 11)) ∨ (a = 10 ∧ b = 1) ∨ a = 16 ∨ (300 ≤ a ∧ a < 312) ∨ (a = 3 ∧ b = 0) ∨ (a = 3 ∧ b = 1) ∨ (340 ≤ a ∧ a < 353) ∨ (360 ≤ a ∧ a < 373) ∨ (5 ≤ a ∧ a < 9 ∧ b ≠ 0); omega))
          have qt61 : g58 3 0 = g39 3 0 := P60a 3 0 (show ¬ (3 = 5 + p1.toInt.toNat ∧ 0 ≠ 0) from by omega)
          have qt62 : g58 3 1 = g39 3 1 := P60a 3 1 (show ¬ (3 = 5 + p1.toInt.toNat ∧ 1 ≠ 0) from by omega)
          refine lv_aload_n hx hb dX6_hear_70 rfl (lv_at hl 1 rfl) ?_
          refine lv_iload_n hx hb dX6_hear_71 rfl (lv_at hl 0 rfl) ?_
          refine he_putx (C := RX6) (T := TX6) (N := 12) (ci := 6) (kd := 1) hx hb hts iX6_hear_X6 hown hK hJ k0 rfl rfl 11 (by decide) (hts (.fieldLink RX6 112 "NeighborBook" "latestFault" "I") (List.mem_of_getElem? (i := 5) rfl)) (fun _ h9 => h9) tyX6 tyX6_ok nmX6 (x := x40) rfl rfl (by decide) hW rfl rfl rfl rfl rfl dX6_hear_72 (fun g63 H locs eg63 ng63 hJ => ?_)
          have eg63 : g63 1 11 = x40.toInt := eg63
          have P64 : hg_Q (fun a b => (a = 1 ∧ (b = 1 ∨ b = 11)) ∨ (a = 10 ∧ b = 1) ∨ a = 16 ∨ (300 ≤ a ∧ a < 312) ∨ (a = 3 ∧ b = 0) ∨ (a = 3 ∧ b = 1) ∨ (340 ≤ a ∧ a < 353) ∨ (360 ≤ a ∧ a < 373) ∨ (5 ≤ a ∧ a < 9 ∧ b ≠ 0)) g g63 := hg_Q.put P60 ng63 (show (1 = 1 ∧ (11 = 1 ∨ 11 = 11)) ∨ (1 = 10 ∧ 11 = 1) ∨ 1 = 16 ∨ (300 ≤ 1 ∧ 1 < 312) ∨ (1 = 3 ∧ 11 = 0) ∨ (1 = 3 ∧ 11 = 1) ∨ (340 ≤ 1 ∧ 1 < 353) ∨ (360 ≤ 1 ∧ 1 < 373) ∨ (5 ≤ 1 ∧ 1 < 9 ∧ 11 ≠ 0) from by omega)
          have qt65 : g63 3 0 = g58 3 0 := ng63 3 0 (by omega)
          have qt66 : g63 3 1 = g58 3 1 := ng63 3 1 (by omega)
          obtain ⟨hT3, hB⟩ := hc_tab_same (u := g63) f41.1 (fun a b h9 => (ng63 a b (by unfold hc_f at h9; omega)).trans (P60a a b (fun h8 => by have h8 : a = 5 + p1.toInt.toNat ∧ b ≠ 0 := h8; unfold hc_f at h9; omega)))
          have hh := f41.2.2
          have hA := f41.2.1
          rw [hT2, ← hT3] at hA
          refine lv_iload_n hx hb dX6_hear_75 rfl (lv_at hl 0 rfl) ?_
          exact he_iret hx hb hK hN hW hlocks hJ hr ⟨P64, hB, Or.inr ⟨by omega, _, _, hh.1, hh.2, hA⟩⟩ dX6_hear_76
    · refine hq_iconst hx hb dX6_hear_19 (by decide) (by decide) (fun z67 ez67 => ?_)
      exact he_iret hx hb hK hN hW hlocks hJ hr ⟨hg_Q.rf, hw, Or.inl rfl⟩ dX6_hear_20
