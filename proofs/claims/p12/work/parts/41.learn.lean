theorem iX6_learn_X6 : ∀ w ∈ wsX60, w ∈ wsX6_learn := fun _ h => List.mem_cons_of_mem _ (List.mem_append_left _ (List.mem_append_left _ (List.mem_append_left _ (List.mem_append_left _ (List.mem_append_left _ (List.mem_append_right _ h))))))
theorem iX6_learn_X1 : ∀ w ∈ wsX10, w ∈ wsX6_learn := fun _ h => List.mem_cons_of_mem _ (List.mem_append_left _ (List.mem_append_left _ (List.mem_append_left _ (List.mem_append_left _ (List.mem_append_right _ h)))))
theorem iX6_learn_X3 : ∀ w ∈ wsX30, w ∈ wsX6_learn := fun _ h => List.mem_cons_of_mem _ (List.mem_append_left _ (List.mem_append_left _ (List.mem_append_left _ (List.mem_append_right _ h))))
theorem iX6_learn_X2 : ∀ w ∈ wsX20, w ∈ wsX6_learn := fun _ h => List.mem_cons_of_mem _ (List.mem_append_left _ (List.mem_append_left _ (List.mem_append_right _ h)))
theorem iX6_learn_X0 : ∀ w ∈ wsX00, w ∈ wsX6_learn := fun _ h => List.mem_cons_of_mem _ (List.mem_append_left _ (List.mem_append_right _ h))
theorem iX6_learn_X4 : ∀ w ∈ wsX40, w ∈ wsX6_learn := fun _ h => List.mem_cons_of_mem _ (List.mem_append_right _ h)
set_option maxRecDepth 100000 in
set_option maxHeartbeats 4000000 in
theorem e_X6_learn (l : Launch) (dC : Nat → ClassId) (dI : Nat → Nat → Nat) (dA : Nat → ClassId) (κ : Nat → Nat) (B : Nat) (g : Nat → Nat → Int) (cq : Nat) (hcq : cq < 13) (h0 : Nat) (k0 : κ h0 = 1) (p1 : Int32) (hw : hc_wf g) (hp0 : 0 ≤ p1.toInt) (hp3 : p1.toInt < 4) (hcr : g 3 0 = 320 + (cq : Int)) : Met l yX6_learn wsX6_learn ({ frames := 4, cells := 0, slots := 0, locals := 91 } : Room) (he_Pre dC dI dA κ B g [Value.ref h0, Value.int p1]) (he_Qi dC dI dA κ B (fun r u => hg_Q (fun a b => (a = 10 ∧ b = 1) ∨ a = 16 ∨ (300 ≤ a ∧ a < 312) ∨ (a = 3 ∧ b = 0) ∨ (5 ≤ a ∧ a < 9 ∧ b ≠ 0)) g u ∧ hc_wf u ∧ hr_LN (hc_tab g) (hc_tab u) p1.toInt (hc_con g cq) (g 3 1) ∧ 0 ≤ g 3 1 ∧ g 3 1 ≤ 65535)) 0 0 (hp_A B) := by
  refine Met.ofW (cc := cX6_learn) (maxL := 4) (ret := (some .int)) (by decide) rfl ?_
  intro p e s m args below meth c s₁ Bd hml hv
  obtain ⟨rfl, hK, hN, hW, hF⟩ := hv
  have hx := Bd.exec
  have hb := Bd.bytes
  have hr := Bd.returns
  have hts := atoms_spec (ws := wsX6_learn) Bd.pre
  have hown : s.vm.findClass RX6 = some m.cls := findClass_of_methodNamed Bd.named
  have hlocks := Bd.notSynchronized
  have hJ : he_J dC dI dA κ B g s.heap s.heap [] := ⟨hF, va_S.rf⟩
  have hl := lv_entry ([Value.ref h0, Value.int p1]) (n := 4) (Nat.le_of_ble_eq_true rfl)
  rw [lg_entry_eq]
  generalize (lg_sl ([Value.ref h0, Value.int p1]) ++ List.replicate (4 - (lg_sl ([Value.ref h0, Value.int p1])).length) Slot.unset).toArray = ls at hl ⊢
  have hl : lv_has ls 4 [(0, .ref h0), (1, .int p1)] := hl
  refine lv_aload_n hx hb dX6_learn_0 rfl (lv_at hl 0 rfl) ?_
  refine he_getr (C := RX6) (T := TX6) (N := 12) (ci := 6) (kd := 1) hx hb hts iX6_learn_X6 hown hK hJ k0 rfl rfl 4 (by decide) (hts (.fieldLink RX6 29 "NeighborBook" "known" "LNeighborBook$Neighbors;") (List.mem_of_getElem? (i := 1) rfl)) (fun _ h9 => h9) rfl dX6_learn_1 (fun b1 kb1 => ?_)
  refine lv_iload_n hx hb dX6_learn_4 rfl (lv_at hl 1 rfl) ?_
  refine lv_aload_n hx hb dX6_learn_5 rfl (lv_at hl 0 rfl) ?_
  refine he_getr (C := RX6) (T := TX6) (N := 12) (ci := 6) (kd := 1) hx hb hts iX6_learn_X6 hown hK hJ k0 rfl rfl 5 (by decide) (hts (.fieldLink RX6 36 "NeighborBook" "reader" "LNeighborBook$FrameReader;") (List.mem_of_getElem? (i := 2) rfl)) (fun _ h9 => h9) rfl dX6_learn_6 (fun b2 kb2 => ?_)
  refine he_callr (va_runV (As := []) (rest := [.int p1, .ref b1]) ⟨hx, hb, hml, hown, hts⟩ (e_X1_contents l dC dI dA κ B g b2 kb2) (cwV 0 hts gX6_learn_X1_contents rfl rfl rfl (by decide +kernel) ⟨Nat.le_of_ble_eq_true rfl, Nat.le_of_ble_eq_true rfl⟩) (he_preV (q := (RX1, TX1, 2)) [] hK hN hW hJ kb2 rfl rfl) rfl rfl hl.1 rfl (lv_room (Nat.le_of_ble_eq_true rfl)) dX6_learn_9 ⟨Nat.zero_le _, Nat.zero_le _⟩) hJ (fun b4 g3 H locs kb4 hp hJ => ?_)
  obtain ⟨rfl, f6⟩ := hp
  obtain ⟨c5, hc5, ec5⟩ : ∃ c5 : Nat, c5 < 13 ∧ (g 3 0) = 320 + (c5 : Int) := ⟨((g 3 0) - 320).toNat, by omega, by omega⟩
  have kb4 : κ b4 = 320 + c5 := by rw [kb4]; omega
  refine he_calli (va_runV (As := [.int p1, .ref b4]) (rest := []) ⟨hx, hb, hml, hown, hts⟩ (e_X3_find l dC dI dA κ B g (c5) (by omega) b1 kb1 p1 b4 kb4) (cwV 2 hts gX6_learn_X3_find rfl rfl rfl (by decide +kernel) ⟨Nat.le_of_ble_eq_true rfl, Nat.le_of_ble_eq_true rfl⟩) (he_preV (q := (RX3, TX3, 2)) [.int p1, .ref b4] hK hN hW hJ kb1 rfl rfl) rfl rfl hl.1 rfl (lv_room (Nat.le_of_ble_eq_true rfl)) dX6_learn_12 ⟨Nat.zero_le _, Nat.zero_le _⟩) hJ (fun x8 g7 H locs hp hJ => ?_)
  obtain ⟨rfl, f9⟩ := hp
  have hcc : c5 = cq := by omega
  obtain ⟨hn0, hr1, hr2, hr3, hnone, hhit, -⟩ := f9
  rw [hcc] at hnone hhit
  have w8 := hw.2.2.2.2.2.2.2
  refine lv_istore_n (lv' := [(2, .int x8), (0, .ref h0), (1, .int p1)]) hx hb dX6_learn_15 rfl hl (by decide) rfl (fun ls hl => ?_)
  refine lv_aload_n hx hb dX6_learn_16 rfl (lv_at hl 1 rfl) ?_
  refine he_getr (C := RX6) (T := TX6) (N := 12) (ci := 6) (kd := 1) hx hb hts iX6_learn_X6 hown hK hJ k0 rfl rfl 5 (by decide) (hts (.fieldLink RX6 36 "NeighborBook" "reader" "LNeighborBook$FrameReader;") (List.mem_of_getElem? (i := 2) rfl)) (fun _ h9 => h9) rfl dX6_learn_17 (fun b10 kb10 => ?_)
  refine he_calli (va_runV (As := []) (rest := []) ⟨hx, hb, hml, hown, hts⟩ (e_X1_held l dC dI dA κ B g b10 kb10) (cwV 0 hts gX6_learn_X1_held rfl rfl rfl (by decide +kernel) ⟨Nat.le_of_ble_eq_true rfl, Nat.le_of_ble_eq_true rfl⟩) (he_preV (q := (RX1, TX1, 2)) [] hK hN hW hJ kb10 rfl rfl) rfl rfl hl.1 rfl (lv_room (Nat.le_of_ble_eq_true rfl)) dX6_learn_20 ⟨Nat.zero_le _, Nat.zero_le _⟩) hJ (fun x12 g11 H locs hp hJ => ?_)
  obtain ⟨rfl, f13⟩ := hp
  refine hq_if_ne (tgt := 36) hx hb dX6_learn_23 (by decide) (fun c14 => ?_) (fun c14 => ?_)
  · have h31 : g 3 1 ≠ 0 := by omega
    refine lv_iload_n hx hb dX6_learn_36 rfl (lv_at hl 0 rfl) ?_
    refine hq_iconst hx hb dX6_learn_37 (by decide) (by decide) (fun z15 ez15 => ?_)
    refine hq_icmp_ne (tgt := 70) hx hb dX6_learn_38 (by decide) (fun c16 => ?_) (fun c16 => ?_)
    · refine lv_aload_n hx hb dX6_learn_70 rfl (lv_at hl 1 rfl) ?_
      refine he_getr (C := RX6) (T := TX6) (N := 12) (ci := 6) (kd := 1) hx hb hts iX6_learn_X6 hown hK hJ k0 rfl rfl 4 (by decide) (hts (.fieldLink RX6 29 "NeighborBook" "known" "LNeighborBook$Neighbors;") (List.mem_of_getElem? (i := 1) rfl)) (fun _ h9 => h9) rfl dX6_learn_71 (fun b17 kb17 => ?_)
      refine lv_iload_n hx hb dX6_learn_74 rfl (lv_at hl 0 rfl) ?_
      refine he_callr (va_runV (As := [.int x8]) (rest := []) ⟨hx, hb, hml, hown, hts⟩ (e_X3_at l dC dI dA κ B g b17 kb17 x8 (by omega) (by omega)) (cwV 1 hts gX6_learn_X3_at rfl rfl rfl (by decide +kernel) ⟨Nat.le_of_ble_eq_true rfl, Nat.le_of_ble_eq_true rfl⟩) (he_preV (q := (RX3, TX3, 2)) [.int x8] hK hN hW hJ kb17 rfl rfl) rfl rfl hl.1 rfl (lv_room (Nat.le_of_ble_eq_true rfl)) dX6_learn_75 ⟨Nat.zero_le _, Nat.zero_le _⟩) hJ (fun b19 g18 H locs kb19 hp hJ => ?_)
      obtain ⟨rfl, f21⟩ := hp
      obtain ⟨j20, hj20, ej20⟩ : ∃ j20 : Nat, j20 < 12 ∧ (g 16 x8.toInt.toNat) = 300 + (j20 : Int) := ⟨((g 16 x8.toInt.toNat) - 300).toNat, by omega, by omega⟩
      have kb19 : κ b19 = 300 + j20 := by rw [kb19]; omega
      refine lv_aload_n hx hb dX6_learn_78 rfl (lv_at hl 1 rfl) ?_
      refine he_getr (C := RX6) (T := TX6) (N := 12) (ci := 6) (kd := 1) hx hb hts iX6_learn_X6 hown hK hJ k0 rfl rfl 5 (by decide) (hts (.fieldLink RX6 36 "NeighborBook" "reader" "LNeighborBook$FrameReader;") (List.mem_of_getElem? (i := 2) rfl)) (fun _ h9 => h9) rfl dX6_learn_79 (fun b22 kb22 => ?_)
      refine he_callr (va_runV (As := []) (rest := [.ref b19]) ⟨hx, hb, hml, hown, hts⟩ (e_X1_contents l dC dI dA κ B g b22 kb22) (cwV 0 hts gX6_learn_X1_contents rfl rfl rfl (by decide +kernel) ⟨Nat.le_of_ble_eq_true rfl, Nat.le_of_ble_eq_true rfl⟩) (he_preV (q := (RX1, TX1, 2)) [] hK hN hW hJ kb22 rfl rfl) rfl rfl hl.1 rfl (lv_room (Nat.le_of_ble_eq_true rfl)) dX6_learn_82 ⟨Nat.zero_le _, Nat.zero_le _⟩) hJ (fun b24 g23 H locs kb24 hp hJ => ?_)
      obtain ⟨rfl, f26⟩ := hp
      obtain ⟨c25, hc25, ec25⟩ : ∃ c25 : Nat, c25 < 13 ∧ (g 3 0) = 320 + (c25 : Int) := ⟨((g 3 0) - 320).toNat, by omega, by omega⟩
      have kb24 : κ b24 = 320 + c25 := by rw [kb24]; omega
      have e3c : g 3 0 = 320 + (cq : Int) := by omega
      have hcc2 : c25 = cq := by omega
      refine lv_aload_n hx hb dX6_learn_85 rfl (lv_at hl 1 rfl) ?_
      refine he_getr (C := RX6) (T := TX6) (N := 12) (ci := 6) (kd := 1) hx hb hts iX6_learn_X6 hown hK hJ k0 rfl rfl 5 (by decide) (hts (.fieldLink RX6 36 "NeighborBook" "reader" "LNeighborBook$FrameReader;") (List.mem_of_getElem? (i := 2) rfl)) (fun _ h9 => h9) rfl dX6_learn_86 (fun b27 kb27 => ?_)
      refine he_calli (va_runV (As := []) (rest := [.ref b24, .ref b19]) ⟨hx, hb, hml, hown, hts⟩ (e_X1_held l dC dI dA κ B g b27 kb27) (cwV 0 hts gX6_learn_X1_held rfl rfl rfl (by decide +kernel) ⟨Nat.le_of_ble_eq_true rfl, Nat.le_of_ble_eq_true rfl⟩) (he_preV (q := (RX1, TX1, 2)) [] hK hN hW hJ kb27 rfl rfl) rfl rfl hl.1 rfl (lv_room (Nat.le_of_ble_eq_true rfl)) dX6_learn_89 ⟨Nat.zero_le _, Nat.zero_le _⟩) hJ (fun x29 g28 H locs hp hJ => ?_)
      obtain ⟨rfl, f30⟩ := hp
      have hh1 : x29.toInt = g 3 1 := by omega
      have hh2 : x29.toInt ≠ 0 := by rw [hh1]; exact h31
      refine he_callr (va_runV (As := [.ref b24, .int x29]) (rest := []) ⟨hx, hb, hml, hown, hts⟩ (e_X2_renew l dC dI dA κ B g (j20) (by omega) (c25) (by omega) b19 kb19 b24 kb24 x29) (cwV 2 hts gX6_learn_X2_renew rfl rfl rfl (by decide +kernel) ⟨Nat.le_of_ble_eq_true rfl, Nat.le_of_ble_eq_true rfl⟩) (he_preV (q := (RX2, TX2, 4)) [.ref b24, .int x29] hK hN hW hJ kb19 (hk_t300 (by omega)) rfl) rfl rfl hl.1 rfl (lv_room (Nat.le_of_ble_eq_true rfl)) dX6_learn_92 ⟨Nat.zero_le _, Nat.zero_le _⟩) hJ (fun b32 g31 H locs kb32 hp hJ => ?_)
      obtain ⟨P35a, f34⟩ := hp
      have P35 : hg_Q (fun a b => (a = 10 ∧ b = 1) ∨ a = 16 ∨ (300 ≤ a ∧ a < 312) ∨ (a = 3 ∧ b = 0) ∨ (5 ≤ a ∧ a < 9 ∧ b ≠ 0)) g g31 := (hg_Q.le P35a (fun a b h9 => by have h9 : a = 300 + j20 ∧ b ≠ 1 := h9; show (a = 10 ∧ b = 1) ∨ a = 16 ∨ (300 ≤ a ∧ a < 312) ∨ (a = 3 ∧ b = 0) ∨ (5 ≤ a ∧ a < 9 ∧ b ≠ 0); omega))
      have qt36 : g31 3 0 = g 3 0 := P35a 3 0 (show ¬ (3 = 300 + j20 ∧ 0 ≠ 1) from by omega)
      have qt37 : g31 3 1 = g 3 1 := P35a 3 1 (show ¬ (3 = 300 + j20 ∧ 1 ≠ 1) from by omega)
      have qt38 : g31 10 1 = g 10 1 := P35a 10 1 (show ¬ (10 = 300 + j20 ∧ 1 ≠ 1) from by omega)
      obtain ⟨c33, hc33, ec33⟩ : ∃ c33 : Nat, c33 < 13 ∧ (g (300 + j20) 0) = 320 + (c33 : Int) := ⟨((g (300 + j20) 0) - 320).toNat, by omega, by omega⟩
      have kb32 : κ b32 = 320 + c33 := by rw [kb32]; omega
      refine lv_astore_n (lv' := [(3, .ref b32), (2, .int x8), (0, .ref h0), (1, .int p1)]) hx hb dX6_learn_95 rfl hl (by decide) rfl (fun ls hl => ?_)
      refine lv_aload_n hx hb dX6_learn_96 rfl (lv_at hl 2 rfl) ?_
      refine he_getr (C := RX6) (T := TX6) (N := 12) (ci := 6) (kd := 1) hx hb hts iX6_learn_X6 hown hK hJ k0 rfl rfl 5 (by decide) (hts (.fieldLink RX6 36 "NeighborBook" "reader" "LNeighborBook$FrameReader;") (List.mem_of_getElem? (i := 2) rfl)) (fun _ h9 => h9) rfl dX6_learn_97 (fun b39 kb39 => ?_)
      refine lv_aload_n hx hb dX6_learn_100 rfl (lv_at hl 0 rfl) ?_
      refine he_callv (va_runV (As := [.ref b32]) (rest := []) ⟨hx, hb, hml, hown, hts⟩ (e_X1_useNext l dC dI dA κ B g31 (c33) (by omega) b39 kb39 b32 kb32) (cwV 1 hts gX6_learn_X1_useNext rfl rfl rfl (by decide +kernel) ⟨Nat.le_of_ble_eq_true rfl, Nat.le_of_ble_eq_true rfl⟩) (he_preV (q := (RX1, TX1, 2)) [.ref b32] hK hN hW hJ kb39 rfl rfl) rfl rfl hl.1 rfl (lv_room (Nat.le_of_ble_eq_true rfl)) dX6_learn_101 ⟨Nat.zero_le _, Nat.zero_le _⟩) hJ (fun g40 H locs hp hJ => ?_)
      obtain ⟨P42a, f41⟩ := hp
      have P42 : hg_Q (fun a b => (a = 10 ∧ b = 1) ∨ a = 16 ∨ (300 ≤ a ∧ a < 312) ∨ (a = 3 ∧ b = 0) ∨ (5 ≤ a ∧ a < 9 ∧ b ≠ 0)) g g40 := hg_Q.tr P35 (hg_Q.le P42a (fun a b h9 => by have h9 : a = 3 ∧ b = 0 := h9; show (a = 10 ∧ b = 1) ∨ a = 16 ∨ (300 ≤ a ∧ a < 312) ∨ (a = 3 ∧ b = 0) ∨ (5 ≤ a ∧ a < 9 ∧ b ≠ 0); omega))
      have qt43 : g40 3 1 = g31 3 1 := P42a 3 1 (show ¬ (3 = 3 ∧ 1 = 0) from by omega)
      have qt44 : g40 10 1 = g31 10 1 := P42a 10 1 (show ¬ (10 = 3 ∧ 1 = 0) from by omega)
      have hLN : hc_wf g40 ∧ hr_LN (hc_tab g) (hc_tab g40) p1.toInt (hc_con g cq) (g 3 1) := hc_ln1 (p := p1.toInt) (v := x8.toInt.toNat) (c := cq) hw (by omega) ej20 hj20 ec33 (by omega) (hhit (by omega)) (by omega) (by omega) (fun a b h9 => P35a a b h9) (fun a b h9 => P42a a b h9) (by rw [f34.1]; omega) f34.2.1 f34.2.2.1 f41
      refine hq_iconst hx hb dX6_learn_104 (by decide) (by decide) (fun z45 ez45 => ?_)
      exact he_iret hx hb hK hN hW hlocks hJ hr ⟨P42, hLN.1, hLN.2, by omega, by omega⟩ dX6_learn_105
    · refine lv_aload_n hx hb dX6_learn_41 rfl (lv_at hl 1 rfl) ?_
      refine he_getr (C := RX6) (T := TX6) (N := 12) (ci := 6) (kd := 1) hx hb hts iX6_learn_X6 hown hK hJ k0 rfl rfl 4 (by decide) (hts (.fieldLink RX6 29 "NeighborBook" "known" "LNeighborBook$Neighbors;") (List.mem_of_getElem? (i := 1) rfl)) (fun _ h9 => h9) rfl dX6_learn_42 (fun b46 kb46 => ?_)
      refine lv_iload_n hx hb dX6_learn_45 rfl (lv_at hl 2 rfl) ?_
      refine he_calli (va_runV (As := [.int p1]) (rest := []) ⟨hx, hb, hml, hown, hts⟩ (e_X3_add l dC dI dA κ B g b46 kb46 p1 (by omega) (by omega)) (cwV 1 hts gX6_learn_X3_add rfl rfl rfl (by decide +kernel) ⟨Nat.le_of_ble_eq_true rfl, Nat.le_of_ble_eq_true rfl⟩) (he_preV (q := (RX3, TX3, 2)) [.int p1] hK hN hW hJ kb46 rfl rfl) rfl rfl hl.1 rfl (lv_room (Nat.le_of_ble_eq_true rfl)) dX6_learn_46 ⟨Nat.zero_le _, Nat.zero_le _⟩) hJ (fun x48 g47 H locs hp hJ => ?_)
      obtain ⟨P50a, f49⟩ := hp
      have P50 : hg_Q (fun a b => (a = 10 ∧ b = 1) ∨ a = 16 ∨ (300 ≤ a ∧ a < 312) ∨ (a = 3 ∧ b = 0) ∨ (5 ≤ a ∧ a < 9 ∧ b ≠ 0)) g g47 := (hg_Q.le P50a (fun a b h9 => by have h9 : (a = 10 ∧ b = 1) ∨ (300 ≤ a ∧ a < 312 ∧ (b = 1 ∨ b = 3)) := h9; show (a = 10 ∧ b = 1) ∨ a = 16 ∨ (300 ≤ a ∧ a < 312) ∨ (a = 3 ∧ b = 0) ∨ (5 ≤ a ∧ a < 9 ∧ b ≠ 0); omega))
      have qt51 : g47 3 0 = g 3 0 := P50a 3 0 (show ¬ ((3 = 10 ∧ 0 = 1) ∨ (300 ≤ 3 ∧ 3 < 312 ∧ (0 = 1 ∨ 0 = 3))) from by omega)
      have qt52 : g47 3 1 = g 3 1 := P50a 3 1 (show ¬ ((3 = 10 ∧ 1 = 1) ∨ (300 ≤ 3 ∧ 3 < 312 ∧ (1 = 1 ∨ 1 = 3))) from by omega)
      refine lv_istore_n (lv' := [(2, .int x48), (0, .ref h0), (1, .int p1)]) hx hb dX6_learn_49 rfl hl (by decide) rfl (fun ls hl => ?_)
      refine lv_iload_n hx hb dX6_learn_50 rfl (lv_at hl 0 rfl) ?_
      refine hq_iconst hx hb dX6_learn_51 (by decide) (by decide) (fun z53 ez53 => ?_)
      refine hq_icmp_ne (tgt := 57) hx hb dX6_learn_52 (by decide) (fun c54 => ?_) (fun c54 => ?_)
      · obtain ⟨a1, a2, a3, ja, a4, a5, a6, a7, a8⟩ := (f49.2.2).resolve_right (fun h9 => by have := h9.2.1; omega)
        have av : ((x48.toInt.toNat : Nat) : Int) = g 10 1 := by omega
        have hnn := hnone (by omega)
        have hp9 : 5 ≤ 5 + p1.toInt.toNat ∧ 5 + p1.toInt.toNat < 9 := by omega
        have n10 : 10 ≠ 5 + p1.toInt.toNat := by omega
        have n3j : 300 + ja ≠ 5 + p1.toInt.toNat := by omega
        refine lv_aload_n hx hb dX6_learn_57 rfl (lv_at hl 1 rfl) ?_
        refine he_getr (C := RX6) (T := TX6) (N := 12) (ci := 6) (kd := 1) hx hb hts iX6_learn_X6 hown hK hJ k0 rfl rfl 3 (by decide) (hts (.fieldLink RX6 22 "NeighborBook" "ports" "[LNeighborBook$Port;") (List.mem_of_getElem? (i := 3) rfl)) (fun _ h9 => h9) rfl dX6_learn_58 (fun b55 kb55 => ?_)
        refine lv_iload_n hx hb dX6_learn_61 rfl (lv_at hl 2 rfl) ?_
        refine he_aald3 (kd := 15) (n := 4) hx hb hK hJ kb55 rfl (by omega) (by omega) (he_s15 (by omega)) dX6_learn_62 (fun b56 kb56 => ?_)
        refine lv_aload_n hx hb dX6_learn_63 rfl (lv_at hl 1 rfl) ?_
        refine he_geti (C := RX6) (T := TX6) (N := 12) (ci := 6) (kd := 1) hx hb hts iX6_learn_X6 hown hK hJ k0 rfl rfl 9 (by decide) (hts (.fieldLink RX6 54 "NeighborBook" "quick" "I") (List.mem_of_getElem? (i := 4) rfl)) (fun _ h9 => h9) rfl rfl dX6_learn_64 (fun x57 ex57 => ?_)
        refine he_callv (va_runV (As := [.int x57]) (rest := []) ⟨hx, hb, hml, hown, hts⟩ (e_X4_greet l dC dI dA κ B g47 (p1.toInt.toNat) (by omega) b56 kb56 x57) (cwV 1 hts gX6_learn_X4_greet rfl rfl rfl (by decide +kernel) ⟨Nat.le_of_ble_eq_true rfl, Nat.le_of_ble_eq_true rfl⟩) (he_preV (q := (RX4, TX4, 6)) [.int x57] hK hN hW hJ kb56 (hk_t5 (by omega)) rfl) rfl rfl hl.1 rfl (lv_room (Nat.le_of_ble_eq_true rfl)) dX6_learn_67 ⟨Nat.zero_le _, Nat.zero_le _⟩) hJ (fun g58 H locs hp hJ => ?_)
        have P60a := hp
        have P60 : hg_Q (fun a b => (a = 10 ∧ b = 1) ∨ a = 16 ∨ (300 ≤ a ∧ a < 312) ∨ (a = 3 ∧ b = 0) ∨ (5 ≤ a ∧ a < 9 ∧ b ≠ 0)) g g58 := hg_Q.tr P50 (hg_Q.le P60a (fun a b h9 => by have h9 : a = 5 + p1.toInt.toNat ∧ b ≠ 0 := h9; show (a = 10 ∧ b = 1) ∨ a = 16 ∨ (300 ≤ a ∧ a < 312) ∨ (a = 3 ∧ b = 0) ∨ (5 ≤ a ∧ a < 9 ∧ b ≠ 0); omega))
        have qt61 : g58 3 0 = g47 3 0 := P60a 3 0 (show ¬ (3 = 5 + p1.toInt.toNat ∧ 0 ≠ 0) from by omega)
        have qt62 : g58 3 1 = g47 3 1 := P60a 3 1 (show ¬ (3 = 5 + p1.toInt.toNat ∧ 1 ≠ 0) from by omega)
        have qt63 : g58 10 1 = g47 10 1 := P60a 10 1 (show ¬ (10 = 5 + p1.toInt.toNat ∧ 1 ≠ 0) from by omega)
        refine lv_aload_n hx hb dX6_learn_70 rfl (lv_at hl 1 rfl) ?_
        refine he_getr (C := RX6) (T := TX6) (N := 12) (ci := 6) (kd := 1) hx hb hts iX6_learn_X6 hown hK hJ k0 rfl rfl 4 (by decide) (hts (.fieldLink RX6 29 "NeighborBook" "known" "LNeighborBook$Neighbors;") (List.mem_of_getElem? (i := 1) rfl)) (fun _ h9 => h9) rfl dX6_learn_71 (fun b64 kb64 => ?_)
        refine lv_iload_n hx hb dX6_learn_74 rfl (lv_at hl 0 rfl) ?_
        refine he_callr (va_runV (As := [.int x48]) (rest := []) ⟨hx, hb, hml, hown, hts⟩ (e_X3_at l dC dI dA κ B g58 b64 kb64 x48 (by omega) (by omega)) (cwV 1 hts gX6_learn_X3_at rfl rfl rfl (by decide +kernel) ⟨Nat.le_of_ble_eq_true rfl, Nat.le_of_ble_eq_true rfl⟩) (he_preV (q := (RX3, TX3, 2)) [.int x48] hK hN hW hJ kb64 rfl rfl) rfl rfl hl.1 rfl (lv_room (Nat.le_of_ble_eq_true rfl)) dX6_learn_75 ⟨Nat.zero_le _, Nat.zero_le _⟩) hJ (fun b66 g65 H locs kb66 hp hJ => ?_)
        obtain ⟨rfl, f68⟩ := hp
        obtain ⟨j67, hj67, ej67⟩ : ∃ j67 : Nat, j67 < 12 ∧ (g58 16 x48.toInt.toNat) = 300 + (j67 : Int) := ⟨((g58 16 x48.toInt.toNat) - 300).toNat, by omega, by omega⟩
        have kb66 : κ b66 = 300 + j67 := by rw [kb66]; omega
        refine lv_aload_n hx hb dX6_learn_78 rfl (lv_at hl 1 rfl) ?_
        refine he_getr (C := RX6) (T := TX6) (N := 12) (ci := 6) (kd := 1) hx hb hts iX6_learn_X6 hown hK hJ k0 rfl rfl 5 (by decide) (hts (.fieldLink RX6 36 "NeighborBook" "reader" "LNeighborBook$FrameReader;") (List.mem_of_getElem? (i := 2) rfl)) (fun _ h9 => h9) rfl dX6_learn_79 (fun b69 kb69 => ?_)
        refine he_callr (va_runV (As := []) (rest := [.ref b66]) ⟨hx, hb, hml, hown, hts⟩ (e_X1_contents l dC dI dA κ B g58 b69 kb69) (cwV 0 hts gX6_learn_X1_contents rfl rfl rfl (by decide +kernel) ⟨Nat.le_of_ble_eq_true rfl, Nat.le_of_ble_eq_true rfl⟩) (he_preV (q := (RX1, TX1, 2)) [] hK hN hW hJ kb69 rfl rfl) rfl rfl hl.1 rfl (lv_room (Nat.le_of_ble_eq_true rfl)) dX6_learn_82 ⟨Nat.zero_le _, Nat.zero_le _⟩) hJ (fun b71 g70 H locs kb71 hp hJ => ?_)
        obtain ⟨rfl, f73⟩ := hp
        obtain ⟨c72, hc72, ec72⟩ : ∃ c72 : Nat, c72 < 13 ∧ (g58 3 0) = 320 + (c72 : Int) := ⟨((g58 3 0) - 320).toNat, by omega, by omega⟩
        have kb71 : κ b71 = 320 + c72 := by rw [kb71]; omega
        have e3c : g58 3 0 = 320 + (cq : Int) := by omega
        have hcc2 : c72 = cq := by omega
        refine lv_aload_n hx hb dX6_learn_85 rfl (lv_at hl 1 rfl) ?_
        refine he_getr (C := RX6) (T := TX6) (N := 12) (ci := 6) (kd := 1) hx hb hts iX6_learn_X6 hown hK hJ k0 rfl rfl 5 (by decide) (hts (.fieldLink RX6 36 "NeighborBook" "reader" "LNeighborBook$FrameReader;") (List.mem_of_getElem? (i := 2) rfl)) (fun _ h9 => h9) rfl dX6_learn_86 (fun b74 kb74 => ?_)
        refine he_calli (va_runV (As := []) (rest := [.ref b71, .ref b66]) ⟨hx, hb, hml, hown, hts⟩ (e_X1_held l dC dI dA κ B g58 b74 kb74) (cwV 0 hts gX6_learn_X1_held rfl rfl rfl (by decide +kernel) ⟨Nat.le_of_ble_eq_true rfl, Nat.le_of_ble_eq_true rfl⟩) (he_preV (q := (RX1, TX1, 2)) [] hK hN hW hJ kb74 rfl rfl) rfl rfl hl.1 rfl (lv_room (Nat.le_of_ble_eq_true rfl)) dX6_learn_89 ⟨Nat.zero_le _, Nat.zero_le _⟩) hJ (fun x76 g75 H locs hp hJ => ?_)
        obtain ⟨rfl, f77⟩ := hp
        have hh1 : x76.toInt = g 3 1 := by omega
        have hh2 : x76.toInt ≠ 0 := by rw [hh1]; exact h31
        refine he_callr (va_runV (As := [.ref b71, .int x76]) (rest := []) ⟨hx, hb, hml, hown, hts⟩ (e_X2_renew l dC dI dA κ B g58 (j67) (by omega) (c72) (by omega) b66 kb66 b71 kb71 x76) (cwV 2 hts gX6_learn_X2_renew rfl rfl rfl (by decide +kernel) ⟨Nat.le_of_ble_eq_true rfl, Nat.le_of_ble_eq_true rfl⟩) (he_preV (q := (RX2, TX2, 4)) [.ref b71, .int x76] hK hN hW hJ kb66 (hk_t300 (by omega)) rfl) rfl rfl hl.1 rfl (lv_room (Nat.le_of_ble_eq_true rfl)) dX6_learn_92 ⟨Nat.zero_le _, Nat.zero_le _⟩) hJ (fun b79 g78 H locs kb79 hp hJ => ?_)
        obtain ⟨P82a, f81⟩ := hp
        have P82 : hg_Q (fun a b => (a = 10 ∧ b = 1) ∨ a = 16 ∨ (300 ≤ a ∧ a < 312) ∨ (a = 3 ∧ b = 0) ∨ (5 ≤ a ∧ a < 9 ∧ b ≠ 0)) g g78 := hg_Q.tr P60 (hg_Q.le P82a (fun a b h9 => by have h9 : a = 300 + j67 ∧ b ≠ 1 := h9; show (a = 10 ∧ b = 1) ∨ a = 16 ∨ (300 ≤ a ∧ a < 312) ∨ (a = 3 ∧ b = 0) ∨ (5 ≤ a ∧ a < 9 ∧ b ≠ 0); omega))
        have qt83 : g78 3 0 = g58 3 0 := P82a 3 0 (show ¬ (3 = 300 + j67 ∧ 0 ≠ 1) from by omega)
        have qt84 : g78 3 1 = g58 3 1 := P82a 3 1 (show ¬ (3 = 300 + j67 ∧ 1 ≠ 1) from by omega)
        have qt85 : g78 10 1 = g58 10 1 := P82a 10 1 (show ¬ (10 = 300 + j67 ∧ 1 ≠ 1) from by omega)
        obtain ⟨c80, hc80, ec80⟩ : ∃ c80 : Nat, c80 < 13 ∧ (g58 (300 + j67) 0) = 320 + (c80 : Int) := ⟨((g58 (300 + j67) 0) - 320).toNat, by omega, by omega⟩
        have kb79 : κ b79 = 320 + c80 := by rw [kb79]; omega
        refine lv_astore_n (lv' := [(3, .ref b79), (2, .int x48), (0, .ref h0), (1, .int p1)]) hx hb dX6_learn_95 rfl hl (by decide) rfl (fun ls hl => ?_)
        refine lv_aload_n hx hb dX6_learn_96 rfl (lv_at hl 2 rfl) ?_
        refine he_getr (C := RX6) (T := TX6) (N := 12) (ci := 6) (kd := 1) hx hb hts iX6_learn_X6 hown hK hJ k0 rfl rfl 5 (by decide) (hts (.fieldLink RX6 36 "NeighborBook" "reader" "LNeighborBook$FrameReader;") (List.mem_of_getElem? (i := 2) rfl)) (fun _ h9 => h9) rfl dX6_learn_97 (fun b86 kb86 => ?_)
        refine lv_aload_n hx hb dX6_learn_100 rfl (lv_at hl 0 rfl) ?_
        refine he_callv (va_runV (As := [.ref b79]) (rest := []) ⟨hx, hb, hml, hown, hts⟩ (e_X1_useNext l dC dI dA κ B g78 (c80) (by omega) b86 kb86 b79 kb79) (cwV 1 hts gX6_learn_X1_useNext rfl rfl rfl (by decide +kernel) ⟨Nat.le_of_ble_eq_true rfl, Nat.le_of_ble_eq_true rfl⟩) (he_preV (q := (RX1, TX1, 2)) [.ref b79] hK hN hW hJ kb86 rfl rfl) rfl rfl hl.1 rfl (lv_room (Nat.le_of_ble_eq_true rfl)) dX6_learn_101 ⟨Nat.zero_le _, Nat.zero_le _⟩) hJ (fun g87 H locs hp hJ => ?_)
        obtain ⟨P89a, f88⟩ := hp
        have P89 : hg_Q (fun a b => (a = 10 ∧ b = 1) ∨ a = 16 ∨ (300 ≤ a ∧ a < 312) ∨ (a = 3 ∧ b = 0) ∨ (5 ≤ a ∧ a < 9 ∧ b ≠ 0)) g g87 := hg_Q.tr P82 (hg_Q.le P89a (fun a b h9 => by have h9 : a = 3 ∧ b = 0 := h9; show (a = 10 ∧ b = 1) ∨ a = 16 ∨ (300 ≤ a ∧ a < 312) ∨ (a = 3 ∧ b = 0) ∨ (5 ≤ a ∧ a < 9 ∧ b ≠ 0); omega))
        have qt90 : g87 3 1 = g78 3 1 := P89a 3 1 (show ¬ (3 = 3 ∧ 1 = 0) from by omega)
        have qt91 : g87 10 1 = g78 10 1 := P89a 10 1 (show ¬ (10 = 3 ∧ 1 = 0) from by omega)
        have hLN : hc_wf g87 ∧ hr_LN (hc_tab g) (hc_tab g87) p1.toInt (hc_con g cq) (g 3 1) := hc_ln2 (p := p1.toInt) (v := x48.toInt.toNat) (c := cq) hw a1 a5 (by rw [P60a 10 1 (fun h8 => absurd h8.1 n10)]; exact a3) (fun a b h9 => by rw [P60a a b (fun h8 => h9 (Or.inr (Or.inr (by rw [h8.1]; exact hp9))))]; exact a8 a b (fun h8 => h9 (h8.elim Or.inl (fun q => Or.inr (Or.inl q))))) (by rw [P60a (300 + ja) 1 (fun h8 => absurd h8.1 n3j)]; exact a6) (by rw [P60a (300 + ja) 3 (fun h8 => absurd h8.1 n3j)]; exact a7) av ej67 hj67 ec80 e3c hnn hh1 hh2 (fun a b h9 => P82a a b h9) (fun a b h9 => P89a a b h9) (by rw [f81.1, hcc2]) f81.2.1 f81.2.2.1 f88
        refine hq_iconst hx hb dX6_learn_104 (by decide) (by decide) (fun z92 ez92 => ?_)
        exact he_iret hx hb hK hN hW hlocks hJ hr ⟨P89, hLN.1, hLN.2, by omega, by omega⟩ dX6_learn_105
      · have hLN5 : hc_wf g47 ∧ hr_LN (hc_tab g) (hc_tab g47) p1.toInt (hc_con g cq) (g 3 1) := by
          rcases f49.2.2 with ⟨h1, h2, -⟩ | ⟨h1, h2, h3⟩
          · exfalso; omega
          · rw [← h3]; exact ⟨hw, Or.inr ⟨by omega, Or.inr ⟨hc_mt_all hn0 (hnone (by omega)), Or.inl ⟨by rw [hc_tab_len]; omega, rfl⟩⟩⟩⟩
        refine hq_iconst hx hb dX6_learn_55 (by decide) (by decide) (fun z93 ez93 => ?_)
        exact he_iret hx hb hK hN hW hlocks hJ hr ⟨P50, hLN5.1, hLN5.2, by omega, by omega⟩ dX6_learn_56
  · refine lv_aload_n hx hb dX6_learn_26 rfl (lv_at hl 1 rfl) ?_
    refine he_getr (C := RX6) (T := TX6) (N := 12) (ci := 6) (kd := 1) hx hb hts iX6_learn_X6 hown hK hJ k0 rfl rfl 4 (by decide) (hts (.fieldLink RX6 29 "NeighborBook" "known" "LNeighborBook$Neighbors;") (List.mem_of_getElem? (i := 1) rfl)) (fun _ h9 => h9) rfl dX6_learn_27 (fun b94 kb94 => ?_)
    refine lv_iload_n hx hb dX6_learn_30 rfl (lv_at hl 0 rfl) ?_
    refine he_callv (va_runV (As := [.int x8]) (rest := []) ⟨hx, hb, hml, hown, hts⟩ (e_X3_forget l dC dI dA κ B g b94 kb94 x8) (cwV 1 hts gX6_learn_X3_forget rfl rfl rfl (by decide +kernel) ⟨Nat.le_of_ble_eq_true rfl, Nat.le_of_ble_eq_true rfl⟩) (he_preV (q := (RX3, TX3, 2)) [.int x8] hK hN hW hJ kb94 rfl rfl) rfl rfl hl.1 rfl (lv_room (Nat.le_of_ble_eq_true rfl)) dX6_learn_31 ⟨Nat.zero_le _, Nat.zero_le _⟩) hJ (fun g95 H locs hp hJ => ?_)
    obtain ⟨P97a, f96⟩ := hp
    have P97 : hg_Q (fun a b => (a = 10 ∧ b = 1) ∨ a = 16 ∨ (300 ≤ a ∧ a < 312) ∨ (a = 3 ∧ b = 0) ∨ (5 ≤ a ∧ a < 9 ∧ b ≠ 0)) g g95 := (hg_Q.le P97a (fun a b h9 => by have h9 : (a = 10 ∧ b = 1) ∨ a = 16 := h9; show (a = 10 ∧ b = 1) ∨ a = 16 ∨ (300 ≤ a ∧ a < 312) ∨ (a = 3 ∧ b = 0) ∨ (5 ≤ a ∧ a < 9 ∧ b ≠ 0); omega))
    have qt98 : g95 3 0 = g 3 0 := P97a 3 0 (show ¬ ((3 = 10 ∧ 0 = 1) ∨ 3 = 16) from by omega)
    have qt99 : g95 3 1 = g 3 1 := P97a 3 1 (show ¬ ((3 = 10 ∧ 1 = 1) ∨ 3 = 16) from by omega)
    have hLN : hc_wf g95 ∧ hr_LN (hc_tab g) (hc_tab g95) p1.toInt (hc_con g cq) (g 3 1) := by
      rcases f96.2.2 with ⟨h1, h2, h3⟩ | ⟨h1, h2⟩
      · obtain ⟨t1, t2⟩ := hc_forget hw (fun a b h9 => P97a a b h9) (by omega) (by omega) h3
        have hlen : x8.toInt.toNat < (hc_tab g).length := by rw [hc_tab_len]; omega
        exact ⟨t2, Or.inl ⟨by omega, Or.inr ⟨_, hlen, hc_mt_at hlen (hhit h1), t1⟩⟩⟩
      · rw [← h2]; exact ⟨hw, Or.inl ⟨by omega, Or.inl ⟨hc_mt_all hn0 (hnone (by omega)), rfl⟩⟩⟩
    refine hq_iconst hx hb dX6_learn_34 (by decide) (by decide) (fun z100 ez100 => ?_)
    exact he_iret hx hb hK hN hW hlocks hJ hr ⟨P97, hLN.1, hLN.2, by omega, by omega⟩ dX6_learn_35
