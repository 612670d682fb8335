theorem iX6_port_X6 : ∀ w ∈ wsX60, w ∈ wsX6_port := fun _ h => List.mem_cons_of_mem _ (List.mem_append_left _ (List.mem_append_left _ (List.mem_append_left _ (List.mem_append_left _ (List.mem_append_left _ (List.mem_append_right _ h))))))
theorem iX6_port_X4 : ∀ w ∈ wsX40, w ∈ wsX6_port := fun _ h => List.mem_cons_of_mem _ (List.mem_append_left _ (List.mem_append_left _ (List.mem_append_left _ (List.mem_append_left _ (List.mem_append_right _ h)))))
theorem iX6_port_X5 : ∀ w ∈ wsX50, w ∈ wsX6_port := fun _ h => List.mem_cons_of_mem _ (List.mem_append_left _ (List.mem_append_left _ (List.mem_append_left _ (List.mem_append_right _ h))))
theorem iX6_port_X0 : ∀ w ∈ wsX00, w ∈ wsX6_port := fun _ h => List.mem_cons_of_mem _ (List.mem_append_left _ (List.mem_append_left _ (List.mem_append_right _ h)))
theorem iX6_port_X3 : ∀ w ∈ wsX30, w ∈ wsX6_port := fun _ h => List.mem_cons_of_mem _ (List.mem_append_left _ (List.mem_append_right _ h))
theorem iX6_port_X2 : ∀ w ∈ wsX20, w ∈ wsX6_port := fun _ h => List.mem_cons_of_mem _ (List.mem_append_right _ h)
set_option maxRecDepth 100000 in
set_option maxHeartbeats 4000000 in
theorem e_X6_port (l : Launch) (dC : Nat → ClassId) (dI : Nat → Nat → Nat) (dA : Nat → ClassId) (κ : Nat → Nat) (B : Nat) (g : Nat → Nat → Int) (h0 : Nat) (k0 : κ h0 = 1) (p1 : Int32) (up : Int32) (hw : hc_wf g) : Met l yX6_port wsX6_port ({ frames := 4, cells := 0, slots := 0, locals := 91 } : Room) (he_Pre dC dI dA κ B g [Value.ref h0, Value.int p1, Value.int up]) (he_Qi dC dI dA κ B (fun r u => hg_Q (fun a b => (5 ≤ a ∧ a < 9) ∨ a = 4 ∨ (a = 10 ∧ b = 1) ∨ a = 16) g u ∧ (((0 ≤ p1.toInt ∧ p1.toInt < 4 ∧ 0 ≤ up.toInt ∧ up.toInt ≤ 1 ∧ g (5 + p1.toInt.toNat) 0 ≠ up.toInt) ∧ up.toInt = 1 ∧ hc_wf u ∧ hc_tab u = hc_tab g ∧ (∀ j : Nat, j < 4 → u (5 + j) 0 = if j = p1.toInt.toNat then up.toInt else g (5 + j) 0)) ∨ ((0 ≤ p1.toInt ∧ p1.toInt < 4 ∧ 0 ≤ up.toInt ∧ up.toInt ≤ 1 ∧ g (5 + p1.toInt.toNat) 0 ≠ up.toInt) ∧ up.toInt = 0 ∧ hc_wf u ∧ hc_tab u = hr_np p1.toInt (hc_tab g) ∧ (∀ j : Nat, j < 4 → u (5 + j) 0 = if j = p1.toInt.toNat then up.toInt else g (5 + j) 0)) ∨ (¬ (0 ≤ p1.toInt ∧ p1.toInt < 4 ∧ 0 ≤ up.toInt ∧ up.toInt ≤ 1 ∧ g (5 + p1.toInt.toNat) 0 ≠ up.toInt) ∧ g = u)))) 0 0 (hp_A B) := by
  refine Met.ofW (cc := cX6_port) (maxL := 3) (ret := (some .int)) (by decide) rfl ?_
  intro p e s m args below meth c s₁ Bd hml hv
  obtain ⟨rfl, hK, hN, hW, hF⟩ := hv
  have hx := Bd.exec
  have hb := Bd.bytes
  have hr := Bd.returns
  have hts := atoms_spec (ws := wsX6_port) Bd.pre
  have hown : s.vm.findClass RX6 = some m.cls := findClass_of_methodNamed Bd.named
  have hlocks := Bd.notSynchronized
  have hJ : he_J dC dI dA κ B g s.heap s.heap [] := ⟨hF, va_S.rf⟩
  have hl := lv_entry ([Value.ref h0, Value.int p1, Value.int up]) (n := 3) (Nat.le_of_ble_eq_true rfl)
  rw [lg_entry_eq]
  generalize (lg_sl ([Value.ref h0, Value.int p1, Value.int up]) ++ List.replicate (3 - (lg_sl ([Value.ref h0, Value.int p1, Value.int up])).length) Slot.unset).toArray = ls at hl ⊢
  have hl : lv_has ls 3 [(0, .ref h0), (1, .int p1), (2, .int up)] := hl
  refine lv_iload_n hx hb dX6_port_0 rfl (lv_at hl 1 rfl) ?_
  refine he_calli (va_runS (As := [.int p1]) (rest := []) ⟨hx, hb, hml, hown, hts⟩ (e_X6_isPort l dC dI dA κ B g p1) (va_cwS 1 hts gX6_port_X6_isPort rfl rfl rfl (by decide +kernel) ⟨Nat.le_of_ble_eq_true rfl, Nat.le_of_ble_eq_true rfl⟩) (he_preS [.int p1] hK hN hW hJ) rfl rfl hl.1 rfl (lv_room (Nat.le_of_ble_eq_true rfl)) dX6_port_1 ⟨Nat.zero_le _, Nat.zero_le _⟩) hJ (fun x2 g1 H locs hp hJ => ?_)
  obtain ⟨rfl, f3⟩ := hp
  refine hq_if_eq (tgt := 38) hx hb dX6_port_4 (by decide) (fun c4 => ?_) (fun c4 => ?_)
  · refine hq_iconst hx hb dX6_port_38 (by decide) (by decide) (fun z5 ez5 => ?_)
    exact he_iret hx hb hK hN hW hlocks hJ hr ⟨hg_Q.rf, Or.inr (Or.inr ⟨by omega, rfl⟩)⟩ dX6_port_39
  · refine lv_iload_n hx hb dX6_port_7 rfl (lv_at hl 2 rfl) ?_
    refine hq_if_lt (tgt := 38) hx hb dX6_port_8 (by decide) (fun c6 => ?_) (fun c6 => ?_)
    · refine hq_iconst hx hb dX6_port_38 (by decide) (by decide) (fun z7 ez7 => ?_)
      exact he_iret hx hb hK hN hW hlocks hJ hr ⟨hg_Q.rf, Or.inr (Or.inr ⟨by omega, rfl⟩)⟩ dX6_port_39
    · refine lv_iload_n hx hb dX6_port_11 rfl (lv_at hl 2 rfl) ?_
      refine hq_iconst hx hb dX6_port_12 (by decide) (by decide) (fun z8 ez8 => ?_)
      refine hq_icmp_gt (tgt := 38) hx hb dX6_port_13 (by decide) (fun c9 => ?_) (fun c9 => ?_)
      · refine hq_iconst hx hb dX6_port_38 (by decide) (by decide) (fun z10 ez10 => ?_)
        exact he_iret hx hb hK hN hW hlocks hJ hr ⟨hg_Q.rf, Or.inr (Or.inr ⟨by omega, rfl⟩)⟩ dX6_port_39
      · refine lv_aload_n hx hb dX6_port_16 rfl (lv_at hl 0 rfl) ?_
        refine he_getr (C := RX6) (T := TX6) (N := 12) (ci := 6) (kd := 1) hx hb hts iX6_port_X6 hown hK hJ k0 rfl rfl 3 (by decide) (hts (.fieldLink RX6 22 "NeighborBook" "ports" "[LNeighborBook$Port;") (List.mem_of_getElem? (i := 1) rfl)) (fun _ h9 => h9) rfl dX6_port_17 (fun b11 kb11 => ?_)
        refine lv_iload_n hx hb dX6_port_20 rfl (lv_at hl 1 rfl) ?_
        refine he_aald3 (kd := 15) (n := 4) hx hb hK hJ kb11 rfl (by omega) (by omega) (he_s15 (by omega)) dX6_port_21 (fun b12 kb12 => ?_)
        refine he_calli (va_runV (As := []) (rest := []) ⟨hx, hb, hml, hown, hts⟩ (e_X4_isUp l dC dI dA κ B g (p1.toInt.toNat) (by omega) b12 kb12) (cwV 0 hts gX6_port_X4_isUp rfl rfl rfl (by decide +kernel) ⟨Nat.le_of_ble_eq_true rfl, Nat.le_of_ble_eq_true rfl⟩) (he_preV (q := (RX4, TX4, 6)) [] hK hN hW hJ kb12 (hk_t5 (by omega)) rfl) rfl rfl hl.1 rfl (lv_room (Nat.le_of_ble_eq_true rfl)) dX6_port_22 ⟨Nat.zero_le _, Nat.zero_le _⟩) hJ (fun x14 g13 H locs hp hJ => ?_)
        obtain ⟨rfl, f15⟩ := hp
        refine lv_iload_n hx hb dX6_port_25 rfl (lv_at hl 2 rfl) ?_
        refine hq_iconst hx hb dX6_port_26 (by decide) (by decide) (fun z16 ez16 => ?_)
        refine hq_icmp_ne (tgt := 34) hx hb dX6_port_27 (by decide) (fun c17 => ?_) (fun c17 => ?_)
        · refine hq_iconst hx hb dX6_port_34 (by decide) (by decide) (fun z18 ez18 => ?_)
          refine hq_icmp_ne (tgt := 40) hx hb dX6_port_35 (by decide) (fun c19 => ?_) (fun c19 => ?_)
          · refine lv_iload_n hx hb dX6_port_40 rfl (lv_at hl 2 rfl) ?_
            refine hq_iconst hx hb dX6_port_41 (by decide) (by decide) (fun z20 ez20 => ?_)
            refine hq_icmp_ne (tgt := 61) hx hb dX6_port_42 (by decide) (fun c21 => ?_) (fun c21 => ?_)
            · refine lv_aload_n hx hb dX6_port_61 rfl (lv_at hl 0 rfl) ?_
              refine he_getr (C := RX6) (T := TX6) (N := 12) (ci := 6) (kd := 1) hx hb hts iX6_port_X6 hown hK hJ k0 rfl rfl 3 (by decide) (hts (.fieldLink RX6 22 "NeighborBook" "ports" "[LNeighborBook$Port;") (List.mem_of_getElem? (i := 1) rfl)) (fun _ h9 => h9) rfl dX6_port_62 (fun b22 kb22 => ?_)
              refine lv_iload_n hx hb dX6_port_65 rfl (lv_at hl 1 rfl) ?_
              refine he_aald3 (kd := 15) (n := 4) hx hb hK hJ kb22 rfl (by omega) (by omega) (he_s15 (by omega)) dX6_port_66 (fun b23 kb23 => ?_)
              refine he_callv (va_runV (As := []) (rest := []) ⟨hx, hb, hml, hown, hts⟩ (e_X4_goDown l dC dI dA κ B g (p1.toInt.toNat) (by omega) b23 kb23) (cwV 0 hts gX6_port_X4_goDown rfl rfl rfl (by decide +kernel) ⟨Nat.le_of_ble_eq_true rfl, Nat.le_of_ble_eq_true rfl⟩) (he_preV (q := (RX4, TX4, 6)) [] hK hN hW hJ kb23 (hk_t5 (by omega)) rfl) rfl rfl hl.1 rfl (lv_room (Nat.le_of_ble_eq_true rfl)) dX6_port_67 ⟨Nat.zero_le _, Nat.zero_le _⟩) hJ (fun g24 H locs hp hJ => ?_)
              obtain ⟨P26a, f25⟩ := hp
              have P26 : hg_Q (fun a b => (5 ≤ a ∧ a < 9) ∨ a = 4 ∨ (a = 10 ∧ b = 1) ∨ a = 16) g g24 := (hg_Q.le P26a (fun a b h9 => by have h9 : a = 5 + p1.toInt.toNat := h9; show (5 ≤ a ∧ a < 9) ∨ a = 4 ∨ (a = 10 ∧ b = 1) ∨ a = 16; omega))
              refine lv_aload_n hx hb dX6_port_70 rfl (lv_at hl 0 rfl) ?_
              refine he_getr (C := RX6) (T := TX6) (N := 12) (ci := 6) (kd := 1) hx hb hts iX6_port_X6 hown hK hJ k0 rfl rfl 6 (by decide) (hts (.fieldLink RX6 43 "NeighborBook" "latest" "LNeighborBook$SentFrame;") (List.mem_of_getElem? (i := 3) rfl)) (fun _ h9 => h9) rfl dX6_port_71 (fun b27 kb27 => ?_)
              refine lv_iload_n hx hb dX6_port_74 rfl (lv_at hl 1 rfl) ?_
              refine lv_aload_n hx hb dX6_port_75 rfl (lv_at hl 0 rfl) ?_
              refine he_getr (C := RX6) (T := TX6) (N := 12) (ci := 6) (kd := 1) hx hb hts iX6_port_X6 hown hK hJ k0 rfl rfl 2 (by decide) (hts (.fieldLink RX6 16 "NeighborBook" "told" "LNeighborBook$Contents;") (List.mem_of_getElem? (i := 4) rfl)) (fun _ h9 => h9) rfl dX6_port_76 (fun b28 kb28 => ?_)
              refine hq_iconst hx hb dX6_port_79 (by decide) (by decide) (fun z29 ez29 => ?_)
              refine he_callv (va_runV (As := [.int p1, .ref b28, .int z29]) (rest := []) ⟨hx, hb, hml, hown, hts⟩ (e_X5_write l dC dI dA κ B g24 (13) (by omega) b27 kb27 p1 b28 kb28 z29) (cwV 3 hts gX6_port_X5_write rfl rfl rfl (by decide +kernel) ⟨Nat.le_of_ble_eq_true rfl, Nat.le_of_ble_eq_true rfl⟩) (he_preV (q := (RX5, TX5, 3)) [.int p1, .ref b28, .int z29] hK hN hW hJ kb27 rfl rfl) rfl rfl hl.1 rfl (lv_room (Nat.le_of_ble_eq_true rfl)) dX6_port_80 ⟨Nat.zero_le _, Nat.zero_le _⟩) hJ (fun g30 H locs hp hJ => ?_)
              have P32a := hp
              have P32 : hg_Q (fun a b => (5 ≤ a ∧ a < 9) ∨ a = 4 ∨ (a = 10 ∧ b = 1) ∨ a = 16) g g30 := hg_Q.tr P26 (hg_Q.le P32a (fun a b h9 => by have h9 : a = 4 := h9; show (5 ≤ a ∧ a < 9) ∨ a = 4 ∨ (a = 10 ∧ b = 1) ∨ a = 16; omega))
              obtain ⟨hT0, hW0⟩ := hc_tab_same (u := g30) hw (fun a b h9 => (P32a a b (fun h8 => by have h8 : a = 4 := h8; unfold hc_f at h9; omega)).trans (P26a a b (fun h8 => by have h8 : a = 5 + p1.toInt.toNat := h8; unfold hc_f at h9; omega)))
              refine lv_aload_n hx hb dX6_port_83 rfl (lv_at hl 0 rfl) ?_
              refine he_getr (C := RX6) (T := TX6) (N := 12) (ci := 6) (kd := 1) hx hb hts iX6_port_X6 hown hK hJ k0 rfl rfl 4 (by decide) (hts (.fieldLink RX6 29 "NeighborBook" "known" "LNeighborBook$Neighbors;") (List.mem_of_getElem? (i := 5) rfl)) (fun _ h9 => h9) rfl dX6_port_84 (fun b33 kb33 => ?_)
              refine lv_iload_n hx hb dX6_port_87 rfl (lv_at hl 1 rfl) ?_
              refine he_callv (va_runV (As := [.int p1]) (rest := []) ⟨hx, hb, hml, hown, hts⟩ (e_X3_forgetAllAt l dC dI dA κ B g30 b33 kb33 p1 hW0) (cwV 1 hts gX6_port_X3_forgetAllAt rfl rfl rfl (by decide +kernel) ⟨Nat.le_of_ble_eq_true rfl, Nat.le_of_ble_eq_true rfl⟩) (he_preV (q := (RX3, TX3, 2)) [.int p1] hK hN hW hJ kb33 rfl rfl) rfl rfl hl.1 rfl (lv_room (Nat.le_of_ble_eq_true rfl)) dX6_port_88 ⟨Nat.zero_le _, Nat.zero_le _⟩) hJ (fun g34 H locs hp hJ => ?_)
              obtain ⟨P36a, f35⟩ := hp
              have P36 : hg_Q (fun a b => (5 ≤ a ∧ a < 9) ∨ a = 4 ∨ (a = 10 ∧ b = 1) ∨ a = 16) g g34 := hg_Q.tr P32 (hg_Q.le P36a (fun a b h9 => by have h9 : (a = 10 ∧ b = 1) ∨ a = 16 := h9; show (5 ≤ a ∧ a < 9) ∨ a = 4 ∨ (a = 10 ∧ b = 1) ∨ a = 16; omega))
              refine hq_iconst hx hb dX6_port_91 (by decide) (by decide) (fun z37 ez37 => ?_)
              exact he_iret hx hb hK hN hW hlocks hJ hr ⟨P36, Or.inr (Or.inl ⟨by omega, by omega, f35.1, by rw [f35.2, hT0], fun j hj => by rw [P36a (5 + j) 0 (fun h8 => by have h8 : (5 + j = 10 ∧ 0 = 1) ∨ 5 + j = 16 := h8; omega), P32a (5 + j) 0 (fun h8 => by have h8 : 5 + j = 4 := h8; omega)]; by_cases h9 : j = p1.toInt.toNat; (rw [if_pos h9, h9, f25]; omega); (rw [if_neg h9]; exact P26a (5 + j) 0 (fun h8 => by have h8 : 5 + j = 5 + p1.toInt.toNat := h8; omega))⟩)⟩ dX6_port_92
            · exfalso; omega
          · refine hq_iconst hx hb dX6_port_38 (by decide) (by decide) (fun z38 ez38 => ?_)
            exact he_iret hx hb hK hN hW hlocks hJ hr ⟨hg_Q.rf, Or.inr (Or.inr ⟨by omega, rfl⟩)⟩ dX6_port_39
        · refine hq_iconst hx hb dX6_port_30 (by decide) (by decide) (fun z39 ez39 => ?_)
          refine lv_goto (tgt := 35) hx hb dX6_port_31 (by decide) ?_
          refine hq_icmp_ne (tgt := 40) hx hb dX6_port_35 (by decide) (fun c40 => ?_) (fun c40 => ?_)
          · refine lv_iload_n hx hb dX6_port_40 rfl (lv_at hl 2 rfl) ?_
            refine hq_iconst hx hb dX6_port_41 (by decide) (by decide) (fun z41 ez41 => ?_)
            refine hq_icmp_ne (tgt := 61) hx hb dX6_port_42 (by decide) (fun c42 => ?_) (fun c42 => ?_)
            · exfalso; omega
            · refine lv_aload_n hx hb dX6_port_45 rfl (lv_at hl 0 rfl) ?_
              refine he_getr (C := RX6) (T := TX6) (N := 12) (ci := 6) (kd := 1) hx hb hts iX6_port_X6 hown hK hJ k0 rfl rfl 3 (by decide) (hts (.fieldLink RX6 22 "NeighborBook" "ports" "[LNeighborBook$Port;") (List.mem_of_getElem? (i := 1) rfl)) (fun _ h9 => h9) rfl dX6_port_46 (fun b43 kb43 => ?_)
              refine lv_iload_n hx hb dX6_port_49 rfl (lv_at hl 1 rfl) ?_
              refine he_aald3 (kd := 15) (n := 4) hx hb hK hJ kb43 rfl (by omega) (by omega) (he_s15 (by omega)) dX6_port_50 (fun b44 kb44 => ?_)
              refine lv_aload_n hx hb dX6_port_51 rfl (lv_at hl 0 rfl) ?_
              refine he_geti (C := RX6) (T := TX6) (N := 12) (ci := 6) (kd := 1) hx hb hts iX6_port_X6 hown hK hJ k0 rfl rfl 9 (by decide) (hts (.fieldLink RX6 54 "NeighborBook" "quick" "I") (List.mem_of_getElem? (i := 2) rfl)) (fun _ h9 => h9) rfl rfl dX6_port_52 (fun x45 ex45 => ?_)
              refine he_callv (va_runV (As := [.int x45]) (rest := []) ⟨hx, hb, hml, hown, hts⟩ (e_X4_goUp l dC dI dA κ B g (p1.toInt.toNat) (by omega) b44 kb44 x45) (cwV 1 hts gX6_port_X4_goUp rfl rfl rfl (by decide +kernel) ⟨Nat.le_of_ble_eq_true rfl, Nat.le_of_ble_eq_true rfl⟩) (he_preV (q := (RX4, TX4, 6)) [.int x45] hK hN hW hJ kb44 (hk_t5 (by omega)) rfl) rfl rfl hl.1 rfl (lv_room (Nat.le_of_ble_eq_true rfl)) dX6_port_55 ⟨Nat.zero_le _, Nat.zero_le _⟩) hJ (fun g46 H locs hp hJ => ?_)
              obtain ⟨P48a, f47⟩ := hp
              have P48 : hg_Q (fun a b => (5 ≤ a ∧ a < 9) ∨ a = 4 ∨ (a = 10 ∧ b = 1) ∨ a = 16) g g46 := (hg_Q.le P48a (fun a b h9 => by have h9 : a = 5 + p1.toInt.toNat := h9; show (5 ≤ a ∧ a < 9) ∨ a = 4 ∨ (a = 10 ∧ b = 1) ∨ a = 16; omega))
              obtain ⟨hT, hB⟩ := hc_tab_same hw (fun a b h9 => P48a a b (fun h8 => by have h8 : a = 5 + p1.toInt.toNat := h8; unfold hc_f at h9; omega))
              refine lv_goto (tgt := 91) hx hb dX6_port_58 (by decide) ?_
              refine hq_iconst hx hb dX6_port_91 (by decide) (by decide) (fun z49 ez49 => ?_)
              exact he_iret hx hb hK hN hW hlocks hJ hr ⟨P48, Or.inl ⟨by omega, by omega, hB, hT, fun j hj => by by_cases h9 : j = p1.toInt.toNat; (rw [if_pos h9, h9, f47]; omega); (rw [if_neg h9]; exact P48a (5 + j) 0 (fun h8 => by have h8 : 5 + j = 5 + p1.toInt.toNat := h8; omega))⟩⟩ dX6_port_92
          · refine hq_iconst hx hb dX6_port_38 (by decide) (by decide) (fun z50 ez50 => ?_)
            exact he_iret hx hb hK hN hW hlocks hJ hr ⟨hg_Q.rf, Or.inr (Or.inr ⟨by omega, rfl⟩)⟩ dX6_port_39
