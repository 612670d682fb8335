theorem iX6_port_X6 : ∀ w ∈ wsX60, w ∈ wsX6_port := fun _ h => List.mem_cons_of_mem _ (List.mem_append_left _ (List.mem_append_left _ (List.mem_append_left _ (List.mem_append_left _ (List.mem_append_left _ (List.mem_append_right _ h))))))
theorem iX6_port_X4 : ∀ w ∈ wsX40, w ∈ wsX6_port := fun _ h => List.mem_cons_of_mem _ (List.mem_append_left _ (List.mem_append_left _ (List.mem_append_left _ (List.mem_append_left _ (List.mem_append_right _ h)))))
theorem iX6_port_X5 : ∀ w ∈ wsX50, w ∈ wsX6_port := fun _ h => List.mem_cons_of_mem _ (List.mem_append_left _ (List.mem_append_left _ (List.mem_append_left _ (List.mem_append_right _ h))))
theorem iX6_port_X0 : ∀ w ∈ wsX00, w ∈ wsX6_port := fun _ h => List.mem_cons_of_mem _ (List.mem_append_left _ (List.mem_append_left _ (List.mem_append_right _ h)))
theorem iX6_port_X3 : ∀ w ∈ wsX30, w ∈ wsX6_port := fun _ h => List.mem_cons_of_mem _ (List.mem_append_left _ (List.mem_append_right _ h))
theorem iX6_port_X2 : ∀ w ∈ wsX20, w ∈ wsX6_port := fun _ h => List.mem_cons_of_mem _ (List.mem_append_right _ h)
set_option maxRecDepth 100000 in
set_option maxHeartbeats 4000000 in
theorem c_X6_port (l : Launch) (dC : Nat → ClassId) (dI : Nat → Nat → Nat) (dA : Nat → ClassId) (κ : Nat → Nat) (B : Nat) (g : Nat → Nat → Int) (h0 : Nat) (k0 : κ h0 = 1) (p1 : Int32) (up : Int32) (hG : hg_k g) : Met l yX6_port wsX6_port ({ frames := 4, cells := 0, slots := 0, locals := 91 } : Room) (hp_Pre dC dI dA κ B g [Value.ref h0, Value.int p1, Value.int up]) (hp_Qi dC dI dA κ B (fun r u => hg_P hx_C g u ∧ hg_k u ∧ u 1 1 = g 1 1 ∧ (((0 ≤ p1.toInt ∧ p1.toInt < 4 ∧ 0 ≤ up.toInt ∧ up.toInt ≤ 1 ∧ g (5 + p1.toInt.toNat) 0 ≠ up.toInt) ∧ r.toInt = 1 ∧ ∀ j : Nat, j < 4 → u (5 + j) 0 = if j = p1.toInt.toNat then up.toInt else g (5 + j) 0) ∨ (¬ (0 ≤ p1.toInt ∧ p1.toInt < 4 ∧ 0 ≤ up.toInt ∧ up.toInt ≤ 1 ∧ g (5 + p1.toInt.toNat) 0 ≠ up.toInt) ∧ r.toInt = 0 ∧ g = u)))) 0 0 (hp_A B) := by
  refine Met.ofW (cc := cX6_port) (maxL := 3) (ret := (some .int)) (by decide) rfl ?_
  intro p e s m args below meth c s₁ Bd hml hv
  obtain ⟨rfl, hK, hN, hW, hF⟩ := hv
  have hx := Bd.exec
  have hb := Bd.bytes
  have hr := Bd.returns
  have hts := atoms_spec (ws := wsX6_port) Bd.pre
  have hown : s.vm.findClass RX6 = some m.cls := findClass_of_methodNamed Bd.named
  have hlocks := Bd.notSynchronized
  have hJ : hp_J dC dI dA κ B g s.heap s.heap [] := ⟨hF, va_S.rf⟩
  have hl := lv_entry ([Value.ref h0, Value.int p1, Value.int up]) (n := 3) (Nat.le_of_ble_eq_true rfl)
  rw [lg_entry_eq]
  generalize (lg_sl ([Value.ref h0, Value.int p1, Value.int up]) ++ List.replicate (3 - (lg_sl ([Value.ref h0, Value.int p1, Value.int up])).length) Slot.unset).toArray = ls at hl ⊢
  have hl : lv_has ls 3 [(0, .ref h0), (1, .int p1), (2, .int up)] := hl
  obtain ⟨hG1, hG2, hG3, hG4, hG5, hG6, hG7, hG8⟩ := id hG
  refine lv_iload_n hx hb dX6_port_0 rfl (lv_at hl 1 rfl) ?_
  refine hp_calli (va_runS (As := [.int p1]) (rest := []) ⟨hx, hb, hml, hown, hts⟩ (c_X6_isPort l dC dI dA κ B g p1) (va_cwS 1 hts gX6_port_X6_isPort rfl rfl rfl (by decide +kernel) ⟨Nat.le_of_ble_eq_true rfl, Nat.le_of_ble_eq_true rfl⟩) (hp_preS [.int p1] hK hN hW hJ) rfl rfl hl.1 rfl (lv_room (Nat.le_of_ble_eq_true rfl)) dX6_port_1 ⟨Nat.zero_le _, Nat.zero_le _⟩) hJ (fun x2 g1 H locs hp hJ => ?_)
  obtain ⟨rfl, f3⟩ := hp
  refine hq_if_eq (tgt := 38) hx hb dX6_port_4 (by decide) (fun c4 => ?_) (fun c4 => ?_)
  · refine hq_iconst hx hb dX6_port_38 (by decide) (by decide) (fun z5 ez5 => ?_)
    exact hp_iret hx hb hK hN hW hlocks hJ hr (by first | exact ⟨hg_P.rf, hG, by omega, Or.inr ⟨by omega, by omega, rfl⟩⟩ | exact ⟨hg_P.rf, hG, by omega, Or.inl ⟨by omega, by omega, fun j hj => by rw [(fun _ _ => rfl) j hj]; split <;> omega⟩⟩) dX6_port_39
  · refine lv_iload_n hx hb dX6_port_7 rfl (lv_at hl 2 rfl) ?_
    refine hq_if_lt (tgt := 38) hx hb dX6_port_8 (by decide) (fun c6 => ?_) (fun c6 => ?_)
    · refine hq_iconst hx hb dX6_port_38 (by decide) (by decide) (fun z7 ez7 => ?_)
      exact hp_iret hx hb hK hN hW hlocks hJ hr (by first | exact ⟨hg_P.rf, hG, by omega, Or.inr ⟨by omega, by omega, rfl⟩⟩ | exact ⟨hg_P.rf, hG, by omega, Or.inl ⟨by omega, by omega, fun j hj => by rw [(fun _ _ => rfl) j hj]; split <;> omega⟩⟩) dX6_port_39
    · refine lv_iload_n hx hb dX6_port_11 rfl (lv_at hl 2 rfl) ?_
      refine hq_iconst hx hb dX6_port_12 (by decide) (by decide) (fun z8 ez8 => ?_)
      refine hq_icmp_gt (tgt := 38) hx hb dX6_port_13 (by decide) (fun c9 => ?_) (fun c9 => ?_)
      · refine hq_iconst hx hb dX6_port_38 (by decide) (by decide) (fun z10 ez10 => ?_)
        exact hp_iret hx hb hK hN hW hlocks hJ hr (by first | exact ⟨hg_P.rf, hG, by omega, Or.inr ⟨by omega, by omega, rfl⟩⟩ | exact ⟨hg_P.rf, hG, by omega, Or.inl ⟨by omega, by omega, fun j hj => by rw [(fun _ _ => rfl) j hj]; split <;> omega⟩⟩) dX6_port_39
      · refine lv_aload_n hx hb dX6_port_16 rfl (lv_at hl 0 rfl) ?_
        refine hp_getr (C := RX6) (T := TX6) (N := 12) (ci := 6) (kd := 1) hx hb hts iX6_port_X6 hown hK hJ k0 rfl rfl 3 (by decide) (hts (.fieldLink RX6 22 "NeighborBook" "ports" "[LNeighborBook$Port;") (List.mem_of_getElem? (i := 1) rfl)) (fun _ h9 => h9) rfl dX6_port_17 (fun b11 kb11 => ?_)
        refine lv_iload_n hx hb dX6_port_20 rfl (lv_at hl 1 rfl) ?_
        refine hp_aald3 (kd := 15) (n := 4) hx hb hK hJ kb11 rfl (by omega) (by omega) (hk_s15 (by omega)) dX6_port_21 (fun b12 kb12 => ?_)
        refine hp_calli (va_runV (As := []) (rest := []) ⟨hx, hb, hml, hown, hts⟩ (c_X4_isUp l dC dI dA κ B g (p1.toInt.toNat) (by omega : p1.toInt.toNat < 4) b12 kb12 hG) (cwV 0 hts gX6_port_X4_isUp rfl rfl rfl (by decide +kernel) ⟨Nat.le_of_ble_eq_true rfl, Nat.le_of_ble_eq_true rfl⟩) (hp_preV (q := (RX4, TX4, 6)) [] hK hN hW hJ kb12 (hk_t5 (by omega : p1.toInt.toNat < 4)) rfl) rfl rfl hl.1 rfl (lv_room (Nat.le_of_ble_eq_true rfl)) dX6_port_22 ⟨Nat.zero_le _, Nat.zero_le _⟩) hJ (fun x14 g13 H locs hp hJ => ?_)
        obtain ⟨rfl, f15⟩ := hp
        refine lv_iload_n hx hb dX6_port_25 rfl (lv_at hl 2 rfl) ?_
        refine hq_iconst hx hb dX6_port_26 (by decide) (by decide) (fun z16 ez16 => ?_)
        refine hq_icmp_ne (tgt := 34) hx hb dX6_port_27 (by decide) (fun c17 => ?_) (fun c17 => ?_)
        · refine hq_iconst hx hb dX6_port_34 (by decide) (by decide) (fun z18 ez18 => ?_)
          refine hq_icmp_ne (tgt := 40) hx hb dX6_port_35 (by decide) (fun c19 => ?_) (fun c19 => ?_)
          · refine lv_iload_n hx hb dX6_port_40 rfl (lv_at hl 2 rfl) ?_
            refine hq_iconst hx hb dX6_port_41 (by decide) (by decide) (fun z20 ez20 => ?_)
            refine hq_icmp_ne (tgt := 61) hx hb dX6_port_42 (by decide) (fun c21 => ?_) (fun c21 => ?_)
            · refine lv_aload_n hx hb dX6_port_61 rfl (lv_at hl 0 rfl) ?_
              refine hp_getr (C := RX6) (T := TX6) (N := 12) (ci := 6) (kd := 1) hx hb hts iX6_port_X6 hown hK hJ k0 rfl rfl 3 (by decide) (hts (.fieldLink RX6 22 "NeighborBook" "ports" "[LNeighborBook$Port;") (List.mem_of_getElem? (i := 1) rfl)) (fun _ h9 => h9) rfl dX6_port_62 (fun b22 kb22 => ?_)
              refine lv_iload_n hx hb dX6_port_65 rfl (lv_at hl 1 rfl) ?_
              refine hp_aald3 (kd := 15) (n := 4) hx hb hK hJ kb22 rfl (by omega) (by omega) (hk_s15 (by omega)) dX6_port_66 (fun b23 kb23 => ?_)
              refine hp_callv (va_runV (As := []) (rest := []) ⟨hx, hb, hml, hown, hts⟩ (c_X4_goDown l dC dI dA κ B g (p1.toInt.toNat) (by omega : p1.toInt.toNat < 4) b23 kb23 hG) (cwV 0 hts gX6_port_X4_goDown rfl rfl rfl (by decide +kernel) ⟨Nat.le_of_ble_eq_true rfl, Nat.le_of_ble_eq_true rfl⟩) (hp_preV (q := (RX4, TX4, 6)) [] hK hN hW hJ kb23 (hk_t5 (by omega : p1.toInt.toNat < 4)) rfl) rfl rfl hl.1 rfl (lv_room (Nat.le_of_ble_eq_true rfl)) dX6_port_67 ⟨Nat.zero_le _, Nat.zero_le _⟩) hJ (fun g24 H locs hp hJ => ?_)
              obtain ⟨P26a, K27, f25⟩ := hp
              obtain ⟨K271, K272, K273, K274, K275, K276, K277, K278⟩ := id K27
              have P26 : hg_P hx_C g g24 := P26a
              have up28 : ∀ j : Nat, j < 4 → g24 (5 + j) 0 = if j = p1.toInt.toNat then 0 else g (5 + j) 0 := f25.2
              have tup28 := f25.1
              refine lv_aload_n hx hb dX6_port_70 rfl (lv_at hl 0 rfl) ?_
              refine hp_getr (C := RX6) (T := TX6) (N := 12) (ci := 6) (kd := 1) hx hb hts iX6_port_X6 hown hK hJ k0 rfl rfl 6 (by decide) (hts (.fieldLink RX6 43 "NeighborBook" "latest" "LNeighborBook$SentFrame;") (List.mem_of_getElem? (i := 3) rfl)) (fun _ h9 => h9) rfl dX6_port_71 (fun b29 kb29 => ?_)
              refine lv_iload_n hx hb dX6_port_74 rfl (lv_at hl 1 rfl) ?_
              refine lv_aload_n hx hb dX6_port_75 rfl (lv_at hl 0 rfl) ?_
              refine hp_getr (C := RX6) (T := TX6) (N := 12) (ci := 6) (kd := 1) hx hb hts iX6_port_X6 hown hK hJ k0 rfl rfl 2 (by decide) (hts (.fieldLink RX6 16 "NeighborBook" "told" "LNeighborBook$Contents;") (List.mem_of_getElem? (i := 4) rfl)) (fun _ h9 => h9) rfl dX6_port_76 (fun b30 kb30 => ?_)
              refine hq_iconst hx hb dX6_port_79 (by decide) (by decide) (fun z31 ez31 => ?_)
              refine hp_callv (va_runV (As := [.int p1, .ref b30, .int z31]) (rest := []) ⟨hx, hb, hml, hown, hts⟩ (c_X5_write l dC dI dA κ B g24 b29 kb29 p1 b30 kb30 z31 K27) (cwV 3 hts gX6_port_X5_write rfl rfl rfl (by decide +kernel) ⟨Nat.le_of_ble_eq_true rfl, Nat.le_of_ble_eq_true rfl⟩) (hp_preV (q := (RX5, TX5, 3)) [.int p1, .ref b30, .int z31] hK hN hW hJ kb29 rfl rfl) rfl rfl hl.1 rfl (lv_room (Nat.le_of_ble_eq_true rfl)) dX6_port_80 ⟨Nat.zero_le _, Nat.zero_le _⟩) hJ (fun g32 H locs hp hJ => ?_)
              obtain ⟨P34a, K35⟩ := hp
              obtain ⟨K351, K352, K353, K354, K355, K356, K357, K358⟩ := id K35
              have P34 : hg_P hx_C g g32 := hg_P.tr P26 (P34a.le hx_cC)
              have qt36 : g32 1 1 = g24 1 1 := P34a 1 1 rfl
              have qt37 : g32 11 1 = g24 11 1 := P34a 11 1 rfl
              have qt38 : g32 11 13 = g24 11 13 := P34a 11 13 rfl
              have qt39 : g32 11 22 = g24 11 22 := P34a 11 22 rfl
              have up40 : ∀ j : Nat, j < 4 → g32 (5 + j) 0 = if j = p1.toInt.toNat then 0 else g (5 + j) 0 := fun j hj => (P34a (5 + j) 0 (hx_c50 hj)).trans (up28 j hj)
              refine lv_aload_n hx hb dX6_port_83 rfl (lv_at hl 0 rfl) ?_
              refine hp_getr (C := RX6) (T := TX6) (N := 12) (ci := 6) (kd := 1) hx hb hts iX6_port_X6 hown hK hJ k0 rfl rfl 4 (by decide) (hts (.fieldLink RX6 29 "NeighborBook" "known" "LNeighborBook$Neighbors;") (List.mem_of_getElem? (i := 5) rfl)) (fun _ h9 => h9) rfl dX6_port_84 (fun b41 kb41 => ?_)
              refine lv_iload_n hx hb dX6_port_87 rfl (lv_at hl 1 rfl) ?_
              refine hp_callv (va_runV (As := [.int p1]) (rest := []) ⟨hx, hb, hml, hown, hts⟩ (c_X3_forgetAllAt l dC dI dA κ B g32 b41 kb41 p1 K35) (cwV 1 hts gX6_port_X3_forgetAllAt rfl rfl rfl (by decide +kernel) ⟨Nat.le_of_ble_eq_true rfl, Nat.le_of_ble_eq_true rfl⟩) (hp_preV (q := (RX3, TX3, 2)) [.int p1] hK hN hW hJ kb41 rfl rfl) rfl rfl hl.1 rfl (lv_room (Nat.le_of_ble_eq_true rfl)) dX6_port_88 ⟨Nat.zero_le _, Nat.zero_le _⟩) hJ (fun g42 H locs hp hJ => ?_)
              obtain ⟨P44a, K45⟩ := hp
              obtain ⟨K451, K452, K453, K454, K455, K456, K457, K458⟩ := id K45
              have P44 : hg_P hx_C g g42 := hg_P.tr P34 (P44a.le hx_cC)
              have qt46 : g42 1 1 = g32 1 1 := P44a 1 1 rfl
              have qt47 : g42 11 1 = g32 11 1 := P44a 11 1 rfl
              have qt48 : g42 11 13 = g32 11 13 := P44a 11 13 rfl
              have qt49 : g42 11 22 = g32 11 22 := P44a 11 22 rfl
              have up50 : ∀ j : Nat, j < 4 → g42 (5 + j) 0 = if j = p1.toInt.toNat then 0 else g (5 + j) 0 := fun j hj => (P44a (5 + j) 0 (hx_c50 hj)).trans (up40 j hj)
              refine hq_iconst hx hb dX6_port_91 (by decide) (by decide) (fun z51 ez51 => ?_)
              exact hp_iret hx hb hK hN hW hlocks hJ hr (by first | exact ⟨P44, K45, by omega, Or.inr ⟨by omega, by omega, rfl⟩⟩ | exact ⟨P44, K45, by omega, Or.inl ⟨by omega, by omega, fun j hj => by rw [up50 j hj]; split <;> omega⟩⟩) dX6_port_92
            · exfalso; omega
          · refine hq_iconst hx hb dX6_port_38 (by decide) (by decide) (fun z52 ez52 => ?_)
            exact hp_iret hx hb hK hN hW hlocks hJ hr (by first | exact ⟨hg_P.rf, hG, by omega, Or.inr ⟨by omega, by omega, rfl⟩⟩ | exact ⟨hg_P.rf, hG, by omega, Or.inl ⟨by omega, by omega, fun j hj => by rw [(fun _ _ => rfl) j hj]; split <;> omega⟩⟩) dX6_port_39
        · refine hq_iconst hx hb dX6_port_30 (by decide) (by decide) (fun z53 ez53 => ?_)
          refine lv_goto (tgt := 35) hx hb dX6_port_31 (by decide) ?_
          refine hq_icmp_ne (tgt := 40) hx hb dX6_port_35 (by decide) (fun c54 => ?_) (fun c54 => ?_)
          · refine lv_iload_n hx hb dX6_port_40 rfl (lv_at hl 2 rfl) ?_
            refine hq_iconst hx hb dX6_port_41 (by decide) (by decide) (fun z55 ez55 => ?_)
            refine hq_icmp_ne (tgt := 61) hx hb dX6_port_42 (by decide) (fun c56 => ?_) (fun c56 => ?_)
            · exfalso; omega
            · refine lv_aload_n hx hb dX6_port_45 rfl (lv_at hl 0 rfl) ?_
              refine hp_getr (C := RX6) (T := TX6) (N := 12) (ci := 6) (kd := 1) hx hb hts iX6_port_X6 hown hK hJ k0 rfl rfl 3 (by decide) (hts (.fieldLink RX6 22 "NeighborBook" "ports" "[LNeighborBook$Port;") (List.mem_of_getElem? (i := 1) rfl)) (fun _ h9 => h9) rfl dX6_port_46 (fun b57 kb57 => ?_)
              refine lv_iload_n hx hb dX6_port_49 rfl (lv_at hl 1 rfl) ?_
              refine hp_aald3 (kd := 15) (n := 4) hx hb hK hJ kb57 rfl (by omega) (by omega) (hk_s15 (by omega)) dX6_port_50 (fun b58 kb58 => ?_)
              refine lv_aload_n hx hb dX6_port_51 rfl (lv_at hl 0 rfl) ?_
              refine hp_geti (C := RX6) (T := TX6) (N := 12) (ci := 6) (kd := 1) hx hb hts iX6_port_X6 hown hK hJ k0 rfl rfl 9 (by decide) (hts (.fieldLink RX6 54 "NeighborBook" "quick" "I") (List.mem_of_getElem? (i := 2) rfl)) (fun _ h9 => h9) rfl rfl dX6_port_52 (fun x59 ex59 => ?_)
              refine hp_callv (va_runV (As := [.int x59]) (rest := []) ⟨hx, hb, hml, hown, hts⟩ (c_X4_goUp l dC dI dA κ B g (p1.toInt.toNat) (by omega : p1.toInt.toNat < 4) b58 kb58 x59 hG) (cwV 1 hts gX6_port_X4_goUp rfl rfl rfl (by decide +kernel) ⟨Nat.le_of_ble_eq_true rfl, Nat.le_of_ble_eq_true rfl⟩) (hp_preV (q := (RX4, TX4, 6)) [.int x59] hK hN hW hJ kb58 (hk_t5 (by omega : p1.toInt.toNat < 4)) rfl) rfl rfl hl.1 rfl (lv_room (Nat.le_of_ble_eq_true rfl)) dX6_port_55 ⟨Nat.zero_le _, Nat.zero_le _⟩) hJ (fun g60 H locs hp hJ => ?_)
              obtain ⟨P62a, K63, f61⟩ := hp
              obtain ⟨K631, K632, K633, K634, K635, K636, K637, K638⟩ := id K63
              have P62 : hg_P hx_C g g60 := P62a
              have up64 : ∀ j : Nat, j < 4 → g60 (5 + j) 0 = if j = p1.toInt.toNat then 1 else g (5 + j) 0 := f61.2
              have tup64 := f61.1
              refine lv_goto (tgt := 91) hx hb dX6_port_58 (by decide) ?_
              refine hq_iconst hx hb dX6_port_91 (by decide) (by decide) (fun z65 ez65 => ?_)
              exact hp_iret hx hb hK hN hW hlocks hJ hr (by first | exact ⟨P62, K63, by omega, Or.inr ⟨by omega, by omega, rfl⟩⟩ | exact ⟨P62, K63, by omega, Or.inl ⟨by omega, by omega, fun j hj => by rw [up64 j hj]; split <;> omega⟩⟩) dX6_port_92
          · refine hq_iconst hx hb dX6_port_38 (by decide) (by decide) (fun z66 ez66 => ?_)
            exact hp_iret hx hb hK hN hW hlocks hJ hr (by first | exact ⟨hg_P.rf, hG, by omega, Or.inr ⟨by omega, by omega, rfl⟩⟩ | exact ⟨hg_P.rf, hG, by omega, Or.inl ⟨by omega, by omega, fun j hj => by rw [(fun _ _ => rfl) j hj]; split <;> omega⟩⟩) dX6_port_39
