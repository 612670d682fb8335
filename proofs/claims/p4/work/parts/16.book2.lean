theorem iX6_port_X6 : ∀ w ∈ wsX60, w ∈ wsX6_port := fun _ h => List.mem_cons_of_mem _ (List.mem_append_left _ (List.mem_append_left _ (List.mem_append_left _ (List.mem_append_left _ (List.mem_append_left _ (List.mem_append_right _ h))))))
theorem iX6_port_X4 : ∀ w ∈ wsX40, w ∈ wsX6_port := fun _ h => List.mem_cons_of_mem _ (List.mem_append_left _ (List.mem_append_left _ (List.mem_append_left _ (List.mem_append_left _ (List.mem_append_right _ h)))))
theorem iX6_port_X5 : ∀ w ∈ wsX50, w ∈ wsX6_port := fun _ h => List.mem_cons_of_mem _ (List.mem_append_left _ (List.mem_append_left _ (List.mem_append_left _ (List.mem_append_right _ h))))
theorem iX6_port_X0 : ∀ w ∈ wsX00, w ∈ wsX6_port := fun _ h => List.mem_cons_of_mem _ (List.mem_append_left _ (List.mem_append_left _ (List.mem_append_right _ h)))
theorem iX6_port_X3 : ∀ w ∈ wsX30, w ∈ wsX6_port := fun _ h => List.mem_cons_of_mem _ (List.mem_append_left _ (List.mem_append_right _ h))
theorem iX6_port_X2 : ∀ w ∈ wsX20, w ∈ wsX6_port := fun _ h => List.mem_cons_of_mem _ (List.mem_append_right _ h)
set_option maxRecDepth 100000 in
set_option maxHeartbeats 4000000 in
theorem c_X6_port (l : Launch) (dC : Nat → ClassId) (dI : Nat → Nat → Nat) (dA : Nat → ClassId) (κ : Nat → Nat) (B : Nat) (g : Nat → Nat → Int) (h0 : Nat) (k0 : κ h0 = 1) (p1 : Int32) (up : Int32) (hG : hg_k g) : Met l yX6_port wsX6_port ({ frames := 4, cells := 0, slots := 0, locals := 91 } : Room) (hp_Pre dC dI dA κ B g [Value.ref h0, Value.int p1, Value.int up]) (hp_Qi dC dI dA κ B (fun r u => hg_P hx_C g u ∧ hg_k u ∧ u 1 1 = g 1 1 ∧ (((0 ≤ p1.toInt ∧ p1.toInt < 4 ∧ 0 ≤ up.toInt ∧ up.toInt ≤ 1 ∧ g (5 + p1.toInt.toNat) 0 ≠ up.toInt) ∧ r.toInt = 1 ∧ ∀ j : Nat, j < 4 → u (5 + j) 0 = if j = p1.toInt.toNat then up.toInt else g (5 + j) 0) ∨ (¬ (0 ≤ p1.toInt ∧ p1.toInt < 4 ∧ 0 ≤ up.toInt ∧ up.toInt ≤ 1 ∧ g (5 + p1.toInt.toNat) 0 ≠ up.toInt) ∧ r.toInt = 0 ∧ g = u)))) 0 0 (hp_A B) := by
  refine Met.ofW (cc := cX6_port) (maxL := 3) (ret := (some .int)) (by decide) rfl ?_
  intro p e s m args below meth c s₁ Bd hml hv
  obtain ⟨rfl, hK, hN, hW, hF⟩ := hv
  have hx := Bd.exec
  have hb := Bd.bytes
  have hr := Bd.returns
  have hts := atoms_spec (ws := wsX6_port) Bd.pre
  have hown : s.vm.findClass RX6 = some m.cls := findClass_of_methodNamed Bd.named
  have hlocks := Bd.notSynchronized
  have hJ : hp_J dC dI dA κ B g s.heap s.heap [] := ⟨hF, va_S.rf⟩
  have hl := lv_entry ([Value.ref h0, Value.int p1, Value.int up]) (n := 3) (Nat.le_of_ble_eq_true rfl)
  rw [lg_entry_eq]
  generalize (lg_sl ([Value.ref h0, Value.int p1, Value.int up]) ++ List.replicate (3 - (lg_sl ([Value.ref h0, Value.int p1, Value.int up])).length) Slot.unset).toArray = ls at hl ⊢
  have hl : lv_has ls 3 [(0, .ref h0), (1, .int p1), (2, .int up)] := hl
  obtain ⟨hG1, hG2, hG3, hG4, hG5, hG6, hG7, hG8⟩ := id hG
  refine lv_iload_n hx hb dX6_port_0 rfl (lv_at hl 1 rfl) ?_
  refine hp_calli (va_runS (As := [.int p1]) (rest := []) ⟨hx, hb, hml, hown, hts⟩ (c_X6_isPort l dC dI dA κ B g p1) (va_cwS 1 hts gX6_port_X6_isPort rfl rfl rfl (by decide +kernel) ⟨Nat.le_of_ble_eq_true rfl, Nat.le_of_ble_eq_true rfl⟩) (hp_preS [.int p1] hK hN hW hJ) rfl rfl hl.1 rfl (lv_room (Nat.le_of_ble_eq_true rfl)) dX6_port_1 ⟨Nat.zero_le _, Nat.zero_le _⟩) hJ (fun x2 g1 H locs hp hJ => ?_)
  obtain ⟨rfl, f3⟩ := hp
  refine hq_if_eq (tgt := 38) hx hb dX6_port_4 (by decide) (fun c4 => ?_) (fun c4 => ?_)
  · refine hq_iconst hx hb dX6_port_38 (by decide) (by decide) (fun z5 ez5 => ?_)
    exact hp_iret hx hb hK hN hW hlocks hJ hr (by first | exact ⟨hg_P.rf, hG, by omega, Or.inr ⟨by omega, by omega, rfl⟩⟩ | exact ⟨hg_P.rf, hG, by omega, Or.inl ⟨by omega, by omega, fun j hj => by rw [(fun _ _ => rfl) j hj]; split <;> omega⟩⟩) dX6_port_39
  · refine lv_iload_n hx hb dX6_port_7 rfl (lv_at hl 2 rfl) ?_
    refine hq_if_lt (tgt := 38) hx hb dX6_port_8 (by decide) (fun c6 => ?_) (fun c6 => ?_)
    · refine hq_iconst hx hb dX6_port_38 (by decide) (by decide) (fun z7 ez7 => ?_)
      exact hp_iret hx hb hK hN hW hlocks hJ hr (by first | exact ⟨hg_P.rf, hG, by omega, Or.inr ⟨by omega, by omega, rfl⟩⟩ | exact ⟨hg_P.rf, hG, by omega, Or.inl ⟨by omega, by omega, fun j hj => by rw [(fun _ _ => rfl) j hj]; split <;> omega⟩⟩) dX6_port_39
    · refine lv_iload_n hx hb dX6_port_11 rfl (lv_at hl 2 rfl) ?_
      refine hq_iconst hx hb dX6_port_12 (by decide) (by decide) (fun z8 ez8 => ?_)
      refine hq_icmp_gt (tgt := 38) hx hb dX6_port_13 (by decide) (fun c9 => ?_) (fun c9 => ?_)
      · refine hq_iconst hx hb dX6_port_38 (by decide) (by decide) (fun z10 ez10 => ?_)
        exact hp_iret hx hb hK hN hW hlocks hJ hr (by first | exact ⟨hg_P.rf, hG, by omega, Or.inr ⟨by omega, by omega, rfl⟩⟩ | exact ⟨hg_P.rf, hG, by omega, Or.inl ⟨by omega, by omega, fun j hj => by rw [(fun _ _ => rfl) j hj]; split <;> omega⟩⟩) dX6_port_39
      · refine lv_aload_n hx hb dX6_port_16 rfl (lv_at hl 0 rfl) ?_
        refine hp_getr (C := RX6) (T := TX6) (N := 12) (ci := 6) (kd := 1) hx hb hts iX6_port_X6 hown hK hJ k0 rfl rfl 3 (by decide) (hts (.fieldLink RX6 22 "NeighborBook" "ports" "[LNeighborBook$Port;") (List.mem_of_getElem? (i := 1) rfl)) (fun _ h9 => h9) rfl dX6_port_17 (fun b11 kb11 => ?_)
        refine lv_iload_n hx hb dX6_port_20 rfl (lv_at hl 1 rfl) ?_
        refine hp_aald3 (kd := 15) (n := 4) hx hb hK hJ kb11 rfl (by omega) (by omega) (hk_s15 (by omega)) dX6_port_21 (fun b12 kb12 => ?_)
        refine hp_calli (va_runV (As := []) (rest := []) ⟨hx, hb, hml, hown, hts⟩ (c_X4_isUp l dC dI dA κ B g (p1.toInt.toNat) (by omega : p1.toInt.toNat < 4) b12 kb12 hG) (cwV 0 hts gX6_port_X4_isUp rfl rfl rfl (by decide +kernel) ⟨Nat.le_of_ble_eq_true rfl, Nat.le_of_ble_eq_true rfl⟩) (hp_preV (q := (RX4, TX4, 6)) [] hK hN hW hJ kb12 (hk_t5 (by omega : p1.toInt.toNat < 4)) rfl) rfl rfl hl.1 rfl (lv_room (Nat.le_of_ble_eq_true rfl)) dX6_port_22 ⟨Nat.zero_le _, Nat.zero_le _⟩) hJ (fun x14 g13 H locs hp hJ => ?_)
        obtain ⟨rfl, f15⟩ := hp
        refine lv_iload_n hx hb dX6_port_25 rfl (lv_at hl 2 rfl) ?_
        refine hq_iconst hx hb dX6_port_26 (by decide) (by decide) (fun z16 ez16 => ?_)
        refine hq_icmp_ne (tgt := 34) hx hb dX6_port_27 (by decide) (fun c17 => ?_) (fun c17 => ?_)
        · refine hq_iconst hx hb dX6_port_34 (by decide) (by decide) (fun z18 ez18 => ?_)
          refine hq_icmp_ne (tgt := 40) hx hb dX6_port_35 (by decide) (fun c19 => ?_) (fun c19 => ?_)
          · refine lv_iload_n hx hb dX6_port_40 rfl (lv_at hl 2 rfl) ?_
            refine hq_iconst hx hb dX6_port_41 (by decide) (by decide) (fun z20 ez20 => ?_)
            refine hq_icmp_ne (tgt := 61) hx hb dX6_port_42 (by decide) (fun c21 => ?_) (fun c21 => ?_)
            · refine lv_aload_n hx hb dX6_port_61 rfl (lv_at hl 0 rfl) ?_
              refine hp_getr (C := RX6) (T := TX6) (N := 12) (ci := 6) (kd := 1) hx hb hts iX6_port_X6 hown hK hJ k0 rfl rfl 3 (by decide) (hts (.fieldLink RX6 22 "NeighborBook" "ports" "[LNeighborBook$Port;") (List.mem_of_getElem? (i := 1) rfl)) (fun _ h9 => h9) rfl dX6_port_62 (fun b22 kb22 => ?_)
              refine lv_iload_n hx hb dX6_port_65 rfl (lv_at hl 1 rfl) ?_
              refine hp_aald3 (kd := 15) (n := 4) hx hb hK hJ kb22 rfl (by omega) (by omega) (hk_s15 (by omega)) dX6_port_66 (fun b23 kb23 => ?_)
              refine hp_callv (va_runV (As := []) (rest := []) ⟨hx, hb, hml, hown, hts⟩ (c_X4_goDown l dC dI dA κ B g (p1.toInt.toNat) (by omega : p1.toInt.toNat < 4) b23 kb23 hG) (cwV 0 hts gX6_port_X4_goDown rfl rfl rfl (by decide +kernel) ⟨Nat.le_of_ble_eq_true rfl, Nat.le_of_ble_eq_true rfl⟩) (hp_preV (q := (RX4, TX4, 6)) [] hK hN hW hJ kb23 (hk_t5 (by omega : p1.toInt.toNat < 4)) rfl) rfl rfl hl.1 rfl (lv_room (Nat.le_of_ble_eq_true rfl)) dX6_port_67 ⟨Nat.zero_le _, Nat.zero_le _⟩) hJ (fun g24 H locs hp hJ => ?_)
              obtain ⟨P26a, K27, f25⟩ := hp
              obtain ⟨K271, K272, K273, K274, K275, K276, K277, K278⟩ := id K27
              have P26 : hg_P hx_C g g24 := P26a
              have up28 : ∀ j : Nat, j < 4 → g24 (5 + j) 0 = if j = p1.toInt.toNat then 0 else g (5 + j) 0 := f25.2
              have tup28 := f25.1
              refine lv_aload_n hx hb dX6_port_70 rfl (lv_at hl 0 rfl) ?_
              refine hp_getr (C := RX6) (T := TX6) (N := 12) (ci := 6) (kd := 1) hx hb hts iX6_port_X6 hown hK hJ k0 rfl rfl 6 (by decide) (hts (.fieldLink RX6 43 "NeighborBook" "latest" "LNeighborBook$SentFrame;") (List.mem_of_getElem? (i := 3) rfl)) (fun _ h9 => h9) rfl dX6_port_71 (fun b29 kb29 => ?_)
              refine lv_iload_n hx hb dX6_port_74 rfl (lv_at hl 1 rfl) ?_
              refine lv_aload_n hx hb dX6_port_75 rfl (lv_at hl 0 rfl) ?_
              refine hp_getr (C := RX6) (T := TX6) (N := 12) (ci := 6) (kd := 1) hx hb hts iX6_port_X6 hown hK hJ k0 rfl rfl 2 (by decide) (hts (.fieldLink RX6 16 "NeighborBook" "told" "LNeighborBook$Contents;") (List.mem_of_getElem? (i := 4) rfl)) (fun _ h9 => h9) rfl dX6_port_76 (fun b30 kb30 => ?_)
              refine hq_iconst hx hb dX6_port_79 (by decide) (by decide) (fun z31 ez31 => ?_)
              refine hp_callv (va_runV (As := [.int p1, .ref b30, .int z31]) (rest := []) ⟨hx, hb, hml, hown, hts⟩ (c_X5_write l dC dI dA κ B g24 b29 kb29 p1 b30 kb30 z31 K27) (cwV 3 hts gX6_port_X5_write rfl rfl rfl (by decide +kernel) ⟨Nat.le_of_ble_eq_true rfl, Nat.le_of_ble_eq_true rfl⟩) (hp_preV (q := (RX5, TX5, 3)) [.int p1, .ref b30, .int z31] hK hN hW hJ kb29 rfl rfl) rfl rfl hl.1 rfl (lv_room (Nat.le_of_ble_eq_true rfl)) dX6_port_80 ⟨Nat.zero_le _, Nat.zero_le _⟩) hJ (fun g32 H locs hp hJ => ?_)
              obtain ⟨P34a, K35⟩ := hp
              obtain ⟨K351, K352, K353, K354, K355, K356, K357, K358⟩ := id K35
              have P34 : hg_P hx_C g g32 := hg_P.tr P26 (P34a.le hx_cC)
              have qt36 : g32 1 1 = g24 1 1 := P34a 1 1 rfl
              have qt37 : g32 11 1 = g24 11 1 := P34a 11 1 rfl
              have qt38 : g32 11 13 = g24 11 13 := P34a 11 13 rfl
              have qt39 : g32 11 22 = g24 11 22 := P34a 11 22 rfl
              have up40 : ∀ j : Nat, j < 4 → g32 (5 + j) 0 = if j = p1.toInt.toNat then 0 else g (5 + j) 0 := fun j hj => (P34a (5 + j) 0 (hx_c50 hj)).trans (up28 j hj)
              refine lv_aload_n hx hb dX6_port_83 rfl (lv_at hl 0 rfl) ?_
              refine hp_getr (C := RX6) (T := TX6) (N := 12) (ci := 6) (kd := 1) hx hb hts iX6_port_X6 hown hK hJ k0 rfl rfl 4 (by decide) (hts (.fieldLink RX6 29 "NeighborBook" "known" "LNeighborBook$Neighbors;") (List.mem_of_getElem? (i := 5) rfl)) (fun _ h9 => h9) rfl dX6_port_84 (fun b41 kb41 => ?_)
              refine lv_iload_n hx hb dX6_port_87 rfl (lv_at hl 1 rfl) ?_
              refine hp_callv (va_runV (As := [.int p1]) (rest := []) ⟨hx, hb, hml, hown, hts⟩ (c_X3_forgetAllAt l dC dI dA κ B g32 b41 kb41 p1 K35) (cwV 1 hts gX6_port_X3_forgetAllAt rfl rfl rfl (by decide +kernel) ⟨Nat.le_of_ble_eq_true rfl, Nat.le_of_ble_eq_true rfl⟩) (hp_preV (q := (RX3, TX3, 2)) [.int p1] hK hN hW hJ kb41 rfl rfl) rfl rfl hl.1 rfl (lv_room (Nat.le_of_ble_eq_true rfl)) dX6_port_88 ⟨Nat.zero_le _, Nat.zero_le _⟩) hJ (fun g42 H locs hp hJ => ?_)
              obtain ⟨P44a, K45⟩ := hp
              obtain ⟨K451, K452, K453, K454, K455, K456, K457, K458⟩ := id K45
              have P44 : hg_P hx_C g g42 := hg_P.tr P34 (P44a.le hx_cC)
              have qt46 : g42 1 1 = g32 1 1 := P44a 1 1 rfl
              have qt47 : g42 11 1 = g32 11 1 := P44a 11 1 rfl
              have qt48 : g42 11 13 = g32 11 13 := P44a 11 13 rfl
              have qt49 : g42 11 22 = g32 11 22 := P44a 11 22 rfl
              have up50 : ∀ j : Nat, j < 4 → g42 (5 + j) 0 = if j = p1.toInt.toNat then 0 else g (5 + j) 0 := fun j hj => (P44a (5 + j) 0 (hx_c50 hj)).trans (up40 j hj)
              refine hq_iconst hx hb dX6_port_91 (by decide) (by decide) (fun z51 ez51 => ?_)
              exact hp_iret hx hb hK hN hW hlocks hJ hr (by first | exact ⟨P44, K45, by omega, Or.inr ⟨by omega, by omega, rfl⟩⟩ | exact ⟨P44, K45, by omega, Or.inl ⟨by omega, by omega, fun j hj => by rw [up50 j hj]; split <;> omega⟩⟩) dX6_port_92
            · refine lv_aload_n hx hb dX6_port_45 rfl (lv_at hl 0 rfl) ?_
              refine hp_getr (C := RX6) (T := TX6) (N := 12) (ci := 6) (kd := 1) hx hb hts iX6_port_X6 hown hK hJ k0 rfl rfl 3 (by decide) (hts (.fieldLink RX6 22 "NeighborBook" "ports" "[LNeighborBook$Port;") (List.mem_of_getElem? (i := 1) rfl)) (fun _ h9 => h9) rfl dX6_port_46 (fun b52 kb52 => ?_)
              refine lv_iload_n hx hb dX6_port_49 rfl (lv_at hl 1 rfl) ?_
              refine hp_aald3 (kd := 15) (n := 4) hx hb hK hJ kb52 rfl (by omega) (by omega) (hk_s15 (by omega)) dX6_port_50 (fun b53 kb53 => ?_)
              refine lv_aload_n hx hb dX6_port_51 rfl (lv_at hl 0 rfl) ?_
              refine hp_geti (C := RX6) (T := TX6) (N := 12) (ci := 6) (kd := 1) hx hb hts iX6_port_X6 hown hK hJ k0 rfl rfl 9 (by decide) (hts (.fieldLink RX6 54 "NeighborBook" "quick" "I") (List.mem_of_getElem? (i := 2) rfl)) (fun _ h9 => h9) rfl rfl dX6_port_52 (fun x54 ex54 => ?_)
              refine hp_callv (va_runV (As := [.int x54]) (rest := []) ⟨hx, hb, hml, hown, hts⟩ (c_X4_goUp l dC dI dA κ B g (p1.toInt.toNat) (by omega : p1.toInt.toNat < 4) b53 kb53 x54 hG) (cwV 1 hts gX6_port_X4_goUp rfl rfl rfl (by decide +kernel) ⟨Nat.le_of_ble_eq_true rfl, Nat.le_of_ble_eq_true rfl⟩) (hp_preV (q := (RX4, TX4, 6)) [.int x54] hK hN hW hJ kb53 (hk_t5 (by omega : p1.toInt.toNat < 4)) rfl) rfl rfl hl.1 rfl (lv_room (Nat.le_of_ble_eq_true rfl)) dX6_port_55 ⟨Nat.zero_le _, Nat.zero_le _⟩) hJ (fun g55 H locs hp hJ => ?_)
              obtain ⟨P57a, K58, f56⟩ := hp
              obtain ⟨K581, K582, K583, K584, K585, K586, K587, K588⟩ := id K58
              have P57 : hg_P hx_C g g55 := P57a
              have up59 : ∀ j : Nat, j < 4 → g55 (5 + j) 0 = if j = p1.toInt.toNat then 1 else g (5 + j) 0 := f56.2
              have tup59 := f56.1
              refine lv_goto (tgt := 91) hx hb dX6_port_58 (by decide) ?_
              refine hq_iconst hx hb dX6_port_91 (by decide) (by decide) (fun z60 ez60 => ?_)
              exact hp_iret hx hb hK hN hW hlocks hJ hr (by first | exact ⟨P57, K58, by omega, Or.inr ⟨by omega, by omega, rfl⟩⟩ | exact ⟨P57, K58, by omega, Or.inl ⟨by omega, by omega, fun j hj => by rw [up59 j hj]; split <;> omega⟩⟩) dX6_port_92
          · refine hq_iconst hx hb dX6_port_38 (by decide) (by decide) (fun z61 ez61 => ?_)
            exact hp_iret hx hb hK hN hW hlocks hJ hr (by first | exact ⟨hg_P.rf, hG, by omega, Or.inr ⟨by omega, by omega, rfl⟩⟩ | exact ⟨hg_P.rf, hG, by omega, Or.inl ⟨by omega, by omega, fun j hj => by rw [(fun _ _ => rfl) j hj]; split <;> omega⟩⟩) dX6_port_39
        · refine hq_iconst hx hb dX6_port_30 (by decide) (by decide) (fun z62 ez62 => ?_)
          refine lv_goto (tgt := 35) hx hb dX6_port_31 (by decide) ?_
          refine hq_icmp_ne (tgt := 40) hx hb dX6_port_35 (by decide) (fun c63 => ?_) (fun c63 => ?_)
          · refine lv_iload_n hx hb dX6_port_40 rfl (lv_at hl 2 rfl) ?_
            refine hq_iconst hx hb dX6_port_41 (by decide) (by decide) (fun z64 ez64 => ?_)
            refine hq_icmp_ne (tgt := 61) hx hb dX6_port_42 (by decide) (fun c65 => ?_) (fun c65 => ?_)
            · refine lv_aload_n hx hb dX6_port_61 rfl (lv_at hl 0 rfl) ?_
              refine hp_getr (C := RX6) (T := TX6) (N := 12) (ci := 6) (kd := 1) hx hb hts iX6_port_X6 hown hK hJ k0 rfl rfl 3 (by decide) (hts (.fieldLink RX6 22 "NeighborBook" "ports" "[LNeighborBook$Port;") (List.mem_of_getElem? (i := 1) rfl)) (fun _ h9 => h9) rfl dX6_port_62 (fun b66 kb66 => ?_)
              refine lv_iload_n hx hb dX6_port_65 rfl (lv_at hl 1 rfl) ?_
              refine hp_aald3 (kd := 15) (n := 4) hx hb hK hJ kb66 rfl (by omega) (by omega) (hk_s15 (by omega)) dX6_port_66 (fun b67 kb67 => ?_)
              refine hp_callv (va_runV (As := []) (rest := []) ⟨hx, hb, hml, hown, hts⟩ (c_X4_goDown l dC dI dA κ B g (p1.toInt.toNat) (by omega : p1.toInt.toNat < 4) b67 kb67 hG) (cwV 0 hts gX6_port_X4_goDown rfl rfl rfl (by decide +kernel) ⟨Nat.le_of_ble_eq_true rfl, Nat.le_of_ble_eq_true rfl⟩) (hp_preV (q := (RX4, TX4, 6)) [] hK hN hW hJ kb67 (hk_t5 (by omega : p1.toInt.toNat < 4)) rfl) rfl rfl hl.1 rfl (lv_room (Nat.le_of_ble_eq_true rfl)) dX6_port_67 ⟨Nat.zero_le _, Nat.zero_le _⟩) hJ (fun g68 H locs hp hJ => ?_)
              obtain ⟨P70a, K71, f69⟩ := hp
              obtain ⟨K711, K712, K713, K714, K715, K716, K717, K718⟩ := id K71
              have P70 : hg_P hx_C g g68 := P70a
              have up72 : ∀ j : Nat, j < 4 → g68 (5 + j) 0 = if j = p1.toInt.toNat then 0 else g (5 + j) 0 := f69.2
              have tup72 := f69.1
              refine lv_aload_n hx hb dX6_port_70 rfl (lv_at hl 0 rfl) ?_
              refine hp_getr (C := RX6) (T := TX6) (N := 12) (ci := 6) (kd := 1) hx hb hts iX6_port_X6 hown hK hJ k0 rfl rfl 6 (by decide) (hts (.fieldLink RX6 43 "NeighborBook" "latest" "LNeighborBook$SentFrame;") (List.mem_of_getElem? (i := 3) rfl)) (fun _ h9 => h9) rfl dX6_port_71 (fun b73 kb73 => ?_)
              refine lv_iload_n hx hb dX6_port_74 rfl (lv_at hl 1 rfl) ?_
              refine lv_aload_n hx hb dX6_port_75 rfl (lv_at hl 0 rfl) ?_
              refine hp_getr (C := RX6) (T := TX6) (N := 12) (ci := 6) (kd := 1) hx hb hts iX6_port_X6 hown hK hJ k0 rfl rfl 2 (by decide) (hts (.fieldLink RX6 16 "NeighborBook" "told" "LNeighborBook$Contents;") (List.mem_of_getElem? (i := 4) rfl)) (fun _ h9 => h9) rfl dX6_port_76 (fun b74 kb74 => ?_)
              refine hq_iconst hx hb dX6_port_79 (by decide) (by decide) (fun z75 ez75 => ?_)
              refine hp_callv (va_runV (As := [.int p1, .ref b74, .int z75]) (rest := []) ⟨hx, hb, hml, hown, hts⟩ (c_X5_write l dC dI dA κ B g68 b73 kb73 p1 b74 kb74 z75 K71) (cwV 3 hts gX6_port_X5_write rfl rfl rfl (by decide +kernel) ⟨Nat.le_of_ble_eq_true rfl, Nat.le_of_ble_eq_true rfl⟩) (hp_preV (q := (RX5, TX5, 3)) [.int p1, .ref b74, .int z75] hK hN hW hJ kb73 rfl rfl) rfl rfl hl.1 rfl (lv_room (Nat.le_of_ble_eq_true rfl)) dX6_port_80 ⟨Nat.zero_le _, Nat.zero_le _⟩) hJ (fun g76 H locs hp hJ => ?_)
              obtain ⟨P78a, K79⟩ := hp
              obtain ⟨K791, K792, K793, K794, K795, K796, K797, K798⟩ := id K79
              have P78 : hg_P hx_C g g76 := hg_P.tr P70 (P78a.le hx_cC)
              have qt80 : g76 1 1 = g68 1 1 := P78a 1 1 rfl
              have qt81 : g76 11 1 = g68 11 1 := P78a 11 1 rfl
              have qt82 : g76 11 13 = g68 11 13 := P78a 11 13 rfl
              have qt83 : g76 11 22 = g68 11 22 := P78a 11 22 rfl
              have up84 : ∀ j : Nat, j < 4 → g76 (5 + j) 0 = if j = p1.toInt.toNat then 0 else g (5 + j) 0 := fun j hj => (P78a (5 + j) 0 (hx_c50 hj)).trans (up72 j hj)
              refine lv_aload_n hx hb dX6_port_83 rfl (lv_at hl 0 rfl) ?_
              refine hp_getr (C := RX6) (T := TX6) (N := 12) (ci := 6) (kd := 1) hx hb hts iX6_port_X6 hown hK hJ k0 rfl rfl 4 (by decide) (hts (.fieldLink RX6 29 "NeighborBook" "known" "LNeighborBook$Neighbors;") (List.mem_of_getElem? (i := 5) rfl)) (fun _ h9 => h9) rfl dX6_port_84 (fun b85 kb85 => ?_)
              refine lv_iload_n hx hb dX6_port_87 rfl (lv_at hl 1 rfl) ?_
              refine hp_callv (va_runV (As := [.int p1]) (rest := []) ⟨hx, hb, hml, hown, hts⟩ (c_X3_forgetAllAt l dC dI dA κ B g76 b85 kb85 p1 K79) (cwV 1 hts gX6_port_X3_forgetAllAt rfl rfl rfl (by decide +kernel) ⟨Nat.le_of_ble_eq_true rfl, Nat.le_of_ble_eq_true rfl⟩) (hp_preV (q := (RX3, TX3, 2)) [.int p1] hK hN hW hJ kb85 rfl rfl) rfl rfl hl.1 rfl (lv_room (Nat.le_of_ble_eq_true rfl)) dX6_port_88 ⟨Nat.zero_le _, Nat.zero_le _⟩) hJ (fun g86 H locs hp hJ => ?_)
              obtain ⟨P88a, K89⟩ := hp
              obtain ⟨K891, K892, K893, K894, K895, K896, K897, K898⟩ := id K89
              have P88 : hg_P hx_C g g86 := hg_P.tr P78 (P88a.le hx_cC)
              have qt90 : g86 1 1 = g76 1 1 := P88a 1 1 rfl
              have qt91 : g86 11 1 = g76 11 1 := P88a 11 1 rfl
              have qt92 : g86 11 13 = g76 11 13 := P88a 11 13 rfl
              have qt93 : g86 11 22 = g76 11 22 := P88a 11 22 rfl
              have up94 : ∀ j : Nat, j < 4 → g86 (5 + j) 0 = if j = p1.toInt.toNat then 0 else g (5 + j) 0 := fun j hj => (P88a (5 + j) 0 (hx_c50 hj)).trans (up84 j hj)
              refine hq_iconst hx hb dX6_port_91 (by decide) (by decide) (fun z95 ez95 => ?_)
              exact hp_iret hx hb hK hN hW hlocks hJ hr (by first | exact ⟨P88, K89, by omega, Or.inr ⟨by omega, by omega, rfl⟩⟩ | exact ⟨P88, K89, by omega, Or.inl ⟨by omega, by omega, fun j hj => by rw [up94 j hj]; split <;> omega⟩⟩) dX6_port_92
            · refine lv_aload_n hx hb dX6_port_45 rfl (lv_at hl 0 rfl) ?_
              refine hp_getr (C := RX6) (T := TX6) (N := 12) (ci := 6) (kd := 1) hx hb hts iX6_port_X6 hown hK hJ k0 rfl rfl 3 (by decide) (hts (.fieldLink RX6 22 "NeighborBook" "ports" "[LNeighborBook$Port;") (List.mem_of_getElem? (i := 1) rfl)) (fun _ h9 => h9) rfl dX6_port_46 (fun b96 kb96 => ?_)
              refine lv_iload_n hx hb dX6_port_49 rfl (lv_at hl 1 rfl) ?_
              refine hp_aald3 (kd := 15) (n := 4) hx hb hK hJ kb96 rfl (by omega) (by omega) (hk_s15 (by omega)) dX6_port_50 (fun b97 kb97 => ?_)
              refine lv_aload_n hx hb dX6_port_51 rfl (lv_at hl 0 rfl) ?_
              refine hp_geti (C := RX6) (T := TX6) (N := 12) (ci := 6) (kd := 1) hx hb hts iX6_port_X6 hown hK hJ k0 rfl rfl 9 (by decide) (hts (.fieldLink RX6 54 "NeighborBook" "quick" "I") (List.mem_of_getElem? (i := 2) rfl)) (fun _ h9 => h9) rfl rfl dX6_port_52 (fun x98 ex98 => ?_)
              refine hp_callv (va_runV (As := [.int x98]) (rest := []) ⟨hx, hb, hml, hown, hts⟩ (c_X4_goUp l dC dI dA κ B g (p1.toInt.toNat) (by omega : p1.toInt.toNat < 4) b97 kb97 x98 hG) (cwV 1 hts gX6_port_X4_goUp rfl rfl rfl (by decide +kernel) ⟨Nat.le_of_ble_eq_true rfl, Nat.le_of_ble_eq_true rfl⟩) (hp_preV (q := (RX4, TX4, 6)) [.int x98] hK hN hW hJ kb97 (hk_t5 (by omega : p1.toInt.toNat < 4)) rfl) rfl rfl hl.1 rfl (lv_room (Nat.le_of_ble_eq_true rfl)) dX6_port_55 ⟨Nat.zero_le _, Nat.zero_le _⟩) hJ (fun g99 H locs hp hJ => ?_)
              obtain ⟨P101a, K102, f100⟩ := hp
              obtain ⟨K1021, K1022, K1023, K1024, K1025, K1026, K1027, K1028⟩ := id K102
              have P101 : hg_P hx_C g g99 := P101a
              have up103 : ∀ j : Nat, j < 4 → g99 (5 + j) 0 = if j = p1.toInt.toNat then 1 else g (5 + j) 0 := f100.2
              have tup103 := f100.1
              refine lv_goto (tgt := 91) hx hb dX6_port_58 (by decide) ?_
              refine hq_iconst hx hb dX6_port_91 (by decide) (by decide) (fun z104 ez104 => ?_)
              exact hp_iret hx hb hK hN hW hlocks hJ hr (by first | exact ⟨P101, K102, by omega, Or.inr ⟨by omega, by omega, rfl⟩⟩ | exact ⟨P101, K102, by omega, Or.inl ⟨by omega, by omega, fun j hj => by rw [up103 j hj]; split <;> omega⟩⟩) dX6_port_92
          · refine hq_iconst hx hb dX6_port_38 (by decide) (by decide) (fun z105 ez105 => ?_)
            exact hp_iret hx hb hK hN hW hlocks hJ hr (by first | exact ⟨hg_P.rf, hG, by omega, Or.inr ⟨by omega, by omega, rfl⟩⟩ | exact ⟨hg_P.rf, hG, by omega, Or.inl ⟨by omega, by omega, fun j hj => by rw [(fun _ _ => rfl) j hj]; split <;> omega⟩⟩) dX6_port_39
theorem iX6_hear_X6 : ∀ w ∈ wsX60, w ∈ wsX6_hear := fun _ h => List.mem_cons_of_mem _ (List.mem_append_left _ (List.mem_append_left _ (List.mem_append_left _ (List.mem_append_left _ (List.mem_append_left _ (List.mem_append_right _ h))))))
theorem iX6_hear_X4 : ∀ w ∈ wsX40, w ∈ wsX6_hear := fun _ h => List.mem_cons_of_mem _ (List.mem_append_left _ (List.mem_append_left _ (List.mem_append_left _ (List.mem_append_left _ (List.mem_append_right _ h)))))
theorem iX6_hear_X1 : ∀ w ∈ wsX10, w ∈ wsX6_hear := fun _ h => List.mem_cons_of_mem _ (List.mem_append_left _ (List.mem_append_left _ (List.mem_append_left _ (List.mem_append_right _ h))))
theorem iX6_hear_X0 : ∀ w ∈ wsX00, w ∈ wsX6_hear := fun _ h => List.mem_cons_of_mem _ (List.mem_append_left _ (List.mem_append_left _ (List.mem_append_right _ h)))
theorem iX6_hear_X3 : ∀ w ∈ wsX30, w ∈ wsX6_hear := fun _ h => List.mem_cons_of_mem _ (List.mem_append_left _ (List.mem_append_right _ h))
theorem iX6_hear_X2 : ∀ w ∈ wsX20, w ∈ wsX6_hear := fun _ h => List.mem_cons_of_mem _ (List.mem_append_right _ h)
set_option maxRecDepth 100000 in
set_option maxHeartbeats 4000000 in
theorem c_X6_hear (l : Launch) (dC : Nat → ClassId) (dI : Nat → Nat → Nat) (dA : Nat → ClassId) (κ : Nat → Nat) (B : Nat) (g : Nat → Nat → Int) (h0 : Nat) (k0 : κ h0 = 1) (p1 : Int32) (hG : hg_k g) : Met l yX6_hear wsX6_hear ({ frames := 5, cells := 0, slots := 0, locals := 117 } : Room) (hp_Pre dC dI dA κ B g [Value.ref h0, Value.int p1]) (hp_Qi dC dI dA κ B (fun r u => hg_P hx_d g u ∧ hg_k u ∧ (((0 ≤ p1.toInt ∧ p1.toInt < 4 ∧ g (5 + p1.toInt.toNat) 0 = 1) ∧ u 1 1 = 0) ∨ (¬ (0 ≤ p1.toInt ∧ p1.toInt < 4 ∧ g (5 + p1.toInt.toNat) 0 = 1) ∧ u 1 1 = g 1 1 ∧ r.toInt = -1)))) 0 0 (hp_A B) := by
  refine Met.ofW (cc := cX6_hear) (maxL := 3) (ret := (some .int)) (by decide) rfl ?_
  intro p e s m args below meth c s₁ Bd hml hv
  obtain ⟨rfl, hK, hN, hW, hF⟩ := hv
  have hx := Bd.exec
  have hb := Bd.bytes
  have hr := Bd.returns
  have hts := atoms_spec (ws := wsX6_hear) Bd.pre
  have hown : s.vm.findClass RX6 = some m.cls := findClass_of_methodNamed Bd.named
  have hlocks := Bd.notSynchronized
  have hJ : hp_J dC dI dA κ B g s.heap s.heap [] := ⟨hF, va_S.rf⟩
  have hl := lv_entry ([Value.ref h0, Value.int p1]) (n := 3) (Nat.le_of_ble_eq_true rfl)
  rw [lg_entry_eq]
  generalize (lg_sl ([Value.ref h0, Value.int p1]) ++ List.replicate (3 - (lg_sl ([Value.ref h0, Value.int p1])).length) Slot.unset).toArray = ls at hl ⊢
  have hl : lv_has ls 3 [(0, .ref h0), (1, .int p1)] := hl
  obtain ⟨hG1, hG2, hG3, hG4, hG5, hG6, hG7, hG8⟩ := id hG
  refine lv_iload_n hx hb dX6_hear_0 rfl (lv_at hl 1 rfl) ?_
  refine hp_calli (va_runS (As := [.int p1]) (rest := []) ⟨hx, hb, hml, hown, hts⟩ (c_X6_isPort l dC dI dA κ B g p1) (va_cwS 1 hts gX6_hear_X6_isPort rfl rfl rfl (by decide +kernel) ⟨Nat.le_of_ble_eq_true rfl, Nat.le_of_ble_eq_true rfl⟩) (hp_preS [.int p1] hK hN hW hJ) rfl rfl hl.1 rfl (lv_room (Nat.le_of_ble_eq_true rfl)) dX6_hear_1 ⟨Nat.zero_le _, Nat.zero_le _⟩) hJ (fun x2 g1 H locs hp hJ => ?_)
  obtain ⟨rfl, f3⟩ := hp
  refine hq_if_eq (tgt := 19) hx hb dX6_hear_4 (by decide) (fun c4 => ?_) (fun c4 => ?_)
  · refine hq_iconst hx hb dX6_hear_19 (by decide) (by decide) (fun z5 ez5 => ?_)
    exact hp_iret hx hb hK hN hW hlocks hJ hr ⟨hg_P.rf, hG, by omega⟩ dX6_hear_20
  · refine lv_aload_n hx hb dX6_hear_7 rfl (lv_at hl 0 rfl) ?_
    refine hp_getr (C := RX6) (T := TX6) (N := 12) (ci := 6) (kd := 1) hx hb hts iX6_hear_X6 hown hK hJ k0 rfl rfl 3 (by decide) (hts (.fieldLink RX6 22 "NeighborBook" "ports" "[LNeighborBook$Port;") (List.mem_of_getElem? (i := 1) rfl)) (fun _ h9 => h9) rfl dX6_hear_8 (fun b6 kb6 => ?_)
    refine lv_iload_n hx hb dX6_hear_11 rfl (lv_at hl 1 rfl) ?_
    refine hp_aald3 (kd := 15) (n := 4) hx hb hK hJ kb6 rfl (by omega) (by omega) (hk_s15 (by omega)) dX6_hear_12 (fun b7 kb7 => ?_)
    refine hp_calli (va_runV (As := []) (rest := []) ⟨hx, hb, hml, hown, hts⟩ (c_X4_isUp l dC dI dA κ B g (p1.toInt.toNat) (by omega : p1.toInt.toNat < 4) b7 kb7 hG) (cwV 0 hts gX6_hear_X4_isUp rfl rfl rfl (by decide +kernel) ⟨Nat.le_of_ble_eq_true rfl, Nat.le_of_ble_eq_true rfl⟩) (hp_preV (q := (RX4, TX4, 6)) [] hK hN hW hJ kb7 (hk_t5 (by omega : p1.toInt.toNat < 4)) rfl) rfl rfl hl.1 rfl (lv_room (Nat.le_of_ble_eq_true rfl)) dX6_hear_13 ⟨Nat.zero_le _, Nat.zero_le _⟩) hJ (fun x9 g8 H locs hp hJ => ?_)
    obtain ⟨rfl, f10⟩ := hp
    refine hq_if_ne (tgt := 21) hx hb dX6_hear_16 (by decide) (fun c11 => ?_) (fun c11 => ?_)
    · have hGq := hG7 p1.toInt.toNat (by omega)
      refine lv_aload_n hx hb dX6_hear_21 rfl (lv_at hl 0 rfl) ?_
      refine hp_getr (C := RX6) (T := TX6) (N := 12) (ci := 6) (kd := 1) hx hb hts iX6_hear_X6 hown hK hJ k0 rfl rfl 5 (by decide) (hts (.fieldLink RX6 36 "NeighborBook" "reader" "LNeighborBook$FrameReader;") (List.mem_of_getElem? (i := 2) rfl)) (fun _ h9 => h9) rfl dX6_hear_22 (fun b12 kb12 => ?_)
      refine lv_aload_n hx hb dX6_hear_25 rfl (lv_at hl 0 rfl) ?_
      refine hp_getr (C := RX6) (T := TX6) (N := 12) (ci := 6) (kd := 1) hx hb hts iX6_hear_X6 hown hK hJ k0 rfl rfl 0 (by decide) (hts (.fieldLink RX6 9 "NeighborBook" "typed" "[B") (List.mem_of_getElem? (i := 3) rfl)) (fun _ h9 => h9) rfl dX6_hear_26 (fun b13 kb13 => ?_)
      refine lv_aload_n hx hb dX6_hear_29 rfl (lv_at hl 0 rfl) ?_
      refine hp_geti (C := RX6) (T := TX6) (N := 12) (ci := 6) (kd := 1) hx hb hts iX6_hear_X6 hown hK hJ k0 rfl rfl 1 (by decide) (hts (.fieldLink RX6 65 "NeighborBook" "typedCount" "I") (List.mem_of_getElem? (i := 4) rfl)) (fun _ h9 => h9) rfl rfl dX6_hear_30 (fun x14 ex14 => ?_)
      have ex14 : x14.toInt = g 1 1 := ex14
      refine hp_calli (va_runV (As := [.ref b13, .int x14]) (rest := []) ⟨hx, hb, hml, hown, hts⟩ (c_X1_read l dC dI dA κ B g b12 kb12 b13 kb13 x14 (by omega) (by omega)) (cwV 2 hts gX6_hear_X1_read rfl rfl rfl (by decide +kernel) ⟨Nat.le_of_ble_eq_true rfl, Nat.le_of_ble_eq_true rfl⟩) (hp_preV (q := (RX1, TX1, 2)) [.ref b13, .int x14] hK hN hW hJ kb12 rfl rfl) rfl rfl hl.1 rfl (lv_room (Nat.le_of_ble_eq_true rfl)) dX6_hear_33 ⟨Nat.zero_le _, Nat.zero_le _⟩) hJ (fun x16 g15 H locs hp hJ => ?_)
      subst hp
      refine lv_istore_n (lv' := [(2, .int x16), (0, .ref h0), (1, .int p1)]) hx hb dX6_hear_36 rfl hl (by decide) rfl (fun ls hl => ?_)
      refine lv_aload_n hx hb dX6_hear_37 rfl (lv_at hl 1 rfl) ?_
      refine hq_iconst hx hb dX6_hear_38 (by decide) (by decide) (fun z17 ez17 => ?_)
      refine hp_putx (C := RX6) (T := TX6) (N := 12) (ci := 6) (kd := 1) hx hb hts iX6_hear_X6 hown hK hJ k0 rfl rfl 1 (by decide) (hts (.fieldLink RX6 65 "NeighborBook" "typedCount" "I") (List.mem_of_getElem? (i := 4) rfl)) (fun _ h9 => h9) tyX6 tyX6_ok nmX6 (x := z17) rfl rfl (by decide) hW rfl rfl rfl dX6_hear_39 (fun g18 H locs eg18 ng18 hJ => ?_)
      have eg18 : g18 1 1 = z17.toInt := eg18
      have P19 : hg_P hx_d g g18 := hg_P.put hg_P.rf ng18 rfl
      have tt20 : g18 10 1 = g 10 1 := ng18 10 1 (by decide)
      have tt21 : g18 4 1 = g 4 1 := ng18 4 1 (by decide)
      refine lv_iload_n hx hb dX6_hear_42 rfl (lv_at hl 0 rfl) ?_
      refine hq_if_ne (tgt := 52) hx hb dX6_hear_43 (by decide) (fun c22 => ?_) (fun c22 => ?_)
      · refine lv_aload_n hx hb dX6_hear_52 rfl (lv_at hl 1 rfl) ?_
        refine hp_getr (C := RX6) (T := TX6) (N := 12) (ci := 6) (kd := 1) hx hb hts iX6_hear_X6 hown hK hJ k0 rfl rfl 3 (by decide) (hts (.fieldLink RX6 22 "NeighborBook" "ports" "[LNeighborBook$Port;") (List.mem_of_getElem? (i := 1) rfl)) (fun _ h9 => h9) rfl dX6_hear_53 (fun b23 kb23 => ?_)
        refine lv_iload_n hx hb dX6_hear_56 rfl (lv_at hl 2 rfl) ?_
        refine hp_aald3 (kd := 15) (n := 4) hx hb hK hJ kb23 rfl (by omega) (by omega) (hk_s15 (by omega)) dX6_hear_57 (fun b24 kb24 => ?_)
        refine lv_iload_n hx hb dX6_hear_58 rfl (lv_at hl 0 rfl) ?_
        refine hq_if_ne (tgt := 66) hx hb dX6_hear_59 (by decide) (fun c25 => ?_) (fun c25 => ?_)
        · refine hq_iconst hx hb dX6_hear_66 (by decide) (by decide) (fun z26 ez26 => ?_)
          refine hp_callv (va_runV (As := [.int z26]) (rest := []) ⟨hx, hb, hml, hown, hts⟩ (c_X4_noteHeard l dC dI dA κ B g18 (p1.toInt.toNat) (by omega : p1.toInt.toNat < 4) b24 kb24 z26 (hg_k.ofd hG P19 (by constructor <;> omega) (by constructor <;> omega) (by constructor <;> omega) )) (cwV 1 hts gX6_hear_X4_noteHeard rfl rfl rfl (by decide +kernel) ⟨Nat.le_of_ble_eq_true rfl, Nat.le_of_ble_eq_true rfl⟩) (hp_preV (q := (RX4, TX4, 6)) [.int z26] hK hN hW hJ kb24 (hk_t5 (by omega : p1.toInt.toNat < 4)) rfl) rfl rfl hl.1 rfl (lv_room (Nat.le_of_ble_eq_true rfl)) dX6_hear_67 ⟨Nat.zero_le _, Nat.zero_le _⟩) hJ (fun g27 H locs hp hJ => ?_)
          obtain ⟨P29a, K30⟩ := hp
          obtain ⟨K301, K302, K303, K304, K305, K306, K307, K308⟩ := id K30
          have P29 : hg_P hx_d g g27 := hg_P.tr P19 (P29a.le hx_cd)
          have qt31 : g27 1 1 = g18 1 1 := P29a 1 1 rfl
          have qt32 : g27 11 1 = g18 11 1 := P29a 11 1 rfl
          have qt33 : g27 11 13 = g18 11 13 := P29a 11 13 rfl
          have qt34 : g27 11 22 = g18 11 22 := P29a 11 22 rfl
          refine lv_aload_n hx hb dX6_hear_70 rfl (lv_at hl 1 rfl) ?_
          refine lv_iload_n hx hb dX6_hear_71 rfl (lv_at hl 0 rfl) ?_
          refine hp_putx (C := RX6) (T := TX6) (N := 12) (ci := 6) (kd := 1) hx hb hts iX6_hear_X6 hown hK hJ k0 rfl rfl 11 (by decide) (hts (.fieldLink RX6 112 "NeighborBook" "latestFault" "I") (List.mem_of_getElem? (i := 5) rfl)) (fun _ h9 => h9) tyX6 tyX6_ok nmX6 (x := x16) rfl rfl (by decide) hW rfl rfl rfl dX6_hear_72 (fun g35 H locs eg35 ng35 hJ => ?_)
          have eg35 : g35 1 11 = x16.toInt := eg35
          have P36 : hg_P hx_d g g35 := hg_P.put P29 ng35 rfl
          have tt37 : g35 1 1 = g27 1 1 := ng35 1 1 (by decide)
          have tt38 : g35 10 1 = g27 10 1 := ng35 10 1 (by decide)
          have tt39 : g35 4 1 = g27 4 1 := ng35 4 1 (by decide)
          refine lv_iload_n hx hb dX6_hear_75 rfl (lv_at hl 0 rfl) ?_
          exact hp_iret hx hb hK hN hW hlocks hJ hr ⟨P36, (hg_k.ofd hG P36 (by constructor <;> omega) (by constructor <;> omega) (by constructor <;> omega) ), by omega⟩ dX6_hear_76
        · refine hq_iconst hx hb dX6_hear_62 (by decide) (by decide) (fun z40 ez40 => ?_)
          refine lv_goto (tgt := 67) hx hb dX6_hear_63 (by decide) ?_
          refine hp_callv (va_runV (As := [.int z40]) (rest := []) ⟨hx, hb, hml, hown, hts⟩ (c_X4_noteHeard l dC dI dA κ B g18 (p1.toInt.toNat) (by omega : p1.toInt.toNat < 4) b24 kb24 z40 (hg_k.ofd hG P19 (by constructor <;> omega) (by constructor <;> omega) (by constructor <;> omega) )) (cwV 1 hts gX6_hear_X4_noteHeard rfl rfl rfl (by decide +kernel) ⟨Nat.le_of_ble_eq_true rfl, Nat.le_of_ble_eq_true rfl⟩) (hp_preV (q := (RX4, TX4, 6)) [.int z40] hK hN hW hJ kb24 (hk_t5 (by omega : p1.toInt.toNat < 4)) rfl) rfl rfl hl.1 rfl (lv_room (Nat.le_of_ble_eq_true rfl)) dX6_hear_67 ⟨Nat.zero_le _, Nat.zero_le _⟩) hJ (fun g41 H locs hp hJ => ?_)
          obtain ⟨P43a, K44⟩ := hp
          obtain ⟨K441, K442, K443, K444, K445, K446, K447, K448⟩ := id K44
          have P43 : hg_P hx_d g g41 := hg_P.tr P19 (P43a.le hx_cd)
          have qt45 : g41 1 1 = g18 1 1 := P43a 1 1 rfl
          have qt46 : g41 11 1 = g18 11 1 := P43a 11 1 rfl
          have qt47 : g41 11 13 = g18 11 13 := P43a 11 13 rfl
          have qt48 : g41 11 22 = g18 11 22 := P43a 11 22 rfl
          refine lv_aload_n hx hb dX6_hear_70 rfl (lv_at hl 1 rfl) ?_
          refine lv_iload_n hx hb dX6_hear_71 rfl (lv_at hl 0 rfl) ?_
          refine hp_putx (C := RX6) (T := TX6) (N := 12) (ci := 6) (kd := 1) hx hb hts iX6_hear_X6 hown hK hJ k0 rfl rfl 11 (by decide) (hts (.fieldLink RX6 112 "NeighborBook" "latestFault" "I") (List.mem_of_getElem? (i := 5) rfl)) (fun _ h9 => h9) tyX6 tyX6_ok nmX6 (x := x16) rfl rfl (by decide) hW rfl rfl rfl dX6_hear_72 (fun g49 H locs eg49 ng49 hJ => ?_)
          have eg49 : g49 1 11 = x16.toInt := eg49
          have P50 : hg_P hx_d g g49 := hg_P.put P43 ng49 rfl
          have tt51 : g49 1 1 = g41 1 1 := ng49 1 1 (by decide)
          have tt52 : g49 10 1 = g41 10 1 := ng49 10 1 (by decide)
          have tt53 : g49 4 1 = g41 4 1 := ng49 4 1 (by decide)
          refine lv_iload_n hx hb dX6_hear_75 rfl (lv_at hl 0 rfl) ?_
          exact hp_iret hx hb hK hN hW hlocks hJ hr ⟨P50, (hg_k.ofd hG P50 (by constructor <;> omega) (by constructor <;> omega) (by constructor <;> omega) ), by omega⟩ dX6_hear_76
      · refine lv_aload_n hx hb dX6_hear_46 rfl (lv_at hl 1 rfl) ?_
        refine lv_iload_n hx hb dX6_hear_47 rfl (lv_at hl 2 rfl) ?_
        refine hp_calli (va_runV (As := [.int p1]) (rest := []) ⟨hx, hb, hml, hown, hts⟩ (c_X6_learn l dC dI dA κ B g18 h0 k0 p1 (hg_k.ofd hG P19 (by constructor <;> omega) (by constructor <;> omega) (by constructor <;> omega) ) (by omega) (by omega)) (cwV 1 hts gX6_hear_X6_learn rfl rfl rfl (by decide +kernel) ⟨Nat.le_of_ble_eq_true rfl, Nat.le_of_ble_eq_true rfl⟩) (hp_preV (q := (RX6, TX6, 12)) [.int p1] hK hN hW hJ k0 rfl rfl) rfl rfl hl.1 rfl (lv_room (Nat.le_of_ble_eq_true rfl)) dX6_hear_48 ⟨Nat.zero_le _, Nat.zero_le _⟩) hJ (fun x55 g54 H locs hp hJ => ?_)
        obtain ⟨P57a, K58⟩ := hp
        obtain ⟨K581, K582, K583, K584, K585, K586, K587, K588⟩ := id K58
        have P57 : hg_P hx_d g g54 := hg_P.tr P19 (P57a.le hx_cd)
        have qt59 : g54 1 1 = g18 1 1 := P57a 1 1 rfl
        have qt60 : g54 11 1 = g18 11 1 := P57a 11 1 rfl
        have qt61 : g54 11 13 = g18 11 13 := P57a 11 13 rfl
        have qt62 : g54 11 22 = g18 11 22 := P57a 11 22 rfl
        refine lv_istore_n (lv' := [(2, .int x55), (0, .ref h0), (1, .int p1)]) hx hb dX6_hear_51 rfl hl (by decide) rfl (fun ls hl => ?_)
        refine lv_aload_n hx hb dX6_hear_52 rfl (lv_at hl 1 rfl) ?_
        refine hp_getr (C := RX6) (T := TX6) (N := 12) (ci := 6) (kd := 1) hx hb hts iX6_hear_X6 hown hK hJ k0 rfl rfl 3 (by decide) (hts (.fieldLink RX6 22 "NeighborBook" "ports" "[LNeighborBook$Port;") (List.mem_of_getElem? (i := 1) rfl)) (fun _ h9 => h9) rfl dX6_hear_53 (fun b63 kb63 => ?_)
        refine lv_iload_n hx hb dX6_hear_56 rfl (lv_at hl 2 rfl) ?_
        refine hp_aald3 (kd := 15) (n := 4) hx hb hK hJ kb63 rfl (by omega) (by omega) (hk_s15 (by omega)) dX6_hear_57 (fun b64 kb64 => ?_)
        refine lv_iload_n hx hb dX6_hear_58 rfl (lv_at hl 0 rfl) ?_
        refine hq_if_ne (tgt := 66) hx hb dX6_hear_59 (by decide) (fun c65 => ?_) (fun c65 => ?_)
        · refine hq_iconst hx hb dX6_hear_66 (by decide) (by decide) (fun z66 ez66 => ?_)
          refine hp_callv (va_runV (As := [.int z66]) (rest := []) ⟨hx, hb, hml, hown, hts⟩ (c_X4_noteHeard l dC dI dA κ B g54 (p1.toInt.toNat) (by omega : p1.toInt.toNat < 4) b64 kb64 z66 K58) (cwV 1 hts gX6_hear_X4_noteHeard rfl rfl rfl (by decide +kernel) ⟨Nat.le_of_ble_eq_true rfl, Nat.le_of_ble_eq_true rfl⟩) (hp_preV (q := (RX4, TX4, 6)) [.int z66] hK hN hW hJ kb64 (hk_t5 (by omega : p1.toInt.toNat < 4)) rfl) rfl rfl hl.1 rfl (lv_room (Nat.le_of_ble_eq_true rfl)) dX6_hear_67 ⟨Nat.zero_le _, Nat.zero_le _⟩) hJ (fun g67 H locs hp hJ => ?_)
          obtain ⟨P69a, K70⟩ := hp
          obtain ⟨K701, K702, K703, K704, K705, K706, K707, K708⟩ := id K70
          have P69 : hg_P hx_d g g67 := hg_P.tr P57 (P69a.le hx_cd)
          have qt71 : g67 1 1 = g54 1 1 := P69a 1 1 rfl
          have qt72 : g67 11 1 = g54 11 1 := P69a 11 1 rfl
          have qt73 : g67 11 13 = g54 11 13 := P69a 11 13 rfl
          have qt74 : g67 11 22 = g54 11 22 := P69a 11 22 rfl
          refine lv_aload_n hx hb dX6_hear_70 rfl (lv_at hl 1 rfl) ?_
          refine lv_iload_n hx hb dX6_hear_71 rfl (lv_at hl 0 rfl) ?_
          refine hp_putx (C := RX6) (T := TX6) (N := 12) (ci := 6) (kd := 1) hx hb hts iX6_hear_X6 hown hK hJ k0 rfl rfl 11 (by decide) (hts (.fieldLink RX6 112 "NeighborBook" "latestFault" "I") (List.mem_of_getElem? (i := 5) rfl)) (fun _ h9 => h9) tyX6 tyX6_ok nmX6 (x := x55) rfl rfl (by decide) hW rfl rfl rfl dX6_hear_72 (fun g75 H locs eg75 ng75 hJ => ?_)
          have eg75 : g75 1 11 = x55.toInt := eg75
          have P76 : hg_P hx_d g g75 := hg_P.put P69 ng75 rfl
          have tt77 : g75 1 1 = g67 1 1 := ng75 1 1 (by decide)
          have tt78 : g75 10 1 = g67 10 1 := ng75 10 1 (by decide)
          have tt79 : g75 4 1 = g67 4 1 := ng75 4 1 (by decide)
          refine lv_iload_n hx hb dX6_hear_75 rfl (lv_at hl 0 rfl) ?_
          exact hp_iret hx hb hK hN hW hlocks hJ hr ⟨P76, (hg_k.ofd hG P76 (by constructor <;> omega) (by constructor <;> omega) (by constructor <;> omega) ), by omega⟩ dX6_hear_76
        · refine hq_iconst hx hb dX6_hear_62 (by decide) (by decide) (fun z80 ez80 => ?_)
          refine lv_goto (tgt := 67) hx hb dX6_hear_63 (by decide) ?_
          refine hp_callv (va_runV (As := [.int z80]) (rest := []) ⟨hx, hb, hml, hown, hts⟩ (c_X4_noteHeard l dC dI dA κ B g54 (p1.toInt.toNat) (by omega : p1.toInt.toNat < 4) b64 kb64 z80 K58) (cwV 1 hts gX6_hear_X4_noteHeard rfl rfl rfl (by decide +kernel) ⟨Nat.le_of_ble_eq_true rfl, Nat.le_of_ble_eq_true rfl⟩) (hp_preV (q := (RX4, TX4, 6)) [.int z80] hK hN hW hJ kb64 (hk_t5 (by omega : p1.toInt.toNat < 4)) rfl) rfl rfl hl.1 rfl (lv_room (Nat.le_of_ble_eq_true rfl)) dX6_hear_67 ⟨Nat.zero_le _, Nat.zero_le _⟩) hJ (fun g81 H locs hp hJ => ?_)
          obtain ⟨P83a, K84⟩ := hp
          obtain ⟨K841, K842, K843, K844, K845, K846, K847, K848⟩ := id K84
          have P83 : hg_P hx_d g g81 := hg_P.tr P57 (P83a.le hx_cd)
          have qt85 : g81 1 1 = g54 1 1 := P83a 1 1 rfl
          have qt86 : g81 11 1 = g54 11 1 := P83a 11 1 rfl
          have qt87 : g81 11 13 = g54 11 13 := P83a 11 13 rfl
          have qt88 : g81 11 22 = g54 11 22 := P83a 11 22 rfl
          refine lv_aload_n hx hb dX6_hear_70 rfl (lv_at hl 1 rfl) ?_
          refine lv_iload_n hx hb dX6_hear_71 rfl (lv_at hl 0 rfl) ?_
          refine hp_putx (C := RX6) (T := TX6) (N := 12) (ci := 6) (kd := 1) hx hb hts iX6_hear_X6 hown hK hJ k0 rfl rfl 11 (by decide) (hts (.fieldLink RX6 112 "NeighborBook" "latestFault" "I") (List.mem_of_getElem? (i := 5) rfl)) (fun _ h9 => h9) tyX6 tyX6_ok nmX6 (x := x55) rfl rfl (by decide) hW rfl rfl rfl dX6_hear_72 (fun g89 H locs eg89 ng89 hJ => ?_)
          have eg89 : g89 1 11 = x55.toInt := eg89
          have P90 : hg_P hx_d g g89 := hg_P.put P83 ng89 rfl
          have tt91 : g89 1 1 = g81 1 1 := ng89 1 1 (by decide)
          have tt92 : g89 10 1 = g81 10 1 := ng89 10 1 (by decide)
          have tt93 : g89 4 1 = g81 4 1 := ng89 4 1 (by decide)
          refine lv_iload_n hx hb dX6_hear_75 rfl (lv_at hl 0 rfl) ?_
          exact hp_iret hx hb hK hN hW hlocks hJ hr ⟨P90, (hg_k.ofd hG P90 (by constructor <;> omega) (by constructor <;> omega) (by constructor <;> omega) ), by omega⟩ dX6_hear_76
    · refine hq_iconst hx hb dX6_hear_19 (by decide) (by decide) (fun z94 ez94 => ?_)
      exact hp_iret hx hb hK hN hW hlocks hJ hr ⟨hg_P.rf, hG, by omega⟩ dX6_hear_20
theorem iX6_tick_X6 : ∀ w ∈ wsX60, w ∈ wsX6_tick := fun _ h => List.mem_cons_of_mem _ (List.mem_append_left _ (List.mem_append_left _ (List.mem_append_left _ (List.mem_append_left _ (List.mem_append_left _ (List.mem_append_right _ h))))))
theorem iX6_tick_X3 : ∀ w ∈ wsX30, w ∈ wsX6_tick := fun _ h => List.mem_cons_of_mem _ (List.mem_append_left _ (List.mem_append_left _ (List.mem_append_left _ (List.mem_append_left _ (List.mem_append_right _ h)))))
theorem iX6_tick_X2 : ∀ w ∈ wsX20, w ∈ wsX6_tick := fun _ h => List.mem_cons_of_mem _ (List.mem_append_left _ (List.mem_append_left _ (List.mem_append_left _ (List.mem_append_right _ h))))
theorem iX6_tick_X4 : ∀ w ∈ wsX40, w ∈ wsX6_tick := fun _ h => List.mem_cons_of_mem _ (List.mem_append_left _ (List.mem_append_left _ (List.mem_append_right _ h)))
theorem iX6_tick_X5 : ∀ w ∈ wsX50, w ∈ wsX6_tick := fun _ h => List.mem_cons_of_mem _ (List.mem_append_left _ (List.mem_append_right _ h))
theorem iX6_tick_X0 : ∀ w ∈ wsX00, w ∈ wsX6_tick := fun _ h => List.mem_cons_of_mem _ (List.mem_append_right _ h)
set_option maxRecDepth 100000 in
set_option maxHeartbeats 4000000 in
theorem c_X6_tick (l : Launch) (dC : Nat → ClassId) (dI : Nat → Nat → Nat) (dA : Nat → ClassId) (κ : Nat → Nat) (B : Nat) (g : Nat → Nat → Int) (h0 : Nat) (k0 : κ h0 = 1) (n : Int32) (hG : hg_k g) : Met l yX6_tick wsX6_tick ({ frames := 4, cells := 0, slots := 0, locals := 91 } : Room) (hp_Pre dC dI dA κ B g [Value.ref h0, Value.int n]) (hp_Qi dC dI dA κ B (fun r u => hg_P hx_c g u ∧ hg_k u ∧ (((1 ≤ n.toInt ∧ n.toInt ≤ 5000) ∧ ((∀ j : Nat, j < 4 → g (5 + j) 0 = 0) → r.toInt = 0)) ∨ (¬ (1 ≤ n.toInt ∧ n.toInt ≤ 5000) ∧ r.toInt = -1)))) 0 0 (hp_A B) := by
  refine Met.ofW (cc := cX6_tick) (maxL := 6) (ret := (some .int)) (by decide) rfl ?_
  intro p e s m args below meth c s₁ Bd hml hv
  obtain ⟨rfl, hK, hN, hW, hF⟩ := hv
  have hx := Bd.exec
  have hb := Bd.bytes
  have hr := Bd.returns
  have hts := atoms_spec (ws := wsX6_tick) Bd.pre
  have hown : s.vm.findClass RX6 = some m.cls := findClass_of_methodNamed Bd.named
  have hlocks := Bd.notSynchronized
  have hJ : hp_J dC dI dA κ B g s.heap s.heap [] := ⟨hF, va_S.rf⟩
  have hl := lv_entry ([Value.ref h0, Value.int n]) (n := 6) (Nat.le_of_ble_eq_true rfl)
  rw [lg_entry_eq]
  generalize (lg_sl ([Value.ref h0, Value.int n]) ++ List.replicate (6 - (lg_sl ([Value.ref h0, Value.int n])).length) Slot.unset).toArray = ls at hl ⊢
  have hl : lv_has ls 6 [(0, .ref h0), (1, .int n)] := hl
  obtain ⟨hG1, hG2, hG3, hG4, hG5, hG6, hG7, hG8⟩ := id hG
  obtain ⟨dn, hdn⟩ : ∃ dn : Int, ((∀ j : Nat, j < 4 → g (5 + j) 0 = 0) → dn = 0) ∧ (dn = 0 → ∀ j : Nat, j < 4 → g (5 + j) 0 = 0) := by
    rcases Classical.em (∀ j : Nat, j < 4 → g (5 + j) 0 = 0) with h | h
    · exact ⟨0, fun _ => rfl, fun _ => h⟩
    · exact ⟨1, fun h2 => absurd h2 h, fun h2 => absurd h2 (by decide)⟩
  refine lv_iload_n hx hb dX6_tick_0 rfl (lv_at hl 1 rfl) ?_
  refine hq_iconst hx hb dX6_tick_1 (by decide) (by decide) (fun z1 ez1 => ?_)
  refine hq_icmp_lt (tgt := 12) hx hb dX6_tick_2 (by decide) (fun c2 => ?_) (fun c2 => ?_)
  · refine hq_iconst hx hb dX6_tick_12 (by decide) (by decide) (fun z3 ez3 => ?_)
    exact hp_iret hx hb hK hN hW hlocks hJ hr ⟨hg_P.rf, hG, by first | exact Or.inl ⟨by omega, fun h9 => by have := hdn.1 h9; omega⟩ | exact Or.inr ⟨by omega, by omega⟩⟩ dX6_tick_13
  · refine lv_iload_n hx hb dX6_tick_5 rfl (lv_at hl 1 rfl) ?_
    refine hq_sipush hx hb dX6_tick_6 (by decide) (fun z4 ez4 => ?_)
    refine hq_icmp_le (tgt := 14) hx hb dX6_tick_9 (by decide) (fun c5 => ?_) (fun c5 => ?_)
    · refine hq_iconst hx hb dX6_tick_14 (by decide) (by decide) (fun z6 ez6 => ?_)
      refine lv_istore_n (lv' := [(2, .int z6), (0, .ref h0), (1, .int n)]) hx hb dX6_tick_15 rfl hl (by decide) rfl (fun ls hl => ?_)
      refine hq_iconst hx hb dX6_tick_16 (by decide) (by decide) (fun z7 ez7 => ?_)
      refine lv_istore_n (lv' := [(3, .int z7), (2, .int z6), (0, .ref h0), (1, .int n)]) hx hb dX6_tick_17 rfl hl (by decide) rfl (fun ls hl => ?_)
      refine hq_iconst hx hb dX6_tick_18 (by decide) (by decide) (fun z8 ez8 => ?_)
      refine lv_istore (lv' := [(4, .int z8), (3, .int z7), (2, .int z6), (0, .ref h0), (1, .int n)]) hx hb dX6_tick_19 hl (by decide) rfl (fun ls hl => ?_)
      have lp13 : ∀ (n : Nat) (v9 : Int32) (v10 : Int32) (v11 : Int32) (g12 : Nat → Nat → Int) (H : Heap) (locs : List Loc) (ls : Array Slot), (hg_P hx_c g g12) → (hg_k g12) → (0 ≤ v11.toInt) → (v11.toInt ≤ n.toInt) → (dn = 0 → v9.toInt = 0) → (5001 - v11.toInt < (n : Int)) → hp_J dC dI dA κ B g12 s.heap H locs → lv_has ls 6 [(0, .ref h0), (1, .int n), (2, .int v9), (3, .int v10), (4, .int v11)] → W p l e (headSpec wsX6_tick ({ frames := 4, cells := 0, slots := 0, locals := 91 } : Room)).room s m ([Value.ref h0, Value.int n] : List Value).toArray below meth c H locs 0 0 (MQ below (hp_Qi dC dI dA κ B (fun r u => hg_P hx_c g u ∧ hg_k u ∧ (((1 ≤ n.toInt ∧ n.toInt ≤ 5000) ∧ ((∀ j : Nat, j < 4 → g (5 + j) 0 = 0) → r.toInt = 0)) ∨ (¬ (1 ≤ n.toInt ∧ n.toInt ≤ 5000) ∧ r.toInt = -1)))) ([Value.ref h0, Value.int n] : List Value).toArray s 0 0 (hp_A B)) (F0 m 21 ls []) := by
        intro n
        induction n with
        | zero => intro v9 v10 v11 g12 H locs ls iv15 iv16 iv17 iv18 iv19 hm14 hJ hl; exact absurd hm14 (by omega)
        | succ n ih =>
          intro v9 v10 v11 g12 H locs ls iv15 iv16 iv17 iv18 iv19 hm14 hJ hl
          obtain ⟨hG1, hG2, hG3, hG4, hG5, hG6, hG7, hG8⟩ := id iv16
          refine lv_iload hx hb dX6_tick_21 (lv_at hl 4 rfl) ?_
          refine lv_iload_n hx hb dX6_tick_23 rfl (lv_at hl 1 rfl) ?_
          refine hq_icmp_ge (tgt := 91) hx hb dX6_tick_24 (by decide) (fun c20 => ?_) (fun c20 => ?_)
          · refine lv_iload_n hx hb dX6_tick_91 rfl (lv_at hl 3 rfl) ?_
            refine hq_iconst hx hb dX6_tick_92 (by decide) (by decide) (fun z21 ez21 => ?_)
            refine hq_icmp_eq (tgt := 124) hx hb dX6_tick_93 (by decide) (fun c22 => ?_) (fun c22 => ?_)
            · refine lv_iload_n hx hb dX6_tick_124 rfl (lv_at hl 2 rfl) ?_
              exact hp_iret hx hb hK hN hW hlocks hJ hr ⟨iv15, iv16, by first | exact Or.inl ⟨by omega, fun h9 => by have := hdn.1 h9; omega⟩ | exact Or.inr ⟨by omega, by omega⟩⟩ dX6_tick_125
            · refine lv_aload_n hx hb dX6_tick_96 rfl (lv_at hl 0 rfl) ?_
              refine hp_getr (C := RX6) (T := TX6) (N := 12) (ci := 6) (kd := 1) hx hb hts iX6_tick_X6 hown hK hJ k0 rfl rfl 6 (by decide) (hts (.fieldLink RX6 43 "NeighborBook" "latest" "LNeighborBook$SentFrame;") (List.mem_of_getElem? (i := 6) rfl)) (fun _ h9 => h9) rfl dX6_tick_97 (fun b23 kb23 => ?_)
              refine lv_iload_n hx hb dX6_tick_100 rfl (lv_at hl 3 rfl) ?_
              refine lv_aload_n hx hb dX6_tick_101 rfl (lv_at hl 0 rfl) ?_
              refine hp_getr (C := RX6) (T := TX6) (N := 12) (ci := 6) (kd := 1) hx hb hts iX6_tick_X6 hown hK hJ k0 rfl rfl 2 (by decide) (hts (.fieldLink RX6 16 "NeighborBook" "told" "LNeighborBook$Contents;") (List.mem_of_getElem? (i := 7) rfl)) (fun _ h9 => h9) rfl dX6_tick_102 (fun b24 kb24 => ?_)
              refine lv_aload_n hx hb dX6_tick_105 rfl (lv_at hl 0 rfl) ?_
              refine hp_geti (C := RX6) (T := TX6) (N := 12) (ci := 6) (kd := 1) hx hb hts iX6_tick_X6 hown hK hJ k0 rfl rfl 7 (by decide) (hts (.fieldLink RX6 47 "NeighborBook" "interval" "I") (List.mem_of_getElem? (i := 5) rfl)) (fun _ h9 => h9) rfl rfl dX6_tick_106 (fun x25 ex25 => ?_)
              refine lv_aload_n hx hb dX6_tick_109 rfl (lv_at hl 0 rfl) ?_
              refine hp_geti (C := RX6) (T := TX6) (N := 12) (ci := 6) (kd := 1) hx hb hts iX6_tick_X6 hown hK hJ k0 rfl rfl 8 (by decide) (hts (.fieldLink RX6 51 "NeighborBook" "hold" "I") (List.mem_of_getElem? (i := 8) rfl)) (fun _ h9 => h9) rfl rfl dX6_tick_110 (fun x26 ex26 => ?_)
              refine hq_imulU hx hb dX6_tick_113 (fun x27 => ?_)
              refine hq_iconst hx hb dX6_tick_114 (by decide) (by decide) (fun z28 ez28 => ?_)
              refine hq_iaddU hx hb dX6_tick_115 (fun x29 => ?_)
              refine lv_ldc hx hb hown (hts (.constant RX6 124 (65535)) (List.mem_of_getElem? (i := 9) rfl)) dX6_tick_116 ?_
              refine lv_topi (fun z30 fz30 => ?_)
              have ez30 : z30.toInt = 65535 := by rw [fz30]; rfl
              refine va_mmin hx hb (hml.trans hl.1.symm) hown (hts (.methodLink RX6 125 Lib.Math.min.name) (List.mem_of_getElem? (i := 10) rfl)) (hts (.static Lib.Math.min.name) (List.mem_of_getElem? (i := 11) rfl)) (hts (.initialized "java/lang/Math") (List.mem_of_getElem? (i := 12) rfl)) (hts (.code Lib.Math.min.name Lib.Math.min.code 2 (some .int)) (List.mem_of_getElem? (i := 13) rfl)) (Nat.le_of_ble_eq_true rfl) (Nat.le_of_ble_eq_true rfl) (Nat.zero_le _) (Nat.zero_le _) dX6_tick_118 ?_
              refine lv_topi (fun x31 _ => ?_)
              refine hp_callv (va_runV (As := [.int v10, .ref b24, .int x31]) (rest := []) ⟨hx, hb, hml, hown, hts⟩ (c_X5_write l dC dI dA κ B g12 b23 kb23 v10 b24 kb24 x31 iv16) (cwV 3 hts gX6_tick_X5_write rfl rfl rfl (by decide +kernel) ⟨Nat.le_of_ble_eq_true rfl, Nat.le_of_ble_eq_true rfl⟩) (hp_preV (q := (RX5, TX5, 3)) [.int v10, .ref b24, .int x31] hK hN hW hJ kb23 rfl rfl) rfl rfl hl.1 rfl (lv_room (Nat.le_of_ble_eq_true rfl)) dX6_tick_121 ⟨Nat.zero_le _, Nat.zero_le _⟩) hJ (fun g32 H locs hp hJ => ?_)
              obtain ⟨P34a, K35⟩ := hp
              obtain ⟨K351, K352, K353, K354, K355, K356, K357, K358⟩ := id K35
              have P34 : hg_P hx_c g g32 := hg_P.tr iv15 P34a
              have qt36 : g32 1 1 = g12 1 1 := P34a 1 1 rfl
              have qt37 : g32 11 1 = g12 11 1 := P34a 11 1 rfl
              have qt38 : g32 11 13 = g12 11 13 := P34a 11 13 rfl
              have qt39 : g32 11 22 = g12 11 22 := P34a 11 22 rfl
              refine lv_iload_n hx hb dX6_tick_124 rfl (lv_at hl 2 rfl) ?_
              exact hp_iret hx hb hK hN hW hlocks hJ hr ⟨P34, K35, by first | exact Or.inl ⟨by omega, fun h9 => by have := hdn.1 h9; omega⟩ | exact Or.inr ⟨by omega, by omega⟩⟩ dX6_tick_125
          · refine lv_aload_n hx hb dX6_tick_27 rfl (lv_at hl 0 rfl) ?_
            refine lv_aload_n hx hb dX6_tick_28 rfl (lv_at hl 0 rfl) ?_
            refine hp_geti (C := RX6) (T := TX6) (N := 12) (ci := 6) (kd := 1) hx hb hts iX6_tick_X6 hown hK hJ k0 rfl rfl 10 (by decide) (hts (.fieldLink RX6 115 "NeighborBook" "ticks" "I") (List.mem_of_getElem? (i := 1) rfl)) (fun _ h9 => h9) rfl rfl dX6_tick_29 (fun x40 ex40 => ?_)
            have ex40 : x40.toInt = g12 1 10 := ex40
            refine hq_iconst hx hb dX6_tick_32 (by decide) (by decide) (fun z41 ez41 => ?_)
            refine hq_iaddU hx hb dX6_tick_33 (fun x42 => ?_)
            refine lv_ldc hx hb hown (hts (.constant RX6 118 (2147483647)) (List.mem_of_getElem? (i := 2) rfl)) dX6_tick_34 ?_
            refine lv_topi (fun z43 fz43 => ?_)
            have ez43 : z43.toInt = 2147483647 := by rw [fz43]; rfl
            refine hq_iandU hx hb dX6_tick_36 (fun x44 => ?_)
            refine hp_putx (C := RX6) (T := TX6) (N := 12) (ci := 6) (kd := 1) hx hb hts iX6_tick_X6 hown hK hJ k0 rfl rfl 10 (by decide) (hts (.fieldLink RX6 115 "NeighborBook" "ticks" "I") (List.mem_of_getElem? (i := 1) rfl)) (fun _ h9 => h9) tyX6 tyX6_ok nmX6 (x := x44) rfl rfl (by decide) hW rfl rfl rfl dX6_tick_37 (fun g45 H locs eg45 ng45 hJ => ?_)
            have eg45 : g45 1 10 = x44.toInt := eg45
            have P46 : hg_P hx_c g g45 := hg_P.put iv15 ng45 rfl
            have tt47 : g45 1 1 = g12 1 1 := ng45 1 1 (by decide)
            have tt48 : g45 10 1 = g12 10 1 := ng45 10 1 (by decide)
            have tt49 : g45 4 1 = g12 4 1 := ng45 4 1 (by decide)
            refine lv_aload_n hx hb dX6_tick_40 rfl (lv_at hl 0 rfl) ?_
            refine hp_getr (C := RX6) (T := TX6) (N := 12) (ci := 6) (kd := 1) hx hb hts iX6_tick_X6 hown hK hJ k0 rfl rfl 4 (by decide) (hts (.fieldLink RX6 29 "NeighborBook" "known" "LNeighborBook$Neighbors;") (List.mem_of_getElem? (i := 3) rfl)) (fun _ h9 => h9) rfl dX6_tick_41 (fun b50 kb50 => ?_)
            refine hp_callv (va_runV (As := []) (rest := []) ⟨hx, hb, hml, hown, hts⟩ (c_X3_passTick l dC dI dA κ B g45 b50 kb50 (hg_k.ofc hG P46 (by constructor <;> omega) (by constructor <;> omega) )) (cwV 0 hts gX6_tick_X3_passTick rfl rfl rfl (by decide +kernel) ⟨Nat.le_of_ble_eq_true rfl, Nat.le_of_ble_eq_true rfl⟩) (hp_preV (q := (RX3, TX3, 2)) [] hK hN hW hJ kb50 rfl rfl) rfl rfl hl.1 rfl (lv_room (Nat.le_of_ble_eq_true rfl)) dX6_tick_44 ⟨Nat.zero_le _, Nat.zero_le _⟩) hJ (fun g51 H locs hp hJ => ?_)
            obtain ⟨P53a, K54⟩ := hp
            obtain ⟨K541, K542, K543, K544, K545, K546, K547, K548⟩ := id K54
            have P53 : hg_P hx_c g g51 := hg_P.tr P46 P53a
            have qt55 : g51 1 1 = g45 1 1 := P53a 1 1 rfl
            have qt56 : g51 11 1 = g45 11 1 := P53a 11 1 rfl
            have qt57 : g51 11 13 = g45 11 13 := P53a 11 13 rfl
            have qt58 : g51 11 22 = g45 11 22 := P53a 11 22 rfl
            refine hq_iconst hx hb dX6_tick_47 (by decide) (by decide) (fun z59 ez59 => ?_)
            refine lv_istore (lv' := [(5, .int z59), (0, .ref h0), (1, .int n), (2, .int v9), (3, .int v10), (4, .int v11)]) hx hb dX6_tick_48 hl (by decide) rfl (fun ls hl => ?_)
            have lp64 : ∀ (n : Nat) (v60 : Int32) (v61 : Int32) (v62 : Int32) (g63 : Nat → Nat → Int) (H : Heap) (locs : List Loc) (ls : Array Slot), (hg_P hx_c g g63) → (hg_k g63) → (0 ≤ v62.toInt) → (v62.toInt ≤ 4) → (dn = 0 → v60.toInt = 0) → (5 - v62.toInt < (n : Int)) → hp_J dC dI dA κ B g63 s.heap H locs → lv_has ls 6 [(0, .ref h0), (1, .int n), (2, .int v60), (3, .int v61), (4, .int v11), (5, .int v62)] → W p l e (headSpec wsX6_tick ({ frames := 4, cells := 0, slots := 0, locals := 91 } : Room)).room s m ([Value.ref h0, Value.int n] : List Value).toArray below meth c H locs 0 0 (MQ below (hp_Qi dC dI dA κ B (fun r u => hg_P hx_c g u ∧ hg_k u ∧ (((1 ≤ n.toInt ∧ n.toInt ≤ 5000) ∧ ((∀ j : Nat, j < 4 → g (5 + j) 0 = 0) → r.toInt = 0)) ∨ (¬ (1 ≤ n.toInt ∧ n.toInt ≤ 5000) ∧ r.toInt = -1)))) ([Value.ref h0, Value.int n] : List Value).toArray s 0 0 (hp_A B)) (F0 m 50 ls []) := by
              intro n
              induction n with
              | zero => intro v60 v61 v62 g63 H locs ls iv66 iv67 iv68 iv69 iv70 hm65 hJ hl; exact absurd hm65 (by omega)
              | succ n ih =>
                intro v60 v61 v62 g63 H locs ls iv66 iv67 iv68 iv69 iv70 hm65 hJ hl
                obtain ⟨hG1, hG2, hG3, hG4, hG5, hG6, hG7, hG8⟩ := id iv67
                refine lv_iload hx hb dX6_tick_50 (lv_at hl 5 rfl) ?_
                refine hq_iconst hx hb dX6_tick_52 (by decide) (by decide) (fun z71 ez71 => ?_)
                refine hq_icmp_ge (tgt := 85) hx hb dX6_tick_53 (by decide) (fun c72 => ?_) (fun c72 => ?_)
                · refine hq_iinc (k := 4) (lv' := fun (z9 : Int32) => [(4, .int z9), (0, .ref h0), (1, .int n), (2, .int v60), (3, .int v61), (5, .int v62)]) hx hb dX6_tick_85 hl rfl (by decide) (by decide) (by omega) (by omega) (by decide) (fun _ => rfl) (fun x73 ls ex73 hl => ?_)
                  have hl : lv_has ls 6 [(4, .int x73), (0, .ref h0), (1, .int n), (2, .int v60), (3, .int v61), (5, .int v62)] := hl
                  refine lv_goto (tgt := 21) hx hb dX6_tick_88 (by decide) ?_
                  exact ih v60 v61 x73 g63 _ _ ls iv66 iv67 (by omega) (by omega) (by omega) (by omega) hJ (lv_sub hl [1, 2, 3, 4, 0] rfl)
                · refine lv_aload_n hx hb dX6_tick_56 rfl (lv_at hl 0 rfl) ?_
                  refine hp_getr (C := RX6) (T := TX6) (N := 12) (ci := 6) (kd := 1) hx hb hts iX6_tick_X6 hown hK hJ k0 rfl rfl 3 (by decide) (hts (.fieldLink RX6 22 "NeighborBook" "ports" "[LNeighborBook$Port;") (List.mem_of_getElem? (i := 4) rfl)) (fun _ h9 => h9) rfl dX6_tick_57 (fun b74 kb74 => ?_)
                  refine lv_iload hx hb dX6_tick_60 (lv_at hl 5 rfl) ?_
                  refine hp_aald3 (kd := 15) (n := 4) hx hb hK hJ kb74 rfl (by omega) (by omega) (hk_s15 (by omega)) dX6_tick_62 (fun b75 kb75 => ?_)
                  have hd1 : dn = 0 → g63 (5 + v62.toInt.toNat) 0 = 0 := fun h9 => (iv66 (5 + v62.toInt.toNat) 0 (hx_c50 (by omega))).trans (hdn.2 h9 _ (by omega))
                  refine lv_aload_n hx hb dX6_tick_63 rfl (lv_at hl 0 rfl) ?_
                  refine hp_geti (C := RX6) (T := TX6) (N := 12) (ci := 6) (kd := 1) hx hb hts iX6_tick_X6 hown hK hJ k0 rfl rfl 7 (by decide) (hts (.fieldLink RX6 47 "NeighborBook" "interval" "I") (List.mem_of_getElem? (i := 5) rfl)) (fun _ h9 => h9) rfl rfl dX6_tick_64 (fun x76 ex76 => ?_)
                  refine hp_calli (va_runV (As := [.int x76]) (rest := []) ⟨hx, hb, hml, hown, hts⟩ (c_X4_passTick l dC dI dA κ B g63 (v62.toInt.toNat) (by omega : v62.toInt.toNat < 4) b75 kb75 x76 iv67) (cwV 1 hts gX6_tick_X4_passTick rfl rfl rfl (by decide +kernel) ⟨Nat.le_of_ble_eq_true rfl, Nat.le_of_ble_eq_true rfl⟩) (hp_preV (q := (RX4, TX4, 6)) [.int x76] hK hN hW hJ kb75 (hk_t5 (by omega : v62.toInt.toNat < 4)) rfl) rfl rfl hl.1 rfl (lv_room (Nat.le_of_ble_eq_true rfl)) dX6_tick_67 ⟨Nat.zero_le _, Nat.zero_le _⟩) hJ (fun x78 g77 H locs hp hJ => ?_)
                  obtain ⟨P80a, K81, f79⟩ := hp
                  obtain ⟨K811, K812, K813, K814, K815, K816, K817, K818⟩ := id K81
                  have P80 : hg_P hx_c g g77 := hg_P.tr iv66 P80a
                  have qt82 : g77 1 1 = g63 1 1 := P80a 1 1 rfl
                  have qt83 : g77 11 1 = g63 11 1 := P80a 11 1 rfl
                  have qt84 : g77 11 13 = g63 11 13 := P80a 11 13 rfl
                  have qt85 : g77 11 22 = g63 11 22 := P80a 11 22 rfl
                  have hd2 : dn = 0 → x78.toInt = 0 := fun h9 => (f79.2 (hd1 h9)).1
                  refine hq_if_eq (tgt := 79) hx hb dX6_tick_70 (by decide) (fun c86 => ?_) (fun c86 => ?_)
                  · refine hq_iinc (k := 5) (lv' := fun (z9 : Int32) => [(5, .int z9), (0, .ref h0), (1, .int n), (2, .int v60), (3, .int v61), (4, .int v11)]) hx hb dX6_tick_79 hl rfl (by decide) (by decide) (by omega) (by omega) (by decide) (fun _ => rfl) (fun x87 ls ex87 hl => ?_)
                    have hl : lv_has ls 6 [(5, .int x87), (0, .ref h0), (1, .int n), (2, .int v60), (3, .int v61), (4, .int v11)] := hl
                    refine lv_goto (tgt := 50) hx hb dX6_tick_82 (by decide) ?_
                    exact ih v60 v61 x87 g77 _ _ ls P80 K81 (by omega) (by omega) (by omega) (by omega) hJ (lv_sub hl [1, 2, 3, 4, 5, 0] rfl)
                  · refine hq_iincU (k := 2) (lv' := fun (z9 : Int32) => [(2, .int z9), (0, .ref h0), (1, .int n), (3, .int v61), (4, .int v11), (5, .int v62)]) hx hb dX6_tick_73 hl rfl (by decide) (fun _ => rfl) (fun x88 ls hl => ?_)
                    have hl : lv_has ls 6 [(2, .int x88), (0, .ref h0), (1, .int n), (3, .int v61), (4, .int v11), (5, .int v62)] := hl
                    refine lv_iload hx hb dX6_tick_76 (lv_at hl 5 rfl) ?_
                    refine lv_istore_n (lv' := [(3, .int v62), (2, .int x88), (0, .ref h0), (1, .int n), (4, .int v11), (5, .int v62)]) hx hb dX6_tick_78 rfl hl (by decide) rfl (fun ls hl => ?_)
                    refine hq_iinc (k := 5) (lv' := fun (z9 : Int32) => [(5, .int z9), (3, .int v62), (2, .int x88), (0, .ref h0), (1, .int n), (4, .int v11)]) hx hb dX6_tick_79 hl rfl (by decide) (by decide) (by omega) (by omega) (by decide) (fun _ => rfl) (fun x89 ls ex89 hl => ?_)
                    have hl : lv_has ls 6 [(5, .int x89), (3, .int v62), (2, .int x88), (0, .ref h0), (1, .int n), (4, .int v11)] := hl
                    refine lv_goto (tgt := 50) hx hb dX6_tick_82 (by decide) ?_
                    exact ih x88 v62 x89 g77 _ _ ls P80 K81 (by omega) (by omega) (by omega) (by omega) hJ (lv_sub hl [3, 4, 2, 1, 5, 0] rfl)
            exact lp64 ((5 - z59.toInt).toNat + 1) v9 v10 z59 g51 _ _ ls P53 K54 (by omega) (by omega) (by omega) (by omega) hJ (lv_sub hl [1, 2, 3, 4, 5, 0] rfl)
      exact lp13 ((5001 - z8.toInt).toNat + 1) z6 z7 z8 g _ _ ls hg_P.rf hG (by omega) (by omega) (by omega) (by omega) hJ (lv_sub hl [3, 4, 2, 1, 0] rfl)
    · refine hq_iconst hx hb dX6_tick_12 (by decide) (by decide) (fun z90 ez90 => ?_)
      exact hp_iret hx hb hK hN hW hlocks hJ hr ⟨hg_P.rf, hG, by first | exact Or.inl ⟨by omega, fun h9 => by have := hdn.1 h9; omega⟩ | exact Or.inr ⟨by omega, by omega⟩⟩ dX6_tick_13
theorem iX6_about_X6 : ∀ w ∈ wsX60, w ∈ wsX6_about := fun _ h => List.mem_cons_of_mem _ (List.mem_append_left _ (List.mem_append_left _ (List.mem_append_left _ (List.mem_append_right _ h))))
theorem iX6_about_X3 : ∀ w ∈ wsX30, w ∈ wsX6_about := fun _ h => List.mem_cons_of_mem _ (List.mem_append_left _ (List.mem_append_left _ (List.mem_append_right _ h)))
theorem iX6_about_X2 : ∀ w ∈ wsX20, w ∈ wsX6_about := fun _ h => List.mem_cons_of_mem _ (List.mem_append_left _ (List.mem_append_right _ h))
theorem iX6_about_X4 : ∀ w ∈ wsX40, w ∈ wsX6_about := fun _ h => List.mem_cons_of_mem _ (List.mem_append_right _ h)
set_option maxRecDepth 100000 in
set_option maxHeartbeats 4000000 in
theorem c_X6_about (l : Launch) (dC : Nat → ClassId) (dI : Nat → Nat → Nat) (dA : Nat → ClassId) (κ : Nat → Nat) (B : Nat) (g : Nat → Nat → Int) (h0 : Nat) (k0 : κ h0 = 1) (p1 : Int32) (what : Int32) (hG : hg_k g) : Met l yX6_about wsX6_about ({ frames := 2, cells := 0, slots := 0, locals := 43 } : Room) (hp_Pre dC dI dA κ B g [Value.ref h0, Value.int p1, Value.int what]) (hp_Qi dC dI dA κ B (fun r u => g = u ∧ ((0 ≤ p1.toInt ∧ p1.toInt < 4 ∧ ((what.toInt = 0 ∧ r.toInt = g (5 + p1.toInt.toNat) 0) ∨ (what.toInt = 1 ∧ r.toInt = g (5 + p1.toInt.toNat) 3) ∨ (what.toInt = 2 ∧ r.toInt = g (5 + p1.toInt.toNat) 4) ∨ (what.toInt = 3 ∧ r.toInt = g (5 + p1.toInt.toNat) 5) ∨ (what.toInt = 4 ∧ (g 10 1 = 0 → r.toInt = 0)) ∨ (what.toInt = 5 ∧ r.toInt = g (5 + p1.toInt.toNat) 1) ∨ (what.toInt = 6 ∧ r.toInt = g (5 + p1.toInt.toNat) 2) ∨ ((what.toInt < 0 ∨ 6 < what.toInt) ∧ r.toInt = -1))) ∨ ((p1.toInt < 0 ∨ 4 ≤ p1.toInt) ∧ r.toInt = -1)))) 0 0 (hp_A B) := by
  refine Met.ofW (cc := cX6_about) (maxL := 3) (ret := (some .int)) (by decide) rfl ?_
  intro p e s m args below meth c s₁ Bd hml hv
  obtain ⟨rfl, hK, hN, hW, hF⟩ := hv
  have hx := Bd.exec
  have hb := Bd.bytes
  have hr := Bd.returns
  have hts := atoms_spec (ws := wsX6_about) Bd.pre
  have hown : s.vm.findClass RX6 = some m.cls := findClass_of_methodNamed Bd.named
  have hlocks := Bd.notSynchronized
  have hJ : hp_J dC dI dA κ B g s.heap s.heap [] := ⟨hF, va_S.rf⟩
  have hl := lv_entry ([Value.ref h0, Value.int p1, Value.int what]) (n := 3) (Nat.le_of_ble_eq_true rfl)
  rw [lg_entry_eq]
  generalize (lg_sl ([Value.ref h0, Value.int p1, Value.int what]) ++ List.replicate (3 - (lg_sl ([Value.ref h0, Value.int p1, Value.int what])).length) Slot.unset).toArray = ls at hl ⊢
  have hl : lv_has ls 3 [(0, .ref h0), (1, .int p1), (2, .int what)] := hl
  obtain ⟨hG1, hG2, hG3, hG4, hG5, hG6, hG7, hG8⟩ := id hG
  refine lv_iload_n hx hb dX6_about_0 rfl (lv_at hl 1 rfl) ?_
  refine hp_calli (va_runS (As := [.int p1]) (rest := []) ⟨hx, hb, hml, hown, hts⟩ (c_X6_isPort l dC dI dA κ B g p1) (va_cwS 1 hts gX6_about_X6_isPort rfl rfl rfl (by decide +kernel) ⟨Nat.le_of_ble_eq_true rfl, Nat.le_of_ble_eq_true rfl⟩) (hp_preS [.int p1] hK hN hW hJ) rfl rfl hl.1 rfl (lv_room (Nat.le_of_ble_eq_true rfl)) dX6_about_1 ⟨Nat.zero_le _, Nat.zero_le _⟩) hJ (fun x2 g1 H locs hp hJ => ?_)
  obtain ⟨rfl, f3⟩ := hp
  refine hq_if_ne (tgt := 9) hx hb dX6_about_4 (by decide) (fun c4 => ?_) (fun c4 => ?_)
  · refine lv_iload_n hx hb dX6_about_9 rfl (lv_at hl 2 rfl) ?_
    refine hq_iconst hx hb dX6_about_10 (by decide) (by decide) (fun z5 ez5 => ?_)
    refine hq_icmp_ne (tgt := 23) hx hb dX6_about_11 (by decide) (fun c6 => ?_) (fun c6 => ?_)
    · refine lv_aload_n hx hb dX6_about_23 rfl (lv_at hl 0 rfl) ?_
      refine hp_getr (C := RX6) (T := TX6) (N := 12) (ci := 6) (kd := 1) hx hb hts iX6_about_X6 hown hK hJ k0 rfl rfl 3 (by decide) (hts (.fieldLink RX6 22 "NeighborBook" "ports" "[LNeighborBook$Port;") (List.mem_of_getElem? (i := 2) rfl)) (fun _ h9 => h9) rfl dX6_about_24 (fun b7 kb7 => ?_)
      refine lv_iload_n hx hb dX6_about_27 rfl (lv_at hl 1 rfl) ?_
      refine hp_aald3 (kd := 15) (n := 4) hx hb hK hJ kb7 rfl (by omega) (by omega) (hk_s15 (by omega)) dX6_about_28 (fun b8 kb8 => ?_)
      refine lv_iload_n hx hb dX6_about_29 rfl (lv_at hl 2 rfl) ?_
      refine hp_calli (va_runV (As := [.int what]) (rest := []) ⟨hx, hb, hml, hown, hts⟩ (c_X4_tellAbout l dC dI dA κ B g (p1.toInt.toNat) (by omega : p1.toInt.toNat < 4) b8 kb8 what hG) (cwV 1 hts gX6_about_X4_tellAbout rfl rfl rfl (by decide +kernel) ⟨Nat.le_of_ble_eq_true rfl, Nat.le_of_ble_eq_true rfl⟩) (hp_preV (q := (RX4, TX4, 6)) [.int what] hK hN hW hJ kb8 (hk_t5 (by omega : p1.toInt.toNat < 4)) rfl) rfl rfl hl.1 rfl (lv_room (Nat.le_of_ble_eq_true rfl)) dX6_about_30 ⟨Nat.zero_le _, Nat.zero_le _⟩) hJ (fun x10 g9 H locs hp hJ => ?_)
      obtain ⟨rfl, f11⟩ := hp
      exact hp_iret hx hb hK hN hW hlocks hJ hr ⟨rfl, by omega⟩ dX6_about_33
    · refine lv_aload_n hx hb dX6_about_14 rfl (lv_at hl 0 rfl) ?_
      refine hp_getr (C := RX6) (T := TX6) (N := 12) (ci := 6) (kd := 1) hx hb hts iX6_about_X6 hown hK hJ k0 rfl rfl 4 (by decide) (hts (.fieldLink RX6 29 "NeighborBook" "known" "LNeighborBook$Neighbors;") (List.mem_of_getElem? (i := 1) rfl)) (fun _ h9 => h9) rfl dX6_about_15 (fun b12 kb12 => ?_)
      refine lv_iload_n hx hb dX6_about_18 rfl (lv_at hl 1 rfl) ?_
      refine hp_calli (va_runV (As := [.int p1]) (rest := []) ⟨hx, hb, hml, hown, hts⟩ (c_X3_sizeAt l dC dI dA κ B g b12 kb12 p1 hG) (cwV 1 hts gX6_about_X3_sizeAt rfl rfl rfl (by decide +kernel) ⟨Nat.le_of_ble_eq_true rfl, Nat.le_of_ble_eq_true rfl⟩) (hp_preV (q := (RX3, TX3, 2)) [.int p1] hK hN hW hJ kb12 rfl rfl) rfl rfl hl.1 rfl (lv_room (Nat.le_of_ble_eq_true rfl)) dX6_about_19 ⟨Nat.zero_le _, Nat.zero_le _⟩) hJ (fun x14 g13 H locs hp hJ => ?_)
      obtain ⟨rfl, f15⟩ := hp
      exact hp_iret hx hb hK hN hW hlocks hJ hr ⟨rfl, by omega⟩ dX6_about_22
  · refine hq_iconst hx hb dX6_about_7 (by decide) (by decide) (fun z16 ez16 => ?_)
    exact hp_iret hx hb hK hN hW hlocks hJ hr ⟨rfl, by omega⟩ dX6_about_8
theorem iX6_count_X6 : ∀ w ∈ wsX60, w ∈ wsX6_count := fun _ h => List.mem_cons_of_mem _ (List.mem_append_left _ (List.mem_append_left _ (List.mem_append_right _ h)))
theorem iX6_count_X3 : ∀ w ∈ wsX30, w ∈ wsX6_count := fun _ h => List.mem_cons_of_mem _ (List.mem_append_left _ (List.mem_append_right _ h))
theorem iX6_count_X5 : ∀ w ∈ wsX50, w ∈ wsX6_count := fun _ h => List.mem_cons_of_mem _ (List.mem_append_right _ h)
set_option maxRecDepth 100000 in
set_option maxHeartbeats 4000000 in
theorem c_X6_count (l : Launch) (dC : Nat → ClassId) (dI : Nat → Nat → Nat) (dA : Nat → ClassId) (κ : Nat → Nat) (B : Nat) (g : Nat → Nat → Int) (h0 : Nat) (k0 : κ h0 = 1) (what : Int32) (hG : hg_k g) : Met l yX6_count wsX6_count ({ frames := 1, cells := 0, slots := 0, locals := 20 } : Room) (hp_Pre dC dI dA κ B g [Value.ref h0, Value.int what]) (hp_Qi dC dI dA κ B (fun r u => g = u ∧ ((what.toInt = 0 ∧ r.toInt = g 10 1) ∨ (what.toInt = 1 ∧ r.toInt = g 1 10) ∨ (what.toInt = 2 ∧ r.toInt = g 1 11) ∨ (what.toInt = 3 ∧ r.toInt = g 1 1) ∨ (what.toInt = 4 ∧ r.toInt = g 4 2) ∨ (what.toInt = 5 ∧ r.toInt = g 4 1) ∨ ((what.toInt < 0 ∨ 5 < what.toInt) ∧ r.toInt = -1)))) 0 0 (hp_A B) := by
  refine Met.ofW (cc := cX6_count) (maxL := 2) (ret := (some .int)) (by decide) rfl ?_
  intro p e s m args below meth c s₁ Bd hml hv
  obtain ⟨rfl, hK, hN, hW, hF⟩ := hv
  have hx := Bd.exec
  have hb := Bd.bytes
  have hr := Bd.returns
  have hts := atoms_spec (ws := wsX6_count) Bd.pre
  have hown : s.vm.findClass RX6 = some m.cls := findClass_of_methodNamed Bd.named
  have hlocks := Bd.notSynchronized
  have hJ : hp_J dC dI dA κ B g s.heap s.heap [] := ⟨hF, va_S.rf⟩
  have hl := lv_entry ([Value.ref h0, Value.int what]) (n := 2) (Nat.le_of_ble_eq_true rfl)
  rw [lg_entry_eq]
  generalize (lg_sl ([Value.ref h0, Value.int what]) ++ List.replicate (2 - (lg_sl ([Value.ref h0, Value.int what])).length) Slot.unset).toArray = ls at hl ⊢
  have hl : lv_has ls 2 [(0, .ref h0), (1, .int what)] := hl
  obtain ⟨hG1, hG2, hG3, hG4, hG5, hG6, hG7, hG8⟩ := id hG
  refine lv_iload_n hx hb dX6_count_0 rfl (lv_at hl 1 rfl) ?_
  have h1 : (what.toInt < 0 ∨ 5 < what.toInt) ∨ what.toInt = 0 ∨ what.toInt = 1 ∨ what.toInt = 2 ∨ what.toInt = 3 ∨ what.toInt = 4 ∨ what.toInt = 5 := by omega
  rcases h1 with h1 | h1 | h1 | h1 | h1 | h1 | h1
  · refine lv_tableOut (tgt := 79) hx hb dX6_count_1 h1 (by decide) ?_
    refine hq_iconst hx hb dX6_count_79 (by decide) (by decide) (fun z2 ez2 => ?_)
    exact hp_iret hx hb hK hN hW hlocks hJ hr ⟨rfl, by omega⟩ dX6_count_80
  · refine lv_tableIn (off := 39) (tgt := 40) hx hb dX6_count_1 (by omega) (by omega) (by rw [h1]; rfl) (by decide) ?_
    refine lv_aload_n hx hb dX6_count_40 rfl (lv_at hl 0 rfl) ?_
    refine hp_getr (C := RX6) (T := TX6) (N := 12) (ci := 6) (kd := 1) hx hb hts iX6_count_X6 hown hK hJ k0 rfl rfl 4 (by decide) (hts (.fieldLink RX6 29 "NeighborBook" "known" "LNeighborBook$Neighbors;") (List.mem_of_getElem? (i := 1) rfl)) (fun _ h9 => h9) rfl dX6_count_41 (fun b3 kb3 => ?_)
    refine hp_calli (va_runV (As := []) (rest := []) ⟨hx, hb, hml, hown, hts⟩ (c_X3_size l dC dI dA κ B g b3 kb3) (cwV 0 hts gX6_count_X3_size rfl rfl rfl (by decide +kernel) ⟨Nat.le_of_ble_eq_true rfl, Nat.le_of_ble_eq_true rfl⟩) (hp_preV (q := (RX3, TX3, 2)) [] hK hN hW hJ kb3 rfl rfl) rfl rfl hl.1 rfl (lv_room (Nat.le_of_ble_eq_true rfl)) dX6_count_44 ⟨Nat.zero_le _, Nat.zero_le _⟩) hJ (fun x5 g4 H locs hp hJ => ?_)
    obtain ⟨rfl, f6⟩ := hp
    exact hp_iret hx hb hK hN hW hlocks hJ hr ⟨rfl, by omega⟩ dX6_count_47
  · refine lv_tableIn (off := 47) (tgt := 48) hx hb dX6_count_1 (by omega) (by omega) (by rw [h1]; rfl) (by decide) ?_
    refine lv_aload_n hx hb dX6_count_48 rfl (lv_at hl 0 rfl) ?_
    refine hp_geti (C := RX6) (T := TX6) (N := 12) (ci := 6) (kd := 1) hx hb hts iX6_count_X6 hown hK hJ k0 rfl rfl 10 (by decide) (hts (.fieldLink RX6 115 "NeighborBook" "ticks" "I") (List.mem_of_getElem? (i := 2) rfl)) (fun _ h9 => h9) rfl rfl dX6_count_49 (fun x7 ex7 => ?_)
    have ex7 : x7.toInt = g 1 10 := ex7
    exact hp_iret hx hb hK hN hW hlocks hJ hr ⟨rfl, by omega⟩ dX6_count_52
  · refine lv_tableIn (off := 52) (tgt := 53) hx hb dX6_count_1 (by omega) (by omega) (by rw [h1]; rfl) (by decide) ?_
    refine lv_aload_n hx hb dX6_count_53 rfl (lv_at hl 0 rfl) ?_
    refine hp_geti (C := RX6) (T := TX6) (N := 12) (ci := 6) (kd := 1) hx hb hts iX6_count_X6 hown hK hJ k0 rfl rfl 11 (by decide) (hts (.fieldLink RX6 112 "NeighborBook" "latestFault" "I") (List.mem_of_getElem? (i := 3) rfl)) (fun _ h9 => h9) rfl rfl dX6_count_54 (fun x8 ex8 => ?_)
    have ex8 : x8.toInt = g 1 11 := ex8
    exact hp_iret hx hb hK hN hW hlocks hJ hr ⟨rfl, by omega⟩ dX6_count_57
  · refine lv_tableIn (off := 57) (tgt := 58) hx hb dX6_count_1 (by omega) (by omega) (by rw [h1]; rfl) (by decide) ?_
    refine lv_aload_n hx hb dX6_count_58 rfl (lv_at hl 0 rfl) ?_
    refine hp_geti (C := RX6) (T := TX6) (N := 12) (ci := 6) (kd := 1) hx hb hts iX6_count_X6 hown hK hJ k0 rfl rfl 1 (by decide) (hts (.fieldLink RX6 65 "NeighborBook" "typedCount" "I") (List.mem_of_getElem? (i := 4) rfl)) (fun _ h9 => h9) rfl rfl dX6_count_59 (fun x9 ex9 => ?_)
    have ex9 : x9.toInt = g 1 1 := ex9
    exact hp_iret hx hb hK hN hW hlocks hJ hr ⟨rfl, by omega⟩ dX6_count_62
  · refine lv_tableIn (off := 62) (tgt := 63) hx hb dX6_count_1 (by omega) (by omega) (by rw [h1]; rfl) (by decide) ?_
    refine lv_aload_n hx hb dX6_count_63 rfl (lv_at hl 0 rfl) ?_
    refine hp_getr (C := RX6) (T := TX6) (N := 12) (ci := 6) (kd := 1) hx hb hts iX6_count_X6 hown hK hJ k0 rfl rfl 6 (by decide) (hts (.fieldLink RX6 43 "NeighborBook" "latest" "LNeighborBook$SentFrame;") (List.mem_of_getElem? (i := 5) rfl)) (fun _ h9 => h9) rfl dX6_count_64 (fun b10 kb10 => ?_)
    refine hp_calli (va_runV (As := []) (rest := []) ⟨hx, hb, hml, hown, hts⟩ (c_X5_portOf l dC dI dA κ B g b10 kb10) (cwV 0 hts gX6_count_X5_portOf rfl rfl rfl (by decide +kernel) ⟨Nat.le_of_ble_eq_true rfl, Nat.le_of_ble_eq_true rfl⟩) (hp_preV (q := (RX5, TX5, 3)) [] hK hN hW hJ kb10 rfl rfl) rfl rfl hl.1 rfl (lv_room (Nat.le_of_ble_eq_true rfl)) dX6_count_67 ⟨Nat.zero_le _, Nat.zero_le _⟩) hJ (fun x12 g11 H locs hp hJ => ?_)
    obtain ⟨rfl, f13⟩ := hp
    exact hp_iret hx hb hK hN hW hlocks hJ hr ⟨rfl, by omega⟩ dX6_count_70
  · refine lv_tableIn (off := 70) (tgt := 71) hx hb dX6_count_1 (by omega) (by omega) (by rw [h1]; rfl) (by decide) ?_
    refine lv_aload_n hx hb dX6_count_71 rfl (lv_at hl 0 rfl) ?_
    refine hp_getr (C := RX6) (T := TX6) (N := 12) (ci := 6) (kd := 1) hx hb hts iX6_count_X6 hown hK hJ k0 rfl rfl 6 (by decide) (hts (.fieldLink RX6 43 "NeighborBook" "latest" "LNeighborBook$SentFrame;") (List.mem_of_getElem? (i := 5) rfl)) (fun _ h9 => h9) rfl dX6_count_72 (fun b14 kb14 => ?_)
    refine hp_calli (va_runV (As := []) (rest := []) ⟨hx, hb, hml, hown, hts⟩ (c_X5_length l dC dI dA κ B g b14 kb14) (cwV 0 hts gX6_count_X5_length rfl rfl rfl (by decide +kernel) ⟨Nat.le_of_ble_eq_true rfl, Nat.le_of_ble_eq_true rfl⟩) (hp_preV (q := (RX5, TX5, 3)) [] hK hN hW hJ kb14 rfl rfl) rfl rfl hl.1 rfl (lv_room (Nat.le_of_ble_eq_true rfl)) dX6_count_75 ⟨Nat.zero_le _, Nat.zero_le _⟩) hJ (fun x16 g15 H locs hp hJ => ?_)
    obtain ⟨rfl, f17⟩ := hp
    exact hp_iret hx hb hK hN hW hlocks hJ hr ⟨rfl, by omega⟩ dX6_count_78
theorem iX6_sent_X6 : ∀ w ∈ wsX60, w ∈ wsX6_sent := fun _ h => List.mem_cons_of_mem _ (List.mem_append_left _ (List.mem_append_right _ h))
theorem iX6_sent_X5 : ∀ w ∈ wsX50, w ∈ wsX6_sent := fun _ h => List.mem_cons_of_mem _ (List.mem_append_right _ h)
set_option maxRecDepth 100000 in
set_option maxHeartbeats 4000000 in
theorem c_X6_sent (l : Launch) (dC : Nat → ClassId) (dI : Nat → Nat → Nat) (dA : Nat → ClassId) (κ : Nat → Nat) (B : Nat) (g : Nat → Nat → Int) (h0 : Nat) (k0 : κ h0 = 1) (k : Int32) (hG : hg_k g) : Met l yX6_sent wsX6_sent ({ frames := 1, cells := 0, slots := 0, locals := 21 } : Room) (hp_Pre dC dI dA κ B g [Value.ref h0, Value.int k]) (hp_Qi dC dI dA κ B (fun r u => g = u ∧ (g 4 1 = 0 → r.toInt = -1))) 0 0 (hp_A B) := by
  refine Met.ofW (cc := cX6_sent) (maxL := 2) (ret := (some .int)) (by decide) rfl ?_
  intro p e s m args below meth c s₁ Bd hml hv
  obtain ⟨rfl, hK, hN, hW, hF⟩ := hv
  have hx := Bd.exec
  have hb := Bd.bytes
  have hr := Bd.returns
  have hts := atoms_spec (ws := wsX6_sent) Bd.pre
  have hown : s.vm.findClass RX6 = some m.cls := findClass_of_methodNamed Bd.named
  have hlocks := Bd.notSynchronized
  have hJ : hp_J dC dI dA κ B g s.heap s.heap [] := ⟨hF, va_S.rf⟩
  have hl := lv_entry ([Value.ref h0, Value.int k]) (n := 2) (Nat.le_of_ble_eq_true rfl)
  rw [lg_entry_eq]
  generalize (lg_sl ([Value.ref h0, Value.int k]) ++ List.replicate (2 - (lg_sl ([Value.ref h0, Value.int k])).length) Slot.unset).toArray = ls at hl ⊢
  have hl : lv_has ls 2 [(0, .ref h0), (1, .int k)] := hl
  obtain ⟨hG1, hG2, hG3, hG4, hG5, hG6, hG7, hG8⟩ := id hG
  refine lv_aload_n hx hb dX6_sent_0 rfl (lv_at hl 0 rfl) ?_
  refine hp_getr (C := RX6) (T := TX6) (N := 12) (ci := 6) (kd := 1) hx hb hts iX6_sent_X6 hown hK hJ k0 rfl rfl 6 (by decide) (hts (.fieldLink RX6 43 "NeighborBook" "latest" "LNeighborBook$SentFrame;") (List.mem_of_getElem? (i := 1) rfl)) (fun _ h9 => h9) rfl dX6_sent_1 (fun b1 kb1 => ?_)
  refine lv_iload_n hx hb dX6_sent_4 rfl (lv_at hl 1 rfl) ?_
  refine hp_calli (va_runV (As := [.int k]) (rest := []) ⟨hx, hb, hml, hown, hts⟩ (c_X5_byteAt l dC dI dA κ B g b1 kb1 k hG) (cwV 1 hts gX6_sent_X5_byteAt rfl rfl rfl (by decide +kernel) ⟨Nat.le_of_ble_eq_true rfl, Nat.le_of_ble_eq_true rfl⟩) (hp_preV (q := (RX5, TX5, 3)) [.int k] hK hN hW hJ kb1 rfl rfl) rfl rfl hl.1 rfl (lv_room (Nat.le_of_ble_eq_true rfl)) dX6_sent_5 ⟨Nat.zero_le _, Nat.zero_le _⟩) hJ (fun x3 g2 H locs hp hJ => ?_)
  obtain ⟨rfl, f4⟩ := hp
  exact hp_iret hx hb hK hN hW hlocks hJ hr ⟨rfl, by omega⟩ dX6_sent_8
theorem iX6_neighbor_X6 : ∀ w ∈ wsX60, w ∈ wsX6_neighbor := fun _ h => List.mem_cons_of_mem _ (List.mem_append_left _ (List.mem_append_left _ (List.mem_append_left _ (List.mem_append_right _ h))))
theorem iX6_neighbor_X3 : ∀ w ∈ wsX30, w ∈ wsX6_neighbor := fun _ h => List.mem_cons_of_mem _ (List.mem_append_left _ (List.mem_append_left _ (List.mem_append_right _ h)))
theorem iX6_neighbor_X2 : ∀ w ∈ wsX20, w ∈ wsX6_neighbor := fun _ h => List.mem_cons_of_mem _ (List.mem_append_left _ (List.mem_append_right _ h))
theorem iX6_neighbor_X0 : ∀ w ∈ wsX00, w ∈ wsX6_neighbor := fun _ h => List.mem_cons_of_mem _ (List.mem_append_right _ h)
set_option maxRecDepth 100000 in
set_option maxHeartbeats 4000000 in
theorem c_X6_neighbor (l : Launch) (dC : Nat → ClassId) (dI : Nat → Nat → Nat) (dA : Nat → ClassId) (κ : Nat → Nat) (B : Nat) (g : Nat → Nat → Int) (h0 : Nat) (k0 : κ h0 = 1) (i : Int32) (what : Int32) (hG : hg_k g) : Met l yX6_neighbor wsX6_neighbor ({ frames := 4, cells := 0, slots := 0, locals := 85 } : Room) (hp_Pre dC dI dA κ B g [Value.ref h0, Value.int i, Value.int what]) (hp_Qi dC dI dA κ B (fun r u => g = u ∧ (g 10 1 = 0 → r.toInt = -1))) 0 0 (hp_A B) := by
  refine Met.ofW (cc := cX6_neighbor) (maxL := 3) (ret := (some .int)) (by decide) rfl ?_
  intro p e s m args below meth c s₁ Bd hml hv
  obtain ⟨rfl, hK, hN, hW, hF⟩ := hv
  have hx := Bd.exec
  have hb := Bd.bytes
  have hr := Bd.returns
  have hts := atoms_spec (ws := wsX6_neighbor) Bd.pre
  have hown : s.vm.findClass RX6 = some m.cls := findClass_of_methodNamed Bd.named
  have hlocks := Bd.notSynchronized
  have hJ : hp_J dC dI dA κ B g s.heap s.heap [] := ⟨hF, va_S.rf⟩
  have hl := lv_entry ([Value.ref h0, Value.int i, Value.int what]) (n := 3) (Nat.le_of_ble_eq_true rfl)
  rw [lg_entry_eq]
  generalize (lg_sl ([Value.ref h0, Value.int i, Value.int what]) ++ List.replicate (3 - (lg_sl ([Value.ref h0, Value.int i, Value.int what])).length) Slot.unset).toArray = ls at hl ⊢
  have hl : lv_has ls 3 [(0, .ref h0), (1, .int i), (2, .int what)] := hl
  obtain ⟨hG1, hG2, hG3, hG4, hG5, hG6, hG7, hG8⟩ := id hG
  refine lv_aload_n hx hb dX6_neighbor_0 rfl (lv_at hl 0 rfl) ?_
  refine hp_getr (C := RX6) (T := TX6) (N := 12) (ci := 6) (kd := 1) hx hb hts iX6_neighbor_X6 hown hK hJ k0 rfl rfl 4 (by decide) (hts (.fieldLink RX6 29 "NeighborBook" "known" "LNeighborBook$Neighbors;") (List.mem_of_getElem? (i := 1) rfl)) (fun _ h9 => h9) rfl dX6_neighbor_1 (fun b1 kb1 => ?_)
  refine lv_iload_n hx hb dX6_neighbor_4 rfl (lv_at hl 1 rfl) ?_
  refine hp_calli (va_runV (As := [.int i]) (rest := []) ⟨hx, hb, hml, hown, hts⟩ (c_X3_has l dC dI dA κ B g b1 kb1 i) (cwV 1 hts gX6_neighbor_X3_has rfl rfl rfl (by decide +kernel) ⟨Nat.le_of_ble_eq_true rfl, Nat.le_of_ble_eq_true rfl⟩) (hp_preV (q := (RX3, TX3, 2)) [.int i] hK hN hW hJ kb1 rfl rfl) rfl rfl hl.1 rfl (lv_room (Nat.le_of_ble_eq_true rfl)) dX6_neighbor_5 ⟨Nat.zero_le _, Nat.zero_le _⟩) hJ (fun x3 g2 H locs hp hJ => ?_)
  obtain ⟨rfl, f4⟩ := hp
  refine hq_if_ne (tgt := 13) hx hb dX6_neighbor_8 (by decide) (fun c5 => ?_) (fun c5 => ?_)
  · refine lv_aload_n hx hb dX6_neighbor_13 rfl (lv_at hl 0 rfl) ?_
    refine hp_getr (C := RX6) (T := TX6) (N := 12) (ci := 6) (kd := 1) hx hb hts iX6_neighbor_X6 hown hK hJ k0 rfl rfl 4 (by decide) (hts (.fieldLink RX6 29 "NeighborBook" "known" "LNeighborBook$Neighbors;") (List.mem_of_getElem? (i := 1) rfl)) (fun _ h9 => h9) rfl dX6_neighbor_14 (fun b6 kb6 => ?_)
    refine lv_iload_n hx hb dX6_neighbor_17 rfl (lv_at hl 1 rfl) ?_
    refine hp_callr (va_runV (As := [.int i]) (rest := []) ⟨hx, hb, hml, hown, hts⟩ (c_X3_at l dC dI dA κ B g b6 kb6 i (by omega) (by omega)) (cwV 1 hts gX6_neighbor_X3_at rfl rfl rfl (by decide +kernel) ⟨Nat.le_of_ble_eq_true rfl, Nat.le_of_ble_eq_true rfl⟩) (hp_preV (q := (RX3, TX3, 2)) [.int i] hK hN hW hJ kb6 rfl rfl) rfl rfl hl.1 rfl (lv_room (Nat.le_of_ble_eq_true rfl)) dX6_neighbor_18 ⟨Nat.zero_le _, Nat.zero_le _⟩) hJ (fun b8 g7 H locs kb8 hp hJ => ?_)
    subst hp
    refine lv_iload_n hx hb dX6_neighbor_21 rfl (lv_at hl 2 rfl) ?_
    refine hp_calli (va_runV (As := [.int what]) (rest := []) ⟨hx, hb, hml, hown, hts⟩ (c_X2_tellAbout l dC dI dA κ B g b8 kb8 what) (cwV 1 hts gX6_neighbor_X2_tellAbout rfl rfl rfl (by decide +kernel) ⟨Nat.le_of_ble_eq_true rfl, Nat.le_of_ble_eq_true rfl⟩) (hp_preV (q := (RX2, TX2, 4)) [.int what] hK hN hW hJ kb8 rfl rfl) rfl rfl hl.1 rfl (lv_room (Nat.le_of_ble_eq_true rfl)) dX6_neighbor_22 ⟨Nat.zero_le _, Nat.zero_le _⟩) hJ (fun x10 g9 H locs hp hJ => ?_)
    subst hp
    exact hp_iret hx hb hK hN hW hlocks hJ hr ⟨rfl, by omega⟩ dX6_neighbor_25
  · refine hq_iconst hx hb dX6_neighbor_11 (by decide) (by decide) (fun z11 ez11 => ?_)
    exact hp_iret hx hb hK hN hW hlocks hJ hr ⟨rfl, by omega⟩ dX6_neighbor_12
theorem iX6_content_X6 : ∀ w ∈ wsX60, w ∈ wsX6_content := fun _ h => List.mem_cons_of_mem _ (List.mem_append_left _ (List.mem_append_left _ (List.mem_append_left _ (List.mem_append_right _ h))))
theorem iX6_content_X3 : ∀ w ∈ wsX30, w ∈ wsX6_content := fun _ h => List.mem_cons_of_mem _ (List.mem_append_left _ (List.mem_append_left _ (List.mem_append_right _ h)))
theorem iX6_content_X2 : ∀ w ∈ wsX20, w ∈ wsX6_content := fun _ h => List.mem_cons_of_mem _ (List.mem_append_left _ (List.mem_append_right _ h))
theorem iX6_content_X0 : ∀ w ∈ wsX00, w ∈ wsX6_content := fun _ h => List.mem_cons_of_mem _ (List.mem_append_right _ h)
set_option maxRecDepth 100000 in
set_option maxHeartbeats 4000000 in
theorem c_X6_content (l : Launch) (dC : Nat → ClassId) (dI : Nat → Nat → Nat) (dA : Nat → ClassId) (κ : Nat → Nat) (B : Nat) (g : Nat → Nat → Int) (h0 : Nat) (k0 : κ h0 = 1) (i : Int32) (type : Int32) (k : Int32) (hG : hg_k g) : Met l yX6_content wsX6_content ({ frames := 2, cells := 0, slots := 0, locals := 43 } : Room) (hp_Pre dC dI dA κ B g [Value.ref h0, Value.int i, Value.int type, Value.int k]) (hp_Qi dC dI dA κ B (fun r u => g = u ∧ (g 10 1 = 0 → r.toInt = -1))) 0 0 (hp_A B) := by
  refine Met.ofW (cc := cX6_content) (maxL := 5) (ret := (some .int)) (by decide) rfl ?_
  intro p e s m args below meth c s₁ Bd hml hv
  obtain ⟨rfl, hK, hN, hW, hF⟩ := hv
  have hx := Bd.exec
  have hb := Bd.bytes
  have hr := Bd.returns
  have hts := atoms_spec (ws := wsX6_content) Bd.pre
  have hown : s.vm.findClass RX6 = some m.cls := findClass_of_methodNamed Bd.named
  have hlocks := Bd.notSynchronized
  have hJ : hp_J dC dI dA κ B g s.heap s.heap [] := ⟨hF, va_S.rf⟩
  have hl := lv_entry ([Value.ref h0, Value.int i, Value.int type, Value.int k]) (n := 5) (Nat.le_of_ble_eq_true rfl)
  rw [lg_entry_eq]
  generalize (lg_sl ([Value.ref h0, Value.int i, Value.int type, Value.int k]) ++ List.replicate (5 - (lg_sl ([Value.ref h0, Value.int i, Value.int type, Value.int k])).length) Slot.unset).toArray = ls at hl ⊢
  have hl : lv_has ls 5 [(0, .ref h0), (1, .int i), (2, .int type), (3, .int k)] := hl
  obtain ⟨hG1, hG2, hG3, hG4, hG5, hG6, hG7, hG8⟩ := id hG
  refine lv_aload_n hx hb dX6_content_0 rfl (lv_at hl 0 rfl) ?_
  refine hp_getr (C := RX6) (T := TX6) (N := 12) (ci := 6) (kd := 1) hx hb hts iX6_content_X6 hown hK hJ k0 rfl rfl 4 (by decide) (hts (.fieldLink RX6 29 "NeighborBook" "known" "LNeighborBook$Neighbors;") (List.mem_of_getElem? (i := 1) rfl)) (fun _ h9 => h9) rfl dX6_content_1 (fun b1 kb1 => ?_)
  refine lv_iload_n hx hb dX6_content_4 rfl (lv_at hl 1 rfl) ?_
  refine hp_calli (va_runV (As := [.int i]) (rest := []) ⟨hx, hb, hml, hown, hts⟩ (c_X3_has l dC dI dA κ B g b1 kb1 i) (cwV 1 hts gX6_content_X3_has rfl rfl rfl (by decide +kernel) ⟨Nat.le_of_ble_eq_true rfl, Nat.le_of_ble_eq_true rfl⟩) (hp_preV (q := (RX3, TX3, 2)) [.int i] hK hN hW hJ kb1 rfl rfl) rfl rfl hl.1 rfl (lv_room (Nat.le_of_ble_eq_true rfl)) dX6_content_5 ⟨Nat.zero_le _, Nat.zero_le _⟩) hJ (fun x3 g2 H locs hp hJ => ?_)
  obtain ⟨rfl, f4⟩ := hp
  refine hq_if_ne (tgt := 13) hx hb dX6_content_8 (by decide) (fun c5 => ?_) (fun c5 => ?_)
  · refine lv_aload_n hx hb dX6_content_13 rfl (lv_at hl 0 rfl) ?_
    refine hp_getr (C := RX6) (T := TX6) (N := 12) (ci := 6) (kd := 1) hx hb hts iX6_content_X6 hown hK hJ k0 rfl rfl 4 (by decide) (hts (.fieldLink RX6 29 "NeighborBook" "known" "LNeighborBook$Neighbors;") (List.mem_of_getElem? (i := 1) rfl)) (fun _ h9 => h9) rfl dX6_content_14 (fun b6 kb6 => ?_)
    refine lv_iload_n hx hb dX6_content_17 rfl (lv_at hl 1 rfl) ?_
    refine hp_callr (va_runV (As := [.int i]) (rest := []) ⟨hx, hb, hml, hown, hts⟩ (c_X3_at l dC dI dA κ B g b6 kb6 i (by omega) (by omega)) (cwV 1 hts gX6_content_X3_at rfl rfl rfl (by decide +kernel) ⟨Nat.le_of_ble_eq_true rfl, Nat.le_of_ble_eq_true rfl⟩) (hp_preV (q := (RX3, TX3, 2)) [.int i] hK hN hW hJ kb6 rfl rfl) rfl rfl hl.1 rfl (lv_room (Nat.le_of_ble_eq_true rfl)) dX6_content_18 ⟨Nat.zero_le _, Nat.zero_le _⟩) hJ (fun b8 g7 H locs kb8 hp hJ => ?_)
    subst hp
    refine hp_callr (va_runV (As := []) (rest := []) ⟨hx, hb, hml, hown, hts⟩ (c_X2_contents l dC dI dA κ B g b8 kb8) (cwV 0 hts gX6_content_X2_contents rfl rfl rfl (by decide +kernel) ⟨Nat.le_of_ble_eq_true rfl, Nat.le_of_ble_eq_true rfl⟩) (hp_preV (q := (RX2, TX2, 4)) [] hK hN hW hJ kb8 rfl rfl) rfl rfl hl.1 rfl (lv_room (Nat.le_of_ble_eq_true rfl)) dX6_content_21 ⟨Nat.zero_le _, Nat.zero_le _⟩) hJ (fun b10 g9 H locs kb10 hp hJ => ?_)
    subst hp
    refine lv_astore (lv' := [(4, .ref b10), (0, .ref h0), (1, .int i), (2, .int type), (3, .int k)]) hx hb dX6_content_24 hl (by decide) rfl (fun ls hl => ?_)
    refine lv_iload_n hx hb dX6_content_26 rfl (lv_at hl 4 rfl) ?_
    refine hq_iconst hx hb dX6_content_27 (by decide) (by decide) (fun z11 ez11 => ?_)
    refine hq_icmp_ne (tgt := 40) hx hb dX6_content_28 (by decide) (fun c12 => ?_) (fun c12 => ?_)
    · refine lv_aload hx hb dX6_content_40 (lv_at hl 0 rfl) ?_
      refine lv_iload_n hx hb dX6_content_42 rfl (lv_at hl 3 rfl) ?_
      refine lv_iload_n hx hb dX6_content_43 rfl (lv_at hl 4 rfl) ?_
      refine hp_calli (va_runV (As := [.int type, .int k]) (rest := []) ⟨hx, hb, hml, hown, hts⟩ (c_X0_byteAt l dC dI dA κ B g b10 kb10 type k) (cwV 2 hts gX6_content_X0_byteAt rfl rfl rfl (by decide +kernel) ⟨Nat.le_of_ble_eq_true rfl, Nat.le_of_ble_eq_true rfl⟩) (hp_preV (q := (RX0, TX0, 2)) [.int type, .int k] hK hN hW hJ kb10 rfl rfl) rfl rfl hl.1 rfl (lv_room (Nat.le_of_ble_eq_true rfl)) dX6_content_44 ⟨Nat.zero_le _, Nat.zero_le _⟩) hJ (fun x14 g13 H locs hp hJ => ?_)
      subst hp
      exact hp_iret hx hb hK hN hW hlocks hJ hr ⟨rfl, by omega⟩ dX6_content_47
    · refine lv_aload hx hb dX6_content_31 (lv_at hl 0 rfl) ?_
      refine lv_iload_n hx hb dX6_content_33 rfl (lv_at hl 3 rfl) ?_
      refine hp_calli (va_runV (As := [.int type]) (rest := []) ⟨hx, hb, hml, hown, hts⟩ (c_X0_sizeOf l dC dI dA κ B g b10 kb10 type) (cwV 1 hts gX6_content_X0_sizeOf rfl rfl rfl (by decide +kernel) ⟨Nat.le_of_ble_eq_true rfl, Nat.le_of_ble_eq_true rfl⟩) (hp_preV (q := (RX0, TX0, 2)) [.int type] hK hN hW hJ kb10 rfl rfl) rfl rfl hl.1 rfl (lv_room (Nat.le_of_ble_eq_true rfl)) dX6_content_34 ⟨Nat.zero_le _, Nat.zero_le _⟩) hJ (fun x16 g15 H locs hp hJ => ?_)
      obtain ⟨rfl, f17⟩ := hp
      refine lv_goto (tgt := 47) hx hb dX6_content_37 (by decide) ?_
      exact hp_iret hx hb hK hN hW hlocks hJ hr ⟨rfl, by omega⟩ dX6_content_47
  · refine hq_iconst hx hb dX6_content_11 (by decide) (by decide) (fun z18 ez18 => ?_)
    exact hp_iret hx hb hK hN hW hlocks hJ hr ⟨rfl, by omega⟩ dX6_content_12
theorem iX6_check_X6 : ∀ w ∈ wsX60, w ∈ wsX6_check := fun _ h => List.mem_cons_of_mem _ (List.mem_append_left _ (List.mem_append_left _ (List.mem_append_left _ (List.mem_append_left _ (List.mem_append_right _ h)))))
theorem iX6_check_X3 : ∀ w ∈ wsX30, w ∈ wsX6_check := fun _ h => List.mem_cons_of_mem _ (List.mem_append_left _ (List.mem_append_left _ (List.mem_append_left _ (List.mem_append_right _ h))))
theorem iX6_check_X2 : ∀ w ∈ wsX20, w ∈ wsX6_check := fun _ h => List.mem_cons_of_mem _ (List.mem_append_left _ (List.mem_append_left _ (List.mem_append_right _ h)))
theorem iX6_check_X4 : ∀ w ∈ wsX40, w ∈ wsX6_check := fun _ h => List.mem_cons_of_mem _ (List.mem_append_left _ (List.mem_append_right _ h))
theorem iX6_check_X0 : ∀ w ∈ wsX00, w ∈ wsX6_check := fun _ h => List.mem_cons_of_mem _ (List.mem_append_right _ h)
set_option maxRecDepth 100000 in
set_option maxHeartbeats 4000000 in
theorem c_X6_check (l : Launch) (dC : Nat → ClassId) (dI : Nat → Nat → Nat) (dA : Nat → ClassId) (κ : Nat → Nat) (B : Nat) (g : Nat → Nat → Int) (h0 : Nat) (k0 : κ h0 = 1) (hG : hg_k g) : Met l yX6_check wsX6_check ({ frames := 4, cells := 0, slots := 0, locals := 91 } : Room) (hp_Pre dC dI dA κ B g [Value.ref h0]) (hp_Qi dC dI dA κ B (fun r u => g = u ∧ (g 10 1 = 0 → r.toInt = 1))) 0 0 (hp_A B) := by
  refine Met.ofW (cc := cX6_check) (maxL := 3) (ret := (some .int)) (by decide) rfl ?_
  intro p e s m args below meth c s₁ Bd hml hv
  obtain ⟨rfl, hK, hN, hW, hF⟩ := hv
  have hx := Bd.exec
  have hb := Bd.bytes
  have hr := Bd.returns
  have hts := atoms_spec (ws := wsX6_check) Bd.pre
  have hown : s.vm.findClass RX6 = some m.cls := findClass_of_methodNamed Bd.named
  have hlocks := Bd.notSynchronized
  have hJ : hp_J dC dI dA κ B g s.heap s.heap [] := ⟨hF, va_S.rf⟩
  have hl := lv_entry ([Value.ref h0]) (n := 3) (Nat.le_of_ble_eq_true rfl)
  rw [lg_entry_eq]
  generalize (lg_sl ([Value.ref h0]) ++ List.replicate (3 - (lg_sl ([Value.ref h0])).length) Slot.unset).toArray = ls at hl ⊢
  have hl : lv_has ls 3 [(0, .ref h0)] := hl
  obtain ⟨hG1, hG2, hG3, hG4, hG5, hG6, hG7, hG8⟩ := id hG
  refine hq_iconst hx hb dX6_check_0 (by decide) (by decide) (fun z1 ez1 => ?_)
  refine lv_istore_n (lv' := [(1, .int z1), (0, .ref h0)]) hx hb dX6_check_1 rfl hl (by decide) rfl (fun ls hl => ?_)
  have lp3 : ∀ (n : Nat) (v2 : Int32) (H : Heap) (locs : List Loc) (ls : Array Slot), (0 ≤ v2.toInt) → (v2.toInt ≤ 12) → (13 - v2.toInt < (n : Int)) → hp_J dC dI dA κ B g s.heap H locs → lv_has ls 3 [(0, .ref h0), (1, .int v2)] → W p l e (headSpec wsX6_check ({ frames := 4, cells := 0, slots := 0, locals := 91 } : Room)).room s m ([Value.ref h0] : List Value).toArray below meth c H locs 0 0 (MQ below (hp_Qi dC dI dA κ B (fun r u => g = u ∧ (g 10 1 = 0 → r.toInt = 1))) ([Value.ref h0] : List Value).toArray s 0 0 (hp_A B)) (F0 m 2 ls []) := by
    intro n
    induction n with
    | zero => intro v2 H locs ls iv5 iv6 hm4 hJ hl; exact absurd hm4 (by omega)
    | succ n ih =>
      intro v2 H locs ls iv5 iv6 hm4 hJ hl
      refine lv_iload_n hx hb dX6_check_2 rfl (lv_at hl 1 rfl) ?_
      refine lv_aload_n hx hb dX6_check_3 rfl (lv_at hl 0 rfl) ?_
      refine hp_getr (C := RX6) (T := TX6) (N := 12) (ci := 6) (kd := 1) hx hb hts iX6_check_X6 hown hK hJ k0 rfl rfl 4 (by decide) (hts (.fieldLink RX6 29 "NeighborBook" "known" "LNeighborBook$Neighbors;") (List.mem_of_getElem? (i := 1) rfl)) (fun _ h9 => h9) rfl dX6_check_4 (fun b7 kb7 => ?_)
      refine hp_calli (va_runV (As := []) (rest := [.int v2]) ⟨hx, hb, hml, hown, hts⟩ (c_X3_size l dC dI dA κ B g b7 kb7) (cwV 0 hts gX6_check_X3_size rfl rfl rfl (by decide +kernel) ⟨Nat.le_of_ble_eq_true rfl, Nat.le_of_ble_eq_true rfl⟩) (hp_preV (q := (RX3, TX3, 2)) [] hK hN hW hJ kb7 rfl rfl) rfl rfl hl.1 rfl (lv_room (Nat.le_of_ble_eq_true rfl)) dX6_check_7 ⟨Nat.zero_le _, Nat.zero_le _⟩) hJ (fun x9 g8 H locs hp hJ => ?_)
      obtain ⟨rfl, f10⟩ := hp
      refine hq_icmp_ge (tgt := 75) hx hb dX6_check_10 (by decide) (fun c11 => ?_) (fun c11 => ?_)
      · refine hq_iconst hx hb dX6_check_75 (by decide) (by decide) (fun z12 ez12 => ?_)
        exact hp_iret hx hb hK hN hW hlocks hJ hr ⟨rfl, by omega⟩ dX6_check_76
      · refine lv_aload_n hx hb dX6_check_13 rfl (lv_at hl 0 rfl) ?_
        refine hp_getr (C := RX6) (T := TX6) (N := 12) (ci := 6) (kd := 1) hx hb hts iX6_check_X6 hown hK hJ k0 rfl rfl 4 (by decide) (hts (.fieldLink RX6 29 "NeighborBook" "known" "LNeighborBook$Neighbors;") (List.mem_of_getElem? (i := 1) rfl)) (fun _ h9 => h9) rfl dX6_check_14 (fun b13 kb13 => ?_)
        refine lv_iload_n hx hb dX6_check_17 rfl (lv_at hl 1 rfl) ?_
        refine hp_callr (va_runV (As := [.int v2]) (rest := []) ⟨hx, hb, hml, hown, hts⟩ (c_X3_at l dC dI dA κ B g b13 kb13 v2 (by omega) (by omega)) (cwV 1 hts gX6_check_X3_at rfl rfl rfl (by decide +kernel) ⟨Nat.le_of_ble_eq_true rfl, Nat.le_of_ble_eq_true rfl⟩) (hp_preV (q := (RX3, TX3, 2)) [.int v2] hK hN hW hJ kb13 rfl rfl) rfl rfl hl.1 rfl (lv_room (Nat.le_of_ble_eq_true rfl)) dX6_check_18 ⟨Nat.zero_le _, Nat.zero_le _⟩) hJ (fun b15 g14 H locs kb15 hp hJ => ?_)
        subst hp
        refine hp_calli (va_runV (As := []) (rest := []) ⟨hx, hb, hml, hown, hts⟩ (c_X2_portOf l dC dI dA κ B g b15 kb15) (cwV 0 hts gX6_check_X2_portOf rfl rfl rfl (by decide +kernel) ⟨Nat.le_of_ble_eq_true rfl, Nat.le_of_ble_eq_true rfl⟩) (hp_preV (q := (RX2, TX2, 4)) [] hK hN hW hJ kb15 rfl rfl) rfl rfl hl.1 rfl (lv_room (Nat.le_of_ble_eq_true rfl)) dX6_check_21 ⟨Nat.zero_le _, Nat.zero_le _⟩) hJ (fun x17 g16 H locs hp hJ => ?_)
        subst hp
        refine lv_istore_n (lv' := [(2, .int x17), (0, .ref h0), (1, .int v2)]) hx hb dX6_check_24 rfl hl (by decide) rfl (fun ls hl => ?_)
        refine lv_iload_n hx hb dX6_check_25 rfl (lv_at hl 0 rfl) ?_
        refine hp_calli (va_runS (As := [.int x17]) (rest := []) ⟨hx, hb, hml, hown, hts⟩ (c_X6_isPort l dC dI dA κ B g x17) (va_cwS 1 hts gX6_check_X6_isPort rfl rfl rfl (by decide +kernel) ⟨Nat.le_of_ble_eq_true rfl, Nat.le_of_ble_eq_true rfl⟩) (hp_preS [.int x17] hK hN hW hJ) rfl rfl hl.1 rfl (lv_room (Nat.le_of_ble_eq_true rfl)) dX6_check_26 ⟨Nat.zero_le _, Nat.zero_le _⟩) hJ (fun x19 g18 H locs hp hJ => ?_)
        obtain ⟨rfl, f20⟩ := hp
        refine hq_if_eq (tgt := 67) hx hb dX6_check_29 (by decide) (fun c21 => ?_) (fun c21 => ?_)
        · refine hq_iconst hx hb dX6_check_67 (by decide) (by decide) (fun z22 ez22 => ?_)
          exact hp_iret hx hb hK hN hW hlocks hJ hr ⟨rfl, by omega⟩ dX6_check_68
        · refine lv_aload_n hx hb dX6_check_32 rfl (lv_at hl 1 rfl) ?_
          refine hp_getr (C := RX6) (T := TX6) (N := 12) (ci := 6) (kd := 1) hx hb hts iX6_check_X6 hown hK hJ k0 rfl rfl 3 (by decide) (hts (.fieldLink RX6 22 "NeighborBook" "ports" "[LNeighborBook$Port;") (List.mem_of_getElem? (i := 2) rfl)) (fun _ h9 => h9) rfl dX6_check_33 (fun b23 kb23 => ?_)
          refine lv_iload_n hx hb dX6_check_36 rfl (lv_at hl 0 rfl) ?_
          refine hp_aald3 (kd := 15) (n := 4) hx hb hK hJ kb23 rfl (by omega) (by omega) (hk_s15 (by omega)) dX6_check_37 (fun b24 kb24 => ?_)
          refine hp_calli (va_runV (As := []) (rest := []) ⟨hx, hb, hml, hown, hts⟩ (c_X4_isUp l dC dI dA κ B g (x17.toInt.toNat) (by omega : x17.toInt.toNat < 4) b24 kb24 hG) (cwV 0 hts gX6_check_X4_isUp rfl rfl rfl (by decide +kernel) ⟨Nat.le_of_ble_eq_true rfl, Nat.le_of_ble_eq_true rfl⟩) (hp_preV (q := (RX4, TX4, 6)) [] hK hN hW hJ kb24 (hk_t5 (by omega : x17.toInt.toNat < 4)) rfl) rfl rfl hl.1 rfl (lv_room (Nat.le_of_ble_eq_true rfl)) dX6_check_38 ⟨Nat.zero_le _, Nat.zero_le _⟩) hJ (fun x26 g25 H locs hp hJ => ?_)
          obtain ⟨rfl, f27⟩ := hp
          refine hq_if_eq (tgt := 67) hx hb dX6_check_41 (by decide) (fun c28 => ?_) (fun c28 => ?_)
          · refine hq_iconst hx hb dX6_check_67 (by decide) (by decide) (fun z29 ez29 => ?_)
            exact hp_iret hx hb hK hN hW hlocks hJ hr ⟨rfl, by omega⟩ dX6_check_68
          · refine lv_aload_n hx hb dX6_check_44 rfl (lv_at hl 1 rfl) ?_
            refine hp_getr (C := RX6) (T := TX6) (N := 12) (ci := 6) (kd := 1) hx hb hts iX6_check_X6 hown hK hJ k0 rfl rfl 4 (by decide) (hts (.fieldLink RX6 29 "NeighborBook" "known" "LNeighborBook$Neighbors;") (List.mem_of_getElem? (i := 1) rfl)) (fun _ h9 => h9) rfl dX6_check_45 (fun b30 kb30 => ?_)
            refine lv_iload_n hx hb dX6_check_48 rfl (lv_at hl 0 rfl) ?_
            refine lv_aload_n hx hb dX6_check_49 rfl (lv_at hl 1 rfl) ?_
            refine hp_getr (C := RX6) (T := TX6) (N := 12) (ci := 6) (kd := 1) hx hb hts iX6_check_X6 hown hK hJ k0 rfl rfl 4 (by decide) (hts (.fieldLink RX6 29 "NeighborBook" "known" "LNeighborBook$Neighbors;") (List.mem_of_getElem? (i := 1) rfl)) (fun _ h9 => h9) rfl dX6_check_50 (fun b31 kb31 => ?_)
            refine lv_iload_n hx hb dX6_check_53 rfl (lv_at hl 2 rfl) ?_
            refine hp_callr (va_runV (As := [.int v2]) (rest := [.int x17, .ref b30]) ⟨hx, hb, hml, hown, hts⟩ (c_X3_at l dC dI dA κ B g b31 kb31 v2 (by omega) (by omega)) (cwV 1 hts gX6_check_X3_at rfl rfl rfl (by decide +kernel) ⟨Nat.le_of_ble_eq_true rfl, Nat.le_of_ble_eq_true rfl⟩) (hp_preV (q := (RX3, TX3, 2)) [.int v2] hK hN hW hJ kb31 rfl rfl) rfl rfl hl.1 rfl (lv_room (Nat.le_of_ble_eq_true rfl)) dX6_check_54 ⟨Nat.zero_le _, Nat.zero_le _⟩) hJ (fun b33 g32 H locs kb33 hp hJ => ?_)
            subst hp
            refine hp_callr (va_runV (As := []) (rest := [.int x17, .ref b30]) ⟨hx, hb, hml, hown, hts⟩ (c_X2_contents l dC dI dA κ B g b33 kb33) (cwV 0 hts gX6_check_X2_contents rfl rfl rfl (by decide +kernel) ⟨Nat.le_of_ble_eq_true rfl, Nat.le_of_ble_eq_true rfl⟩) (hp_preV (q := (RX2, TX2, 4)) [] hK hN hW hJ kb33 rfl rfl) rfl rfl hl.1 rfl (lv_room (Nat.le_of_ble_eq_true rfl)) dX6_check_57 ⟨Nat.zero_le _, Nat.zero_le _⟩) hJ (fun b35 g34 H locs kb35 hp hJ => ?_)
            subst hp
            refine hp_calli (va_runV (As := [.int x17, .ref b35]) (rest := []) ⟨hx, hb, hml, hown, hts⟩ (c_X3_find l dC dI dA κ B g b30 kb30 x17 b35 kb35 hG) (cwV 2 hts gX6_check_X3_find rfl rfl rfl (by decide +kernel) ⟨Nat.le_of_ble_eq_true rfl, Nat.le_of_ble_eq_true rfl⟩) (hp_preV (q := (RX3, TX3, 2)) [.int x17, .ref b35] hK hN hW hJ kb30 rfl rfl) rfl rfl hl.1 rfl (lv_room (Nat.le_of_ble_eq_true rfl)) dX6_check_60 ⟨Nat.zero_le _, Nat.zero_le _⟩) hJ (fun x37 g36 H locs hp hJ => ?_)
            obtain ⟨rfl, f38⟩ := hp
            refine lv_iload_n hx hb dX6_check_63 rfl (lv_at hl 2 rfl) ?_
            refine hq_icmp_eq (tgt := 69) hx hb dX6_check_64 (by decide) (fun c39 => ?_) (fun c39 => ?_)
            · refine hq_iinc (k := 2) (lv' := fun (z9 : Int32) => [(1, .int z9), (2, .int x17), (0, .ref h0)]) hx hb dX6_check_69 hl rfl (by decide) (by decide) (by omega) (by omega) (by decide) (fun _ => rfl) (fun x40 ls ex40 hl => ?_)
              have hl : lv_has ls 3 [(1, .int x40), (2, .int x17), (0, .ref h0)] := hl
              refine lv_goto (tgt := 2) hx hb dX6_check_72 (by decide) ?_
              exact ih x40 _ _ ls (by omega) (by omega) (by omega) hJ (lv_sub hl [2, 0] rfl)
            · refine hq_iconst hx hb dX6_check_67 (by decide) (by decide) (fun z41 ez41 => ?_)
              exact hp_iret hx hb hK hN hW hlocks hJ hr ⟨rfl, by omega⟩ dX6_check_68
  exact lp3 ((13 - z1.toInt).toNat + 1) z1 _ _ ls (by omega) (by omega) (by omega) hJ (lv_sub hl [1, 0] rfl)
