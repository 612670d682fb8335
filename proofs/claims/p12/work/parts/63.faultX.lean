set_option maxRecDepth 100000 in
set_option maxHeartbeats 4000000 in
theorem e_X1_faultOfPartX (l : Launch) (dC : Nat → ClassId) (dI : Nat → Nat → Nat) (dA : Nat → ClassId) (κ : Nat → Nat) (B : Nat) (g : Nat → Nat → Int) (cq : Nat) (hcq : cq < 13) (h0 : Nat) (k0 : κ h0 = 3) (part : Int32) (type : Int32) (size : Int32) (rest : Int32) (hpt : part.toInt ≤ 1000000) (hpt0 : 0 ≤ part.toInt) (ht0 : 0 ≤ type.toInt) (hz0 : 0 ≤ size.toInt) (hcr : g 3 0 = 320 + (cq : Int)) : Met l yX1_faultOfPart wsX1_faultOfPart ({ frames := 2, cells := 0, slots := 0, locals := 42 } : Room) (he_Pre dC dI dA κ B g [Value.ref h0, Value.int part, Value.int type, Value.int size, Value.int rest]) (he_Qi dC dI dA κ B (fun r u => g = u ∧ 0 ≤ r.toInt ∧ r.toInt ≤ 4 ∧ (r.toInt = 0 ↔ hq_ok part.toInt.toNat type.toInt.toNat size.toInt.toNat rest.toInt (g (340 + cq) type.toInt.toNat)))) 0 0 (hp_A B) := by
  refine Met.ofW (cc := cX1_faultOfPart) (maxL := 5) (ret := (some .int)) (by decide) rfl ?_
  intro p e s m args below meth c s₁ Bd hml hv
  obtain ⟨rfl, hK, hN, hW, hF⟩ := hv
  have hx := Bd.exec
  have hb := Bd.bytes
  have hr := Bd.returns
  have hts := atoms_spec (ws := wsX1_faultOfPart) Bd.pre
  have hown : s.vm.findClass RX1 = some m.cls := findClass_of_methodNamed Bd.named
  have hlocks := Bd.notSynchronized
  have hJ : he_J dC dI dA κ B g s.heap s.heap [] := ⟨hF, va_S.rf⟩
  have hl := lv_entry ([Value.ref h0, Value.int part, Value.int type, Value.int size, Value.int rest]) (n := 5) (Nat.le_of_ble_eq_true rfl)
  rw [lg_entry_eq]
  generalize (lg_sl ([Value.ref h0, Value.int part, Value.int type, Value.int size, Value.int rest]) ++ List.replicate (5 - (lg_sl ([Value.ref h0, Value.int part, Value.int type, Value.int size, Value.int rest])).length) Slot.unset).toArray = ls at hl ⊢
  have hl : lv_has ls 5 [(0, .ref h0), (1, .int part), (2, .int type), (3, .int size), (4, .int rest)] := hl
  refine lv_iload_n hx hb dX1_faultOfPart_0 rfl (lv_at hl 1 rfl) ?_
  refine lv_iload_n hx hb dX1_faultOfPart_1 rfl (lv_at hl 2 rfl) ?_
  refine he_calli (va_runS (As := [.int part, .int type]) (rest := []) ⟨hx, hb, hml, hown, hts⟩ (e_X1_isOutOfOrder l dC dI dA κ B g part type (by omega) (by omega)) (va_cwS 2 hts gX1_faultOfPart_X1_isOutOfOrder rfl rfl rfl (by decide +kernel) ⟨Nat.le_of_ble_eq_true rfl, Nat.le_of_ble_eq_true rfl⟩) (he_preS [.int part, .int type] hK hN hW hJ) rfl rfl hl.1 rfl (lv_room (Nat.le_of_ble_eq_true rfl)) dX1_faultOfPart_2 ⟨Nat.zero_le _, Nat.zero_le _⟩) hJ (fun x2 g1 H locs hp hJ => ?_)
  obtain ⟨rfl, f3⟩ := hp
  refine hq_if_eq (tgt := 10) hx hb dX1_faultOfPart_5 (by decide) (fun c4 => ?_) (fun c4 => ?_)
  · refine lv_iload_n hx hb dX1_faultOfPart_10 rfl (lv_at hl 2 rfl) ?_
    refine lv_iload_n hx hb dX1_faultOfPart_11 rfl (lv_at hl 3 rfl) ?_
    refine he_calli (va_runS (As := [.int type, .int size]) (rest := []) ⟨hx, hb, hml, hown, hts⟩ (e_X1_isWrongSize l dC dI dA κ B g type size) (va_cwS 2 hts gX1_faultOfPart_X1_isWrongSize rfl rfl rfl (by decide +kernel) ⟨Nat.le_of_ble_eq_true rfl, Nat.le_of_ble_eq_true rfl⟩) (he_preS [.int type, .int size] hK hN hW hJ) rfl rfl hl.1 rfl (lv_room (Nat.le_of_ble_eq_true rfl)) dX1_faultOfPart_12 ⟨Nat.zero_le _, Nat.zero_le _⟩) hJ (fun x6 g5 H locs hp hJ => ?_)
    obtain ⟨rfl, f7⟩ := hp
    refine hq_if_eq (tgt := 20) hx hb dX1_faultOfPart_15 (by decide) (fun c8 => ?_) (fun c8 => ?_)
    · refine lv_iload_n hx hb dX1_faultOfPart_20 rfl (lv_at hl 3 rfl) ?_
      refine lv_iload hx hb dX1_faultOfPart_21 (lv_at hl 4 rfl) ?_
      refine hq_icmp_le (tgt := 28) hx hb dX1_faultOfPart_23 (by decide) (fun c9 => ?_) (fun c9 => ?_)
      · refine lv_iload_n hx hb dX1_faultOfPart_28 rfl (lv_at hl 2 rfl) ?_
        refine he_calli (va_runSN (As := [.int type]) (rest := []) ⟨hx, hb, hml, hown, hts⟩ (e_X6_isMore l dC dI dA κ B g type) ⟨va_cnB 1 hts gX1_faultOfPart_X6_isMore_n44 rfl rfl rfl (hN _ (List.mem_of_getElem? (i := 5) rfl)) (hts (.initialized RX6) (List.mem_of_getElem? (i := 10) rfl)) (by decide +kernel) ⟨Nat.le_of_ble_eq_true rfl, Nat.le_of_ble_eq_true rfl⟩, (hts (.static yX6_isMore) (List.mem_of_getElem? (i := 9) rfl)), trivial⟩ (he_preS [.int type] hK hN hW hJ) rfl rfl hl.1 rfl (lv_room (Nat.le_of_ble_eq_true rfl)) dX1_faultOfPart_29 ⟨Nat.zero_le _, Nat.zero_le _⟩) hJ (fun x11 g10 H locs hp hJ => ?_)
        obtain ⟨rfl, f12⟩ := hp
        refine hq_if_eq (tgt := 50) hx hb dX1_faultOfPart_32 (by decide) (fun c13 => ?_) (fun c13 => ?_)
        · refine hq_iconst hx hb dX1_faultOfPart_50 (by decide) (by decide) (fun z14 ez14 => ?_)
          exact he_iret hx hb hK hN hW hlocks hJ hr ⟨rfl, by omega, by omega, ⟨fun _ => ⟨by omega, by omega, by omega, by omega⟩, fun _ => by omega⟩⟩ dX1_faultOfPart_51
        · refine lv_aload_n hx hb dX1_faultOfPart_35 rfl (lv_at hl 0 rfl) ?_
          refine he_getc (C := RX1) (T := TX1) (N := 2) (ci := 1) (kd := 3) hx hb hts iX1_faultOfPart_X1 hown hK hJ k0 rfl rfl 0 (by decide) (hts (.fieldLink RX1 12 "NeighborBook$FrameReader" "contents" "LNeighborBook$Contents;") (List.mem_of_getElem? (i := 1) rfl)) (fun _ h9 => h9) rfl dX1_faultOfPart_36 (fun b15 c16 hc16 kb15 ec16 => ?_)
          have ec16 : g 3 0 = 320 + (c16 : Int) := ec16
          refine lv_iload_n hx hb dX1_faultOfPart_39 rfl (lv_at hl 2 rfl) ?_
          refine he_calli (va_runV (As := [.int type]) (rest := []) ⟨hx, hb, hml, hown, hts⟩ (e_X0_has l dC dI dA κ B g (c16) (by omega) b15 kb15 type) (cwV 1 hts gX1_faultOfPart_X0_has rfl rfl rfl (by decide +kernel) ⟨Nat.le_of_ble_eq_true rfl, Nat.le_of_ble_eq_true rfl⟩) (he_preV (q := (RX0, TX0, 2)) [.int type] hK hN hW hJ kb15 (hk_t320 (by omega)) rfl) rfl rfl hl.1 rfl (lv_room (Nat.le_of_ble_eq_true rfl)) dX1_faultOfPart_40 ⟨Nat.zero_le _, Nat.zero_le _⟩) hJ (fun x18 g17 H locs hp hJ => ?_)
          obtain ⟨rfl, f19⟩ := hp
          have hcc : c16 = cq := by omega
          have hhas := f19
          rw [hcc] at hhas
          refine hq_if_eq (tgt := 50) hx hb dX1_faultOfPart_43 (by decide) (fun c20 => ?_) (fun c20 => ?_)
          · refine hq_iconst hx hb dX1_faultOfPart_50 (by decide) (by decide) (fun z21 ez21 => ?_)
            exact he_iret hx hb hK hN hW hlocks hJ hr ⟨rfl, by omega, by omega, ⟨fun _ => ⟨by omega, by omega, by omega, by omega⟩, fun _ => by omega⟩⟩ dX1_faultOfPart_51
          · refine hq_iconst hx hb dX1_faultOfPart_46 (by decide) (by decide) (fun z22 ez22 => ?_)
            refine lv_goto (tgt := 51) hx hb dX1_faultOfPart_47 (by decide) ?_
            exact he_iret hx hb hK hN hW hlocks hJ hr ⟨rfl, by omega, by omega, ⟨fun h9 => absurd h9 (by omega), fun h9 => by
              exfalso
              unfold hq_ok at h9
              omega⟩⟩ dX1_faultOfPart_51
      · refine hq_iconst hx hb dX1_faultOfPart_26 (by decide) (by decide) (fun z23 ez23 => ?_)
        exact he_iret hx hb hK hN hW hlocks hJ hr ⟨rfl, by omega, by omega, ⟨fun h9 => absurd h9 (by omega), fun h9 => by
          exfalso
          unfold hq_ok at h9
          omega⟩⟩ dX1_faultOfPart_27
    · refine hq_iconst hx hb dX1_faultOfPart_18 (by decide) (by decide) (fun z24 ez24 => ?_)
      exact he_iret hx hb hK hN hW hlocks hJ hr ⟨rfl, by omega, by omega, ⟨fun h9 => absurd h9 (by omega), fun h9 => by
        exfalso
        unfold hq_ok at h9
        omega⟩⟩ dX1_faultOfPart_19
  · refine hq_iconst hx hb dX1_faultOfPart_8 (by decide) (by decide) (fun z25 ez25 => ?_)
    exact he_iret hx hb hK hN hW hlocks hJ hr ⟨rfl, by omega, by omega, ⟨fun h9 => absurd h9 (by omega), fun h9 => by
      exfalso
      unfold hq_ok at h9
      omega⟩⟩ dX1_faultOfPart_9
