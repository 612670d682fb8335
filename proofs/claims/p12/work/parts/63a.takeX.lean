set_option maxRecDepth 100000 in
set_option maxHeartbeats 4000000 in
theorem e_X1_takePartX (l : Launch) (dC : Nat → ClassId) (dI : Nat → Nat → Nat) (dA : Nat → ClassId) (κ : Nat → Nat) (B : Nat) (g : Nat → Nat → Int) (cq : Nat) (hcq : cq < 13) (h0 : Nat) (k0 : κ h0 = 3) (type : Int32) (frame : Nat) (kframe : κ frame = 12) (start : Int32) (size : Int32) (hst0 : 0 ≤ start.toInt) (hst : start.toInt + size.toInt ≤ 700) (hz0 : 0 ≤ size.toInt) (ht1 : 1 ≤ type.toInt) (hzk : (type.toInt = 1 ∨ type.toInt = 2 ∨ (4 ≤ type.toInt ∧ type.toInt ≤ 8)) → size.toInt ≤ 60) (hz3 : type.toInt = 3 → 2 ≤ size.toInt) (hcr : g 3 0 = 320 + (cq : Int)) : Met l yX1_takePart wsX1_takePart ({ frames := 3, cells := 0, slots := 0, locals := 64 } : Room) (he_Pre dC dI dA κ B g [Value.ref h0, Value.int type, Value.ref frame, Value.int start, Value.int size]) (he_Qv dC dI dA κ B (fun u => hg_Q (fun a b => ((a = 3 ∧ b = 1) ∨ a = 340 + cq ∨ a = 360 + cq)) g u ∧ (type.toInt = 3 → hc_con u cq = hc_con g cq ∧ u 3 1 = hq_h (g 12) start.toInt.toNat) ∧ ((type.toInt = 1 ∨ type.toInt = 2 ∨ (4 ≤ type.toInt ∧ type.toInt ≤ 8)) → hc_con u cq = hc_kp (hc_con g cq) type.toInt.toNat size.toInt.toNat (fun k => g 12 (start.toInt.toNat + k)) ∧ u 3 1 = g 3 1) ∧ (9 ≤ type.toInt → hc_con u cq = hc_con g cq ∧ u 3 1 = g 3 1))) 0 0 (hp_A B) := by
  refine Met.ofW (cc := cX1_takePart) (maxL := 5) (ret := none) (by decide) rfl ?_
  intro p e s m args below meth c s₁ Bd hml hv
  obtain ⟨rfl, hK, hN, hW, hF⟩ := hv
  have hx := Bd.exec
  have hb := Bd.bytes
  have hr := Bd.returns
  have hts := atoms_spec (ws := wsX1_takePart) Bd.pre
  have hown : s.vm.findClass RX1 = some m.cls := findClass_of_methodNamed Bd.named
  have hlocks := Bd.notSynchronized
  have hJ : he_J dC dI dA κ B g s.heap s.heap [] := ⟨hF, va_S.rf⟩
  have hl := lv_entry ([Value.ref h0, Value.int type, Value.ref frame, Value.int start, Value.int size]) (n := 5) (Nat.le_of_ble_eq_true rfl)
  rw [lg_entry_eq]
  generalize (lg_sl ([Value.ref h0, Value.int type, Value.ref frame, Value.int start, Value.int size]) ++ List.replicate (5 - (lg_sl ([Value.ref h0, Value.int type, Value.ref frame, Value.int start, Value.int size])).length) Slot.unset).toArray = ls at hl ⊢
  have hl : lv_has ls 5 [(0, .ref h0), (1, .int type), (2, .ref frame), (3, .int start), (4, .int size)] := hl
  have hJ0 := hJ
  refine lv_iload_n hx hb dX1_takePart_0 rfl (lv_at hl 1 rfl) ?_
  refine hq_iconst hx hb dX1_takePart_1 (by decide) (by decide) (fun z1 ez1 => ?_)
  refine hq_icmp_ne (tgt := 17) hx hb dX1_takePart_2 (by decide) (fun c2 => ?_) (fun c2 => ?_)
  · refine lv_aload_n hx hb dX1_takePart_17 rfl (lv_at hl 0 rfl) ?_
    refine he_getc (C := RX1) (T := TX1) (N := 2) (ci := 1) (kd := 3) hx hb hts iX1_takePart_X1 hown hK hJ k0 rfl rfl 0 (by decide) (hts (.fieldLink RX1 12 "NeighborBook$FrameReader" "contents" "LNeighborBook$Contents;") (List.mem_of_getElem? (i := 2) rfl)) (fun _ h9 => h9) rfl dX1_takePart_18 (fun b3 c4 hc4 kb3 ec4 => ?_)
    have ec4 : g 3 0 = 320 + (c4 : Int) := ec4
    refine lv_iload_n hx hb dX1_takePart_21 rfl (lv_at hl 1 rfl) ?_
    refine lv_aload_n hx hb dX1_takePart_22 rfl (lv_at hl 2 rfl) ?_
    refine lv_iload_n hx hb dX1_takePart_23 rfl (lv_at hl 3 rfl) ?_
    refine lv_iload hx hb dX1_takePart_24 (lv_at hl 4 rfl) ?_
    refine he_callv (va_runV (As := [.int type, .ref frame, .int start, .int size]) (rest := []) ⟨hx, hb, hml, hown, hts⟩ (e_X0_keep l dC dI dA κ B g (c4) (by omega) b3 kb3 type frame kframe start size) (cwV 4 hts gX1_takePart_X0_keep rfl rfl rfl (by decide +kernel) ⟨Nat.le_of_ble_eq_true rfl, Nat.le_of_ble_eq_true rfl⟩) (he_preV (q := (RX0, TX0, 2)) [.int type, .ref frame, .int start, .int size] hK hN hW hJ kb3 (hk_t320 (by omega)) rfl) rfl rfl hl.1 rfl (lv_room (Nat.le_of_ble_eq_true rfl)) dX1_takePart_26 ⟨Nat.zero_le _, Nat.zero_le _⟩) hJ (fun g5 H locs hp hJ => ?_)
    obtain ⟨P7a, f6⟩ := hp
    have P7 : hg_Q (fun a b => ((a = 3 ∧ b = 1) ∨ a = 340 + cq ∨ a = 360 + cq)) g g5 := (hg_Q.le P7a (fun a b h9 => by have h9 : (a = 340 + c4 ∧ b = type.toInt.toNat) ∨ a = 360 + c4 := h9; show ((a = 3 ∧ b = 1) ∨ a = 340 + cq ∨ a = 360 + cq); omega))
    have qt8 : g5 3 0 = g 3 0 := P7a 3 0 (show ¬ ((3 = 340 + c4 ∧ 0 = type.toInt.toNat) ∨ 3 = 360 + c4) from by omega)
    have qt9 : g5 3 1 = g 3 1 := P7a 3 1 (show ¬ ((3 = 340 + c4 ∧ 1 = type.toInt.toNat) ∨ 3 = 360 + c4) from by omega)
    have hcc : c4 = cq := by omega
    have hkp := f6
    rw [hcc] at hkp
    have hsz := he_csz hJ0 kb3 (by omega)
    rw [hcc] at hsz
    have hku : ¬ (type.toInt = 1 ∨ type.toInt = 2 ∨ (4 ≤ type.toInt ∧ type.toInt ≤ 8)) → g5 = g := fun h9 => by
      rcases hkp with h8 | h8
      · exact absurd h8.1.1 h9
      · exact h8.2.symm
    have hkk : (type.toInt = 1 ∨ type.toInt = 2 ∨ (4 ≤ type.toInt ∧ type.toInt ≤ 8)) → hc_con g5 cq = hc_kp (hc_con g cq) type.toInt.toNat size.toInt.toNat (fun k => g 12 (start.toInt.toNat + k)) := fun h9 => by
      rcases hkp with h8 | h8
      · exact hc_kp_c (by omega) (by omega) (by omega) (by rw [h8.2.1]; omega) (fun x hx => P7a _ _ (fun h7 => by have h7 : (340 + cq = 340 + c4 ∧ x = type.toInt.toNat) ∨ 340 + cq = 360 + c4 := h7; omega)) (fun k hk => h8.2.2.1 k (by omega)) (fun b hb => h8.2.2.2 b hb) (fun x hx => (hsz x hx).2)
      · exact absurd h8.1 (fun h7 => h7 ⟨h9, by omega, by omega, by omega, by omega⟩)
    exact he_vret hx hb hK hN hW hlocks hJ hr ⟨P7, fun h9 => absurd h9 (by omega), fun h9 => ⟨hkk h9, by omega⟩, fun h9 => ⟨by rw [hku (by omega)], by omega⟩⟩ dX1_takePart_29
  · refine lv_aload_n hx hb dX1_takePart_5 rfl (lv_at hl 0 rfl) ?_
    refine lv_aload_n hx hb dX1_takePart_6 rfl (lv_at hl 2 rfl) ?_
    refine lv_iload_n hx hb dX1_takePart_7 rfl (lv_at hl 3 rfl) ?_
    refine he_calli (va_runS (As := [.ref frame, .int start]) (rest := [.ref h0]) ⟨hx, hb, hml, hown, hts⟩ (e_X1_pairAt l dC dI dA κ B g frame kframe start (by omega)) (va_cwS 2 hts gX1_takePart_X1_pairAt rfl rfl rfl (by decide +kernel) ⟨Nat.le_of_ble_eq_true rfl, Nat.le_of_ble_eq_true rfl⟩) (he_preS [.ref frame, .int start] hK hN hW hJ) rfl rfl hl.1 rfl (lv_room (Nat.le_of_ble_eq_true rfl)) dX1_takePart_8 ⟨Nat.zero_le _, Nat.zero_le _⟩) hJ (fun x11 g10 H locs hp hJ => ?_)
    obtain ⟨rfl, f12⟩ := hp
    refine he_putx (C := RX1) (T := TX1) (N := 2) (ci := 1) (kd := 3) hx hb hts iX1_takePart_X1 hown hK hJ k0 rfl rfl 1 (by decide) (hts (.fieldLink RX1 18 "NeighborBook$FrameReader" "held" "I") (List.mem_of_getElem? (i := 1) rfl)) (fun _ h9 => h9) tyX1 tyX1_ok nmX1 (x := x11) rfl rfl (by decide) hW rfl rfl rfl rfl (show x11.toInt = x11.toInt ∧ 0 ≤ x11.toInt ∧ x11.toInt ≤ 65535 from ⟨rfl, by omega, by omega⟩) dX1_takePart_11 (fun g13 H locs eg13 ng13 hJ => ?_)
    have eg13 : g13 3 1 = x11.toInt := eg13
    have P14 : hg_Q (fun a b => ((a = 3 ∧ b = 1) ∨ a = 340 + cq ∨ a = 360 + cq)) g g13 := hg_Q.put hg_Q.rf ng13 (show ((3 = 3 ∧ 1 = 1) ∨ 3 = 340 + cq ∨ 3 = 360 + cq) from by omega)
    have qt15 : g13 3 0 = g 3 0 := ng13 3 0 (by omega)
    refine lv_goto (tgt := 29) hx hb dX1_takePart_14 (by decide) ?_
    exact he_vret hx hb hK hN hW hlocks hJ hr ⟨P14, fun _ => ⟨hc_con_eq (fun t => ng13 _ t (by omega)) (fun k => ng13 _ k (by omega)), by rw [eg13]; unfold hq_h; omega⟩, fun h9 => absurd h9 (by omega), fun h9 => absurd h9 (by omega)⟩ dX1_takePart_29
